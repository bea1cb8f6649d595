/-! images in step -/
theorem nar_id {x : Int32} (h : -128 ≤ x.toInt ∧ x.toInt ≤ 127) : vp_nar .byte x = x := by
  rw [vp_nar_byte]
  apply Int32.toInt_inj.mp
  rw [Int8.toInt_toInt32, Int32.toInt_toInt8]
  exact Int.bmod_eq_of_le (by omega) (by omega)
theorem cr_size_sp {a b : Int32} {mf u : Nat → Int32} (ha : 0 ≤ a.toInt ∧ a.toInt ≤ 3) (hb : 0 ≤ b.toInt ∧ b.toInt ≤ 3) (hab : a.toInt ≠ b.toInt) (h : R_j_cr_size b a mf u) : (∀ j : Nat, j < 1 → u (1 * b.toInt.toNat + j) = mf (1 * a.toInt.toNat + j)) ∧ (∀ j : Nat, (j < 1 * b.toInt.toNat ∨ 1 * b.toInt.toNat + 1 ≤ j) → u j = mf j) := by
  have key : ∀ (N : Nat) (l : Int32) (q : Nat → Int32), fx (T_j_cr_size_3 b a u) N (l, q) → 0 ≤ l.toInt → l.toInt ≤ 1 → (∀ j : Nat, (j : Int) < l.toInt → q (1 * b.toInt.toNat + j) = mf (1 * a.toInt.toNat + j)) → (∀ j : Nat, (j < 1 * b.toInt.toNat ∨ 1 * b.toInt.toNat + 1 ≤ j) → q j = mf j) → (∀ j : Nat, j < 1 → u (1 * b.toInt.toNat + j) = mf (1 * a.toInt.toNat + j)) ∧ (∀ j : Nat, (j < 1 * b.toInt.toNat ∨ 1 * b.toInt.toNat + 1 ≤ j) → u j = mf j) := by
    intro N
    induction N with
    | zero => intro l q h; exact h.elim
    | succ N ih =>
      intro l q h h0 h1 hA hB
      have h := fx_o h
      dsimp only [T_j_cr_size_3] at h
      rcases h with ⟨c, e⟩ | ⟨c, b0, e0, b1, e1, b2, e2, b3, e3, b4, e4, b5, e5, b6, e6, h⟩
      · rw [e]; exact ⟨fun j hj => hA j (by omega), hB⟩
      · have g0 : b0.toInt = 1 * b.toInt := by rw [e0]; exact mi_cmul (by decide) (by omega) (by omega)
        have g1 : b1.toInt = 1 * b.toInt + l.toInt := by rw [e1, mi_add (by omega) (by omega), g0]
        have g2 : b2.toInt = 1 * a.toInt := by rw [e2]; exact mi_cmul (by decide) (by omega) (by omega)
        have g3 : b3.toInt = 1 * a.toInt + l.toInt := by rw [e3, mi_add (by omega) (by omega), g2]
        have g6 : b6.toInt = l.toInt + 1 := by rw [e6]; exact mi_addc (by decide) (by omega) (by omega)
        have i1 : Int32.toNatClampNeg b1 = 1 * b.toInt.toNat + l.toInt.toNat := by rw [mi_cl, g1]; omega
        have i3 : Int32.toNatClampNeg b3 = 1 * a.toInt.toNat + l.toInt.toNat := by rw [mi_cl, g3]; omega
        have hv : b4 = mf (1 * a.toInt.toNat + l.toInt.toNat) := by rw [e4, i3]; exact hB _ (by omega)
        refine ih b6 b5 h (by omega) (by omega) (fun j hj => ?_) (fun j hj => ?_)
        · rw [← e5, i1]
          by_cases hk : j = l.toInt.toNat
          · rw [hk, up_eq, hv]
          · rw [up_ne (by omega)]; exact hA j (by omega)
        · rw [← e5, i1, up_ne (by omega)]; exact hB j hj
  have z0 : (0 : Int32).toInt = 0 := by decide
  exact key _ _ _ h (by decide) (by decide) (fun j hj => by rw [z0] at hj; omega) (fun _ _ => rfl)
theorem cr_one_sp {a b : Int32} {mf u : Nat → Int32} (ha : 0 ≤ a.toInt ∧ a.toInt ≤ 3) (hb : 0 ≤ b.toInt ∧ b.toInt ≤ 3) (hab : a.toInt ≠ b.toInt) (h : R_j_cr_one b a mf u) : (∀ j : Nat, j < 1 → u (1 * b.toInt.toNat + j) = mf (1 * a.toInt.toNat + j)) ∧ (∀ j : Nat, (j < 1 * b.toInt.toNat ∨ 1 * b.toInt.toNat + 1 ≤ j) → u j = mf j) := by
  have key : ∀ (N : Nat) (l : Int32) (q : Nat → Int32), fx (T_j_cr_one_3 b a u) N (l, q) → 0 ≤ l.toInt → l.toInt ≤ 1 → (∀ j : Nat, (j : Int) < l.toInt → q (1 * b.toInt.toNat + j) = mf (1 * a.toInt.toNat + j)) → (∀ j : Nat, (j < 1 * b.toInt.toNat ∨ 1 * b.toInt.toNat + 1 ≤ j) → q j = mf j) → (∀ j : Nat, j < 1 → u (1 * b.toInt.toNat + j) = mf (1 * a.toInt.toNat + j)) ∧ (∀ j : Nat, (j < 1 * b.toInt.toNat ∨ 1 * b.toInt.toNat + 1 ≤ j) → u j = mf j) := by
    intro N
    induction N with
    | zero => intro l q h; exact h.elim
    | succ N ih =>
      intro l q h h0 h1 hA hB
      have h := fx_o h
      dsimp only [T_j_cr_one_3] at h
      rcases h with ⟨c, e⟩ | ⟨c, b0, e0, b1, e1, b2, e2, b3, e3, b4, e4, b5, e5, b6, e6, h⟩
      · rw [e]; exact ⟨fun j hj => hA j (by omega), hB⟩
      · have g0 : b0.toInt = 1 * b.toInt := by rw [e0]; exact mi_cmul (by decide) (by omega) (by omega)
        have g1 : b1.toInt = 1 * b.toInt + l.toInt := by rw [e1, mi_add (by omega) (by omega), g0]
        have g2 : b2.toInt = 1 * a.toInt := by rw [e2]; exact mi_cmul (by decide) (by omega) (by omega)
        have g3 : b3.toInt = 1 * a.toInt + l.toInt := by rw [e3, mi_add (by omega) (by omega), g2]
        have g6 : b6.toInt = l.toInt + 1 := by rw [e6]; exact mi_addc (by decide) (by omega) (by omega)
        have i1 : Int32.toNatClampNeg b1 = 1 * b.toInt.toNat + l.toInt.toNat := by rw [mi_cl, g1]; omega
        have i3 : Int32.toNatClampNeg b3 = 1 * a.toInt.toNat + l.toInt.toNat := by rw [mi_cl, g3]; omega
        have hv : b4 = mf (1 * a.toInt.toNat + l.toInt.toNat) := by rw [e4, i3]; exact hB _ (by omega)
        refine ih b6 b5 h (by omega) (by omega) (fun j hj => ?_) (fun j hj => ?_)
        · rw [← e5, i1]
          by_cases hk : j = l.toInt.toNat
          · rw [hk, up_eq, hv]
          · rw [up_ne (by omega)]; exact hA j (by omega)
        · rw [← e5, i1, up_ne (by omega)]; exact hB j hj
  have z0 : (0 : Int32).toInt = 0 := by decide
  exact key _ _ _ h (by decide) (by decide) (fun j hj => by rw [z0] at hj; omega) (fun _ _ => rfl)
theorem cr_many_sp {a b : Int32} {mf u : Nat → Int32} (ha : 0 ≤ a.toInt ∧ a.toInt ≤ 3) (hb : 0 ≤ b.toInt ∧ b.toInt ≤ 3) (hab : a.toInt ≠ b.toInt) (h : R_j_cr_many b a mf u) : (∀ j : Nat, j < 3 → u (3 * b.toInt.toNat + j) = mf (3 * a.toInt.toNat + j)) ∧ (∀ j : Nat, (j < 3 * b.toInt.toNat ∨ 3 * b.toInt.toNat + 3 ≤ j) → u j = mf j) := by
  have key : ∀ (N : Nat) (l : Int32) (q : Nat → Int32), fx (T_j_cr_many_3 b a u) N (l, q) → 0 ≤ l.toInt → l.toInt ≤ 3 → (∀ j : Nat, (j : Int) < l.toInt → q (3 * b.toInt.toNat + j) = mf (3 * a.toInt.toNat + j)) → (∀ j : Nat, (j < 3 * b.toInt.toNat ∨ 3 * b.toInt.toNat + 3 ≤ j) → q j = mf j) → (∀ j : Nat, j < 3 → u (3 * b.toInt.toNat + j) = mf (3 * a.toInt.toNat + j)) ∧ (∀ j : Nat, (j < 3 * b.toInt.toNat ∨ 3 * b.toInt.toNat + 3 ≤ j) → u j = mf j) := by
    intro N
    induction N with
    | zero => intro l q h; exact h.elim
    | succ N ih =>
      intro l q h h0 h1 hA hB
      have h := fx_o h
      dsimp only [T_j_cr_many_3] at h
      rcases h with ⟨c, e⟩ | ⟨c, b0, e0, b1, e1, b2, e2, b3, e3, b4, e4, b5, e5, b6, e6, h⟩
      · rw [e]; exact ⟨fun j hj => hA j (by omega), hB⟩
      · have g0 : b0.toInt = 3 * b.toInt := by rw [e0]; exact mi_cmul (by decide) (by omega) (by omega)
        have g1 : b1.toInt = 3 * b.toInt + l.toInt := by rw [e1, mi_add (by omega) (by omega), g0]
        have g2 : b2.toInt = 3 * a.toInt := by rw [e2]; exact mi_cmul (by decide) (by omega) (by omega)
        have g3 : b3.toInt = 3 * a.toInt + l.toInt := by rw [e3, mi_add (by omega) (by omega), g2]
        have g6 : b6.toInt = l.toInt + 1 := by rw [e6]; exact mi_addc (by decide) (by omega) (by omega)
        have i1 : Int32.toNatClampNeg b1 = 3 * b.toInt.toNat + l.toInt.toNat := by rw [mi_cl, g1]; omega
        have i3 : Int32.toNatClampNeg b3 = 3 * a.toInt.toNat + l.toInt.toNat := by rw [mi_cl, g3]; omega
        have hv : b4 = mf (3 * a.toInt.toNat + l.toInt.toNat) := by rw [e4, i3]; exact hB _ (by omega)
        refine ih b6 b5 h (by omega) (by omega) (fun j hj => ?_) (fun j hj => ?_)
        · rw [← e5, i1]
          by_cases hk : j = l.toInt.toNat
          · rw [hk, up_eq, hv]
          · rw [up_ne (by omega)]; exact hA j (by omega)
        · rw [← e5, i1, up_ne (by omega)]; exact hB j hj
  have z0 : (0 : Int32).toInt = 0 := by decide
  exact key _ _ _ h (by decide) (by decide) (fun j hj => by rw [z0] at hj; omega) (fun _ _ => rfl)
theorem cr_th_sp {a b : Int32} {mf u : Nat → Int32} (ha : 0 ≤ a.toInt ∧ a.toInt ≤ 3) (hb : 0 ≤ b.toInt ∧ b.toInt ≤ 3) (hab : a.toInt ≠ b.toInt) (h : R_j_cr_th b a mf u) : (∀ j : Nat, j < 72 → u (72 * b.toInt.toNat + j) = mf (72 * a.toInt.toNat + j)) ∧ (∀ j : Nat, (j < 72 * b.toInt.toNat ∨ 72 * b.toInt.toNat + 72 ≤ j) → u j = mf j) := by
  have key : ∀ (N : Nat) (l : Int32) (q : Nat → Int32), fx (T_j_cr_th_3 b a u) N (l, q) → 0 ≤ l.toInt → l.toInt ≤ 72 → (∀ j : Nat, (j : Int) < l.toInt → q (72 * b.toInt.toNat + j) = mf (72 * a.toInt.toNat + j)) → (∀ j : Nat, (j < 72 * b.toInt.toNat ∨ 72 * b.toInt.toNat + 72 ≤ j) → q j = mf j) → (∀ j : Nat, j < 72 → u (72 * b.toInt.toNat + j) = mf (72 * a.toInt.toNat + j)) ∧ (∀ j : Nat, (j < 72 * b.toInt.toNat ∨ 72 * b.toInt.toNat + 72 ≤ j) → u j = mf j) := by
    intro N
    induction N with
    | zero => intro l q h; exact h.elim
    | succ N ih =>
      intro l q h h0 h1 hA hB
      have h := fx_o h
      dsimp only [T_j_cr_th_3] at h
      rcases h with ⟨c, e⟩ | ⟨c, b0, e0, b1, e1, b2, e2, b3, e3, b4, e4, b5, e5, b6, e6, h⟩
      · rw [e]; exact ⟨fun j hj => hA j (by omega), hB⟩
      · have g0 : b0.toInt = 72 * b.toInt := by rw [e0]; exact mi_cmul (by decide) (by omega) (by omega)
        have g1 : b1.toInt = 72 * b.toInt + l.toInt := by rw [e1, mi_add (by omega) (by omega), g0]
        have g2 : b2.toInt = 72 * a.toInt := by rw [e2]; exact mi_cmul (by decide) (by omega) (by omega)
        have g3 : b3.toInt = 72 * a.toInt + l.toInt := by rw [e3, mi_add (by omega) (by omega), g2]
        have g6 : b6.toInt = l.toInt + 1 := by rw [e6]; exact mi_addc (by decide) (by omega) (by omega)
        have i1 : Int32.toNatClampNeg b1 = 72 * b.toInt.toNat + l.toInt.toNat := by rw [mi_cl, g1]; omega
        have i3 : Int32.toNatClampNeg b3 = 72 * a.toInt.toNat + l.toInt.toNat := by rw [mi_cl, g3]; omega
        have hv : b4 = mf (72 * a.toInt.toNat + l.toInt.toNat) := by rw [e4, i3]; exact hB _ (by omega)
        refine ih b6 b5 h (by omega) (by omega) (fun j hj => ?_) (fun j hj => ?_)
        · rw [← e5, i1]
          by_cases hk : j = l.toInt.toNat
          · rw [hk, up_eq, hv]
          · rw [up_ne (by omega)]; exact hA j (by omega)
        · rw [← e5, i1, up_ne (by omega)]; exact hB j hj
  have z0 : (0 : Int32).toInt = 0 := by decide
  exact key _ _ _ h (by decide) (by decide) (fun j hj => by rw [z0] at hj; omega) (fun _ _ => rfl)
theorem cr_bk_sp {a b : Int32} {mf u : Nat → Int32} (ha : 0 ≤ a.toInt ∧ a.toInt ≤ 3) (hb : 0 ≤ b.toInt ∧ b.toInt ≤ 3) (hab : a.toInt ≠ b.toInt) (h : R_j_cr_bk b a mf u) : (∀ j : Nat, j < 242 → u (242 * b.toInt.toNat + j) = mf (242 * a.toInt.toNat + j)) ∧ (∀ j : Nat, (j < 242 * b.toInt.toNat ∨ 242 * b.toInt.toNat + 242 ≤ j) → u j = mf j) := by
  have key : ∀ (N : Nat) (l : Int32) (q : Nat → Int32), fx (T_j_cr_bk_3 b a u) N (l, q) → 0 ≤ l.toInt → l.toInt ≤ 242 → (∀ j : Nat, (j : Int) < l.toInt → q (242 * b.toInt.toNat + j) = mf (242 * a.toInt.toNat + j)) → (∀ j : Nat, (j < 242 * b.toInt.toNat ∨ 242 * b.toInt.toNat + 242 ≤ j) → q j = mf j) → (∀ j : Nat, j < 242 → u (242 * b.toInt.toNat + j) = mf (242 * a.toInt.toNat + j)) ∧ (∀ j : Nat, (j < 242 * b.toInt.toNat ∨ 242 * b.toInt.toNat + 242 ≤ j) → u j = mf j) := by
    intro N
    induction N with
    | zero => intro l q h; exact h.elim
    | succ N ih =>
      intro l q h h0 h1 hA hB
      have h := fx_o h
      dsimp only [T_j_cr_bk_3] at h
      rcases h with ⟨c, e⟩ | ⟨c, b0, e0, b1, e1, b2, e2, b3, e3, b4, e4, b5, e5, b6, e6, h⟩
      · rw [e]; exact ⟨fun j hj => hA j (by omega), hB⟩
      · have g0 : b0.toInt = 242 * b.toInt := by rw [e0]; exact mi_cmul (by decide) (by omega) (by omega)
        have g1 : b1.toInt = 242 * b.toInt + l.toInt := by rw [e1, mi_add (by omega) (by omega), g0]
        have g2 : b2.toInt = 242 * a.toInt := by rw [e2]; exact mi_cmul (by decide) (by omega) (by omega)
        have g3 : b3.toInt = 242 * a.toInt + l.toInt := by rw [e3, mi_add (by omega) (by omega), g2]
        have g6 : b6.toInt = l.toInt + 1 := by rw [e6]; exact mi_addc (by decide) (by omega) (by omega)
        have i1 : Int32.toNatClampNeg b1 = 242 * b.toInt.toNat + l.toInt.toNat := by rw [mi_cl, g1]; omega
        have i3 : Int32.toNatClampNeg b3 = 242 * a.toInt.toNat + l.toInt.toNat := by rw [mi_cl, g3]; omega
        have hv : b4 = mf (242 * a.toInt.toNat + l.toInt.toNat) := by rw [e4, i3]; exact hB _ (by omega)
        refine ih b6 b5 h (by omega) (by omega) (fun j hj => ?_) (fun j hj => ?_)
        · rw [← e5, i1]
          by_cases hk : j = l.toInt.toNat
          · rw [hk, up_eq, hv]
          · rw [up_ne (by omega)]; exact hA j (by omega)
        · rw [← e5, i1, up_ne (by omega)]; exact hB j hj
  have z0 : (0 : Int32).toInt = 0 := by decide
  exact key _ _ _ h (by decide) (by decide) (fun j hj => by rw [z0] at hj; omega) (fun _ _ => rfl)
theorem cr_dk_sp {a b : Int32} {mf u : Nat → Int32} (ha : 0 ≤ a.toInt ∧ a.toInt ≤ 3) (hb : 0 ≤ b.toInt ∧ b.toInt ≤ 3) (hab : a.toInt ≠ b.toInt) (h : R_j_cr_dk b a mf u) : (∀ j : Nat, j < 14 → u (14 * b.toInt.toNat + j) = mf (14 * a.toInt.toNat + j)) ∧ (∀ j : Nat, (j < 14 * b.toInt.toNat ∨ 14 * b.toInt.toNat + 14 ≤ j) → u j = mf j) := by
  have key : ∀ (N : Nat) (l : Int32) (q : Nat → Int32), fx (T_j_cr_dk_3 b a u) N (l, q) → 0 ≤ l.toInt → l.toInt ≤ 14 → (∀ j : Nat, (j : Int) < l.toInt → q (14 * b.toInt.toNat + j) = mf (14 * a.toInt.toNat + j)) → (∀ j : Nat, (j < 14 * b.toInt.toNat ∨ 14 * b.toInt.toNat + 14 ≤ j) → q j = mf j) → (∀ j : Nat, j < 14 → u (14 * b.toInt.toNat + j) = mf (14 * a.toInt.toNat + j)) ∧ (∀ j : Nat, (j < 14 * b.toInt.toNat ∨ 14 * b.toInt.toNat + 14 ≤ j) → u j = mf j) := by
    intro N
    induction N with
    | zero => intro l q h; exact h.elim
    | succ N ih =>
      intro l q h h0 h1 hA hB
      have h := fx_o h
      dsimp only [T_j_cr_dk_3] at h
      rcases h with ⟨c, e⟩ | ⟨c, b0, e0, b1, e1, b2, e2, b3, e3, b4, e4, b5, e5, b6, e6, h⟩
      · rw [e]; exact ⟨fun j hj => hA j (by omega), hB⟩
      · have g0 : b0.toInt = 14 * b.toInt := by rw [e0]; exact mi_cmul (by decide) (by omega) (by omega)
        have g1 : b1.toInt = 14 * b.toInt + l.toInt := by rw [e1, mi_add (by omega) (by omega), g0]
        have g2 : b2.toInt = 14 * a.toInt := by rw [e2]; exact mi_cmul (by decide) (by omega) (by omega)
        have g3 : b3.toInt = 14 * a.toInt + l.toInt := by rw [e3, mi_add (by omega) (by omega), g2]
        have g6 : b6.toInt = l.toInt + 1 := by rw [e6]; exact mi_addc (by decide) (by omega) (by omega)
        have i1 : Int32.toNatClampNeg b1 = 14 * b.toInt.toNat + l.toInt.toNat := by rw [mi_cl, g1]; omega
        have i3 : Int32.toNatClampNeg b3 = 14 * a.toInt.toNat + l.toInt.toNat := by rw [mi_cl, g3]; omega
        have hv : b4 = mf (14 * a.toInt.toNat + l.toInt.toNat) := by rw [e4, i3]; exact hB _ (by omega)
        refine ih b6 b5 h (by omega) (by omega) (fun j hj => ?_) (fun j hj => ?_)
        · rw [← e5, i1]
          by_cases hk : j = l.toInt.toNat
          · rw [hk, up_eq, hv]
          · rw [up_ne (by omega)]; exact hA j (by omega)
        · rw [← e5, i1, up_ne (by omega)]; exact hB j hj
  have z0 : (0 : Int32).toInt = 0 := by decide
  exact key _ _ _ h (by decide) (by decide) (fun j hj => by rw [z0] at hj; omega) (fun _ _ => rfl)
/-- slot b is what slot a was; the others stay -/
def Cp (a b : Nat) (M M2 : Nat → Nat → Int32) : Prop := M2 1 b = M 1 a ∧ M2 2 b = M 2 a ∧ M2 3 b = M 3 a ∧ (∀ j : Nat, j < 3 → M2 4 (3 * b + j) = M 4 (3 * a + j)) ∧ (∀ j : Nat, j < 600 → M2 0 (600 * b + j) = M 0 (600 * a + j)) ∧ (∀ j : Nat, j < 72 → M2 5 (72 * b + j) = M 5 (72 * a + j)) ∧ (∀ j : Nat, j < 242 → M2 6 (242 * b + j) = M 6 (242 * a + j)) ∧ (∀ j : Nat, j < 14 → M2 7 (14 * b + j) = M 7 (14 * a + j))
/-- rows copied as far as they are long -/
def CpT (TF TF2 : Nat → Nat → Int32) : Prop := (∀ j : Nat, j < 600 → TF2 0 j = TF 0 j) ∧ (∀ j : Nat, j < 5 → TF2 1 j = TF 1 j) ∧ (∀ j : Nat, j < 5 → TF2 2 j = TF 2 j) ∧ (∀ j : Nat, j < 6 → TF2 3 j = TF 3 j) ∧ (∀ j : Nat, j < 6 → TF2 4 j = TF 4 j) ∧ (∀ j : Nat, j < 4 → TF2 5 j = TF 5 j) ∧ (∀ j : Nat, j < 4 → TF2 6 j = TF 6 j) ∧ (∀ j : Nat, j < 5 → TF2 7 j = TF 7 j) ∧ (∀ j : Nat, j < 5 → TF2 8 j = TF 8 j) ∧ (∀ j : Nat, j < 6 → TF2 9 j = TF 9 j) ∧ (∀ j : Nat, j < 6 → TF2 10 j = TF 10 j) ∧ (∀ j : Nat, j < 4 → TF2 11 j = TF 11 j) ∧ (∀ j : Nat, j < 4 → TF2 12 j = TF 12 j) ∧ (∀ j : Nat, j < 120 → TF2 13 j = TF 13 j) ∧ (∀ j : Nat, j < 120 → TF2 14 j = TF 14 j) ∧ (∀ j : Nat, j < 6 → TF2 15 j = TF 15 j) ∧ (∀ j : Nat, j < 6 → TF2 16 j = TF 16 j)
theorem TLk_cp {a b : Nat} {TN : Nat → Int32} {TF TF2 M M2 : Nat → Nat → Int32} (h : TLk a TN TF M) (c : Cp a b M M2) (t : CpT TF TF2) : TLk b TN TF2 M2 := by
  obtain ⟨h1, h2, h3, h4, h5, h6, hT, hA, hB, hC, hD, hE, hF⟩ := h
  obtain ⟨s1, s2, s3, s4, s0, s5, s6, s7⟩ := c
  obtain ⟨t0, t1, t2, t3, t4, t5, t6, t7, rst_⟩ := t
  obtain ⟨t8, t9, t10, t11, t12, t13, t14, t15, t16⟩ := rst_
  refine ⟨by rw [s1, h1], by rw [s2, h2], by rw [s3, h3], by have := s4 0 (by omega); rw [Nat.add_zero, Nat.add_zero] at this; rw [this, h4], by rw [s4 1 (by omega), h5], by rw [s4 2 (by omega), h6], fun j hj => by rw [s0 j hj, hT j hj, t0 j hj], RT_y (RT_c (fun j hj => s5 j (by omega)) hA) t1 t2 t3 t4 t5 t6, RT_y (RT_c (fun j hj => by have := s5 (36 + j) (by omega); rw [← Nat.add_assoc, ← Nat.add_assoc] at this; exact this) hB) t7 t8 t9 t10 t11 t12, RB_y (RB_c (fun j hj => s6 j (by omega)) hC) t13, RB_y (RB_c (fun j hj => by have := s6 (121 + j) (by omega); rw [← Nat.add_assoc, ← Nat.add_assoc] at this; exact this) hD) t14, RD_y (RD_c (fun j hj => s7 j (by omega)) hE) t15, RD_y (RD_c (fun j hj => by have := s7 (7 + j) (by omega); rw [← Nat.add_assoc, ← Nat.add_assoc] at this; exact this) hF) t16⟩
theorem told_sp {o_tape : Nat → Int32} {k_tape : Nat → Int32} {oft_claps : Nat → Int32} {kft_claps : Nat → Int32} {oft_hands : Nat → Int32} {kft_hands : Nat → Int32} {oft_hunger : Nat → Int32} {kft_hunger : Nat → Int32} {oft_saved : Nat → Int32} {kft_saved : Nat → Int32} {oft_asks : Nat → Int32} {kft_asks : Nat → Int32} {oft_floors : Nat → Int32} {kft_floors : Nat → Int32} {ost_claps : Nat → Int32} {kst_claps : Nat → Int32} {ost_hands : Nat → Int32} {kst_hands : Nat → Int32} {ost_hunger : Nat → Int32} {kst_hunger : Nat → Int32} {ost_saved : Nat → Int32} {kst_saved : Nat → Int32} {ost_asks : Nat → Int32} {kst_asks : Nat → Int32} {ost_floors : Nat → Int32} {kst_floors : Nat → Int32} {ofb_parts : Nat → Int32} {kfb_parts : Nat → Int32} {osb_parts : Nat → Int32} {ksb_parts : Nat → Int32} {ofd_halves : Nat → Int32} {kfd_halves : Nat → Int32} {osd_halves : Nat → Int32} {ksd_halves : Nat → Int32} {u0 : Nat → Int32} {u1 : Nat → Int32} {u2 : Nat → Int32} {u3 : Nat → Int32} {u4 : Nat → Int32} {u5 : Nat → Int32} {u6 : Nat → Int32} {u7 : Nat → Int32} {u8 : Nat → Int32} {u9 : Nat → Int32} {u10 : Nat → Int32} {u11 : Nat → Int32} {u12 : Nat → Int32} {u13 : Nat → Int32} {u14 : Nat → Int32} {u15 : Nat → Int32} {u16 : Nat → Int32} (h : R_k_toldCopy o_tape k_tape oft_claps kft_claps oft_hands kft_hands oft_hunger kft_hunger oft_saved kft_saved oft_asks kft_asks oft_floors kft_floors ost_claps kst_claps ost_hands kst_hands ost_hunger kst_hunger ost_saved kst_saved ost_asks kst_asks ost_floors kst_floors ofb_parts kfb_parts osb_parts ksb_parts ofd_halves kfd_halves osd_halves ksd_halves u0 u1 u2 u3 u4 u5 u6 u7 u8 u9 u10 u11 u12 u13 u14 u15 u16) : CpT (fun i => ([o_tape, oft_claps, oft_hands, oft_hunger, oft_saved, oft_asks, oft_floors, ost_claps, ost_hands, ost_hunger, ost_saved, ost_asks, ost_floors, ofb_parts, osb_parts, ofd_halves, osd_halves] : List (Nat → Int32)).getD i (fun _ => 0)) (fun i => ([u0, u1, u2, u3, u4, u5, u6, u7, u8, u9, u10, u11, u12, u13, u14, u15, u16] : List (Nat → Int32)).getD i (fun _ => 0)) := by
  obtain ⟨g1, e1, a1, a2, a3, a4, a5, a6, rst_⟩ := h
  obtain ⟨hA, b1, b2, b3, b4, b5, b6, hB, rst_⟩ := rst_
  obtain ⟨c1, hC, c2, hD, d1, hE, d2, hF, rst_⟩ := rst_
  obtain ⟨f0, f1, f2, f3, f4, f5, f6, f7, rst_⟩ := rst_
  obtain ⟨f8, f9, f10, f11, f12, f13, f14, f15, f16⟩ := rst_
  obtain ⟨A1, A2, A3, A4, A5, A6⟩ := tcopy_sp hA
  obtain ⟨B1, B2, B3, B4, B5, B6⟩ := tcopy_sp hB
  have C1 := bcopy_sp hC
  have D1 := bcopy_sp hD
  have E1 := dcopy_sp hE
  have F1 := dcopy_sp hF
  refine ⟨?_, ?_, ?_, ?_, ?_, ?_, ?_, ?_, ?_, ?_, ?_, ?_, ?_, ?_, ?_, ?_, ?_⟩
  · intro j hj; show u0 j = o_tape j; rw [f0, ← e1]; exact cpy_at hj
  · intro j hj; show u1 j = oft_claps j; rw [f1]; exact A1 j hj
  · intro j hj; show u2 j = oft_hands j; rw [f2]; exact A2 j hj
  · intro j hj; show u3 j = oft_hunger j; rw [f3]; exact A3 j hj
  · intro j hj; show u4 j = oft_saved j; rw [f4]; exact A4 j hj
  · intro j hj; show u5 j = oft_asks j; rw [f5]; exact A5 j hj
  · intro j hj; show u6 j = oft_floors j; rw [f6]; exact A6 j hj
  · intro j hj; show u7 j = ost_claps j; rw [f7]; exact B1 j hj
  · intro j hj; show u8 j = ost_hands j; rw [f8]; exact B2 j hj
  · intro j hj; show u9 j = ost_hunger j; rw [f9]; exact B3 j hj
  · intro j hj; show u10 j = ost_saved j; rw [f10]; exact B4 j hj
  · intro j hj; show u11 j = ost_asks j; rw [f11]; exact B5 j hj
  · intro j hj; show u12 j = ost_floors j; rw [f12]; exact B6 j hj
  · intro j hj; show u13 j = ofb_parts j; rw [f13]; exact C1 j hj
  · intro j hj; show u14 j = osb_parts j; rw [f14]; exact D1 j hj
  · intro j hj; show u15 j = ofd_halves j; rw [f15]; exact E1 j hj
  · intro j hj; show u16 j = osd_halves j; rw [f16]; exact F1 j hj
theorem copyAll_sp {a b : Int32} {sz fa fp mn th bk dk tp u0 u1 u2 u3 u4 u5 u6 u7 : Nat → Int32} (ha : 0 ≤ a.toInt ∧ a.toInt ≤ 3) (hb : 0 ≤ b.toInt ∧ b.toInt ≤ 3) (hab : a.toInt ≠ b.toInt) (hby : By tp) (h : R_j_copyAll b a sz fa fp mn th bk dk tp u0 u1 u2 u3 u4 u5 u6 u7) : ∀ M M2 : Nat → Nat → Int32, M 0 = tp → M 1 = sz → M 2 = fa → M 3 = fp → M 4 = mn → M 5 = th → M 6 = bk → M 7 = dk → M2 0 = u0 → M2 1 = u1 → M2 2 = u2 → M2 3 = u3 → M2 4 = u4 → M2 5 = u5 → M2 6 = u6 → M2 7 = u7 → Cp a.toInt.toNat b.toInt.toNat M M2 ∧ ∀ g : Nat, g ≠ b.toInt.toNat → Sl g M M2 := by
  have key : ∀ (N : Nat) (l : Int32) (q : Nat → Int32), fx (T_j_copyAll_2 b a sz fa fp mn th bk dk u0 u1 u2 u3 u4 u5 u6 u7) N (l, q) → 0 ≤ l.toInt → l.toInt ≤ 600 → (∀ j : Nat, (j : Int) < l.toInt → q (600 * b.toInt.toNat + j) = tp (600 * a.toInt.toNat + j)) → (∀ j : Nat, (j < 600 * b.toInt.toNat ∨ 600 * b.toInt.toNat + 600 ≤ j) → q j = tp j) → ((∀ j : Nat, j < 600 → u0 (600 * b.toInt.toNat + j) = tp (600 * a.toInt.toNat + j)) ∧ (∀ j : Nat, (j < 600 * b.toInt.toNat ∨ 600 * b.toInt.toNat + 600 ≤ j) → u0 j = tp j)) ∧ R_j_cr_size b a sz u1 ∧ R_j_cr_one b a fa u2 ∧ R_j_cr_one b a fp u3 ∧ R_j_cr_many b a mn u4 ∧ R_j_cr_th b a th u5 ∧ R_j_cr_bk b a bk u6 ∧ R_j_cr_dk b a dk u7 := by
    intro N
    induction N with
    | zero => intro l q h; exact h.elim
    | succ N ih =>
      intro l q h h0 h1 hA hB
      have h := fx_o h
      dsimp only [T_j_copyAll_2] at h
      rcases h with ⟨c, s1, k1, s2, k2, s3, k3, s4, k4, s5, k5, s6, k6, s7, k7, e0, e1, e2, e3, e4, e5, e6, e7⟩ | ⟨c, b0, e0, b1, e1, b2, e2, b3, e3, b4, e4, b5, e5, b6, e6, h⟩
      · rw [e0, e1, e2, e3, e4, e5, e6, e7]
        exact ⟨⟨fun j hj => hA j (by omega), hB⟩, k1, k2, k3, k4, k5, k6, k7⟩
      · have g0 : b0.toInt = 600 * b.toInt := by rw [e0]; exact mi_cmul (by decide) (by omega) (by omega)
        have g1 : b1.toInt = 600 * b.toInt + l.toInt := by rw [e1, mi_add (by omega) (by omega), g0]
        have g2 : b2.toInt = 600 * a.toInt := by rw [e2]; exact mi_cmul (by decide) (by omega) (by omega)
        have g3 : b3.toInt = 600 * a.toInt + l.toInt := by rw [e3, mi_add (by omega) (by omega), g2]
        have g6 : b6.toInt = l.toInt + 1 := by rw [e6]; exact mi_addc (by decide) (by omega) (by omega)
        have i1 : Int32.toNatClampNeg b1 = 600 * b.toInt.toNat + l.toInt.toNat := by rw [mi_cl, g1]; omega
        have i3 : Int32.toNatClampNeg b3 = 600 * a.toInt.toNat + l.toInt.toNat := by rw [mi_cl, g3]; omega
        have hv : b4 = tp (600 * a.toInt.toNat + l.toInt.toNat) := by rw [e4, i3]; exact hB _ (by omega)
        refine ih b6 b5 h (by omega) (by omega) (fun j hj => ?_) (fun j hj => ?_)
        · rw [← e5, i1]
          by_cases hk : j = l.toInt.toNat
          · rw [hk, up_eq, hv]; exact nar_id (hby _)
          · rw [up_ne (by omega)]; exact hA j (by omega)
        · rw [← e5, i1, up_ne (by omega)]; exact hB j hj
  have z0 : (0 : Int32).toInt = 0 := by decide
  obtain ⟨⟨p1, p2⟩, k1, k2, k3, k4, k5, k6, k7⟩ := key _ _ _ h (by decide) (by decide) (fun j hj => by rw [z0] at hj; omega) (fun _ _ => rfl)
  obtain ⟨a1, b1⟩ := cr_size_sp ha hb hab k1
  obtain ⟨a2, b2⟩ := cr_one_sp ha hb hab k2
  obtain ⟨a3, b3⟩ := cr_one_sp ha hb hab k3
  obtain ⟨a4, b4⟩ := cr_many_sp ha hb hab k4
  obtain ⟨a5, b5⟩ := cr_th_sp ha hb hab k5
  obtain ⟨a6, b6⟩ := cr_bk_sp ha hb hab k6
  obtain ⟨a7, b7⟩ := cr_dk_sp ha hb hab k7
  clear h key k1 k2 k3 k4 k5 k6 k7
  intro M M2 m0 m1 m2 m3 m4 m5 m6 m7 n0 n1 n2 n3 n4 n5 n6 n7
  have A1 := a1 0 (by decide)
  have A2 := a2 0 (by decide)
  have A3 := a3 0 (by decide)
  rw [Nat.one_mul, Nat.one_mul, Nat.add_zero, Nat.add_zero] at A1 A2 A3
  refine ⟨⟨by rw [n1, m1]; exact A1, by rw [n2, m2]; exact A2, by rw [n3, m3]; exact A3, by rw [n4, m4]; exact a4, by rw [n0, m0]; exact p1, by rw [n5, m5]; exact a5, by rw [n6, m6]; exact a6, by rw [n7, m7]; exact a7⟩, fun g hg => ⟨by rw [n1, m1]; exact b1 g (by omega), by rw [n2, m2]; exact b2 g (by omega), by rw [n3, m3]; exact b3 g (by omega), fun j hj => by rw [n4, m4]; exact b4 _ (by omega), fun j hj => by rw [n0, m0]; exact p2 _ (by omega), fun j hj => by rw [n5, m5]; exact b5 _ (by omega), fun j hj => by rw [n6, m6]; exact b6 _ (by omega), fun j hj => by rw [n7, m7]; exact b7 _ (by omega)⟩⟩
theorem image_sp {M M2 : Nat → Nat → Int32} {x0 r : Int32} (hby : By (M 0)) (h : S_y_image M x0 M2 r) : (r = 1 ∧ (0 ≤ x0.toInt ∧ x0.toInt ≤ 2) ∧ Cp 0 (x0.toInt.toNat + 1) M M2 ∧ (∀ g : Nat, g ≠ x0.toInt.toNat + 1 → Sl g M M2) ∧ M2 8 = upd (M 8) x0.toInt.toNat 1) ∨ (r = 0 ∧ (x0.toInt < 0 ∨ 2 < x0.toInt) ∧ (∀ g : Nat, Sl g M M2) ∧ M2 8 = M 8) := by
  obtain ⟨c_g1, c_g2, c_g3, c_g4, c_g5, c_g6, c_g7, c_g8, c_g9, h, eM⟩ := h
  obtain ⟨q, hq, h⟩ := h
  have hq := in_sp hq
  have z10 : ((1 : Int32) = 0) → False := by decide
  have z0 : (0 : Int32).toInt = 0 := by decide
  subst eM
  rcases h with ⟨c, z5, e5, s1, s2, s3, s4, s5, s6, s7, s8, hc, g18, e18, f0, f1, f2, f3, f4, f5, f6, f7, f8, f9⟩ | ⟨c, f0, f1, f2, f3, f4, f5, f6, f7, f8, f9⟩
  · have hi : 0 ≤ x0.toInt ∧ x0.toInt ≤ 2 := by
      rcases hq with ⟨-, p⟩ | ⟨p, -⟩
      · exact p
      · exact (z10 (c.symm.trans p)).elim
    have h5 : z5.toInt = x0.toInt + 1 := by rw [e5]; exact mi_addc (by decide) (by omega) (by omega)
    have hp := copyAll_sp (a := 0) (b := z5) (by decide) (by omega) (by omega) hby hc M (fun i => ([c_g1, c_g2, c_g3, c_g4, c_g5, c_g6, c_g7, c_g8, c_g9] : List (Nat → Int32)).getD i (fun _ => 0)) rfl rfl rfl rfl rfl rfl rfl rfl f1 f2 f3 f4 f5 f6 f7 f8
    have en : z5.toInt.toNat = x0.toInt.toNat + 1 := by omega
    rw [z0, en] at hp
    refine Or.inl ⟨f0, hi, hp.1, hp.2, ?_⟩
    show c_g9 = _
    rw [f9, ← e18]; rfl
  · have hi : x0.toInt < 0 ∨ 2 < x0.toInt := by
      rcases hq with ⟨p, -⟩ | ⟨-, p⟩
      · exact (z10 (p.symm.trans c)).elim
      · exact p
    refine Or.inr ⟨f0, hi, fun g => ?_, ?_⟩
    · refine ⟨?_, ?_, ?_, ?_, ?_, ?_, ?_, ?_⟩
      · show c_g2 g = M 1 g; rw [f2]
      · show c_g3 g = M 2 g; rw [f3]
      · show c_g4 g = M 3 g; rw [f4]
      · intro j _; show c_g5 (3 * g + j) = M 4 (3 * g + j); rw [f5]
      · intro j _; show c_g1 (600 * g + j) = M 0 (600 * g + j); rw [f1]
      · intro j _; show c_g6 (72 * g + j) = M 5 (72 * g + j); rw [f6]
      · intro j _; show c_g7 (242 * g + j) = M 6 (242 * g + j); rw [f7]
      · intro j _; show c_g8 (14 * g + j) = M 7 (14 * g + j); rw [f8]
    · show c_g9 = M 8; rw [f9]
theorem again_sp {M M2 : Nat → Nat → Int32} {x0 r : Int32} (hby : By (M 0)) (h : S_y_again M x0 M2 r) : M2 8 = M 8 ∧ ((r = 1 ∧ (0 ≤ x0.toInt ∧ x0.toInt ≤ 2) ∧ (M 8 x0.toInt.toNat).toInt ≠ 0 ∧ Cp (x0.toInt.toNat + 1) 0 M M2 ∧ (∀ g : Nat, g ≠ 0 → Sl g M M2)) ∨ (r = 0 ∧ ((x0.toInt < 0 ∨ 2 < x0.toInt) ∨ ((0 ≤ x0.toInt ∧ x0.toInt ≤ 2) ∧ (M 8 x0.toInt.toNat).toInt = 0)) ∧ (∀ g : Nat, Sl g M M2))) := by
  obtain ⟨c_g1, c_g2, c_g3, c_g4, c_g5, c_g6, c_g7, c_g8, h, eM⟩ := h
  obtain ⟨q, hq, h⟩ := h
  have hq := in_sp hq
  have z10 : ((1 : Int32) = 0) → False := by decide
  have z0 : (0 : Int32).toInt = 0 := by decide
  subst eM
  refine ⟨rfl, ?_⟩
  have same : c_g1 = M 0 → c_g2 = M 1 → c_g3 = M 2 → c_g4 = M 3 → c_g5 = M 4 → c_g6 = M 5 → c_g7 = M 6 → c_g8 = M 7 → ∀ g : Nat, Sl g M (fun i => ([c_g1, c_g2, c_g3, c_g4, c_g5, c_g6, c_g7, c_g8, M 8] : List (Nat → Int32)).getD i (fun _ => 0)) := by
    intro f1 f2 f3 f4 f5 f6 f7 f8 g
    refine ⟨?_, ?_, ?_, ?_, ?_, ?_, ?_, ?_⟩
    · show c_g2 g = M 1 g; rw [f2]
    · show c_g3 g = M 2 g; rw [f3]
    · show c_g4 g = M 3 g; rw [f4]
    · intro j _; show c_g5 (3 * g + j) = M 4 (3 * g + j); rw [f5]
    · intro j _; show c_g1 (600 * g + j) = M 0 (600 * g + j); rw [f1]
    · intro j _; show c_g6 (72 * g + j) = M 5 (72 * g + j); rw [f6]
    · intro j _; show c_g7 (242 * g + j) = M 6 (242 * g + j); rw [f7]
    · intro j _; show c_g8 (14 * g + j) = M 7 (14 * g + j); rw [f8]
  rcases h with ⟨c, z5, e5, h⟩ | ⟨c, f0, f1, f2, f3, f4, f5, f6, f7, f8⟩
  · have hi : 0 ≤ x0.toInt ∧ x0.toInt ≤ 2 := by
      rcases hq with ⟨-, p⟩ | ⟨p, -⟩
      · exact p
      · exact (z10 (c.symm.trans p)).elim
    have e5 : z5 = M 8 x0.toInt.toNat := e5
    rcases h with ⟨c2, z7, e7, s1, s2, s3, s4, s5, s6, s7, s8, hc, f0, f1, f2, f3, f4, f5, f6, f7, f8⟩ | ⟨c2, f0, f1, f2, f3, f4, f5, f6, f7, f8⟩
    · have h7 : z7.toInt = x0.toInt + 1 := by rw [e7]; exact mi_addc (by decide) (by clear hc same; omega) (by clear hc same; omega)
      have hp := copyAll_sp (a := z7) (b := 0) (by clear hc same; omega) (by decide) (by clear hc same; omega) hby hc M (fun i => ([c_g1, c_g2, c_g3, c_g4, c_g5, c_g6, c_g7, c_g8, M 8] : List (Nat → Int32)).getD i (fun _ => 0)) rfl rfl rfl rfl rfl rfl rfl rfl f1 f2 f3 f4 f5 f6 f7 f8
      have en : z7.toInt.toNat = x0.toInt.toNat + 1 := by clear hc same hp; omega
      rw [z0, en] at hp
      exact Or.inl ⟨f0, hi, by rw [← e5]; exact c2, hp.1, hp.2⟩
    · exact Or.inr ⟨f0, Or.inr ⟨hi, by rw [← e5]; exact c2⟩, same f1 f2 f3 f4 f5 f6 f7 f8⟩
  · have hi : x0.toInt < 0 ∨ 2 < x0.toInt := by
      rcases hq with ⟨p, -⟩ | ⟨-, p⟩
      · exact (z10 (p.symm.trans c)).elim
      · exact p
    exact Or.inr ⟨f0, Or.inl hi, same f1 f2 f3 f4 f5 f6 f7 f8⟩
