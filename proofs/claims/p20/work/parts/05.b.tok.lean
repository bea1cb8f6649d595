/-! the reference's reader finds the same token -/
theorem in_sp {A B C : Int} {u : Int32} (h : R_j_in A B C u) : (u = 1 ∧ B ≤ A ∧ A ≤ C) ∨ (u = 0 ∧ (A < B ∨ C < A)) := by
  rcases h with ⟨c, e⟩ | ⟨c, ⟨d, e⟩ | ⟨d, e⟩⟩
  · exact Or.inr ⟨e, Or.inl c⟩
  · exact Or.inr ⟨e, Or.inr d⟩
  · exact Or.inl ⟨e, c, d⟩
def By (t : Nat → Int32) : Prop := ∀ i : Nat, -128 ≤ (t i).toInt ∧ (t i).toInt ≤ 127
theorem see_sp {n a u : Int32} {t : Nat → Int32} (ht : By t) (h : R_j_see n a t u) : (n.toInt ≤ a.toInt ∧ u.toInt = -1) ∨ (a.toInt < n.toInt ∧ 0 ≤ u.toInt ∧ u.toInt ≤ 255 ∧ ((0 ≤ tq t a.toInt ∧ u.toInt = tq t a.toInt) ∨ (tq t a.toInt < 0 ∧ -128 ≤ tq t a.toInt ∧ u.toInt = tq t a.toInt + 256))) := by
  rcases h with ⟨c, e⟩ | ⟨c, z, ez, y, ey, e⟩
  · exact Or.inl ⟨c, by rw [e]; decide⟩
  · have hz := tq_at ez
    have hb := ht (Int32.toNatClampNeg a)
    rw [← ez] at hb
    have h9 := by_255 hb.1 hb.2
    rw [← ey, ← e] at h9
    rw [← hz]
    exact Or.inr ⟨c, by omega, by omega, by omega⟩
theorem see_u {n a u v : Int32} {t : Nat → Int32} (h : R_j_see n a t u) (h' : R_j_see n a t v) : u = v := by
  rcases h with ⟨c, e⟩ | ⟨c, z, ez, y, ey, e⟩ <;> rcases h' with ⟨c', e'⟩ | ⟨c', z', ez', y', ey', e'⟩
  · rw [e, e']
  · omega
  · omega
  · rw [e, ey, ez, e', ey', ez']
def pk (t : Nat → Int32) (f : Int) : Nat → Int
  | 0 => 0
  | k + 1 => 256 * pk t f k + tq t (f + k)
theorem pk_s {t : Nat → Int32} {f l : Int} (h : f ≤ l) : pk t f (l + 1 - f).toNat = 256 * pk t f (l - f).toNat + tq t l := by
  have e : (l + 1 - f).toNat = (l - f).toNat + 1 := by omega
  rw [e]
  show 256 * pk t f (l - f).toNat + tq t (f + ((l - f).toNat : Nat)) = _
  have e2 : f + (((l - f).toNat : Nat) : Int) = l := by omega
  rw [e2]
theorem pk_rng {t : Nat → Int32} {f : Int} : ∀ k : Nat, (∀ j : Int, f ≤ j → j < f + k → lt_ (tq t j)) → k ≤ 7 → 0 ≤ pk t f k ∧ pk t f k < 36028797018963968 ∧ (k ≤ 6 → pk t f k < 140737488355328) ∧ (k ≤ 5 → pk t f k < 549755813888) ∧ (k ≤ 4 → pk t f k < 2147483648) ∧ (k ≤ 3 → pk t f k < 8388608) ∧ (k ≤ 2 → pk t f k < 32768) ∧ (k ≤ 1 → pk t f k < 128) ∧ (k ≤ 0 → pk t f k = 0) := by
  intro k
  induction k with
  | zero => intro _ _; simp [pk]
  | succ k ih =>
    intro h hk
    have h2 := ih (fun j h1 h2 => h j h1 (by omega)) (by omega)
    have h3 := h (f + k) (by omega) (by omega)
    unfold lt_ at h3
    have e : pk t f (k + 1) = 256 * pk t f k + tq t (f + k) := rfl
    rw [e]
    omega
theorem or_sh {v y : Nat} (hy : y < 256) : v <<< 8 ||| y = 256 * v + y := by
  rw [← Nat.shiftLeft_add_eq_or_of_lt (i := 8) (by omega) v, Nat.shiftLeft_eq]
  omega
theorem wd_s {w : Int64} {r : Int32} (hw : 0 ≤ w.toInt) (hw2 : w.toInt < 36028797018963968) (hr : 0 ≤ r.toInt) (hr2 : r.toInt < 256) : ((w <<< (Int32.toInt64 8 &&& (63 : Int64))) ||| Int32.toInt64 r).toInt = 256 * w.toInt + r.toInt := by
  have hy : (Int32.toInt64 r).toInt = r.toInt := Int32.toInt_toInt64 r
  generalize Int32.toInt64 r = y at hy ⊢
  have e8 : (Int32.toInt64 8 &&& (63 : Int64)) = 8 := by decide
  rw [e8, ← hy]
  rw [← hy] at hr hr2
  have hv : ((w <<< (8 : Int64)) ||| y).toInt = ((w.toBitVec <<< 8) ||| y.toBitVec).toInt := rfl
  have h1 : w.toInt = w.toBitVec.toInt := rfl
  have h2 : y.toInt = y.toBitVec.toInt := rfl
  rw [hv]
  rw [h1] at hw hw2 ⊢
  rw [h2] at hr hr2 ⊢
  generalize w.toBitVec = V at hw hw2 ⊢
  generalize y.toBitVec = Y at hr hr2 ⊢
  have lV := V.isLt
  have lY := Y.isLt
  have cV : V.toInt = (V.toNat : Int) := by
    by_cases hb : 2 * V.toNat < 2 ^ 64
    · rw [BitVec.toInt_eq_toNat_cond, if_pos hb]
    · rw [BitVec.toInt_eq_toNat_cond, if_neg hb] at hw; omega
  have cY : Y.toInt = (Y.toNat : Int) := by
    by_cases hb : 2 * Y.toNat < 2 ^ 64
    · rw [BitVec.toInt_eq_toNat_cond, if_pos hb]
    · rw [BitVec.toInt_eq_toNat_cond, if_neg hb] at hr; omega
  rw [cV] at hw hw2 ⊢
  rw [cY] at hr hr2 ⊢
  have hm : V.toNat <<< 8 = 256 * V.toNat := by rw [Nat.shiftLeft_eq]; omega
  have hn : ((V <<< 8) ||| Y).toNat = 256 * V.toNat + Y.toNat := by
    rw [BitVec.toNat_or, BitVec.toNat_shiftLeft, Nat.mod_eq_of_lt (by rw [hm]; omega)]
    exact or_sh (by omega)
  rw [BitVec.toInt_eq_toNat_cond, hn, if_pos (by omega)]
  omega
theorem tk74 {n f w : Int32} {t : Nat → Int32} {u0 u1 u2 u3 : Int32} {u4 : Int64} (ht : By t) (hn : 0 ≤ n.toInt ∧ n.toInt ≤ 600) (hf : 0 ≤ f.toInt) : ∀ (N : Nat) (st : Int32 × Int32 × Int64), fx (T_j_token_74 n t f w u0 u1 u2 u3 u4) N st → (f.toInt ≤ st.2.1.toInt ∧ st.2.1.toInt ≤ n.toInt ∧ (∀ j : Int, f.toInt ≤ j → j < st.2.1.toInt → lt_ (tq t j)) ∧ st.1.toInt = st.2.1.toInt - f.toInt ∧ (st.1.toInt ≤ 8 → st.2.2.toInt = pk t f.toInt (st.2.1.toInt - f.toInt).toNat)) → u1 = f ∧ run_ lt_ t n.toInt f.toInt u0.toInt ∧ u2.toInt = 2 ∧ (u0.toInt - f.toInt ≤ 8 → u4.toInt = pk t f.toInt (u0.toInt - f.toInt).toNat) ∧ (8 < u0.toInt - f.toInt → u4 = 0) := by
  refine fx_ind ?_
  rintro K ⟨c, l, v⟩ ih h hi
  dsimp only at hi
  dsimp only [T_j_token_74] at h
  obtain ⟨i1, i2, i3, i4, i5⟩ := hi
  obtain ⟨s, hs, r, hr, h⟩ := h
  have hs := see_sp ht hs
  rcases h with ⟨e, z, ez, s2, hs2, z2, ez2, z3, ez3, z4, ez4, z5, ez5, h⟩ | ⟨e, h⟩
  · rcases in_sp hr with ⟨-, q1, q2⟩ | ⟨q, -⟩
    · have hlt : lt_ (tq t l.toInt) := by unfold lt_; omega
      have hl : l.toInt < n.toInt := by omega
      have hs2 := see_sp ht hs2
      unfold lt_ at hlt
      have hsv : s2.toInt = tq t l.toInt := by omega
      have h4 : z4.toInt = l.toInt + 1 := by rw [ez4]; exact mi_addc (by decide) (by omega) (by omega)
      have h5 : z5.toInt = c.toInt + 1 := by rw [ez5]; exact mi_addc (by decide) (by omega) (by omega)
      refine ih (z5, z4, z3) h ?_
      dsimp only
      rw [h4, h5]
      refine ⟨by omega, by omega, ext_ i3 hlt, by omega, fun hc => ?_⟩
      have hv := i5 (by omega)
      have hk := pk_rng (t := t) (f := f.toInt) (l.toInt - f.toInt).toNat (fun j h1 h2 => i3 j h1 (by omega)) (by omega)
      rw [pk_s i1, ← hv, ← hsv, ez3, ez, ez2]
      exact wd_s (by rw [hv]; exact hk.1) (by rw [hv]; exact hk.2.1) (by omega) (by omega)
    · rw [e] at q; exact absurd q (by decide)
  · rcases in_sp hr with ⟨q, -⟩ | ⟨-, q1⟩
    · rw [e] at q; exact absurd q (by decide)
    · have hd : l.toInt < n.toInt → ¬ lt_ (tq t l.toInt) := fun hl => by unfold lt_; omega
      rcases h with ⟨q, e0, e1, e2, e3, e4⟩ | ⟨q, e0, e1, e2, e3, e4⟩
      · exact ⟨e1, by rw [e0]; exact ⟨i1, i2, i3, hd⟩, by rw [e2]; decide, fun _ => by rw [e4, e0]; exact i5 q, fun q2 => by rw [e0] at q2; omega⟩
      · exact ⟨e1, by rw [e0]; exact ⟨i1, i2, i3, hd⟩, by rw [e2]; decide, fun q2 => by rw [e0] at q2; omega, fun _ => e4⟩
theorem tk163 {n f : Int32} {t : Nat → Int32} {u0 u1 u2 u3 : Int32} {u4 : Int64} (ht : By t) (hn : 0 ≤ n.toInt ∧ n.toInt ≤ 600) (hf : 0 ≤ f.toInt) : ∀ (N : Nat) (st : Int32 × Int32 × Int32), fx (T_j_token_163 n t f u0 u1 u2 u3 u4) N st → (f.toInt ≤ st.2.1.toInt ∧ st.2.1.toInt ≤ n.toInt ∧ (∀ j : Int, f.toInt ≤ j → j < st.2.1.toInt → dg_ (tq t j)) ∧ st.1.toInt = st.2.1.toInt - f.toInt ∧ (st.1.toInt ≤ 3 → st.2.2.toInt = nv t f.toInt (st.2.1.toInt - f.toInt).toNat)) → u1 = f ∧ run_ dg_ t n.toInt f.toInt u0.toInt ∧ ((u0.toInt - f.toInt ≤ 3 ∧ u2.toInt = 3 ∧ u3.toInt = nv t f.toInt (u0.toInt - f.toInt).toNat) ∨ (3 < u0.toInt - f.toInt ∧ u2.toInt = 1)) := by
  refine fx_ind ?_
  rintro K ⟨c, l, v⟩ ih h hi
  dsimp only at hi
  dsimp only [T_j_token_163] at h
  obtain ⟨i1, i2, i3, i4, i5⟩ := hi
  obtain ⟨s, hs, r, hr, h⟩ := h
  have hs := see_sp ht hs
  rcases h with ⟨e, h⟩ | ⟨e, h⟩
  · rcases in_sp hr with ⟨-, q1, q2⟩ | ⟨q, -⟩
    · have hdg : dg_ (tq t l.toInt) := by unfold dg_; omega
      have hdg2 := hdg
      unfold dg_ at hdg2
      have hl : l.toInt < n.toInt := by omega
      rcases h with ⟨c3, z4, ez4, z5, ez5, h⟩ | ⟨c3, z, ez, s2, hs2, z2, ez2, z3, ez3, z4, ez4, z5, ez5, h⟩
      · have h4 : z4.toInt = l.toInt + 1 := by rw [ez4]; exact mi_addc (by decide) (by omega) (by omega)
        have h5 : z5.toInt = c.toInt + 1 := by rw [ez5]; exact mi_addc (by decide) (by omega) (by omega)
        refine ih (z5, z4, v) h ?_
        dsimp only
        rw [h4, h5]
        exact ⟨by omega, by omega, ext_ i3 hdg, by omega, fun hc => by omega⟩
      · have hs2 := see_sp ht hs2
        have hsv : s2.toInt = tq t l.toInt := by omega
        have h4 : z4.toInt = l.toInt + 1 := by rw [ez4]; exact mi_addc (by decide) (by omega) (by omega)
        have h5 : z5.toInt = c.toInt + 1 := by rw [ez5]; exact mi_addc (by decide) (by omega) (by omega)
        have hv := i5 (by omega)
        have hk := nv_rng (t := t) (f := f.toInt) (l.toInt - f.toInt).toNat (fun j h1 h2 => i3 j h1 (by omega)) (by omega)
        have g1 : z.toInt = 10 * v.toInt := by rw [ez]; exact mi_cmul (by decide) (by omega) (by omega)
        have g2 : z2.toInt = 10 * v.toInt + s2.toInt := by rw [ez2, mi_add (by omega) (by omega), g1]
        have g3 : z3.toInt = 10 * v.toInt + s2.toInt - 48 := by rw [ez3, mi_subc (C := 48) (by decide) (by omega) (by omega), g2]
        refine ih (z5, z4, z3) h ?_
        dsimp only
        rw [h4, h5]
        refine ⟨by omega, by omega, ext_ i3 hdg, by omega, fun hc => ?_⟩
        rw [nv_s i1, ← hv, ← hsv, g3]
        omega
    · rw [e] at q; exact absurd q (by decide)
  · rcases in_sp hr with ⟨q, -⟩ | ⟨-, q1⟩
    · rw [e] at q; exact absurd q (by decide)
    · have hd : l.toInt < n.toInt → ¬ dg_ (tq t l.toInt) := fun hl => by unfold dg_; omega
      rcases h with ⟨q, e0, e1, e2, e3, e4⟩ | ⟨q, e0, e1, e2, e3, e4⟩
      · exact ⟨e1, by rw [e0]; exact ⟨i1, i2, i3, hd⟩, Or.inl ⟨by rw [e0]; omega, by rw [e2]; decide, by rw [e3, e0]; exact i5 q⟩⟩
      · exact ⟨e1, by rw [e0]; exact ⟨i1, i2, i3, hd⟩, Or.inr ⟨by rw [e0]; omega, by rw [e2]; decide⟩⟩
/-- how the reference numbers the kinds of tokens -/
def Sc (k s : Int) : Prop := (k = 0 ∧ s = 0) ∨ (k = 1 ∧ s = 2) ∨ (k = 2 ∧ s = 3) ∨ (k = 3 ∧ s = 4) ∨ (k = 4 ∧ s = 1)
def Wd (t : Nat → Int32) (f e : Int) (w : Int64) : Prop := (e - f ≤ 8 → w.toInt = pk t f (e - f).toNat) ∧ (8 < e - f → w = 0)
theorem tok_sp {n a w : Int32} {t : Nat → Int32} {u0 u1 u2 u3 : Int32} {u4 : Int64} (ht : By t) (hn : 0 ≤ n.toInt ∧ n.toInt ≤ 600) (ha : 0 ≤ a.toInt ∧ a.toInt ≤ n.toInt) (h : R_j_token n t w a u0 u1 u2 u3 u4) : ∃ k : Int, Tk t n.toInt a.toInt k u1.toInt u0.toInt u3.toInt ∧ Sc k u2.toInt ∧ (k = 1 → Wd t u1.toInt u0.toInt u4) := by
  have key : ∀ (N : Nat) (l : Int32), fx (T_j_token_0 n t w u0 u1 u2 u3 u4) N l → (a.toInt ≤ l.toInt ∧ l.toInt ≤ n.toInt ∧ (∀ j : Int, a.toInt ≤ j → j < l.toInt → bl_ (tq t j))) → ∃ k : Int, Tk t n.toInt a.toInt k u1.toInt u0.toInt u3.toInt ∧ Sc k u2.toInt ∧ (k = 1 → Wd t u1.toInt u0.toInt u4) := by
    refine fx_ind ?_
    rintro K l ih h ⟨i1, i2, i3⟩
    obtain ⟨s, hs0, h⟩ := h
    have hs := see_sp ht hs0
    have goon : s.toInt = 10 ∨ s.toInt = 32 → ∀ y : Int32, y = l + 1 → K y → ∃ k : Int, Tk t n.toInt a.toInt k u1.toInt u0.toInt u3.toInt ∧ Sc k u2.toInt ∧ (k = 1 → Wd t u1.toInt u0.toInt u4) := by
      intro hb y ey hk
      have h8 : y.toInt = l.toInt + 1 := by rw [ey]; exact mi_addc (by decide) (by omega) (by omega)
      refine ih y hk ?_
      rw [h8]
      exact ⟨by omega, by omega, ext_ i3 (by unfold bl_; omega)⟩
    rcases h with ⟨q, y, ey, h⟩ | ⟨q, s2, hs2, h⟩
    · exact goon (Or.inl q) y ey h
    · have e2 : s2.toInt = s.toInt := by rw [see_u hs2 hs0]
      rcases h with ⟨q2, s3, hs3, h⟩ | ⟨q2, y, ey, h⟩
      · have e3 : s3.toInt = s.toInt := by rw [see_u hs3 hs0]
        have hb : run_ bl_ t n.toInt a.toInt l.toInt := ⟨i1, i2, i3, fun _ => by unfold bl_; omega⟩
        rcases h with ⟨c, r, hr, h⟩ | ⟨c, e0, e1, e2, e3, e4⟩
        · have hl : l.toInt < n.toInt := by omega
          rcases in_sp hr with ⟨er, p1, p2⟩ | ⟨er, p1⟩
          · rcases h with ⟨-, h⟩ | ⟨er2, h⟩
            · have hi : l.toInt ≤ l.toInt ∧ l.toInt ≤ n.toInt ∧ (∀ j : Int, l.toInt ≤ j → j < l.toInt → lt_ (tq t j)) ∧ (0 : Int32).toInt = l.toInt - l.toInt ∧ ((0 : Int32).toInt ≤ 8 → (0 : Int64).toInt = pk t l.toInt (l.toInt - l.toInt).toNat) := ⟨Int.le_refl _, i2, fun j h1 h2 => absurd h2 (by omega), by rw [Int.sub_self]; decide, fun _ => by rw [Int.sub_self]; rfl⟩
              obtain ⟨f1, f2, f3, f4, f5⟩ := tk74 ht hn (by omega) _ _ h hi
              refine ⟨1, ⟨by rw [f1]; exact hb, Or.inr (Or.inl ⟨by rw [f1]; exact hl, by rw [f1]; unfold lt_; omega, rfl, by rw [f1]; exact f2⟩)⟩, Or.inr (Or.inl ⟨rfl, f3⟩), fun _ => ?_⟩
              rw [f1]; exact ⟨f4, f5⟩
            · rw [er] at er2; exact absurd er2 (by decide)
          · rcases h with ⟨er2, h⟩ | ⟨-, r2, hr2, h⟩
            · rw [er] at er2; exact absurd er2 (by decide)
            · rcases in_sp hr2 with ⟨es, p3, p4⟩ | ⟨es, p3⟩
              · rcases h with ⟨-, h⟩ | ⟨es2, h⟩
                · have hi : l.toInt ≤ l.toInt ∧ l.toInt ≤ n.toInt ∧ (∀ j : Int, l.toInt ≤ j → j < l.toInt → dg_ (tq t j)) ∧ (0 : Int32).toInt = l.toInt - l.toInt ∧ ((0 : Int32).toInt ≤ 3 → (0 : Int32).toInt = nv t l.toInt (l.toInt - l.toInt).toNat) := ⟨Int.le_refl _, i2, fun j h1 h2 => absurd h2 (by omega), by rw [Int.sub_self]; decide, fun _ => by rw [Int.sub_self]; rfl⟩
                  obtain ⟨f1, f2, f3⟩ := tk163 ht hn (by omega) _ _ h hi
                  rcases f3 with ⟨g1, g2, g3⟩ | ⟨g1, g2⟩
                  · exact ⟨2, ⟨by rw [f1]; exact hb, Or.inr (Or.inr (Or.inl ⟨by rw [f1]; exact hl, by rw [f1]; unfold dg_; omega, by rw [f1]; exact f2, Or.inl ⟨by rw [f1]; exact g1, rfl, by rw [f1]; exact g3⟩⟩))⟩, Or.inr (Or.inr (Or.inl ⟨rfl, g2⟩)), fun q => absurd q (by decide)⟩
                  · exact ⟨4, ⟨by rw [f1]; exact hb, Or.inr (Or.inr (Or.inl ⟨by rw [f1]; exact hl, by rw [f1]; unfold dg_; omega, by rw [f1]; exact f2, Or.inr ⟨by rw [f1]; exact g1, rfl⟩⟩))⟩, Or.inr (Or.inr (Or.inr (Or.inr ⟨rfl, g2⟩))), fun q => absurd q (by decide)⟩
                · rw [es] at es2; exact absurd es2 (by decide)
              · rcases h with ⟨es2, h⟩ | ⟨-, y, ey, h⟩
                · rw [es] at es2; exact absurd es2 (by decide)
                · have h8 : y.toInt = l.toInt + 1 := by rw [ey]; exact mi_addc (by decide) (by omega) (by omega)
                  have nl : ¬ lt_ (tq t l.toInt) := by unfold lt_; omega
                  have nd : ¬ dg_ (tq t l.toInt) := by unfold dg_; omega
                  rcases h with ⟨q5, e0, e1, e2, e3, e4⟩ | ⟨q5, e0, e1, e2, e3, e4⟩
                  · exact ⟨4, ⟨by rw [e1]; exact hb, Or.inr (Or.inr (Or.inr ⟨by rw [e1]; exact hl, by rw [e1]; exact nl, by rw [e1]; exact nd, by rw [e0, e1]; exact h8, Or.inr ⟨by rw [e1]; omega, rfl⟩⟩))⟩, Or.inr (Or.inr (Or.inr (Or.inr ⟨rfl, by rw [e2]; decide⟩))), fun q => absurd q (by decide)⟩
                  · exact ⟨3, ⟨by rw [e1]; exact hb, Or.inr (Or.inr (Or.inr ⟨by rw [e1]; exact hl, by rw [e1]; exact nl, by rw [e1]; exact nd, by rw [e0, e1]; exact h8, Or.inl ⟨by rw [e1]; omega, rfl⟩⟩))⟩, Or.inr (Or.inr (Or.inr (Or.inl ⟨rfl, by rw [e2]; decide⟩))), fun q => absurd q (by decide)⟩
        · exact ⟨0, ⟨by rw [e1]; exact hb, Or.inl ⟨by rw [e1]; omega, rfl, by rw [e0, e1]⟩⟩, Or.inl ⟨rfl, by rw [e2]; decide⟩, fun q => absurd q (by decide)⟩
      · exact goon (Or.inr (by omega)) y ey h
  exact key _ _ h ⟨Int.le_refl _, ha.2, fun j h1 h2 => absurd h2 (by omega)⟩
