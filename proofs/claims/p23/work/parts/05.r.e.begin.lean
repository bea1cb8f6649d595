/-! an evening begins -/
theorem fill6_sp {v : Int32} {f g : Nat → Int32} (h : R_fill_6 v f g) : ∀ j : Nat, j < 6 → g j = v := by
  have key : ∀ (N : Nat) (l : Int32) (a : Nat → Int32), fx (T_fill_6_5 v g) N (l, a) → (0 ≤ l.toInt ∧ l.toInt ≤ 6) → (∀ j : Nat, (j : Int) < l.toInt → a j = v) → ∀ j : Nat, j < 6 → g j = v := by
    intro N
    induction N with
    | zero => intro l a h; exact h.elim
    | succ N ih =>
      intro l a h hl hA
      replace h := fx_o h
      dsimp only [T_fill_6_5] at h
      rcases h with ⟨c, e⟩ | ⟨c, b, eb, y, ey, h⟩
      · intro j hj; rw [e]; exact hA j (by omega)
      · have hy : y.toInt = l.toInt + 1 := by rw [ey]; exact mi_addc (by decide) (by omega) (by omega)
        refine ih y b h (by omega) (fun j hj => ?_)
        rw [← eb, mi_cl]
        by_cases hk : j = l.toInt.toNat
        · rw [hk, up_eq]
        · rw [up_ne hk]; exact hA j (by omega)
  exact key _ _ _ h ⟨by decide, by decide⟩ (fun j hj => absurd hj (by have : (0 : Int32).toInt = 0 := (by decide); omega))
theorem fill25_sp {v : Int32} {f g : Nat → Int32} (h : R_fill_25 v f g) : ∀ j : Nat, j < 25 → g j = v := by
  have key : ∀ (N : Nat) (l : Int32) (a : Nat → Int32), fx (T_fill_25_5 v g) N (l, a) → (0 ≤ l.toInt ∧ l.toInt ≤ 25) → (∀ j : Nat, (j : Int) < l.toInt → a j = v) → ∀ j : Nat, j < 25 → g j = v := by
    intro N
    induction N with
    | zero => intro l a h; exact h.elim
    | succ N ih =>
      intro l a h hl hA
      replace h := fx_o h
      dsimp only [T_fill_25_5] at h
      rcases h with ⟨c, e⟩ | ⟨c, b, eb, y, ey, h⟩
      · intro j hj; rw [e]; exact hA j (by omega)
      · have hy : y.toInt = l.toInt + 1 := by rw [ey]; exact mi_addc (by decide) (by omega) (by omega)
        refine ih y b h (by omega) (fun j hj => ?_)
        rw [← eb, mi_cl]
        by_cases hk : j = l.toInt.toNat
        · rw [hk, up_eq]
        · rw [up_ne hk]; exact hA j (by omega)
  exact key _ _ _ h ⟨by decide, by decide⟩ (fun j hj => absurd hj (by have : (0 : Int32).toInt = 0 := (by decide); omega))
theorem fill30_sp {v : Int32} {f g : Nat → Int32} (h : R_fill_30 v f g) : ∀ j : Nat, j < 30 → g j = v := by
  have key : ∀ (N : Nat) (l : Int32) (a : Nat → Int32), fx (T_fill_30_5 v g) N (l, a) → (0 ≤ l.toInt ∧ l.toInt ≤ 30) → (∀ j : Nat, (j : Int) < l.toInt → a j = v) → ∀ j : Nat, j < 30 → g j = v := by
    intro N
    induction N with
    | zero => intro l a h; exact h.elim
    | succ N ih =>
      intro l a h hl hA
      replace h := fx_o h
      dsimp only [T_fill_30_5] at h
      rcases h with ⟨c, e⟩ | ⟨c, b, eb, y, ey, h⟩
      · intro j hj; rw [e]; exact hA j (by omega)
      · have hy : y.toInt = l.toInt + 1 := by rw [ey]; exact mi_addc (by decide) (by omega) (by omega)
        refine ih y b h (by omega) (fun j hj => ?_)
        rw [← eb, mi_cl]
        by_cases hk : j = l.toInt.toNat
        · rw [hk, up_eq]
        · rw [up_ne hk]; exact hA j (by omega)
  exact key _ _ _ h ⟨by decide, by decide⟩ (fun j hj => absurd hj (by have : (0 : Int32).toInt = 0 := (by decide); omega))
theorem bg_sp {cl lf sa sv ow gt st so u0 u1 u2 u3 u4 u5 : Nat → Int32} (h : R_k_begin cl lf sa sv ow gt st so u0 u1 u2 u3 u4 u5) : (∀ p : Nat, p < 5 → u0 p = cl p) ∧ (∀ j : Nat, j < 25 → u1 j = 0) ∧ (∀ j : Nat, j < 30 → u2 j = 0) ∧ (∀ a : Nat, a < 6 → u3 a = sa a) ∧ (∀ a : Nat, a < 6 → u4 a = -1) ∧ (∀ a : Nat, a < 6 → u5 a = 0) := by
  obtain ⟨g1, e1, g2, e2, g3, h3, g5, h5, rst_⟩ := h
  obtain ⟨g7, h7, g9, h9, d0, d1, d2, d3, rst_⟩ := rst_
  obtain ⟨d4, d5⟩ := rst_
  have k0 : Int32.toNatClampNeg (0 : Int32) = 0 := by decide
  have k5 : Int32.toNatClampNeg (5 : Int32) = 5 := by decide
  have k6 : Int32.toNatClampNeg (6 : Int32) = 6 := by decide
  rw [k0, k5] at e1
  rw [k0, k6] at e2
  refine ⟨fun p hp => ?_, fun j hj => ?_, fun j hj => ?_, fun a ha => ?_, fun a ha => ?_, fun a ha => ?_⟩
  · rw [d0, ← e1]; exact cpy_at hp
  · rw [d1]; exact fill25_sp h3 j hj
  · rw [d2]; exact fill30_sp h5 j hj
  · rw [d3, ← e2]; exact cpy_at ha
  · rw [d4]; exact fill6_sp h7 a ha
  · rw [d5]; exact fill6_sp h9 a ha
theorem bj_sp {X ac pa u0 u1 : Int32} {D cl sa lf sv so st gt ow u2 u3 u4 u5 u6 u7 : Nat → Int32} (hX : 0 ≤ X.toInt ∧ X.toInt ≤ 1) (hac : 0 ≤ ac.toInt ∧ ac.toInt ≤ 6) (hpa : 0 ≤ pa.toInt ∧ pa.toInt ≤ 5) (hC : ∀ i : Nat, (i : Int) < pa.toInt → D (36 * X.toInt.toNat + (6 + 2 * i)) = cl i) (hS : ∀ i : Nat, (i : Int) < ac.toInt → D (36 * X.toInt.toNat + (17 + 2 * i)) = sa i) (h : R_j_begin X D ac pa lf sv so st gt ow u0 u1 u2 u3 u4 u5 u6 u7) : u0 = D (36 * X.toInt.toNat + 3) ∧ u1 = (1 : Int32) <<< (ac &&& 31) - 1 ∧ (∀ p : Nat, (p : Int) < pa.toInt → u2 p = cl p) ∧ (∀ j : Nat, j < 25 → u3 j = 0) ∧ (∀ j : Nat, j < 30 → u4 j = 0) ∧ (∀ a : Nat, (a : Int) < ac.toInt → u5 a = sa a) ∧ (∀ a : Nat, a < 6 → u6 a = 0) ∧ (∀ a : Nat, a < 6 → u7 a = -1) := by
  have z0 : (0 : Int32).toInt = 0 := by decide
  obtain ⟨r1, h1, z4, e4, z5, e5, g6, h6, h⟩ := h
  have h1 := of_sp hX (by decide) h1
  have h6 := mo_sp hX hpa hC h6
  have last : ∀ (N : Nat) (l : Int32) (B C E P Q : Nat → Int32), fx (T_j_begin_89 r1 z5 g6 P Q ac X D u0 u1 u2 u3 u4 u5 u6 u7) N (l, B, C, E) → (0 ≤ l.toInt ∧ l.toInt ≤ 6) → (∀ a : Nat, (a : Int) < l.toInt → ((a : Int) < ac.toInt → B a = sa a) ∧ C a = 0 ∧ E a = -1) → u0 = r1 ∧ u1 = z5 ∧ u2 = g6 ∧ u3 = P ∧ u4 = Q ∧ (∀ a : Nat, a < 6 → ((a : Int) < ac.toInt → u5 a = sa a) ∧ u6 a = 0 ∧ u7 a = -1) := by
    intro N
    induction N with
    | zero => intro l B C E P Q h; exact h.elim
    | succ N ih =>
      intro l B C E P Q h hl hA
      replace h := fx_o h
      dsimp only [T_j_begin_89] at h
      rcases h with ⟨c, d0, d1, d2, d3, d4, d5, d6, d7⟩ | ⟨c, h⟩
      · exact ⟨d0, d1, d2, d3, d4, fun a ha => by rw [d5, d6, d7]; exact hA a (by omega)⟩
      · rcases h with ⟨c2, b0, f0, b1, f1, b2, f2, b3, f3, h⟩ | ⟨c2, b4, f4, b5, f5, b6, f6, b7, h7, b8, f8, b9, f9, b10, f10, b11, f11, h⟩
        · have g3 : b3.toInt = l.toInt + 1 := by rw [f3]; exact mi_addc (by decide) (by omega) (by omega)
          refine ih b3 b0 b1 b2 P Q h (by omega) (fun a ha => ?_)
          rw [← f0, ← f1, ← f2, mi_cl]
          by_cases q : a = l.toInt.toNat
          · rw [q, up_eq, up_eq, up_eq]; exact ⟨fun w => absurd w (by omega), rfl, rfl⟩
          · rw [up_ne q, up_ne q, up_ne q]; exact hA a (by omega)
        · have g4 : b4.toInt = 2 * l.toInt := by rw [f4]; exact mi_cmul (by decide) (by omega) (by omega)
          have g5 : b5.toInt = 16 + 2 * l.toInt := by rw [f5, mi_add (by rw [show (16 : Int32).toInt = 16 from by decide]; omega) (by rw [show (16 : Int32).toInt = 16 from by decide]; omega), g4]; rfl
          have g6_ : b6.toInt = 17 + 2 * l.toInt := by rw [f6, mi_addc (C := 1) (by decide) (by omega) (by omega), g5]; omega
          have g11 : b11.toInt = l.toInt + 1 := by rw [f11]; exact mi_addc (by decide) (by omega) (by omega)
          have v7 : b7 = sa l.toInt.toNat := by
            rw [of_sp hX (by omega) h7, show b6.toInt.toNat = 17 + 2 * l.toInt.toNat from by omega]
            exact hS _ (by omega)
          clear h7
          refine ih b11 b8 b9 b10 P Q h (by omega) (fun a ha => ?_)
          rw [← f8, ← f9, ← f10, mi_cl]
          by_cases q : a = l.toInt.toNat
          · rw [q, up_eq, up_eq, up_eq]; exact ⟨fun _ => v7, rfl, rfl⟩
          · rw [up_ne q, up_ne q, up_ne q]; exact hA a (by omega)
  have mid : ∀ (N : Nat) (l : Int32) (Q P : Nat → Int32), fx (T_j_begin_68 r1 z5 g6 P ac X D sv so st u0 u1 u2 u3 u4 u5 u6 u7) N (l, Q) → (0 ≤ l.toInt ∧ l.toInt ≤ 30) → (∀ j : Nat, (j : Int) < l.toInt → Q j = 0) → u0 = r1 ∧ u1 = z5 ∧ u2 = g6 ∧ u3 = P ∧ (∀ j : Nat, j < 30 → u4 j = 0) ∧ (∀ a : Nat, a < 6 → ((a : Int) < ac.toInt → u5 a = sa a) ∧ u6 a = 0 ∧ u7 a = -1) := by
    intro N
    induction N with
    | zero => intro l Q P h; exact h.elim
    | succ N ih =>
      intro l Q P h hl hA
      replace h := fx_o h
      dsimp only [T_j_begin_68] at h
      rcases h with ⟨c, h⟩ | ⟨c, b, eb, y, ey, h⟩
      · obtain ⟨d0, d1, d2, d3, d4, d5⟩ := last _ _ _ _ _ _ _ h ⟨by decide, by decide⟩ (fun a ha => absurd ha (by omega))
        exact ⟨d0, d1, d2, d3, fun j hj => by rw [d4]; exact hA j (by omega), d5⟩
      · have hy : y.toInt = l.toInt + 1 := by rw [ey]; exact mi_addc (by decide) (by omega) (by omega)
        refine ih y b P h (by omega) (fun j hj => ?_)
        rw [← eb, mi_cl]
        by_cases hk : j = l.toInt.toNat
        · rw [hk, up_eq]
        · rw [up_ne hk]; exact hA j (by omega)
  have first : ∀ (N : Nat) (l : Int32) (P : Nat → Int32), fx (T_j_begin_47 r1 z5 g6 ac X D sv so st gt u0 u1 u2 u3 u4 u5 u6 u7) N (l, P) → (0 ≤ l.toInt ∧ l.toInt ≤ 25) → (∀ j : Nat, (j : Int) < l.toInt → P j = 0) → u0 = r1 ∧ u1 = z5 ∧ u2 = g6 ∧ (∀ j : Nat, j < 25 → u3 j = 0) ∧ (∀ j : Nat, j < 30 → u4 j = 0) ∧ (∀ a : Nat, a < 6 → ((a : Int) < ac.toInt → u5 a = sa a) ∧ u6 a = 0 ∧ u7 a = -1) := by
    intro N
    induction N with
    | zero => intro l P h; exact h.elim
    | succ N ih =>
      intro l P h hl hA
      replace h := fx_o h
      dsimp only [T_j_begin_47] at h
      rcases h with ⟨c, h⟩ | ⟨c, b, eb, y, ey, h⟩
      · obtain ⟨d0, d1, d2, d3, d4, d5⟩ := mid _ _ _ _ h ⟨by decide, by decide⟩ (fun a ha => absurd ha (by omega))
        exact ⟨d0, d1, d2, fun j hj => by rw [d3]; exact hA j (by omega), d4, d5⟩
      · have hy : y.toInt = l.toInt + 1 := by rw [ey]; exact mi_addc (by decide) (by omega) (by omega)
        refine ih y b h (by omega) (fun j hj => ?_)
        rw [← eb, mi_cl]
        by_cases hk : j = l.toInt.toNat
        · rw [hk, up_eq]
        · rw [up_ne hk]; exact hA j (by omega)
  obtain ⟨d0, d1, d2, d3, d4, d5⟩ := first _ _ _ h ⟨by decide, by decide⟩ (fun a ha => absurd ha (by omega))
  exact ⟨by rw [d0, h1]; rfl, by rw [d1, e5, e4], fun p hp => by rw [d2]; exact h6 p hp, d3, d4, fun a ha => (d5 a (by omega)).1 ha, fun a ha => (d5 a ha).2.1, fun a ha => (d5 a ha).2.2⟩
