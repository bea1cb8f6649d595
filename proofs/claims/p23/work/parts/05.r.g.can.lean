/-! one deed: whether it can be -/
theorem pv_sp {a b u : Int32} {pr : Nat → Int32} {B : Nat} (ha : 0 ≤ a.toInt ∧ a.toInt ≤ 29) (hb : b.toInt = (B : Int)) (hB : B ≤ 3) (h : R_k_partv a b pr u) : u = pr (4 * a.toInt.toNat + B) := by
  obtain ⟨z1, e1, z2, e2, z3, e3, e⟩ := h
  have g1 : z1.toInt = a.toInt * 4 := by rw [e1]; exact mi_mulc (by decide) (by omega) (by omega)
  have g2 : z2.toInt = a.toInt * 4 + B := by rw [e2, mi_add (by omega) (by omega), g1, hb]
  rw [e, e3, mi_cl, g2, show (a.toInt * 4 + (B : Int)).toNat = 4 * a.toInt.toNat + B from by omega]
theorem do_sp {X a b u : Int32} {D pr : Nat → Int32} {de : Int32} {B : Nat} (hX : 0 ≤ X.toInt ∧ X.toInt ≤ 1) (hR : RB (fun j => D (121 * X.toInt.toNat + j)) de pr) (ha : 0 ≤ a.toInt ∧ a.toInt < de.toInt) (hb : b.toInt = (B : Int)) (hB : B ≤ 3) (h : R_j_deedOf X a b D u) : u = pr (4 * a.toInt.toNat + B) := by
  obtain ⟨z1, e1, z2, e2, z3, e3, z4, e4, z5, e5, z6, e6, e⟩ := h
  obtain ⟨-, hA, hde⟩ := hR
  have g1 : z1.toInt = 121 * X.toInt := by rw [e1]; exact mi_cmul (by decide) (by omega) (by omega)
  have g2 : z2.toInt = 121 * X.toInt + 1 := by rw [e2, mi_addc (C := 1) (by decide) (by omega) (by omega), g1]
  have g3 : z3.toInt = 4 * a.toInt := by rw [e3]; exact mi_cmul (by decide) (by omega) (by omega)
  have g4 : z4.toInt = 121 * X.toInt + 1 + 4 * a.toInt := by rw [e4, mi_add (by omega) (by omega), g2, g3]
  have g5 : z5.toInt = 121 * X.toInt + 1 + 4 * a.toInt + B := by rw [e5, mi_add (by omega) (by omega), g4, hb]
  have q := hA a.toInt.toNat (by omega) B (by omega)
  rw [e, e6, mi_cl, g5, show (121 * X.toInt + 1 + 4 * a.toInt + (B : Int)).toNat = 121 * X.toInt.toNat + (1 + 4 * a.toInt.toNat + B) from by omega]
  exact q
def CanD (pa hs : Int32) (lf : Nat → Int32) (ac : Int32) (st ow sv : Nat → Int32) (ch k x y z : Int32) : Prop := (k.toInt = 0 ∧ GvO pa hs lf x z ∧ LvO ac st y) ∨ (k.toInt = 1 ∧ GvO pa hs lf x z ∧ InO pa y) ∨ (k.toInt = 2 ∧ (GvO pa hs lf x z ∧ InO pa y) ∧ z.toInt ≤ (ow (5 * x.toInt.toNat + y.toInt.toNat)).toInt) ∨ (k.toInt = 3 ∧ LvO ac st x ∧ InO pa y ∧ z.toInt ≤ (sv x.toInt.toNat).toInt ∧ z.toInt ≤ ch.toInt) ∨ (k.toInt = 4 ∧ LvO ac st x) ∨ (k.toInt < 0 ∨ 4 < k.toInt)
theorem can_sp {a pa hs ac ch u : Int32} {pr lf st ow sv : Nat → Int32} (ha : 0 ≤ a.toInt ∧ a.toInt ≤ 29) (hpa : pa.toInt ≤ 5) (h : R_k_canBe a pr pa hs lf ac st ow sv ch u) : (CanD pa hs lf ac st ow sv ch (pr (4 * a.toInt.toNat)) (pr (4 * a.toInt.toNat + 1)) (pr (4 * a.toInt.toNat + 2)) (pr (4 * a.toInt.toNat + 3)) ∧ u = 1) ∨ (¬ CanD pa hs lf ac st ow sv ch (pr (4 * a.toInt.toNat)) (pr (4 * a.toInt.toNat + 1)) (pr (4 * a.toInt.toNat + 2)) (pr (4 * a.toInt.toNat + 3)) ∧ u = 0) := by
  obtain ⟨x, h1, y, h4, z, h7, k, h0, h⟩ := h
  have h1 := pv_sp (B := 1) ha (by decide) (by decide) h1
  have h4 := pv_sp (B := 2) ha (by decide) (by decide) h4
  have h7 := pv_sp (B := 3) ha (by decide) (by decide) h7
  have h0 := pv_sp (B := 0) ha (by decide) (by decide) h0
  rw [Nat.add_zero] at h0
  rw [← h0, ← h1, ← h4, ← h7]
  clear h0 h1 h4 h7
  unfold CanD
  rcases h with ⟨c, e⟩ | ⟨c, r, hr, h⟩ | ⟨c, r, hr, h⟩ | ⟨c, r, hr, h⟩ | ⟨c, r, hr, h⟩ | ⟨c, r, hr, h⟩
  · exact Or.inl ⟨Or.inr (Or.inr (Or.inr (Or.inr (Or.inr c)))), e⟩
  · have hr := cg_sp hr
    have no : ¬ (GvO pa hs lf x z ∧ LvO ac st y) → ¬ ((k.toInt = 0 ∧ GvO pa hs lf x z ∧ LvO ac st y) ∨ (k.toInt = 1 ∧ GvO pa hs lf x z ∧ InO pa y) ∨ (k.toInt = 2 ∧ (GvO pa hs lf x z ∧ InO pa y) ∧ z.toInt ≤ (ow (5 * x.toInt.toNat + y.toInt.toNat)).toInt) ∨ (k.toInt = 3 ∧ LvO ac st x ∧ InO pa y ∧ z.toInt ≤ (sv x.toInt.toNat).toInt ∧ z.toInt ≤ ch.toInt) ∨ (k.toInt = 4 ∧ LvO ac st x) ∨ (k.toInt < 0 ∨ 4 < k.toInt)) := by
      clear h
      intro n q
      rcases q with ⟨-, q⟩ | ⟨q, -⟩ | ⟨q, -⟩ | ⟨q, -⟩ | ⟨q, -⟩ | q
      · exact n q
      all_goals omega
    rcases h with ⟨c1, r2, hr2, h⟩ | ⟨c1, e⟩
    · rw [c1] at hr
      rcases hr with ⟨p, -⟩ | ⟨-, p⟩
      · have hr2 := lv_sp hr2
        rcases h with ⟨c2, e⟩ | ⟨c2, e⟩
        · rw [c2] at hr2
          rcases hr2 with ⟨p2, -⟩ | ⟨-, p2⟩
          · exact Or.inl ⟨Or.inl ⟨c, p, p2⟩, e⟩
          · exact absurd p2 one_ne
        · rw [c2] at hr2
          rcases hr2 with ⟨-, p2⟩ | ⟨p2, -⟩
          · exact absurd p2.symm one_ne
          · exact Or.inr ⟨no (fun q => p2 q.2), e⟩
      · exact absurd p one_ne
    · rw [c1] at hr
      rcases hr with ⟨-, p⟩ | ⟨p, -⟩
      · exact absurd p.symm one_ne
      · exact Or.inr ⟨no (fun q => p q.1), e⟩
  · have hr := cg_sp hr
    have no : ¬ (GvO pa hs lf x z ∧ InO pa y) → ¬ ((k.toInt = 0 ∧ GvO pa hs lf x z ∧ LvO ac st y) ∨ (k.toInt = 1 ∧ GvO pa hs lf x z ∧ InO pa y) ∨ (k.toInt = 2 ∧ (GvO pa hs lf x z ∧ InO pa y) ∧ z.toInt ≤ (ow (5 * x.toInt.toNat + y.toInt.toNat)).toInt) ∨ (k.toInt = 3 ∧ LvO ac st x ∧ InO pa y ∧ z.toInt ≤ (sv x.toInt.toNat).toInt ∧ z.toInt ≤ ch.toInt) ∨ (k.toInt = 4 ∧ LvO ac st x) ∨ (k.toInt < 0 ∨ 4 < k.toInt)) := by
      clear h
      intro n q
      rcases q with ⟨q, -⟩ | ⟨-, q⟩ | ⟨q, -⟩ | ⟨q, -⟩ | ⟨q, -⟩ | q
      · omega
      · exact n q
      all_goals omega
    rcases h with ⟨c1, r2, hr2, h⟩ | ⟨c1, e⟩
    · rw [c1] at hr
      rcases hr with ⟨p, -⟩ | ⟨-, p⟩
      · have hr2 := kp_sp hr2
        rcases h with ⟨c2, e⟩ | ⟨c2, e⟩
        · rw [c2] at hr2
          rcases hr2 with ⟨p2, -⟩ | ⟨-, p2⟩
          · exact Or.inl ⟨Or.inr (Or.inl ⟨c, p, p2⟩), e⟩
          · exact absurd p2 one_ne
        · rw [c2] at hr2
          rcases hr2 with ⟨-, p2⟩ | ⟨p2, -⟩
          · exact absurd p2.symm one_ne
          · exact Or.inr ⟨no (fun q => p2 q.2), e⟩
      · exact absurd p one_ne
    · rw [c1] at hr
      rcases hr with ⟨-, p⟩ | ⟨p, -⟩
      · exact absurd p.symm one_ne
      · exact Or.inr ⟨no (fun q => p q.1), e⟩
  · have hr := cg_sp hr
    have no : ¬ ((GvO pa hs lf x z ∧ InO pa y) ∧ z.toInt ≤ (ow (5 * x.toInt.toNat + y.toInt.toNat)).toInt) → ¬ ((k.toInt = 0 ∧ GvO pa hs lf x z ∧ LvO ac st y) ∨ (k.toInt = 1 ∧ GvO pa hs lf x z ∧ InO pa y) ∨ (k.toInt = 2 ∧ (GvO pa hs lf x z ∧ InO pa y) ∧ z.toInt ≤ (ow (5 * x.toInt.toNat + y.toInt.toNat)).toInt) ∨ (k.toInt = 3 ∧ LvO ac st x ∧ InO pa y ∧ z.toInt ≤ (sv x.toInt.toNat).toInt ∧ z.toInt ≤ ch.toInt) ∨ (k.toInt = 4 ∧ LvO ac st x) ∨ (k.toInt < 0 ∨ 4 < k.toInt)) := by
      clear h
      intro n q
      rcases q with ⟨q, -⟩ | ⟨q, -⟩ | ⟨-, q⟩ | ⟨q, -⟩ | ⟨q, -⟩ | q
      · omega
      · omega
      · exact n q
      all_goals omega
    rcases h with ⟨c1, r2, hr2, h⟩ | ⟨c1, e⟩
    · rw [c1] at hr
      rcases hr with ⟨p, -⟩ | ⟨-, p⟩
      · have hr2 := kp_sp hr2
        rcases h with ⟨c2, z1, f1, z2, f2, z3, f3, h⟩ | ⟨c2, e⟩
        · rw [c2] at hr2
          rcases hr2 with ⟨p2, -⟩ | ⟨-, p2⟩
          · have px := p.1
            have g1 : z1.toInt = x.toInt * 5 := by rw [f1]; exact mi_mulc (by decide) (by omega) (by omega)
            have g2 : z2.toInt = x.toInt * 5 + y.toInt := by rw [f2, mi_add (by omega) (by omega), g1]
            have i2 : Int32.toNatClampNeg z2 = 5 * x.toInt.toNat + y.toInt.toNat := by rw [mi_cl, g2]; omega
            rw [i2] at f3
            rw [f3] at h
            rcases h with ⟨c3, e⟩ | ⟨c3, e⟩
            · exact Or.inr ⟨no (fun q => absurd q.2 (by omega)), e⟩
            · exact Or.inl ⟨Or.inr (Or.inr (Or.inl ⟨c, ⟨p, p2⟩, c3⟩)), e⟩
          · exact absurd p2 one_ne
        · rw [c2] at hr2
          rcases hr2 with ⟨-, p2⟩ | ⟨p2, -⟩
          · exact absurd p2.symm one_ne
          · exact Or.inr ⟨no (fun q => p2 q.1.2), e⟩
      · exact absurd p one_ne
    · rw [c1] at hr
      rcases hr with ⟨-, p⟩ | ⟨p, -⟩
      · exact absurd p.symm one_ne
      · exact Or.inr ⟨no (fun q => p q.1.1), e⟩
  · have hr := lv_sp hr
    have no : ¬ (LvO ac st x ∧ InO pa y ∧ z.toInt ≤ (sv x.toInt.toNat).toInt ∧ z.toInt ≤ ch.toInt) → ¬ ((k.toInt = 0 ∧ GvO pa hs lf x z ∧ LvO ac st y) ∨ (k.toInt = 1 ∧ GvO pa hs lf x z ∧ InO pa y) ∨ (k.toInt = 2 ∧ (GvO pa hs lf x z ∧ InO pa y) ∧ z.toInt ≤ (ow (5 * x.toInt.toNat + y.toInt.toNat)).toInt) ∨ (k.toInt = 3 ∧ LvO ac st x ∧ InO pa y ∧ z.toInt ≤ (sv x.toInt.toNat).toInt ∧ z.toInt ≤ ch.toInt) ∨ (k.toInt = 4 ∧ LvO ac st x) ∨ (k.toInt < 0 ∨ 4 < k.toInt)) := by
      clear h
      intro n q
      rcases q with ⟨q, -⟩ | ⟨q, -⟩ | ⟨q, -⟩ | ⟨-, q⟩ | ⟨q, -⟩ | q
      · omega
      · omega
      · omega
      · exact n q
      all_goals omega
    rcases h with ⟨c1, r2, hr2, h⟩ | ⟨c1, e⟩
    · rw [c1] at hr
      rcases hr with ⟨p, -⟩ | ⟨-, p⟩
      · have hr2 := kp_sp hr2
        rcases h with ⟨c2, z1, f1, h⟩ | ⟨c2, e⟩
        · rw [c2] at hr2
          rcases hr2 with ⟨p2, -⟩ | ⟨-, p2⟩
          · rw [mi_cl] at f1
            rw [f1] at h
            rcases h with ⟨c3, e⟩ | ⟨c3, ⟨c4, e⟩ | ⟨c4, e⟩⟩
            · exact Or.inr ⟨no (fun q => absurd q.2.2.1 (by omega)), e⟩
            · exact Or.inr ⟨no (fun q => absurd q.2.2.2 (by omega)), e⟩
            · exact Or.inl ⟨Or.inr (Or.inr (Or.inr (Or.inl ⟨c, p, p2, c3, c4⟩))), e⟩
          · exact absurd p2 one_ne
        · rw [c2] at hr2
          rcases hr2 with ⟨-, p2⟩ | ⟨p2, -⟩
          · exact absurd p2.symm one_ne
          · exact Or.inr ⟨no (fun q => p2 q.2.1), e⟩
      · exact absurd p one_ne
    · rw [c1] at hr
      rcases hr with ⟨-, p⟩ | ⟨p, -⟩
      · exact absurd p.symm one_ne
      · exact Or.inr ⟨no (fun q => p q.1), e⟩
  · have hr := lv_sp hr
    rcases h with ⟨c1, e⟩ | ⟨c1, e⟩
    · rw [c1] at hr
      rcases hr with ⟨p, -⟩ | ⟨-, p⟩
      · exact Or.inl ⟨Or.inr (Or.inr (Or.inr (Or.inr (Or.inl ⟨c, p⟩)))), e⟩
      · exact absurd p one_ne
    · rw [c1] at hr
      rcases hr with ⟨-, p⟩ | ⟨p, -⟩
      · exact absurd p.symm one_ne
      · refine Or.inr ⟨fun q => ?_, e⟩
        rcases q with ⟨q, -⟩ | ⟨q, -⟩ | ⟨q, -⟩ | ⟨q, -⟩ | ⟨-, q⟩ | q
        · omega
        · omega
        · omega
        · omega
        · exact p q
        · omega
