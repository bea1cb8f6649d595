/-! what is told keeps its ranges -/
def GdT (pa ac us ra ch bo : Int32) (cl ha hu sa ak fl : Nat → Int32) : Prop := ((0 ≤ pa.toInt ∧ pa.toInt ≤ 5) ∧ (0 ≤ ac.toInt ∧ ac.toInt ≤ 6) ∧ (0 ≤ us.toInt ∧ us.toInt ≤ 4)) ∧ (∀ i : Nat, (i : Int) < pa.toInt → (0 ≤ (cl i).toInt ∧ (cl i).toInt ≤ 99) ∧ (1 ≤ (ha i).toInt ∧ (ha i).toInt ≤ 2)) ∧ (∀ i : Nat, (i : Int) < ac.toInt → (0 ≤ (hu i).toInt ∧ (hu i).toInt ≤ 40) ∧ (0 ≤ (sa i).toInt ∧ (sa i).toInt ≤ 400)) ∧ (∀ i : Nat, (i : Int) < us.toInt → (0 ≤ (fl i).toInt ∧ (fl i).toInt ≤ (ak i).toInt) ∧ (ak i).toInt ≤ 30) ∧ (0 ≤ ra.toInt ∧ ra.toInt ≤ 50) ∧ (0 ≤ ch.toInt ∧ ch.toInt ≤ 999) ∧ (0 ≤ bo.toInt ∧ bo.toInt ≤ 20)
def DdO (k x y z : Int32) : Prop := (k.toInt = 0 ∧ (0 ≤ x.toInt ∧ x.toInt ≤ 4) ∧ (0 ≤ y.toInt ∧ y.toInt ≤ 5) ∧ (1 ≤ z.toInt ∧ z.toInt ≤ 99)) ∨ ((k.toInt = 1 ∨ k.toInt = 2) ∧ (0 ≤ x.toInt ∧ x.toInt ≤ 4) ∧ (0 ≤ y.toInt ∧ y.toInt ≤ 4) ∧ y.toInt ≠ x.toInt ∧ (1 ≤ z.toInt ∧ z.toInt ≤ 99)) ∨ (k.toInt = 3 ∧ (0 ≤ x.toInt ∧ x.toInt ≤ 5) ∧ (0 ≤ y.toInt ∧ y.toInt ≤ 4) ∧ (1 ≤ z.toInt ∧ z.toInt ≤ 99)) ∨ (k.toInt = 4 ∧ (0 ≤ x.toInt ∧ x.toInt ≤ 5) ∧ (1 ≤ y.toInt ∧ y.toInt ≤ 99)) ∨ (k.toInt = 5 ∨ k.toInt = 6)
def GdB (de : Int32) (pr : Nat → Int32) : Prop := (0 ≤ de.toInt ∧ de.toInt ≤ 30) ∧ ∀ i : Nat, (i : Int) < de.toInt → DdO (pr (4 * i)) (pr (4 * i + 1)) (pr (4 * i + 2)) (pr (4 * i + 3))
def GdD (mi : Int32) (hv : Nat → Int32) : Prop := (0 ≤ mi.toInt ∧ mi.toInt ≤ 6) ∧ ∀ i : Nat, (i : Int) < mi.toInt → 0 ≤ (hv i).toInt ∧ (hv i).toInt ≤ 10
def GdA (pa ac us ra ch bo : Int32) (cl ha hu sa ak fl : Nat → Int32) (de : Int32) (pr : Nat → Int32) (mi : Int32) (hv : Nat → Int32) : Prop := GdT pa ac us ra ch bo cl ha hu sa ak fl ∧ GdB de pr ∧ GdD mi hv
theorem fl_le (j : Nat) : 0 ≤ (fl_.getD j 0).toInt ∧ (fl_.getD j 0).toInt ≤ 14 := by
  match j with
  | 0 => decide
  | 1 => decide
  | 2 => decide
  | 3 => decide
  | j + 4 => exact (by decide : 0 ≤ (0 : Int32).toInt ∧ (0 : Int32).toInt ≤ 14)
theorem kdr {a to fr k : Int32} {t : Nat → Int32} (h : R_k_kindOf a to fr t k) : k.toInt = -1 ∨ (0 ≤ k.toInt ∧ k.toInt ≤ 13) := by
  obtain ⟨z2, e2, z4, e4, h⟩ := h
  have key : ∀ (N : Nat) (l : Int32), fx (T_k_kindOf_22 a to fr t k) N l → 0 ≤ l.toInt → l.toInt ≤ 14 → k.toInt = -1 ∨ (0 ≤ k.toInt ∧ k.toInt ≤ 13) := by
    intro N
    induction N with
    | zero => intro l h; exact h.elim
    | succ N ih =>
      intro l h h0 h14
      replace h := fx_o h
      dsimp only [T_k_kindOf_22] at h
      obtain ⟨b0, e0, b1, e1, h⟩ := h
      have hb := fl_le (Int32.toNatClampNeg b0)
      rw [← e1] at hb
      rcases h with ⟨c, e⟩ | ⟨c, w, -, b3, -, ⟨c3, b4, e4, h⟩ | ⟨c3, e⟩⟩
      · left; rw [e]; decide
      · have g : b4.toInt = l.toInt + 1 := by rw [e4]; exact mi_addc (by decide) (by omega) (by omega)
        exact ih b4 h (by omega) (by omega)
      · right; rw [e]; omega
  have hb := fl_le (Int32.toNatClampNeg a)
  rw [← e4] at hb
  exact key _ _ h (by omega) (by omega)
def Pk (k : Nat) (nm : Nat → Int32) (j : Nat) : Prop := ((le_.getD (3 * k + j) 0).toInt ≤ (nm j).toInt ∧ (nm j).toInt ≤ (hi_.getD (3 * k + j) 0).toInt) ∧ (j = 1 → k = 2 → (nm 1).toInt ≤ (nm 0).toInt) ∧ (j = 1 → (k = 7 ∨ k = 8) → (nm 1).toInt ≠ (nm 0).toInt)
theorem cb_ok {k b u : Int32} {nm : Nat → Int32} (hk : 0 ≤ k.toInt ∧ k.toInt ≤ 13) (hb : 0 ≤ b.toInt ∧ b.toInt ≤ 2) (h : R_k_cannotBe nm b k u) (hu : u.toInt = 0) : Pk k.toInt.toNat nm b.toInt.toNat := by
  obtain ⟨z1, e1, z2, e2, z3, e3, z4, e4, h⟩ := h
  have one : (1 : Int32).toInt = 1 := by decide
  have hz : Int32.toNatClampNeg (0 : Int32) = 0 := by decide
  have g2 : z2.toInt = k.toInt * 3 := by rw [e2]; exact mi_mulc (by decide) (by omega) (by omega)
  have g3 : z3.toInt = k.toInt * 3 + b.toInt := by rw [e3, mi_add (by omega) (by omega), g2]
  have i3 : Int32.toNatClampNeg z3 = 3 * k.toInt.toNat + b.toInt.toNat := by rw [mi_cl, g3]; omega
  rw [i3] at e4
  rw [mi_cl] at e1
  rcases h with ⟨c, e⟩ | ⟨c, z8, e8, z9, e9, z10, e10, h⟩
  · rw [e, one] at hu; exact absurd hu (by decide)
  · have g8 : z8.toInt = k.toInt * 3 := by rw [e8]; exact mi_mulc (by decide) (by omega) (by omega)
    have g9 : z9.toInt = k.toInt * 3 + b.toInt := by rw [e9, mi_add (by omega) (by omega), g8]
    have i9 : Int32.toNatClampNeg z9 = 3 * k.toInt.toNat + b.toInt.toNat := by rw [mi_cl, g9]; clear h; omega
    rw [i9] at e10
    rcases h with ⟨c2, h⟩ | ⟨c2, e⟩
    · refine ⟨⟨by rw [← e4, ← e1]; exact c, by rw [← e10, ← e1]; exact c2⟩, ?_, ?_⟩
      · intro j1 k2
        rw [j1] at e1
        rcases h with ⟨c3, h⟩ | ⟨c3, -⟩
        · rcases h with ⟨c4, -⟩ | ⟨c4, z29, e29, h⟩
          · omega
          · rcases h with ⟨c5, -⟩ | ⟨c5, e⟩
            · rw [hz] at e29; rw [e1, e29] at c5; exact c5
            · rw [e, one] at hu; exact absurd hu (by decide)
        · omega
      · intro j1 k7
        rw [j1] at e1
        rcases h with ⟨c3, h⟩ | ⟨c3, -⟩
        · rcases h with ⟨c4, h⟩ | ⟨c4, -⟩
          · rcases h with ⟨c5, z18, e18, h⟩ | ⟨c5, h⟩
            · rcases h with ⟨c6, -⟩ | ⟨c6, e⟩
              · rw [hz] at e18; rw [e1, e18] at c6; exact c6
              · rw [e, one] at hu; exact absurd hu (by decide)
            · rcases h with ⟨c6, -⟩ | ⟨c6, z25, e25, h⟩
              · omega
              · rcases h with ⟨c7, -⟩ | ⟨c7, e⟩
                · rw [hz] at e25; rw [e1, e25] at c7; exact c7
                · rw [e, one] at hu; exact absurd hu (by decide)
          · omega
        · omega
    · rw [e, one] at hu; exact absurd hu (by decide)
theorem gd_deed {de k a b d u : Int32} {pr v : Nat → Int32} (hG : GdB de pr) (hd : DdO k a b d) (h : R_k_addDeed de pr k a b d u v) : GdB u v := by
  obtain ⟨r, G⟩ := hG
  rcases h with ⟨c, e1, e2⟩ | ⟨c, z2, f2, g3, f3, z4, f4, g5, f5, z6, f6, g7, f7, z8, f8, g9, f9, z10, f10, e1, e2⟩
  · subst e1; subst e2; exact ⟨r, G⟩
  · have q2 : z2.toInt = de.toInt * 4 := by rw [f2]; exact mi_mulc (by decide) (by omega) (by omega)
    have q4 : z4.toInt = de.toInt * 4 + 1 := by rw [f4, mi_addc (C := 1) (by decide) (by omega) (by omega), q2]
    have q6 : z6.toInt = de.toInt * 4 + 2 := by rw [f6, mi_addc (C := 2) (by decide) (by omega) (by omega), q2]
    have q8 : z8.toInt = de.toInt * 4 + 3 := by rw [f8, mi_addc (C := 3) (by decide) (by omega) (by omega), q2]
    have q10 : z10.toInt = de.toInt + 1 := by rw [f10]; exact mi_addc (by decide) (by omega) (by omega)
    have i2 : Int32.toNatClampNeg z2 = 4 * de.toInt.toNat := by rw [mi_cl, q2]; omega
    have i4 : Int32.toNatClampNeg z4 = 4 * de.toInt.toNat + 1 := by rw [mi_cl, q4]; omega
    have i6 : Int32.toNatClampNeg z6 = 4 * de.toInt.toNat + 2 := by rw [mi_cl, q6]; omega
    have i8 : Int32.toNatClampNeg z8 = 4 * de.toInt.toNat + 3 := by rw [mi_cl, q8]; omega
    rw [i2] at f3; rw [i4] at f5; rw [i6] at f7; rw [i8] at f9
    subst e1
    refine ⟨by omega, fun i hi => ?_⟩
    by_cases q : i = de.toInt.toNat
    · subst q
      rw [e2, ← f9, ← f7, ← f5, ← f3]
      rw [up_ne (j := 4 * de.toInt.toNat) (by omega), up_ne (j := 4 * de.toInt.toNat) (by omega), up_ne (j := 4 * de.toInt.toNat) (by omega), up_eq, up_ne (j := 4 * de.toInt.toNat + 1) (by omega), up_ne (j := 4 * de.toInt.toNat + 1) (by omega), up_eq, up_ne (j := 4 * de.toInt.toNat + 2) (by omega), up_eq, up_eq]
      exact hd
    · rw [e2, ← f9, ← f7, ← f5, ← f3]
      have far : ∀ n : Nat, 4 * i ≤ n → n < 4 * i + 4 → upd (upd (upd (upd pr (4 * de.toInt.toNat) k) (4 * de.toInt.toNat + 1) a) (4 * de.toInt.toNat + 2) b) (4 * de.toInt.toNat + 3) d n = pr n := fun n h1 h2 => by
        rw [up_ne (by omega), up_ne (by omega), up_ne (by omega), up_ne (by omega)]
      rw [far (4 * i) (by omega) (by omega), far (4 * i + 1) (by omega) (by omega), far (4 * i + 2) (by omega) (by omega), far (4 * i + 3) (by omega) (by omega)]
      exact G i (by omega)
theorem gd_min {mi a u : Int32} {hv v : Nat → Int32} (hG : GdD mi hv) (ha : 0 ≤ a.toInt ∧ a.toInt ≤ 10) (h : R_k_addMinute mi hv a u v) : GdD u v := by
  obtain ⟨r, G⟩ := hG
  rcases h with ⟨c, e1, e2⟩ | ⟨c, g2, f2, z3, f3, e1, e2⟩
  · subst e1; subst e2; exact ⟨r, G⟩
  · have q3 : z3.toInt = mi.toInt + 1 := by rw [f3]; exact mi_addc (by decide) (by omega) (by omega)
    subst e1
    refine ⟨by omega, fun i hi => ?_⟩
    rw [e2, ← f2, mi_cl]
    by_cases q : i = mi.toInt.toNat
    · subst q; rw [up_eq]; exact ha
    · rw [up_ne q]; exact G i (by omega)
theorem gd_palm {c0 a b u : Int32} {f g v w : Nat → Int32} (r : 0 ≤ c0.toInt ∧ c0.toInt ≤ 5) (G : ∀ i : Nat, (i : Int) < c0.toInt → (0 ≤ (f i).toInt ∧ (f i).toInt ≤ 99) ∧ (1 ≤ (g i).toInt ∧ (g i).toInt ≤ 2)) (hn : (0 ≤ a.toInt ∧ a.toInt ≤ 99) ∧ (1 ≤ b.toInt ∧ b.toInt ≤ 2)) (h : R_k_addPalm c0 f g a b u v w) : (0 ≤ u.toInt ∧ u.toInt ≤ 5) ∧ ∀ i : Nat, (i : Int) < u.toInt → (0 ≤ (v i).toInt ∧ (v i).toInt ≤ 99) ∧ (1 ≤ (w i).toInt ∧ (w i).toInt ≤ 2) := by
  rcases h with ⟨c, e1, e2, e3⟩ | ⟨c, g2, f2, g3, f3, z4, f4, e1, e2, e3⟩
  · subst e1; subst e2; subst e3; exact ⟨r, G⟩
  · have q4 : z4.toInt = c0.toInt + 1 := by rw [f4]; exact mi_addc (by decide) (by omega) (by omega)
    subst e1
    refine ⟨by omega, fun i hi => ?_⟩
    rw [e2, e3, ← f2, ← f3, mi_cl]
    by_cases q : i = c0.toInt.toNat
    · rw [q, up_eq, up_eq]; exact hn
    · rw [up_ne q, up_ne q]; exact G i (by omega)
theorem gd_actor {c0 a b u : Int32} {f g v w : Nat → Int32} (r : 0 ≤ c0.toInt ∧ c0.toInt ≤ 6) (G : ∀ i : Nat, (i : Int) < c0.toInt → (0 ≤ (f i).toInt ∧ (f i).toInt ≤ 40) ∧ (0 ≤ (g i).toInt ∧ (g i).toInt ≤ 400)) (hn : (0 ≤ a.toInt ∧ a.toInt ≤ 40) ∧ (0 ≤ b.toInt ∧ b.toInt ≤ 400)) (h : R_k_addActor c0 f g a b u v w) : (0 ≤ u.toInt ∧ u.toInt ≤ 6) ∧ ∀ i : Nat, (i : Int) < u.toInt → (0 ≤ (v i).toInt ∧ (v i).toInt ≤ 40) ∧ (0 ≤ (w i).toInt ∧ (w i).toInt ≤ 400) := by
  rcases h with ⟨c, e1, e2, e3⟩ | ⟨c, g2, f2, g3, f3, z4, f4, e1, e2, e3⟩
  · subst e1; subst e2; subst e3; exact ⟨r, G⟩
  · have q4 : z4.toInt = c0.toInt + 1 := by rw [f4]; exact mi_addc (by decide) (by omega) (by omega)
    subst e1
    refine ⟨by omega, fun i hi => ?_⟩
    rw [e2, e3, ← f2, ← f3, mi_cl]
    by_cases q : i = c0.toInt.toNat
    · rw [q, up_eq, up_eq]; exact hn
    · rw [up_ne q, up_ne q]; exact G i (by omega)
theorem gd_usurer {c0 a b u : Int32} {f g v w : Nat → Int32} (r : 0 ≤ c0.toInt ∧ c0.toInt ≤ 4) (G : ∀ i : Nat, (i : Int) < c0.toInt → (0 ≤ (g i).toInt ∧ (g i).toInt ≤ (f i).toInt) ∧ (f i).toInt ≤ 30) (hn : (0 ≤ b.toInt ∧ b.toInt ≤ a.toInt) ∧ a.toInt ≤ 30) (h : R_k_addUsurer c0 f g a b u v w) : (0 ≤ u.toInt ∧ u.toInt ≤ 4) ∧ ∀ i : Nat, (i : Int) < u.toInt → (0 ≤ (w i).toInt ∧ (w i).toInt ≤ (v i).toInt) ∧ (v i).toInt ≤ 30 := by
  rcases h with ⟨c, e1, e2, e3⟩ | ⟨c, g2, f2, g3, f3, z4, f4, e1, e2, e3⟩
  · subst e1; subst e2; subst e3; exact ⟨r, G⟩
  · have q4 : z4.toInt = c0.toInt + 1 := by rw [f4]; exact mi_addc (by decide) (by omega) (by omega)
    subst e1
    refine ⟨by omega, fun i hi => ?_⟩
    rw [e2, e3, ← f2, ← f3, mi_cl]
    by_cases q : i = c0.toInt.toNat
    · rw [q, up_eq, up_eq]; exact hn
    · rw [up_ne q, up_ne q]; exact G i (by omega)
section GOOD
variable {n pa ac us ra ch bo de mi : Int32} {t cl ha hu sa ak fl pr hv : Nat → Int32}
variable {u0 : Int32} {u1 : Int32} {u2 : Int32} {u3 : Int32} {u4 : Int32} {u5 : Int32} {u6 : Int32} {u7 : Int32} {u8 : Int32} {u9 : Int32} {u10 : Int32} {u11 : Int32} {u12 : Int32} {u13 : Nat → Int32} {u14 : Nat → Int32} {u15 : Nat → Int32} {u16 : Nat → Int32} {u17 : Nat → Int32} {u18 : Nat → Int32} {u19 : Int32} {u20 : Nat → Int32} {u21 : Int32} {u22 : Nat → Int32} {u23 : Nat → Int32}
theorem kl_good {k : Int32} {nm : Nat → Int32} (hk : 0 ≤ k.toInt ∧ k.toInt ≤ 13) (H : ∀ j : Nat, (j : Int) < (nu_.getD k.toInt.toNat 0).toInt → Pk k.toInt.toNat nm j) (h : R_k_keepLine k nm pa cl ha ac us ra ch bo hu sa ak fl de pr mi hv u7 u8 u9 u10 u11 u12 u13 u14 u15 u16 u17 u18 u19 u20 u21 u22) (G : GdA pa ac us ra ch bo cl ha hu sa ak fl de pr mi hv) : GdA u7 u8 u9 u10 u11 u12 u13 u14 u15 u16 u17 u18 u19 u20 u21 u22 := by
  obtain ⟨⟨⟨r1, r2, r3⟩, A, B, C, ga, gc, gb⟩, GB, GD⟩ := G
  rcases (by omega : k.toInt = 0 ∨ k.toInt = 1 ∨ k.toInt = 2 ∨ k.toInt = 3 ∨ k.toInt = 4 ∨ k.toInt = 5 ∨ k.toInt = 6 ∨ k.toInt = 7 ∨ k.toInt = 8 ∨ k.toInt = 9 ∨ k.toInt = 10 ∨ k.toInt = 11 ∨ k.toInt = 12 ∨ k.toInt = 13) with e | e | e | e | e | e | e | e | e | e | e | e | e | e
  · have ek : k = 0 := mi_eq (by rw [e]; decide)
    subst ek
    have ez : (0 : Int32).toInt.toNat = 0 := by decide
    rw [ez] at H
    have p0 := H 0 (by decide)
    have q0 := p0.1
    rw [show (le_.getD (3 * 0 + 0) 0).toInt = 0 from by decide, show (hi_.getD (3 * 0 + 0) 0).toInt = 99 from by decide] at q0
    have p1 := H 1 (by decide)
    have q1 := p1.1
    rw [show (le_.getD (3 * 0 + 1) 0).toInt = 1 from by decide, show (hi_.getD (3 * 0 + 1) 0).toInt = 2 from by decide] at q1
    obtain ⟨hk, e8, e9, e10, e11, e12, e15, e16, rst_⟩ := kl_0 h
    obtain ⟨e17, e18, e19, e20, e21, e22⟩ := rst_
    subst e8; subst e9; subst e10; subst e11; subst e12; subst e15; subst e16; subst e17; subst e18; subst e19; subst e20; subst e21; subst e22
    have g := gd_palm r1 A ⟨q0, q1⟩ hk
    exact ⟨⟨⟨g.1, r2, r3⟩, g.2, B, C, ga, gc, gb⟩, GB, GD⟩
  · have ek : k = 1 := mi_eq (by rw [e]; decide)
    subst ek
    have ez : (1 : Int32).toInt.toNat = 1 := by decide
    rw [ez] at H
    have p0 := H 0 (by decide)
    have q0 := p0.1
    rw [show (le_.getD (3 * 1 + 0) 0).toInt = 0 from by decide, show (hi_.getD (3 * 1 + 0) 0).toInt = 40 from by decide] at q0
    have p1 := H 1 (by decide)
    have q1 := p1.1
    rw [show (le_.getD (3 * 1 + 1) 0).toInt = 0 from by decide, show (hi_.getD (3 * 1 + 1) 0).toInt = 400 from by decide] at q1
    obtain ⟨hk, e7, e9, e10, e11, e12, e13, e14, rst_⟩ := kl_1 h
    obtain ⟨e17, e18, e19, e20, e21, e22⟩ := rst_
    subst e7; subst e9; subst e10; subst e11; subst e12; subst e13; subst e14; subst e17; subst e18; subst e19; subst e20; subst e21; subst e22
    have g := gd_actor r2 B ⟨q0, q1⟩ hk
    exact ⟨⟨⟨r1, g.1, r3⟩, A, g.2, C, ga, gc, gb⟩, GB, GD⟩
  · have ek : k = 2 := mi_eq (by rw [e]; decide)
    subst ek
    have ez : (2 : Int32).toInt.toNat = 2 := by decide
    rw [ez] at H
    have p0 := H 0 (by decide)
    have q0 := p0.1
    rw [show (le_.getD (3 * 2 + 0) 0).toInt = 0 from by decide, show (hi_.getD (3 * 2 + 0) 0).toInt = 30 from by decide] at q0
    have p1 := H 1 (by decide)
    have q1 := p1.1
    rw [show (le_.getD (3 * 2 + 1) 0).toInt = 0 from by decide, show (hi_.getD (3 * 2 + 1) 0).toInt = 30 from by decide] at q1
    obtain ⟨hk, e7, e8, e10, e11, e12, e13, e14, rst_⟩ := kl_2 h
    obtain ⟨e15, e16, e19, e20, e21, e22⟩ := rst_
    subst e7; subst e8; subst e10; subst e11; subst e12; subst e13; subst e14; subst e15; subst e16; subst e19; subst e20; subst e21; subst e22
    have g := gd_usurer r3 C ⟨⟨q1.1, p1.2.1 rfl rfl⟩, q0.2⟩ hk
    exact ⟨⟨⟨r1, r2, g.1⟩, A, B, g.2, ga, gc, gb⟩, GB, GD⟩
  · have ek : k = 3 := mi_eq (by rw [e]; decide)
    subst ek
    have ez : (3 : Int32).toInt.toNat = 3 := by decide
    rw [ez] at H
    have p0 := H 0 (by decide)
    have q0 := p0.1
    rw [show (le_.getD (3 * 3 + 0) 0).toInt = 0 from by decide, show (hi_.getD (3 * 3 + 0) 0).toInt = 50 from by decide] at q0
    obtain ⟨hk, e7, e8, e9, e11, e12, e13, e14, rst_⟩ := kl_3 h
    obtain ⟨e15, e16, e17, e18, e19, e20, e21, e22⟩ := rst_
    subst e7; subst e8; subst e9; subst e11; subst e12; subst e13; subst e14; subst e15; subst e16; subst e17; subst e18; subst e19; subst e20; subst e21; subst e22
    subst hk
    exact ⟨⟨⟨r1, r2, r3⟩, A, B, C, q0, gc, gb⟩, GB, GD⟩
  · have ek : k = 4 := mi_eq (by rw [e]; decide)
    subst ek
    have ez : (4 : Int32).toInt.toNat = 4 := by decide
    rw [ez] at H
    have p0 := H 0 (by decide)
    have q0 := p0.1
    rw [show (le_.getD (3 * 4 + 0) 0).toInt = 0 from by decide, show (hi_.getD (3 * 4 + 0) 0).toInt = 999 from by decide] at q0
    obtain ⟨hk, e7, e8, e9, e10, e12, e13, e14, rst_⟩ := kl_4 h
    obtain ⟨e15, e16, e17, e18, e19, e20, e21, e22⟩ := rst_
    subst e7; subst e8; subst e9; subst e10; subst e12; subst e13; subst e14; subst e15; subst e16; subst e17; subst e18; subst e19; subst e20; subst e21; subst e22
    subst hk
    exact ⟨⟨⟨r1, r2, r3⟩, A, B, C, ga, q0, gb⟩, GB, GD⟩
  · have ek : k = 5 := mi_eq (by rw [e]; decide)
    subst ek
    have ez : (5 : Int32).toInt.toNat = 5 := by decide
    rw [ez] at H
    have p0 := H 0 (by decide)
    have q0 := p0.1
    rw [show (le_.getD (3 * 5 + 0) 0).toInt = 0 from by decide, show (hi_.getD (3 * 5 + 0) 0).toInt = 20 from by decide] at q0
    obtain ⟨hk, e7, e8, e9, e10, e11, e13, e14, rst_⟩ := kl_5 h
    obtain ⟨e15, e16, e17, e18, e19, e20, e21, e22⟩ := rst_
    subst e7; subst e8; subst e9; subst e10; subst e11; subst e13; subst e14; subst e15; subst e16; subst e17; subst e18; subst e19; subst e20; subst e21; subst e22
    subst hk
    exact ⟨⟨⟨r1, r2, r3⟩, A, B, C, ga, gc, q0⟩, GB, GD⟩
  · have ek : k = 6 := mi_eq (by rw [e]; decide)
    subst ek
    have ez : (6 : Int32).toInt.toNat = 6 := by decide
    rw [ez] at H
    have p0 := H 0 (by decide)
    have q0 := p0.1
    rw [show (le_.getD (3 * 6 + 0) 0).toInt = 0 from by decide, show (hi_.getD (3 * 6 + 0) 0).toInt = 4 from by decide] at q0
    have p1 := H 1 (by decide)
    have q1 := p1.1
    rw [show (le_.getD (3 * 6 + 1) 0).toInt = 0 from by decide, show (hi_.getD (3 * 6 + 1) 0).toInt = 5 from by decide] at q1
    have p2 := H 2 (by decide)
    have q2 := p2.1
    rw [show (le_.getD (3 * 6 + 2) 0).toInt = 1 from by decide, show (hi_.getD (3 * 6 + 2) 0).toInt = 99 from by decide] at q2
    obtain ⟨hk, e7, e8, e9, e10, e11, e12, e13, rst_⟩ := kl_6 h
    obtain ⟨e14, e15, e16, e17, e18, e21, e22⟩ := rst_
    subst e7; subst e8; subst e9; subst e10; subst e11; subst e12; subst e13; subst e14; subst e15; subst e16; subst e17; subst e18; subst e21; subst e22
    exact ⟨⟨⟨r1, r2, r3⟩, A, B, C, ga, gc, gb⟩, gd_deed GB (Or.inl ⟨by decide, q0, q1, q2⟩) hk, GD⟩
  · have ek : k = 7 := mi_eq (by rw [e]; decide)
    subst ek
    have ez : (7 : Int32).toInt.toNat = 7 := by decide
    rw [ez] at H
    have p0 := H 0 (by decide)
    have q0 := p0.1
    rw [show (le_.getD (3 * 7 + 0) 0).toInt = 0 from by decide, show (hi_.getD (3 * 7 + 0) 0).toInt = 4 from by decide] at q0
    have p1 := H 1 (by decide)
    have q1 := p1.1
    rw [show (le_.getD (3 * 7 + 1) 0).toInt = 0 from by decide, show (hi_.getD (3 * 7 + 1) 0).toInt = 4 from by decide] at q1
    have p2 := H 2 (by decide)
    have q2 := p2.1
    rw [show (le_.getD (3 * 7 + 2) 0).toInt = 1 from by decide, show (hi_.getD (3 * 7 + 2) 0).toInt = 99 from by decide] at q2
    obtain ⟨hk, e7, e8, e9, e10, e11, e12, e13, rst_⟩ := kl_7 h
    obtain ⟨e14, e15, e16, e17, e18, e21, e22⟩ := rst_
    subst e7; subst e8; subst e9; subst e10; subst e11; subst e12; subst e13; subst e14; subst e15; subst e16; subst e17; subst e18; subst e21; subst e22
    exact ⟨⟨⟨r1, r2, r3⟩, A, B, C, ga, gc, gb⟩, gd_deed GB (Or.inr (Or.inl ⟨Or.inl (by decide), q0, q1, p1.2.2 rfl (Or.inl rfl), q2⟩)) hk, GD⟩
  · have ek : k = 8 := mi_eq (by rw [e]; decide)
    subst ek
    have ez : (8 : Int32).toInt.toNat = 8 := by decide
    rw [ez] at H
    have p0 := H 0 (by decide)
    have q0 := p0.1
    rw [show (le_.getD (3 * 8 + 0) 0).toInt = 0 from by decide, show (hi_.getD (3 * 8 + 0) 0).toInt = 4 from by decide] at q0
    have p1 := H 1 (by decide)
    have q1 := p1.1
    rw [show (le_.getD (3 * 8 + 1) 0).toInt = 0 from by decide, show (hi_.getD (3 * 8 + 1) 0).toInt = 4 from by decide] at q1
    have p2 := H 2 (by decide)
    have q2 := p2.1
    rw [show (le_.getD (3 * 8 + 2) 0).toInt = 1 from by decide, show (hi_.getD (3 * 8 + 2) 0).toInt = 99 from by decide] at q2
    obtain ⟨hk, e7, e8, e9, e10, e11, e12, e13, rst_⟩ := kl_8 h
    obtain ⟨e14, e15, e16, e17, e18, e21, e22⟩ := rst_
    subst e7; subst e8; subst e9; subst e10; subst e11; subst e12; subst e13; subst e14; subst e15; subst e16; subst e17; subst e18; subst e21; subst e22
    exact ⟨⟨⟨r1, r2, r3⟩, A, B, C, ga, gc, gb⟩, gd_deed GB (Or.inr (Or.inl ⟨Or.inr (by decide), q0, q1, p1.2.2 rfl (Or.inr rfl), q2⟩)) hk, GD⟩
  · have ek : k = 9 := mi_eq (by rw [e]; decide)
    subst ek
    have ez : (9 : Int32).toInt.toNat = 9 := by decide
    rw [ez] at H
    have p0 := H 0 (by decide)
    have q0 := p0.1
    rw [show (le_.getD (3 * 9 + 0) 0).toInt = 0 from by decide, show (hi_.getD (3 * 9 + 0) 0).toInt = 5 from by decide] at q0
    have p1 := H 1 (by decide)
    have q1 := p1.1
    rw [show (le_.getD (3 * 9 + 1) 0).toInt = 0 from by decide, show (hi_.getD (3 * 9 + 1) 0).toInt = 4 from by decide] at q1
    have p2 := H 2 (by decide)
    have q2 := p2.1
    rw [show (le_.getD (3 * 9 + 2) 0).toInt = 1 from by decide, show (hi_.getD (3 * 9 + 2) 0).toInt = 99 from by decide] at q2
    obtain ⟨hk, e7, e8, e9, e10, e11, e12, e13, rst_⟩ := kl_9 h
    obtain ⟨e14, e15, e16, e17, e18, e21, e22⟩ := rst_
    subst e7; subst e8; subst e9; subst e10; subst e11; subst e12; subst e13; subst e14; subst e15; subst e16; subst e17; subst e18; subst e21; subst e22
    exact ⟨⟨⟨r1, r2, r3⟩, A, B, C, ga, gc, gb⟩, gd_deed GB (Or.inr (Or.inr (Or.inl ⟨by decide, q0, q1, q2⟩))) hk, GD⟩
  · have ek : k = 10 := mi_eq (by rw [e]; decide)
    subst ek
    have ez : (10 : Int32).toInt.toNat = 10 := by decide
    rw [ez] at H
    have p0 := H 0 (by decide)
    have q0 := p0.1
    rw [show (le_.getD (3 * 10 + 0) 0).toInt = 0 from by decide, show (hi_.getD (3 * 10 + 0) 0).toInt = 5 from by decide] at q0
    have p1 := H 1 (by decide)
    have q1 := p1.1
    rw [show (le_.getD (3 * 10 + 1) 0).toInt = 1 from by decide, show (hi_.getD (3 * 10 + 1) 0).toInt = 99 from by decide] at q1
    obtain ⟨hk, e7, e8, e9, e10, e11, e12, e13, rst_⟩ := kl_10 h
    obtain ⟨e14, e15, e16, e17, e18, e21, e22⟩ := rst_
    subst e7; subst e8; subst e9; subst e10; subst e11; subst e12; subst e13; subst e14; subst e15; subst e16; subst e17; subst e18; subst e21; subst e22
    exact ⟨⟨⟨r1, r2, r3⟩, A, B, C, ga, gc, gb⟩, gd_deed GB (Or.inr (Or.inr (Or.inr (Or.inl ⟨by decide, q0, q1⟩)))) hk, GD⟩
  · have ek : k = 11 := mi_eq (by rw [e]; decide)
    subst ek
    have ez : (11 : Int32).toInt.toNat = 11 := by decide
    rw [ez] at H
    obtain ⟨hk, e7, e8, e9, e10, e11, e12, e13, rst_⟩ := kl_11 h
    obtain ⟨e14, e15, e16, e17, e18, e21, e22⟩ := rst_
    subst e7; subst e8; subst e9; subst e10; subst e11; subst e12; subst e13; subst e14; subst e15; subst e16; subst e17; subst e18; subst e21; subst e22
    exact ⟨⟨⟨r1, r2, r3⟩, A, B, C, ga, gc, gb⟩, gd_deed GB (Or.inr (Or.inr (Or.inr (Or.inr (Or.inl (by decide)))))) hk, GD⟩
  · have ek : k = 12 := mi_eq (by rw [e]; decide)
    subst ek
    have ez : (12 : Int32).toInt.toNat = 12 := by decide
    rw [ez] at H
    obtain ⟨hk, e7, e8, e9, e10, e11, e12, e13, rst_⟩ := kl_12 h
    obtain ⟨e14, e15, e16, e17, e18, e21, e22⟩ := rst_
    subst e7; subst e8; subst e9; subst e10; subst e11; subst e12; subst e13; subst e14; subst e15; subst e16; subst e17; subst e18; subst e21; subst e22
    exact ⟨⟨⟨r1, r2, r3⟩, A, B, C, ga, gc, gb⟩, gd_deed GB (Or.inr (Or.inr (Or.inr (Or.inr (Or.inr (by decide)))))) hk, GD⟩
  · have ek : k = 13 := mi_eq (by rw [e]; decide)
    subst ek
    have ez : (13 : Int32).toInt.toNat = 13 := by decide
    rw [ez] at H
    have p0 := H 0 (by decide)
    have q0 := p0.1
    rw [show (le_.getD (3 * 13 + 0) 0).toInt = 0 from by decide, show (hi_.getD (3 * 13 + 0) 0).toInt = 10 from by decide] at q0
    obtain ⟨hk, e7, e8, e9, e10, e11, e12, e13, rst_⟩ := kl_13 h
    obtain ⟨e14, e15, e16, e17, e18, e19, e20⟩ := rst_
    subst e7; subst e8; subst e9; subst e10; subst e11; subst e12; subst e13; subst e14; subst e15; subst e16; subst e17; subst e18; subst e19; subst e20
    exact ⟨⟨⟨r1, r2, r3⟩, A, B, C, ga, gc, gb⟩, GB, gd_min GD q0 hk⟩
theorem nu_le (j : Nat) : (nu_.getD j 0).toInt ≤ 3 := by
  match j with
  | 0 => decide
  | 1 => decide
  | 2 => decide
  | 3 => decide
  | 4 => decide
  | 5 => decide
  | 6 => decide
  | 7 => decide
  | 8 => decide
  | 9 => decide
  | 10 => decide
  | 11 => decide
  | 12 => decide
  | 13 => decide
  | j + 14 => exact (by decide : (0 : Int32).toInt ≤ 3)
theorem ln_good {k : Int32} (hk : 0 ≤ k.toInt ∧ k.toInt ≤ 13) : ∀ (N : Nat) (i fa pl tk fr to va : Int32) (nm : Nat → Int32), fx (T_k_readLine_56 k n t pa cl ha ac us ra ch bo hu sa ak fl de pr mi hv u0 u1 u2 u3 u4 u5 u6 u7 u8 u9 u10 u11 u12 u13 u14 u15 u16 u17 u18 u19 u20 u21 u22 u23) N (i, fa, pl, tk, fr, to, va, nm) → (0 ≤ i.toInt ∧ i.toInt ≤ 3) → (fa.toInt = 0 → (∀ j : Nat, (j : Int) < i.toInt → Pk k.toInt.toNat nm j) ∧ GdA pa ac us ra ch bo cl ha hu sa ak fl de pr mi hv) → u1.toInt = 0 → GdA u7 u8 u9 u10 u11 u12 u13 u14 u15 u16 u17 u18 u19 u20 u21 u22 := by
  intro N
  induction N with
  | zero => intro i fa pl tk fr to va nm h; exact h.elim
  | succ N ih =>
    intro i fa pl tk fr to va nm h hi hf hu1
    replace h := fx_o h
    dsimp only [T_k_readLine_56] at h
    obtain ⟨b, eb, h⟩ := h
    rw [mi_cl] at eb
    have n3 := nu_le k.toInt.toNat
    rw [← eb] at n3
    rcases h with ⟨c, y0, y1, y2, y3, -, h⟩ | ⟨c, h⟩
    · rw [eb] at c
      rcases h with ⟨c3, b0, b1, b2, b3, b4, b5, b6, b7, b8, b9, b10, b11, b12, b13, b14, b15, hkl, e0, e1, e2, e3, e4, e5, e6, e7, e8, e9, e10, e11, e12, e13, e14, e15, e16, e17, e18, e19, e20, e21, e22, e23⟩ | ⟨c3, -, e0, e1, -⟩
      · subst e1
        subst e7; subst e8; subst e9; subst e10; subst e11; subst e12; subst e13; subst e14; subst e15; subst e16; subst e17; subst e18; subst e19; subst e20; subst e21; subst e22
        have hq := hf hu1
        exact kl_good hk (fun j hj => hq.1 j (by omega)) hkl hq.2
      · exact absurd hu1 (by rw [e1]; decide)
    · rcases h with ⟨c2, y0, y1, y2, y3, -, h⟩ | ⟨c2, y0, y1, y2, y3, -, h⟩
      · rw [eb] at n3
        rcases h with ⟨c3, b0, b1, b2, b3, b4, b5, b6, b7, b8, b9, b10, b11, b12, b13, b14, b15, hkl, e0, e1, e2, e3, e4, e5, e6, e7, e8, e9, e10, e11, e12, e13, e14, e15, e16, e17, e18, e19, e20, e21, e22, e23⟩ | ⟨c3, -, e0, e1, -⟩
        · subst e1
          subst e7; subst e8; subst e9; subst e10; subst e11; subst e12; subst e13; subst e14; subst e15; subst e16; subst e17; subst e18; subst e19; subst e20; subst e21; subst e22
          have hq := hf hu1
          exact kl_good hk (fun j hj => hq.1 j (by omega)) hkl hq.2
        · exact absurd hu1 (by rw [e1]; decide)
      · rcases h with ⟨c3, n2, en, z, hz, h⟩ | ⟨c3, -, e0, e1, -⟩
        · rw [mi_cl] at en
          have keep : fa.toInt = 0 → z.toInt = 0 → (∀ j : Nat, (j : Int) < i.toInt + 1 → Pk k.toInt.toNat n2 j) ∧ GdA pa ac us ra ch bo cl ha hu sa ak fl de pr mi hv := by
            intro q0 q1
            have hq := hf q0
            have last := cb_ok hk ⟨hi.1, by omega⟩ hz q1
            refine ⟨fun j hj => ?_, hq.2⟩
            by_cases e : j = i.toInt.toNat
            · rw [e]; exact last
            · have old := hq.1 j (by omega)
              have w : ∀ m : Nat, m ≠ i.toInt.toNat → n2 m = nm m := fun m hm => by rw [← en]; exact up_ne hm
              unfold Pk at old ⊢
              rw [w j e]
              refine ⟨old.1, fun a b => ?_, fun a b => ?_⟩
              · subst a; rw [w 1 e, w 0 (by omega)]; exact old.2.1 rfl b
              · subst a; rw [w 1 e, w 0 (by omega)]; exact old.2.2 rfl b
          rcases h with ⟨c4, i2, ei, h⟩ | ⟨c4, f2, p2, hn, i2, ei, h⟩
          · have g : i2.toInt = i.toInt + 1 := by rw [ei]; exact mi_addc (by decide) (by omega) (by omega)
            exact ih i2 fa pl y0 y1 y2 y3 n2 h (by omega) (fun q => by rw [g]; exact keep q c4) hu1
          · have g : i2.toInt = i.toInt + 1 := by rw [ei]; exact mi_addc (by decide) (by omega) (by omega)
            refine ih i2 f2 p2 y0 y1 y2 y3 n2 h (by omega) (fun q => ?_) hu1
            rcases hn with ⟨d, e, -⟩ | ⟨d, e, -⟩
            · rw [e] at q; exact absurd q d
            · rw [e] at q; exact absurd q (by decide)
        · exact absurd hu1 (by rw [e1]; decide)
theorem line_good {tk fr to va a fa pl : Int32} {rn : Nat → Int32} (h : R_k_readLine tk fr to va pa ac us ra ch bo cl ha hu sa ak fl de pr mi hv rn a t n fa pl u0 u1 u2 u3 u4 u5 u6 u7 u8 u9 u10 u11 u12 u13 u14 u15 u16 u17 u18 u19 u20 u21 u22 u23) (G : fa.toInt = 0 → GdA pa ac us ra ch bo cl ha hu sa ak fl de pr mi hv) (hu1 : u1.toInt = 0) : GdA u7 u8 u9 u10 u11 u12 u13 u14 u15 u16 u17 u18 u19 u20 u21 u22 := by
  rcases c_start h with ⟨-, -, e1, -⟩ | ⟨-, k, hk, ⟨-, -, e1, -⟩ | ⟨c, fu, fa1, pl1, nm, -, hc, -, h⟩⟩
  · exact absurd hu1 (by rw [e1]; decide)
  · exact absurd hu1 (by rw [e1]; decide)
  · have hr : 0 ≤ k.toInt ∧ k.toInt ≤ 13 := by
      rcases kdr hk with e | e
      · exact absurd e c
      · exact e
    have z0 : (0 : Int32).toInt = 0 := by decide
    refine ln_good hr _ _ _ _ _ _ _ _ _ h (by decide) (fun q => ⟨fun j hj => absurd hj (by rw [z0]; omega), G ?_⟩) hu1
    rcases hc with ⟨-, e, -⟩ | ⟨-, ⟨d, e, -⟩ | ⟨d, e, -⟩⟩
    · rw [← e]; exact q
    · rw [← e]; exact q
    · exact d
end GOOD
theorem read_good {n a : Int32} {t : Nat → Int32} {u0 : Int32} {u1 : Int32} {u2 : Int32} {u3 : Int32} {u4 : Int32} {u5 : Int32} {u6 : Int32} {u7 : Int32} {u8 : Int32} {u9 : Int32} {u10 : Int32} {u11 : Int32} {u12 : Nat → Int32} {u13 : Nat → Int32} {u14 : Nat → Int32} {u15 : Nat → Int32} {u16 : Nat → Int32} {u17 : Nat → Int32} {u18 : Int32} {u19 : Nat → Int32} {u20 : Int32} {u21 : Nat → Int32} {u22 : Nat → Int32} : ∀ (N : Nat) (l fa pl tk fr to va de mi pa ac us ra ch bo : Int32) (cl ha hu sa ak fl pr hv rn : Nat → Int32), fx (T_k_read_41 n t a u0 u1 u2 u3 u4 u5 u6 u7 u8 u9 u10 u11 u12 u13 u14 u15 u16 u17 u18 u19 u20 u21 u22) N (l, fa, pl, tk, fr, to, va, de, mi, pa, ac, us, ra, ch, bo, cl, ha, hu, sa, ak, fl, pr, hv, rn) → (fa.toInt = 0 → GdA pa ac us ra ch bo cl ha hu sa ak fl de pr mi hv) → u0.toInt = 0 → GdA u6 u7 u8 u9 u10 u11 u12 u13 u14 u15 u16 u17 u18 u19 u20 u21 := by
  intro N
  induction N with
  | zero => intro l fa pl tk fr to va de mi pa ac us ra ch bo cl ha hu sa ak fl pr hv rn h; exact h.elim
  | succ N ih =>
    intro l fa pl tk fr to va de mi pa ac us ra ch bo cl ha hu sa ak fl pr hv rn h hf hu1
    replace h := fx_o h
    dsimp only [T_k_read_41] at h
    rcases h with ⟨c, e0, e1, e2, e3, e4, e5, e6, e7, e8, e9, e10, e11, e12, e13, e14, e15, e16, e17, e18, e19, e20, e21, e22⟩ | ⟨c, y0, y1, y2, y3, -, h⟩
    · subst e0; subst e6; subst e7; subst e8; subst e9; subst e10; subst e11; subst e12; subst e13; subst e14; subst e15; subst e16; subst e17; subst e18; subst e19; subst e20; subst e21
      exact hf hu1
    · rcases h with ⟨c2, e0, e1, e2, e3, e4, e5, e6, e7, e8, e9, e10, e11, e12, e13, e14, e15, e16, e17, e18, e19, e20, e21, e22⟩ | ⟨c2, b0, b1, b2, b3, b4, b5, b6, b7, b8, b9, b10, b11, b12, b13, b14, b15, b16, b17, b18, b19, b20, b21, b22, b23, hl, h⟩
      · subst e0; subst e6; subst e7; subst e8; subst e9; subst e10; subst e11; subst e12; subst e13; subst e14; subst e15; subst e16; subst e17; subst e18; subst e19; subst e20; subst e21
        exact hf hu1
      · have hg := line_good hl hf
        clear hl
        rcases h with ⟨c3, l2, el, h⟩ | ⟨c3, e0, e1, e2, e3, e4, e5, e6, e7, e8, e9, e10, e11, e12, e13, e14, e15, e16, e17, e18, e19, e20, e21, e22⟩
        · exact ih l2 _ _ _ _ _ _ _ _ _ _ _ _ _ _ _ _ _ _ _ _ _ _ _ h hg hu1
        · subst e0; subst e6; subst e7; subst e8; subst e9; subst e10; subst e11; subst e12; subst e13; subst e14; subst e15; subst e16; subst e17; subst e18; subst e19; subst e20; subst e21
          exact hg hu1
theorem rd_good {n a tk fr va : Int32} {t cl ha hu sa ak fl pr hv rn : Nat → Int32} {u0 : Int32} {u1 : Int32} {u2 : Int32} {u3 : Int32} {u4 : Int32} {u5 : Int32} {u6 : Int32} {u7 : Int32} {u8 : Int32} {u9 : Int32} {u10 : Int32} {u11 : Int32} {u12 : Nat → Int32} {u13 : Nat → Int32} {u14 : Nat → Int32} {u15 : Nat → Int32} {u16 : Nat → Int32} {u17 : Nat → Int32} {u18 : Int32} {u19 : Nat → Int32} {u20 : Int32} {u21 : Nat → Int32} {u22 : Nat → Int32} (h : R_k_read n t a tk fr va cl ha hu sa ak fl pr hv rn u0 u1 u2 u3 u4 u5 u6 u7 u8 u9 u10 u11 u12 u13 u14 u15 u16 u17 u18 u19 u20 u21 u22) (hu : u0.toInt = 0) : GdA u6 u7 u8 u9 u10 u11 u12 u13 u14 u15 u16 u17 u18 u19 u20 u21 := by
  exact read_good _ _ _ _ _ _ _ _ _ _ _ _ _ _ _ _ _ _ _ _ _ _ _ _ _ h.2 (fun _ => ⟨⟨⟨by decide, by decide, by decide⟩, (fun i (h : (i : Int) < (0 : Int32).toInt) => absurd h (by have z0 : (0 : Int32).toInt = 0 := (by decide); omega)), (fun i (h : (i : Int) < (0 : Int32).toInt) => absurd h (by have z0 : (0 : Int32).toInt = 0 := (by decide); omega)), (fun i (h : (i : Int) < (0 : Int32).toInt) => absurd h (by have z0 : (0 : Int32).toInt = 0 := (by decide); omega)), by decide, by decide, by decide⟩, ⟨by decide, (fun i (h : (i : Int) < (0 : Int32).toInt) => absurd h (by have z0 : (0 : Int32).toInt = 0 := (by decide); omega))⟩, by decide, (fun i (h : (i : Int) < (0 : Int32).toInt) => absurd h (by have z0 : (0 : Int32).toInt = 0 := (by decide); omega))⟩) hu
def Gd (TN : Nat → Int32) (TF : Nat → Nat → Int32) : Prop := (GdT (TN 6) (TN 7) (TN 8) (TN 9) (TN 10) (TN 11) (TF 1) (TF 2) (TF 3) (TF 4) (TF 5) (TF 6) ∧ GdT (TN 12) (TN 13) (TN 14) (TN 15) (TN 16) (TN 17) (TF 7) (TF 8) (TF 9) (TF 10) (TF 11) (TF 12)) ∧ (GdB (TN 18) (TF 13) ∧ GdB (TN 19) (TF 14)) ∧ (GdD (TN 20) (TF 15) ∧ GdD (TN 21) (TF 16))
theorem GdT_c {pa ac us ra ch bo : Int32} {cl ha hu sa ak fl cl2 ha2 hu2 sa2 ak2 fl2 : Nat → Int32} (h : GdT pa ac us ra ch bo cl ha hu sa ak fl) (e1 : ∀ j : Nat, j < 5 → cl2 j = cl j) (e2 : ∀ j : Nat, j < 5 → ha2 j = ha j) (e3 : ∀ j : Nat, j < 6 → hu2 j = hu j) (e4 : ∀ j : Nat, j < 6 → sa2 j = sa j) (e5 : ∀ j : Nat, j < 4 → ak2 j = ak j) (e6 : ∀ j : Nat, j < 4 → fl2 j = fl j) : GdT pa ac us ra ch bo cl2 ha2 hu2 sa2 ak2 fl2 := by
  obtain ⟨⟨r1, r2, r3⟩, A, B, C, ga, gc, gb⟩ := h
  refine ⟨⟨r1, r2, r3⟩, fun i hi => ?_, fun i hi => ?_, fun i hi => ?_, ga, gc, gb⟩
  · rw [e1 i (by omega), e2 i (by omega)]; exact A i hi
  · rw [e3 i (by omega), e4 i (by omega)]; exact B i hi
  · rw [e5 i (by omega), e6 i (by omega)]; exact C i hi
theorem GdB_c {de : Int32} {pr pr2 : Nat → Int32} (h : GdB de pr) (e : ∀ j : Nat, j < 120 → pr2 j = pr j) : GdB de pr2 := by
  obtain ⟨r, A⟩ := h
  refine ⟨r, fun i hi => ?_⟩
  rw [e _ (by omega), e _ (by omega), e _ (by omega), e _ (by omega)]; exact A i hi
theorem GdD_c {mi : Int32} {hv hv2 : Nat → Int32} (h : GdD mi hv) (e : ∀ j : Nat, j < 6 → hv2 j = hv j) : GdD mi hv2 := by
  obtain ⟨r, A⟩ := h
  refine ⟨r, fun i hi => ?_⟩
  rw [e _ (by omega)]; exact A i hi
theorem Gd_cp {TN : Nat → Int32} {TF TF2 : Nat → Nat → Int32} (h : Gd TN TF) (t : CpT TF TF2) : Gd TN TF2 := by
  obtain ⟨⟨a, b⟩, ⟨c, d⟩, e, f⟩ := h
  obtain ⟨-, t1, t2, t3, t4, t5, t6, t7, rst_⟩ := t
  obtain ⟨t8, t9, t10, t11, t12, t13, t14, t15, t16⟩ := rst_
  exact ⟨⟨GdT_c a t1 t2 t3 t4 t5 t6, GdT_c b t7 t8 t9 t10 t11 t12⟩, ⟨GdB_c c t13, GdB_c d t14⟩, GdD_c e t15, GdD_c f t16⟩
