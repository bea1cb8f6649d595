/-! what a line keeps: the class's rows and the reference's -/
theorem up_eq {f : Nat → Int32} {k : Nat} {x : Int32} : upd f k x k = x := if_pos rfl
theorem up_ne {f : Nat → Int32} {k j : Nat} {x : Int32} (h : j ≠ k) : upd f k x j = f j := if_neg h
def RT (td : Nat → Int32) (pa ac us ra ch bo : Int32) (cl ha hu sa ak fl : Nat → Int32) : Prop := td 0 = pa ∧ td 1 = ac ∧ td 2 = ra ∧ td 3 = ch ∧ td 4 = us ∧ td 5 = bo ∧ (∀ i : Nat, (i : Int) < pa.toInt → td (6 + 2 * i) = cl i ∧ td (7 + 2 * i) = ha i) ∧ (∀ i : Nat, (i : Int) < ac.toInt → td (16 + 2 * i) = hu i ∧ td (17 + 2 * i) = sa i) ∧ (∀ i : Nat, (i : Int) < us.toInt → td (28 + 2 * i) = ak i ∧ td (29 + 2 * i) = fl i) ∧ (0 ≤ pa.toInt ∧ pa.toInt ≤ 5) ∧ (0 ≤ ac.toInt ∧ ac.toInt ≤ 6) ∧ (0 ≤ us.toInt ∧ us.toInt ≤ 4)
def RB (td : Nat → Int32) (de : Int32) (pr : Nat → Int32) : Prop := td 0 = de ∧ (∀ i : Nat, (i : Int) < de.toInt → ∀ j : Nat, j < 4 → td (1 + 4 * i + j) = pr (4 * i + j)) ∧ (0 ≤ de.toInt ∧ de.toInt ≤ 30)
def RD (td : Nat → Int32) (mi : Int32) (hv : Nat → Int32) : Prop := td 0 = mi ∧ (∀ i : Nat, (i : Int) < mi.toInt → td (1 + i) = hv i) ∧ (0 ≤ mi.toInt ∧ mi.toInt ≤ 6)
theorem addPalm_sp {c a b u0 : Int32} {f g u1 u2 : Nat → Int32} (hc : 0 ≤ c.toInt ∧ c.toInt ≤ 5) (h : R_k_addPalm c f g a b u0 u1 u2) : (5 ≤ c.toInt ∧ u0 = c ∧ u1 = f ∧ u2 = g) ∨ (c.toInt < 5 ∧ u0 = c + 1 ∧ u0.toInt = c.toInt + 1 ∧ u1 = upd f c.toInt.toNat a ∧ u2 = upd g c.toInt.toNat b) := by
  rcases h with ⟨q, e0, e1, e2⟩ | ⟨q, g2, eg2, g3, eg3, z, ez, e0, e1, e2⟩
  · exact Or.inl ⟨q, e0, e1, e2⟩
  · exact Or.inr ⟨q, by rw [e0, ez], by rw [e0, ez]; exact mi_addc (by decide) (by omega) (by omega), by rw [e1, ← eg2]; rfl, by rw [e2, ← eg3]; rfl⟩
theorem keep0_sp {td rd u : Nat → Int32} (hc : 0 ≤ (td 0).toInt ∧ (td 0).toInt ≤ 5) (h : R_j_keep0 td rd u) : ((td 0).toInt = 5 ∧ u = td) ∨ ((td 0).toInt < 5 ∧ u = upd (upd (upd td (6 + 2 * (td 0).toInt.toNat) (rd 0)) (7 + 2 * (td 0).toInt.toNat) (rd 1)) 0 (td 0 + 1)) := by
  obtain ⟨x1, e1, x2, e2, x3, e3, h⟩ := h
  have ex : x1 = td 0 := e1.symm
  rw [← ex] at hc ⊢
  rcases h with ⟨q, z6, f6, z7, f7, z8, f8, z9, f9, g10, eg10, z12, f12, z13, f13, z14, f14, z15, f15, g16, eg16, z18, f18, g19, eg19, eu⟩ | ⟨q, eu⟩
  · have h6 : z6.toInt = 2 * x1.toInt := by rw [f6]; exact mi_cmul (by decide) (by omega) (by omega)
    have h0_ : (6 : Int32).toInt = 6 := by decide
    have h7 : z7.toInt = 6 + 2 * x1.toInt := by rw [f7, mi_add (by omega) (by omega), h6, h0_]
    have h8 : z8.toInt = 6 + 2 * x1.toInt := by rw [f8, mi_addc (C := 0) (by decide) (by omega) (by omega), h7]; omega
    have h12 : z12.toInt = 2 * x1.toInt := by rw [f12]; exact mi_cmul (by decide) (by omega) (by omega)
    have h13 : z13.toInt = 6 + 2 * x1.toInt := by rw [f13, mi_add (by omega) (by omega), h12, h0_]
    have h14 : z14.toInt = 7 + 2 * x1.toInt := by rw [f14, mi_addc (C := 1) (by decide) (by omega) (by omega), h13]; omega
    have i8 : Int32.toNatClampNeg z8 = 6 + 2 * x1.toInt.toNat := by rw [mi_cl, h8]; omega
    have i14 : Int32.toNatClampNeg z14 = 7 + 2 * x1.toInt.toNat := by rw [mi_cl, h14]; omega
    refine Or.inr ⟨by omega, ?_⟩
    rw [eu, ← eg19, ← eg16, ← eg10, i8, i14, f18, f9, f15]
    rfl
  · exact Or.inl ⟨q, eu⟩
theorem addActor_sp {c a b u0 : Int32} {f g u1 u2 : Nat → Int32} (hc : 0 ≤ c.toInt ∧ c.toInt ≤ 6) (h : R_k_addActor c f g a b u0 u1 u2) : (6 ≤ c.toInt ∧ u0 = c ∧ u1 = f ∧ u2 = g) ∨ (c.toInt < 6 ∧ u0 = c + 1 ∧ u0.toInt = c.toInt + 1 ∧ u1 = upd f c.toInt.toNat a ∧ u2 = upd g c.toInt.toNat b) := by
  rcases h with ⟨q, e0, e1, e2⟩ | ⟨q, g2, eg2, g3, eg3, z, ez, e0, e1, e2⟩
  · exact Or.inl ⟨q, e0, e1, e2⟩
  · exact Or.inr ⟨q, by rw [e0, ez], by rw [e0, ez]; exact mi_addc (by decide) (by omega) (by omega), by rw [e1, ← eg2]; rfl, by rw [e2, ← eg3]; rfl⟩
theorem keep1_sp {td rd u : Nat → Int32} (hc : 0 ≤ (td 1).toInt ∧ (td 1).toInt ≤ 6) (h : R_j_keep1 td rd u) : ((td 1).toInt = 6 ∧ u = td) ∨ ((td 1).toInt < 6 ∧ u = upd (upd (upd td (16 + 2 * (td 1).toInt.toNat) (rd 0)) (17 + 2 * (td 1).toInt.toNat) (rd 1)) 1 (td 1 + 1)) := by
  obtain ⟨x1, e1, x2, e2, x3, e3, h⟩ := h
  have ex : x2 = td 1 := e2.symm
  rw [← ex] at hc ⊢
  rcases h with ⟨q, z6, f6, z7, f7, z8, f8, z9, f9, g10, eg10, z12, f12, z13, f13, z14, f14, z15, f15, g16, eg16, z18, f18, g19, eg19, eu⟩ | ⟨q, eu⟩
  · have h6 : z6.toInt = 2 * x2.toInt := by rw [f6]; exact mi_cmul (by decide) (by omega) (by omega)
    have h0_ : (16 : Int32).toInt = 16 := by decide
    have h7 : z7.toInt = 16 + 2 * x2.toInt := by rw [f7, mi_add (by omega) (by omega), h6, h0_]
    have h8 : z8.toInt = 16 + 2 * x2.toInt := by rw [f8, mi_addc (C := 0) (by decide) (by omega) (by omega), h7]; omega
    have h12 : z12.toInt = 2 * x2.toInt := by rw [f12]; exact mi_cmul (by decide) (by omega) (by omega)
    have h13 : z13.toInt = 16 + 2 * x2.toInt := by rw [f13, mi_add (by omega) (by omega), h12, h0_]
    have h14 : z14.toInt = 17 + 2 * x2.toInt := by rw [f14, mi_addc (C := 1) (by decide) (by omega) (by omega), h13]; omega
    have i8 : Int32.toNatClampNeg z8 = 16 + 2 * x2.toInt.toNat := by rw [mi_cl, h8]; omega
    have i14 : Int32.toNatClampNeg z14 = 17 + 2 * x2.toInt.toNat := by rw [mi_cl, h14]; omega
    refine Or.inr ⟨by omega, ?_⟩
    rw [eu, ← eg19, ← eg16, ← eg10, i8, i14, f18, f9, f15]
    rfl
  · exact Or.inl ⟨q, eu⟩
theorem addUsurer_sp {c a b u0 : Int32} {f g u1 u2 : Nat → Int32} (hc : 0 ≤ c.toInt ∧ c.toInt ≤ 4) (h : R_k_addUsurer c f g a b u0 u1 u2) : (4 ≤ c.toInt ∧ u0 = c ∧ u1 = f ∧ u2 = g) ∨ (c.toInt < 4 ∧ u0 = c + 1 ∧ u0.toInt = c.toInt + 1 ∧ u1 = upd f c.toInt.toNat a ∧ u2 = upd g c.toInt.toNat b) := by
  rcases h with ⟨q, e0, e1, e2⟩ | ⟨q, g2, eg2, g3, eg3, z, ez, e0, e1, e2⟩
  · exact Or.inl ⟨q, e0, e1, e2⟩
  · exact Or.inr ⟨q, by rw [e0, ez], by rw [e0, ez]; exact mi_addc (by decide) (by omega) (by omega), by rw [e1, ← eg2]; rfl, by rw [e2, ← eg3]; rfl⟩
theorem keep4_sp {td rd u : Nat → Int32} (hc : 0 ≤ (td 4).toInt ∧ (td 4).toInt ≤ 4) (h : R_j_keep4 td rd u) : ((td 4).toInt = 4 ∧ u = td) ∨ ((td 4).toInt < 4 ∧ u = upd (upd (upd td (28 + 2 * (td 4).toInt.toNat) (rd 0)) (29 + 2 * (td 4).toInt.toNat) (rd 1)) 4 (td 4 + 1)) := by
  obtain ⟨x1, e1, x2, e2, x3, e3, h⟩ := h
  have ex : x3 = td 4 := e3.symm
  rw [← ex] at hc ⊢
  rcases h with ⟨q, z6, f6, z7, f7, z8, f8, z9, f9, g10, eg10, z12, f12, z13, f13, z14, f14, z15, f15, g16, eg16, z18, f18, g19, eg19, eu⟩ | ⟨q, eu⟩
  · have h6 : z6.toInt = 2 * x3.toInt := by rw [f6]; exact mi_cmul (by decide) (by omega) (by omega)
    have h0_ : (28 : Int32).toInt = 28 := by decide
    have h7 : z7.toInt = 28 + 2 * x3.toInt := by rw [f7, mi_add (by omega) (by omega), h6, h0_]
    have h8 : z8.toInt = 28 + 2 * x3.toInt := by rw [f8, mi_addc (C := 0) (by decide) (by omega) (by omega), h7]; omega
    have h12 : z12.toInt = 2 * x3.toInt := by rw [f12]; exact mi_cmul (by decide) (by omega) (by omega)
    have h13 : z13.toInt = 28 + 2 * x3.toInt := by rw [f13, mi_add (by omega) (by omega), h12, h0_]
    have h14 : z14.toInt = 29 + 2 * x3.toInt := by rw [f14, mi_addc (C := 1) (by decide) (by omega) (by omega), h13]; omega
    have i8 : Int32.toNatClampNeg z8 = 28 + 2 * x3.toInt.toNat := by rw [mi_cl, h8]; omega
    have i14 : Int32.toNatClampNeg z14 = 29 + 2 * x3.toInt.toNat := by rw [mi_cl, h14]; omega
    refine Or.inr ⟨by omega, ?_⟩
    rw [eu, ← eg19, ← eg16, ← eg10, i8, i14, f18, f9, f15]
    rfl
  · exact Or.inl ⟨q, eu⟩
theorem RT_Palm {td td2 rd : Nat → Int32} {pa ac us ra ch bo c2 a b : Int32} {cl ha hu sa ak fl f2 g2 : Nat → Int32} (h : RT td pa ac us ra ch bo cl ha hu sa ak fl) (ha_ : rd 0 = a) (hb_ : rd 1 = b) (hx : R_k_addPalm pa cl ha a b c2 f2 g2) (hy : R_j_keep0 td rd td2) : RT td2 c2 ac us ra ch bo f2 g2 hu sa ak fl := by
  obtain ⟨c0, c1, c2_, c3, c4, c5, A, B, C, rA, rB, rC⟩ := h
  have hx := addPalm_sp rA hx
  have e : td 0 = pa := c0
  have hy := keep0_sp (by rw [e]; exact rA) hy
  rw [e] at hy
  rcases hx with ⟨q, e0, e1, e2⟩ | ⟨q, e0, e0', e1, e2⟩
  · rcases hy with ⟨p, eu⟩ | ⟨p, eu⟩
    · rw [e0, e1, e2, eu]; exact ⟨c0, c1, c2_, c3, c4, c5, A, B, C, rA, rB, rC⟩
    · omega
  · rcases hy with ⟨p, eu⟩ | ⟨p, eu⟩
    · omega
    · rw [ha_, hb_] at eu
      have oth : ∀ j : Nat, j ≠ 0 → j ≠ 6 + 2 * pa.toInt.toNat → j ≠ 7 + 2 * pa.toInt.toNat → td2 j = td j := fun j q1 q2 q3 => by rw [eu, up_ne q1, up_ne q3, up_ne q2]
      exact ⟨(by rw [eu, up_eq, e0]), (by rw [oth 1 (by omega) (by omega) (by omega)]; exact c1), (by rw [oth 2 (by omega) (by omega) (by omega)]; exact c2_), (by rw [oth 3 (by omega) (by omega) (by omega)]; exact c3), (by rw [oth 4 (by omega) (by omega) (by omega)]; exact c4), (by rw [oth 5 (by omega) (by omega) (by omega)]; exact c5), (fun i hi => by
        by_cases hk : i = pa.toInt.toNat
        · refine ⟨?_, ?_⟩
          · rw [eu, e1, hk, up_ne (by omega), up_ne (by omega), up_eq, up_eq]
          · rw [eu, e2, hk, up_ne (by omega), up_eq, up_eq]
        · rw [oth (6 + 2 * i) (by omega) (by omega) (by omega), oth (7 + 2 * i) (by omega) (by omega) (by omega), e1, e2, up_ne hk, up_ne hk]
          exact A i (by omega)), (fun i hi => by rw [oth (16 + 2 * i) (by omega) (by omega) (by omega), oth (17 + 2 * i) (by omega) (by omega) (by omega)]; exact B i hi), (fun i hi => by rw [oth (28 + 2 * i) (by omega) (by omega) (by omega), oth (29 + 2 * i) (by omega) (by omega) (by omega)]; exact C i hi), (by omega), rB, rC⟩
theorem RT_Actor {td td2 rd : Nat → Int32} {pa ac us ra ch bo c2 a b : Int32} {cl ha hu sa ak fl f2 g2 : Nat → Int32} (h : RT td pa ac us ra ch bo cl ha hu sa ak fl) (ha_ : rd 0 = a) (hb_ : rd 1 = b) (hx : R_k_addActor ac hu sa a b c2 f2 g2) (hy : R_j_keep1 td rd td2) : RT td2 pa c2 us ra ch bo cl ha f2 g2 ak fl := by
  obtain ⟨c0, c1, c2_, c3, c4, c5, A, B, C, rA, rB, rC⟩ := h
  have hx := addActor_sp rB hx
  have e : td 1 = ac := c1
  have hy := keep1_sp (by rw [e]; exact rB) hy
  rw [e] at hy
  rcases hx with ⟨q, e0, e1, e2⟩ | ⟨q, e0, e0', e1, e2⟩
  · rcases hy with ⟨p, eu⟩ | ⟨p, eu⟩
    · rw [e0, e1, e2, eu]; exact ⟨c0, c1, c2_, c3, c4, c5, A, B, C, rA, rB, rC⟩
    · omega
  · rcases hy with ⟨p, eu⟩ | ⟨p, eu⟩
    · omega
    · rw [ha_, hb_] at eu
      have oth : ∀ j : Nat, j ≠ 1 → j ≠ 16 + 2 * ac.toInt.toNat → j ≠ 17 + 2 * ac.toInt.toNat → td2 j = td j := fun j q1 q2 q3 => by rw [eu, up_ne q1, up_ne q3, up_ne q2]
      exact ⟨(by rw [oth 0 (by omega) (by omega) (by omega)]; exact c0), (by rw [eu, up_eq, e0]), (by rw [oth 2 (by omega) (by omega) (by omega)]; exact c2_), (by rw [oth 3 (by omega) (by omega) (by omega)]; exact c3), (by rw [oth 4 (by omega) (by omega) (by omega)]; exact c4), (by rw [oth 5 (by omega) (by omega) (by omega)]; exact c5), (fun i hi => by rw [oth (6 + 2 * i) (by omega) (by omega) (by omega), oth (7 + 2 * i) (by omega) (by omega) (by omega)]; exact A i hi), (fun i hi => by
        by_cases hk : i = ac.toInt.toNat
        · refine ⟨?_, ?_⟩
          · rw [eu, e1, hk, up_ne (by omega), up_ne (by omega), up_eq, up_eq]
          · rw [eu, e2, hk, up_ne (by omega), up_eq, up_eq]
        · rw [oth (16 + 2 * i) (by omega) (by omega) (by omega), oth (17 + 2 * i) (by omega) (by omega) (by omega), e1, e2, up_ne hk, up_ne hk]
          exact B i (by omega)), (fun i hi => by rw [oth (28 + 2 * i) (by omega) (by omega) (by omega), oth (29 + 2 * i) (by omega) (by omega) (by omega)]; exact C i hi), rA, (by omega), rC⟩
theorem RT_Usurer {td td2 rd : Nat → Int32} {pa ac us ra ch bo c2 a b : Int32} {cl ha hu sa ak fl f2 g2 : Nat → Int32} (h : RT td pa ac us ra ch bo cl ha hu sa ak fl) (ha_ : rd 0 = a) (hb_ : rd 1 = b) (hx : R_k_addUsurer us ak fl a b c2 f2 g2) (hy : R_j_keep4 td rd td2) : RT td2 pa ac c2 ra ch bo cl ha hu sa f2 g2 := by
  obtain ⟨c0, c1, c2_, c3, c4, c5, A, B, C, rA, rB, rC⟩ := h
  have hx := addUsurer_sp rC hx
  have e : td 4 = us := c4
  have hy := keep4_sp (by rw [e]; exact rC) hy
  rw [e] at hy
  rcases hx with ⟨q, e0, e1, e2⟩ | ⟨q, e0, e0', e1, e2⟩
  · rcases hy with ⟨p, eu⟩ | ⟨p, eu⟩
    · rw [e0, e1, e2, eu]; exact ⟨c0, c1, c2_, c3, c4, c5, A, B, C, rA, rB, rC⟩
    · omega
  · rcases hy with ⟨p, eu⟩ | ⟨p, eu⟩
    · omega
    · rw [ha_, hb_] at eu
      have oth : ∀ j : Nat, j ≠ 4 → j ≠ 28 + 2 * us.toInt.toNat → j ≠ 29 + 2 * us.toInt.toNat → td2 j = td j := fun j q1 q2 q3 => by rw [eu, up_ne q1, up_ne q3, up_ne q2]
      exact ⟨(by rw [oth 0 (by omega) (by omega) (by omega)]; exact c0), (by rw [oth 1 (by omega) (by omega) (by omega)]; exact c1), (by rw [oth 2 (by omega) (by omega) (by omega)]; exact c2_), (by rw [oth 3 (by omega) (by omega) (by omega)]; exact c3), (by rw [eu, up_eq, e0]), (by rw [oth 5 (by omega) (by omega) (by omega)]; exact c5), (fun i hi => by rw [oth (6 + 2 * i) (by omega) (by omega) (by omega), oth (7 + 2 * i) (by omega) (by omega) (by omega)]; exact A i hi), (fun i hi => by rw [oth (16 + 2 * i) (by omega) (by omega) (by omega), oth (17 + 2 * i) (by omega) (by omega) (by omega)]; exact B i hi), (fun i hi => by
        by_cases hk : i = us.toInt.toNat
        · refine ⟨?_, ?_⟩
          · rw [eu, e1, hk, up_ne (by omega), up_ne (by omega), up_eq, up_eq]
          · rw [eu, e2, hk, up_ne (by omega), up_eq, up_eq]
        · rw [oth (28 + 2 * i) (by omega) (by omega) (by omega), oth (29 + 2 * i) (by omega) (by omega) (by omega), e1, e2, up_ne hk, up_ne hk]
          exact C i (by omega)), rA, rB, (by omega)⟩
theorem RT_rate {td : Nat → Int32} {pa ac us ra ch bo x : Int32} {cl ha hu sa ak fl : Nat → Int32} (h : RT td pa ac us ra ch bo cl ha hu sa ak fl) : RT (upd td 2 x) pa ac us x ch bo cl ha hu sa ak fl := by
  obtain ⟨c0, c1, c2, c3, c4, c5, A, B, C, rA, rB, rC⟩ := h
  exact ⟨(by rw [up_ne (by omega)]; exact c0), (by rw [up_ne (by omega)]; exact c1), up_eq, (by rw [up_ne (by omega)]; exact c3), (by rw [up_ne (by omega)]; exact c4), (by rw [up_ne (by omega)]; exact c5), (fun i hi => by rw [up_ne (by omega), up_ne (by omega)]; exact A i hi), (fun i hi => by rw [up_ne (by omega), up_ne (by omega)]; exact B i hi), (fun i hi => by rw [up_ne (by omega), up_ne (by omega)]; exact C i hi), rA, rB, rC⟩
theorem RT_chest {td : Nat → Int32} {pa ac us ra ch bo x : Int32} {cl ha hu sa ak fl : Nat → Int32} (h : RT td pa ac us ra ch bo cl ha hu sa ak fl) : RT (upd td 3 x) pa ac us ra x bo cl ha hu sa ak fl := by
  obtain ⟨c0, c1, c2, c3, c4, c5, A, B, C, rA, rB, rC⟩ := h
  exact ⟨(by rw [up_ne (by omega)]; exact c0), (by rw [up_ne (by omega)]; exact c1), (by rw [up_ne (by omega)]; exact c2), up_eq, (by rw [up_ne (by omega)]; exact c4), (by rw [up_ne (by omega)]; exact c5), (fun i hi => by rw [up_ne (by omega), up_ne (by omega)]; exact A i hi), (fun i hi => by rw [up_ne (by omega), up_ne (by omega)]; exact B i hi), (fun i hi => by rw [up_ne (by omega), up_ne (by omega)]; exact C i hi), rA, rB, rC⟩
theorem RT_borrow {td : Nat → Int32} {pa ac us ra ch bo x : Int32} {cl ha hu sa ak fl : Nat → Int32} (h : RT td pa ac us ra ch bo cl ha hu sa ak fl) : RT (upd td 5 x) pa ac us ra ch x cl ha hu sa ak fl := by
  obtain ⟨c0, c1, c2, c3, c4, c5, A, B, C, rA, rB, rC⟩ := h
  exact ⟨(by rw [up_ne (by omega)]; exact c0), (by rw [up_ne (by omega)]; exact c1), (by rw [up_ne (by omega)]; exact c2), (by rw [up_ne (by omega)]; exact c3), (by rw [up_ne (by omega)]; exact c4), up_eq, (fun i hi => by rw [up_ne (by omega), up_ne (by omega)]; exact A i hi), (fun i hi => by rw [up_ne (by omega), up_ne (by omega)]; exact B i hi), (fun i hi => by rw [up_ne (by omega), up_ne (by omega)]; exact C i hi), rA, rB, rC⟩
theorem RB_deed {td td2 rd pr pr2 : Nat → Int32} {de de2 a b c d : Int32} (h : RB td de pr) (h0 : rd 0 = a) (h1 : rd 1 = b) (h2 : rd 2 = c) (h3 : rd 3 = d) (hx : R_k_addDeed de pr a b c d de2 pr2) (hy : R_j_keepb td rd td2) : RB td2 de2 pr2 := by
  obtain ⟨c0, A, rA⟩ := h
  obtain ⟨x, ex, hy⟩ := hy
  have ex : x = de := by rw [← ex]; exact c0
  subst ex
  rcases hx with ⟨q, e0, e1⟩ | ⟨q, z2, f2, g3, eg3, z4, f4, g5, eg5, z6, f6, g7, eg7, z8, f8, g9, eg9, z10, f10, e0, e1⟩
  · rcases hy with ⟨p, -⟩ | ⟨p, eu⟩
    · omega
    · rw [e0, e1, eu]; exact ⟨c0, A, rA⟩
  · rcases hy with ⟨p, b0, k0, b1, k1, b2, k2, b3, k3, b4, k4, b5, k5, b6, k6, b7, k7, b8, k8, b9, k9, b10, k10, b11, k11, b12, k12, b13, k13, b14, k14, b15, k15, b16, k16, b17, k17, b18, k18, b19, k19, b20, k20, b21, k21, eu⟩ | ⟨p, eu⟩
    · have w2 : z2.toInt = 4 * x.toInt := by rw [f2, mi_mulc (C := 4) (by decide) (by omega) (by omega)]; omega
      have w4 : z4.toInt = 4 * x.toInt + 1 := by rw [f4, mi_addc (C := 1) (by decide) (by omega) (by omega), w2]
      have w6 : z6.toInt = 4 * x.toInt + 2 := by rw [f6, mi_addc (C := 2) (by decide) (by omega) (by omega), w2]
      have w8 : z8.toInt = 4 * x.toInt + 3 := by rw [f8, mi_addc (C := 3) (by decide) (by omega) (by omega), w2]
      have w10 : z10.toInt = x.toInt + 1 := by rw [f10]; exact mi_addc (by decide) (by omega) (by omega)
      have one : (1 : Int32).toInt = 1 := by decide
      have v0 : b0.toInt = 4 * x.toInt := by rw [k0]; exact mi_cmul (by decide) (by omega) (by omega)
      have v1 : b1.toInt = 1 + 4 * x.toInt := by rw [k1, mi_add (by omega) (by omega), v0, one]
      have v2 : b2.toInt = 1 + 4 * x.toInt := by rw [k2, mi_addc (C := 0) (by decide) (by omega) (by omega), v1]; omega
      have v5 : b5.toInt = 4 * x.toInt := by rw [k5]; exact mi_cmul (by decide) (by omega) (by omega)
      have v6 : b6.toInt = 1 + 4 * x.toInt := by rw [k6, mi_add (by omega) (by omega), v5, one]
      have v7 : b7.toInt = 2 + 4 * x.toInt := by rw [k7, mi_addc (C := 1) (by decide) (by omega) (by omega), v6]; omega
      have v10 : b10.toInt = 4 * x.toInt := by rw [k10]; exact mi_cmul (by decide) (by omega) (by omega)
      have v11 : b11.toInt = 1 + 4 * x.toInt := by rw [k11, mi_add (by omega) (by omega), v10, one]
      have v12 : b12.toInt = 3 + 4 * x.toInt := by rw [k12, mi_addc (C := 2) (by decide) (by omega) (by omega), v11]; omega
      have v15 : b15.toInt = 4 * x.toInt := by rw [k15]; exact mi_cmul (by decide) (by omega) (by omega)
      have v16 : b16.toInt = 1 + 4 * x.toInt := by rw [k16, mi_add (by omega) (by omega), v15, one]
      have v17 : b17.toInt = 4 + 4 * x.toInt := by rw [k17, mi_addc (C := 3) (by decide) (by omega) (by omega), v16]; omega
      have K3 : b3 = a := by rw [k3]; exact h0
      have K8 : b8 = b := by rw [k8]; exact h1
      have K13 : b13 = c := by rw [k13]; exact h2
      have K18 : b18 = d := by rw [k18]; exact h3
      have E1 : pr2 = upd (upd (upd (upd pr (4 * x.toInt.toNat) a) (4 * x.toInt.toNat + 1) b) (4 * x.toInt.toNat + 2) c) (4 * x.toInt.toNat + 3) d := by
        rw [e1, ← eg9, ← eg7, ← eg5, ← eg3, show Int32.toNatClampNeg z2 = 4 * x.toInt.toNat from by rw [mi_cl, w2]; omega, show Int32.toNatClampNeg z4 = 4 * x.toInt.toNat + 1 from by rw [mi_cl, w4]; omega, show Int32.toNatClampNeg z6 = 4 * x.toInt.toNat + 2 from by rw [mi_cl, w6]; omega, show Int32.toNatClampNeg z8 = 4 * x.toInt.toNat + 3 from by rw [mi_cl, w8]; omega]
      have E2 : td2 = upd (upd (upd (upd (upd td (1 + 4 * x.toInt.toNat) a) (2 + 4 * x.toInt.toNat) b) (3 + 4 * x.toInt.toNat) c) (4 + 4 * x.toInt.toNat) d) 0 b20 := by
        rw [eu, ← k21, ← k19, ← k14, ← k9, ← k4, K3, K8, K13, K18, show Int32.toNatClampNeg b2 = 1 + 4 * x.toInt.toNat from by rw [mi_cl, v2]; omega, show Int32.toNatClampNeg b7 = 2 + 4 * x.toInt.toNat from by rw [mi_cl, v7]; omega, show Int32.toNatClampNeg b12 = 3 + 4 * x.toInt.toNat from by rw [mi_cl, v12]; omega, show Int32.toNatClampNeg b17 = 4 + 4 * x.toInt.toNat from by rw [mi_cl, v17]; omega]
        rfl
      refine ⟨by rw [E2, up_eq, e0, k20, f10], fun i hi j hj => ?_, by rw [e0, w10]; omega⟩
      rw [e0, w10] at hi
      by_cases hk : i = x.toInt.toNat
      · subst hk
        rcases (by omega : j = 0 ∨ j = 1 ∨ j = 2 ∨ j = 3) with e | e | e | e <;> subst e
        · rw [E1, E2, up_ne (by omega), up_ne (by omega), up_ne (by omega), up_ne (by omega), show 1 + 4 * x.toInt.toNat + 0 = 1 + 4 * x.toInt.toNat from rfl, up_eq, up_ne (by omega), up_ne (by omega), up_ne (by omega), show 4 * x.toInt.toNat + 0 = 4 * x.toInt.toNat from rfl, up_eq]
        · rw [E1, E2, up_ne (by omega), up_ne (by omega), up_ne (by omega), show 1 + 4 * x.toInt.toNat + 1 = 2 + 4 * x.toInt.toNat from by omega, up_eq, up_ne (by omega), up_ne (by omega), up_eq]
        · rw [E1, E2, up_ne (by omega), up_ne (by omega), show 1 + 4 * x.toInt.toNat + 2 = 3 + 4 * x.toInt.toNat from by omega, up_eq, up_ne (by omega), up_eq]
        · rw [E1, E2, up_ne (by omega), show 1 + 4 * x.toInt.toNat + 3 = 4 + 4 * x.toInt.toNat from by omega, up_eq, up_eq]
      · rw [E1, E2, up_ne (by omega), up_ne (by omega), up_ne (by omega), up_ne (by omega), up_ne (by omega), up_ne (by omega), up_ne (by omega), up_ne (by omega), up_ne (by omega)]
        exact A i (by omega) j hj
    · omega
theorem RD_min {td td2 rd hv hv2 : Nat → Int32} {mi mi2 a : Int32} (h : RD td mi hv) (h0 : rd 0 = a) (hx : R_k_addMinute mi hv a mi2 hv2) (hy : R_j_keepd td rd td2) : RD td2 mi2 hv2 := by
  obtain ⟨c0, A, rA⟩ := h
  obtain ⟨x, ex, hy⟩ := hy
  have ex : x = mi := by rw [← ex]; exact c0
  subst ex
  rcases hx with ⟨q, e0, e1⟩ | ⟨q, g2, eg2, z3, f3, e0, e1⟩
  · rcases hy with ⟨p, -⟩ | ⟨p, eu⟩
    · omega
    · rw [e0, e1, eu]; exact ⟨c0, A, rA⟩
  · rcases hy with ⟨p, z4, k4, z5, k5, z6, k6, z7, k7, g8, eg8, z10, k10, g11, eg11, eu⟩ | ⟨p, eu⟩
    · have one : (1 : Int32).toInt = 1 := by decide
      have w3 : z3.toInt = x.toInt + 1 := by rw [f3]; exact mi_addc (by decide) (by omega) (by omega)
      have v4 : z4.toInt = x.toInt := by rw [k4, mi_cmul (C := 1) (by decide) (by omega) (by omega)]; omega
      have v5 : z5.toInt = 1 + x.toInt := by rw [k5, mi_add (by omega) (by omega), v4, one]
      have v6 : z6.toInt = 1 + x.toInt := by rw [k6, mi_addc (C := 0) (by decide) (by omega) (by omega), v5]; omega
      have K7 : z7 = a := by rw [k7]; exact h0
      have E1 : hv2 = upd hv x.toInt.toNat a := by rw [e1, ← eg2]; rfl
      have E2 : td2 = upd (upd td (1 + x.toInt.toNat) a) 0 z10 := by
        rw [eu, ← eg11, ← eg8, K7, show Int32.toNatClampNeg z6 = 1 + x.toInt.toNat from by rw [mi_cl, v6]; omega]
        rfl
      refine ⟨by rw [E2, up_eq, e0, k10, f3], fun i hi => ?_, by rw [e0, w3]; omega⟩
      rw [e0, w3] at hi
      by_cases hk : i = x.toInt.toNat
      · subst hk
        rw [E1, E2, up_ne (by omega), up_eq, up_eq]
      · rw [E1, E2, up_ne (by omega), up_ne (by omega), up_ne (by omega)]
        exact A i (by omega)
    · omega
theorem fill_sp {v : Int32} {f g : Nat → Int32} (h : R_fill_3 v f g) : ∀ j : Nat, j < 3 → g j = v := by
  have key : ∀ (N : Nat) (st : Int32 × (Nat → Int32)), fx (T_fill_3_5 v g) N st → (0 ≤ st.1.toInt ∧ st.1.toInt ≤ 3 ∧ ∀ j : Nat, (j : Int) < st.1.toInt → st.2 j = v) → ∀ j : Nat, j < 3 → g j = v := by
    refine fx_ind ?_
    rintro K ⟨l, a⟩ ih h hi
    dsimp only at hi
    dsimp only [T_fill_3_5] at h
    obtain ⟨i1, i2, i3⟩ := hi
    rcases h with ⟨c, e⟩ | ⟨c, b, eb, y, ey, h⟩
    · intro j hj
      rw [e]; exact i3 j (by omega)
    · have hy : y.toInt = l.toInt + 1 := by rw [ey]; exact mi_addc (by decide) (by omega) (by omega)
      refine ih (y, b) h ?_
      dsimp only
      rw [hy]
      refine ⟨by omega, by omega, fun j hj => ?_⟩
      rw [← eb, mi_cl]
      by_cases hk : j = l.toInt.toNat
      · rw [hk, up_eq]
      · rw [up_ne hk]; exact i3 j (by omega)
  have z0 : (0 : Int32).toInt = 0 := by decide
  have hi : 0 ≤ (0 : Int32).toInt ∧ (0 : Int32).toInt ≤ 3 ∧ ∀ j : Nat, (j : Int) < (0 : Int32).toInt → f j = v := ⟨by decide, by decide, fun j hj => by omega⟩
  exact key _ _ h hi
