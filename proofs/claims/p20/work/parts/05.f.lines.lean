/-! whole lines in step -/
section LINES
variable {n pa ac us ra ch bo de mi : Int32} {t cl ha hu sa ak fl pr hv : Nat → Int32}
variable {u0 : Int32} {u1 : Int32} {u2 : Int32} {u3 : Int32} {u4 : Int32} {u5 : Int32} {u6 : Int32} {u7 : Int32} {u8 : Int32} {u9 : Int32} {u10 : Int32} {u11 : Int32} {u12 : Int32} {u13 : Nat → Int32} {u14 : Nat → Int32} {u15 : Nat → Int32} {u16 : Nat → Int32} {u17 : Nat → Int32} {u18 : Nat → Int32} {u19 : Int32} {u20 : Nat → Int32} {u21 : Int32} {u22 : Nat → Int32} {u23 : Nat → Int32}
theorem c_start {tk fr to va a fa pl : Int32} {rn : Nat → Int32} (h : R_k_readLine tk fr to va pa ac us ra ch bo cl ha hu sa ak fl de pr mi hv rn a t n fa pl u0 u1 u2 u3 u4 u5 u6 u7 u8 u9 u10 u11 u12 u13 u14 u15 u16 u17 u18 u19 u20 u21 u22 u23) : (tk.toInt ≠ 1 ∧ u0 = 0 ∧ u1 = 1 ∧ u2 = fr) ∨ (tk.toInt = 1 ∧ ∃ k : Int32, R_k_kindOf a to fr t k ∧ ((k.toInt = -1 ∧ u0 = 0 ∧ u1 = 1 ∧ u2 = fr) ∨ (k.toInt ≠ -1 ∧ ∃ (fu fa1 pl1 : Int32) (nm : Nat → Int32), R_k_isFull k pa ac us de mi fu ∧ ((fu.toInt = 0 ∧ fa1 = fa ∧ pl1 = pl) ∨ (fu.toInt ≠ 0 ∧ R_k_note fa pl 3 fr fa1 pl1)) ∧ (∀ j : Nat, j < 3 → nm j = -1) ∧ fx (T_k_readLine_56 k n t pa cl ha ac us ra ch bo hu sa ak fl de pr mi hv u0 u1 u2 u3 u4 u5 u6 u7 u8 u9 u10 u11 u12 u13 u14 u15 u16 u17 u18 u19 u20 u21 u22 u23) 5 (0, fa1, pl1, tk, fr, to, va, nm)))) := by
  rcases h with ⟨q, -, e0, e1, e2, -⟩ | ⟨q, k, hk, h⟩
  · exact Or.inl ⟨q, e0, e1, e2⟩
  · refine Or.inr ⟨q, k, hk, ?_⟩
    rcases h with ⟨q2, fu, hfu, h⟩ | ⟨q2, -, e0, e1, e2, -⟩
    · refine Or.inr ⟨q2, ?_⟩
      rcases h with ⟨c, nm, hf, h⟩ | ⟨c, fa1, pl1, hn, nm, hf, h⟩
      · exact ⟨fu, fa, pl, nm, hfu, Or.inl ⟨c, rfl, rfl⟩, fill_sp hf, h⟩
      · exact ⟨fu, fa1, pl1, nm, hfu, Or.inr ⟨c, hn⟩, fill_sp hf, h⟩
    · exact Or.inl ⟨q2, e0, e1, e2⟩
theorem isF_0 {fu : Int32} (h : R_k_isFull 0 pa ac us de mi fu) : (fu.toInt ≠ 0 ∧ 5 ≤ pa.toInt) ∨ (fu.toInt = 0 ∧ pa.toInt < 5) := by
  have kk : (0 : Int32).toInt = 0 := by decide
  rcases h with ⟨c, h⟩ | ⟨c, h⟩ | ⟨c, h⟩ | ⟨c, h⟩ | ⟨c, h⟩ | ⟨c, h⟩ | ⟨c, h⟩ | ⟨c, h⟩ | ⟨c, h⟩ | ⟨c, h⟩ | ⟨c, h⟩ | ⟨c, h⟩ | ⟨c, h⟩ | ⟨c, h⟩
  · rcases h with ⟨q, e⟩ | ⟨q, e⟩
    · exact Or.inr ⟨by rw [e]; decide, q⟩
    · exact Or.inl ⟨by rw [e]; decide, q⟩
  · omega
  · omega
  · omega
  · omega
  · omega
  · omega
  · omega
  · omega
  · omega
  · omega
  · omega
  · omega
  · omega
theorem isF_1 {fu : Int32} (h : R_k_isFull 1 pa ac us de mi fu) : (fu.toInt ≠ 0 ∧ 6 ≤ ac.toInt) ∨ (fu.toInt = 0 ∧ ac.toInt < 6) := by
  have kk : (1 : Int32).toInt = 1 := by decide
  rcases h with ⟨c, h⟩ | ⟨c, h⟩ | ⟨c, h⟩ | ⟨c, h⟩ | ⟨c, h⟩ | ⟨c, h⟩ | ⟨c, h⟩ | ⟨c, h⟩ | ⟨c, h⟩ | ⟨c, h⟩ | ⟨c, h⟩ | ⟨c, h⟩ | ⟨c, h⟩ | ⟨c, h⟩
  · omega
  · rcases h with ⟨q, e⟩ | ⟨q, e⟩
    · exact Or.inr ⟨by rw [e]; decide, q⟩
    · exact Or.inl ⟨by rw [e]; decide, q⟩
  · omega
  · omega
  · omega
  · omega
  · omega
  · omega
  · omega
  · omega
  · omega
  · omega
  · omega
  · omega
theorem isF_2 {fu : Int32} (h : R_k_isFull 2 pa ac us de mi fu) : (fu.toInt ≠ 0 ∧ 4 ≤ us.toInt) ∨ (fu.toInt = 0 ∧ us.toInt < 4) := by
  have kk : (2 : Int32).toInt = 2 := by decide
  rcases h with ⟨c, h⟩ | ⟨c, h⟩ | ⟨c, h⟩ | ⟨c, h⟩ | ⟨c, h⟩ | ⟨c, h⟩ | ⟨c, h⟩ | ⟨c, h⟩ | ⟨c, h⟩ | ⟨c, h⟩ | ⟨c, h⟩ | ⟨c, h⟩ | ⟨c, h⟩ | ⟨c, h⟩
  · omega
  · omega
  · rcases h with ⟨q, e⟩ | ⟨q, e⟩
    · exact Or.inr ⟨by rw [e]; decide, q⟩
    · exact Or.inl ⟨by rw [e]; decide, q⟩
  · omega
  · omega
  · omega
  · omega
  · omega
  · omega
  · omega
  · omega
  · omega
  · omega
  · omega
theorem isF_3 {fu : Int32} (h : R_k_isFull 3 pa ac us de mi fu) : fu.toInt = 0 := by
  have kk : (3 : Int32).toInt = 3 := by decide
  rcases h with ⟨c, h⟩ | ⟨c, h⟩ | ⟨c, h⟩ | ⟨c, h⟩ | ⟨c, h⟩ | ⟨c, h⟩ | ⟨c, h⟩ | ⟨c, h⟩ | ⟨c, h⟩ | ⟨c, h⟩ | ⟨c, h⟩ | ⟨c, h⟩ | ⟨c, h⟩ | ⟨c, h⟩
  · omega
  · omega
  · omega
  · rw [h]; decide
  · omega
  · omega
  · omega
  · omega
  · omega
  · omega
  · omega
  · omega
  · omega
  · omega
theorem isF_4 {fu : Int32} (h : R_k_isFull 4 pa ac us de mi fu) : fu.toInt = 0 := by
  have kk : (4 : Int32).toInt = 4 := by decide
  rcases h with ⟨c, h⟩ | ⟨c, h⟩ | ⟨c, h⟩ | ⟨c, h⟩ | ⟨c, h⟩ | ⟨c, h⟩ | ⟨c, h⟩ | ⟨c, h⟩ | ⟨c, h⟩ | ⟨c, h⟩ | ⟨c, h⟩ | ⟨c, h⟩ | ⟨c, h⟩ | ⟨c, h⟩
  · omega
  · omega
  · omega
  · omega
  · rw [h]; decide
  · omega
  · omega
  · omega
  · omega
  · omega
  · omega
  · omega
  · omega
  · omega
theorem isF_5 {fu : Int32} (h : R_k_isFull 5 pa ac us de mi fu) : fu.toInt = 0 := by
  have kk : (5 : Int32).toInt = 5 := by decide
  rcases h with ⟨c, h⟩ | ⟨c, h⟩ | ⟨c, h⟩ | ⟨c, h⟩ | ⟨c, h⟩ | ⟨c, h⟩ | ⟨c, h⟩ | ⟨c, h⟩ | ⟨c, h⟩ | ⟨c, h⟩ | ⟨c, h⟩ | ⟨c, h⟩ | ⟨c, h⟩ | ⟨c, h⟩
  · omega
  · omega
  · omega
  · omega
  · omega
  · rw [h]; decide
  · omega
  · omega
  · omega
  · omega
  · omega
  · omega
  · omega
  · omega
theorem isF_6 {fu : Int32} (h : R_k_isFull 6 pa ac us de mi fu) : (fu.toInt ≠ 0 ∧ 30 ≤ de.toInt) ∨ (fu.toInt = 0 ∧ de.toInt < 30) := by
  have kk : (6 : Int32).toInt = 6 := by decide
  rcases h with ⟨c, h⟩ | ⟨c, h⟩ | ⟨c, h⟩ | ⟨c, h⟩ | ⟨c, h⟩ | ⟨c, h⟩ | ⟨c, h⟩ | ⟨c, h⟩ | ⟨c, h⟩ | ⟨c, h⟩ | ⟨c, h⟩ | ⟨c, h⟩ | ⟨c, h⟩ | ⟨c, h⟩
  · omega
  · omega
  · omega
  · omega
  · omega
  · omega
  · rcases h with ⟨q, e⟩ | ⟨q, e⟩
    · exact Or.inr ⟨by rw [e]; decide, q⟩
    · exact Or.inl ⟨by rw [e]; decide, q⟩
  · omega
  · omega
  · omega
  · omega
  · omega
  · omega
  · omega
theorem isF_7 {fu : Int32} (h : R_k_isFull 7 pa ac us de mi fu) : (fu.toInt ≠ 0 ∧ 30 ≤ de.toInt) ∨ (fu.toInt = 0 ∧ de.toInt < 30) := by
  have kk : (7 : Int32).toInt = 7 := by decide
  rcases h with ⟨c, h⟩ | ⟨c, h⟩ | ⟨c, h⟩ | ⟨c, h⟩ | ⟨c, h⟩ | ⟨c, h⟩ | ⟨c, h⟩ | ⟨c, h⟩ | ⟨c, h⟩ | ⟨c, h⟩ | ⟨c, h⟩ | ⟨c, h⟩ | ⟨c, h⟩ | ⟨c, h⟩
  · omega
  · omega
  · omega
  · omega
  · omega
  · omega
  · omega
  · rcases h with ⟨q, e⟩ | ⟨q, e⟩
    · exact Or.inr ⟨by rw [e]; decide, q⟩
    · exact Or.inl ⟨by rw [e]; decide, q⟩
  · omega
  · omega
  · omega
  · omega
  · omega
  · omega
theorem isF_8 {fu : Int32} (h : R_k_isFull 8 pa ac us de mi fu) : (fu.toInt ≠ 0 ∧ 30 ≤ de.toInt) ∨ (fu.toInt = 0 ∧ de.toInt < 30) := by
  have kk : (8 : Int32).toInt = 8 := by decide
  rcases h with ⟨c, h⟩ | ⟨c, h⟩ | ⟨c, h⟩ | ⟨c, h⟩ | ⟨c, h⟩ | ⟨c, h⟩ | ⟨c, h⟩ | ⟨c, h⟩ | ⟨c, h⟩ | ⟨c, h⟩ | ⟨c, h⟩ | ⟨c, h⟩ | ⟨c, h⟩ | ⟨c, h⟩
  · omega
  · omega
  · omega
  · omega
  · omega
  · omega
  · omega
  · omega
  · rcases h with ⟨q, e⟩ | ⟨q, e⟩
    · exact Or.inr ⟨by rw [e]; decide, q⟩
    · exact Or.inl ⟨by rw [e]; decide, q⟩
  · omega
  · omega
  · omega
  · omega
  · omega
theorem isF_9 {fu : Int32} (h : R_k_isFull 9 pa ac us de mi fu) : (fu.toInt ≠ 0 ∧ 30 ≤ de.toInt) ∨ (fu.toInt = 0 ∧ de.toInt < 30) := by
  have kk : (9 : Int32).toInt = 9 := by decide
  rcases h with ⟨c, h⟩ | ⟨c, h⟩ | ⟨c, h⟩ | ⟨c, h⟩ | ⟨c, h⟩ | ⟨c, h⟩ | ⟨c, h⟩ | ⟨c, h⟩ | ⟨c, h⟩ | ⟨c, h⟩ | ⟨c, h⟩ | ⟨c, h⟩ | ⟨c, h⟩ | ⟨c, h⟩
  · omega
  · omega
  · omega
  · omega
  · omega
  · omega
  · omega
  · omega
  · omega
  · rcases h with ⟨q, e⟩ | ⟨q, e⟩
    · exact Or.inr ⟨by rw [e]; decide, q⟩
    · exact Or.inl ⟨by rw [e]; decide, q⟩
  · omega
  · omega
  · omega
  · omega
theorem isF_10 {fu : Int32} (h : R_k_isFull 10 pa ac us de mi fu) : (fu.toInt ≠ 0 ∧ 30 ≤ de.toInt) ∨ (fu.toInt = 0 ∧ de.toInt < 30) := by
  have kk : (10 : Int32).toInt = 10 := by decide
  rcases h with ⟨c, h⟩ | ⟨c, h⟩ | ⟨c, h⟩ | ⟨c, h⟩ | ⟨c, h⟩ | ⟨c, h⟩ | ⟨c, h⟩ | ⟨c, h⟩ | ⟨c, h⟩ | ⟨c, h⟩ | ⟨c, h⟩ | ⟨c, h⟩ | ⟨c, h⟩ | ⟨c, h⟩
  · omega
  · omega
  · omega
  · omega
  · omega
  · omega
  · omega
  · omega
  · omega
  · omega
  · rcases h with ⟨q, e⟩ | ⟨q, e⟩
    · exact Or.inr ⟨by rw [e]; decide, q⟩
    · exact Or.inl ⟨by rw [e]; decide, q⟩
  · omega
  · omega
  · omega
theorem isF_11 {fu : Int32} (h : R_k_isFull 11 pa ac us de mi fu) : (fu.toInt ≠ 0 ∧ 30 ≤ de.toInt) ∨ (fu.toInt = 0 ∧ de.toInt < 30) := by
  have kk : (11 : Int32).toInt = 11 := by decide
  rcases h with ⟨c, h⟩ | ⟨c, h⟩ | ⟨c, h⟩ | ⟨c, h⟩ | ⟨c, h⟩ | ⟨c, h⟩ | ⟨c, h⟩ | ⟨c, h⟩ | ⟨c, h⟩ | ⟨c, h⟩ | ⟨c, h⟩ | ⟨c, h⟩ | ⟨c, h⟩ | ⟨c, h⟩
  · omega
  · omega
  · omega
  · omega
  · omega
  · omega
  · omega
  · omega
  · omega
  · omega
  · omega
  · rcases h with ⟨q, e⟩ | ⟨q, e⟩
    · exact Or.inr ⟨by rw [e]; decide, q⟩
    · exact Or.inl ⟨by rw [e]; decide, q⟩
  · omega
  · omega
theorem isF_12 {fu : Int32} (h : R_k_isFull 12 pa ac us de mi fu) : (fu.toInt ≠ 0 ∧ 30 ≤ de.toInt) ∨ (fu.toInt = 0 ∧ de.toInt < 30) := by
  have kk : (12 : Int32).toInt = 12 := by decide
  rcases h with ⟨c, h⟩ | ⟨c, h⟩ | ⟨c, h⟩ | ⟨c, h⟩ | ⟨c, h⟩ | ⟨c, h⟩ | ⟨c, h⟩ | ⟨c, h⟩ | ⟨c, h⟩ | ⟨c, h⟩ | ⟨c, h⟩ | ⟨c, h⟩ | ⟨c, h⟩ | ⟨c, h⟩
  · omega
  · omega
  · omega
  · omega
  · omega
  · omega
  · omega
  · omega
  · omega
  · omega
  · omega
  · omega
  · rcases h with ⟨q, e⟩ | ⟨q, e⟩
    · exact Or.inr ⟨by rw [e]; decide, q⟩
    · exact Or.inl ⟨by rw [e]; decide, q⟩
  · omega
theorem isF_13 {fu : Int32} (h : R_k_isFull 13 pa ac us de mi fu) : (fu.toInt ≠ 0 ∧ 6 ≤ mi.toInt) ∨ (fu.toInt = 0 ∧ mi.toInt < 6) := by
  have kk : (13 : Int32).toInt = 13 := by decide
  rcases h with ⟨c, h⟩ | ⟨c, h⟩ | ⟨c, h⟩ | ⟨c, h⟩ | ⟨c, h⟩ | ⟨c, h⟩ | ⟨c, h⟩ | ⟨c, h⟩ | ⟨c, h⟩ | ⟨c, h⟩ | ⟨c, h⟩ | ⟨c, h⟩ | ⟨c, h⟩ | ⟨c, h⟩
  · omega
  · omega
  · omega
  · omega
  · omega
  · omega
  · omega
  · omega
  · omega
  · omega
  · omega
  · omega
  · omega
  · rcases h with ⟨q, e⟩ | ⟨q, e⟩
    · exact Or.inr ⟨by rw [e]; decide, q⟩
    · exact Or.inl ⟨by rw [e]; decide, q⟩
theorem kl_0 {nm : Nat → Int32} (h : R_k_keepLine 0 nm pa cl ha ac us ra ch bo hu sa ak fl de pr mi hv u7 u8 u9 u10 u11 u12 u13 u14 u15 u16 u17 u18 u19 u20 u21 u22) : R_k_addPalm pa cl ha (nm 0) (nm 1) u7 u13 u14 ∧ u8 = ac ∧ u9 = us ∧ u10 = ra ∧ u11 = ch ∧ u12 = bo ∧ u15 = hu ∧ u16 = sa ∧ u17 = ak ∧ u18 = fl ∧ u19 = de ∧ u20 = pr ∧ u21 = mi ∧ u22 = hv := by
  have kk : (0 : Int32).toInt = 0 := by decide
  rcases h with ⟨c, h⟩ | ⟨c, h⟩ | ⟨c, h⟩ | ⟨c, h⟩ | ⟨c, h⟩ | ⟨c, h⟩ | ⟨c, h⟩ | ⟨c, h⟩ | ⟨c, h⟩ | ⟨c, h⟩ | ⟨c, h⟩ | ⟨c, h⟩ | ⟨c, h⟩ | ⟨c, h⟩
  · obtain ⟨z2, f2, z3, f3, n0, g1, g2, hx, rst_⟩ := h
    obtain ⟨e0, e1, e2, e3, e4, e5, e6, e7, rst_⟩ := rst_
    obtain ⟨e8, e9, e10, e11, e12, e13, e14, e15⟩ := rst_
    refine ⟨?_, e1, e2, e3, e4, e5, e8, e9, e10, e11, e12, e13, e14, e15⟩
    rw [e0, e6, e7]
    have a2 : z2 = nm 0 := f2
    have a3 : z3 = nm 1 := f3
    rw [a2, a3] at hx
    exact hx
  · omega
  · omega
  · omega
  · omega
  · omega
  · omega
  · omega
  · omega
  · omega
  · omega
  · omega
  · omega
  · omega
theorem kl_1 {nm : Nat → Int32} (h : R_k_keepLine 1 nm pa cl ha ac us ra ch bo hu sa ak fl de pr mi hv u7 u8 u9 u10 u11 u12 u13 u14 u15 u16 u17 u18 u19 u20 u21 u22) : R_k_addActor ac hu sa (nm 0) (nm 1) u8 u15 u16 ∧ u7 = pa ∧ u9 = us ∧ u10 = ra ∧ u11 = ch ∧ u12 = bo ∧ u13 = cl ∧ u14 = ha ∧ u17 = ak ∧ u18 = fl ∧ u19 = de ∧ u20 = pr ∧ u21 = mi ∧ u22 = hv := by
  have kk : (1 : Int32).toInt = 1 := by decide
  rcases h with ⟨c, h⟩ | ⟨c, h⟩ | ⟨c, h⟩ | ⟨c, h⟩ | ⟨c, h⟩ | ⟨c, h⟩ | ⟨c, h⟩ | ⟨c, h⟩ | ⟨c, h⟩ | ⟨c, h⟩ | ⟨c, h⟩ | ⟨c, h⟩ | ⟨c, h⟩ | ⟨c, h⟩
  · omega
  · obtain ⟨z2, f2, z3, f3, n0, g1, g2, hx, rst_⟩ := h
    obtain ⟨e0, e1, e2, e3, e4, e5, e6, e7, rst_⟩ := rst_
    obtain ⟨e8, e9, e10, e11, e12, e13, e14, e15⟩ := rst_
    refine ⟨?_, e0, e2, e3, e4, e5, e6, e7, e10, e11, e12, e13, e14, e15⟩
    rw [e1, e8, e9]
    have a2 : z2 = nm 0 := f2
    have a3 : z3 = nm 1 := f3
    rw [a2, a3] at hx
    exact hx
  · omega
  · omega
  · omega
  · omega
  · omega
  · omega
  · omega
  · omega
  · omega
  · omega
  · omega
  · omega
theorem kl_2 {nm : Nat → Int32} (h : R_k_keepLine 2 nm pa cl ha ac us ra ch bo hu sa ak fl de pr mi hv u7 u8 u9 u10 u11 u12 u13 u14 u15 u16 u17 u18 u19 u20 u21 u22) : R_k_addUsurer us ak fl (nm 0) (nm 1) u9 u17 u18 ∧ u7 = pa ∧ u8 = ac ∧ u10 = ra ∧ u11 = ch ∧ u12 = bo ∧ u13 = cl ∧ u14 = ha ∧ u15 = hu ∧ u16 = sa ∧ u19 = de ∧ u20 = pr ∧ u21 = mi ∧ u22 = hv := by
  have kk : (2 : Int32).toInt = 2 := by decide
  rcases h with ⟨c, h⟩ | ⟨c, h⟩ | ⟨c, h⟩ | ⟨c, h⟩ | ⟨c, h⟩ | ⟨c, h⟩ | ⟨c, h⟩ | ⟨c, h⟩ | ⟨c, h⟩ | ⟨c, h⟩ | ⟨c, h⟩ | ⟨c, h⟩ | ⟨c, h⟩ | ⟨c, h⟩
  · omega
  · omega
  · obtain ⟨z2, f2, z3, f3, n0, g1, g2, hx, rst_⟩ := h
    obtain ⟨e0, e1, e2, e3, e4, e5, e6, e7, rst_⟩ := rst_
    obtain ⟨e8, e9, e10, e11, e12, e13, e14, e15⟩ := rst_
    refine ⟨?_, e0, e1, e3, e4, e5, e6, e7, e8, e9, e12, e13, e14, e15⟩
    rw [e2, e10, e11]
    have a2 : z2 = nm 0 := f2
    have a3 : z3 = nm 1 := f3
    rw [a2, a3] at hx
    exact hx
  · omega
  · omega
  · omega
  · omega
  · omega
  · omega
  · omega
  · omega
  · omega
  · omega
  · omega
theorem kl_3 {nm : Nat → Int32} (h : R_k_keepLine 3 nm pa cl ha ac us ra ch bo hu sa ak fl de pr mi hv u7 u8 u9 u10 u11 u12 u13 u14 u15 u16 u17 u18 u19 u20 u21 u22) : u10 = nm 0 ∧ u7 = pa ∧ u8 = ac ∧ u9 = us ∧ u11 = ch ∧ u12 = bo ∧ u13 = cl ∧ u14 = ha ∧ u15 = hu ∧ u16 = sa ∧ u17 = ak ∧ u18 = fl ∧ u19 = de ∧ u20 = pr ∧ u21 = mi ∧ u22 = hv := by
  have kk : (3 : Int32).toInt = 3 := by decide
  rcases h with ⟨c, h⟩ | ⟨c, h⟩ | ⟨c, h⟩ | ⟨c, h⟩ | ⟨c, h⟩ | ⟨c, h⟩ | ⟨c, h⟩ | ⟨c, h⟩ | ⟨c, h⟩ | ⟨c, h⟩ | ⟨c, h⟩ | ⟨c, h⟩ | ⟨c, h⟩ | ⟨c, h⟩
  · omega
  · omega
  · omega
  · obtain ⟨z2, f2, e0, e1, e2, e3, e4, e5, rst_⟩ := h
    obtain ⟨e6, e7, e8, e9, e10, e11, e12, e13, rst_⟩ := rst_
    obtain ⟨e14, e15⟩ := rst_
    refine ⟨?_, e0, e1, e2, e4, e5, e6, e7, e8, e9, e10, e11, e12, e13, e14, e15⟩
    rw [e3, f2]
    rfl
  · omega
  · omega
  · omega
  · omega
  · omega
  · omega
  · omega
  · omega
  · omega
  · omega
theorem kl_4 {nm : Nat → Int32} (h : R_k_keepLine 4 nm pa cl ha ac us ra ch bo hu sa ak fl de pr mi hv u7 u8 u9 u10 u11 u12 u13 u14 u15 u16 u17 u18 u19 u20 u21 u22) : u11 = nm 0 ∧ u7 = pa ∧ u8 = ac ∧ u9 = us ∧ u10 = ra ∧ u12 = bo ∧ u13 = cl ∧ u14 = ha ∧ u15 = hu ∧ u16 = sa ∧ u17 = ak ∧ u18 = fl ∧ u19 = de ∧ u20 = pr ∧ u21 = mi ∧ u22 = hv := by
  have kk : (4 : Int32).toInt = 4 := by decide
  rcases h with ⟨c, h⟩ | ⟨c, h⟩ | ⟨c, h⟩ | ⟨c, h⟩ | ⟨c, h⟩ | ⟨c, h⟩ | ⟨c, h⟩ | ⟨c, h⟩ | ⟨c, h⟩ | ⟨c, h⟩ | ⟨c, h⟩ | ⟨c, h⟩ | ⟨c, h⟩ | ⟨c, h⟩
  · omega
  · omega
  · omega
  · omega
  · obtain ⟨z2, f2, e0, e1, e2, e3, e4, e5, rst_⟩ := h
    obtain ⟨e6, e7, e8, e9, e10, e11, e12, e13, rst_⟩ := rst_
    obtain ⟨e14, e15⟩ := rst_
    refine ⟨?_, e0, e1, e2, e3, e5, e6, e7, e8, e9, e10, e11, e12, e13, e14, e15⟩
    rw [e4, f2]
    rfl
  · omega
  · omega
  · omega
  · omega
  · omega
  · omega
  · omega
  · omega
  · omega
theorem kl_5 {nm : Nat → Int32} (h : R_k_keepLine 5 nm pa cl ha ac us ra ch bo hu sa ak fl de pr mi hv u7 u8 u9 u10 u11 u12 u13 u14 u15 u16 u17 u18 u19 u20 u21 u22) : u12 = nm 0 ∧ u7 = pa ∧ u8 = ac ∧ u9 = us ∧ u10 = ra ∧ u11 = ch ∧ u13 = cl ∧ u14 = ha ∧ u15 = hu ∧ u16 = sa ∧ u17 = ak ∧ u18 = fl ∧ u19 = de ∧ u20 = pr ∧ u21 = mi ∧ u22 = hv := by
  have kk : (5 : Int32).toInt = 5 := by decide
  rcases h with ⟨c, h⟩ | ⟨c, h⟩ | ⟨c, h⟩ | ⟨c, h⟩ | ⟨c, h⟩ | ⟨c, h⟩ | ⟨c, h⟩ | ⟨c, h⟩ | ⟨c, h⟩ | ⟨c, h⟩ | ⟨c, h⟩ | ⟨c, h⟩ | ⟨c, h⟩ | ⟨c, h⟩
  · omega
  · omega
  · omega
  · omega
  · omega
  · obtain ⟨z2, f2, e0, e1, e2, e3, e4, e5, rst_⟩ := h
    obtain ⟨e6, e7, e8, e9, e10, e11, e12, e13, rst_⟩ := rst_
    obtain ⟨e14, e15⟩ := rst_
    refine ⟨?_, e0, e1, e2, e3, e4, e6, e7, e8, e9, e10, e11, e12, e13, e14, e15⟩
    rw [e5, f2]
    rfl
  · omega
  · omega
  · omega
  · omega
  · omega
  · omega
  · omega
  · omega
theorem kl_6 {nm : Nat → Int32} (h : R_k_keepLine 6 nm pa cl ha ac us ra ch bo hu sa ak fl de pr mi hv u7 u8 u9 u10 u11 u12 u13 u14 u15 u16 u17 u18 u19 u20 u21 u22) : R_k_addDeed de pr 0 (nm 0) (nm 1) (nm 2) u19 u20 ∧ u7 = pa ∧ u8 = ac ∧ u9 = us ∧ u10 = ra ∧ u11 = ch ∧ u12 = bo ∧ u13 = cl ∧ u14 = ha ∧ u15 = hu ∧ u16 = sa ∧ u17 = ak ∧ u18 = fl ∧ u21 = mi ∧ u22 = hv := by
  have kk : (6 : Int32).toInt = 6 := by decide
  rcases h with ⟨c, h⟩ | ⟨c, h⟩ | ⟨c, h⟩ | ⟨c, h⟩ | ⟨c, h⟩ | ⟨c, h⟩ | ⟨c, h⟩ | ⟨c, h⟩ | ⟨c, h⟩ | ⟨c, h⟩ | ⟨c, h⟩ | ⟨c, h⟩ | ⟨c, h⟩ | ⟨c, h⟩
  · omega
  · omega
  · omega
  · omega
  · omega
  · omega
  · obtain ⟨z1, f1, z2, f2, z3, f3, z4, f4, rst_⟩ := h
    obtain ⟨n0, g1, hx, e0, e1, e2, e3, e4, rst_⟩ := rst_
    obtain ⟨e5, e6, e7, e8, e9, e10, e11, e12, rst_⟩ := rst_
    obtain ⟨e13, e14, e15⟩ := rst_
    refine ⟨?_, e0, e1, e2, e3, e4, e5, e6, e7, e8, e9, e10, e11, e14, e15⟩
    rw [e12, e13]
    have a1 : z1 = 0 := by rw [f1]; decide
    have a2 : z2 = nm 0 := f2
    have a3 : z3 = nm 1 := f3
    have a4 : z4 = nm 2 := f4
    rw [a1, a2, a3, a4] at hx
    exact hx
  · omega
  · omega
  · omega
  · omega
  · omega
  · omega
  · omega
theorem kl_7 {nm : Nat → Int32} (h : R_k_keepLine 7 nm pa cl ha ac us ra ch bo hu sa ak fl de pr mi hv u7 u8 u9 u10 u11 u12 u13 u14 u15 u16 u17 u18 u19 u20 u21 u22) : R_k_addDeed de pr 1 (nm 0) (nm 1) (nm 2) u19 u20 ∧ u7 = pa ∧ u8 = ac ∧ u9 = us ∧ u10 = ra ∧ u11 = ch ∧ u12 = bo ∧ u13 = cl ∧ u14 = ha ∧ u15 = hu ∧ u16 = sa ∧ u17 = ak ∧ u18 = fl ∧ u21 = mi ∧ u22 = hv := by
  have kk : (7 : Int32).toInt = 7 := by decide
  rcases h with ⟨c, h⟩ | ⟨c, h⟩ | ⟨c, h⟩ | ⟨c, h⟩ | ⟨c, h⟩ | ⟨c, h⟩ | ⟨c, h⟩ | ⟨c, h⟩ | ⟨c, h⟩ | ⟨c, h⟩ | ⟨c, h⟩ | ⟨c, h⟩ | ⟨c, h⟩ | ⟨c, h⟩
  · omega
  · omega
  · omega
  · omega
  · omega
  · omega
  · omega
  · obtain ⟨z1, f1, z2, f2, z3, f3, z4, f4, rst_⟩ := h
    obtain ⟨n0, g1, hx, e0, e1, e2, e3, e4, rst_⟩ := rst_
    obtain ⟨e5, e6, e7, e8, e9, e10, e11, e12, rst_⟩ := rst_
    obtain ⟨e13, e14, e15⟩ := rst_
    refine ⟨?_, e0, e1, e2, e3, e4, e5, e6, e7, e8, e9, e10, e11, e14, e15⟩
    rw [e12, e13]
    have a1 : z1 = 1 := by rw [f1]; decide
    have a2 : z2 = nm 0 := f2
    have a3 : z3 = nm 1 := f3
    have a4 : z4 = nm 2 := f4
    rw [a1, a2, a3, a4] at hx
    exact hx
  · omega
  · omega
  · omega
  · omega
  · omega
  · omega
theorem kl_8 {nm : Nat → Int32} (h : R_k_keepLine 8 nm pa cl ha ac us ra ch bo hu sa ak fl de pr mi hv u7 u8 u9 u10 u11 u12 u13 u14 u15 u16 u17 u18 u19 u20 u21 u22) : R_k_addDeed de pr 2 (nm 0) (nm 1) (nm 2) u19 u20 ∧ u7 = pa ∧ u8 = ac ∧ u9 = us ∧ u10 = ra ∧ u11 = ch ∧ u12 = bo ∧ u13 = cl ∧ u14 = ha ∧ u15 = hu ∧ u16 = sa ∧ u17 = ak ∧ u18 = fl ∧ u21 = mi ∧ u22 = hv := by
  have kk : (8 : Int32).toInt = 8 := by decide
  rcases h with ⟨c, h⟩ | ⟨c, h⟩ | ⟨c, h⟩ | ⟨c, h⟩ | ⟨c, h⟩ | ⟨c, h⟩ | ⟨c, h⟩ | ⟨c, h⟩ | ⟨c, h⟩ | ⟨c, h⟩ | ⟨c, h⟩ | ⟨c, h⟩ | ⟨c, h⟩ | ⟨c, h⟩
  · omega
  · omega
  · omega
  · omega
  · omega
  · omega
  · omega
  · omega
  · obtain ⟨z1, f1, z2, f2, z3, f3, z4, f4, rst_⟩ := h
    obtain ⟨n0, g1, hx, e0, e1, e2, e3, e4, rst_⟩ := rst_
    obtain ⟨e5, e6, e7, e8, e9, e10, e11, e12, rst_⟩ := rst_
    obtain ⟨e13, e14, e15⟩ := rst_
    refine ⟨?_, e0, e1, e2, e3, e4, e5, e6, e7, e8, e9, e10, e11, e14, e15⟩
    rw [e12, e13]
    have a1 : z1 = 2 := by rw [f1]; decide
    have a2 : z2 = nm 0 := f2
    have a3 : z3 = nm 1 := f3
    have a4 : z4 = nm 2 := f4
    rw [a1, a2, a3, a4] at hx
    exact hx
  · omega
  · omega
  · omega
  · omega
  · omega
theorem kl_9 {nm : Nat → Int32} (h : R_k_keepLine 9 nm pa cl ha ac us ra ch bo hu sa ak fl de pr mi hv u7 u8 u9 u10 u11 u12 u13 u14 u15 u16 u17 u18 u19 u20 u21 u22) : R_k_addDeed de pr 3 (nm 0) (nm 1) (nm 2) u19 u20 ∧ u7 = pa ∧ u8 = ac ∧ u9 = us ∧ u10 = ra ∧ u11 = ch ∧ u12 = bo ∧ u13 = cl ∧ u14 = ha ∧ u15 = hu ∧ u16 = sa ∧ u17 = ak ∧ u18 = fl ∧ u21 = mi ∧ u22 = hv := by
  have kk : (9 : Int32).toInt = 9 := by decide
  rcases h with ⟨c, h⟩ | ⟨c, h⟩ | ⟨c, h⟩ | ⟨c, h⟩ | ⟨c, h⟩ | ⟨c, h⟩ | ⟨c, h⟩ | ⟨c, h⟩ | ⟨c, h⟩ | ⟨c, h⟩ | ⟨c, h⟩ | ⟨c, h⟩ | ⟨c, h⟩ | ⟨c, h⟩
  · omega
  · omega
  · omega
  · omega
  · omega
  · omega
  · omega
  · omega
  · omega
  · obtain ⟨z1, f1, z2, f2, z3, f3, z4, f4, rst_⟩ := h
    obtain ⟨n0, g1, hx, e0, e1, e2, e3, e4, rst_⟩ := rst_
    obtain ⟨e5, e6, e7, e8, e9, e10, e11, e12, rst_⟩ := rst_
    obtain ⟨e13, e14, e15⟩ := rst_
    refine ⟨?_, e0, e1, e2, e3, e4, e5, e6, e7, e8, e9, e10, e11, e14, e15⟩
    rw [e12, e13]
    have a1 : z1 = 3 := by rw [f1]; decide
    have a2 : z2 = nm 0 := f2
    have a3 : z3 = nm 1 := f3
    have a4 : z4 = nm 2 := f4
    rw [a1, a2, a3, a4] at hx
    exact hx
  · omega
  · omega
  · omega
  · omega
theorem kl_10 {nm : Nat → Int32} (h : R_k_keepLine 10 nm pa cl ha ac us ra ch bo hu sa ak fl de pr mi hv u7 u8 u9 u10 u11 u12 u13 u14 u15 u16 u17 u18 u19 u20 u21 u22) : R_k_addDeed de pr 4 (nm 0) (nm 1) (nm 2) u19 u20 ∧ u7 = pa ∧ u8 = ac ∧ u9 = us ∧ u10 = ra ∧ u11 = ch ∧ u12 = bo ∧ u13 = cl ∧ u14 = ha ∧ u15 = hu ∧ u16 = sa ∧ u17 = ak ∧ u18 = fl ∧ u21 = mi ∧ u22 = hv := by
  have kk : (10 : Int32).toInt = 10 := by decide
  rcases h with ⟨c, h⟩ | ⟨c, h⟩ | ⟨c, h⟩ | ⟨c, h⟩ | ⟨c, h⟩ | ⟨c, h⟩ | ⟨c, h⟩ | ⟨c, h⟩ | ⟨c, h⟩ | ⟨c, h⟩ | ⟨c, h⟩ | ⟨c, h⟩ | ⟨c, h⟩ | ⟨c, h⟩
  · omega
  · omega
  · omega
  · omega
  · omega
  · omega
  · omega
  · omega
  · omega
  · omega
  · obtain ⟨z1, f1, z2, f2, z3, f3, z4, f4, rst_⟩ := h
    obtain ⟨n0, g1, hx, e0, e1, e2, e3, e4, rst_⟩ := rst_
    obtain ⟨e5, e6, e7, e8, e9, e10, e11, e12, rst_⟩ := rst_
    obtain ⟨e13, e14, e15⟩ := rst_
    refine ⟨?_, e0, e1, e2, e3, e4, e5, e6, e7, e8, e9, e10, e11, e14, e15⟩
    rw [e12, e13]
    have a1 : z1 = 4 := by rw [f1]; decide
    have a2 : z2 = nm 0 := f2
    have a3 : z3 = nm 1 := f3
    have a4 : z4 = nm 2 := f4
    rw [a1, a2, a3, a4] at hx
    exact hx
  · omega
  · omega
  · omega
theorem kl_11 {nm : Nat → Int32} (h : R_k_keepLine 11 nm pa cl ha ac us ra ch bo hu sa ak fl de pr mi hv u7 u8 u9 u10 u11 u12 u13 u14 u15 u16 u17 u18 u19 u20 u21 u22) : R_k_addDeed de pr 5 (nm 0) (nm 1) (nm 2) u19 u20 ∧ u7 = pa ∧ u8 = ac ∧ u9 = us ∧ u10 = ra ∧ u11 = ch ∧ u12 = bo ∧ u13 = cl ∧ u14 = ha ∧ u15 = hu ∧ u16 = sa ∧ u17 = ak ∧ u18 = fl ∧ u21 = mi ∧ u22 = hv := by
  have kk : (11 : Int32).toInt = 11 := by decide
  rcases h with ⟨c, h⟩ | ⟨c, h⟩ | ⟨c, h⟩ | ⟨c, h⟩ | ⟨c, h⟩ | ⟨c, h⟩ | ⟨c, h⟩ | ⟨c, h⟩ | ⟨c, h⟩ | ⟨c, h⟩ | ⟨c, h⟩ | ⟨c, h⟩ | ⟨c, h⟩ | ⟨c, h⟩
  · omega
  · omega
  · omega
  · omega
  · omega
  · omega
  · omega
  · omega
  · omega
  · omega
  · omega
  · obtain ⟨z1, f1, z2, f2, z3, f3, z4, f4, rst_⟩ := h
    obtain ⟨n0, g1, hx, e0, e1, e2, e3, e4, rst_⟩ := rst_
    obtain ⟨e5, e6, e7, e8, e9, e10, e11, e12, rst_⟩ := rst_
    obtain ⟨e13, e14, e15⟩ := rst_
    refine ⟨?_, e0, e1, e2, e3, e4, e5, e6, e7, e8, e9, e10, e11, e14, e15⟩
    rw [e12, e13]
    have a1 : z1 = 5 := by rw [f1]; decide
    have a2 : z2 = nm 0 := f2
    have a3 : z3 = nm 1 := f3
    have a4 : z4 = nm 2 := f4
    rw [a1, a2, a3, a4] at hx
    exact hx
  · omega
  · omega
theorem kl_12 {nm : Nat → Int32} (h : R_k_keepLine 12 nm pa cl ha ac us ra ch bo hu sa ak fl de pr mi hv u7 u8 u9 u10 u11 u12 u13 u14 u15 u16 u17 u18 u19 u20 u21 u22) : R_k_addDeed de pr 6 (nm 0) (nm 1) (nm 2) u19 u20 ∧ u7 = pa ∧ u8 = ac ∧ u9 = us ∧ u10 = ra ∧ u11 = ch ∧ u12 = bo ∧ u13 = cl ∧ u14 = ha ∧ u15 = hu ∧ u16 = sa ∧ u17 = ak ∧ u18 = fl ∧ u21 = mi ∧ u22 = hv := by
  have kk : (12 : Int32).toInt = 12 := by decide
  rcases h with ⟨c, h⟩ | ⟨c, h⟩ | ⟨c, h⟩ | ⟨c, h⟩ | ⟨c, h⟩ | ⟨c, h⟩ | ⟨c, h⟩ | ⟨c, h⟩ | ⟨c, h⟩ | ⟨c, h⟩ | ⟨c, h⟩ | ⟨c, h⟩ | ⟨c, h⟩ | ⟨c, h⟩
  · omega
  · omega
  · omega
  · omega
  · omega
  · omega
  · omega
  · omega
  · omega
  · omega
  · omega
  · omega
  · obtain ⟨z1, f1, z2, f2, z3, f3, z4, f4, rst_⟩ := h
    obtain ⟨n0, g1, hx, e0, e1, e2, e3, e4, rst_⟩ := rst_
    obtain ⟨e5, e6, e7, e8, e9, e10, e11, e12, rst_⟩ := rst_
    obtain ⟨e13, e14, e15⟩ := rst_
    refine ⟨?_, e0, e1, e2, e3, e4, e5, e6, e7, e8, e9, e10, e11, e14, e15⟩
    rw [e12, e13]
    have a1 : z1 = 6 := by rw [f1]; decide
    have a2 : z2 = nm 0 := f2
    have a3 : z3 = nm 1 := f3
    have a4 : z4 = nm 2 := f4
    rw [a1, a2, a3, a4] at hx
    exact hx
  · omega
theorem kl_13 {nm : Nat → Int32} (h : R_k_keepLine 13 nm pa cl ha ac us ra ch bo hu sa ak fl de pr mi hv u7 u8 u9 u10 u11 u12 u13 u14 u15 u16 u17 u18 u19 u20 u21 u22) : R_k_addMinute mi hv (nm 0) u21 u22 ∧ u7 = pa ∧ u8 = ac ∧ u9 = us ∧ u10 = ra ∧ u11 = ch ∧ u12 = bo ∧ u13 = cl ∧ u14 = ha ∧ u15 = hu ∧ u16 = sa ∧ u17 = ak ∧ u18 = fl ∧ u19 = de ∧ u20 = pr := by
  have kk : (13 : Int32).toInt = 13 := by decide
  rcases h with ⟨c, h⟩ | ⟨c, h⟩ | ⟨c, h⟩ | ⟨c, h⟩ | ⟨c, h⟩ | ⟨c, h⟩ | ⟨c, h⟩ | ⟨c, h⟩ | ⟨c, h⟩ | ⟨c, h⟩ | ⟨c, h⟩ | ⟨c, h⟩ | ⟨c, h⟩ | ⟨c, h⟩
  · omega
  · omega
  · omega
  · omega
  · omega
  · omega
  · omega
  · omega
  · omega
  · omega
  · omega
  · omega
  · omega
  · obtain ⟨z2, f2, n0, g1, hx, e0, e1, e2, rst_⟩ := h
    obtain ⟨e3, e4, e5, e6, e7, e8, e9, e10, rst_⟩ := rst_
    obtain ⟨e11, e12, e13, e14, e15⟩ := rst_
    refine ⟨?_, e0, e1, e2, e3, e4, e5, e6, e7, e8, e9, e10, e11, e12, e13⟩
    rw [e14, e15]
    have a2 : z2 = nm 0 := f2
    rw [a2] at hx
    exact hx
theorem tb {so idx vr lo hi rc wa lf lp bg r rc' bg' so' vr' wa' lf' lp' : Int32} {wo wo' : Int64} {rd s rd' : Nat → Int32} (h : R_j_take so rd idx vr lo hi n s rc wa lf lp bg wo r rc' bg' so' vr' wo' wa' lf' lp' rd') : R_j_takeBut so rd idx vr lo hi (-1) n s rc wa lf lp bg wo r rc' bg' so' vr' wo' wa' lf' lp' rd' := by
  obtain ⟨b0, b1, b2, b3, b4, b5, b6, b7, rst_⟩ := h
  obtain ⟨b8, b9, h, e0, e1, e2, e3, e4, rst_⟩ := rst_
  obtain ⟨e5, e6, e7, e8, e9⟩ := rst_
  rw [e0, e1, e2, e3, e4, e5, e6, e7, e8, e9]
  exact h
theorem jf {fu fa pl fa1 pl1 fr lf lp lf1 lp1 idx most c bg : Int32} {td : Nat → Int32} {p q M : Int} (hM : most.toInt = M) (hc : td (Int32.toNatClampNeg idx) = c) (hle : c.toInt ≤ M) (hfu : (fu.toInt ≠ 0 ∧ M ≤ c.toInt) ∨ (fu.toInt = 0 ∧ c.toInt < M)) (hF : FR fa pl lf lp p) (hp : p ≤ fr.toInt) (hq : fr.toInt < q) (eb : bg = fr) (hnote : ((fu.toInt = 0 ∧ fa1 = fa ∧ pl1 = pl) ∨ (fu.toInt ≠ 0 ∧ R_k_note fa pl 3 fr fa1 pl1))) (hr : R_j_full td idx most lf lp bg lf1 lp1) : FR fa1 pl1 lf1 lp1 q := by
  obtain ⟨z, ez, hr⟩ := hr
  rw [hc] at ez
  subst ez
  rcases hr with ⟨q1, e0, e1⟩ | ⟨q1, v0, v1, hl, e0, e1⟩
  · rcases hnote with ⟨g0, g1, g2⟩ | ⟨g0, -⟩
    · rw [g1, g2, e0, e1]; exact FR_mono hF (by omega)
    · omega
  · rcases hnote with ⟨g0, -⟩ | ⟨-, g⟩
    · omega
    · rw [e0, e1]; exact FR_note hF (Or.inr rfl) hp hq eb g hl
theorem ln_0 {tk fr to va fa pl fu fa1 pl1 z at_ lf lp vr rc wa r rc' bg' so' vr' wa' lf' lp' : Int32} {wo' : Int64} {nm s td rd td' rd' : Nat → Int32} (hn : 0 ≤ n.toInt ∧ n.toInt ≤ 600) (hby : By s) (hag : Ag_ t s n.toInt) (hfr : 0 ≤ fr.toInt ∧ fr.toInt < to.toInt ∧ to.toInt ≤ n.toInt) (erc : rc.toInt = to.toInt) (ebg : at_ = fr) (hF : FR fa pl lf lp fr.toInt) (hD : RT td pa ac us ra ch bo cl ha hu sa ak fl) (hfu : R_k_isFull 0 pa ac us de mi fu) (hnote : ((fu.toInt = 0 ∧ fa1 = fa ∧ pl1 = pl) ∨ (fu.toInt ≠ 0 ∧ R_k_note fa pl 3 fr fa1 pl1))) (hnm : ∀ j : Nat, j < 3 → nm j = -1) (h : fx (T_k_readLine_56 0 n t pa cl ha ac us ra ch bo hu sa ak fl de pr mi hv u0 u1 u2 u3 u4 u5 u6 u7 u8 u9 u10 u11 u12 u13 u14 u15 u16 u17 u18 u19 u20 u21 u22 u23) 5 (0, fa1, pl1, tk, fr, to, va, nm)) (hr : R_j_theatreLine_s0 z td lf lp at_ n s vr rc rd wa r rd' rc' bg' so' vr' wo' wa' lf' lp' td') : (u0 = 0 ∧ u1 = 1 ∧ r = 0 ∧ wa' = u2) ∨ (r = 1 ∧ wa' = wa ∧ ∃ (fa2 pl2 tk2 fr2 to2 va2 i2 : Int32) (nm2 : Nat → Int32) (N : Nat) (m : Int), (nu_.getD (Int32.toNatClampNeg 0) 0).toInt = m ∧ m ≤ i2.toInt ∧ fx (T_k_readLine_56 0 n t pa cl ha ac us ra ch bo hu sa ak fl de pr mi hv u0 u1 u2 u3 u4 u5 u6 u7 u8 u9 u10 u11 u12 u13 u14 u15 u16 u17 u18 u19 u20 u21 u22 u23) (N + 1) (i2, fa2, pl2, tk2, fr2, to2, va2, nm2) ∧ to.toInt ≤ to2.toInt ∧ to2.toInt ≤ n.toInt ∧ CT t n.toInt to2.toInt rc' bg' so' vr' wo' ∧ FR fa2 pl2 lf' lp' to2.toInt ∧ (R_k_keepLine 0 nm2 pa cl ha ac us ra ch bo hu sa ak fl de pr mi hv u7 u8 u9 u10 u11 u12 u13 u14 u15 u16 u17 u18 u19 u20 u21 u22 → RT td' u7 u8 u9 u10 u11 u12 u13 u14 u15 u16 u17 u18)) := by
  have zm1 : (-1 : Int32).toInt = -1 := by decide
  have z0 : (0 : Int32).toInt = 0 := by decide
  have z1 : (1 : Int32).toInt = 1 := by decide
  have z2 : (2 : Int32).toInt = 2 := by decide
  have z5 : (5 : Int32).toInt = 5 := by decide
  have z30 : (30 : Int32).toInt = 30 := by decide
  have z40 : (40 : Int32).toInt = 40 := by decide
  have z99 : (99 : Int32).toInt = 99 := by decide
  have z400 : (400 : Int32).toInt = 400 := by decide
  obtain ⟨-, lf0, lp0, hfull, rc0, bg0, so0, vr0, rst_⟩ := hr
  obtain ⟨wo0, htok, r1, rc1, bg1, so1, vr1, wo1, rst_⟩ := rst_
  obtain ⟨wa1, lf1, lp1, rd1, ht1, hr⟩ := rst_
  have hF0 := jf (idx := 0) (most := 5) (c := pa) (q := to.toInt) z5 hD.1 hD.2.2.2.2.2.2.2.2.2.1.2 (isF_0 hfu) hF (Int.le_refl _) hfr.2.1 ebg hnote hfull
  have hC0 : CT t n.toInt to.toInt rc0 bg0 so0 vr0 wo0 := by rw [← erc]; exact tok_ct hby hag hn (by omega) htok
  rcases jn (i := 0) (m := 2) (by decide) (by decide) (by decide) hn hby hag (by omega) hC0 hF0 (fun v c hv hc => by
      have hb := cb_0_0 hc
      have e1_ : (upd nm (Int32.toNatClampNeg 0) v) 0 = v := up_eq
      rw [e1_] at hb
      omega) h (tb ht1) with ⟨g0, g1, g2, g3⟩ | ⟨g, fa1, pl1, tk1, fr1, to1, va1, w1, d1, p1, q1, hC1, hF1, h1⟩
  · rcases hr with ⟨c, e0, e1, e2, e3, e4, e5, e6, e7, e8, e9, e10⟩ | ⟨c, -⟩
    · exact Or.inl ⟨g0, g1, e0, by rw [e6]; exact g3⟩
    · exact absurd (by rw [g2]; decide) c
  · rcases hr with ⟨c, -⟩ | ⟨c, r2, rc2, bg2, so2, vr2, wo2, wa2, lf2, lp2, rd2, ht2, hr⟩
    · rw [g] at c; exact absurd c (by decide)
    · skip
      have i1_ : (0 + 1 : Int32) = 1 := by decide
      rw [i1_] at h1
      rcases jn (i := 1) (m := 2) (by decide) (by decide) (by decide) hn hby hag (by omega) hC1 hF1 (fun v c hv hc => by
      have hb := cb_0_1 hc
      have e1_ : (upd (upd nm (Int32.toNatClampNeg 0) va1) (Int32.toNatClampNeg 1) v) 1 = v := up_eq
      rw [e1_] at hb
      have e0_ : (upd (upd nm (Int32.toNatClampNeg 0) va1) (Int32.toNatClampNeg 1) v) 0 = va1 := (up_ne (by decide)).trans up_eq
      omega) h1 (tb ht2) with ⟨g0, g1, g2, g3⟩ | ⟨g, fa2, pl2, tk2, fr2, to2, va2, w2, d2, p2, q2, hC2, hF2, h2⟩
      · rcases hr with ⟨c, -⟩ | ⟨c, e0, e1, e2, e3, e4, e5, e6, e7, e8, e9, e10⟩
        · exact absurd (by rw [g2]; decide) c
        · exact Or.inl ⟨g0, g1, e0, by rw [e6]; exact g3⟩
      · rcases hr with ⟨c, tdn, hkp, e0, e1, e2, e3, e4, e5, e6, e7, e8, e9, e10⟩ | ⟨c, -⟩
        · have i2_ : (1 + 1 : Int32) = 2 := by decide
          rw [i2_] at h2
          have A0 : rd2 0 = va1 := by rw [d2, d1]; exact (up_ne (by decide)).trans up_eq
          have A1 : rd2 1 = va2 := by rw [d2]; exact up_eq
          rw [e1, e2, e3, e4, e5, e6, e7, e8, e9]
          refine Or.inr ⟨e0, by rw [w2, w1], fa2, pl2, tk2, fr2, to2, va2, 2, _, 2, 2, by decide, by decide, h2, by omega, by omega, hC2, hF2, fun hk => ?_⟩
          have B0 : (upd (upd nm (Int32.toNatClampNeg 0) va1) (Int32.toNatClampNeg 1) va2) 0 = va1 := (up_ne (by decide)).trans up_eq
          have B1 : (upd (upd nm (Int32.toNatClampNeg 0) va1) (Int32.toNatClampNeg 1) va2) 1 = va2 := up_eq
          obtain ⟨hx, f1, f2, f3, f4, f5, f8, f9, f10, f11, -⟩ := kl_0 hk
          rw [B0, B1] at hx
          rw [f1, f2, f3, f4, f5, f8, f9, f10, f11]
          exact RT_Palm hD A0 A1 hx hkp
        · rw [g] at c; exact absurd c (by decide)
theorem ln_1 {tk fr to va fa pl fu fa1 pl1 z at_ lf lp vr rc wa r rc' bg' so' vr' wa' lf' lp' : Int32} {wo' : Int64} {nm s td rd td' rd' : Nat → Int32} (hn : 0 ≤ n.toInt ∧ n.toInt ≤ 600) (hby : By s) (hag : Ag_ t s n.toInt) (hfr : 0 ≤ fr.toInt ∧ fr.toInt < to.toInt ∧ to.toInt ≤ n.toInt) (erc : rc.toInt = to.toInt) (ebg : at_ = fr) (hF : FR fa pl lf lp fr.toInt) (hD : RT td pa ac us ra ch bo cl ha hu sa ak fl) (hfu : R_k_isFull 1 pa ac us de mi fu) (hnote : ((fu.toInt = 0 ∧ fa1 = fa ∧ pl1 = pl) ∨ (fu.toInt ≠ 0 ∧ R_k_note fa pl 3 fr fa1 pl1))) (hnm : ∀ j : Nat, j < 3 → nm j = -1) (h : fx (T_k_readLine_56 1 n t pa cl ha ac us ra ch bo hu sa ak fl de pr mi hv u0 u1 u2 u3 u4 u5 u6 u7 u8 u9 u10 u11 u12 u13 u14 u15 u16 u17 u18 u19 u20 u21 u22 u23) 5 (0, fa1, pl1, tk, fr, to, va, nm)) (hr : R_j_theatreLine_s1 z td lf lp at_ n s vr rc rd wa r rd' rc' bg' so' vr' wo' wa' lf' lp' td') : (u0 = 0 ∧ u1 = 1 ∧ r = 0 ∧ wa' = u2) ∨ (r = 1 ∧ wa' = wa ∧ ∃ (fa2 pl2 tk2 fr2 to2 va2 i2 : Int32) (nm2 : Nat → Int32) (N : Nat) (m : Int), (nu_.getD (Int32.toNatClampNeg 1) 0).toInt = m ∧ m ≤ i2.toInt ∧ fx (T_k_readLine_56 1 n t pa cl ha ac us ra ch bo hu sa ak fl de pr mi hv u0 u1 u2 u3 u4 u5 u6 u7 u8 u9 u10 u11 u12 u13 u14 u15 u16 u17 u18 u19 u20 u21 u22 u23) (N + 1) (i2, fa2, pl2, tk2, fr2, to2, va2, nm2) ∧ to.toInt ≤ to2.toInt ∧ to2.toInt ≤ n.toInt ∧ CT t n.toInt to2.toInt rc' bg' so' vr' wo' ∧ FR fa2 pl2 lf' lp' to2.toInt ∧ (R_k_keepLine 1 nm2 pa cl ha ac us ra ch bo hu sa ak fl de pr mi hv u7 u8 u9 u10 u11 u12 u13 u14 u15 u16 u17 u18 u19 u20 u21 u22 → RT td' u7 u8 u9 u10 u11 u12 u13 u14 u15 u16 u17 u18)) := by
  have zm1 : (-1 : Int32).toInt = -1 := by decide
  have z0 : (0 : Int32).toInt = 0 := by decide
  have z1 : (1 : Int32).toInt = 1 := by decide
  have z2 : (2 : Int32).toInt = 2 := by decide
  have z6 : (6 : Int32).toInt = 6 := by decide
  have z30 : (30 : Int32).toInt = 30 := by decide
  have z40 : (40 : Int32).toInt = 40 := by decide
  have z99 : (99 : Int32).toInt = 99 := by decide
  have z400 : (400 : Int32).toInt = 400 := by decide
  obtain ⟨-, lf0, lp0, hfull, rc0, bg0, so0, vr0, rst_⟩ := hr
  obtain ⟨wo0, htok, r1, rc1, bg1, so1, vr1, wo1, rst_⟩ := rst_
  obtain ⟨wa1, lf1, lp1, rd1, ht1, hr⟩ := rst_
  have hF0 := jf (idx := 1) (most := 6) (c := ac) (q := to.toInt) z6 hD.2.1 hD.2.2.2.2.2.2.2.2.2.2.1.2 (isF_1 hfu) hF (Int.le_refl _) hfr.2.1 ebg hnote hfull
  have hC0 : CT t n.toInt to.toInt rc0 bg0 so0 vr0 wo0 := by rw [← erc]; exact tok_ct hby hag hn (by omega) htok
  rcases jn (i := 0) (m := 2) (by decide) (by decide) (by decide) hn hby hag (by omega) hC0 hF0 (fun v c hv hc => by
      have hb := cb_1_0 hc
      have e1_ : (upd nm (Int32.toNatClampNeg 0) v) 0 = v := up_eq
      rw [e1_] at hb
      omega) h (tb ht1) with ⟨g0, g1, g2, g3⟩ | ⟨g, fa1, pl1, tk1, fr1, to1, va1, w1, d1, p1, q1, hC1, hF1, h1⟩
  · rcases hr with ⟨c, e0, e1, e2, e3, e4, e5, e6, e7, e8, e9, e10⟩ | ⟨c, -⟩
    · exact Or.inl ⟨g0, g1, e0, by rw [e6]; exact g3⟩
    · exact absurd (by rw [g2]; decide) c
  · rcases hr with ⟨c, -⟩ | ⟨c, r2, rc2, bg2, so2, vr2, wo2, wa2, lf2, lp2, rd2, ht2, hr⟩
    · rw [g] at c; exact absurd c (by decide)
    · skip
      have i1_ : (0 + 1 : Int32) = 1 := by decide
      rw [i1_] at h1
      rcases jn (i := 1) (m := 2) (by decide) (by decide) (by decide) hn hby hag (by omega) hC1 hF1 (fun v c hv hc => by
      have hb := cb_1_1 hc
      have e1_ : (upd (upd nm (Int32.toNatClampNeg 0) va1) (Int32.toNatClampNeg 1) v) 1 = v := up_eq
      rw [e1_] at hb
      have e0_ : (upd (upd nm (Int32.toNatClampNeg 0) va1) (Int32.toNatClampNeg 1) v) 0 = va1 := (up_ne (by decide)).trans up_eq
      omega) h1 (tb ht2) with ⟨g0, g1, g2, g3⟩ | ⟨g, fa2, pl2, tk2, fr2, to2, va2, w2, d2, p2, q2, hC2, hF2, h2⟩
      · rcases hr with ⟨c, -⟩ | ⟨c, e0, e1, e2, e3, e4, e5, e6, e7, e8, e9, e10⟩
        · exact absurd (by rw [g2]; decide) c
        · exact Or.inl ⟨g0, g1, e0, by rw [e6]; exact g3⟩
      · rcases hr with ⟨c, tdn, hkp, e0, e1, e2, e3, e4, e5, e6, e7, e8, e9, e10⟩ | ⟨c, -⟩
        · have i2_ : (1 + 1 : Int32) = 2 := by decide
          rw [i2_] at h2
          have A0 : rd2 0 = va1 := by rw [d2, d1]; exact (up_ne (by decide)).trans up_eq
          have A1 : rd2 1 = va2 := by rw [d2]; exact up_eq
          rw [e1, e2, e3, e4, e5, e6, e7, e8, e9]
          refine Or.inr ⟨e0, by rw [w2, w1], fa2, pl2, tk2, fr2, to2, va2, 2, _, 2, 2, by decide, by decide, h2, by omega, by omega, hC2, hF2, fun hk => ?_⟩
          have B0 : (upd (upd nm (Int32.toNatClampNeg 0) va1) (Int32.toNatClampNeg 1) va2) 0 = va1 := (up_ne (by decide)).trans up_eq
          have B1 : (upd (upd nm (Int32.toNatClampNeg 0) va1) (Int32.toNatClampNeg 1) va2) 1 = va2 := up_eq
          obtain ⟨hx, f0, f2, f3, f4, f5, f6, f7, f10, f11, -⟩ := kl_1 hk
          rw [B0, B1] at hx
          rw [f0, f2, f3, f4, f5, f6, f7, f10, f11]
          exact RT_Actor hD A0 A1 hx hkp
        · rw [g] at c; exact absurd c (by decide)
theorem ln_2 {tk fr to va fa pl fu fa1 pl1 z at_ lf lp vr rc wa r rc' bg' so' vr' wa' lf' lp' : Int32} {wo' : Int64} {nm s td rd td' rd' : Nat → Int32} (hn : 0 ≤ n.toInt ∧ n.toInt ≤ 600) (hby : By s) (hag : Ag_ t s n.toInt) (hfr : 0 ≤ fr.toInt ∧ fr.toInt < to.toInt ∧ to.toInt ≤ n.toInt) (erc : rc.toInt = to.toInt) (ebg : at_ = fr) (hF : FR fa pl lf lp fr.toInt) (hD : RT td pa ac us ra ch bo cl ha hu sa ak fl) (hfu : R_k_isFull 2 pa ac us de mi fu) (hnote : ((fu.toInt = 0 ∧ fa1 = fa ∧ pl1 = pl) ∨ (fu.toInt ≠ 0 ∧ R_k_note fa pl 3 fr fa1 pl1))) (hnm : ∀ j : Nat, j < 3 → nm j = -1) (h : fx (T_k_readLine_56 2 n t pa cl ha ac us ra ch bo hu sa ak fl de pr mi hv u0 u1 u2 u3 u4 u5 u6 u7 u8 u9 u10 u11 u12 u13 u14 u15 u16 u17 u18 u19 u20 u21 u22 u23) 5 (0, fa1, pl1, tk, fr, to, va, nm)) (hr : R_j_theatreLine_s3 z td lf lp at_ n s vr rc rd wa r rd' rc' bg' so' vr' wo' wa' lf' lp' td') : (u0 = 0 ∧ u1 = 1 ∧ r = 0 ∧ wa' = u2) ∨ (r = 1 ∧ wa' = wa ∧ ∃ (fa2 pl2 tk2 fr2 to2 va2 i2 : Int32) (nm2 : Nat → Int32) (N : Nat) (m : Int), (nu_.getD (Int32.toNatClampNeg 2) 0).toInt = m ∧ m ≤ i2.toInt ∧ fx (T_k_readLine_56 2 n t pa cl ha ac us ra ch bo hu sa ak fl de pr mi hv u0 u1 u2 u3 u4 u5 u6 u7 u8 u9 u10 u11 u12 u13 u14 u15 u16 u17 u18 u19 u20 u21 u22 u23) (N + 1) (i2, fa2, pl2, tk2, fr2, to2, va2, nm2) ∧ to.toInt ≤ to2.toInt ∧ to2.toInt ≤ n.toInt ∧ CT t n.toInt to2.toInt rc' bg' so' vr' wo' ∧ FR fa2 pl2 lf' lp' to2.toInt ∧ (R_k_keepLine 2 nm2 pa cl ha ac us ra ch bo hu sa ak fl de pr mi hv u7 u8 u9 u10 u11 u12 u13 u14 u15 u16 u17 u18 u19 u20 u21 u22 → RT td' u7 u8 u9 u10 u11 u12 u13 u14 u15 u16 u17 u18)) := by
  have zm1 : (-1 : Int32).toInt = -1 := by decide
  have z0 : (0 : Int32).toInt = 0 := by decide
  have z1 : (1 : Int32).toInt = 1 := by decide
  have z2 : (2 : Int32).toInt = 2 := by decide
  have z4 : (4 : Int32).toInt = 4 := by decide
  have z30 : (30 : Int32).toInt = 30 := by decide
  have z40 : (40 : Int32).toInt = 40 := by decide
  have z99 : (99 : Int32).toInt = 99 := by decide
  have z400 : (400 : Int32).toInt = 400 := by decide
  obtain ⟨-, lf0, lp0, hfull, rc0, bg0, so0, vr0, rst_⟩ := hr
  obtain ⟨wo0, htok, r1, rc1, bg1, so1, vr1, wo1, rst_⟩ := rst_
  obtain ⟨wa1, lf1, lp1, rd1, ht1, hr⟩ := rst_
  have hF0 := jf (idx := 4) (most := 4) (c := us) (q := to.toInt) z4 hD.2.2.2.2.1 hD.2.2.2.2.2.2.2.2.2.2.2.2 (isF_2 hfu) hF (Int.le_refl _) hfr.2.1 ebg hnote hfull
  have hC0 : CT t n.toInt to.toInt rc0 bg0 so0 vr0 wo0 := by rw [← erc]; exact tok_ct hby hag hn (by omega) htok
  rcases jn (i := 0) (m := 2) (by decide) (by decide) (by decide) hn hby hag (by omega) hC0 hF0 (fun v c hv hc => by
      have hb := cb_2_0 hc
      have e1_ : (upd nm (Int32.toNatClampNeg 0) v) 0 = v := up_eq
      rw [e1_] at hb
      omega) h (tb ht1) with ⟨g0, g1, g2, g3⟩ | ⟨g, fa1, pl1, tk1, fr1, to1, va1, w1, d1, p1, q1, hC1, hF1, h1⟩
  · rcases hr with ⟨c, e0, e1, e2, e3, e4, e5, e6, e7, e8, e9, e10⟩ | ⟨c, -⟩
    · exact Or.inl ⟨g0, g1, e0, by rw [e6]; exact g3⟩
    · exact absurd (by rw [g2]; decide) c
  · rcases hr with ⟨c, -⟩ | ⟨c, y0, ey0, y1, hy1, r2, rc2, bg2, so2, vr2, wo2, wa2, lf2, lp2, rd2, ht2, hr⟩
    · rw [g] at c; exact absurd c (by decide)
    · skip
      have i1_ : (0 + 1 : Int32) = 1 := by decide
      rw [i1_] at h1
      have hy0 : y0 = va1 := by rw [ey0, d1]; exact up_eq
      have hy2 : (va1.toInt ≤ 30 ∧ y1 = va1) ∨ (30 < va1.toInt ∧ y1.toInt = 30) := by
        rw [hy0] at hy1
        rcases hy1 with ⟨p, e⟩ | ⟨p, e⟩
        · exact Or.inl ⟨by omega, e⟩
        · exact Or.inr ⟨by omega, by rw [e]; decide⟩
      rcases jn (i := 1) (m := 2) (by decide) (by decide) (by decide) hn hby hag (by omega) hC1 hF1 (fun v c hv hc => by
      have hb := cb_2_1 hc
      have e1_ : (upd (upd nm (Int32.toNatClampNeg 0) va1) (Int32.toNatClampNeg 1) v) 1 = v := up_eq
      rw [e1_] at hb
      have e0_ : (upd (upd nm (Int32.toNatClampNeg 0) va1) (Int32.toNatClampNeg 1) v) 0 = va1 := (up_ne (by decide)).trans up_eq
      rw [e0_] at hb
      rcases hy2 with ⟨y_, ey_⟩ | ⟨y_, ey_⟩ <;> (try rw [ey_]) <;> omega) h1 (tb ht2) with ⟨g0, g1, g2, g3⟩ | ⟨g, fa2, pl2, tk2, fr2, to2, va2, w2, d2, p2, q2, hC2, hF2, h2⟩
      · rcases hr with ⟨c, -⟩ | ⟨c, e0, e1, e2, e3, e4, e5, e6, e7, e8, e9, e10⟩
        · exact absurd (by rw [g2]; decide) c
        · exact Or.inl ⟨g0, g1, e0, by rw [e6]; exact g3⟩
      · rcases hr with ⟨c, tdn, hkp, e0, e1, e2, e3, e4, e5, e6, e7, e8, e9, e10⟩ | ⟨c, -⟩
        · have i2_ : (1 + 1 : Int32) = 2 := by decide
          rw [i2_] at h2
          have A0 : rd2 0 = va1 := by rw [d2, d1]; exact (up_ne (by decide)).trans up_eq
          have A1 : rd2 1 = va2 := by rw [d2]; exact up_eq
          rw [e1, e2, e3, e4, e5, e6, e7, e8, e9]
          refine Or.inr ⟨e0, by rw [w2, w1], fa2, pl2, tk2, fr2, to2, va2, 2, _, 2, 2, by decide, by decide, h2, by omega, by omega, hC2, hF2, fun hk => ?_⟩
          have B0 : (upd (upd nm (Int32.toNatClampNeg 0) va1) (Int32.toNatClampNeg 1) va2) 0 = va1 := (up_ne (by decide)).trans up_eq
          have B1 : (upd (upd nm (Int32.toNatClampNeg 0) va1) (Int32.toNatClampNeg 1) va2) 1 = va2 := up_eq
          obtain ⟨hx, f0, f1, f3, f4, f5, f6, f7, f8, f9, -⟩ := kl_2 hk
          rw [B0, B1] at hx
          rw [f0, f1, f3, f4, f5, f6, f7, f8, f9]
          exact RT_Usurer hD A0 A1 hx hkp
        · rw [g] at c; exact absurd c (by decide)
theorem ln_3 {tk fr to va fa pl fu fa1 pl1 z at_ lf lp vr rc wa r rc' bg' so' vr' wa' lf' lp' : Int32} {wo' : Int64} {nm s td rd td' rd' : Nat → Int32} (hn : 0 ≤ n.toInt ∧ n.toInt ≤ 600) (hby : By s) (hag : Ag_ t s n.toInt) (hfr : 0 ≤ fr.toInt ∧ fr.toInt < to.toInt ∧ to.toInt ≤ n.toInt) (erc : rc.toInt = to.toInt) (ebg : at_ = fr) (hF : FR fa pl lf lp fr.toInt) (hD : RT td pa ac us ra ch bo cl ha hu sa ak fl) (hfu : R_k_isFull 3 pa ac us de mi fu) (hnote : ((fu.toInt = 0 ∧ fa1 = fa ∧ pl1 = pl) ∨ (fu.toInt ≠ 0 ∧ R_k_note fa pl 3 fr fa1 pl1))) (hnm : ∀ j : Nat, j < 3 → nm j = -1) (h : fx (T_k_readLine_56 3 n t pa cl ha ac us ra ch bo hu sa ak fl de pr mi hv u0 u1 u2 u3 u4 u5 u6 u7 u8 u9 u10 u11 u12 u13 u14 u15 u16 u17 u18 u19 u20 u21 u22 u23) 5 (0, fa1, pl1, tk, fr, to, va, nm)) (hr : R_j_theatreLine_s7 z n s vr rc rd wa lf lp td r rd' rc' bg' so' vr' wo' wa' lf' lp' td') : (u0 = 0 ∧ u1 = 1 ∧ r = 0 ∧ wa' = u2) ∨ (r = 1 ∧ wa' = wa ∧ ∃ (fa2 pl2 tk2 fr2 to2 va2 i2 : Int32) (nm2 : Nat → Int32) (N : Nat) (m : Int), (nu_.getD (Int32.toNatClampNeg 3) 0).toInt = m ∧ m ≤ i2.toInt ∧ fx (T_k_readLine_56 3 n t pa cl ha ac us ra ch bo hu sa ak fl de pr mi hv u0 u1 u2 u3 u4 u5 u6 u7 u8 u9 u10 u11 u12 u13 u14 u15 u16 u17 u18 u19 u20 u21 u22 u23) (N + 1) (i2, fa2, pl2, tk2, fr2, to2, va2, nm2) ∧ to.toInt ≤ to2.toInt ∧ to2.toInt ≤ n.toInt ∧ CT t n.toInt to2.toInt rc' bg' so' vr' wo' ∧ FR fa2 pl2 lf' lp' to2.toInt ∧ (R_k_keepLine 3 nm2 pa cl ha ac us ra ch bo hu sa ak fl de pr mi hv u7 u8 u9 u10 u11 u12 u13 u14 u15 u16 u17 u18 u19 u20 u21 u22 → RT td' u7 u8 u9 u10 u11 u12 u13 u14 u15 u16 u17 u18)) := by
  have zm1 : (-1 : Int32).toInt = -1 := by decide
  have z0 : (0 : Int32).toInt = 0 := by decide
  have z50 : (50 : Int32).toInt = 50 := by decide
  obtain ⟨-, rc0, bg0, so0, vr0, wo0, htok, r1, rst_⟩ := hr
  obtain ⟨rc1, bg1, so1, vr1, wo1, wa1, lf1, lp1, rst_⟩ := rst_
  obtain ⟨rd1, ht1, hr⟩ := rst_
  have hF0 : FR fa1 pl1 lf lp to.toInt := by
    rcases hnote with ⟨-, g1, g2⟩ | ⟨g, -⟩
    · rw [g1, g2]; exact FR_mono hF (by omega)
    · exact absurd (isF_3 hfu) g
  have hC0 : CT t n.toInt to.toInt rc0 bg0 so0 vr0 wo0 := by rw [← erc]; exact tok_ct hby hag hn (by omega) htok
  rcases jn (i := 0) (m := 1) (by decide) (by decide) (by decide) hn hby hag (by omega) hC0 hF0 (fun v c hv hc => by
      have hb := cb_3_0 hc
      have e1_ : (upd nm (Int32.toNatClampNeg 0) v) 0 = v := up_eq
      rw [e1_] at hb
      omega) h (tb ht1) with ⟨g0, g1, g2, g3⟩ | ⟨g, fa1, pl1, tk1, fr1, to1, va1, w1, d1, p1, q1, hC1, hF1, h1⟩
  · rcases hr with ⟨c, -⟩ | ⟨c, e0, e1, e2, e3, e4, e5, e6, e7, e8, e9, e10⟩
    · exact absurd (by rw [g2]; decide) c
    · exact Or.inl ⟨g0, g1, e0, by rw [e6]; exact g3⟩
  · rcases hr with ⟨c, x, ex, tdn, etd, e0, e1, e2, e3, e4, e5, e6, e7, e8, e9, e10⟩ | ⟨c, -⟩
    · have i1_ : (0 + 1 : Int32) = 1 := by decide
      rw [i1_] at h1
      have hx : x = va1 := by rw [ex, d1]; exact up_eq
      rw [e1, e2, e3, e4, e5, e6, e7, e8, e9]
      refine Or.inr ⟨e0, w1, _, _, tk1, fr1, to1, va1, 1, _, 3, 1, by decide, by decide, h1, by omega, by omega, hC1, hF1, fun hk => ?_⟩
      have B0 : (upd nm (Int32.toNatClampNeg 0) va1) 0 = va1 := up_eq
      obtain ⟨hx2, f0, f1, f2, f4, f5, f6, f7, f8, f9, f10, f11, -⟩ := kl_3 hk
      rw [B0] at hx2
      rw [f0, f1, f2, f4, f5, f6, f7, f8, f9, f10, f11, hx2, ← etd, hx]
      exact RT_rate hD
    · rw [g] at c; exact absurd c (by decide)
theorem ln_4 {tk fr to va fa pl fu fa1 pl1 z at_ lf lp vr rc wa r rc' bg' so' vr' wa' lf' lp' : Int32} {wo' : Int64} {nm s td rd td' rd' : Nat → Int32} (hn : 0 ≤ n.toInt ∧ n.toInt ≤ 600) (hby : By s) (hag : Ag_ t s n.toInt) (hfr : 0 ≤ fr.toInt ∧ fr.toInt < to.toInt ∧ to.toInt ≤ n.toInt) (erc : rc.toInt = to.toInt) (ebg : at_ = fr) (hF : FR fa pl lf lp fr.toInt) (hD : RT td pa ac us ra ch bo cl ha hu sa ak fl) (hfu : R_k_isFull 4 pa ac us de mi fu) (hnote : ((fu.toInt = 0 ∧ fa1 = fa ∧ pl1 = pl) ∨ (fu.toInt ≠ 0 ∧ R_k_note fa pl 3 fr fa1 pl1))) (hnm : ∀ j : Nat, j < 3 → nm j = -1) (h : fx (T_k_readLine_56 4 n t pa cl ha ac us ra ch bo hu sa ak fl de pr mi hv u0 u1 u2 u3 u4 u5 u6 u7 u8 u9 u10 u11 u12 u13 u14 u15 u16 u17 u18 u19 u20 u21 u22 u23) 5 (0, fa1, pl1, tk, fr, to, va, nm)) (hr : R_j_theatreLine_s6 z n s vr rc rd wa lf lp td r rd' rc' bg' so' vr' wo' wa' lf' lp' td') : (u0 = 0 ∧ u1 = 1 ∧ r = 0 ∧ wa' = u2) ∨ (r = 1 ∧ wa' = wa ∧ ∃ (fa2 pl2 tk2 fr2 to2 va2 i2 : Int32) (nm2 : Nat → Int32) (N : Nat) (m : Int), (nu_.getD (Int32.toNatClampNeg 4) 0).toInt = m ∧ m ≤ i2.toInt ∧ fx (T_k_readLine_56 4 n t pa cl ha ac us ra ch bo hu sa ak fl de pr mi hv u0 u1 u2 u3 u4 u5 u6 u7 u8 u9 u10 u11 u12 u13 u14 u15 u16 u17 u18 u19 u20 u21 u22 u23) (N + 1) (i2, fa2, pl2, tk2, fr2, to2, va2, nm2) ∧ to.toInt ≤ to2.toInt ∧ to2.toInt ≤ n.toInt ∧ CT t n.toInt to2.toInt rc' bg' so' vr' wo' ∧ FR fa2 pl2 lf' lp' to2.toInt ∧ (R_k_keepLine 4 nm2 pa cl ha ac us ra ch bo hu sa ak fl de pr mi hv u7 u8 u9 u10 u11 u12 u13 u14 u15 u16 u17 u18 u19 u20 u21 u22 → RT td' u7 u8 u9 u10 u11 u12 u13 u14 u15 u16 u17 u18)) := by
  have zm1 : (-1 : Int32).toInt = -1 := by decide
  have z0 : (0 : Int32).toInt = 0 := by decide
  have z999 : (999 : Int32).toInt = 999 := by decide
  obtain ⟨-, rc0, bg0, so0, vr0, wo0, htok, r1, rst_⟩ := hr
  obtain ⟨rc1, bg1, so1, vr1, wo1, wa1, lf1, lp1, rst_⟩ := rst_
  obtain ⟨rd1, ht1, hr⟩ := rst_
  have hF0 : FR fa1 pl1 lf lp to.toInt := by
    rcases hnote with ⟨-, g1, g2⟩ | ⟨g, -⟩
    · rw [g1, g2]; exact FR_mono hF (by omega)
    · exact absurd (isF_4 hfu) g
  have hC0 : CT t n.toInt to.toInt rc0 bg0 so0 vr0 wo0 := by rw [← erc]; exact tok_ct hby hag hn (by omega) htok
  rcases jn (i := 0) (m := 1) (by decide) (by decide) (by decide) hn hby hag (by omega) hC0 hF0 (fun v c hv hc => by
      have hb := cb_4_0 hc
      have e1_ : (upd nm (Int32.toNatClampNeg 0) v) 0 = v := up_eq
      rw [e1_] at hb
      omega) h (tb ht1) with ⟨g0, g1, g2, g3⟩ | ⟨g, fa1, pl1, tk1, fr1, to1, va1, w1, d1, p1, q1, hC1, hF1, h1⟩
  · rcases hr with ⟨c, -⟩ | ⟨c, e0, e1, e2, e3, e4, e5, e6, e7, e8, e9, e10⟩
    · exact absurd (by rw [g2]; decide) c
    · exact Or.inl ⟨g0, g1, e0, by rw [e6]; exact g3⟩
  · rcases hr with ⟨c, x, ex, tdn, etd, e0, e1, e2, e3, e4, e5, e6, e7, e8, e9, e10⟩ | ⟨c, -⟩
    · have i1_ : (0 + 1 : Int32) = 1 := by decide
      rw [i1_] at h1
      have hx : x = va1 := by rw [ex, d1]; exact up_eq
      rw [e1, e2, e3, e4, e5, e6, e7, e8, e9]
      refine Or.inr ⟨e0, w1, _, _, tk1, fr1, to1, va1, 1, _, 3, 1, by decide, by decide, h1, by omega, by omega, hC1, hF1, fun hk => ?_⟩
      have B0 : (upd nm (Int32.toNatClampNeg 0) va1) 0 = va1 := up_eq
      obtain ⟨hx2, f0, f1, f2, f3, f5, f6, f7, f8, f9, f10, f11, -⟩ := kl_4 hk
      rw [B0] at hx2
      rw [f0, f1, f2, f3, f5, f6, f7, f8, f9, f10, f11, hx2, ← etd, hx]
      exact RT_chest hD
    · rw [g] at c; exact absurd c (by decide)
theorem ln_5 {tk fr to va fa pl fu fa1 pl1 z at_ lf lp vr rc wa r rc' bg' so' vr' wa' lf' lp' : Int32} {wo' : Int64} {nm s td rd td' rd' : Nat → Int32} (hn : 0 ≤ n.toInt ∧ n.toInt ≤ 600) (hby : By s) (hag : Ag_ t s n.toInt) (hfr : 0 ≤ fr.toInt ∧ fr.toInt < to.toInt ∧ to.toInt ≤ n.toInt) (erc : rc.toInt = to.toInt) (ebg : at_ = fr) (hF : FR fa pl lf lp fr.toInt) (hD : RT td pa ac us ra ch bo cl ha hu sa ak fl) (hfu : R_k_isFull 5 pa ac us de mi fu) (hnote : ((fu.toInt = 0 ∧ fa1 = fa ∧ pl1 = pl) ∨ (fu.toInt ≠ 0 ∧ R_k_note fa pl 3 fr fa1 pl1))) (hnm : ∀ j : Nat, j < 3 → nm j = -1) (h : fx (T_k_readLine_56 5 n t pa cl ha ac us ra ch bo hu sa ak fl de pr mi hv u0 u1 u2 u3 u4 u5 u6 u7 u8 u9 u10 u11 u12 u13 u14 u15 u16 u17 u18 u19 u20 u21 u22 u23) 5 (0, fa1, pl1, tk, fr, to, va, nm)) (hr : R_j_theatreLine_s4 z n s vr rc rd wa lf lp td r rd' rc' bg' so' vr' wo' wa' lf' lp' td') : (u0 = 0 ∧ u1 = 1 ∧ r = 0 ∧ wa' = u2) ∨ (r = 1 ∧ wa' = wa ∧ ∃ (fa2 pl2 tk2 fr2 to2 va2 i2 : Int32) (nm2 : Nat → Int32) (N : Nat) (m : Int), (nu_.getD (Int32.toNatClampNeg 5) 0).toInt = m ∧ m ≤ i2.toInt ∧ fx (T_k_readLine_56 5 n t pa cl ha ac us ra ch bo hu sa ak fl de pr mi hv u0 u1 u2 u3 u4 u5 u6 u7 u8 u9 u10 u11 u12 u13 u14 u15 u16 u17 u18 u19 u20 u21 u22 u23) (N + 1) (i2, fa2, pl2, tk2, fr2, to2, va2, nm2) ∧ to.toInt ≤ to2.toInt ∧ to2.toInt ≤ n.toInt ∧ CT t n.toInt to2.toInt rc' bg' so' vr' wo' ∧ FR fa2 pl2 lf' lp' to2.toInt ∧ (R_k_keepLine 5 nm2 pa cl ha ac us ra ch bo hu sa ak fl de pr mi hv u7 u8 u9 u10 u11 u12 u13 u14 u15 u16 u17 u18 u19 u20 u21 u22 → RT td' u7 u8 u9 u10 u11 u12 u13 u14 u15 u16 u17 u18)) := by
  have zm1 : (-1 : Int32).toInt = -1 := by decide
  have z0 : (0 : Int32).toInt = 0 := by decide
  have z20 : (20 : Int32).toInt = 20 := by decide
  obtain ⟨-, rc0, bg0, so0, vr0, wo0, htok, r1, rst_⟩ := hr
  obtain ⟨rc1, bg1, so1, vr1, wo1, wa1, lf1, lp1, rst_⟩ := rst_
  obtain ⟨rd1, ht1, hr⟩ := rst_
  have hF0 : FR fa1 pl1 lf lp to.toInt := by
    rcases hnote with ⟨-, g1, g2⟩ | ⟨g, -⟩
    · rw [g1, g2]; exact FR_mono hF (by omega)
    · exact absurd (isF_5 hfu) g
  have hC0 : CT t n.toInt to.toInt rc0 bg0 so0 vr0 wo0 := by rw [← erc]; exact tok_ct hby hag hn (by omega) htok
  rcases jn (i := 0) (m := 1) (by decide) (by decide) (by decide) hn hby hag (by omega) hC0 hF0 (fun v c hv hc => by
      have hb := cb_5_0 hc
      have e1_ : (upd nm (Int32.toNatClampNeg 0) v) 0 = v := up_eq
      rw [e1_] at hb
      omega) h (tb ht1) with ⟨g0, g1, g2, g3⟩ | ⟨g, fa1, pl1, tk1, fr1, to1, va1, w1, d1, p1, q1, hC1, hF1, h1⟩
  · rcases hr with ⟨c, -⟩ | ⟨c, e0, e1, e2, e3, e4, e5, e6, e7, e8, e9, e10⟩
    · exact absurd (by rw [g2]; decide) c
    · exact Or.inl ⟨g0, g1, e0, by rw [e6]; exact g3⟩
  · rcases hr with ⟨c, x, ex, tdn, etd, e0, e1, e2, e3, e4, e5, e6, e7, e8, e9, e10⟩ | ⟨c, -⟩
    · have i1_ : (0 + 1 : Int32) = 1 := by decide
      rw [i1_] at h1
      have hx : x = va1 := by rw [ex, d1]; exact up_eq
      rw [e1, e2, e3, e4, e5, e6, e7, e8, e9]
      refine Or.inr ⟨e0, w1, _, _, tk1, fr1, to1, va1, 1, _, 3, 1, by decide, by decide, h1, by omega, by omega, hC1, hF1, fun hk => ?_⟩
      have B0 : (upd nm (Int32.toNatClampNeg 0) va1) 0 = va1 := up_eq
      obtain ⟨hx2, f0, f1, f2, f3, f4, f6, f7, f8, f9, f10, f11, -⟩ := kl_5 hk
      rw [B0] at hx2
      rw [f0, f1, f2, f3, f4, f6, f7, f8, f9, f10, f11, hx2, ← etd, hx]
      exact RT_borrow hD
    · rw [g] at c; exact absurd c (by decide)
theorem ln_13 {tk fr to va fa pl fu fa1 pl1 z at_ lf lp vr rc wa r rc' bg' so' vr' wa' lf' lp' : Int32} {wo' : Int64} {nm s td rd td' rd' : Nat → Int32} (hn : 0 ≤ n.toInt ∧ n.toInt ≤ 600) (hby : By s) (hag : Ag_ t s n.toInt) (hfr : 0 ≤ fr.toInt ∧ fr.toInt < to.toInt ∧ to.toInt ≤ n.toInt) (erc : rc.toInt = to.toInt) (ebg : at_ = fr) (hF : FR fa pl lf lp fr.toInt) (hD : RD td mi hv) (hfu : R_k_isFull 13 pa ac us de mi fu) (hnote : ((fu.toInt = 0 ∧ fa1 = fa ∧ pl1 = pl) ∨ (fu.toInt ≠ 0 ∧ R_k_note fa pl 3 fr fa1 pl1))) (hnm : ∀ j : Nat, j < 3 → nm j = -1) (h : fx (T_k_readLine_56 13 n t pa cl ha ac us ra ch bo hu sa ak fl de pr mi hv u0 u1 u2 u3 u4 u5 u6 u7 u8 u9 u10 u11 u12 u13 u14 u15 u16 u17 u18 u19 u20 u21 u22 u23) 5 (0, fa1, pl1, tk, fr, to, va, nm)) (hr : R_j_darkLine_s0 z td lf lp at_ n s vr rc rd wa r rd' rc' bg' so' vr' wo' wa' lf' lp' td') : (u0 = 0 ∧ u1 = 1 ∧ r = 0 ∧ wa' = u2) ∨ (r = 1 ∧ wa' = wa ∧ ∃ (fa2 pl2 tk2 fr2 to2 va2 i2 : Int32) (nm2 : Nat → Int32) (N : Nat) (m : Int), (nu_.getD (Int32.toNatClampNeg 13) 0).toInt = m ∧ m ≤ i2.toInt ∧ fx (T_k_readLine_56 13 n t pa cl ha ac us ra ch bo hu sa ak fl de pr mi hv u0 u1 u2 u3 u4 u5 u6 u7 u8 u9 u10 u11 u12 u13 u14 u15 u16 u17 u18 u19 u20 u21 u22 u23) (N + 1) (i2, fa2, pl2, tk2, fr2, to2, va2, nm2) ∧ to.toInt ≤ to2.toInt ∧ to2.toInt ≤ n.toInt ∧ CT t n.toInt to2.toInt rc' bg' so' vr' wo' ∧ FR fa2 pl2 lf' lp' to2.toInt ∧ (R_k_keepLine 13 nm2 pa cl ha ac us ra ch bo hu sa ak fl de pr mi hv u7 u8 u9 u10 u11 u12 u13 u14 u15 u16 u17 u18 u19 u20 u21 u22 → RD td' u21 u22)) := by
  have zm1 : (-1 : Int32).toInt = -1 := by decide
  have z0 : (0 : Int32).toInt = 0 := by decide
  have z6 : (6 : Int32).toInt = 6 := by decide
  have z10 : (10 : Int32).toInt = 10 := by decide
  obtain ⟨-, lf0, lp0, hfull, rc0, bg0, so0, vr0, rst_⟩ := hr
  obtain ⟨wo0, htok, r1, rc1, bg1, so1, vr1, wo1, rst_⟩ := rst_
  obtain ⟨wa1, lf1, lp1, rd1, ht1, hr⟩ := rst_
  have hF0 := jf (idx := 0) (most := 6) (c := mi) (q := to.toInt) z6 hD.1 hD.2.2.2 (isF_13 hfu) hF (Int.le_refl _) hfr.2.1 ebg hnote hfull
  have hC0 : CT t n.toInt to.toInt rc0 bg0 so0 vr0 wo0 := by rw [← erc]; exact tok_ct hby hag hn (by omega) htok
  rcases jn (i := 0) (m := 1) (by decide) (by decide) (by decide) hn hby hag (by omega) hC0 hF0 (fun v c hv hc => by
      have hb := cb_13_0 hc
      have e1_ : (upd nm (Int32.toNatClampNeg 0) v) 0 = v := up_eq
      rw [e1_] at hb
      omega) h (tb ht1) with ⟨g0, g1, g2, g3⟩ | ⟨g, fa1, pl1, tk1, fr1, to1, va1, w1, d1, p1, q1, hC1, hF1, h1⟩
  · rcases hr with ⟨c, -⟩ | ⟨c, e0, e1, e2, e3, e4, e5, e6, e7, e8, e9, e10⟩
    · exact absurd (by rw [g2]; decide) c
    · exact Or.inl ⟨g0, g1, e0, by rw [e6]; exact g3⟩
  · rcases hr with ⟨c, tdn, hkp, e0, e1, e2, e3, e4, e5, e6, e7, e8, e9, e10⟩ | ⟨c, -⟩
    · have i1_ : (0 + 1 : Int32) = 1 := by decide
      rw [i1_] at h1
      have A0 : rd1 0 = va1 := by rw [d1]; exact up_eq
      rw [e1, e2, e3, e4, e5, e6, e7, e8, e9]
      refine Or.inr ⟨e0, w1, _, _, tk1, fr1, to1, va1, 1, _, 3, 1, by decide, by decide, h1, by omega, by omega, hC1, hF1, fun hk => ?_⟩
      have B0 : (upd nm (Int32.toNatClampNeg 0) va1) 0 = va1 := up_eq
      obtain ⟨hx, -⟩ := kl_13 hk
      rw [B0] at hx
      exact RD_min hD A0 hx hkp
    · rw [g] at c; exact absurd c (by decide)
theorem ln_6 {tk fr to va fa pl fu fa1 pl1 z at_ lf lp vr rc wa r rc' bg' so' vr' wa' lf' lp' : Int32} {wo' : Int64} {nm s td rd td' rd' : Nat → Int32} (hn : 0 ≤ n.toInt ∧ n.toInt ≤ 600) (hby : By s) (hag : Ag_ t s n.toInt) (hfr : 0 ≤ fr.toInt ∧ fr.toInt < to.toInt ∧ to.toInt ≤ n.toInt) (erc : rc.toInt = to.toInt) (ebg : at_ = fr) (hF : FR fa pl lf lp fr.toInt) (hD : RB td de pr) (hfu : R_k_isFull 6 pa ac us de mi fu) (hnote : ((fu.toInt = 0 ∧ fa1 = fa ∧ pl1 = pl) ∨ (fu.toInt ≠ 0 ∧ R_k_note fa pl 3 fr fa1 pl1))) (hnm : ∀ j : Nat, j < 3 → nm j = -1) (h : fx (T_k_readLine_56 6 n t pa cl ha ac us ra ch bo hu sa ak fl de pr mi hv u0 u1 u2 u3 u4 u5 u6 u7 u8 u9 u10 u11 u12 u13 u14 u15 u16 u17 u18 u19 u20 u21 u22 u23) 5 (0, fa1, pl1, tk, fr, to, va, nm)) (hr : R_j_bookLine_s0 (0) td lf lp at_ n s vr rc rd wa r rd' rc' bg' so' vr' wo' wa' lf' lp' td') : (u0 = 0 ∧ u1 = 1 ∧ r = 0 ∧ wa' = u2) ∨ (r = 1 ∧ wa' = wa ∧ ∃ (fa2 pl2 tk2 fr2 to2 va2 i2 : Int32) (nm2 : Nat → Int32) (N : Nat) (m : Int), (nu_.getD (Int32.toNatClampNeg 6) 0).toInt = m ∧ m ≤ i2.toInt ∧ fx (T_k_readLine_56 6 n t pa cl ha ac us ra ch bo hu sa ak fl de pr mi hv u0 u1 u2 u3 u4 u5 u6 u7 u8 u9 u10 u11 u12 u13 u14 u15 u16 u17 u18 u19 u20 u21 u22 u23) (N + 1) (i2, fa2, pl2, tk2, fr2, to2, va2, nm2) ∧ to.toInt ≤ to2.toInt ∧ to2.toInt ≤ n.toInt ∧ CT t n.toInt to2.toInt rc' bg' so' vr' wo' ∧ FR fa2 pl2 lf' lp' to2.toInt ∧ (R_k_keepLine 6 nm2 pa cl ha ac us ra ch bo hu sa ak fl de pr mi hv u7 u8 u9 u10 u11 u12 u13 u14 u15 u16 u17 u18 u19 u20 u21 u22 → RB td' u19 u20)) := by
  have zm1 : (-1 : Int32).toInt = -1 := by decide
  have z0 : (0 : Int32).toInt = 0 := by decide
  have z1 : (1 : Int32).toInt = 1 := by decide
  have z2 : (2 : Int32).toInt = 2 := by decide
  have z3 : (3 : Int32).toInt = 3 := by decide
  have z4 : (4 : Int32).toInt = 4 := by decide
  have z5 : (5 : Int32).toInt = 5 := by decide
  have z6 : (6 : Int32).toInt = 6 := by decide
  have z30 : (30 : Int32).toInt = 30 := by decide
  have z99 : (99 : Int32).toInt = 99 := by decide
  obtain ⟨-, lf0, lp0, hfull, rc0, bg0, so0, vr0, rst_⟩ := hr
  obtain ⟨wo0, htok, ra_, era, rb_, erb, rc_, erc_, rst_⟩ := rst_
  obtain ⟨rd0, erd, rN, rcN, bgN, soN, vrN, woN, rst_⟩ := rst_
  obtain ⟨waN, lfN, lpN, rdN, hdn, hr⟩ := rst_
  have hF0 := jf (idx := 0) (most := 30) (c := de) (q := to.toInt) z30 hD.1 hD.2.2.2 (isF_6 hfu) hF (Int.le_refl _) hfr.2.1 ebg hnote hfull
  have hC0 : CT t n.toInt to.toInt rc0 bg0 so0 vr0 wo0 := by rw [← erc]; exact tok_ct hby hag hn (by omega) htok
  have E0 : rd0 0 = 0 := by rw [← erd, ← erc_, ← erb, ← era]; exact (up_ne (by decide)).trans ((up_ne (by decide)).trans ((up_ne (by decide)).trans up_eq))
  have E1 : rd0 1 = -1 := by rw [← erd, ← erc_, ← erb]; exact (up_ne (by decide)).trans ((up_ne (by decide)).trans up_eq)
  have E2 : rd0 2 = -1 := by rw [← erd, ← erc_]; exact (up_ne (by decide)).trans up_eq
  have E3 : rd0 3 = -1 := by rw [← erd]; exact up_eq
  have bad : u0 = 0 → u1 = 1 → rN = 0 → waN = u2 → (u0 = 0 ∧ u1 = 1 ∧ r = 0 ∧ wa' = u2) := by
    intro g0 g1 g2 g3
    rcases hr with ⟨c, -⟩ | ⟨c, e0, e1, e2, e3, e4, e5, e6, e7, e8, e9, e10⟩
    · exact absurd (by rw [g2]; decide) c
    · exact ⟨g0, g1, e0, by rw [e6]; exact g3⟩
  have good : rN = 1 → waN = wa → ∀ (fa2 pl2 tk2 fr2 to2 va2 : Int32) (nm2 : Nat → Int32) (N : Nat), fx (T_k_readLine_56 6 n t pa cl ha ac us ra ch bo hu sa ak fl de pr mi hv u0 u1 u2 u3 u4 u5 u6 u7 u8 u9 u10 u11 u12 u13 u14 u15 u16 u17 u18 u19 u20 u21 u22 u23) (N + 1) (3, fa2, pl2, tk2, fr2, to2, va2, nm2) → to.toInt ≤ to2.toInt → to2.toInt ≤ n.toInt → CT t n.toInt to2.toInt rcN bgN soN vrN woN → FR fa2 pl2 lfN lpN to2.toInt → rdN 0 = 0 → rdN 1 = nm2 0 → rdN 2 = nm2 1 → rdN 3 = nm2 2 → (r = 1 ∧ wa' = wa ∧ ∃ (fa2 pl2 tk2 fr2 to2 va2 i2 : Int32) (nm2 : Nat → Int32) (N : Nat) (m : Int), (nu_.getD (Int32.toNatClampNeg 6) 0).toInt = m ∧ m ≤ i2.toInt ∧ fx (T_k_readLine_56 6 n t pa cl ha ac us ra ch bo hu sa ak fl de pr mi hv u0 u1 u2 u3 u4 u5 u6 u7 u8 u9 u10 u11 u12 u13 u14 u15 u16 u17 u18 u19 u20 u21 u22 u23) (N + 1) (i2, fa2, pl2, tk2, fr2, to2, va2, nm2) ∧ to.toInt ≤ to2.toInt ∧ to2.toInt ≤ n.toInt ∧ CT t n.toInt to2.toInt rc' bg' so' vr' wo' ∧ FR fa2 pl2 lf' lp' to2.toInt ∧ (R_k_keepLine 6 nm2 pa cl ha ac us ra ch bo hu sa ak fl de pr mi hv u7 u8 u9 u10 u11 u12 u13 u14 u15 u16 u17 u18 u19 u20 u21 u22 → RB td' u19 u20)) := by
    intro g0 g1 fa2 pl2 tk2 fr2 to2 va2 nm2 N h2 p1 p2 hC2 hF2 D0 D1 D2 D3
    rcases hr with ⟨c, tdn, hkp, e0, e1, e2, e3, e4, e5, e6, e7, e8, e9, e10⟩ | ⟨c, -⟩
    · rw [e1, e2, e3, e4, e5, e6, e7, e8, e9]
      refine ⟨e0, g1, fa2, pl2, tk2, fr2, to2, va2, 3, nm2, N, 3, by decide, by decide, h2, p1, p2, hC2, hF2, fun hk => ?_⟩
      obtain ⟨hx, -⟩ := kl_6 hk
      exact RB_deed hD D0 D1 D2 D3 hx hkp
    · rw [g0] at c; exact absurd c (by decide)
  rcases hdn with ⟨c, e0, e1, e2, e3, e4, e5, e6, e7, e8, e9⟩ | ⟨c, r1, rc1, bg1, so1, vr1, wo1, wa1, lf1, lp1, rd1, ht1, hdn⟩ | ⟨c, r1, rc1, bg1, so1, vr1, wo1, wa1, lf1, lp1, rd1, ht1, hdn⟩ | ⟨c, r1, rc1, bg1, so1, vr1, wo1, wa1, lf1, lp1, rd1, ht1, hdn⟩ | ⟨c, r1, rc1, bg1, so1, vr1, wo1, wa1, lf1, lp1, rd1, ht1, hdn⟩ | hdn
  · omega
  · skip
    rcases jn (i := 0) (m := 3) (by decide) (by decide) (by decide) hn hby hag (by omega) hC0 hF0 (fun v c hv hc => by
      have hb := cb_6_0 hc
      have e1_ : (upd nm (Int32.toNatClampNeg 0) v) 0 = v := up_eq
      rw [e1_] at hb
      omega) h (tb ht1) with ⟨g0, g1, g2, g3⟩ | ⟨g, fa1, pl1, tk1, fr1, to1, va1, w1, d1, p1, q1, hC1, hF1, h1⟩
    · rcases hdn with ⟨c, e0, e1, e2, e3, e4, e5, e6, e7, e8, e9⟩ | ⟨c, -⟩
      · exact Or.inl (bad g0 g1 e0 (by rw [e6]; exact g3))
      · exact absurd (by rw [g2]; decide) c
    · rcases hdn with ⟨c, -⟩ | ⟨c, r2, rc2, bg2, so2, vr2, wo2, wa2, lf2, lp2, rd2, ht2, hdn⟩
      · rw [g] at c; exact absurd c (by decide)
      · skip
        have i1_ : (0 + 1 : Int32) = 1 := by decide
        rw [i1_] at h1
        rcases jn (i := 1) (m := 3) (by decide) (by decide) (by decide) hn hby hag (by omega) hC1 hF1 (fun v c hv hc => by
      have hb := cb_6_1 hc
      have e1_ : (upd (upd nm (Int32.toNatClampNeg 0) va1) (Int32.toNatClampNeg 1) v) 1 = v := up_eq
      rw [e1_] at hb
      have e0_ : (upd (upd nm (Int32.toNatClampNeg 0) va1) (Int32.toNatClampNeg 1) v) 0 = va1 := (up_ne (by decide)).trans up_eq
      omega) h1 (tb ht2) with ⟨g0, g1, g2, g3⟩ | ⟨g, fa2, pl2, tk2, fr2, to2, va2, w2, d2, p2, q2, hC2, hF2, h2⟩
        · rcases hdn with ⟨c, e0, e1, e2, e3, e4, e5, e6, e7, e8, e9⟩ | ⟨c, -⟩
          · exact Or.inl (bad g0 g1 e0 (by rw [e6, g3]))
          · exact absurd (by rw [g2]; decide) c
        · rcases hdn with ⟨c, -⟩ | ⟨c, r3, rc3, bg3, so3, vr3, wo3, wa3, lf3, lp3, rd3, ht3, hdn⟩
          · rw [g] at c; exact absurd c (by decide)
          · skip
            have i2_ : (1 + 1 : Int32) = 2 := by decide
            rw [i2_] at h2
            rcases jn (i := 2) (m := 3) (by decide) (by decide) (by decide) hn hby hag (by omega) hC2 hF2 (fun v c hv hc => by
      have hb := cb_6_2 hc
      have e1_ : (upd (upd (upd nm (Int32.toNatClampNeg 0) va1) (Int32.toNatClampNeg 1) va2) (Int32.toNatClampNeg 2) v) 2 = v := up_eq
      rw [e1_] at hb
      omega) h2 (tb ht3) with ⟨g0, g1, g2, g3⟩ | ⟨g, fa3, pl3, tk3, fr3, to3, va3, w3, d3, p3, q3, hC3, hF3, h3⟩
            · rcases hdn with ⟨c, e0, e1, e2, e3, e4, e5, e6, e7, e8, e9⟩ | ⟨c, -⟩
              · exact Or.inl (bad g0 g1 e0 (by rw [e6, g3]))
              · exact absurd (by rw [g2]; decide) c
            · rcases hdn with ⟨c, -⟩ | ⟨c, e0, e1, e2, e3, e4, e5, e6, e7, e8, e9⟩
              · rw [g] at c; exact absurd c (by decide)
              · skip
                have i3_ : (2 + 1 : Int32) = 3 := by decide
                rw [i3_] at h3
                refine Or.inr (good e0 (by rw [e6, w3, w2, w1]) _ _ _ _ _ _ _ 1 h3 (by omega) (by omega) ?_ ?_ ?_ ?_ ?_ ?_)
                · rw [e1, e2, e3, e4, e5]; exact hC3
                · rw [e7, e8]; exact hF3
                · rw [e9, d3, d2, d1]; exact (up_ne (by decide)).trans ((up_ne (by decide)).trans ((up_ne (by decide)).trans E0))
                · rw [e9, d3, d2, d1]; exact ((up_ne (by decide)).trans ((up_ne (by decide)).trans up_eq)).trans ((up_ne (by decide)).trans ((up_ne (by decide)).trans up_eq)).symm
                · rw [e9, d3, d2]; exact ((up_ne (by decide)).trans up_eq).trans ((up_ne (by decide)).trans up_eq).symm
                · rw [e9, d3]; exact up_eq.trans up_eq.symm
  · omega
  · omega
  · omega
  · obtain ⟨c, -⟩ := hdn
    omega
theorem ln_7 {tk fr to va fa pl fu fa1 pl1 z at_ lf lp vr rc wa r rc' bg' so' vr' wa' lf' lp' : Int32} {wo' : Int64} {nm s td rd td' rd' : Nat → Int32} (hn : 0 ≤ n.toInt ∧ n.toInt ≤ 600) (hby : By s) (hag : Ag_ t s n.toInt) (hfr : 0 ≤ fr.toInt ∧ fr.toInt < to.toInt ∧ to.toInt ≤ n.toInt) (erc : rc.toInt = to.toInt) (ebg : at_ = fr) (hF : FR fa pl lf lp fr.toInt) (hD : RB td de pr) (hfu : R_k_isFull 7 pa ac us de mi fu) (hnote : ((fu.toInt = 0 ∧ fa1 = fa ∧ pl1 = pl) ∨ (fu.toInt ≠ 0 ∧ R_k_note fa pl 3 fr fa1 pl1))) (hnm : ∀ j : Nat, j < 3 → nm j = -1) (h : fx (T_k_readLine_56 7 n t pa cl ha ac us ra ch bo hu sa ak fl de pr mi hv u0 u1 u2 u3 u4 u5 u6 u7 u8 u9 u10 u11 u12 u13 u14 u15 u16 u17 u18 u19 u20 u21 u22 u23) 5 (0, fa1, pl1, tk, fr, to, va, nm)) (hr : R_j_bookLine_s0 (1) td lf lp at_ n s vr rc rd wa r rd' rc' bg' so' vr' wo' wa' lf' lp' td') : (u0 = 0 ∧ u1 = 1 ∧ r = 0 ∧ wa' = u2) ∨ (r = 1 ∧ wa' = wa ∧ ∃ (fa2 pl2 tk2 fr2 to2 va2 i2 : Int32) (nm2 : Nat → Int32) (N : Nat) (m : Int), (nu_.getD (Int32.toNatClampNeg 7) 0).toInt = m ∧ m ≤ i2.toInt ∧ fx (T_k_readLine_56 7 n t pa cl ha ac us ra ch bo hu sa ak fl de pr mi hv u0 u1 u2 u3 u4 u5 u6 u7 u8 u9 u10 u11 u12 u13 u14 u15 u16 u17 u18 u19 u20 u21 u22 u23) (N + 1) (i2, fa2, pl2, tk2, fr2, to2, va2, nm2) ∧ to.toInt ≤ to2.toInt ∧ to2.toInt ≤ n.toInt ∧ CT t n.toInt to2.toInt rc' bg' so' vr' wo' ∧ FR fa2 pl2 lf' lp' to2.toInt ∧ (R_k_keepLine 7 nm2 pa cl ha ac us ra ch bo hu sa ak fl de pr mi hv u7 u8 u9 u10 u11 u12 u13 u14 u15 u16 u17 u18 u19 u20 u21 u22 → RB td' u19 u20)) := by
  have zm1 : (-1 : Int32).toInt = -1 := by decide
  have z0 : (0 : Int32).toInt = 0 := by decide
  have z1 : (1 : Int32).toInt = 1 := by decide
  have z2 : (2 : Int32).toInt = 2 := by decide
  have z3 : (3 : Int32).toInt = 3 := by decide
  have z4 : (4 : Int32).toInt = 4 := by decide
  have z5 : (5 : Int32).toInt = 5 := by decide
  have z6 : (6 : Int32).toInt = 6 := by decide
  have z30 : (30 : Int32).toInt = 30 := by decide
  have z99 : (99 : Int32).toInt = 99 := by decide
  obtain ⟨-, lf0, lp0, hfull, rc0, bg0, so0, vr0, rst_⟩ := hr
  obtain ⟨wo0, htok, ra_, era, rb_, erb, rc_, erc_, rst_⟩ := rst_
  obtain ⟨rd0, erd, rN, rcN, bgN, soN, vrN, woN, rst_⟩ := rst_
  obtain ⟨waN, lfN, lpN, rdN, hdn, hr⟩ := rst_
  have hF0 := jf (idx := 0) (most := 30) (c := de) (q := to.toInt) z30 hD.1 hD.2.2.2 (isF_7 hfu) hF (Int.le_refl _) hfr.2.1 ebg hnote hfull
  have hC0 : CT t n.toInt to.toInt rc0 bg0 so0 vr0 wo0 := by rw [← erc]; exact tok_ct hby hag hn (by omega) htok
  have E0 : rd0 0 = 1 := by rw [← erd, ← erc_, ← erb, ← era]; exact (up_ne (by decide)).trans ((up_ne (by decide)).trans ((up_ne (by decide)).trans up_eq))
  have E1 : rd0 1 = -1 := by rw [← erd, ← erc_, ← erb]; exact (up_ne (by decide)).trans ((up_ne (by decide)).trans up_eq)
  have E2 : rd0 2 = -1 := by rw [← erd, ← erc_]; exact (up_ne (by decide)).trans up_eq
  have E3 : rd0 3 = -1 := by rw [← erd]; exact up_eq
  have bad : u0 = 0 → u1 = 1 → rN = 0 → waN = u2 → (u0 = 0 ∧ u1 = 1 ∧ r = 0 ∧ wa' = u2) := by
    intro g0 g1 g2 g3
    rcases hr with ⟨c, -⟩ | ⟨c, e0, e1, e2, e3, e4, e5, e6, e7, e8, e9, e10⟩
    · exact absurd (by rw [g2]; decide) c
    · exact ⟨g0, g1, e0, by rw [e6]; exact g3⟩
  have good : rN = 1 → waN = wa → ∀ (fa2 pl2 tk2 fr2 to2 va2 : Int32) (nm2 : Nat → Int32) (N : Nat), fx (T_k_readLine_56 7 n t pa cl ha ac us ra ch bo hu sa ak fl de pr mi hv u0 u1 u2 u3 u4 u5 u6 u7 u8 u9 u10 u11 u12 u13 u14 u15 u16 u17 u18 u19 u20 u21 u22 u23) (N + 1) (3, fa2, pl2, tk2, fr2, to2, va2, nm2) → to.toInt ≤ to2.toInt → to2.toInt ≤ n.toInt → CT t n.toInt to2.toInt rcN bgN soN vrN woN → FR fa2 pl2 lfN lpN to2.toInt → rdN 0 = 1 → rdN 1 = nm2 0 → rdN 2 = nm2 1 → rdN 3 = nm2 2 → (r = 1 ∧ wa' = wa ∧ ∃ (fa2 pl2 tk2 fr2 to2 va2 i2 : Int32) (nm2 : Nat → Int32) (N : Nat) (m : Int), (nu_.getD (Int32.toNatClampNeg 7) 0).toInt = m ∧ m ≤ i2.toInt ∧ fx (T_k_readLine_56 7 n t pa cl ha ac us ra ch bo hu sa ak fl de pr mi hv u0 u1 u2 u3 u4 u5 u6 u7 u8 u9 u10 u11 u12 u13 u14 u15 u16 u17 u18 u19 u20 u21 u22 u23) (N + 1) (i2, fa2, pl2, tk2, fr2, to2, va2, nm2) ∧ to.toInt ≤ to2.toInt ∧ to2.toInt ≤ n.toInt ∧ CT t n.toInt to2.toInt rc' bg' so' vr' wo' ∧ FR fa2 pl2 lf' lp' to2.toInt ∧ (R_k_keepLine 7 nm2 pa cl ha ac us ra ch bo hu sa ak fl de pr mi hv u7 u8 u9 u10 u11 u12 u13 u14 u15 u16 u17 u18 u19 u20 u21 u22 → RB td' u19 u20)) := by
    intro g0 g1 fa2 pl2 tk2 fr2 to2 va2 nm2 N h2 p1 p2 hC2 hF2 D0 D1 D2 D3
    rcases hr with ⟨c, tdn, hkp, e0, e1, e2, e3, e4, e5, e6, e7, e8, e9, e10⟩ | ⟨c, -⟩
    · rw [e1, e2, e3, e4, e5, e6, e7, e8, e9]
      refine ⟨e0, g1, fa2, pl2, tk2, fr2, to2, va2, 3, nm2, N, 3, by decide, by decide, h2, p1, p2, hC2, hF2, fun hk => ?_⟩
      obtain ⟨hx, -⟩ := kl_7 hk
      exact RB_deed hD D0 D1 D2 D3 hx hkp
    · rw [g0] at c; exact absurd c (by decide)
  rcases hdn with ⟨c, e0, e1, e2, e3, e4, e5, e6, e7, e8, e9⟩ | ⟨c, r1, rc1, bg1, so1, vr1, wo1, wa1, lf1, lp1, rd1, ht1, hdn⟩ | ⟨c, r1, rc1, bg1, so1, vr1, wo1, wa1, lf1, lp1, rd1, ht1, hdn⟩ | ⟨c, r1, rc1, bg1, so1, vr1, wo1, wa1, lf1, lp1, rd1, ht1, hdn⟩ | ⟨c, r1, rc1, bg1, so1, vr1, wo1, wa1, lf1, lp1, rd1, ht1, hdn⟩ | hdn
  · omega
  · omega
  · skip
    rcases jn (i := 0) (m := 3) (by decide) (by decide) (by decide) hn hby hag (by omega) hC0 hF0 (fun v c hv hc => by
      have hb := cb_7_0 hc
      have e1_ : (upd nm (Int32.toNatClampNeg 0) v) 0 = v := up_eq
      rw [e1_] at hb
      omega) h (tb ht1) with ⟨g0, g1, g2, g3⟩ | ⟨g, fa1, pl1, tk1, fr1, to1, va1, w1, d1, p1, q1, hC1, hF1, h1⟩
    · rcases hdn with ⟨c, e0, e1, e2, e3, e4, e5, e6, e7, e8, e9⟩ | ⟨c, -⟩
      · exact Or.inl (bad g0 g1 e0 (by rw [e6]; exact g3))
      · exact absurd (by rw [g2]; decide) c
    · rcases hdn with ⟨c, -⟩ | ⟨c, bt, ebt, r2, rc2, bg2, so2, vr2, wo2, wa2, lf2, lp2, rd2, ht2, hdn⟩
      · rw [g] at c; exact absurd c (by decide)
      · skip
        have hbt : bt = va1 := by rw [ebt, d1]; exact up_eq
        have i1_ : (0 + 1 : Int32) = 1 := by decide
        rw [i1_] at h1
        rcases jn (i := 1) (m := 3) (by decide) (by decide) (by decide) hn hby hag (by omega) hC1 hF1 (fun v c hv hc => by
      have hb := cb_7_1 hc
      have e1_ : (upd (upd nm (Int32.toNatClampNeg 0) va1) (Int32.toNatClampNeg 1) v) 1 = v := up_eq
      rw [e1_] at hb
      have e0_ : (upd (upd nm (Int32.toNatClampNeg 0) va1) (Int32.toNatClampNeg 1) v) 0 = va1 := (up_ne (by decide)).trans up_eq
      rw [e0_] at hb
      rw [hbt]; omega) h1 ht2 with ⟨g0, g1, g2, g3⟩ | ⟨g, fa2, pl2, tk2, fr2, to2, va2, w2, d2, p2, q2, hC2, hF2, h2⟩
        · rcases hdn with ⟨c, e0, e1, e2, e3, e4, e5, e6, e7, e8, e9⟩ | ⟨c, -⟩
          · exact Or.inl (bad g0 g1 e0 (by rw [e6, g3]))
          · exact absurd (by rw [g2]; decide) c
        · rcases hdn with ⟨c, -⟩ | ⟨c, r3, rc3, bg3, so3, vr3, wo3, wa3, lf3, lp3, rd3, ht3, hdn⟩
          · rw [g] at c; exact absurd c (by decide)
          · skip
            have i2_ : (1 + 1 : Int32) = 2 := by decide
            rw [i2_] at h2
            rcases jn (i := 2) (m := 3) (by decide) (by decide) (by decide) hn hby hag (by omega) hC2 hF2 (fun v c hv hc => by
      have hb := cb_7_2 hc
      have e1_ : (upd (upd (upd nm (Int32.toNatClampNeg 0) va1) (Int32.toNatClampNeg 1) va2) (Int32.toNatClampNeg 2) v) 2 = v := up_eq
      rw [e1_] at hb
      omega) h2 (tb ht3) with ⟨g0, g1, g2, g3⟩ | ⟨g, fa3, pl3, tk3, fr3, to3, va3, w3, d3, p3, q3, hC3, hF3, h3⟩
            · rcases hdn with ⟨c, e0, e1, e2, e3, e4, e5, e6, e7, e8, e9⟩ | ⟨c, -⟩
              · exact Or.inl (bad g0 g1 e0 (by rw [e6, g3]))
              · exact absurd (by rw [g2]; decide) c
            · rcases hdn with ⟨c, -⟩ | ⟨c, e0, e1, e2, e3, e4, e5, e6, e7, e8, e9⟩
              · rw [g] at c; exact absurd c (by decide)
              · skip
                have i3_ : (2 + 1 : Int32) = 3 := by decide
                rw [i3_] at h3
                refine Or.inr (good e0 (by rw [e6, w3, w2, w1]) _ _ _ _ _ _ _ 1 h3 (by omega) (by omega) ?_ ?_ ?_ ?_ ?_ ?_)
                · rw [e1, e2, e3, e4, e5]; exact hC3
                · rw [e7, e8]; exact hF3
                · rw [e9, d3, d2, d1]; exact (up_ne (by decide)).trans ((up_ne (by decide)).trans ((up_ne (by decide)).trans E0))
                · rw [e9, d3, d2, d1]; exact ((up_ne (by decide)).trans ((up_ne (by decide)).trans up_eq)).trans ((up_ne (by decide)).trans ((up_ne (by decide)).trans up_eq)).symm
                · rw [e9, d3, d2]; exact ((up_ne (by decide)).trans up_eq).trans ((up_ne (by decide)).trans up_eq).symm
                · rw [e9, d3]; exact up_eq.trans up_eq.symm
  · omega
  · omega
  · obtain ⟨c, -⟩ := hdn
    omega
theorem ln_8 {tk fr to va fa pl fu fa1 pl1 z at_ lf lp vr rc wa r rc' bg' so' vr' wa' lf' lp' : Int32} {wo' : Int64} {nm s td rd td' rd' : Nat → Int32} (hn : 0 ≤ n.toInt ∧ n.toInt ≤ 600) (hby : By s) (hag : Ag_ t s n.toInt) (hfr : 0 ≤ fr.toInt ∧ fr.toInt < to.toInt ∧ to.toInt ≤ n.toInt) (erc : rc.toInt = to.toInt) (ebg : at_ = fr) (hF : FR fa pl lf lp fr.toInt) (hD : RB td de pr) (hfu : R_k_isFull 8 pa ac us de mi fu) (hnote : ((fu.toInt = 0 ∧ fa1 = fa ∧ pl1 = pl) ∨ (fu.toInt ≠ 0 ∧ R_k_note fa pl 3 fr fa1 pl1))) (hnm : ∀ j : Nat, j < 3 → nm j = -1) (h : fx (T_k_readLine_56 8 n t pa cl ha ac us ra ch bo hu sa ak fl de pr mi hv u0 u1 u2 u3 u4 u5 u6 u7 u8 u9 u10 u11 u12 u13 u14 u15 u16 u17 u18 u19 u20 u21 u22 u23) 5 (0, fa1, pl1, tk, fr, to, va, nm)) (hr : R_j_bookLine_s0 (2) td lf lp at_ n s vr rc rd wa r rd' rc' bg' so' vr' wo' wa' lf' lp' td') : (u0 = 0 ∧ u1 = 1 ∧ r = 0 ∧ wa' = u2) ∨ (r = 1 ∧ wa' = wa ∧ ∃ (fa2 pl2 tk2 fr2 to2 va2 i2 : Int32) (nm2 : Nat → Int32) (N : Nat) (m : Int), (nu_.getD (Int32.toNatClampNeg 8) 0).toInt = m ∧ m ≤ i2.toInt ∧ fx (T_k_readLine_56 8 n t pa cl ha ac us ra ch bo hu sa ak fl de pr mi hv u0 u1 u2 u3 u4 u5 u6 u7 u8 u9 u10 u11 u12 u13 u14 u15 u16 u17 u18 u19 u20 u21 u22 u23) (N + 1) (i2, fa2, pl2, tk2, fr2, to2, va2, nm2) ∧ to.toInt ≤ to2.toInt ∧ to2.toInt ≤ n.toInt ∧ CT t n.toInt to2.toInt rc' bg' so' vr' wo' ∧ FR fa2 pl2 lf' lp' to2.toInt ∧ (R_k_keepLine 8 nm2 pa cl ha ac us ra ch bo hu sa ak fl de pr mi hv u7 u8 u9 u10 u11 u12 u13 u14 u15 u16 u17 u18 u19 u20 u21 u22 → RB td' u19 u20)) := by
  have zm1 : (-1 : Int32).toInt = -1 := by decide
  have z0 : (0 : Int32).toInt = 0 := by decide
  have z1 : (1 : Int32).toInt = 1 := by decide
  have z2 : (2 : Int32).toInt = 2 := by decide
  have z3 : (3 : Int32).toInt = 3 := by decide
  have z4 : (4 : Int32).toInt = 4 := by decide
  have z5 : (5 : Int32).toInt = 5 := by decide
  have z6 : (6 : Int32).toInt = 6 := by decide
  have z30 : (30 : Int32).toInt = 30 := by decide
  have z99 : (99 : Int32).toInt = 99 := by decide
  obtain ⟨-, lf0, lp0, hfull, rc0, bg0, so0, vr0, rst_⟩ := hr
  obtain ⟨wo0, htok, ra_, era, rb_, erb, rc_, erc_, rst_⟩ := rst_
  obtain ⟨rd0, erd, rN, rcN, bgN, soN, vrN, woN, rst_⟩ := rst_
  obtain ⟨waN, lfN, lpN, rdN, hdn, hr⟩ := rst_
  have hF0 := jf (idx := 0) (most := 30) (c := de) (q := to.toInt) z30 hD.1 hD.2.2.2 (isF_8 hfu) hF (Int.le_refl _) hfr.2.1 ebg hnote hfull
  have hC0 : CT t n.toInt to.toInt rc0 bg0 so0 vr0 wo0 := by rw [← erc]; exact tok_ct hby hag hn (by omega) htok
  have E0 : rd0 0 = 2 := by rw [← erd, ← erc_, ← erb, ← era]; exact (up_ne (by decide)).trans ((up_ne (by decide)).trans ((up_ne (by decide)).trans up_eq))
  have E1 : rd0 1 = -1 := by rw [← erd, ← erc_, ← erb]; exact (up_ne (by decide)).trans ((up_ne (by decide)).trans up_eq)
  have E2 : rd0 2 = -1 := by rw [← erd, ← erc_]; exact (up_ne (by decide)).trans up_eq
  have E3 : rd0 3 = -1 := by rw [← erd]; exact up_eq
  have bad : u0 = 0 → u1 = 1 → rN = 0 → waN = u2 → (u0 = 0 ∧ u1 = 1 ∧ r = 0 ∧ wa' = u2) := by
    intro g0 g1 g2 g3
    rcases hr with ⟨c, -⟩ | ⟨c, e0, e1, e2, e3, e4, e5, e6, e7, e8, e9, e10⟩
    · exact absurd (by rw [g2]; decide) c
    · exact ⟨g0, g1, e0, by rw [e6]; exact g3⟩
  have good : rN = 1 → waN = wa → ∀ (fa2 pl2 tk2 fr2 to2 va2 : Int32) (nm2 : Nat → Int32) (N : Nat), fx (T_k_readLine_56 8 n t pa cl ha ac us ra ch bo hu sa ak fl de pr mi hv u0 u1 u2 u3 u4 u5 u6 u7 u8 u9 u10 u11 u12 u13 u14 u15 u16 u17 u18 u19 u20 u21 u22 u23) (N + 1) (3, fa2, pl2, tk2, fr2, to2, va2, nm2) → to.toInt ≤ to2.toInt → to2.toInt ≤ n.toInt → CT t n.toInt to2.toInt rcN bgN soN vrN woN → FR fa2 pl2 lfN lpN to2.toInt → rdN 0 = 2 → rdN 1 = nm2 0 → rdN 2 = nm2 1 → rdN 3 = nm2 2 → (r = 1 ∧ wa' = wa ∧ ∃ (fa2 pl2 tk2 fr2 to2 va2 i2 : Int32) (nm2 : Nat → Int32) (N : Nat) (m : Int), (nu_.getD (Int32.toNatClampNeg 8) 0).toInt = m ∧ m ≤ i2.toInt ∧ fx (T_k_readLine_56 8 n t pa cl ha ac us ra ch bo hu sa ak fl de pr mi hv u0 u1 u2 u3 u4 u5 u6 u7 u8 u9 u10 u11 u12 u13 u14 u15 u16 u17 u18 u19 u20 u21 u22 u23) (N + 1) (i2, fa2, pl2, tk2, fr2, to2, va2, nm2) ∧ to.toInt ≤ to2.toInt ∧ to2.toInt ≤ n.toInt ∧ CT t n.toInt to2.toInt rc' bg' so' vr' wo' ∧ FR fa2 pl2 lf' lp' to2.toInt ∧ (R_k_keepLine 8 nm2 pa cl ha ac us ra ch bo hu sa ak fl de pr mi hv u7 u8 u9 u10 u11 u12 u13 u14 u15 u16 u17 u18 u19 u20 u21 u22 → RB td' u19 u20)) := by
    intro g0 g1 fa2 pl2 tk2 fr2 to2 va2 nm2 N h2 p1 p2 hC2 hF2 D0 D1 D2 D3
    rcases hr with ⟨c, tdn, hkp, e0, e1, e2, e3, e4, e5, e6, e7, e8, e9, e10⟩ | ⟨c, -⟩
    · rw [e1, e2, e3, e4, e5, e6, e7, e8, e9]
      refine ⟨e0, g1, fa2, pl2, tk2, fr2, to2, va2, 3, nm2, N, 3, by decide, by decide, h2, p1, p2, hC2, hF2, fun hk => ?_⟩
      obtain ⟨hx, -⟩ := kl_8 hk
      exact RB_deed hD D0 D1 D2 D3 hx hkp
    · rw [g0] at c; exact absurd c (by decide)
  rcases hdn with ⟨c, e0, e1, e2, e3, e4, e5, e6, e7, e8, e9⟩ | ⟨c, r1, rc1, bg1, so1, vr1, wo1, wa1, lf1, lp1, rd1, ht1, hdn⟩ | ⟨c, r1, rc1, bg1, so1, vr1, wo1, wa1, lf1, lp1, rd1, ht1, hdn⟩ | ⟨c, r1, rc1, bg1, so1, vr1, wo1, wa1, lf1, lp1, rd1, ht1, hdn⟩ | ⟨c, r1, rc1, bg1, so1, vr1, wo1, wa1, lf1, lp1, rd1, ht1, hdn⟩ | hdn
  · omega
  · omega
  · omega
  · skip
    rcases jn (i := 0) (m := 3) (by decide) (by decide) (by decide) hn hby hag (by omega) hC0 hF0 (fun v c hv hc => by
      have hb := cb_8_0 hc
      have e1_ : (upd nm (Int32.toNatClampNeg 0) v) 0 = v := up_eq
      rw [e1_] at hb
      omega) h (tb ht1) with ⟨g0, g1, g2, g3⟩ | ⟨g, fa1, pl1, tk1, fr1, to1, va1, w1, d1, p1, q1, hC1, hF1, h1⟩
    · rcases hdn with ⟨c, e0, e1, e2, e3, e4, e5, e6, e7, e8, e9⟩ | ⟨c, -⟩
      · exact Or.inl (bad g0 g1 e0 (by rw [e6]; exact g3))
      · exact absurd (by rw [g2]; decide) c
    · rcases hdn with ⟨c, -⟩ | ⟨c, bt, ebt, r2, rc2, bg2, so2, vr2, wo2, wa2, lf2, lp2, rd2, ht2, hdn⟩
      · rw [g] at c; exact absurd c (by decide)
      · skip
        have hbt : bt = va1 := by rw [ebt, d1]; exact up_eq
        have i1_ : (0 + 1 : Int32) = 1 := by decide
        rw [i1_] at h1
        rcases jn (i := 1) (m := 3) (by decide) (by decide) (by decide) hn hby hag (by omega) hC1 hF1 (fun v c hv hc => by
      have hb := cb_8_1 hc
      have e1_ : (upd (upd nm (Int32.toNatClampNeg 0) va1) (Int32.toNatClampNeg 1) v) 1 = v := up_eq
      rw [e1_] at hb
      have e0_ : (upd (upd nm (Int32.toNatClampNeg 0) va1) (Int32.toNatClampNeg 1) v) 0 = va1 := (up_ne (by decide)).trans up_eq
      rw [e0_] at hb
      rw [hbt]; omega) h1 ht2 with ⟨g0, g1, g2, g3⟩ | ⟨g, fa2, pl2, tk2, fr2, to2, va2, w2, d2, p2, q2, hC2, hF2, h2⟩
        · rcases hdn with ⟨c, e0, e1, e2, e3, e4, e5, e6, e7, e8, e9⟩ | ⟨c, -⟩
          · exact Or.inl (bad g0 g1 e0 (by rw [e6, g3]))
          · exact absurd (by rw [g2]; decide) c
        · rcases hdn with ⟨c, -⟩ | ⟨c, r3, rc3, bg3, so3, vr3, wo3, wa3, lf3, lp3, rd3, ht3, hdn⟩
          · rw [g] at c; exact absurd c (by decide)
          · skip
            have i2_ : (1 + 1 : Int32) = 2 := by decide
            rw [i2_] at h2
            rcases jn (i := 2) (m := 3) (by decide) (by decide) (by decide) hn hby hag (by omega) hC2 hF2 (fun v c hv hc => by
      have hb := cb_8_2 hc
      have e1_ : (upd (upd (upd nm (Int32.toNatClampNeg 0) va1) (Int32.toNatClampNeg 1) va2) (Int32.toNatClampNeg 2) v) 2 = v := up_eq
      rw [e1_] at hb
      omega) h2 (tb ht3) with ⟨g0, g1, g2, g3⟩ | ⟨g, fa3, pl3, tk3, fr3, to3, va3, w3, d3, p3, q3, hC3, hF3, h3⟩
            · rcases hdn with ⟨c, e0, e1, e2, e3, e4, e5, e6, e7, e8, e9⟩ | ⟨c, -⟩
              · exact Or.inl (bad g0 g1 e0 (by rw [e6, g3]))
              · exact absurd (by rw [g2]; decide) c
            · rcases hdn with ⟨c, -⟩ | ⟨c, e0, e1, e2, e3, e4, e5, e6, e7, e8, e9⟩
              · rw [g] at c; exact absurd c (by decide)
              · skip
                have i3_ : (2 + 1 : Int32) = 3 := by decide
                rw [i3_] at h3
                refine Or.inr (good e0 (by rw [e6, w3, w2, w1]) _ _ _ _ _ _ _ 1 h3 (by omega) (by omega) ?_ ?_ ?_ ?_ ?_ ?_)
                · rw [e1, e2, e3, e4, e5]; exact hC3
                · rw [e7, e8]; exact hF3
                · rw [e9, d3, d2, d1]; exact (up_ne (by decide)).trans ((up_ne (by decide)).trans ((up_ne (by decide)).trans E0))
                · rw [e9, d3, d2, d1]; exact ((up_ne (by decide)).trans ((up_ne (by decide)).trans up_eq)).trans ((up_ne (by decide)).trans ((up_ne (by decide)).trans up_eq)).symm
                · rw [e9, d3, d2]; exact ((up_ne (by decide)).trans up_eq).trans ((up_ne (by decide)).trans up_eq).symm
                · rw [e9, d3]; exact up_eq.trans up_eq.symm
  · omega
  · obtain ⟨c, -⟩ := hdn
    omega
theorem ln_9 {tk fr to va fa pl fu fa1 pl1 z at_ lf lp vr rc wa r rc' bg' so' vr' wa' lf' lp' : Int32} {wo' : Int64} {nm s td rd td' rd' : Nat → Int32} (hn : 0 ≤ n.toInt ∧ n.toInt ≤ 600) (hby : By s) (hag : Ag_ t s n.toInt) (hfr : 0 ≤ fr.toInt ∧ fr.toInt < to.toInt ∧ to.toInt ≤ n.toInt) (erc : rc.toInt = to.toInt) (ebg : at_ = fr) (hF : FR fa pl lf lp fr.toInt) (hD : RB td de pr) (hfu : R_k_isFull 9 pa ac us de mi fu) (hnote : ((fu.toInt = 0 ∧ fa1 = fa ∧ pl1 = pl) ∨ (fu.toInt ≠ 0 ∧ R_k_note fa pl 3 fr fa1 pl1))) (hnm : ∀ j : Nat, j < 3 → nm j = -1) (h : fx (T_k_readLine_56 9 n t pa cl ha ac us ra ch bo hu sa ak fl de pr mi hv u0 u1 u2 u3 u4 u5 u6 u7 u8 u9 u10 u11 u12 u13 u14 u15 u16 u17 u18 u19 u20 u21 u22 u23) 5 (0, fa1, pl1, tk, fr, to, va, nm)) (hr : R_j_bookLine_s0 (3) td lf lp at_ n s vr rc rd wa r rd' rc' bg' so' vr' wo' wa' lf' lp' td') : (u0 = 0 ∧ u1 = 1 ∧ r = 0 ∧ wa' = u2) ∨ (r = 1 ∧ wa' = wa ∧ ∃ (fa2 pl2 tk2 fr2 to2 va2 i2 : Int32) (nm2 : Nat → Int32) (N : Nat) (m : Int), (nu_.getD (Int32.toNatClampNeg 9) 0).toInt = m ∧ m ≤ i2.toInt ∧ fx (T_k_readLine_56 9 n t pa cl ha ac us ra ch bo hu sa ak fl de pr mi hv u0 u1 u2 u3 u4 u5 u6 u7 u8 u9 u10 u11 u12 u13 u14 u15 u16 u17 u18 u19 u20 u21 u22 u23) (N + 1) (i2, fa2, pl2, tk2, fr2, to2, va2, nm2) ∧ to.toInt ≤ to2.toInt ∧ to2.toInt ≤ n.toInt ∧ CT t n.toInt to2.toInt rc' bg' so' vr' wo' ∧ FR fa2 pl2 lf' lp' to2.toInt ∧ (R_k_keepLine 9 nm2 pa cl ha ac us ra ch bo hu sa ak fl de pr mi hv u7 u8 u9 u10 u11 u12 u13 u14 u15 u16 u17 u18 u19 u20 u21 u22 → RB td' u19 u20)) := by
  have zm1 : (-1 : Int32).toInt = -1 := by decide
  have z0 : (0 : Int32).toInt = 0 := by decide
  have z1 : (1 : Int32).toInt = 1 := by decide
  have z2 : (2 : Int32).toInt = 2 := by decide
  have z3 : (3 : Int32).toInt = 3 := by decide
  have z4 : (4 : Int32).toInt = 4 := by decide
  have z5 : (5 : Int32).toInt = 5 := by decide
  have z6 : (6 : Int32).toInt = 6 := by decide
  have z30 : (30 : Int32).toInt = 30 := by decide
  have z99 : (99 : Int32).toInt = 99 := by decide
  obtain ⟨-, lf0, lp0, hfull, rc0, bg0, so0, vr0, rst_⟩ := hr
  obtain ⟨wo0, htok, ra_, era, rb_, erb, rc_, erc_, rst_⟩ := rst_
  obtain ⟨rd0, erd, rN, rcN, bgN, soN, vrN, woN, rst_⟩ := rst_
  obtain ⟨waN, lfN, lpN, rdN, hdn, hr⟩ := rst_
  have hF0 := jf (idx := 0) (most := 30) (c := de) (q := to.toInt) z30 hD.1 hD.2.2.2 (isF_9 hfu) hF (Int.le_refl _) hfr.2.1 ebg hnote hfull
  have hC0 : CT t n.toInt to.toInt rc0 bg0 so0 vr0 wo0 := by rw [← erc]; exact tok_ct hby hag hn (by omega) htok
  have E0 : rd0 0 = 3 := by rw [← erd, ← erc_, ← erb, ← era]; exact (up_ne (by decide)).trans ((up_ne (by decide)).trans ((up_ne (by decide)).trans up_eq))
  have E1 : rd0 1 = -1 := by rw [← erd, ← erc_, ← erb]; exact (up_ne (by decide)).trans ((up_ne (by decide)).trans up_eq)
  have E2 : rd0 2 = -1 := by rw [← erd, ← erc_]; exact (up_ne (by decide)).trans up_eq
  have E3 : rd0 3 = -1 := by rw [← erd]; exact up_eq
  have bad : u0 = 0 → u1 = 1 → rN = 0 → waN = u2 → (u0 = 0 ∧ u1 = 1 ∧ r = 0 ∧ wa' = u2) := by
    intro g0 g1 g2 g3
    rcases hr with ⟨c, -⟩ | ⟨c, e0, e1, e2, e3, e4, e5, e6, e7, e8, e9, e10⟩
    · exact absurd (by rw [g2]; decide) c
    · exact ⟨g0, g1, e0, by rw [e6]; exact g3⟩
  have good : rN = 1 → waN = wa → ∀ (fa2 pl2 tk2 fr2 to2 va2 : Int32) (nm2 : Nat → Int32) (N : Nat), fx (T_k_readLine_56 9 n t pa cl ha ac us ra ch bo hu sa ak fl de pr mi hv u0 u1 u2 u3 u4 u5 u6 u7 u8 u9 u10 u11 u12 u13 u14 u15 u16 u17 u18 u19 u20 u21 u22 u23) (N + 1) (3, fa2, pl2, tk2, fr2, to2, va2, nm2) → to.toInt ≤ to2.toInt → to2.toInt ≤ n.toInt → CT t n.toInt to2.toInt rcN bgN soN vrN woN → FR fa2 pl2 lfN lpN to2.toInt → rdN 0 = 3 → rdN 1 = nm2 0 → rdN 2 = nm2 1 → rdN 3 = nm2 2 → (r = 1 ∧ wa' = wa ∧ ∃ (fa2 pl2 tk2 fr2 to2 va2 i2 : Int32) (nm2 : Nat → Int32) (N : Nat) (m : Int), (nu_.getD (Int32.toNatClampNeg 9) 0).toInt = m ∧ m ≤ i2.toInt ∧ fx (T_k_readLine_56 9 n t pa cl ha ac us ra ch bo hu sa ak fl de pr mi hv u0 u1 u2 u3 u4 u5 u6 u7 u8 u9 u10 u11 u12 u13 u14 u15 u16 u17 u18 u19 u20 u21 u22 u23) (N + 1) (i2, fa2, pl2, tk2, fr2, to2, va2, nm2) ∧ to.toInt ≤ to2.toInt ∧ to2.toInt ≤ n.toInt ∧ CT t n.toInt to2.toInt rc' bg' so' vr' wo' ∧ FR fa2 pl2 lf' lp' to2.toInt ∧ (R_k_keepLine 9 nm2 pa cl ha ac us ra ch bo hu sa ak fl de pr mi hv u7 u8 u9 u10 u11 u12 u13 u14 u15 u16 u17 u18 u19 u20 u21 u22 → RB td' u19 u20)) := by
    intro g0 g1 fa2 pl2 tk2 fr2 to2 va2 nm2 N h2 p1 p2 hC2 hF2 D0 D1 D2 D3
    rcases hr with ⟨c, tdn, hkp, e0, e1, e2, e3, e4, e5, e6, e7, e8, e9, e10⟩ | ⟨c, -⟩
    · rw [e1, e2, e3, e4, e5, e6, e7, e8, e9]
      refine ⟨e0, g1, fa2, pl2, tk2, fr2, to2, va2, 3, nm2, N, 3, by decide, by decide, h2, p1, p2, hC2, hF2, fun hk => ?_⟩
      obtain ⟨hx, -⟩ := kl_9 hk
      exact RB_deed hD D0 D1 D2 D3 hx hkp
    · rw [g0] at c; exact absurd c (by decide)
  rcases hdn with ⟨c, e0, e1, e2, e3, e4, e5, e6, e7, e8, e9⟩ | ⟨c, r1, rc1, bg1, so1, vr1, wo1, wa1, lf1, lp1, rd1, ht1, hdn⟩ | ⟨c, r1, rc1, bg1, so1, vr1, wo1, wa1, lf1, lp1, rd1, ht1, hdn⟩ | ⟨c, r1, rc1, bg1, so1, vr1, wo1, wa1, lf1, lp1, rd1, ht1, hdn⟩ | ⟨c, r1, rc1, bg1, so1, vr1, wo1, wa1, lf1, lp1, rd1, ht1, hdn⟩ | hdn
  · omega
  · omega
  · omega
  · omega
  · skip
    rcases jn (i := 0) (m := 3) (by decide) (by decide) (by decide) hn hby hag (by omega) hC0 hF0 (fun v c hv hc => by
      have hb := cb_9_0 hc
      have e1_ : (upd nm (Int32.toNatClampNeg 0) v) 0 = v := up_eq
      rw [e1_] at hb
      omega) h (tb ht1) with ⟨g0, g1, g2, g3⟩ | ⟨g, fa1, pl1, tk1, fr1, to1, va1, w1, d1, p1, q1, hC1, hF1, h1⟩
    · rcases hdn with ⟨c, e0, e1, e2, e3, e4, e5, e6, e7, e8, e9⟩ | ⟨c, -⟩
      · exact Or.inl (bad g0 g1 e0 (by rw [e6]; exact g3))
      · exact absurd (by rw [g2]; decide) c
    · rcases hdn with ⟨c, -⟩ | ⟨c, r2, rc2, bg2, so2, vr2, wo2, wa2, lf2, lp2, rd2, ht2, hdn⟩
      · rw [g] at c; exact absurd c (by decide)
      · skip
        have i1_ : (0 + 1 : Int32) = 1 := by decide
        rw [i1_] at h1
        rcases jn (i := 1) (m := 3) (by decide) (by decide) (by decide) hn hby hag (by omega) hC1 hF1 (fun v c hv hc => by
      have hb := cb_9_1 hc
      have e1_ : (upd (upd nm (Int32.toNatClampNeg 0) va1) (Int32.toNatClampNeg 1) v) 1 = v := up_eq
      rw [e1_] at hb
      have e0_ : (upd (upd nm (Int32.toNatClampNeg 0) va1) (Int32.toNatClampNeg 1) v) 0 = va1 := (up_ne (by decide)).trans up_eq
      omega) h1 (tb ht2) with ⟨g0, g1, g2, g3⟩ | ⟨g, fa2, pl2, tk2, fr2, to2, va2, w2, d2, p2, q2, hC2, hF2, h2⟩
        · rcases hdn with ⟨c, e0, e1, e2, e3, e4, e5, e6, e7, e8, e9⟩ | ⟨c, -⟩
          · exact Or.inl (bad g0 g1 e0 (by rw [e6, g3]))
          · exact absurd (by rw [g2]; decide) c
        · rcases hdn with ⟨c, -⟩ | ⟨c, r3, rc3, bg3, so3, vr3, wo3, wa3, lf3, lp3, rd3, ht3, hdn⟩
          · rw [g] at c; exact absurd c (by decide)
          · skip
            have i2_ : (1 + 1 : Int32) = 2 := by decide
            rw [i2_] at h2
            rcases jn (i := 2) (m := 3) (by decide) (by decide) (by decide) hn hby hag (by omega) hC2 hF2 (fun v c hv hc => by
      have hb := cb_9_2 hc
      have e1_ : (upd (upd (upd nm (Int32.toNatClampNeg 0) va1) (Int32.toNatClampNeg 1) va2) (Int32.toNatClampNeg 2) v) 2 = v := up_eq
      rw [e1_] at hb
      omega) h2 (tb ht3) with ⟨g0, g1, g2, g3⟩ | ⟨g, fa3, pl3, tk3, fr3, to3, va3, w3, d3, p3, q3, hC3, hF3, h3⟩
            · rcases hdn with ⟨c, e0, e1, e2, e3, e4, e5, e6, e7, e8, e9⟩ | ⟨c, -⟩
              · exact Or.inl (bad g0 g1 e0 (by rw [e6, g3]))
              · exact absurd (by rw [g2]; decide) c
            · rcases hdn with ⟨c, -⟩ | ⟨c, e0, e1, e2, e3, e4, e5, e6, e7, e8, e9⟩
              · rw [g] at c; exact absurd c (by decide)
              · skip
                have i3_ : (2 + 1 : Int32) = 3 := by decide
                rw [i3_] at h3
                refine Or.inr (good e0 (by rw [e6, w3, w2, w1]) _ _ _ _ _ _ _ 1 h3 (by omega) (by omega) ?_ ?_ ?_ ?_ ?_ ?_)
                · rw [e1, e2, e3, e4, e5]; exact hC3
                · rw [e7, e8]; exact hF3
                · rw [e9, d3, d2, d1]; exact (up_ne (by decide)).trans ((up_ne (by decide)).trans ((up_ne (by decide)).trans E0))
                · rw [e9, d3, d2, d1]; exact ((up_ne (by decide)).trans ((up_ne (by decide)).trans up_eq)).trans ((up_ne (by decide)).trans ((up_ne (by decide)).trans up_eq)).symm
                · rw [e9, d3, d2]; exact ((up_ne (by decide)).trans up_eq).trans ((up_ne (by decide)).trans up_eq).symm
                · rw [e9, d3]; exact up_eq.trans up_eq.symm
  · obtain ⟨c, -⟩ := hdn
    omega
theorem ln_10 {tk fr to va fa pl fu fa1 pl1 z at_ lf lp vr rc wa r rc' bg' so' vr' wa' lf' lp' : Int32} {wo' : Int64} {nm s td rd td' rd' : Nat → Int32} (hn : 0 ≤ n.toInt ∧ n.toInt ≤ 600) (hby : By s) (hag : Ag_ t s n.toInt) (hfr : 0 ≤ fr.toInt ∧ fr.toInt < to.toInt ∧ to.toInt ≤ n.toInt) (erc : rc.toInt = to.toInt) (ebg : at_ = fr) (hF : FR fa pl lf lp fr.toInt) (hD : RB td de pr) (hfu : R_k_isFull 10 pa ac us de mi fu) (hnote : ((fu.toInt = 0 ∧ fa1 = fa ∧ pl1 = pl) ∨ (fu.toInt ≠ 0 ∧ R_k_note fa pl 3 fr fa1 pl1))) (hnm : ∀ j : Nat, j < 3 → nm j = -1) (h : fx (T_k_readLine_56 10 n t pa cl ha ac us ra ch bo hu sa ak fl de pr mi hv u0 u1 u2 u3 u4 u5 u6 u7 u8 u9 u10 u11 u12 u13 u14 u15 u16 u17 u18 u19 u20 u21 u22 u23) 5 (0, fa1, pl1, tk, fr, to, va, nm)) (hr : R_j_bookLine_s0 (4) td lf lp at_ n s vr rc rd wa r rd' rc' bg' so' vr' wo' wa' lf' lp' td') : (u0 = 0 ∧ u1 = 1 ∧ r = 0 ∧ wa' = u2) ∨ (r = 1 ∧ wa' = wa ∧ ∃ (fa2 pl2 tk2 fr2 to2 va2 i2 : Int32) (nm2 : Nat → Int32) (N : Nat) (m : Int), (nu_.getD (Int32.toNatClampNeg 10) 0).toInt = m ∧ m ≤ i2.toInt ∧ fx (T_k_readLine_56 10 n t pa cl ha ac us ra ch bo hu sa ak fl de pr mi hv u0 u1 u2 u3 u4 u5 u6 u7 u8 u9 u10 u11 u12 u13 u14 u15 u16 u17 u18 u19 u20 u21 u22 u23) (N + 1) (i2, fa2, pl2, tk2, fr2, to2, va2, nm2) ∧ to.toInt ≤ to2.toInt ∧ to2.toInt ≤ n.toInt ∧ CT t n.toInt to2.toInt rc' bg' so' vr' wo' ∧ FR fa2 pl2 lf' lp' to2.toInt ∧ (R_k_keepLine 10 nm2 pa cl ha ac us ra ch bo hu sa ak fl de pr mi hv u7 u8 u9 u10 u11 u12 u13 u14 u15 u16 u17 u18 u19 u20 u21 u22 → RB td' u19 u20)) := by
  have zm1 : (-1 : Int32).toInt = -1 := by decide
  have z0 : (0 : Int32).toInt = 0 := by decide
  have z1 : (1 : Int32).toInt = 1 := by decide
  have z2 : (2 : Int32).toInt = 2 := by decide
  have z3 : (3 : Int32).toInt = 3 := by decide
  have z4 : (4 : Int32).toInt = 4 := by decide
  have z5 : (5 : Int32).toInt = 5 := by decide
  have z6 : (6 : Int32).toInt = 6 := by decide
  have z30 : (30 : Int32).toInt = 30 := by decide
  have z99 : (99 : Int32).toInt = 99 := by decide
  obtain ⟨-, lf0, lp0, hfull, rc0, bg0, so0, vr0, rst_⟩ := hr
  obtain ⟨wo0, htok, ra_, era, rb_, erb, rc_, erc_, rst_⟩ := rst_
  obtain ⟨rd0, erd, rN, rcN, bgN, soN, vrN, woN, rst_⟩ := rst_
  obtain ⟨waN, lfN, lpN, rdN, hdn, hr⟩ := rst_
  have hF0 := jf (idx := 0) (most := 30) (c := de) (q := to.toInt) z30 hD.1 hD.2.2.2 (isF_10 hfu) hF (Int.le_refl _) hfr.2.1 ebg hnote hfull
  have hC0 : CT t n.toInt to.toInt rc0 bg0 so0 vr0 wo0 := by rw [← erc]; exact tok_ct hby hag hn (by omega) htok
  have E0 : rd0 0 = 4 := by rw [← erd, ← erc_, ← erb, ← era]; exact (up_ne (by decide)).trans ((up_ne (by decide)).trans ((up_ne (by decide)).trans up_eq))
  have E1 : rd0 1 = -1 := by rw [← erd, ← erc_, ← erb]; exact (up_ne (by decide)).trans ((up_ne (by decide)).trans up_eq)
  have E2 : rd0 2 = -1 := by rw [← erd, ← erc_]; exact (up_ne (by decide)).trans up_eq
  have E3 : rd0 3 = -1 := by rw [← erd]; exact up_eq
  have bad : u0 = 0 → u1 = 1 → rN = 0 → waN = u2 → (u0 = 0 ∧ u1 = 1 ∧ r = 0 ∧ wa' = u2) := by
    intro g0 g1 g2 g3
    rcases hr with ⟨c, -⟩ | ⟨c, e0, e1, e2, e3, e4, e5, e6, e7, e8, e9, e10⟩
    · exact absurd (by rw [g2]; decide) c
    · exact ⟨g0, g1, e0, by rw [e6]; exact g3⟩
  have good : rN = 1 → waN = wa → ∀ (fa2 pl2 tk2 fr2 to2 va2 : Int32) (nm2 : Nat → Int32) (N : Nat), fx (T_k_readLine_56 10 n t pa cl ha ac us ra ch bo hu sa ak fl de pr mi hv u0 u1 u2 u3 u4 u5 u6 u7 u8 u9 u10 u11 u12 u13 u14 u15 u16 u17 u18 u19 u20 u21 u22 u23) (N + 1) (2, fa2, pl2, tk2, fr2, to2, va2, nm2) → to.toInt ≤ to2.toInt → to2.toInt ≤ n.toInt → CT t n.toInt to2.toInt rcN bgN soN vrN woN → FR fa2 pl2 lfN lpN to2.toInt → rdN 0 = 4 → rdN 1 = nm2 0 → rdN 2 = nm2 1 → rdN 3 = nm2 2 → (r = 1 ∧ wa' = wa ∧ ∃ (fa2 pl2 tk2 fr2 to2 va2 i2 : Int32) (nm2 : Nat → Int32) (N : Nat) (m : Int), (nu_.getD (Int32.toNatClampNeg 10) 0).toInt = m ∧ m ≤ i2.toInt ∧ fx (T_k_readLine_56 10 n t pa cl ha ac us ra ch bo hu sa ak fl de pr mi hv u0 u1 u2 u3 u4 u5 u6 u7 u8 u9 u10 u11 u12 u13 u14 u15 u16 u17 u18 u19 u20 u21 u22 u23) (N + 1) (i2, fa2, pl2, tk2, fr2, to2, va2, nm2) ∧ to.toInt ≤ to2.toInt ∧ to2.toInt ≤ n.toInt ∧ CT t n.toInt to2.toInt rc' bg' so' vr' wo' ∧ FR fa2 pl2 lf' lp' to2.toInt ∧ (R_k_keepLine 10 nm2 pa cl ha ac us ra ch bo hu sa ak fl de pr mi hv u7 u8 u9 u10 u11 u12 u13 u14 u15 u16 u17 u18 u19 u20 u21 u22 → RB td' u19 u20)) := by
    intro g0 g1 fa2 pl2 tk2 fr2 to2 va2 nm2 N h2 p1 p2 hC2 hF2 D0 D1 D2 D3
    rcases hr with ⟨c, tdn, hkp, e0, e1, e2, e3, e4, e5, e6, e7, e8, e9, e10⟩ | ⟨c, -⟩
    · rw [e1, e2, e3, e4, e5, e6, e7, e8, e9]
      refine ⟨e0, g1, fa2, pl2, tk2, fr2, to2, va2, 2, nm2, N, 2, by decide, by decide, h2, p1, p2, hC2, hF2, fun hk => ?_⟩
      obtain ⟨hx, -⟩ := kl_10 hk
      exact RB_deed hD D0 D1 D2 D3 hx hkp
    · rw [g0] at c; exact absurd c (by decide)
  rcases hdn with ⟨c, e0, e1, e2, e3, e4, e5, e6, e7, e8, e9⟩ | ⟨c, r1, rc1, bg1, so1, vr1, wo1, wa1, lf1, lp1, rd1, ht1, hdn⟩ | ⟨c, r1, rc1, bg1, so1, vr1, wo1, wa1, lf1, lp1, rd1, ht1, hdn⟩ | ⟨c, r1, rc1, bg1, so1, vr1, wo1, wa1, lf1, lp1, rd1, ht1, hdn⟩ | ⟨c, r1, rc1, bg1, so1, vr1, wo1, wa1, lf1, lp1, rd1, ht1, hdn⟩ | hdn
  · omega
  · omega
  · omega
  · omega
  · omega
  · obtain ⟨-, r1, rc1, bg1, so1, vr1, wo1, wa1, lf1, lp1, rd1, ht1, hdn⟩ := hdn
    rcases jn (i := 0) (m := 2) (by decide) (by decide) (by decide) hn hby hag (by omega) hC0 hF0 (fun v c hv hc => by
      have hb := cb_10_0 hc
      have e1_ : (upd nm (Int32.toNatClampNeg 0) v) 0 = v := up_eq
      rw [e1_] at hb
      omega) h (tb ht1) with ⟨g0, g1, g2, g3⟩ | ⟨g, fa1, pl1, tk1, fr1, to1, va1, w1, d1, p1, q1, hC1, hF1, h1⟩
    · rcases hdn with ⟨c, e0, e1, e2, e3, e4, e5, e6, e7, e8, e9⟩ | ⟨c, -⟩
      · exact Or.inl (bad g0 g1 e0 (by rw [e6]; exact g3))
      · exact absurd (by rw [g2]; decide) c
    · rcases hdn with ⟨c, -⟩ | ⟨c, r2, rc2, bg2, so2, vr2, wo2, wa2, lf2, lp2, rd2, ht2, hdn⟩
      · rw [g] at c; exact absurd c (by decide)
      · skip
        have i1_ : (0 + 1 : Int32) = 1 := by decide
        rw [i1_] at h1
        rcases jn (i := 1) (m := 2) (by decide) (by decide) (by decide) hn hby hag (by omega) hC1 hF1 (fun v c hv hc => by
      have hb := cb_10_1 hc
      have e1_ : (upd (upd nm (Int32.toNatClampNeg 0) va1) (Int32.toNatClampNeg 1) v) 1 = v := up_eq
      rw [e1_] at hb
      have e0_ : (upd (upd nm (Int32.toNatClampNeg 0) va1) (Int32.toNatClampNeg 1) v) 0 = va1 := (up_ne (by decide)).trans up_eq
      omega) h1 (tb ht2) with ⟨g0, g1, g2, g3⟩ | ⟨g, fa2, pl2, tk2, fr2, to2, va2, w2, d2, p2, q2, hC2, hF2, h2⟩
        · rcases hdn with ⟨c, e0, e1, e2, e3, e4, e5, e6, e7, e8, e9⟩ | ⟨c, -⟩
          · exact Or.inl (bad g0 g1 e0 (by rw [e6, g3]))
          · exact absurd (by rw [g2]; decide) c
        · rcases hdn with ⟨c, -⟩ | ⟨c, e0, e1, e2, e3, e4, e5, e6, e7, e8, e9⟩
          · rw [g] at c; exact absurd c (by decide)
          · skip
            have i2_ : (1 + 1 : Int32) = 2 := by decide
            rw [i2_] at h2
            refine Or.inr (good e0 (by rw [e6, w2, w1]) _ _ _ _ _ _ _ 2 h2 (by omega) (by omega) ?_ ?_ ?_ ?_ ?_ ?_)
            · rw [e1, e2, e3, e4, e5]; exact hC2
            · rw [e7, e8]; exact hF2
            · rw [e9, d2, d1]; exact (up_ne (by decide)).trans ((up_ne (by decide)).trans E0)
            · rw [e9, d2, d1]; exact ((up_ne (by decide)).trans up_eq).trans ((up_ne (by decide)).trans up_eq).symm
            · rw [e9, d2]; exact up_eq.trans up_eq.symm
            · rw [e9, d2, d1]; exact ((up_ne (by decide)).trans ((up_ne (by decide)).trans E3)).trans (((up_ne (by decide)).trans ((up_ne (by decide)).trans (hnm 2 (by decide)))).symm)
theorem ln_11 {tk fr to va fa pl fu fa1 pl1 z at_ lf lp vr rc wa r rc' bg' so' vr' wa' lf' lp' : Int32} {wo' : Int64} {nm s td rd td' rd' : Nat → Int32} (hn : 0 ≤ n.toInt ∧ n.toInt ≤ 600) (hby : By s) (hag : Ag_ t s n.toInt) (hfr : 0 ≤ fr.toInt ∧ fr.toInt < to.toInt ∧ to.toInt ≤ n.toInt) (erc : rc.toInt = to.toInt) (ebg : at_ = fr) (hF : FR fa pl lf lp fr.toInt) (hD : RB td de pr) (hfu : R_k_isFull 11 pa ac us de mi fu) (hnote : ((fu.toInt = 0 ∧ fa1 = fa ∧ pl1 = pl) ∨ (fu.toInt ≠ 0 ∧ R_k_note fa pl 3 fr fa1 pl1))) (hnm : ∀ j : Nat, j < 3 → nm j = -1) (h : fx (T_k_readLine_56 11 n t pa cl ha ac us ra ch bo hu sa ak fl de pr mi hv u0 u1 u2 u3 u4 u5 u6 u7 u8 u9 u10 u11 u12 u13 u14 u15 u16 u17 u18 u19 u20 u21 u22 u23) 5 (0, fa1, pl1, tk, fr, to, va, nm)) (hr : R_j_bookLine_s0 (5) td lf lp at_ n s vr rc rd wa r rd' rc' bg' so' vr' wo' wa' lf' lp' td') : (u0 = 0 ∧ u1 = 1 ∧ r = 0 ∧ wa' = u2) ∨ (r = 1 ∧ wa' = wa ∧ ∃ (fa2 pl2 tk2 fr2 to2 va2 i2 : Int32) (nm2 : Nat → Int32) (N : Nat) (m : Int), (nu_.getD (Int32.toNatClampNeg 11) 0).toInt = m ∧ m ≤ i2.toInt ∧ fx (T_k_readLine_56 11 n t pa cl ha ac us ra ch bo hu sa ak fl de pr mi hv u0 u1 u2 u3 u4 u5 u6 u7 u8 u9 u10 u11 u12 u13 u14 u15 u16 u17 u18 u19 u20 u21 u22 u23) (N + 1) (i2, fa2, pl2, tk2, fr2, to2, va2, nm2) ∧ to.toInt ≤ to2.toInt ∧ to2.toInt ≤ n.toInt ∧ CT t n.toInt to2.toInt rc' bg' so' vr' wo' ∧ FR fa2 pl2 lf' lp' to2.toInt ∧ (R_k_keepLine 11 nm2 pa cl ha ac us ra ch bo hu sa ak fl de pr mi hv u7 u8 u9 u10 u11 u12 u13 u14 u15 u16 u17 u18 u19 u20 u21 u22 → RB td' u19 u20)) := by
  have zm1 : (-1 : Int32).toInt = -1 := by decide
  have z0 : (0 : Int32).toInt = 0 := by decide
  have z1 : (1 : Int32).toInt = 1 := by decide
  have z2 : (2 : Int32).toInt = 2 := by decide
  have z3 : (3 : Int32).toInt = 3 := by decide
  have z4 : (4 : Int32).toInt = 4 := by decide
  have z5 : (5 : Int32).toInt = 5 := by decide
  have z6 : (6 : Int32).toInt = 6 := by decide
  have z30 : (30 : Int32).toInt = 30 := by decide
  have z99 : (99 : Int32).toInt = 99 := by decide
  obtain ⟨-, lf0, lp0, hfull, rc0, bg0, so0, vr0, rst_⟩ := hr
  obtain ⟨wo0, htok, ra_, era, rb_, erb, rc_, erc_, rst_⟩ := rst_
  obtain ⟨rd0, erd, rN, rcN, bgN, soN, vrN, woN, rst_⟩ := rst_
  obtain ⟨waN, lfN, lpN, rdN, hdn, hr⟩ := rst_
  have hF0 := jf (idx := 0) (most := 30) (c := de) (q := to.toInt) z30 hD.1 hD.2.2.2 (isF_11 hfu) hF (Int.le_refl _) hfr.2.1 ebg hnote hfull
  have hC0 : CT t n.toInt to.toInt rc0 bg0 so0 vr0 wo0 := by rw [← erc]; exact tok_ct hby hag hn (by omega) htok
  have E0 : rd0 0 = 5 := by rw [← erd, ← erc_, ← erb, ← era]; exact (up_ne (by decide)).trans ((up_ne (by decide)).trans ((up_ne (by decide)).trans up_eq))
  have E1 : rd0 1 = -1 := by rw [← erd, ← erc_, ← erb]; exact (up_ne (by decide)).trans ((up_ne (by decide)).trans up_eq)
  have E2 : rd0 2 = -1 := by rw [← erd, ← erc_]; exact (up_ne (by decide)).trans up_eq
  have E3 : rd0 3 = -1 := by rw [← erd]; exact up_eq
  have bad : u0 = 0 → u1 = 1 → rN = 0 → waN = u2 → (u0 = 0 ∧ u1 = 1 ∧ r = 0 ∧ wa' = u2) := by
    intro g0 g1 g2 g3
    rcases hr with ⟨c, -⟩ | ⟨c, e0, e1, e2, e3, e4, e5, e6, e7, e8, e9, e10⟩
    · exact absurd (by rw [g2]; decide) c
    · exact ⟨g0, g1, e0, by rw [e6]; exact g3⟩
  have good : rN = 1 → waN = wa → ∀ (fa2 pl2 tk2 fr2 to2 va2 : Int32) (nm2 : Nat → Int32) (N : Nat), fx (T_k_readLine_56 11 n t pa cl ha ac us ra ch bo hu sa ak fl de pr mi hv u0 u1 u2 u3 u4 u5 u6 u7 u8 u9 u10 u11 u12 u13 u14 u15 u16 u17 u18 u19 u20 u21 u22 u23) (N + 1) (0, fa2, pl2, tk2, fr2, to2, va2, nm2) → to.toInt ≤ to2.toInt → to2.toInt ≤ n.toInt → CT t n.toInt to2.toInt rcN bgN soN vrN woN → FR fa2 pl2 lfN lpN to2.toInt → rdN 0 = 5 → rdN 1 = nm2 0 → rdN 2 = nm2 1 → rdN 3 = nm2 2 → (r = 1 ∧ wa' = wa ∧ ∃ (fa2 pl2 tk2 fr2 to2 va2 i2 : Int32) (nm2 : Nat → Int32) (N : Nat) (m : Int), (nu_.getD (Int32.toNatClampNeg 11) 0).toInt = m ∧ m ≤ i2.toInt ∧ fx (T_k_readLine_56 11 n t pa cl ha ac us ra ch bo hu sa ak fl de pr mi hv u0 u1 u2 u3 u4 u5 u6 u7 u8 u9 u10 u11 u12 u13 u14 u15 u16 u17 u18 u19 u20 u21 u22 u23) (N + 1) (i2, fa2, pl2, tk2, fr2, to2, va2, nm2) ∧ to.toInt ≤ to2.toInt ∧ to2.toInt ≤ n.toInt ∧ CT t n.toInt to2.toInt rc' bg' so' vr' wo' ∧ FR fa2 pl2 lf' lp' to2.toInt ∧ (R_k_keepLine 11 nm2 pa cl ha ac us ra ch bo hu sa ak fl de pr mi hv u7 u8 u9 u10 u11 u12 u13 u14 u15 u16 u17 u18 u19 u20 u21 u22 → RB td' u19 u20)) := by
    intro g0 g1 fa2 pl2 tk2 fr2 to2 va2 nm2 N h2 p1 p2 hC2 hF2 D0 D1 D2 D3
    rcases hr with ⟨c, tdn, hkp, e0, e1, e2, e3, e4, e5, e6, e7, e8, e9, e10⟩ | ⟨c, -⟩
    · rw [e1, e2, e3, e4, e5, e6, e7, e8, e9]
      refine ⟨e0, g1, fa2, pl2, tk2, fr2, to2, va2, 0, nm2, N, 0, by decide, by decide, h2, p1, p2, hC2, hF2, fun hk => ?_⟩
      obtain ⟨hx, -⟩ := kl_11 hk
      exact RB_deed hD D0 D1 D2 D3 hx hkp
    · rw [g0] at c; exact absurd c (by decide)
  rcases hdn with ⟨c, e0, e1, e2, e3, e4, e5, e6, e7, e8, e9⟩ | ⟨c, r1, rc1, bg1, so1, vr1, wo1, wa1, lf1, lp1, rd1, ht1, hdn⟩ | ⟨c, r1, rc1, bg1, so1, vr1, wo1, wa1, lf1, lp1, rd1, ht1, hdn⟩ | ⟨c, r1, rc1, bg1, so1, vr1, wo1, wa1, lf1, lp1, rd1, ht1, hdn⟩ | ⟨c, r1, rc1, bg1, so1, vr1, wo1, wa1, lf1, lp1, rd1, ht1, hdn⟩ | hdn
  · refine Or.inr (good e0 e6 fa1 pl1 tk fr to va nm 4 h (Int.le_refl _) hfr.2.2 ?_ ?_ ?_ ?_ ?_ ?_)
    · rw [e1, e2, e3, e4, e5]; exact hC0
    · rw [e7, e8]; exact hF0
    · rw [e9]; exact E0
    · rw [e9, E1]; exact (hnm 0 (by decide)).symm
    · rw [e9, E2]; exact (hnm 1 (by decide)).symm
    · rw [e9, E3]; exact (hnm 2 (by decide)).symm
  · omega
  · omega
  · omega
  · omega
  · obtain ⟨c, -⟩ := hdn
    omega
theorem ln_12 {tk fr to va fa pl fu fa1 pl1 z at_ lf lp vr rc wa r rc' bg' so' vr' wa' lf' lp' : Int32} {wo' : Int64} {nm s td rd td' rd' : Nat → Int32} (hn : 0 ≤ n.toInt ∧ n.toInt ≤ 600) (hby : By s) (hag : Ag_ t s n.toInt) (hfr : 0 ≤ fr.toInt ∧ fr.toInt < to.toInt ∧ to.toInt ≤ n.toInt) (erc : rc.toInt = to.toInt) (ebg : at_ = fr) (hF : FR fa pl lf lp fr.toInt) (hD : RB td de pr) (hfu : R_k_isFull 12 pa ac us de mi fu) (hnote : ((fu.toInt = 0 ∧ fa1 = fa ∧ pl1 = pl) ∨ (fu.toInt ≠ 0 ∧ R_k_note fa pl 3 fr fa1 pl1))) (hnm : ∀ j : Nat, j < 3 → nm j = -1) (h : fx (T_k_readLine_56 12 n t pa cl ha ac us ra ch bo hu sa ak fl de pr mi hv u0 u1 u2 u3 u4 u5 u6 u7 u8 u9 u10 u11 u12 u13 u14 u15 u16 u17 u18 u19 u20 u21 u22 u23) 5 (0, fa1, pl1, tk, fr, to, va, nm)) (hr : R_j_bookLine_s0 (6) td lf lp at_ n s vr rc rd wa r rd' rc' bg' so' vr' wo' wa' lf' lp' td') : (u0 = 0 ∧ u1 = 1 ∧ r = 0 ∧ wa' = u2) ∨ (r = 1 ∧ wa' = wa ∧ ∃ (fa2 pl2 tk2 fr2 to2 va2 i2 : Int32) (nm2 : Nat → Int32) (N : Nat) (m : Int), (nu_.getD (Int32.toNatClampNeg 12) 0).toInt = m ∧ m ≤ i2.toInt ∧ fx (T_k_readLine_56 12 n t pa cl ha ac us ra ch bo hu sa ak fl de pr mi hv u0 u1 u2 u3 u4 u5 u6 u7 u8 u9 u10 u11 u12 u13 u14 u15 u16 u17 u18 u19 u20 u21 u22 u23) (N + 1) (i2, fa2, pl2, tk2, fr2, to2, va2, nm2) ∧ to.toInt ≤ to2.toInt ∧ to2.toInt ≤ n.toInt ∧ CT t n.toInt to2.toInt rc' bg' so' vr' wo' ∧ FR fa2 pl2 lf' lp' to2.toInt ∧ (R_k_keepLine 12 nm2 pa cl ha ac us ra ch bo hu sa ak fl de pr mi hv u7 u8 u9 u10 u11 u12 u13 u14 u15 u16 u17 u18 u19 u20 u21 u22 → RB td' u19 u20)) := by
  have zm1 : (-1 : Int32).toInt = -1 := by decide
  have z0 : (0 : Int32).toInt = 0 := by decide
  have z1 : (1 : Int32).toInt = 1 := by decide
  have z2 : (2 : Int32).toInt = 2 := by decide
  have z3 : (3 : Int32).toInt = 3 := by decide
  have z4 : (4 : Int32).toInt = 4 := by decide
  have z5 : (5 : Int32).toInt = 5 := by decide
  have z6 : (6 : Int32).toInt = 6 := by decide
  have z30 : (30 : Int32).toInt = 30 := by decide
  have z99 : (99 : Int32).toInt = 99 := by decide
  obtain ⟨-, lf0, lp0, hfull, rc0, bg0, so0, vr0, rst_⟩ := hr
  obtain ⟨wo0, htok, ra_, era, rb_, erb, rc_, erc_, rst_⟩ := rst_
  obtain ⟨rd0, erd, rN, rcN, bgN, soN, vrN, woN, rst_⟩ := rst_
  obtain ⟨waN, lfN, lpN, rdN, hdn, hr⟩ := rst_
  have hF0 := jf (idx := 0) (most := 30) (c := de) (q := to.toInt) z30 hD.1 hD.2.2.2 (isF_12 hfu) hF (Int.le_refl _) hfr.2.1 ebg hnote hfull
  have hC0 : CT t n.toInt to.toInt rc0 bg0 so0 vr0 wo0 := by rw [← erc]; exact tok_ct hby hag hn (by omega) htok
  have E0 : rd0 0 = 6 := by rw [← erd, ← erc_, ← erb, ← era]; exact (up_ne (by decide)).trans ((up_ne (by decide)).trans ((up_ne (by decide)).trans up_eq))
  have E1 : rd0 1 = -1 := by rw [← erd, ← erc_, ← erb]; exact (up_ne (by decide)).trans ((up_ne (by decide)).trans up_eq)
  have E2 : rd0 2 = -1 := by rw [← erd, ← erc_]; exact (up_ne (by decide)).trans up_eq
  have E3 : rd0 3 = -1 := by rw [← erd]; exact up_eq
  have bad : u0 = 0 → u1 = 1 → rN = 0 → waN = u2 → (u0 = 0 ∧ u1 = 1 ∧ r = 0 ∧ wa' = u2) := by
    intro g0 g1 g2 g3
    rcases hr with ⟨c, -⟩ | ⟨c, e0, e1, e2, e3, e4, e5, e6, e7, e8, e9, e10⟩
    · exact absurd (by rw [g2]; decide) c
    · exact ⟨g0, g1, e0, by rw [e6]; exact g3⟩
  have good : rN = 1 → waN = wa → ∀ (fa2 pl2 tk2 fr2 to2 va2 : Int32) (nm2 : Nat → Int32) (N : Nat), fx (T_k_readLine_56 12 n t pa cl ha ac us ra ch bo hu sa ak fl de pr mi hv u0 u1 u2 u3 u4 u5 u6 u7 u8 u9 u10 u11 u12 u13 u14 u15 u16 u17 u18 u19 u20 u21 u22 u23) (N + 1) (0, fa2, pl2, tk2, fr2, to2, va2, nm2) → to.toInt ≤ to2.toInt → to2.toInt ≤ n.toInt → CT t n.toInt to2.toInt rcN bgN soN vrN woN → FR fa2 pl2 lfN lpN to2.toInt → rdN 0 = 6 → rdN 1 = nm2 0 → rdN 2 = nm2 1 → rdN 3 = nm2 2 → (r = 1 ∧ wa' = wa ∧ ∃ (fa2 pl2 tk2 fr2 to2 va2 i2 : Int32) (nm2 : Nat → Int32) (N : Nat) (m : Int), (nu_.getD (Int32.toNatClampNeg 12) 0).toInt = m ∧ m ≤ i2.toInt ∧ fx (T_k_readLine_56 12 n t pa cl ha ac us ra ch bo hu sa ak fl de pr mi hv u0 u1 u2 u3 u4 u5 u6 u7 u8 u9 u10 u11 u12 u13 u14 u15 u16 u17 u18 u19 u20 u21 u22 u23) (N + 1) (i2, fa2, pl2, tk2, fr2, to2, va2, nm2) ∧ to.toInt ≤ to2.toInt ∧ to2.toInt ≤ n.toInt ∧ CT t n.toInt to2.toInt rc' bg' so' vr' wo' ∧ FR fa2 pl2 lf' lp' to2.toInt ∧ (R_k_keepLine 12 nm2 pa cl ha ac us ra ch bo hu sa ak fl de pr mi hv u7 u8 u9 u10 u11 u12 u13 u14 u15 u16 u17 u18 u19 u20 u21 u22 → RB td' u19 u20)) := by
    intro g0 g1 fa2 pl2 tk2 fr2 to2 va2 nm2 N h2 p1 p2 hC2 hF2 D0 D1 D2 D3
    rcases hr with ⟨c, tdn, hkp, e0, e1, e2, e3, e4, e5, e6, e7, e8, e9, e10⟩ | ⟨c, -⟩
    · rw [e1, e2, e3, e4, e5, e6, e7, e8, e9]
      refine ⟨e0, g1, fa2, pl2, tk2, fr2, to2, va2, 0, nm2, N, 0, by decide, by decide, h2, p1, p2, hC2, hF2, fun hk => ?_⟩
      obtain ⟨hx, -⟩ := kl_12 hk
      exact RB_deed hD D0 D1 D2 D3 hx hkp
    · rw [g0] at c; exact absurd c (by decide)
  rcases hdn with ⟨c, e0, e1, e2, e3, e4, e5, e6, e7, e8, e9⟩ | ⟨c, r1, rc1, bg1, so1, vr1, wo1, wa1, lf1, lp1, rd1, ht1, hdn⟩ | ⟨c, r1, rc1, bg1, so1, vr1, wo1, wa1, lf1, lp1, rd1, ht1, hdn⟩ | ⟨c, r1, rc1, bg1, so1, vr1, wo1, wa1, lf1, lp1, rd1, ht1, hdn⟩ | ⟨c, r1, rc1, bg1, so1, vr1, wo1, wa1, lf1, lp1, rd1, ht1, hdn⟩ | hdn
  · refine Or.inr (good e0 e6 fa1 pl1 tk fr to va nm 4 h (Int.le_refl _) hfr.2.2 ?_ ?_ ?_ ?_ ?_ ?_)
    · rw [e1, e2, e3, e4, e5]; exact hC0
    · rw [e7, e8]; exact hF0
    · rw [e9]; exact E0
    · rw [e9, E1]; exact (hnm 0 (by decide)).symm
    · rw [e9, E2]; exact (hnm 1 (by decide)).symm
    · rw [e9, E3]; exact (hnm 2 (by decide)).symm
  · omega
  · omega
  · omega
  · omega
  · obtain ⟨c, -⟩ := hdn
    omega
end LINES
