/-! what the two tell of a theatre -/
def tv (pa ac us ra ch bo : Int32) (cl ha hu sa ak fl : Nat → Int32) (x : Int) : Int32 := if x < 0 then -1 else if x < 10 then (if x = 0 then pa else if x = 1 then ac else if x = 2 then ra else if x = 3 then ch else if x = 4 then us else if x = 5 then bo else -1) else if x < 20 then (if x - 10 < pa.toInt then cl (x - 10).toNat else -1) else if x < 30 then (if x - 20 < pa.toInt then ha (x - 20).toNat else -1) else if x < 40 then (if x - 30 < ac.toInt then hu (x - 30).toNat else -1) else if x < 50 then (if x - 40 < ac.toInt then sa (x - 40).toNat else -1) else if x < 60 then (if x - 50 < us.toInt then ak (x - 50).toNat else -1) else if x < 70 then (if x - 60 < us.toInt then fl (x - 60).toNat else -1) else -1
theorem d10 {x : Int32} (h : 0 ≤ x.toInt) : (x / 10).toInt = x.toInt / 10 ∧ (x - x / 10 * 10).toInt = x.toInt - x.toInt / 10 * 10 := by
  have hb := mi_rng x
  have t10 : (10 : Int32).toInt = 10 := by decide
  have e : (x / 10).toInt = x.toInt / 10 := by
    rw [Int32.toInt_div, t10, Int.tdiv_eq_ediv_of_nonneg h]
    exact Int.bmod_eq_of_le (by omega) (by omega)
  have e2 : (x / 10 * 10).toInt = x.toInt / 10 * 10 := by rw [mi_mulc t10 (by rw [e]; omega) (by rw [e]; omega), e]
  exact ⟨e, by rw [mi_sub (by rw [e2]; omega) (by rw [e2]; omega), e2]⟩
theorem d10n {x : Int32} (h : x.toInt < 0) : (x / 10).toInt ≤ 0 := by
  have hb := mi_rng x
  have t10 : (10 : Int32).toInt = 10 := by decide
  have e : x.toInt = -(-x.toInt) := by omega
  rw [Int32.toInt_div, t10, e, Int.neg_tdiv, Int.tdiv_eq_ediv_of_nonneg (by omega : 0 ≤ -x.toInt)]
  rw [Int.bmod_eq_of_le (by omega) (by omega)]
  omega
theorem tv_n (pa ac us ra ch bo : Int32) (cl ha hu sa ak fl : Nat → Int32) {x : Int} (h : x < 0 ∨ 70 ≤ x ∨ (6 ≤ x ∧ x < 10)) : tv pa ac us ra ch bo cl ha hu sa ak fl x = -1 := by
  unfold tv
  rcases h with h | h | h
  · rw [if_pos h]
  · rw [if_neg (by omega), if_neg (by omega), if_neg (by omega), if_neg (by omega), if_neg (by omega), if_neg (by omega), if_neg (by omega), if_neg (by omega)]
  · rw [if_neg (by omega), if_pos (by omega), if_neg (by omega), if_neg (by omega), if_neg (by omega), if_neg (by omega), if_neg (by omega), if_neg (by omega)]
theorem tv_0 (pa ac us ra ch bo : Int32) (cl ha hu sa ak fl : Nat → Int32) : tv pa ac us ra ch bo cl ha hu sa ak fl 0 = pa := by
  unfold tv
  rw [if_neg (by omega), if_pos (by omega), if_pos rfl]
theorem tv_1 (pa ac us ra ch bo : Int32) (cl ha hu sa ak fl : Nat → Int32) : tv pa ac us ra ch bo cl ha hu sa ak fl 1 = ac := by
  unfold tv
  rw [if_neg (by omega), if_pos (by omega), if_neg (by omega), if_pos rfl]
theorem tv_2 (pa ac us ra ch bo : Int32) (cl ha hu sa ak fl : Nat → Int32) : tv pa ac us ra ch bo cl ha hu sa ak fl 2 = ra := by
  unfold tv
  rw [if_neg (by omega), if_pos (by omega), if_neg (by omega), if_neg (by omega), if_pos rfl]
theorem tv_3 (pa ac us ra ch bo : Int32) (cl ha hu sa ak fl : Nat → Int32) : tv pa ac us ra ch bo cl ha hu sa ak fl 3 = ch := by
  unfold tv
  rw [if_neg (by omega), if_pos (by omega), if_neg (by omega), if_neg (by omega), if_neg (by omega), if_pos rfl]
theorem tv_4 (pa ac us ra ch bo : Int32) (cl ha hu sa ak fl : Nat → Int32) : tv pa ac us ra ch bo cl ha hu sa ak fl 4 = us := by
  unfold tv
  rw [if_neg (by omega), if_pos (by omega), if_neg (by omega), if_neg (by omega), if_neg (by omega), if_neg (by omega), if_pos rfl]
theorem tv_5 (pa ac us ra ch bo : Int32) (cl ha hu sa ak fl : Nat → Int32) : tv pa ac us ra ch bo cl ha hu sa ak fl 5 = bo := by
  unfold tv
  rw [if_neg (by omega), if_pos (by omega), if_neg (by omega), if_neg (by omega), if_neg (by omega), if_neg (by omega), if_neg (by omega), if_pos rfl]
theorem tv_r1 (pa ac us ra ch bo : Int32) (cl ha hu sa ak fl : Nat → Int32) {x k : Int} (h : x = 10 + k) (h0 : 0 ≤ k ∧ k < 10) : (k < pa.toInt → tv pa ac us ra ch bo cl ha hu sa ak fl x = cl k.toNat) ∧ (pa.toInt ≤ k → tv pa ac us ra ch bo cl ha hu sa ak fl x = -1) := by
  have e : x - 10 = k := by omega
  refine ⟨fun c => ?_, fun c => ?_⟩
  · unfold tv
    rw [if_neg (by omega), if_neg (by omega), if_pos (by omega), e, if_pos c]
  · unfold tv
    rw [if_neg (by omega), if_neg (by omega), if_pos (by omega), e, if_neg (by omega)]
theorem tv_r2 (pa ac us ra ch bo : Int32) (cl ha hu sa ak fl : Nat → Int32) {x k : Int} (h : x = 20 + k) (h0 : 0 ≤ k ∧ k < 10) : (k < pa.toInt → tv pa ac us ra ch bo cl ha hu sa ak fl x = ha k.toNat) ∧ (pa.toInt ≤ k → tv pa ac us ra ch bo cl ha hu sa ak fl x = -1) := by
  have e : x - 20 = k := by omega
  refine ⟨fun c => ?_, fun c => ?_⟩
  · unfold tv
    rw [if_neg (by omega), if_neg (by omega), if_neg (by omega), if_pos (by omega), e, if_pos c]
  · unfold tv
    rw [if_neg (by omega), if_neg (by omega), if_neg (by omega), if_pos (by omega), e, if_neg (by omega)]
theorem tv_r3 (pa ac us ra ch bo : Int32) (cl ha hu sa ak fl : Nat → Int32) {x k : Int} (h : x = 30 + k) (h0 : 0 ≤ k ∧ k < 10) : (k < ac.toInt → tv pa ac us ra ch bo cl ha hu sa ak fl x = hu k.toNat) ∧ (ac.toInt ≤ k → tv pa ac us ra ch bo cl ha hu sa ak fl x = -1) := by
  have e : x - 30 = k := by omega
  refine ⟨fun c => ?_, fun c => ?_⟩
  · unfold tv
    rw [if_neg (by omega), if_neg (by omega), if_neg (by omega), if_neg (by omega), if_pos (by omega), e, if_pos c]
  · unfold tv
    rw [if_neg (by omega), if_neg (by omega), if_neg (by omega), if_neg (by omega), if_pos (by omega), e, if_neg (by omega)]
theorem tv_r4 (pa ac us ra ch bo : Int32) (cl ha hu sa ak fl : Nat → Int32) {x k : Int} (h : x = 40 + k) (h0 : 0 ≤ k ∧ k < 10) : (k < ac.toInt → tv pa ac us ra ch bo cl ha hu sa ak fl x = sa k.toNat) ∧ (ac.toInt ≤ k → tv pa ac us ra ch bo cl ha hu sa ak fl x = -1) := by
  have e : x - 40 = k := by omega
  refine ⟨fun c => ?_, fun c => ?_⟩
  · unfold tv
    rw [if_neg (by omega), if_neg (by omega), if_neg (by omega), if_neg (by omega), if_neg (by omega), if_pos (by omega), e, if_pos c]
  · unfold tv
    rw [if_neg (by omega), if_neg (by omega), if_neg (by omega), if_neg (by omega), if_neg (by omega), if_pos (by omega), e, if_neg (by omega)]
theorem tv_r5 (pa ac us ra ch bo : Int32) (cl ha hu sa ak fl : Nat → Int32) {x k : Int} (h : x = 50 + k) (h0 : 0 ≤ k ∧ k < 10) : (k < us.toInt → tv pa ac us ra ch bo cl ha hu sa ak fl x = ak k.toNat) ∧ (us.toInt ≤ k → tv pa ac us ra ch bo cl ha hu sa ak fl x = -1) := by
  have e : x - 50 = k := by omega
  refine ⟨fun c => ?_, fun c => ?_⟩
  · unfold tv
    rw [if_neg (by omega), if_neg (by omega), if_neg (by omega), if_neg (by omega), if_neg (by omega), if_neg (by omega), if_pos (by omega), e, if_pos c]
  · unfold tv
    rw [if_neg (by omega), if_neg (by omega), if_neg (by omega), if_neg (by omega), if_neg (by omega), if_neg (by omega), if_pos (by omega), e, if_neg (by omega)]
theorem tv_r6 (pa ac us ra ch bo : Int32) (cl ha hu sa ak fl : Nat → Int32) {x k : Int} (h : x = 60 + k) (h0 : 0 ≤ k ∧ k < 10) : (k < us.toInt → tv pa ac us ra ch bo cl ha hu sa ak fl x = fl k.toNat) ∧ (us.toInt ≤ k → tv pa ac us ra ch bo cl ha hu sa ak fl x = -1) := by
  have e : x - 60 = k := by omega
  refine ⟨fun c => ?_, fun c => ?_⟩
  · unfold tv
    rw [if_neg (by omega), if_neg (by omega), if_neg (by omega), if_neg (by omega), if_neg (by omega), if_neg (by omega), if_neg (by omega), if_pos (by omega), e, if_pos c]
  · unfold tv
    rw [if_neg (by omega), if_neg (by omega), if_neg (by omega), if_neg (by omega), if_neg (by omega), if_neg (by omega), if_neg (by omega), if_pos (by omega), e, if_neg (by omega)]
theorem tell_x {pa ac us ra ch bo : Int32} {cl ha hu sa ak fl : Nat → Int32} {x r : Int32} (h : R_k_tell x pa ac ra ch us bo cl ha hu sa ak fl r) : r = tv pa ac us ra ch bo cl ha hu sa ak fl x.toInt := by
  rcases h with ⟨c0, b0, e0, b1, e1, h⟩ | ⟨c0, e⟩
  · obtain ⟨g1, g0⟩ := d10 c0
    rw [← e1] at g1
    rw [← e0] at g0
    rcases h with ⟨c, e⟩ | ⟨c, b2, h2, e⟩ | ⟨c, h⟩ | ⟨c, h⟩ | ⟨c, h⟩ | ⟨c, h⟩ | ⟨c, h⟩ | ⟨c, h⟩
    · rw [e, tv_n _ _ _ _ _ _ _ _ _ _ _ _ (by omega)]
    · rw [e]
      rcases h2 with ⟨d, e⟩ | ⟨d, e⟩ | ⟨d, e⟩ | ⟨d, e⟩ | ⟨d, e⟩ | ⟨d, e⟩ | ⟨d, e⟩
      · rw [e, tv_n _ _ _ _ _ _ _ _ _ _ _ _ (by omega)]
      · rw [e, show x.toInt = 0 from by omega, tv_0]
      · rw [e, show x.toInt = 1 from by omega, tv_1]
      · rw [e, show x.toInt = 2 from by omega, tv_2]
      · rw [e, show x.toInt = 3 from by omega, tv_3]
      · rw [e, show x.toInt = 4 from by omega, tv_4]
      · rw [e, show x.toInt = 5 from by omega, tv_5]
    · have hk := tv_r1 pa ac us ra ch bo cl ha hu sa ak fl (x := x.toInt) (k := b0.toInt) (by omega) (by omega)
      rcases h with ⟨d, e⟩ | ⟨d, z, ez, e⟩
      · rw [e, hk.2 d]
      · rw [e, ez, hk.1 d, mi_cl]
    · have hk := tv_r2 pa ac us ra ch bo cl ha hu sa ak fl (x := x.toInt) (k := b0.toInt) (by omega) (by omega)
      rcases h with ⟨d, e⟩ | ⟨d, z, ez, e⟩
      · rw [e, hk.2 d]
      · rw [e, ez, hk.1 d, mi_cl]
    · have hk := tv_r3 pa ac us ra ch bo cl ha hu sa ak fl (x := x.toInt) (k := b0.toInt) (by omega) (by omega)
      rcases h with ⟨d, e⟩ | ⟨d, z, ez, e⟩
      · rw [e, hk.2 d]
      · rw [e, ez, hk.1 d, mi_cl]
    · have hk := tv_r4 pa ac us ra ch bo cl ha hu sa ak fl (x := x.toInt) (k := b0.toInt) (by omega) (by omega)
      rcases h with ⟨d, e⟩ | ⟨d, z, ez, e⟩
      · rw [e, hk.2 d]
      · rw [e, ez, hk.1 d, mi_cl]
    · have hk := tv_r5 pa ac us ra ch bo cl ha hu sa ak fl (x := x.toInt) (k := b0.toInt) (by omega) (by omega)
      rcases h with ⟨d, e⟩ | ⟨d, z, ez, e⟩
      · rw [e, hk.2 d]
      · rw [e, ez, hk.1 d, mi_cl]
    · have hk := tv_r6 pa ac us ra ch bo cl ha hu sa ak fl (x := x.toInt) (k := b0.toInt) (by omega) (by omega)
      rcases h with ⟨d, e⟩ | ⟨d, z, ez, e⟩
      · rw [e, hk.2 d]
      · rw [e, ez, hk.1 d, mi_cl]
  · rw [e, tv_n _ _ _ _ _ _ _ _ _ _ _ _ (Or.inl c0)]
theorem of_sp {X a r : Int32} {D : Nat → Int32} (hX : 0 ≤ X.toInt ∧ X.toInt ≤ 1) (ha : 0 ≤ a.toInt ∧ a.toInt ≤ 35) (h : R_j_of X a D r) : r = D (36 * X.toInt.toNat + a.toInt.toNat) := by
  obtain ⟨z1, e1, z2, e2, z3, e3, e⟩ := h
  have f1 : z1.toInt = 36 * X.toInt := by rw [e1]; exact mi_cmul (by decide) (by omega) (by omega)
  have f2 : z2.toInt = 36 * X.toInt + a.toInt := by rw [e2, mi_add (by omega) (by omega), f1]
  have i2 : Int32.toNatClampNeg z2 = 36 * X.toInt.toNat + a.toInt.toNat := by rw [mi_cl, f2]; omega
  rw [e, e3, i2]
theorem pl_sp {p a r : Int32} (h : R_j_isPalm p a r) : (r = 1 ∧ 0 ≤ a.toInt ∧ a.toInt < p.toInt) ∨ (r = 0 ∧ (a.toInt < 0 ∨ p.toInt ≤ a.toInt)) := by
  obtain ⟨z1, -, q, hq, h⟩ := h
  have hq := in_sp hq
  rcases h with ⟨c, e⟩ | ⟨c, e⟩
  · rcases hq with ⟨-, p⟩ | ⟨p, -⟩
    · exact Or.inl ⟨e, by omega⟩
    · rw [c] at p; exact absurd p (by decide)
  · rcases hq with ⟨p, -⟩ | ⟨-, p⟩
    · rw [c] at p; exact absurd p (by decide)
    · exact Or.inr ⟨e, by omega⟩
theorem ac_sp {p a r : Int32} (h : R_j_isActor p a r) : (r = 1 ∧ 0 ≤ a.toInt ∧ a.toInt < p.toInt) ∨ (r = 0 ∧ (a.toInt < 0 ∨ p.toInt ≤ a.toInt)) := pl_sp h
theorem row_y {X b0 b1 r b3 b4 b5 b6 c s : Int32} {C S K : Int} {D : Nat → Int32} (hX : 0 ≤ X.toInt ∧ X.toInt ≤ 1) (hb : 0 ≤ b0.toInt ∧ b0.toInt < 6) (hc : c.toInt = C) (hs : s.toInt = S) (hC : C = 6 ∨ C = 16 ∨ C = 28) (hk : b1.toInt = S + K) (hS : 0 ≤ S ∧ S ≤ 5) (hK : K = 0 ∨ K = 1) (hl : C + 2 * b0.toInt + 1 ≤ 35) (e3 : b3 = (2 : Int32) * b0) (e4 : b4 = c + b3) (e5 : b5 = b4 + b1) (e6 : b6 = b5 - s) (h : R_j_of X b6 D r) : r = D (36 * X.toInt.toNat + (C.toNat + 2 * b0.toInt.toNat + K.toNat)) := by
  have f3 : b3.toInt = 2 * b0.toInt := by rw [e3]; exact mi_cmul (by decide) (by omega) (by omega)
  have f4 : b4.toInt = C + 2 * b0.toInt := by rw [e4, mi_add (by omega) (by omega), hc, f3]
  have f5 : b5.toInt = C + 2 * b0.toInt + (S + K) := by rw [e5, mi_add (by omega) (by omega), f4, hk]
  have f6 : b6.toInt = C + 2 * b0.toInt + K := by rw [e6, mi_sub (by omega) (by omega), f5, hs]; omega
  rw [of_sp hX (by omega) h, f6]
  congr 1
  omega
theorem tell_y {pa ac us ra ch bo : Int32} {cl ha hu sa ak fl : Nat → Int32} {D : Nat → Int32} {X x r q8 y5 u1 u2 u3 u4 : Int32} (hX : 0 ≤ X.toInt ∧ X.toInt ≤ 1) (hR : RT (fun j => D (36 * X.toInt.toNat + j)) pa ac us ra ch bo cl ha hu sa ak fl) (h8 : R_j_in ((x.toInt) : Int) ((0) : Int) ((5) : Int) q8) (h : ((q8 = 1) ∧ (∃ (r12 : Int32), (R_j_of X x D r12) ∧ (r = r12 ∧ u1 = X ∧ u2 = pa ∧ u3 = ac ∧ u4 = y5))) ∨ (R_y_theatre_s0 q8 x X pa ac y5 D r u1 u2 u3 u4)) : r = tv pa ac us ra ch bo cl ha hu sa ak fl x.toInt := by
  obtain ⟨c0, c1, c2, c3, c4, c5, A, B, C, rA, rB, rC⟩ := hR
  have c0 : D (36 * X.toInt.toNat + 0) = pa := c0
  have c1 : D (36 * X.toInt.toNat + 1) = ac := c1
  have c2 : D (36 * X.toInt.toNat + 2) = ra := c2
  have c3 : D (36 * X.toInt.toNat + 3) = ch := c3
  have c4 : D (36 * X.toInt.toNat + 4) = us := c4
  have c5 : D (36 * X.toInt.toNat + 5) = bo := c5
  have h8 := in_sp h8
  rcases h with ⟨q1, r12, h12, e, -⟩ | ⟨q0, b0, e0, b1, e1, h⟩
  · rcases h8 with ⟨-, p⟩ | ⟨p, -⟩
    · have h12 := of_sp hX (by omega) h12
      rcases (by omega : x.toInt = 0 ∨ x.toInt = 1 ∨ x.toInt = 2 ∨ x.toInt = 3 ∨ x.toInt = 4 ∨ x.toInt = 5) with g | g | g | g | g | g
      · rw [g] at h12 ⊢; rw [e, tv_0]; exact h12.trans c0
      · rw [g] at h12 ⊢; rw [e, tv_1]; exact h12.trans c1
      · rw [g] at h12 ⊢; rw [e, tv_2]; exact h12.trans c2
      · rw [g] at h12 ⊢; rw [e, tv_3]; exact h12.trans c3
      · rw [g] at h12 ⊢; rw [e, tv_4]; exact h12.trans c4
      · rw [g] at h12 ⊢; rw [e, tv_5]; exact h12.trans c5
    · rw [q1] at p; exact absurd p (by decide)
  · rcases h8 with ⟨p, -⟩ | ⟨-, p⟩
    · rw [q0] at p; exact absurd p (by decide)
    · by_cases x0 : 0 ≤ x.toInt
      · obtain ⟨g1, g0⟩ := d10 x0
        rw [← e1] at g1
        rw [← e0] at g0
        rcases h with ⟨c, e, -⟩ | ⟨c, q, hq, h⟩ | ⟨c, q, hq, h⟩ | ⟨c, q, hq, h⟩ | ⟨c, q, hq, h⟩ | ⟨c, us2, hw, z27, -, q, hq, h⟩ | ⟨c, us2, hw, z27, -, q, hq, h⟩
        · rw [e, tv_n _ _ _ _ _ _ _ _ _ _ _ _ (by omega)]
        · have hk := tv_r1 pa ac us ra ch bo cl ha hu sa ak fl (x := x.toInt) (k := b0.toInt) (by omega) (by omega)
          have hq := pl_sp hq
          rcases h with ⟨q1, b3, e3, b4, e4, b5, e5, b6, e6, b7, h7, e, -⟩ | ⟨q2, e, -⟩
          · rcases hq with ⟨-, p2⟩ | ⟨p2, -⟩
            · have h7 := row_y (C := 6) (S := 1) (K := 0) hX (by omega) (by decide) (by decide) (by omega) (by omega) (by omega) (by omega) (by omega) e3 e4 e5 e6 h7
              have hA := (A b0.toInt.toNat (by omega)).1
              have hA : D (36 * X.toInt.toNat + (6 + 2 * b0.toInt.toNat)) = cl b0.toInt.toNat := hA
              rw [e, h7, hk.1 (by omega), ← hA]
              congr 1 <;> omega
            · rw [q1] at p2; exact absurd p2 (by decide)
          · rcases hq with ⟨p2, -⟩ | ⟨-, p2⟩
            · rw [q2] at p2; exact absurd p2 (by decide)
            · rw [e, hk.2 (by omega)]
        · have hk := tv_r2 pa ac us ra ch bo cl ha hu sa ak fl (x := x.toInt) (k := b0.toInt) (by omega) (by omega)
          have hq := pl_sp hq
          rcases h with ⟨q1, b3, e3, b4, e4, b5, e5, b6, e6, b7, h7, e, -⟩ | ⟨q2, e, -⟩
          · rcases hq with ⟨-, p2⟩ | ⟨p2, -⟩
            · have h7 := row_y (C := 6) (S := 1) (K := 1) hX (by omega) (by decide) (by decide) (by omega) (by omega) (by omega) (by omega) (by omega) e3 e4 e5 e6 h7
              have hA := (A b0.toInt.toNat (by omega)).2
              have hA : D (36 * X.toInt.toNat + (7 + 2 * b0.toInt.toNat)) = ha b0.toInt.toNat := hA
              rw [e, h7, hk.1 (by omega), ← hA]
              congr 1 <;> omega
            · rw [q1] at p2; exact absurd p2 (by decide)
          · rcases hq with ⟨p2, -⟩ | ⟨-, p2⟩
            · rw [q2] at p2; exact absurd p2 (by decide)
            · rw [e, hk.2 (by omega)]
        · have hk := tv_r3 pa ac us ra ch bo cl ha hu sa ak fl (x := x.toInt) (k := b0.toInt) (by omega) (by omega)
          have hq := ac_sp hq
          rcases h with ⟨q1, b3, e3, b4, e4, b5, e5, b6, e6, b7, h7, e, -⟩ | ⟨q2, e, -⟩
          · rcases hq with ⟨-, p2⟩ | ⟨p2, -⟩
            · have h7 := row_y (C := 16) (S := 3) (K := 0) hX (by omega) (by decide) (by decide) (by omega) (by omega) (by omega) (by omega) (by omega) e3 e4 e5 e6 h7
              have hA := (B b0.toInt.toNat (by omega)).1
              have hA : D (36 * X.toInt.toNat + (16 + 2 * b0.toInt.toNat)) = hu b0.toInt.toNat := hA
              rw [e, h7, hk.1 (by omega), ← hA]
              congr 1 <;> omega
            · rw [q1] at p2; exact absurd p2 (by decide)
          · rcases hq with ⟨p2, -⟩ | ⟨-, p2⟩
            · rw [q2] at p2; exact absurd p2 (by decide)
            · rw [e, hk.2 (by omega)]
        · have hk := tv_r4 pa ac us ra ch bo cl ha hu sa ak fl (x := x.toInt) (k := b0.toInt) (by omega) (by omega)
          have hq := ac_sp hq
          rcases h with ⟨q1, b3, e3, b4, e4, b5, e5, b6, e6, b7, h7, e, -⟩ | ⟨q2, e, -⟩
          · rcases hq with ⟨-, p2⟩ | ⟨p2, -⟩
            · have h7 := row_y (C := 16) (S := 3) (K := 1) hX (by omega) (by decide) (by decide) (by omega) (by omega) (by omega) (by omega) (by omega) e3 e4 e5 e6 h7
              have hA := (B b0.toInt.toNat (by omega)).2
              have hA : D (36 * X.toInt.toNat + (17 + 2 * b0.toInt.toNat)) = sa b0.toInt.toNat := hA
              rw [e, h7, hk.1 (by omega), ← hA]
              congr 1 <;> omega
            · rw [q1] at p2; exact absurd p2 (by decide)
          · rcases hq with ⟨p2, -⟩ | ⟨-, p2⟩
            · rw [q2] at p2; exact absurd p2 (by decide)
            · rw [e, hk.2 (by omega)]
        · have hk := tv_r5 pa ac us ra ch bo cl ha hu sa ak fl (x := x.toInt) (k := b0.toInt) (by omega) (by omega)
          have hw := of_sp hX (by decide) hw
          have hw : us2 = us := hw.trans c4
          subst hw
          have hq := in_sp hq
          rcases h with ⟨q1, b3, e3, b4, e4, b5, e5, b6, e6, b7, h7, e, -⟩ | ⟨q2, e, -⟩
          · rcases hq with ⟨-, p2⟩ | ⟨p2, -⟩
            · have h7 := row_y (C := 28) (S := 5) (K := 0) hX (by omega) (by decide) (by decide) (by omega) (by omega) (by omega) (by omega) (by omega) e3 e4 e5 e6 h7
              have hA := (C b0.toInt.toNat (by omega)).1
              have hA : D (36 * X.toInt.toNat + (28 + 2 * b0.toInt.toNat)) = ak b0.toInt.toNat := hA
              rw [e, h7, hk.1 (by omega), ← hA]
              congr 1 <;> omega
            · rw [q1] at p2; exact absurd p2 (by decide)
          · rcases hq with ⟨p2, -⟩ | ⟨-, p2⟩
            · rw [q2] at p2; exact absurd p2 (by decide)
            · rw [e, hk.2 (by omega)]
        · have hk := tv_r6 pa ac us ra ch bo cl ha hu sa ak fl (x := x.toInt) (k := b0.toInt) (by omega) (by omega)
          have hw := of_sp hX (by decide) hw
          have hw : us2 = us := hw.trans c4
          subst hw
          have hq := in_sp hq
          rcases h with ⟨q1, b3, e3, b4, e4, b5, e5, b6, e6, b7, h7, e, -⟩ | ⟨q2, e, -⟩
          · rcases hq with ⟨-, p2⟩ | ⟨p2, -⟩
            · have h7 := row_y (C := 28) (S := 5) (K := 1) hX (by omega) (by decide) (by decide) (by omega) (by omega) (by omega) (by omega) (by omega) e3 e4 e5 e6 h7
              have hA := (C b0.toInt.toNat (by omega)).2
              have hA : D (36 * X.toInt.toNat + (29 + 2 * b0.toInt.toNat)) = fl b0.toInt.toNat := hA
              rw [e, h7, hk.1 (by omega), ← hA]
              congr 1 <;> omega
            · rw [q1] at p2; exact absurd p2 (by decide)
          · rcases hq with ⟨p2, -⟩ | ⟨-, p2⟩
            · rw [q2] at p2; exact absurd p2 (by decide)
            · rw [e, hk.2 (by omega)]
      · have g1 := d10n (x := x) (by omega)
        rw [← e1] at g1
        rcases h with ⟨c, e, -⟩ | ⟨c, -⟩ | ⟨c, -⟩ | ⟨c, -⟩ | ⟨c, -⟩ | ⟨c, -⟩ | ⟨c, -⟩
        · rw [e, tv_n _ _ _ _ _ _ _ _ _ _ _ _ (by omega)]
        · exact absurd c (by omega)
        · exact absurd c (by omega)
        · exact absurd c (by omega)
        · exact absurd c (by omega)
        · exact absurd c (by omega)
        · exact absurd c (by omega)
theorem theatre_sim {TN : Nat → Int32} {TF M : Nat → Nat → Int32} {x0 x1 r r' : Int32} (h : TLk 0 TN TF M) (hr : 0 ≤ (TN 3).toInt ∧ (TN 3).toInt ≤ 2) (hx : S_x_theatre TN TF x0 x1 r) (hy : S_y_theatre M x0 x1 r') : r = r' := by
  have h6 : M 4 0 = TN 3 := h.2.2.2.1
  have hD0 := h.2.2.2.2.2.2.2.1
  have hD1 := h.2.2.2.2.2.2.2.2.1
  obtain ⟨jt, jp, ja, jr, u1, u2, u3, u4, q, n1, n2, n3, n4, ⟨q1, hi, hd⟩, hy⟩ := hy
  have hi := is_sp hi
  have k0 : Int32.toNatClampNeg (0 : Int32) = 0 := by decide
  rw [k0, h6] at hi
  have no : (x0.toInt < 0 ∨ (TN 3).toInt ≤ x0.toInt) → r' = -1 := by
    intro c
    rcases hd with ⟨c1, -⟩ | ⟨c1, e1, -⟩
    · rcases hi with ⟨-, p⟩ | ⟨p, -⟩
      · exact absurd p (by omega)
      · rw [c1] at p; exact absurd p (by decide)
    · rcases hy with ⟨c2, -⟩ | ⟨-, e2, -⟩
      · rw [e1] at c2; exact absurd c2 (by decide)
      · exact e2
  have yes : ∀ {pa ac us ra ch bo : Int32} {cl ha hu sa ak fl : Nat → Int32}, (0 ≤ x0.toInt ∧ x0.toInt < (TN 3).toInt) → RT (fun j => M 5 (36 * x0.toInt.toNat + j)) pa ac us ra ch bo cl ha hu sa ak fl → r' = tv pa ac us ra ch bo cl ha hu sa ak fl x1.toInt := by
    intro pa ac us ra ch bo cl ha hu sa ak fl c hR
    rcases hd with ⟨c1, r5, h5, r8, h8, r11, h11, e1, e2, e3, e4, e5⟩ | ⟨c1, -⟩
    · have hX : 0 ≤ x0.toInt ∧ x0.toInt ≤ 1 := by omega
      have g5 : r5 = pa := (of_sp hX (by decide) h5).trans hR.1
      have g8 : r8 = ac := (of_sp hX (by decide) h8).trans hR.2.1
      subst g5 g8 e2 e3 e4
      rcases hy with ⟨-, q8, hq8, hy⟩ | ⟨c2, -⟩
      · exact tell_y hX hR hq8 hy
      · rw [e1] at c2; exact absurd c2 (by decide)
    · rcases hi with ⟨p, -⟩ | ⟨-, p⟩
      · rw [c1] at p; exact absurd p (by decide)
      · exact absurd c (by omega)
  clear hy hd
  rcases hx with ⟨c, e⟩ | ⟨c, r4, h4, e⟩ | ⟨c, r4, h4, e⟩
  · have c := ata_0 c
    rw [e, no c]
  · have c := ata_1 c
    have h4 := tell_x h4
    rw [e, h4]
    refine (yes (by omega) (RT_c (fun j _ => ?_) hD1)).symm
    show M 5 (36 * x0.toInt.toNat + j) = M 5 (72 * 0 + 36 + j)
    rw [show 36 * x0.toInt.toNat + j = 72 * 0 + 36 + j from by omega]
  · have c := ata_2 c
    have h4 := tell_x h4
    rw [e, h4]
    refine (yes (by omega) (RT_c (fun j _ => ?_) hD0)).symm
    show M 5 (36 * x0.toInt.toNat + j) = M 5 (72 * 0 + j)
    rw [show 36 * x0.toInt.toNat + j = 72 * 0 + j from by omega]
