/-! evenings: what all need, what is left, their common part -/
def ndv (hu : Nat → Int32) (en : Int32) (sv st : Nat → Int32) (a : Nat) : Int32 := if (st a).toInt = -1 then (if 0 < (prc hu en 0 a - sv a).toInt then prc hu en 0 a - sv a else 0) else 0
theorem ndv_rng {hu : Nat → Int32} {en : Int32} {sv st : Nat → Int32} {a : Nat} (hh : 0 ≤ (hu a).toInt ∧ (hu a).toInt ≤ 40) (he : 0 ≤ en.toInt ∧ en.toInt ≤ 30) (hs : 0 ≤ (sv a).toInt) : 0 ≤ (ndv hu en sv st a).toInt ∧ (ndv hu en sv st a).toInt ≤ 160 := by
  have p := prc_rng (a := a) hh he
  have r := mi_rng (sv a)
  have g : (prc hu en 0 a - sv a).toInt = (prc hu en 0 a).toInt - (sv a).toInt := mi_sub (by omega) (by omega)
  have z : (0 : Int32).toInt = 0 := by decide
  unfold ndv
  split
  · split
    · omega
    · omega
  · omega
theorem ndv_c {hu : Nat → Int32} {en : Int32} {sv sv2 st : Nat → Int32} {a : Nat} (e : sv2 a = sv a) : ndv hu en sv2 st a = ndv hu en sv st a := by
  unfold ndv
  rw [e]
theorem need_x {a ac en u : Int32} {st hu sv : Nat → Int32} (ha : 0 ≤ a.toInt ∧ a.toInt < ac.toInt) (h : R_k_need a ac st hu en sv u) : u = ndv hu en sv st a.toInt.toNat := by
  obtain ⟨q, hq, h⟩ := h
  have hq := lv_sp hq
  have z : (0 : Int32).toInt = 0 := by decide
  unfold ndv
  rcases h with ⟨q1, r, hr, z7, e7, z8, e8, z9, e9, e⟩ | ⟨q0, e⟩
  · have hr := pr_sp hr
    rcases hq with ⟨hv, -⟩ | ⟨-, q0⟩
    · rw [if_pos hv.2, e, e9, e8, hr, e7, mi_cl]
      by_cases c : 0 < (prc hu en 0 a.toInt.toNat - sv a.toInt.toNat).toInt
      · rw [if_pos c, if_pos (by rw [mi_lt, z]; exact c)]
      · rw [if_neg c, if_neg (by rw [mi_lt, z]; exact c)]
    · rw [q1] at q0; exact absurd q0 (by decide)
  · rcases hq with ⟨-, q1⟩ | ⟨nv, -⟩
    · rw [q0] at q1; exact absurd q1 (by decide)
    · rw [if_neg (fun y => nv ⟨ha, y⟩), e]
theorem need_y {a ac en L X u : Int32} {D st hu sv : Nat → Int32} (hX : 0 ≤ X.toInt ∧ X.toInt ≤ 1) (hac : 0 ≤ ac.toInt ∧ ac.toInt ≤ 6) (hH : ∀ i : Nat, (i : Int) < ac.toInt → D (36 * X.toInt.toNat + (16 + 2 * i)) = hu i) (hL : Lvs ac L st) (ha : 0 ≤ a.toInt ∧ a.toInt < ac.toInt) (h : R_j_needOf L a X D en sv u) : u = ndv hu en sv st a.toInt.toNat := by
  obtain ⟨q, hq, h⟩ := h
  have hq := jlv hac hL ha hq
  have z : (0 : Int32).toInt = 0 := by decide
  unfold ndv
  rcases h with ⟨q0, e⟩ | ⟨q1, r, hr, z7, e7, z8, e8, g, hg, e⟩
  · rcases hq with ⟨-, q1⟩ | ⟨nv, -⟩
    · rw [q1] at q0; exact absurd q0 (by decide)
    · rw [if_neg nv, e]
  · have hr := ea_sp hX hac.2 hH ha hr
    have hg := gr2_sp hg
    rw [z] at hg
    rcases hq with ⟨hv, -⟩ | ⟨-, q0⟩
    · rw [if_pos hv, e]
      have e8 : z8 = prc hu en 0 a.toInt.toNat - sv a.toInt.toNat := by rw [e8, hr, e7, mi_cl]
      by_cases c : 0 < (prc hu en 0 a.toInt.toNat - sv a.toInt.toNat).toInt
      · rw [if_pos c, hg.2 (by rw [e8]; exact c), e8]
      · rw [if_neg c, hg.1 (by rw [e8]; exact Int.not_lt.mp c)]
    · rw [q0] at q1; exact absurd (by decide) q1
theorem needs_x {ac en u : Int32} {st hu sv : Nat → Int32} (hac : 0 ≤ ac.toInt ∧ ac.toInt ≤ 6) (h : R_k_allNeeds ac st hu en sv u) : u = rs (ndv hu en sv st) ac.toInt.toNat := by
  obtain ⟨s, hs, e⟩ := loopP (n := ac) (P := fun k s => s = rs (ndv hu en sv st) k) (Q := fun s => u = s) (by omega) (fun K i s hi hP hT => by
    dsimp only [T_k_allNeeds_4] at hT
    rcases hT with ⟨c, e⟩ | ⟨c, b0, hb, b1, e1, b2, e2, hk⟩
    · exact Or.inl ⟨c, e⟩
    · have hb := need_x ⟨hi.1, c⟩ hb
      refine Or.inr ⟨c, b2, b1, e2, ?_, hk⟩
      show b1 = rs _ _ + _
      rw [e1, hb, hP]) rfl h
  rw [e, hs]
theorem left_x {pa u : Int32} {lf : Nat → Int32} (hpa : 0 ≤ pa.toInt ∧ pa.toInt ≤ 5) (h : R_k_allLeft pa lf u) : u = rs lf pa.toInt.toNat := by
  obtain ⟨s, hs, e⟩ := loopP (n := pa) (P := fun k s => s = rs lf k) (Q := fun s => u = s) (by omega) (fun K i s hi hP hT => by
    dsimp only [T_k_allLeft_4] at hT
    rcases hT with ⟨c, e⟩ | ⟨c, b0, e0, b1, e1, b2, e2, hk⟩
    · exact Or.inl ⟨c, e⟩
    · refine Or.inr ⟨c, b2, b1, e2, ?_, hk⟩
      show b1 = rs _ _ + _
      rw [e1, e0, mi_cl, hP]) rfl h
  rw [e, hs]
theorem rs_rng {f : Nat → Int32} {m : Int} (hm : 0 ≤ m ∧ m ≤ 1000000) : ∀ n : Nat, n ≤ 6 → (∀ a : Nat, a < n → 0 ≤ (f a).toInt ∧ (f a).toInt ≤ m) → 0 ≤ (rs f n).toInt ∧ (rs f n).toInt ≤ 6 * m ∧ (n ≤ 5 → (rs f n).toInt ≤ 5 * m) ∧ (n ≤ 4 → (rs f n).toInt ≤ 4 * m) ∧ (n ≤ 3 → (rs f n).toInt ≤ 3 * m) ∧ (n ≤ 2 → (rs f n).toInt ≤ 2 * m) ∧ (n ≤ 1 → (rs f n).toInt ≤ m) ∧ (n ≤ 0 → (rs f n).toInt ≤ 0) := by
  intro n
  induction n with
  | zero =>
    intro _ _
    have z : (rs f 0).toInt = 0 := by show (0 : Int32).toInt = 0; decide
    rw [z]
    refine ⟨by omega, by omega, fun _ => by omega, fun _ => by omega, fun _ => by omega, fun _ => by omega, fun _ => by omega, fun _ => by omega⟩
  | succ n ih =>
    intro h6 hf
    obtain ⟨i0, i6, i5, i4, i3, i2, i1, iz⟩ := ih (by omega) (fun a ha => hf a (by omega))
    have d := hf n (by omega)
    have i5' : (rs f n).toInt ≤ 5 * m := i5 (by omega)
    have e : (rs f (n + 1)).toInt = (rs f n).toInt + (f n).toInt := by
      show (rs f n + f n).toInt = _
      exact mi_add (by omega) (by omega)
    rw [e]
    refine ⟨by omega, by omega, fun h => ?_, fun h => ?_, fun h => ?_, fun h => ?_, fun h => ?_, fun h => by omega⟩
    · have := i4 (by omega); omega
    · have := i3 (by omega); omega
    · have := i2 (by omega); omega
    · have := i1 (by omega); omega
    · have := iz (by omega); omega
def hlv : Nat → Int
  | 0 => 1099511627776
  | k + 1 => hlv k / 2
set_option maxRecDepth 100000 in
theorem hlv_100 : hlv 100 = 0 := by decide +kernel
theorem hlv_nn : ∀ k : Nat, 0 ≤ hlv k := by
  intro k
  induction k with
  | zero => decide
  | succ k ih => show 0 ≤ hlv k / 2; omega
theorem rem_sp {x y z : Int32} (hx : 0 ≤ x.toInt) (hy : 0 < y.toInt) (e : z = x - x / y * y) : z.toInt = x.toInt % y.toInt := by
  have ny : y ≠ -1 := fun q => by rw [q] at hy; exact absurd hy (by decide)
  have d : (x / y).toInt = x.toInt / y.toInt := by rw [Int32.toInt_div_of_ne_right _ _ ny, Int.tdiv_eq_ediv_of_nonneg hx]
  have rx := mi_rng x
  have m0 := Int.emod_nonneg x.toInt (show y.toInt ≠ 0 by omega)
  have m1 := Int.emod_lt_of_pos x.toInt hy
  have md := Int.emod_add_mul_ediv x.toInt y.toInt
  have q0 : 0 ≤ x.toInt / y.toInt := Int.ediv_nonneg hx (by omega)
  have c : x.toInt / y.toInt * y.toInt = y.toInt * (x.toInt / y.toInt) := Int.mul_comm _ _
  have p0 : 0 ≤ y.toInt * (x.toInt / y.toInt) := Int.mul_nonneg (by omega) q0
  have g : (x / y * y).toInt = y.toInt * (x.toInt / y.toInt) := by rw [mi_mul (by rw [d, c]; omega) (by rw [d, c]; omega), d, c]
  rw [e, mi_sub (by rw [g]; omega) (by rw [g]; omega), g]
  omega
theorem common_sim {u w : Int32} : ∀ (N M : Nat) (i lo hi : Int32), fx (T_k_commonPart_7 u) N (i, lo, hi) → fx (T_j_common_4 w) M (lo, hi) → (0 ≤ i.toInt ∧ i.toInt ≤ 100) → (0 ≤ lo.toInt ∧ lo.toInt ≤ 32768) → (0 ≤ hi.toInt ∧ hi.toInt ≤ 32768) → ((i.toInt = 0 ∧ 0 < lo.toInt) ∨ (lo.toInt < hi.toInt ∧ hi.toInt * lo.toInt ≤ hlv i.toInt.toNat)) → u = w ∧ 0 < u.toInt := by
  intro N
  induction N with
  | zero => intro M i lo hi h; exact h.elim
  | succ N ih =>
    intro M i lo hi h hj hi0 hlo hhi hI
    cases M with
    | zero => exact hj.elim
    | succ M =>
      have z100 : 100 ≤ i.toInt → lo.toInt = 0 ∧ 0 < hi.toInt := fun c => by
        clear h hj
        rcases hI with ⟨q, -⟩ | ⟨q, p⟩
        · omega
        · rw [show i.toInt.toNat = 100 from by omega, hlv_100] at p
          refine ⟨?_, by omega⟩
          by_cases l0 : lo.toInt = 0
          · exact l0
          · exact absurd (Int.mul_pos (show 0 < hi.toInt by omega) (show 0 < lo.toInt by omega)) (by omega)
      have hpos : lo.toInt = 0 → 0 < hi.toInt := fun l0 => by
        clear h hj
        rcases hI with ⟨-, q⟩ | ⟨q, -⟩
        · omega
        · omega
      have stp : i.toInt < 100 → lo.toInt ≠ 0 → ∀ z r : Int32, z = i + 1 → r = hi - hi / lo * lo → (0 ≤ z.toInt ∧ z.toInt ≤ 100) ∧ (0 ≤ r.toInt ∧ r.toInt ≤ 32768) ∧ (r.toInt < lo.toInt ∧ lo.toInt * r.toInt ≤ hlv z.toInt.toNat) := fun c ln z r ez er => by
        clear h hj
        have gz : z.toInt = i.toInt + 1 := by rw [ez]; exact mi_addc (by decide) (by omega) (by omega)
        have gr := rem_sp hhi.1 (show 0 < lo.toInt by omega) er
        have m0 := Int.emod_nonneg hi.toInt (show lo.toInt ≠ 0 by omega)
        have m1 := Int.emod_lt_of_pos hi.toInt (show 0 < lo.toInt by omega)
        have md := Int.emod_add_mul_ediv hi.toInt lo.toInt
        refine ⟨by omega, by omega, by omega, ?_⟩
        rw [show z.toInt.toNat = i.toInt.toNat + 1 from by omega]
        show lo.toInt * r.toInt ≤ hlv i.toInt.toNat / 2
        rcases hI with ⟨q, -⟩ | ⟨q, p⟩
        · have b1 : lo.toInt * r.toInt ≤ 32768 * r.toInt := Int.mul_le_mul_of_nonneg_right hlo.2 (by omega)
          rw [show i.toInt.toNat = 0 from by omega]
          show _ ≤ (1099511627776 : Int) / 2
          omega
        · have q1 : 1 ≤ hi.toInt / lo.toInt := Int.le_ediv_of_mul_le (by omega) (by omega)
          have q2 : lo.toInt * 1 ≤ lo.toInt * (hi.toInt / lo.toInt) := Int.mul_le_mul_of_nonneg_left q1 (by omega)
          have q3 : 2 * r.toInt ≤ hi.toInt := by omega
          have q4 : 2 * r.toInt * lo.toInt ≤ hi.toInt * lo.toInt := Int.mul_le_mul_of_nonneg_right q3 (by omega)
          have q5 : 2 * r.toInt * lo.toInt = 2 * (lo.toInt * r.toInt) := by rw [Int.mul_assoc, Int.mul_comm r.toInt]
          omega
      replace h := fx_o h
      replace hj := fx_o hj
      dsimp only [T_k_commonPart_7] at h
      dsimp only [T_j_common_4] at hj
      rcases h with ⟨c, e⟩ | ⟨c, ⟨l0, e⟩ | ⟨ln, r, er, z, ez, hk⟩⟩
      · rcases hj with ⟨-, e2⟩ | ⟨ln, -⟩
        · exact ⟨by rw [e, e2], by rw [e]; exact (z100 c).2⟩
        · exact absurd (z100 c).1 ln
      · rcases hj with ⟨-, e2⟩ | ⟨ln, -⟩
        · exact ⟨by rw [e, e2], by rw [e]; exact hpos l0⟩
        · exact absurd l0 ln
      · rcases hj with ⟨l0, -⟩ | ⟨-, r2, er2, hk2⟩
        · exact absurd l0 ln
        · have err : r2 = r := by rw [er2, er]
          rw [err] at hk2
          have g := stp c ln z r ez er
          exact ih M z r lo hk hk2 g.1 g.2.1 hlo (Or.inr g.2.2)
theorem fair_core {a pa ac ra d : Int32} {D cl ha hu : Nat → Int32} {u1 u2 u3 u4 u5 u6 : Int32} {u7 u8 u9 u10 u11 u12 : Nat → Int32} {w1 w2 w3 w4 w5 w6 w7 w8 w9 w10 w11 : Int32} {w12 w13 w14 w15 w16 w17 : Nat → Int32} {v1 v2 v3 v4 v5 v6 : Int32} {v7 v8 v9 v10 v11 v12 : Nat → Int32} {c1 c2 c3 c4 c5 c6 c7 c8 c9 c10 c11 : Int32} {c12 c13 c14 c15 c16 c17 : Nat → Int32} {f r r2 : Int32} {P : Prop} (hE : StE a pa ac ra d D cl ha hu u1 u2 u3 u4 u5 u6 u7 u8 u9 u10 u11 u12 w1 w2 w3 w4 w5 w6 w7 w8 w9 w10 w11 w12 w13 w14 w15 w16 w17) (hx : ∃ (t : Int32), (R_k_allLeft pa u7 t) ∧ ((R_x_fair_s0 t ac u11 hu u2 u10 f u1 u3 u4 u5 u6 u7 u8 u9 u12 r v10 v11 v12 v1 v2 v3 v4 v5 v6 v7 v8 v9) ∨ ((t.toInt ≤ 0) ∧ (r = ((-2) : Int32) ∧ P)))) (hy : fx (T_y_fair_27 w3 w2 f w1 w4 w5 w6 w7 w8 w9 w10 w11 w12 w13 w14 w15 w16 w17 D r2 c1 c2 c3 c4 c5 c6 c7 c8 c9 c10 c11 c12 c13 c14 c15 c16 c17) 8 ((0 : Int32), (0 : Int32))) : r = r2 := by
  obtain ⟨hd, H, ⟨t1, t2, t3, t4⟩, ⟨s1, s2, s3, s4, s5, s6⟩, ⟨eL, eO, eG, eS, eSo, eSt⟩, hL, hB⟩ := hE
  obtain ⟨hX, hac, hpa, hC, hHa, hH, gC, gHa, gH, gR⟩ := H
  obtain ⟨bE, bN, bC, bS, bO, bL⟩ := hB
  have k30 : ((d.toInt.toNat : Nat) : Int) ≤ 30 := by clear hx hy; omega
  rw [t1, t2, t3, s2] at hy
  obtain ⟨n, hn, hy⟩ := loopP (n := ac) (P := fun k s => s = rs (ndv hu u2 w15 u11) k) (Q := fun s => fx (T_y_fair_56 pa s f a ac w4 w5 u2 w7 w8 w9 w10 w11 w12 w13 w14 w15 w16 w17 r2 c1 c2 c3 c4 c5 c6 c7 c8 c9 c10 c11 c12 c13 c14 c15 c16 c17) 7 ((0 : Int32), (0 : Int32))) (by clear hx hy; omega) (fun K i s hi hP hT => by
    dsimp only [T_y_fair_27] at hT
    rcases hT with ⟨c, h⟩ | ⟨c, b0, hb, b1, e1, b2, e2, hk⟩
    · exact Or.inl ⟨c, h⟩
    · have hb := need_y hX hac hH hL ⟨hi.1, c⟩ hb
      refine Or.inr ⟨c, b2, b1, e2, ?_, hk⟩
      show b1 = rs _ _ + _
      rw [e1, hb, hP]) rfl hy
  obtain ⟨m, hm, hy⟩ := loopP (n := pa) (P := fun k s => s = rs w12 k) (Q := fun s => ((s.toInt ≠ 0) ∧ (∃ (b0_ : Int32), (R_j_common s n b0_) ∧ (((f.toInt = 0) ∧ r2 = n / b0_) ∨ ((f.toInt ≠ 0) ∧ r2 = s / b0_)))) ∨ ((s.toInt = 0) ∧ r2 = -2)) (by clear hx hy; omega) (fun K i s hi hP hT => by
    dsimp only [T_y_fair_56, R_y_fair_s0] at hT
    rcases hT with ⟨c, ⟨q, b0, hb, ⟨g, z, ez, e, -⟩ | ⟨g, z, ez, e, -⟩⟩ | ⟨q, e, -⟩⟩ | ⟨c, b0, e0, b1, e1, b2, e2, hk⟩
    · exact Or.inl ⟨c, Or.inl ⟨q, b0, hb, Or.inl ⟨g, by rw [e, ez]⟩⟩⟩
    · exact Or.inl ⟨c, Or.inl ⟨q, b0, hb, Or.inr ⟨g, by rw [e, ez]⟩⟩⟩
    · exact Or.inl ⟨c, Or.inr ⟨q, e⟩⟩
    · refine Or.inr ⟨c, b2, b1, e2, ?_, hk⟩
      show b1 = rs _ _ + _
      rw [e1, e0, mi_cl, hP]) rfl hy
  obtain ⟨t, ht, hx⟩ := hx
  have ht := left_x hpa ht
  have hn2 : n = rs (ndv hu u2 u10 u11) ac.toInt.toNat := by rw [hn]; exact rs_c _ (fun b hb => ndv_c (eS b (by clear hx hy; omega)))
  have hm2 : m = t := by rw [hm, ht]; exact rs_c _ (fun b hb => eL b (by clear hx hy; omega))
  rw [hm2] at hy
  have rt : 0 ≤ t.toInt ∧ t.toInt ≤ 32768 := by
    have q := rs_rng (f := u7) (m := 3069) (by decide) pa.toInt.toNat (by clear hx hy; omega) (fun b hb => by have := bL b (by clear hx hy; omega); clear hx hy; omega)
    have q5 := q.2.2.1 (by clear hx hy; omega)
    rw [← ht] at q q5
    clear hx hy
    omega
  have rn : 0 ≤ n.toInt ∧ n.toInt ≤ 32768 := by
    have q := rs_rng (f := ndv hu u2 u10 u11) (m := 160) (by decide) ac.toInt.toNat (by clear hx hy; omega) (fun b hb => ndv_rng (gH b (by clear hx hy; omega)) ⟨bE.1, by clear hx hy; omega⟩ (bS b (by clear hx hy; omega)).1)
    rw [← hn2] at q
    clear hx hy
    omega
  rcases hx with hx | ⟨c, e, -⟩
  · obtain ⟨c, n2, hn3, g, hg, hx⟩ := hx
    have hn3 := needs_x hac hn3
    have en : n2 = n := by rw [hn3, hn2]
    rw [en] at hg hx
    rcases hy with ⟨-, g2, hg2, hy⟩ | ⟨q, -⟩
    · have hcm := common_sim _ _ _ _ _ hg hg2 ⟨by decide, by decide⟩ rt rn (Or.inl ⟨by decide, c⟩)
      clear hg hg2
      rw [← hcm.1] at hy
      rcases hx with ⟨-, ⟨q, z, ez, e, -⟩ | ⟨q, z, ez, e, -⟩⟩ | ⟨q, -⟩
      · rcases hy with ⟨-, e2⟩ | ⟨q2, -⟩
        · rw [e, ez, e2]
        · exact absurd q q2
      · rcases hy with ⟨q2, -⟩ | ⟨-, e2⟩
        · exact absurd q2 q
        · rw [e, ez, e2]
      · exact absurd hcm.2 (Int.not_lt.mpr q)
    · exact absurd c (by rw [q]; decide)
  · rcases hy with ⟨q, -⟩ | ⟨-, e2⟩
    · exact absurd (Int.le_antisymm c rt.1) q
    · rw [e, e2]
theorem fair_sim {TN : Nat → Int32} {TF M : Nat → Nat → Int32} (h : TLg 0 TN TF M) (hr3 : 0 ≤ (TN 3).toInt ∧ (TN 3).toInt ≤ 2) (hr4 : 0 ≤ (TN 4).toInt ∧ (TN 4).toInt ≤ 2) {x0 x1 x2 x3 r r2 : Int32} (hx : S_x_fair TN TF x0 x1 x2 x3 r) (hy : S_y_fair M x0 x1 x2 x3 r2) : r = r2 := by
  obtain ⟨_, _, _, _, _, _, _, _, rst_⟩ := hx
  obtain ⟨_, _, _, _, _, _, _, _, rst_⟩ := rst_
  obtain ⟨_, _, _, _, _, _, _, _, hx⟩ := rst_
  obtain ⟨_, _, _, _, _, _, _, _, rst_⟩ := hy
  obtain ⟨_, _, _, _, _, _, _, _, rst_⟩ := rst_
  obtain ⟨_, _, _, _, _, _, _, _, rst_⟩ := rst_
  obtain ⟨_, _, _, _, _, _, _, _, rst_⟩ := rst_
  obtain ⟨_, _, _, hy, hc⟩ := rst_
  obtain ⟨p, n0, n1, n2, n3, n4, n5, n6, rst_⟩ := hx
  obtain ⟨n7, n8, n9, n10, n11, hk, hx⟩ := rst_
  obtain ⟨q, m0, m1, m2, m3, m4, m5, m6, rst_⟩ := hy
  obtain ⟨m7, m8, m9, m10, m11, m12, m13, m14, rst_⟩ := rst_
  obtain ⟨m15, m16, hl, hy⟩ := rst_
  have hs := reach_sim h hr3 hr4 rfl rfl (by clear hk hl hx hy; omega) hk hl
  clear hk hl
  have z0 : ¬ ((0 : Int32).toInt ≠ 0) := by decide
  have z1 : ¬ ((1 : Int32).toInt = 0) := by decide
  rcases hs with ⟨p0, q0⟩ | ⟨p1, q1, hs⟩
  · have ex : r = -2 := by
      rcases hx with ⟨-, ⟨c, -⟩ | ⟨-, e, -⟩⟩ | ⟨-, ⟨c, -⟩ | ⟨-, e, -⟩⟩ | ⟨-, e, -⟩
      · rw [p0] at c; exact absurd c z0
      · exact e
      · rw [p0] at c; exact absurd c z0
      · exact e
      · exact e
    rcases hy with ⟨c, -⟩ | ⟨-, e, -⟩
    · rw [q0] at c; exact absurd c z0
    · rw [ex, e]
  · rcases hy with ⟨-, hy⟩ | ⟨c, -⟩
    · rcases hs with ⟨ca, hs⟩ | ⟨ca, hs⟩
      · rcases hx with ⟨-, ⟨-, hx⟩ | ⟨c, -⟩⟩ | ⟨cb, -⟩ | ⟨c, -⟩
        · exact fair_core hs hx hy
        · rw [p1] at c; exact absurd c z1
        · exact absurd ca cb
        · rw [p1] at c; exact absurd c z1
      · rcases hx with ⟨cb, -⟩ | ⟨-, ⟨-, hx⟩ | ⟨c, -⟩⟩ | ⟨c, -⟩
        · rw [cb] at ca; exact absurd ca (by decide)
        · exact fair_core hs hx hy
        · rw [p1] at c; exact absurd c z1
        · rw [p1] at c; exact absurd c z1
    · rw [q1] at c; exact absurd c z1
