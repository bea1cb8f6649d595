/-! text() in step, the whole -/
theorem RO {a b m num : Int32} (h : RefC a b m) (h' : OkC a b m num) : False := by
  unfold RefC at h
  unfold OkC at h'
  omega
theorem text_sim {TN TN2 : Nat → Int32} {TF TF2 M M2 : Nat → Nat → Int32} {x0 x1 r r' : Int32} (h : TLk 0 TN TF M) (hr0 : 0 ≤ (TN 0).toInt ∧ (TN 0).toInt ≤ 600) (hr3 : (0 ≤ (TN 3).toInt ∧ (TN 3).toInt ≤ 2) ∧ (0 ≤ (TN 4).toInt ∧ (TN 4).toInt ≤ 2) ∧ (0 ≤ (TN 5).toInt ∧ (TN 5).toInt ≤ 2)) (hmany : ∀ j : Nat, 0 ≤ (M 4 j).toInt ∧ (M 4 j).toInt ≤ 2) (hby : By (M 0)) (hx : S_x_text TN TF x0 x1 TN2 TF2 r) (hy : S_y_text M x0 x1 M2 r') : r = r' ∧ TLk 0 TN2 TF2 M2 ∧ (∀ g : Nat, 1 ≤ g → Sl g M M2) ∧ M2 8 = M 8 := by
  obtain ⟨j_rfault, j_rplace, j_rtoken, j_rfrom, j_rto, j_rvalue, j_rtpalms, j_rtactors, rst_⟩ := hx
  obtain ⟨j_rtusurers, j_rtrate, j_rtchest, j_rtborrowers, j_rt_claps, j_rt_hands, j_rt_hunger, j_rt_saved, rst_⟩ := rst_
  obtain ⟨j_rt_asks, j_rt_floors, j_rbdeeds, j_rb_parts, j_rdmin, j_rd_halves, j_r_n, c_n1_2, rst_⟩ := rst_
  obtain ⟨c_n1_3, c_n1_4, c_n1_5, c_n1_6, c_n3_0, c_n3_3, c_n3_6, c_n3_9, rst_⟩ := rst_
  obtain ⟨c_n3_10, c_n3_11, c_g4, c_g5, c_g6, c_g7, c_g8, c_g9, rst_⟩ := rst_
  obtain ⟨c_n10_0, c_n10_3, c_n10_6, c_n10_9, c_n10_10, c_n10_11, c_g11, c_g12, rst_⟩ := rst_
  obtain ⟨c_g13, c_g14, c_g15, c_g16, c_n17_0, c_g18, c_n19_0, c_g20, rst_⟩ := rst_
  obtain ⟨c_n21_0, c_g22, c_n23_0, c_g24, c_n25_4, c_n25_5, c_n25_6, c_n25_7, rst_⟩ := rst_
  obtain ⟨c_n25_8, c_n25_9, c_n26_0, c_n26_3, c_n26_6, c_n26_9, c_n26_10, c_n26_11, rst_⟩ := rst_
  obtain ⟨c_g27, c_g28, c_g29, c_g30, c_g31, c_g32, c_n33_0, c_g34, rst_⟩ := rst_
  obtain ⟨c_n35_0, c_g36, c_g37, hx, eN, eF⟩ := rst_
  obtain ⟨y_xvalue, y_xwrongAt, y_xlaterPlace, y_m_read, y_m_told, y_xreached, y_xbegins, y_xsort, rst_⟩ := hy
  obtain ⟨y_xword, y_xlaterFault, d_n0_9, d_n0_10, d_n0_11, d_n0_12, d_n0_13, d_n0_14, rst_⟩ := rst_
  obtain ⟨d_n0_15, d_n0_16, d_n0_17, d_g2, d_g3, d_g4, d_g5, d_g6, rst_⟩ := rst_
  obtain ⟨d_g7, d_g8, d_g9, d_g10, hy, eM⟩ := rst_
  obtain ⟨m, hm, hx⟩ := cx hr3 hx
  obtain ⟨m', hm', hsz, hy⟩ := cy hmany hy
  obtain ⟨h1, h2, h3, h4, h5, h6, hT, hA, hB, hC, hD, hE, hF⟩ := id h
  have h1 : M 1 0 = TN 0 := h1
  have h4 : M 4 0 = TN 3 := h4
  have h5 : M 4 1 = TN 4 := h5
  have h6 : M 4 2 = TN 5 := h6
  have hT0 : ∀ j : Nat, j < 600 → M 0 j = TF 0 j := fun j hj => by
    have := hT j hj
    rw [show 600 * 0 + j = j from by omega] at this
    exact this
  have hag : Ag_ (TF 0) (M 0) (TN 0).toInt := fun j q1 q2 => by
    unfold tq
    rw [hT0 j.toNat (by omega)]
  have hmm : 0 ≤ x0.toInt ∧ x0.toInt ≤ 2 → m' = m := by
    clear hx hy
    intro q
    rw [hm', mi_cl]
    rcases (by omega : x0.toInt = 0 ∨ x0.toInt = 1 ∨ x0.toInt = 2) with e | e | e
    · rw [e, hm.1 e]; exact h4
    · rw [e, hm.2.1 e]; exact h5
    · rw [e, hm.2.2 e]; exact h6
  rw [h1] at hy
  subst eN; subst eF; subst eM
  have plain : ∀ (fa pl : Int32), c_n1_2 = fa → c_n1_3 = pl → d_g3 = upd (M 2) 0 fa → d_g4 = upd (M 3) 0 pl → (c_n1_4 = (TN 3) ∧ c_n1_5 = (TN 4) ∧ c_n1_6 = (TN 5) ∧ c_n3_0 = (TN 6) ∧ c_n3_3 = (TN 7) ∧ c_n3_6 = (TN 8) ∧ c_n3_9 = (TN 9) ∧ c_n3_10 = (TN 10) ∧ c_n3_11 = (TN 11) ∧ c_g4 = (TF 1) ∧ c_g5 = (TF 2) ∧ c_g6 = (TF 3) ∧ c_g7 = (TF 4) ∧ c_g8 = (TF 5) ∧ c_g9 = (TF 6) ∧ c_n10_0 = (TN 12) ∧ c_n10_3 = (TN 13) ∧ c_n10_6 = (TN 14) ∧ c_n10_9 = (TN 15) ∧ c_n10_10 = (TN 16) ∧ c_n10_11 = (TN 17) ∧ c_g11 = (TF 7) ∧ c_g12 = (TF 8) ∧ c_g13 = (TF 9) ∧ c_g14 = (TF 10) ∧ c_g15 = (TF 11) ∧ c_g16 = (TF 12) ∧ c_n17_0 = (TN 18) ∧ c_g18 = (TF 13) ∧ c_n19_0 = (TN 19) ∧ c_g20 = (TF 14) ∧ c_n21_0 = (TN 20) ∧ c_g22 = (TF 15) ∧ c_n23_0 = (TN 21) ∧ c_g24 = (TF 16)) → (d_g5 = M 4 ∧ d_g6 = M 5 ∧ d_g7 = M 6 ∧ d_g8 = M 7) → TLk 0 (fun i => ([(0 : Int32), c_n1_2, c_n1_3, c_n1_4, c_n1_5, c_n1_6, c_n3_0, c_n3_3, c_n3_6, c_n3_9, c_n3_10, c_n3_11, c_n10_0, c_n10_3, c_n10_6, c_n10_9, c_n10_10, c_n10_11, c_n17_0, c_n19_0, c_n21_0, c_n23_0] : List Int32).getD i 0) (fun i => ([(TF 0), c_g4, c_g5, c_g6, c_g7, c_g8, c_g9, c_g11, c_g12, c_g13, c_g14, c_g15, c_g16, c_g18, c_g20, c_g22, c_g24] : List (Nat → Int32)).getD i (fun _ => 0)) (fun i => ([(M 0), d_g2, d_g3, d_g4, d_g5, d_g6, d_g7, d_g8, (M 8)] : List (Nat → Int32)).getD i (fun _ => 0)) ∧ (∀ g : Nat, 1 ≤ g → Sl g M (fun i => ([(M 0), d_g2, d_g3, d_g4, d_g5, d_g6, d_g7, d_g8, (M 8)] : List (Nat → Int32)).getD i (fun _ => 0))) := by
    clear hx hy
    intro fa pl e1 e2 e3 e4 ⟨s0, s1, s2, s3, s4, s5, s6, s7, s8, s9, s10, s11, s12, s13, s14, s15, s16, s17, s18, s19, s20, s21, s22, s23, s24, s25, s26, s27, s28, s29, s30, s31, s32, s33, s34⟩ ⟨m4, m5, m6, m7⟩
    refine ⟨TLk_new h hT0 ?_ ?_ ?_ ?_ ?_ m4 m5 m6 m7, fun g hg => ⟨?_, ?_, ?_, ?_, fun _ _ => rfl, ?_, ?_, ?_⟩⟩
    · show d_g2 0 = 0
      rw [hsz]; exact up_eq
    · show d_g3 0 = c_n1_2
      rw [e3, e1]; exact up_eq
    · show d_g4 0 = c_n1_3
      rw [e4, e2]; exact up_eq
    · intro i q1 q2
      rcases (by omega : i = 3 ∨ i = 4 ∨ i = 5 ∨ i = 6 ∨ i = 7 ∨ i = 8 ∨ i = 9 ∨ i = 10 ∨ i = 11 ∨ i = 12 ∨ i = 13 ∨ i = 14 ∨ i = 15 ∨ i = 16 ∨ i = 17 ∨ i = 18 ∨ i = 19 ∨ i = 20 ∨ i = 21) with e | e | e | e | e | e | e | e | e | e | e | e | e | e | e | e | e | e | e <;> subst e
      · exact s0
      · exact s1
      · exact s2
      · exact s3
      · exact s4
      · exact s5
      · exact s6
      · exact s7
      · exact s8
      · exact s15
      · exact s16
      · exact s17
      · exact s18
      · exact s19
      · exact s20
      · exact s27
      · exact s29
      · exact s31
      · exact s33
    · intro i q1 q2
      rcases (by omega : i = 1 ∨ i = 2 ∨ i = 3 ∨ i = 4 ∨ i = 5 ∨ i = 6 ∨ i = 7 ∨ i = 8 ∨ i = 9 ∨ i = 10 ∨ i = 11 ∨ i = 12 ∨ i = 13 ∨ i = 14 ∨ i = 15 ∨ i = 16) with e | e | e | e | e | e | e | e | e | e | e | e | e | e | e | e <;> subst e
      · exact s9
      · exact s10
      · exact s11
      · exact s12
      · exact s13
      · exact s14
      · exact s21
      · exact s22
      · exact s23
      · exact s24
      · exact s25
      · exact s26
      · exact s28
      · exact s30
      · exact s32
      · exact s34
    · show d_g2 g = M 1 g
      rw [hsz]; exact up_ne (show g ≠ 0 from by omega)
    · show d_g3 g = M 2 g
      rw [e3]; exact up_ne (show g ≠ 0 from by omega)
    · show d_g4 g = M 3 g
      rw [e4]; exact up_ne (show g ≠ 0 from by omega)
    · intro j _
      show d_g5 (3 * g + j) = M 4 (3 * g + j)
      rw [m4]
    · intro j _
      show d_g6 (72 * g + j) = M 5 (72 * g + j)
      rw [m5]
    · intro j _
      show d_g7 (242 * g + j) = M 6 (242 * g + j)
      rw [m6]
    · intro j _
      show d_g8 (14 * g + j) = M 7 (14 * g + j)
      rw [m7]
  rcases hx with ⟨hR, e0, e1, e2, hs⟩ | ⟨num, hO, b0, b1, b2, b3, b4, b5, b6, b7, b8, b9, b10, b11, b12, b13, b14, b15, b16, b17, b18, b19, b20, b21, b22, hrd, e1, e2, hx⟩
  · rcases hy with ⟨-, d0, d3, d4, hu⟩ | ⟨num', hO', -⟩
    · obtain ⟨p1, p2⟩ := plain 0 (-1) e1 e2 d3 d4 hs hu
      exact ⟨by rw [e0, d0], p1, p2, rfl⟩
    · rw [hmm hO'.1] at hO'
      exact (RO hR hO').elim
  · have em := hmm hO.1
    subst em
    rcases hy with ⟨hR, -⟩ | ⟨num', hO', w0, w1, w2, w3, w4, w5, w6, w7, w8, w9, w10, w11, w12, hrd', d3, d4, hy⟩
    · exact (RO hR hO).elim
    · have en : num' = num := by
        clear hx hy hrd hrd' plain
        rcases hO.2 with ⟨p, -, q⟩ | ⟨p, -, -, q⟩ <;> rcases hO'.2 with ⟨p', -, q'⟩ | ⟨p', -, -, q'⟩
        · rw [q, q']
        · exact absurd p p'
        · exact absurd p' p
        · rw [q, q']
      subst en
      have hnum : num'.toInt = 0 ∨ num'.toInt = 1 := by
        clear hx hy hrd hrd' plain
        have hmr := hmany (Int32.toNatClampNeg x0)
        rw [← hm'] at hmr
        rcases hO.2 with ⟨p, q1, q⟩ | ⟨p, q1, q2, q⟩ <;> rw [q] <;> omega
      have ff : ∀ x y : Int32, upd (upd (M 2) 0 x) 0 y = upd (M 2) 0 y := fun x y => by
        funext j
        by_cases hk : j = 0
        · rw [hk, up_eq, up_eq]
        · rw [up_ne hk, up_ne hk, up_ne hk]
      have gg : ∀ x y : Int32, upd (upd (M 3) 0 x) 0 y = upd (M 3) 0 y := fun x y => by
        funext j
        by_cases hk : j = 0
        · rw [hk, up_eq, up_eq]
        · rw [up_ne hk, up_ne hk, up_ne hk]
      rcases (by clear hx hy hrd hrd' plain; have := hO.1; omega : x0.toInt = 0 ∨ x0.toInt = 1 ∨ x0.toInt = 2) with ea | ea | ea
      · have ex : x0 = 0 := mi_eq (by rw [ea]; decide)
        subst ex
        obtain ⟨k9, k10, hk⟩ := rdt_0 hr0 hby hag hrd hrd'
        rw [ff] at k9
        rw [gg] at k10
        clear hrd hrd'
        rcases hk with ⟨z, z', hdat⟩ | ⟨z, z'⟩
        · rcases hx with ⟨c, -⟩ | ⟨-, e0, hput⟩
          · exact absurd z c
          · rcases hy with ⟨c, -⟩ | ⟨-, d0, hmn, hst⟩
            · exact absurd c z'
            · have hmr : 0 ≤ m'.toInt ∧ m'.toInt ≤ 2 := by rw [hm']; exact hmany _
              have em3 : m' = TN 3 := hm.1 rfl
              have hst : R_j_storeT num' w11 (M 5) d_g6 ∧ d_g7 = M 6 ∧ d_g8 = M 7 := by
                rcases hst with ⟨c, q⟩ | ⟨c, q⟩ | ⟨c, q⟩
                · exact q
                · exact absurd c (by decide)
                · exact absurd c (by decide)
              rcases hnum with hN | hN
              · have hp := put_00 (by decide) hN hr3.1 hput
                clear hput
                obtain ⟨q1, q2, t3, t4, t5, t6, t7, t8, rst_⟩ := hp
                obtain ⟨t9, t10, t11, t12, t13, t14, t1, t2, rst_⟩ := rst_
                obtain ⟨t15, t16, t17, t18, t19, t20, t21, t22, rst_⟩ := rst_
                obtain ⟨t23, t24, t25, t26, t27, t28, t29, t30, rst_⟩ := rst_
                obtain ⟨t31, t32, t33, t34⟩ := rst_
                obtain ⟨hst1, hu1, hu2⟩ := hst
                obtain ⟨g1, g2⟩ := storeT_sp (by omega) hst1
                rw [hN] at g1 g2
                have hcnt : c_n1_4 = d_g5 0 := by
                  clear hdat plain hst1 g1 g2
                  rcases hO.2 with ⟨p, p1, q⟩ | ⟨p, p0, p1, q⟩
                  · rcases hmn with ⟨-, w⟩ | ⟨w, -⟩
                    · rw [w]
                      refine Eq.symm (up_eq.trans (mi_eq ?_))
                      rw [mi_addc (C := 1) (by decide) (by omega) (by omega), q1 (by rw [← em3, q]; omega), q]
                    · exact absurd p w
                  · rcases hmn with ⟨w, -⟩ | ⟨-, w⟩
                    · exact absurd w p
                    · rw [w, q2 (by rw [← em3, q]; omega), ← em3]
                      refine Eq.symm (up_eq.trans (mi_eq ?_))
                      rw [mi_addc (C := 0) (by decide) (by omega) (by omega)]; omega
                have hoth : ∀ j : Nat, j ≠ 0 → d_g5 j = M 4 j := by
                  intro j hj
                  rcases hmn with ⟨-, w⟩ | ⟨-, w⟩ <;> rw [w] <;> exact up_ne hj
                refine ⟨by rw [e0, d0], ?_, ?_, rfl⟩
                · show d_g2 0 = (0 : Int32) ∧ d_g3 0 = c_n1_2 ∧ d_g4 0 = c_n1_3 ∧ d_g5 (3 * 0) = c_n1_4 ∧ d_g5 (3 * 0 + 1) = c_n1_5 ∧ d_g5 (3 * 0 + 2) = c_n1_6 ∧ (∀ j : Nat, j < 600 → (M 0) (600 * 0 + j) = (TF 0) j) ∧ RT (fun j => d_g6 (72 * 0 + j)) c_n3_0 c_n3_3 c_n3_6 c_n3_9 c_n3_10 c_n3_11 c_g4 c_g5 c_g6 c_g7 c_g8 c_g9 ∧ RT (fun j => d_g6 (72 * 0 + 36 + j)) c_n10_0 c_n10_3 c_n10_6 c_n10_9 c_n10_10 c_n10_11 c_g11 c_g12 c_g13 c_g14 c_g15 c_g16 ∧ RB (fun j => d_g7 (242 * 0 + j)) c_n17_0 c_g18 ∧ RB (fun j => d_g7 (242 * 0 + 121 + j)) c_n19_0 c_g20 ∧ RD (fun j => d_g8 (14 * 0 + j)) c_n21_0 c_g22 ∧ RD (fun j => d_g8 (14 * 0 + 7 + j)) c_n23_0 c_g24
                  refine ⟨(by rw [hsz]; exact up_eq), (by rw [d3, k9, e1]; exact up_eq), (by rw [d4, k10, e2]; exact up_eq), (by exact hcnt.symm), (by rw [t1]; exact (hoth 1 (by decide)).trans h5), (by rw [t2]; exact (hoth 2 (by decide)).trans h6), hT, ?_, ?_, ?_, ?_, ?_, ?_⟩
                  · rw [t3, t4, t5, t6, t7, t8]
                    refine RT_c (td := w11) (fun j hj => ?_) (RT_y hdat t9 t10 t11 t12 t13 t14)
                    show d_g6 (72 * 0 + j) = w11 j
                    have := g1 j hj
                    rw [show 72 * 0 + j = 36 * (0 : Int).toNat + j from by simp]
                    exact this
                  · rw [t15, t16, t17, t18, t19, t20, t21, t22, t23, t24, t25, t26]
                    refine RT_c (fun j hj => ?_) hB
                    exact g2 _ (by omega)
                  · rw [t27, t28]
                    rw [hu1]; exact hC
                  · rw [t29, t30]
                    rw [hu1]; exact hD
                  · rw [t31, t32]
                    rw [hu2]; exact hE
                  · rw [t33, t34]
                    rw [hu2]; exact hF
                · intro g hg
                  exact ⟨by show d_g2 g = M 1 g; rw [hsz]; exact up_ne (show g ≠ 0 from by omega), by show d_g3 g = M 2 g; rw [d3, k9]; exact up_ne (show g ≠ 0 from by omega), by show d_g4 g = M 3 g; rw [d4, k10]; exact up_ne (show g ≠ 0 from by omega), fun j hj => by show d_g5 (3 * g + j) = M 4 (3 * g + j); exact hoth _ (by omega), fun _ _ => rfl, fun j hj => by show d_g6 (72 * g + j) = M 5 (72 * g + j); exact g2 _ (by omega), fun j hj => by show d_g7 (242 * g + j) = M 6 (242 * g + j); rw [hu1], fun j hj => by show d_g8 (14 * g + j) = M 7 (14 * g + j); rw [hu2]⟩
              · have hp := put_01 (by decide) hN hr3.1 hput
                clear hput
                obtain ⟨q1, q2, t15, t16, t17, t18, t19, t20, rst_⟩ := hp
                obtain ⟨t21, t22, t23, t24, t25, t26, t1, t2, rst_⟩ := rst_
                obtain ⟨t3, t4, t5, t6, t7, t8, t9, t10, rst_⟩ := rst_
                obtain ⟨t11, t12, t13, t14, t27, t28, t29, t30, rst_⟩ := rst_
                obtain ⟨t31, t32, t33, t34⟩ := rst_
                obtain ⟨hst1, hu1, hu2⟩ := hst
                obtain ⟨g1, g2⟩ := storeT_sp (by omega) hst1
                rw [hN] at g1 g2
                have hcnt : c_n1_4 = d_g5 0 := by
                  clear hdat plain hst1 g1 g2
                  rcases hO.2 with ⟨p, p1, q⟩ | ⟨p, p0, p1, q⟩
                  · rcases hmn with ⟨-, w⟩ | ⟨w, -⟩
                    · rw [w]
                      refine Eq.symm (up_eq.trans (mi_eq ?_))
                      rw [mi_addc (C := 1) (by decide) (by omega) (by omega), q1 (by rw [← em3, q]; omega), q]
                    · exact absurd p w
                  · rcases hmn with ⟨w, -⟩ | ⟨-, w⟩
                    · exact absurd w p
                    · rw [w, q2 (by rw [← em3, q]; omega), ← em3]
                      refine Eq.symm (up_eq.trans (mi_eq ?_))
                      rw [mi_addc (C := 0) (by decide) (by omega) (by omega)]; omega
                have hoth : ∀ j : Nat, j ≠ 0 → d_g5 j = M 4 j := by
                  intro j hj
                  rcases hmn with ⟨-, w⟩ | ⟨-, w⟩ <;> rw [w] <;> exact up_ne hj
                refine ⟨by rw [e0, d0], ?_, ?_, rfl⟩
                · show d_g2 0 = (0 : Int32) ∧ d_g3 0 = c_n1_2 ∧ d_g4 0 = c_n1_3 ∧ d_g5 (3 * 0) = c_n1_4 ∧ d_g5 (3 * 0 + 1) = c_n1_5 ∧ d_g5 (3 * 0 + 2) = c_n1_6 ∧ (∀ j : Nat, j < 600 → (M 0) (600 * 0 + j) = (TF 0) j) ∧ RT (fun j => d_g6 (72 * 0 + j)) c_n3_0 c_n3_3 c_n3_6 c_n3_9 c_n3_10 c_n3_11 c_g4 c_g5 c_g6 c_g7 c_g8 c_g9 ∧ RT (fun j => d_g6 (72 * 0 + 36 + j)) c_n10_0 c_n10_3 c_n10_6 c_n10_9 c_n10_10 c_n10_11 c_g11 c_g12 c_g13 c_g14 c_g15 c_g16 ∧ RB (fun j => d_g7 (242 * 0 + j)) c_n17_0 c_g18 ∧ RB (fun j => d_g7 (242 * 0 + 121 + j)) c_n19_0 c_g20 ∧ RD (fun j => d_g8 (14 * 0 + j)) c_n21_0 c_g22 ∧ RD (fun j => d_g8 (14 * 0 + 7 + j)) c_n23_0 c_g24
                  refine ⟨(by rw [hsz]; exact up_eq), (by rw [d3, k9, e1]; exact up_eq), (by rw [d4, k10, e2]; exact up_eq), (by exact hcnt.symm), (by rw [t1]; exact (hoth 1 (by decide)).trans h5), (by rw [t2]; exact (hoth 2 (by decide)).trans h6), hT, ?_, ?_, ?_, ?_, ?_, ?_⟩
                  · rw [t3, t4, t5, t6, t7, t8, t9, t10, t11, t12, t13, t14]
                    refine RT_c (fun j hj => ?_) hA
                    exact g2 _ (by omega)
                  · rw [t15, t16, t17, t18, t19, t20]
                    refine RT_c (td := w11) (fun j hj => ?_) (RT_y hdat t21 t22 t23 t24 t25 t26)
                    show d_g6 (72 * 0 + 36 + j) = w11 j
                    have := g1 j hj
                    rw [show 72 * 0 + 36 + j = 36 * (1 : Int).toNat + j from by simp]
                    exact this
                  · rw [t27, t28]
                    rw [hu1]; exact hC
                  · rw [t29, t30]
                    rw [hu1]; exact hD
                  · rw [t31, t32]
                    rw [hu2]; exact hE
                  · rw [t33, t34]
                    rw [hu2]; exact hF
                · intro g hg
                  exact ⟨by show d_g2 g = M 1 g; rw [hsz]; exact up_ne (show g ≠ 0 from by omega), by show d_g3 g = M 2 g; rw [d3, k9]; exact up_ne (show g ≠ 0 from by omega), by show d_g4 g = M 3 g; rw [d4, k10]; exact up_ne (show g ≠ 0 from by omega), fun j hj => by show d_g5 (3 * g + j) = M 4 (3 * g + j); exact hoth _ (by omega), fun _ _ => rfl, fun j hj => by show d_g6 (72 * g + j) = M 5 (72 * g + j); exact g2 _ (by omega), fun j hj => by show d_g7 (242 * g + j) = M 6 (242 * g + j); rw [hu1], fun j hj => by show d_g8 (14 * g + j) = M 7 (14 * g + j); rw [hu2]⟩
        · rcases hx with ⟨-, e0, hs⟩ | ⟨c, -⟩
          · rcases hy with ⟨-, d0, hu⟩ | ⟨c, -⟩
            · obtain ⟨p1, p2⟩ := plain _ _ e1 e2 (by rw [d3, k9]) (by rw [d4, k10]) hs hu
              exact ⟨by rw [e0, d0], p1, p2, rfl⟩
            · exact absurd z' c
          · exact absurd c z
      · have ex : x0 = 1 := mi_eq (by rw [ea]; decide)
        subst ex
        obtain ⟨k9, k10, hk⟩ := rdt_1 hr0 hby hag hrd hrd'
        rw [ff] at k9
        rw [gg] at k10
        clear hrd hrd'
        rcases hk with ⟨z, z', hdat⟩ | ⟨z, z'⟩
        · rcases hx with ⟨c, -⟩ | ⟨-, e0, hput⟩
          · exact absurd z c
          · rcases hy with ⟨c, -⟩ | ⟨-, d0, hmn, hst⟩
            · exact absurd c z'
            · have hmr : 0 ≤ m'.toInt ∧ m'.toInt ≤ 2 := by rw [hm']; exact hmany _
              have em3 : m' = TN 4 := hm.2.1 rfl
              have hst : R_j_storeB num' w11 (M 6) d_g7 ∧ d_g6 = M 5 ∧ d_g8 = M 7 := by
                rcases hst with ⟨c, q⟩ | ⟨c, q⟩ | ⟨c, q⟩
                · exact absurd c (by decide)
                · exact q
                · exact absurd c (by decide)
              rcases hnum with hN | hN
              · have hp := put_10 (by decide) hN hr3.2.1 hput
                clear hput
                obtain ⟨q1, q2, t27, t28, t0, t2, t3, t4, rst_⟩ := hp
                obtain ⟨t5, t6, t7, t8, t9, t10, t11, t12, rst_⟩ := rst_
                obtain ⟨t13, t14, t15, t16, t17, t18, t19, t20, rst_⟩ := rst_
                obtain ⟨t21, t22, t23, t24, t25, t26, t29, t30, rst_⟩ := rst_
                obtain ⟨t31, t32, t33, t34⟩ := rst_
                obtain ⟨hst1, hu1, hu2⟩ := hst
                obtain ⟨g1, g2⟩ := storeB_sp (by omega) hst1
                rw [hN] at g1 g2
                have hcnt : c_n1_5 = d_g5 1 := by
                  clear hdat plain hst1 g1 g2
                  rcases hO.2 with ⟨p, p1, q⟩ | ⟨p, p0, p1, q⟩
                  · rcases hmn with ⟨-, w⟩ | ⟨w, -⟩
                    · rw [w]
                      refine Eq.symm (up_eq.trans (mi_eq ?_))
                      rw [mi_addc (C := 1) (by decide) (by omega) (by omega), q1 (by rw [← em3, q]; omega), q]
                    · exact absurd p w
                  · rcases hmn with ⟨w, -⟩ | ⟨-, w⟩
                    · exact absurd w p
                    · rw [w, q2 (by rw [← em3, q]; omega), ← em3]
                      refine Eq.symm (up_eq.trans (mi_eq ?_))
                      rw [mi_addc (C := 0) (by decide) (by omega) (by omega)]; omega
                have hoth : ∀ j : Nat, j ≠ 1 → d_g5 j = M 4 j := by
                  intro j hj
                  rcases hmn with ⟨-, w⟩ | ⟨-, w⟩ <;> rw [w] <;> exact up_ne hj
                refine ⟨by rw [e0, d0], ?_, ?_, rfl⟩
                · show d_g2 0 = (0 : Int32) ∧ d_g3 0 = c_n1_2 ∧ d_g4 0 = c_n1_3 ∧ d_g5 (3 * 0) = c_n1_4 ∧ d_g5 (3 * 0 + 1) = c_n1_5 ∧ d_g5 (3 * 0 + 2) = c_n1_6 ∧ (∀ j : Nat, j < 600 → (M 0) (600 * 0 + j) = (TF 0) j) ∧ RT (fun j => d_g6 (72 * 0 + j)) c_n3_0 c_n3_3 c_n3_6 c_n3_9 c_n3_10 c_n3_11 c_g4 c_g5 c_g6 c_g7 c_g8 c_g9 ∧ RT (fun j => d_g6 (72 * 0 + 36 + j)) c_n10_0 c_n10_3 c_n10_6 c_n10_9 c_n10_10 c_n10_11 c_g11 c_g12 c_g13 c_g14 c_g15 c_g16 ∧ RB (fun j => d_g7 (242 * 0 + j)) c_n17_0 c_g18 ∧ RB (fun j => d_g7 (242 * 0 + 121 + j)) c_n19_0 c_g20 ∧ RD (fun j => d_g8 (14 * 0 + j)) c_n21_0 c_g22 ∧ RD (fun j => d_g8 (14 * 0 + 7 + j)) c_n23_0 c_g24
                  refine ⟨(by rw [hsz]; exact up_eq), (by rw [d3, k9, e1]; exact up_eq), (by rw [d4, k10, e2]; exact up_eq), (by rw [t0]; exact (hoth 0 (by decide)).trans h4), (by exact hcnt.symm), (by rw [t2]; exact (hoth 2 (by decide)).trans h6), hT, ?_, ?_, ?_, ?_, ?_, ?_⟩
                  · rw [t3, t4, t5, t6, t7, t8, t9, t10, t11, t12, t13, t14]
                    rw [hu1]; exact hA
                  · rw [t15, t16, t17, t18, t19, t20, t21, t22, t23, t24, t25, t26]
                    rw [hu1]; exact hB
                  · rw [t27]
                    refine RB_c (td := w11) (fun j hj => ?_) (RB_y hdat t28)
                    show d_g7 (242 * 0 + j) = w11 j
                    have := g1 j hj
                    rw [show 242 * 0 + j = 121 * (0 : Int).toNat + j from by simp]
                    exact this
                  · rw [t29, t30]
                    refine RB_c (fun j hj => ?_) hD
                    exact g2 _ (by omega)
                  · rw [t31, t32]
                    rw [hu2]; exact hE
                  · rw [t33, t34]
                    rw [hu2]; exact hF
                · intro g hg
                  exact ⟨by show d_g2 g = M 1 g; rw [hsz]; exact up_ne (show g ≠ 0 from by omega), by show d_g3 g = M 2 g; rw [d3, k9]; exact up_ne (show g ≠ 0 from by omega), by show d_g4 g = M 3 g; rw [d4, k10]; exact up_ne (show g ≠ 0 from by omega), fun j hj => by show d_g5 (3 * g + j) = M 4 (3 * g + j); exact hoth _ (by omega), fun _ _ => rfl, fun j hj => by show d_g6 (72 * g + j) = M 5 (72 * g + j); rw [hu1], fun j hj => by show d_g7 (242 * g + j) = M 6 (242 * g + j); exact g2 _ (by omega), fun j hj => by show d_g8 (14 * g + j) = M 7 (14 * g + j); rw [hu2]⟩
              · have hp := put_11 (by decide) hN hr3.2.1 hput
                clear hput
                obtain ⟨q1, q2, t29, t30, t0, t2, t3, t4, rst_⟩ := hp
                obtain ⟨t5, t6, t7, t8, t9, t10, t11, t12, rst_⟩ := rst_
                obtain ⟨t13, t14, t15, t16, t17, t18, t19, t20, rst_⟩ := rst_
                obtain ⟨t21, t22, t23, t24, t25, t26, t27, t28, rst_⟩ := rst_
                obtain ⟨t31, t32, t33, t34⟩ := rst_
                obtain ⟨hst1, hu1, hu2⟩ := hst
                obtain ⟨g1, g2⟩ := storeB_sp (by omega) hst1
                rw [hN] at g1 g2
                have hcnt : c_n1_5 = d_g5 1 := by
                  clear hdat plain hst1 g1 g2
                  rcases hO.2 with ⟨p, p1, q⟩ | ⟨p, p0, p1, q⟩
                  · rcases hmn with ⟨-, w⟩ | ⟨w, -⟩
                    · rw [w]
                      refine Eq.symm (up_eq.trans (mi_eq ?_))
                      rw [mi_addc (C := 1) (by decide) (by omega) (by omega), q1 (by rw [← em3, q]; omega), q]
                    · exact absurd p w
                  · rcases hmn with ⟨w, -⟩ | ⟨-, w⟩
                    · exact absurd w p
                    · rw [w, q2 (by rw [← em3, q]; omega), ← em3]
                      refine Eq.symm (up_eq.trans (mi_eq ?_))
                      rw [mi_addc (C := 0) (by decide) (by omega) (by omega)]; omega
                have hoth : ∀ j : Nat, j ≠ 1 → d_g5 j = M 4 j := by
                  intro j hj
                  rcases hmn with ⟨-, w⟩ | ⟨-, w⟩ <;> rw [w] <;> exact up_ne hj
                refine ⟨by rw [e0, d0], ?_, ?_, rfl⟩
                · show d_g2 0 = (0 : Int32) ∧ d_g3 0 = c_n1_2 ∧ d_g4 0 = c_n1_3 ∧ d_g5 (3 * 0) = c_n1_4 ∧ d_g5 (3 * 0 + 1) = c_n1_5 ∧ d_g5 (3 * 0 + 2) = c_n1_6 ∧ (∀ j : Nat, j < 600 → (M 0) (600 * 0 + j) = (TF 0) j) ∧ RT (fun j => d_g6 (72 * 0 + j)) c_n3_0 c_n3_3 c_n3_6 c_n3_9 c_n3_10 c_n3_11 c_g4 c_g5 c_g6 c_g7 c_g8 c_g9 ∧ RT (fun j => d_g6 (72 * 0 + 36 + j)) c_n10_0 c_n10_3 c_n10_6 c_n10_9 c_n10_10 c_n10_11 c_g11 c_g12 c_g13 c_g14 c_g15 c_g16 ∧ RB (fun j => d_g7 (242 * 0 + j)) c_n17_0 c_g18 ∧ RB (fun j => d_g7 (242 * 0 + 121 + j)) c_n19_0 c_g20 ∧ RD (fun j => d_g8 (14 * 0 + j)) c_n21_0 c_g22 ∧ RD (fun j => d_g8 (14 * 0 + 7 + j)) c_n23_0 c_g24
                  refine ⟨(by rw [hsz]; exact up_eq), (by rw [d3, k9, e1]; exact up_eq), (by rw [d4, k10, e2]; exact up_eq), (by rw [t0]; exact (hoth 0 (by decide)).trans h4), (by exact hcnt.symm), (by rw [t2]; exact (hoth 2 (by decide)).trans h6), hT, ?_, ?_, ?_, ?_, ?_, ?_⟩
                  · rw [t3, t4, t5, t6, t7, t8, t9, t10, t11, t12, t13, t14]
                    rw [hu1]; exact hA
                  · rw [t15, t16, t17, t18, t19, t20, t21, t22, t23, t24, t25, t26]
                    rw [hu1]; exact hB
                  · rw [t27, t28]
                    refine RB_c (fun j hj => ?_) hC
                    exact g2 _ (by omega)
                  · rw [t29]
                    refine RB_c (td := w11) (fun j hj => ?_) (RB_y hdat t30)
                    show d_g7 (242 * 0 + 121 + j) = w11 j
                    have := g1 j hj
                    rw [show 242 * 0 + 121 + j = 121 * (1 : Int).toNat + j from by simp]
                    exact this
                  · rw [t31, t32]
                    rw [hu2]; exact hE
                  · rw [t33, t34]
                    rw [hu2]; exact hF
                · intro g hg
                  exact ⟨by show d_g2 g = M 1 g; rw [hsz]; exact up_ne (show g ≠ 0 from by omega), by show d_g3 g = M 2 g; rw [d3, k9]; exact up_ne (show g ≠ 0 from by omega), by show d_g4 g = M 3 g; rw [d4, k10]; exact up_ne (show g ≠ 0 from by omega), fun j hj => by show d_g5 (3 * g + j) = M 4 (3 * g + j); exact hoth _ (by omega), fun _ _ => rfl, fun j hj => by show d_g6 (72 * g + j) = M 5 (72 * g + j); rw [hu1], fun j hj => by show d_g7 (242 * g + j) = M 6 (242 * g + j); exact g2 _ (by omega), fun j hj => by show d_g8 (14 * g + j) = M 7 (14 * g + j); rw [hu2]⟩
        · rcases hx with ⟨-, e0, hs⟩ | ⟨c, -⟩
          · rcases hy with ⟨-, d0, hu⟩ | ⟨c, -⟩
            · obtain ⟨p1, p2⟩ := plain _ _ e1 e2 (by rw [d3, k9]) (by rw [d4, k10]) hs hu
              exact ⟨by rw [e0, d0], p1, p2, rfl⟩
            · exact absurd z' c
          · exact absurd c z
      · have ex : x0 = 2 := mi_eq (by rw [ea]; decide)
        subst ex
        obtain ⟨k9, k10, hk⟩ := rdt_2 hr0 hby hag hrd hrd'
        rw [ff] at k9
        rw [gg] at k10
        clear hrd hrd'
        rcases hk with ⟨z, z', hdat⟩ | ⟨z, z'⟩
        · rcases hx with ⟨c, -⟩ | ⟨-, e0, hput⟩
          · exact absurd z c
          · rcases hy with ⟨c, -⟩ | ⟨-, d0, hmn, hst⟩
            · exact absurd c z'
            · have hmr : 0 ≤ m'.toInt ∧ m'.toInt ≤ 2 := by rw [hm']; exact hmany _
              have em3 : m' = TN 5 := hm.2.2 rfl
              have hst : R_j_storeD num' w11 (M 7) d_g8 ∧ d_g6 = M 5 ∧ d_g7 = M 6 := by
                rcases hst with ⟨c, q⟩ | ⟨c, q⟩ | ⟨c, q⟩
                · exact absurd c (by decide)
                · exact absurd c (by decide)
                · exact q
              rcases hnum with hN | hN
              · have hp := put_20 (by decide) hN hr3.2.2 hput
                clear hput
                obtain ⟨q1, q2, t31, t32, t0, t1, t3, t4, rst_⟩ := hp
                obtain ⟨t5, t6, t7, t8, t9, t10, t11, t12, rst_⟩ := rst_
                obtain ⟨t13, t14, t15, t16, t17, t18, t19, t20, rst_⟩ := rst_
                obtain ⟨t21, t22, t23, t24, t25, t26, t27, t28, rst_⟩ := rst_
                obtain ⟨t29, t30, t33, t34⟩ := rst_
                obtain ⟨hst1, hu1, hu2⟩ := hst
                obtain ⟨g1, g2⟩ := storeD_sp (by omega) hst1
                rw [hN] at g1 g2
                have hcnt : c_n1_6 = d_g5 2 := by
                  clear hdat plain hst1 g1 g2
                  rcases hO.2 with ⟨p, p1, q⟩ | ⟨p, p0, p1, q⟩
                  · rcases hmn with ⟨-, w⟩ | ⟨w, -⟩
                    · rw [w]
                      refine Eq.symm (up_eq.trans (mi_eq ?_))
                      rw [mi_addc (C := 1) (by decide) (by omega) (by omega), q1 (by rw [← em3, q]; omega), q]
                    · exact absurd p w
                  · rcases hmn with ⟨w, -⟩ | ⟨-, w⟩
                    · exact absurd w p
                    · rw [w, q2 (by rw [← em3, q]; omega), ← em3]
                      refine Eq.symm (up_eq.trans (mi_eq ?_))
                      rw [mi_addc (C := 0) (by decide) (by omega) (by omega)]; omega
                have hoth : ∀ j : Nat, j ≠ 2 → d_g5 j = M 4 j := by
                  intro j hj
                  rcases hmn with ⟨-, w⟩ | ⟨-, w⟩ <;> rw [w] <;> exact up_ne hj
                refine ⟨by rw [e0, d0], ?_, ?_, rfl⟩
                · show d_g2 0 = (0 : Int32) ∧ d_g3 0 = c_n1_2 ∧ d_g4 0 = c_n1_3 ∧ d_g5 (3 * 0) = c_n1_4 ∧ d_g5 (3 * 0 + 1) = c_n1_5 ∧ d_g5 (3 * 0 + 2) = c_n1_6 ∧ (∀ j : Nat, j < 600 → (M 0) (600 * 0 + j) = (TF 0) j) ∧ RT (fun j => d_g6 (72 * 0 + j)) c_n3_0 c_n3_3 c_n3_6 c_n3_9 c_n3_10 c_n3_11 c_g4 c_g5 c_g6 c_g7 c_g8 c_g9 ∧ RT (fun j => d_g6 (72 * 0 + 36 + j)) c_n10_0 c_n10_3 c_n10_6 c_n10_9 c_n10_10 c_n10_11 c_g11 c_g12 c_g13 c_g14 c_g15 c_g16 ∧ RB (fun j => d_g7 (242 * 0 + j)) c_n17_0 c_g18 ∧ RB (fun j => d_g7 (242 * 0 + 121 + j)) c_n19_0 c_g20 ∧ RD (fun j => d_g8 (14 * 0 + j)) c_n21_0 c_g22 ∧ RD (fun j => d_g8 (14 * 0 + 7 + j)) c_n23_0 c_g24
                  refine ⟨(by rw [hsz]; exact up_eq), (by rw [d3, k9, e1]; exact up_eq), (by rw [d4, k10, e2]; exact up_eq), (by rw [t0]; exact (hoth 0 (by decide)).trans h4), (by rw [t1]; exact (hoth 1 (by decide)).trans h5), (by exact hcnt.symm), hT, ?_, ?_, ?_, ?_, ?_, ?_⟩
                  · rw [t3, t4, t5, t6, t7, t8, t9, t10, t11, t12, t13, t14]
                    rw [hu1]; exact hA
                  · rw [t15, t16, t17, t18, t19, t20, t21, t22, t23, t24, t25, t26]
                    rw [hu1]; exact hB
                  · rw [t27, t28]
                    rw [hu2]; exact hC
                  · rw [t29, t30]
                    rw [hu2]; exact hD
                  · rw [t31]
                    refine RD_c (td := w11) (fun j hj => ?_) (RD_y hdat t32)
                    show d_g8 (14 * 0 + j) = w11 j
                    have := g1 j hj
                    rw [show 14 * 0 + j = 7 * (0 : Int).toNat + j from by simp]
                    exact this
                  · rw [t33, t34]
                    refine RD_c (fun j hj => ?_) hF
                    exact g2 _ (by omega)
                · intro g hg
                  exact ⟨by show d_g2 g = M 1 g; rw [hsz]; exact up_ne (show g ≠ 0 from by omega), by show d_g3 g = M 2 g; rw [d3, k9]; exact up_ne (show g ≠ 0 from by omega), by show d_g4 g = M 3 g; rw [d4, k10]; exact up_ne (show g ≠ 0 from by omega), fun j hj => by show d_g5 (3 * g + j) = M 4 (3 * g + j); exact hoth _ (by omega), fun _ _ => rfl, fun j hj => by show d_g6 (72 * g + j) = M 5 (72 * g + j); rw [hu1], fun j hj => by show d_g7 (242 * g + j) = M 6 (242 * g + j); rw [hu2], fun j hj => by show d_g8 (14 * g + j) = M 7 (14 * g + j); exact g2 _ (by omega)⟩
              · have hp := put_21 (by decide) hN hr3.2.2 hput
                clear hput
                obtain ⟨q1, q2, t33, t34, t0, t1, t3, t4, rst_⟩ := hp
                obtain ⟨t5, t6, t7, t8, t9, t10, t11, t12, rst_⟩ := rst_
                obtain ⟨t13, t14, t15, t16, t17, t18, t19, t20, rst_⟩ := rst_
                obtain ⟨t21, t22, t23, t24, t25, t26, t27, t28, rst_⟩ := rst_
                obtain ⟨t29, t30, t31, t32⟩ := rst_
                obtain ⟨hst1, hu1, hu2⟩ := hst
                obtain ⟨g1, g2⟩ := storeD_sp (by omega) hst1
                rw [hN] at g1 g2
                have hcnt : c_n1_6 = d_g5 2 := by
                  clear hdat plain hst1 g1 g2
                  rcases hO.2 with ⟨p, p1, q⟩ | ⟨p, p0, p1, q⟩
                  · rcases hmn with ⟨-, w⟩ | ⟨w, -⟩
                    · rw [w]
                      refine Eq.symm (up_eq.trans (mi_eq ?_))
                      rw [mi_addc (C := 1) (by decide) (by omega) (by omega), q1 (by rw [← em3, q]; omega), q]
                    · exact absurd p w
                  · rcases hmn with ⟨w, -⟩ | ⟨-, w⟩
                    · exact absurd w p
                    · rw [w, q2 (by rw [← em3, q]; omega), ← em3]
                      refine Eq.symm (up_eq.trans (mi_eq ?_))
                      rw [mi_addc (C := 0) (by decide) (by omega) (by omega)]; omega
                have hoth : ∀ j : Nat, j ≠ 2 → d_g5 j = M 4 j := by
                  intro j hj
                  rcases hmn with ⟨-, w⟩ | ⟨-, w⟩ <;> rw [w] <;> exact up_ne hj
                refine ⟨by rw [e0, d0], ?_, ?_, rfl⟩
                · show d_g2 0 = (0 : Int32) ∧ d_g3 0 = c_n1_2 ∧ d_g4 0 = c_n1_3 ∧ d_g5 (3 * 0) = c_n1_4 ∧ d_g5 (3 * 0 + 1) = c_n1_5 ∧ d_g5 (3 * 0 + 2) = c_n1_6 ∧ (∀ j : Nat, j < 600 → (M 0) (600 * 0 + j) = (TF 0) j) ∧ RT (fun j => d_g6 (72 * 0 + j)) c_n3_0 c_n3_3 c_n3_6 c_n3_9 c_n3_10 c_n3_11 c_g4 c_g5 c_g6 c_g7 c_g8 c_g9 ∧ RT (fun j => d_g6 (72 * 0 + 36 + j)) c_n10_0 c_n10_3 c_n10_6 c_n10_9 c_n10_10 c_n10_11 c_g11 c_g12 c_g13 c_g14 c_g15 c_g16 ∧ RB (fun j => d_g7 (242 * 0 + j)) c_n17_0 c_g18 ∧ RB (fun j => d_g7 (242 * 0 + 121 + j)) c_n19_0 c_g20 ∧ RD (fun j => d_g8 (14 * 0 + j)) c_n21_0 c_g22 ∧ RD (fun j => d_g8 (14 * 0 + 7 + j)) c_n23_0 c_g24
                  refine ⟨(by rw [hsz]; exact up_eq), (by rw [d3, k9, e1]; exact up_eq), (by rw [d4, k10, e2]; exact up_eq), (by rw [t0]; exact (hoth 0 (by decide)).trans h4), (by rw [t1]; exact (hoth 1 (by decide)).trans h5), (by exact hcnt.symm), hT, ?_, ?_, ?_, ?_, ?_, ?_⟩
                  · rw [t3, t4, t5, t6, t7, t8, t9, t10, t11, t12, t13, t14]
                    rw [hu1]; exact hA
                  · rw [t15, t16, t17, t18, t19, t20, t21, t22, t23, t24, t25, t26]
                    rw [hu1]; exact hB
                  · rw [t27, t28]
                    rw [hu2]; exact hC
                  · rw [t29, t30]
                    rw [hu2]; exact hD
                  · rw [t31, t32]
                    refine RD_c (fun j hj => ?_) hE
                    exact g2 _ (by omega)
                  · rw [t33]
                    refine RD_c (td := w11) (fun j hj => ?_) (RD_y hdat t34)
                    show d_g8 (14 * 0 + 7 + j) = w11 j
                    have := g1 j hj
                    rw [show 14 * 0 + 7 + j = 7 * (1 : Int).toNat + j from by simp]
                    exact this
                · intro g hg
                  exact ⟨by show d_g2 g = M 1 g; rw [hsz]; exact up_ne (show g ≠ 0 from by omega), by show d_g3 g = M 2 g; rw [d3, k9]; exact up_ne (show g ≠ 0 from by omega), by show d_g4 g = M 3 g; rw [d4, k10]; exact up_ne (show g ≠ 0 from by omega), fun j hj => by show d_g5 (3 * g + j) = M 4 (3 * g + j); exact hoth _ (by omega), fun _ _ => rfl, fun j hj => by show d_g6 (72 * g + j) = M 5 (72 * g + j); rw [hu1], fun j hj => by show d_g7 (242 * g + j) = M 6 (242 * g + j); rw [hu2], fun j hj => by show d_g8 (14 * g + j) = M 7 (14 * g + j); exact g2 _ (by omega)⟩
        · rcases hx with ⟨-, e0, hs⟩ | ⟨c, -⟩
          · rcases hy with ⟨-, d0, hu⟩ | ⟨c, -⟩
            · obtain ⟨p1, p2⟩ := plain _ _ e1 e2 (by rw [d3, k9]) (by rw [d4, k10]) hs hu
              exact ⟨by rw [e0, d0], p1, p2, rfl⟩
            · exact absurd z' c
          · exact absurd c z
