/-! evenings: stop, state -/
theorem state_core {a pa ac ra d : Int32} {D cl ha hu : Nat → Int32} {u1 u2 u3 u4 u5 u6 : Int32} {u7 u8 u9 u10 u11 u12 : Nat → Int32} {w1 w2 w3 w4 w5 w6 w7 w8 w9 w10 w11 : Int32} {w12 w13 w14 w15 w16 w17 : Nat → Int32} {c1 c2 c3 c4 c5 c6 c7 c8 c9 c10 c11 : Int32} {c12 c13 c14 c15 c16 c17 : Nat → Int32} {f q r r2 : Int32} (hE : StE a pa ac ra d D cl ha hu u1 u2 u3 u4 u5 u6 u7 u8 u9 u10 u11 u12 w1 w2 w3 w4 w5 w6 w7 w8 w9 w10 w11 w12 w13 w14 w15 w16 w17) (hx : R_k_etell f u1 u2 u3 ac u11 u5 u10 u4 r) (hy : R_y_state_s0 q f w1 w2 w3 w4 w5 w6 w7 w8 w9 w10 w11 w12 w13 w14 w15 w16 w17 r2 c10 c11 c12 c13 c14 c15 c16 c17 c1 c2 c3 c4 c5 c6 c7 c8 c9) : r = r2 := by
  obtain ⟨hd, H, ⟨t1, t2, t3, t4⟩, ⟨s1, s2, s3, s4, s5, s6⟩, ⟨eL, eO, eG, eS, eSo, eSt⟩, hL, hB⟩ := hE
  have hac := H.2.1
  obtain ⟨-, hy⟩ := hy
  rcases hx with ⟨c, e⟩ | ⟨c, e⟩ | ⟨c, e⟩ | ⟨c, e⟩ | ⟨c, z, hz, e⟩ | ⟨c, e⟩ | ⟨c, z, hz, e⟩ | ⟨c, e⟩
  · rcases hy with ⟨c2, e2, -⟩ | ⟨c2, e2, -⟩ | ⟨c2, e2, -⟩ | ⟨c2, e2, -⟩ | ⟨c2, e2, -⟩ | ⟨c2, e2, -⟩ | ⟨c2, z2, hz2, e2, -⟩ | ⟨c2, e2, -⟩
    · rw [e, e2]
    · rw [c2] at c; exact absurd c (by decide)
    · rw [c2] at c; exact absurd c (by decide)
    · rw [c2] at c; exact absurd c (by decide)
    · rw [c2] at c; exact absurd c (by decide)
    · rw [c2] at c; exact absurd c (by decide)
    · rw [c2] at c; exact absurd c (by decide)
    · rw [c2] at c; exact absurd c (by decide)
  · rcases hy with ⟨c2, e2, -⟩ | ⟨c2, e2, -⟩ | ⟨c2, e2, -⟩ | ⟨c2, e2, -⟩ | ⟨c2, e2, -⟩ | ⟨c2, e2, -⟩ | ⟨c2, z2, hz2, e2, -⟩ | ⟨c2, e2, -⟩
    · rw [c] at c2; exact absurd c2 (by decide)
    · rw [e, e2, s1]
    · rw [c] at c2; exact absurd c2 (by decide)
    · rw [c] at c2; exact absurd c2 (by decide)
    · rw [c] at c2; exact absurd c2 (by decide)
    · rw [c] at c2; exact absurd c2 (by decide)
    · rw [c] at c2; exact absurd c2 (by decide)
    · rw [c] at c2; exact absurd c2 (by decide)
  · rcases hy with ⟨c2, e2, -⟩ | ⟨c2, e2, -⟩ | ⟨c2, e2, -⟩ | ⟨c2, e2, -⟩ | ⟨c2, e2, -⟩ | ⟨c2, e2, -⟩ | ⟨c2, z2, hz2, e2, -⟩ | ⟨c2, e2, -⟩
    · rw [c] at c2; exact absurd c2 (by decide)
    · rw [c] at c2; exact absurd c2 (by decide)
    · rw [e, e2, s2]
    · rw [c] at c2; exact absurd c2 (by decide)
    · rw [c] at c2; exact absurd c2 (by decide)
    · rw [c] at c2; exact absurd c2 (by decide)
    · rw [c] at c2; exact absurd c2 (by decide)
    · rw [c] at c2; exact absurd c2 (by decide)
  · rcases hy with ⟨c2, e2, -⟩ | ⟨c2, e2, -⟩ | ⟨c2, e2, -⟩ | ⟨c2, e2, -⟩ | ⟨c2, e2, -⟩ | ⟨c2, e2, -⟩ | ⟨c2, z2, hz2, e2, -⟩ | ⟨c2, e2, -⟩
    · rw [c] at c2; exact absurd c2 (by decide)
    · rw [c] at c2; exact absurd c2 (by decide)
    · rw [c] at c2; exact absurd c2 (by decide)
    · rw [e, e2, s3]
    · rw [c] at c2; exact absurd c2 (by decide)
    · rw [c] at c2; exact absurd c2 (by decide)
    · rw [c] at c2; exact absurd c2 (by decide)
    · rw [c] at c2; exact absurd c2 (by decide)
  · rcases hy with ⟨c2, e2, -⟩ | ⟨c2, e2, -⟩ | ⟨c2, e2, -⟩ | ⟨c2, e2, -⟩ | ⟨c2, e2, -⟩ | ⟨c2, e2, -⟩ | ⟨c2, z2, hz2, e2, -⟩ | ⟨c2, e2, -⟩
    · rw [c] at c2; exact absurd c2 (by decide)
    · rw [c] at c2; exact absurd c2 (by decide)
    · rw [c] at c2; exact absurd c2 (by decide)
    · rw [c] at c2; exact absurd c2 (by decide)
    · rw [e, e2]; exact Lvs_eq (living_sp hac hz) hL
    · rw [c] at c2; exact absurd c2 (by decide)
    · rw [c] at c2; exact absurd c2 (by decide)
    · rw [c] at c2; exact absurd c2 (by decide)
  · rcases hy with ⟨c2, e2, -⟩ | ⟨c2, e2, -⟩ | ⟨c2, e2, -⟩ | ⟨c2, e2, -⟩ | ⟨c2, e2, -⟩ | ⟨c2, e2, -⟩ | ⟨c2, z2, hz2, e2, -⟩ | ⟨c2, e2, -⟩
    · rw [c] at c2; exact absurd c2 (by decide)
    · rw [c] at c2; exact absurd c2 (by decide)
    · rw [c] at c2; exact absurd c2 (by decide)
    · rw [c] at c2; exact absurd c2 (by decide)
    · rw [c] at c2; exact absurd c2 (by decide)
    · rw [e, e2, s4]
    · rw [c] at c2; exact absurd c2 (by decide)
    · rw [c] at c2; exact absurd c2 (by decide)
  · rcases hy with ⟨c2, e2, -⟩ | ⟨c2, e2, -⟩ | ⟨c2, e2, -⟩ | ⟨c2, e2, -⟩ | ⟨c2, e2, -⟩ | ⟨c2, e2, -⟩ | ⟨c2, z2, hz2, e2, -⟩ | ⟨c2, e2, -⟩
    · rw [c] at c2; exact absurd c2 (by decide)
    · rw [c] at c2; exact absurd c2 (by decide)
    · rw [c] at c2; exact absurd c2 (by decide)
    · rw [c] at c2; exact absurd c2 (by decide)
    · rw [c] at c2; exact absurd c2 (by decide)
    · rw [c] at c2; exact absurd c2 (by decide)
    · rw [t3] at hz2
      have x1 := sav_x hac hz
      have x2 := sav_y hac hL hz2
      clear hz hz2
      rw [e, e2, x1, x2]
      exact lsum_c _ (fun b hb => (eS b (by omega)).symm)
    · rw [c] at c2; exact absurd c2 (by decide)
  · rcases hy with ⟨c2, e2, -⟩ | ⟨c2, e2, -⟩ | ⟨c2, e2, -⟩ | ⟨c2, e2, -⟩ | ⟨c2, e2, -⟩ | ⟨c2, e2, -⟩ | ⟨c2, z2, hz2, e2, -⟩ | ⟨c2, e2, -⟩
    · rw [c] at c2; exact absurd c2 (by decide)
    · rw [c] at c2; exact absurd c2 (by decide)
    · rw [c] at c2; exact absurd c2 (by decide)
    · rw [c] at c2; exact absurd c2 (by decide)
    · rw [c] at c2; exact absurd c2 (by decide)
    · rw [c] at c2; exact absurd c2 (by decide)
    · rw [c] at c2; exact absurd c2 (by decide)
    · rw [e, e2, s5]
theorem state_sim {TN : Nat → Int32} {TF M : Nat → Nat → Int32} (h : TLg 0 TN TF M) (hr3 : 0 ≤ (TN 3).toInt ∧ (TN 3).toInt ≤ 2) (hr4 : 0 ≤ (TN 4).toInt ∧ (TN 4).toInt ≤ 2) {x0 x1 x2 x3 r r2 : Int32} (hx : S_x_state TN TF x0 x1 x2 x3 r) (hy : S_y_state M x0 x1 x2 x3 r2) : r = r2 := by
  obtain ⟨_, _, _, _, _, _, _, _, _, _, _, _, _, _, _, _, _, _, _, _, _, _, _, _, hx⟩ := hx
  obtain ⟨_, _, _, _, _, _, _, _, _, _, _, _, _, _, _, _, _, _, _, _, _, _, _, _, _, _, _, _, _, _, _, _, _, _, _, hy, hc⟩ := hy
  obtain ⟨p, n0, n1, n2, n3, n4, n5, n6, n7, n8, n9, n10, n11, hk, hx⟩ := hx
  obtain ⟨q, m0, m1, m2, m3, m4, m5, m6, m7, m8, m9, m10, m11, m12, m13, m14, m15, m16, hl, hy⟩ := hy
  have hs := reach_sim h hr3 hr4 rfl rfl (by clear hk hl hx hy; omega) hk hl
  clear hk hl
  have z0 : ¬ ((0 : Int32).toInt ≠ 0) := by decide
  have z1 : ¬ ((1 : Int32).toInt = 0) := by decide
  rcases hs with ⟨p0, q0⟩ | ⟨p1, q1, hs⟩
  · have ex : r = -2 := by
      rcases hx with ⟨-, ⟨-, e, -⟩ | ⟨c, -⟩⟩ | ⟨-, ⟨-, e, -⟩ | ⟨c, -⟩⟩ | ⟨-, e, -⟩
      · exact e
      · rw [p0] at c; exact absurd c z0
      · exact e
      · rw [p0] at c; exact absurd c z0
      · exact e
    rcases hy with ⟨c, -⟩ | ⟨-, e, -⟩
    · rw [q0] at c; exact absurd c z0
    · rw [ex, e]
  · rcases hy with hy | ⟨c, -⟩
    · rcases hs with ⟨ca, hs⟩ | ⟨ca, hs⟩
      · rcases hx with ⟨-, ⟨c, -⟩ | ⟨-, w, hw, e, -⟩⟩ | ⟨cb, -⟩ | ⟨c, -⟩
        · rw [p1] at c; exact absurd c z1
        · rw [e]; exact state_core hs hw hy
        · exact absurd ca cb
        · rw [p1] at c; exact absurd c z1
      · rcases hx with ⟨cb, -⟩ | ⟨-, ⟨c, -⟩ | ⟨-, w, hw, e, -⟩⟩ | ⟨c, -⟩
        · rw [cb] at ca; exact absurd ca (by decide)
        · rw [p1] at c; exact absurd c z1
        · rw [e]; exact state_core hs hw hy
        · rw [p1] at c; exact absurd c z1
    · rw [q1] at c; exact absurd c z1
theorem stop_no {mn D Bk lfj owj gtj svj soj stj : Nat → Int32} {a b cap r2 xt xp xa xr xch xen xni xli xhs xcp xec : Int32} {w1 w2 w3 w4 w5 w6 w7 w8 w9 w10 w11 : Int32} {w12 w13 w14 w15 w16 w17 : Nat → Int32} (hy : R_y_stop mn b a D xt xp xa xr xch xen xni xli xhs xcp xec lfj owj gtj svj soj stj Bk cap r2 w1 w2 w3 w4 w5 w6 w7 w8 w9 w10 w11 w12 w13 w14 w15 w16 w17) (hn : (a.toInt < 0 ∨ (mn 0).toInt ≤ a.toInt) ∨ (b.toInt < 0 ∨ (mn 1).toInt ≤ b.toInt)) : r2 = -1 := by
  obtain ⟨q, hb, hy⟩ := hy
  have hb := hasBook_sp hb
  rcases hy with hy | ⟨-, e, -⟩
  · obtain ⟨q1, r0, m1, m2, m3, m4, hh, hy⟩ := hy
    have hh := hand_sp hh
    rcases hb with ⟨-, pb⟩ | ⟨q0, -⟩
    · rcases hh with ⟨-, pa, -⟩ | ⟨r0, -⟩
      · clear hy
        exact absurd hn (by omega)
      · rcases hy with ⟨-, e, -⟩ | ⟨cc, -⟩
        · exact e
        · rw [r0] at cc; exact absurd (by decide) cc
    · rw [q1] at q0; exact absurd q0 (by decide)
  · exact e
theorem stop_fin {mn D Bk lfj owj gtj svj soj stj : Nat → Int32} {a b cap r r2 xt xp xa xr xch xen xni xli xhs xcp xec : Int32} {w1 w2 w3 w4 w5 w6 w7 w8 w9 w10 w11 : Int32} {w12 w13 w14 w15 w16 w17 : Nat → Int32} {pa ac us ra ch bo de : Int32} {u1 u2 u3 u4 u5 u6 : Int32} {u7 u8 u9 u10 u11 u12 : Nat → Int32} {cl ha hu sa ak fl pr lf sv ow gt st so : Nat → Int32} (hX : 0 ≤ a.toInt ∧ a.toInt ≤ 1) (ha2 : a.toInt < (mn 0).toInt) (hb2 : 0 ≤ b.toInt ∧ b.toInt < (mn 1).toInt) (hR : RT (fun j => D (36 * a.toInt.toNat + j)) pa ac us ra ch bo cl ha hu sa ak fl) (hG : GdT pa ac us ra ch bo cl ha hu sa ak fl) (B : Bke b de Bk pr) (hcap : cap.toInt = 0) (hx : R_k_playAll cl lf sa sv ow gt st so de pr pa ac ra hu ha ch r u1 u2 u3 u4 u5 u6 u7 u8 u9 u10 u11 u12) (hy : R_y_stop mn b a D xt xp xa xr xch xen xni xli xhs xcp xec lfj owj gtj svj soj stj Bk cap r2 w1 w2 w3 w4 w5 w6 w7 w8 w9 w10 w11 w12 w13 w14 w15 w16 w17) : r = r2 := by
  have h0 := B.2.2.1.1
  obtain ⟨q, hb, hy⟩ := hy
  have hb := hasBook_sp hb
  rcases hy with hy | ⟨q0, -⟩
  · obtain ⟨-, r0, m1, m2, m3, m4, hh, hy⟩ := hy
    have hh := hand_sp hh
    rcases hh with ⟨r1, -, e1, e2⟩ | ⟨-, p⟩
    · obtain ⟨e2, e3, e4⟩ := e2 hX.2
      have e2 : m2 = pa := e2.trans hR.1
      have e3 : m3 = ac := e3.trans hR.2.1
      have e4 : m4 = ra := e4.trans hR.2.2.1
      rcases hy with ⟨cc, -⟩ | ⟨-, v5, h5, c0, c1, c2, c3, c4, c5, c6, c7, c8, c9, c10, c11, c12, c13, hj, e, -⟩
      · rw [r1] at cc; exact absurd cc (by decide)
      · have h5 := deeds_sp B.1 h5
        have h5 : v5 = de := h5.trans B.2.1.1
        rw [e1, e2, e3, e4, h5] at hj
        have hs := pa_sim hX hR hG B hcap ⟨h0, Int.le_refl _⟩ hx hj
        rw [e]; exact hs.1
    · rcases p with p | p
      · exact absurd hX.1 (Int.not_le.mpr p)
      · exact absurd ha2 (Int.not_lt.mpr p)
  · rcases hb with ⟨q1, -⟩ | ⟨-, p⟩
    · rw [q0] at q1; exact absurd q1 (by decide)
    · rcases p with p | p
      · exact absurd hb2.1 (Int.not_le.mpr p)
      · exact absurd hb2.2 (Int.not_lt.mpr p)
theorem stop_sim {TN : Nat → Int32} {TF M : Nat → Nat → Int32} (h : TLg 0 TN TF M) (hr3 : 0 ≤ (TN 3).toInt ∧ (TN 3).toInt ≤ 2) (hr4 : 0 ≤ (TN 4).toInt ∧ (TN 4).toInt ≤ 2) {x0 x1 r r2 : Int32} (hx : S_x_stop TN TF x0 x1 r) (hy : S_y_stop M x0 x1 r2) : r = r2 := by
  obtain ⟨_, _, _, _, _, _, _, _, _, _, _, _, _, _, _, _, _, _, _, _, _, _, _, _, hx⟩ := hx
  obtain ⟨_, _, _, _, _, _, _, _, _, _, _, _, _, _, _, _, _, _, _, _, _, _, _, _, _, _, _, _, _, _, _, _, _, _, _, hy, hc⟩ := hy
  have h3 : M 4 0 = TN 3 := h.1.2.2.2.1
  have h4 : M 4 1 = TN 4 := h.1.2.2.2.2.1
  have no : r = -1 → ((x0.toInt < 0 ∨ (TN 3).toInt ≤ x0.toInt) ∨ (x1.toInt < 0 ∨ (TN 4).toInt ≤ x1.toInt)) → r = r2 := fun e hn => by rw [e, stop_no hy (by rw [h3, h4]; exact hn)]
  rcases hx with ⟨c, hx⟩ | ⟨c, hx⟩ | ⟨c, hx⟩
  · have c := ata_0 c
    rcases hx with ⟨-, e, -⟩ | ⟨-, e, -⟩ | ⟨-, e, -⟩
    · exact no e (Or.inl c)
    · exact no e (Or.inl c)
    · exact no e (Or.inl c)
  · have c := ata_1 c
    have ca : x0.toInt = 1 := by clear hx hy no; omega
    rcases hx with ⟨c2, e, -⟩ | ⟨c2, hx⟩ | ⟨c2, hx⟩
    · exact no e (Or.inr (ata_0 c2))
    · have c2 := ata_1 c2
      obtain ⟨b0, b1, b2, b3, b4, b5, b6, b7, b8, b9, b10, b11, b12, hp, e, -⟩ := hx
      have cb : x1.toInt = 1 := by clear hp hy no; omega
      have hb2 : 0 ≤ x1.toInt ∧ x1.toInt < (M 4 1).toInt := by rw [h4]; clear hp hy no; omega
      have ha2 : x0.toInt < (M 4 0).toInt := by rw [h3]; exact c.2
      rw [e]
      exact stop_fin (by clear hp hy no; omega) ha2 hb2 (RT_at1 h.1 ca) h.2.1.2 (Bk_at1 h cb) (by clear hp hy no; omega) hp hy
    · have c2 := ata_2 c2
      obtain ⟨b0, b1, b2, b3, b4, b5, b6, b7, b8, b9, b10, b11, b12, hp, e, -⟩ := hx
      have cb : x1.toInt = 0 := by clear hp hy no; omega
      have hb2 : 0 ≤ x1.toInt ∧ x1.toInt < (M 4 1).toInt := by rw [h4]; clear hp hy no; omega
      have ha2 : x0.toInt < (M 4 0).toInt := by rw [h3]; exact c.2
      rw [e]
      exact stop_fin (by clear hp hy no; omega) ha2 hb2 (RT_at1 h.1 ca) h.2.1.2 (Bk_at0 h cb) (by clear hp hy no; omega) hp hy
  · have c := ata_2 c
    have ca : x0.toInt = 0 := by clear hx hy no; omega
    rcases hx with ⟨c2, e, -⟩ | ⟨c2, hx⟩ | ⟨c2, hx⟩
    · exact no e (Or.inr (ata_0 c2))
    · have c2 := ata_1 c2
      obtain ⟨b0, b1, b2, b3, b4, b5, b6, b7, b8, b9, b10, b11, b12, hp, e, -⟩ := hx
      have cb : x1.toInt = 1 := by clear hp hy no; omega
      have hb2 : 0 ≤ x1.toInt ∧ x1.toInt < (M 4 1).toInt := by rw [h4]; clear hp hy no; omega
      have ha2 : x0.toInt < (M 4 0).toInt := by rw [h3]; exact c.2
      rw [e]
      exact stop_fin (by clear hp hy no; omega) ha2 hb2 (RT_at0 h.1 ca) h.2.1.1 (Bk_at1 h cb) (by clear hp hy no; omega) hp hy
    · have c2 := ata_2 c2
      obtain ⟨b0, b1, b2, b3, b4, b5, b6, b7, b8, b9, b10, b11, b12, hp, e, -⟩ := hx
      have cb : x1.toInt = 0 := by clear hp hy no; omega
      have hb2 : 0 ≤ x1.toInt ∧ x1.toInt < (M 4 1).toInt := by rw [h4]; clear hp hy no; omega
      have ha2 : x0.toInt < (M 4 0).toInt := by rw [h3]; exact c.2
      rw [e]
      exact stop_fin (by clear hp hy no; omega) ha2 hb2 (RT_at0 h.1 ca) h.2.1.1 (Bk_at0 h cb) (by clear hp hy no; omega) hp hy
