/-! evenings: a state reached by both -/
def StE (a pa ac ra d : Int32) (D cl ha hu : Nat → Int32) (u1 u2 u3 u4 u5 u6 : Int32) (u7 u8 u9 u10 u11 u12 : Nat → Int32) (w1 w2 w3 w4 w5 w6 w7 w8 w9 w10 w11 : Int32) (w12 w13 w14 w15 w16 w17 : Nat → Int32) : Prop := (0 ≤ d.toInt ∧ d.toInt ≤ 30) ∧ Hse a pa ac ra D cl ha hu ∧ (w1 = a ∧ w2 = pa ∧ w3 = ac ∧ w4 = ra) ∧ EvL pa ac d.toInt.toNat u1 u2 u3 u4 u5 u6 u7 u8 u9 u10 u11 u12 w5 w6 w7 w8 w9 w10 w11 w12 w13 w14 w15 w16 w17
theorem reach_fin {mn D Bk lfj owj gtj svj soj stj : Nat → Int32} {a b d cap r r2 xt xp xa xr xch xen xni xli xhs xcp xec : Int32} {u1 u2 u3 u4 u5 u6 : Int32} {u7 u8 u9 u10 u11 u12 : Nat → Int32} {w1 w2 w3 w4 w5 w6 w7 w8 w9 w10 w11 : Int32} {w12 w13 w14 w15 w16 w17 : Nat → Int32} {pa ac us ra ch bo de ech een eni ecl ehu eec : Int32} {cl ha hu sa ak fl pr lf sv ow gt st so : Nat → Int32} {P : Prop} (hX : 0 ≤ a.toInt ∧ a.toInt ≤ 1) (ha2 : a.toInt < (mn 0).toInt) (hb2 : 0 ≤ b.toInt ∧ b.toInt < (mn 1).toInt) (hR : RT (fun j => D (36 * a.toInt.toNat + j)) pa ac us ra ch bo cl ha hu sa ak fl) (hG : GdT pa ac us ra ch bo cl ha hu sa ak fl) (B : Bke b de Bk pr) (hcap : cap.toInt = 0) (hx : (d.toInt < 0 ∧ (r = (0 : Int32) ∧ P)) ∨ (R_k_reach_s0 d de cl lf sa sv ow gt st so pr pa ac ra hu ha ch ech een eni ecl ehu eec r u10 u11 u12 u1 u2 u3 u4 u5 u6 u7 u8 u9)) (hy : R_j_layState mn b a D xt xp xa xr xch xen xni xli xhs xcp xec lfj owj gtj svj soj stj Bk d cap r2 w1 w2 w3 w4 w5 w6 w7 w8 w9 w10 w11 w12 w13 w14 w15 w16 w17) : (r = 0 ∧ r2 = 0) ∨ (r = 1 ∧ r2 = 1 ∧ StE a pa ac ra d D cl ha hu u1 u2 u3 u4 u5 u6 u7 u8 u9 u10 u11 u12 w1 w2 w3 w4 w5 w6 w7 w8 w9 w10 w11 w12 w13 w14 w15 w16 w17) := by
  have h30 := B.2.2.1.2
  obtain ⟨q, hb, hy⟩ := hy
  have hb := hasBook_sp hb
  rcases hy with hy | ⟨q0, -⟩
  · obtain ⟨-, r0, m1, m2, m3, m4, hh, hy⟩ := hy
    have hh := hand_sp hh
    rcases hh with ⟨r1, -, e1, e2⟩ | ⟨-, p⟩
    · obtain ⟨e2, e3, e4⟩ := e2 hX.2
      have e2 : m2 = pa := e2.trans hR.1
      have e3 : m3 = ac := e3.trans hR.2.1
      have e4 : m4 = ra := e4.trans hR.2.2.1
      rcases hy with ⟨cc, -⟩ | ⟨-, v5, h5, v6, h6, hy⟩
      · rw [r1] at cc; exact absurd cc (by decide)
      · have h5 := deeds_sp B.1 h5
        have h5 : v5 = de := h5.trans B.2.1.1
        have h6 := in_sp h6
        rw [h5] at h6
        rcases hx with ⟨cx, ex, -⟩ | hx
        · rcases hy with ⟨q6, -⟩ | ⟨q6, ey, -⟩
          · rcases h6 with ⟨-, g, -⟩ | ⟨g, -⟩
            · exact absurd g (Int.not_le.mpr cx)
            · rw [q6] at g; exact absurd g (by decide)
          · exact Or.inl ⟨ex, ey⟩
        · obtain ⟨d0, hx⟩ := hx
          rcases hx with ⟨d1, b0, b1, b2, b3, b4, b5, b6, b7, b8, b9, b10, b11, b12, hp, e_0, e_1, e_2, e_3, e_4, e_5, e_6, e_7, e_8, e_9, e_10, e_11, e_12⟩ | ⟨d1, ex, -⟩
          · rcases hy with ⟨-, c0, c1, c2, c3, c4, c5, c6, c7, c8, c9, c10, c11, c12, c13, hj, hy⟩ | ⟨q6, -⟩
            · rw [e1, e2, e3, e4] at hj
              have hs := pf_sim hX hR hG B hcap ⟨d0, d1⟩ hp hj
              clear hp hj
              rcases hs with ⟨s0, s1, hE⟩ | ⟨s0, s1⟩
              · rcases hy with ⟨cc, -⟩ | ⟨-, f_0, f_1, f_2, f_3, f_4, f_5, f_6, f_7, f_8, f_9, f_10, f_11, f_12, f_13, f_14, f_15, f_16, f_17⟩
                · exact absurd (congrArg Int32.toInt s1) cc
                · refine Or.inr ⟨e_0.trans s0, f_0, ⟨d0, Int.le_trans d1 h30⟩, Hse_of hX hR hG, ⟨f_1.trans e1, f_2.trans e2, f_3.trans e3, f_4.trans e4⟩, ?_⟩
                  rw [e_1, e_2, e_3, e_4, e_5, e_6, e_7, e_8, e_9, e_10, e_11, e_12, f_5, f_6, f_7, f_8, f_9, f_10, f_11, f_12, f_13, f_14, f_15, f_16, f_17]
                  exact hE
              · rcases hy with ⟨-, f_0, -⟩ | ⟨cc, -⟩
                · exact Or.inl ⟨e_0.trans s0, f_0⟩
                · rw [cc] at s1; exact absurd s1 (Int.lt_irrefl _)
            · rcases h6 with ⟨g, -⟩ | ⟨-, g⟩
              · rw [q6] at g; exact absurd g (by decide)
              · rcases g with g | g
                · exact absurd d0 (Int.not_le.mpr g)
                · exact absurd d1 (Int.not_le.mpr g)
          · rcases hy with ⟨q6, -⟩ | ⟨-, ey, -⟩
            · rcases h6 with ⟨-, -, g⟩ | ⟨g, -⟩
              · exact absurd g (Int.not_le.mpr d1)
              · rw [q6] at g; exact absurd g (by decide)
            · exact Or.inl ⟨ex, ey⟩
    · rcases p with p | p
      · exact absurd hX.1 (Int.not_le.mpr p)
      · exact absurd ha2 (Int.not_lt.mpr p)
  · rcases hb with ⟨q1, -⟩ | ⟨-, p⟩
    · rw [q0] at q1; exact absurd q1 (by decide)
    · rcases p with p | p
      · exact absurd hb2.1 (Int.not_le.mpr p)
      · exact absurd hb2.2 (Int.not_lt.mpr p)
theorem lay_no2 {mn D Bk lfj owj gtj svj soj stj : Nat → Int32} {a b d cap r2 xt xp xa xr xch xen xni xli xhs xcp xec : Int32} {w1 w2 w3 w4 w5 w6 w7 w8 w9 w10 w11 : Int32} {w12 w13 w14 w15 w16 w17 : Nat → Int32} (hy : R_j_layState mn b a D xt xp xa xr xch xen xni xli xhs xcp xec lfj owj gtj svj soj stj Bk d cap r2 w1 w2 w3 w4 w5 w6 w7 w8 w9 w10 w11 w12 w13 w14 w15 w16 w17) (hn : (a.toInt < 0 ∨ (mn 0).toInt ≤ a.toInt) ∨ (b.toInt < 0 ∨ (mn 1).toInt ≤ b.toInt)) : r2 = 0 := by
  obtain ⟨q, hb, hy⟩ := hy
  have hb := hasBook_sp hb
  rcases hy with hy | ⟨-, e, -⟩
  · obtain ⟨q1, r0, m1, m2, m3, m4, hh, hy⟩ := hy
    have hh := hand_sp hh
    rcases hb with ⟨-, pb⟩ | ⟨q0, -⟩
    · rcases hh with ⟨-, pa, -⟩ | ⟨r0, -⟩
      · clear hy
        exact absurd hn (by omega)
      · rcases hy with ⟨-, e, -⟩ | ⟨cc, -⟩
        · exact e
        · rw [r0] at cc; exact absurd (by decide) cc
    · rw [q1] at q0; exact absurd q0 (by decide)
  · exact e
theorem Bk_at0 {TN : Nat → Int32} {TF M : Nat → Nat → Int32} {b : Int32} (h : TLg 0 TN TF M) (c : b.toInt = 0) : Bke b (TN 18) (M 6) (TF 13) := ⟨by omega, RB_at0 h.1 c, h.2.2.1.1⟩
theorem Bk_at1 {TN : Nat → Int32} {TF M : Nat → Nat → Int32} {b : Int32} (h : TLg 0 TN TF M) (c : b.toInt = 1) : Bke b (TN 19) (M 6) (TF 14) := ⟨by omega, RB_at1 h.1 c, h.2.2.1.2⟩
theorem reach_sim {TN : Nat → Int32} {TF M : Nat → Nat → Int32} {lfj owj gtj svj soj stj : Nat → Int32} {a b d cap r r2 xt xp xa xr xch xen xni xli xhs xcp xec : Int32} {u1 u2 u3 u4 u5 u6 : Int32} {u7 u8 u9 u10 u11 u12 : Nat → Int32} {w1 w2 w3 w4 w5 w6 w7 w8 w9 w10 w11 : Int32} {w12 w13 w14 w15 w16 w17 : Nat → Int32} {ech een eni ecl ehu eec : Int32} {lf ow gt sv st so m5 m6 : Nat → Int32} (h : TLg 0 TN TF M) (hr3 : 0 ≤ (TN 3).toInt ∧ (TN 3).toInt ≤ 2) (hr4 : 0 ≤ (TN 4).toInt ∧ (TN 4).toInt ≤ 2) (em5 : m5 = M 5) (em6 : m6 = M 6) (hcap : cap.toInt = 0) (hx : R_k_reach a (TN 3) b (TN 4) ech een eni ecl ehu eec lf ow gt sv st so d (TN 19) (TF 7) (TF 10) (TF 14) (TN 12) (TN 13) (TN 15) (TF 9) (TF 8) (TN 16) (TN 18) (TF 13) (TF 1) (TF 4) (TN 6) (TN 7) (TN 9) (TF 3) (TF 2) (TN 10) r u1 u2 u3 u4 u5 u6 u7 u8 u9 u10 u11 u12) (hy : R_j_layState (M 4) b a m5 xt xp xa xr xch xen xni xli xhs xcp xec lfj owj gtj svj soj stj m6 d cap r2 w1 w2 w3 w4 w5 w6 w7 w8 w9 w10 w11 w12 w13 w14 w15 w16 w17) : (r = 0 ∧ r2 = 0) ∨ (r = 1 ∧ r2 = 1 ∧ ((a.toInt = 0 ∧ StE a (TN 6) (TN 7) (TN 9) d (M 5) (TF 1) (TF 2) (TF 3) u1 u2 u3 u4 u5 u6 u7 u8 u9 u10 u11 u12 w1 w2 w3 w4 w5 w6 w7 w8 w9 w10 w11 w12 w13 w14 w15 w16 w17) ∨ (a.toInt = 1 ∧ StE a (TN 12) (TN 13) (TN 15) d (M 5) (TF 7) (TF 8) (TF 9) u1 u2 u3 u4 u5 u6 u7 u8 u9 u10 u11 u12 w1 w2 w3 w4 w5 w6 w7 w8 w9 w10 w11 w12 w13 w14 w15 w16 w17))) := by
  subst em5 em6
  have h3 : M 4 0 = TN 3 := h.1.2.2.2.1
  have h4 : M 4 1 = TN 4 := h.1.2.2.2.2.1
  have no : ∀ {r0 : Int32}, r = 0 → ((a.toInt < 0 ∨ (TN 3).toInt ≤ a.toInt) ∨ (b.toInt < 0 ∨ (TN 4).toInt ≤ b.toInt)) → r0 = r2 → r = 0 ∧ r2 = 0 := fun e hn _ => ⟨e, lay_no2 hy (by rw [h3, h4]; exact hn)⟩
  rcases hx with ⟨c, hx⟩ | ⟨c, hx⟩ | ⟨c, hx⟩
  · have c := ata_0 c
    rcases hx with ⟨-, e, -⟩ | ⟨-, e, -⟩ | ⟨-, e, -⟩
    · exact Or.inl (no e (Or.inl c) rfl)
    · exact Or.inl (no e (Or.inl c) rfl)
    · exact Or.inl (no e (Or.inl c) rfl)
  · have c := ata_1 c
    have ca : a.toInt = 1 := by clear hx hy; omega
    rcases hx with ⟨c2, e, -⟩ | ⟨c2, hx⟩ | ⟨c2, hx⟩
    · exact Or.inl (no e (Or.inr (ata_0 c2)) rfl)
    · have c2 := ata_1 c2
      have cb : b.toInt = 1 := by clear hx hy; omega
      have hb2 : 0 ≤ b.toInt ∧ b.toInt < (M 4 1).toInt := by rw [h4]; clear hx hy; omega
      have ha2 : a.toInt < (M 4 0).toInt := by rw [h3]; exact c.2
      rcases reach_fin (by clear hx hy; omega) ha2 hb2 (RT_at1 h.1 ca) h.2.1.2 (Bk_at1 h cb) hcap hx hy with k | ⟨k1, k2, k3⟩
      · exact Or.inl k
      · exact Or.inr ⟨k1, k2, Or.inr ⟨ca, k3⟩⟩
    · have c2 := ata_2 c2
      have cb : b.toInt = 0 := by clear hx hy; omega
      have hb2 : 0 ≤ b.toInt ∧ b.toInt < (M 4 1).toInt := by rw [h4]; clear hx hy; omega
      have ha2 : a.toInt < (M 4 0).toInt := by rw [h3]; exact c.2
      rcases reach_fin (by clear hx hy; omega) ha2 hb2 (RT_at1 h.1 ca) h.2.1.2 (Bk_at0 h cb) hcap hx hy with k | ⟨k1, k2, k3⟩
      · exact Or.inl k
      · exact Or.inr ⟨k1, k2, Or.inr ⟨ca, k3⟩⟩
  · have c := ata_2 c
    have ca : a.toInt = 0 := by clear hx hy; omega
    rcases hx with ⟨c2, e, -⟩ | ⟨c2, hx⟩ | ⟨c2, hx⟩
    · exact Or.inl (no e (Or.inr (ata_0 c2)) rfl)
    · have c2 := ata_1 c2
      have cb : b.toInt = 1 := by clear hx hy; omega
      have hb2 : 0 ≤ b.toInt ∧ b.toInt < (M 4 1).toInt := by rw [h4]; clear hx hy; omega
      have ha2 : a.toInt < (M 4 0).toInt := by rw [h3]; exact c.2
      rcases reach_fin (by clear hx hy; omega) ha2 hb2 (RT_at0 h.1 ca) h.2.1.1 (Bk_at1 h cb) hcap hx hy with k | ⟨k1, k2, k3⟩
      · exact Or.inl k
      · exact Or.inr ⟨k1, k2, Or.inl ⟨ca, k3⟩⟩
    · have c2 := ata_2 c2
      have cb : b.toInt = 0 := by clear hx hy; omega
      have hb2 : 0 ≤ b.toInt ∧ b.toInt < (M 4 1).toInt := by rw [h4]; clear hx hy; omega
      have ha2 : a.toInt < (M 4 0).toInt := by rw [h3]; exact c.2
      rcases reach_fin (by clear hx hy; omega) ha2 hb2 (RT_at0 h.1 ca) h.2.1.1 (Bk_at0 h cb) hcap hx hy with k | ⟨k1, k2, k3⟩
      · exact Or.inl k
      · exact Or.inr ⟨k1, k2, Or.inl ⟨ca, k3⟩⟩
