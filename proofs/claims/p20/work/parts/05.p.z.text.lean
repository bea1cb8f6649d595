/-! text() keeps the ranges -/
theorem GdT_n {pa ac us ra ch bo pa' ac' us' ra' ch' bo' : Int32} {cl ha hu sa ak fl cl' ha' hu' sa' ak' fl' : Nat → Int32} (e_pa : pa = pa') (e_ac : ac = ac') (e_us : us = us') (e_ra : ra = ra') (e_ch : ch = ch') (e_bo : bo = bo') (e_cl : cl = cl') (e_ha : ha = ha') (e_hu : hu = hu') (e_sa : sa = sa') (e_ak : ak = ak') (e_fl : fl = fl') (h : GdT pa' ac' us' ra' ch' bo' cl' ha' hu' sa' ak' fl') : GdT pa ac us ra ch bo cl ha hu sa ak fl := by
  subst e_pa; subst e_ac; subst e_us; subst e_ra; subst e_ch; subst e_bo; subst e_cl; subst e_ha; subst e_hu; subst e_sa; subst e_ak; subst e_fl
  exact h
theorem GdB_n {de de' : Int32} {pr pr' : Nat → Int32} (e1 : de = de') (e2 : pr = pr') (h : GdB de' pr') : GdB de pr := by
  subst e1; subst e2
  exact h
theorem GdD_n {mi mi' : Int32} {hv hv' : Nat → Int32} (e1 : mi = mi') (e2 : hv = hv') (h : GdD mi' hv') : GdD mi hv := by
  subst e1; subst e2
  exact h
theorem text_good {TN TN2 : Nat → Int32} {TF TF2 : Nat → Nat → Int32} {x0 x1 r : Int32} (hr3 : (0 ≤ (TN 3).toInt ∧ (TN 3).toInt ≤ 2) ∧ (0 ≤ (TN 4).toInt ∧ (TN 4).toInt ≤ 2) ∧ (0 ≤ (TN 5).toInt ∧ (TN 5).toInt ≤ 2)) (hx : S_x_text TN TF x0 x1 TN2 TF2 r) (G : Gd TN TF) : Gd TN2 TF2 := by
  obtain ⟨j_rfault, j_rplace, j_rtoken, j_rfrom, j_rto, j_rvalue, j_rtpalms, j_rtactors, rst_⟩ := hx
  obtain ⟨j_rtusurers, j_rtrate, j_rtchest, j_rtborrowers, j_rt_claps, j_rt_hands, j_rt_hunger, j_rt_saved, rst_⟩ := rst_
  obtain ⟨j_rt_asks, j_rt_floors, j_rbdeeds, j_rb_parts, j_rdmin, j_rd_halves, j_r_n, c_n1_2, rst_⟩ := rst_
  obtain ⟨c_n1_3, c_n1_4, c_n1_5, c_n1_6, c_n3_0, c_n3_3, c_n3_6, c_n3_9, rst_⟩ := rst_
  obtain ⟨c_n3_10, c_n3_11, c_g4, c_g5, c_g6, c_g7, c_g8, c_g9, rst_⟩ := rst_
  obtain ⟨c_n10_0, c_n10_3, c_n10_6, c_n10_9, c_n10_10, c_n10_11, c_g11, c_g12, rst_⟩ := rst_
  obtain ⟨c_g13, c_g14, c_g15, c_g16, c_n17_0, c_g18, c_n19_0, c_g20, rst_⟩ := rst_
  obtain ⟨c_n21_0, c_g22, c_n23_0, c_g24, c_n25_4, c_n25_5, c_n25_6, c_n25_7, rst_⟩ := rst_
  obtain ⟨c_n25_8, c_n25_9, c_n26_0, c_n26_3, c_n26_6, c_n26_9, c_n26_10, c_n26_11, rst_⟩ := rst_
  obtain ⟨c_g27, c_g28, c_g29, c_g30, c_g31, c_g32, c_n33_0, c_g34, rst_⟩ := rst_
  obtain ⟨c_n35_0, c_g36, c_g37, hx, eN, eF⟩ := rst_
  obtain ⟨m, hm, hx⟩ := cx hr3 hx
  subst eN; subst eF
  rcases hx with ⟨-, -, -, -, s0, s1, s2, s3, s4, s5, s6, s7, s8, s9, s10, s11, s12, s13, s14, s15, s16, s17, s18, s19, s20, s21, s22, s23, s24, s25, s26, s27, s28, s29, s30, s31, s32, s33, s34⟩ | ⟨num, hok, b0, b1, b2, b3, b4, b5, b6, b7, b8, b9, b10, b11, b12, b13, b14, b15, b16, b17, b18, b19, b20, b21, b22, hrd, -, -, hx⟩
  · obtain ⟨⟨G1, G2⟩, ⟨G3, G4⟩, G5, G6⟩ := G
    exact ⟨⟨GdT_n s3 s4 s5 s6 s7 s8 s9 s10 s11 s12 s13 s14 (G1), GdT_n s15 s16 s17 s18 s19 s20 s21 s22 s23 s24 s25 s26 (G2)⟩, ⟨GdB_n s27 s28 (G3), GdB_n s29 s30 (G4)⟩, GdD_n s31 s32 (G5), GdD_n s33 s34 (G6)⟩
  · rcases hx with ⟨-, -, s0, s1, s2, s3, s4, s5, s6, s7, s8, s9, s10, s11, s12, s13, s14, s15, s16, s17, s18, s19, s20, s21, s22, s23, s24, s25, s26, s27, s28, s29, s30, s31, s32, s33, s34⟩ | ⟨hb0, -, hput⟩
    · obtain ⟨⟨G1, G2⟩, ⟨G3, G4⟩, G5, G6⟩ := G
      exact ⟨⟨GdT_n s3 s4 s5 s6 s7 s8 s9 s10 s11 s12 s13 s14 (G1), GdT_n s15 s16 s17 s18 s19 s20 s21 s22 s23 s24 s25 s26 (G2)⟩, ⟨GdB_n s27 s28 (G3), GdB_n s29 s30 (G4)⟩, GdD_n s31 s32 (G5), GdD_n s33 s34 (G6)⟩
    · have hg := rd_good hrd hb0
      clear hrd
      obtain ⟨⟨G1, G2⟩, ⟨G3, G4⟩, G5, G6⟩ := G
      obtain ⟨gT, gB, gD⟩ := hg
      have hn : (0 ≤ x0.toInt ∧ x0.toInt ≤ 2) ∧ (num.toInt = 0 ∨ num.toInt = 1) := by
        clear hput
        obtain ⟨q, hok⟩ := hok
        refine ⟨q, ?_⟩
        have hmr : 0 ≤ m.toInt ∧ m.toInt ≤ 2 := by
          rcases (by omega : x0.toInt = 0 ∨ x0.toInt = 1 ∨ x0.toInt = 2) with e | e | e
          · rw [hm.1 e]; exact hr3.1
          · rw [hm.2.1 e]; exact hr3.2.1
          · rw [hm.2.2 e]; exact hr3.2.2
        rcases hok with ⟨-, q2, e⟩ | ⟨-, q2, q3, e⟩
        · rw [e]; omega
        · rw [e]; omega
      rcases (by omega : x0.toInt = 0 ∨ x0.toInt = 1 ∨ x0.toInt = 2) with hA | hA | hA
      · rcases hn.2 with hN | hN
        · obtain ⟨-, -, a3, a4, a5, a6, a7, a8, rst_⟩ := put_00 hA hN hr3.1 hput
          obtain ⟨f8, f9, f10, f11, f12, f13, a1, a2, rst_⟩ := rst_
          obtain ⟨a15, a16, a17, a18, a19, a20, a21, a22, rst_⟩ := rst_
          obtain ⟨a23, a24, a25, a26, a27, a28, a29, a30, rst_⟩ := rst_
          obtain ⟨a31, a32, a33, a34⟩ := rst_
          clear hput
          exact ⟨⟨GdT_n a3 a4 a5 a6 a7 a8 rfl rfl rfl rfl rfl rfl (GdT_c gT f8 f9 f10 f11 f12 f13), GdT_n a15 a16 a17 a18 a19 a20 a21 a22 a23 a24 a25 a26 (G2)⟩, ⟨GdB_n a27 a28 (G3), GdB_n a29 a30 (G4)⟩, GdD_n a31 a32 (G5), GdD_n a33 a34 (G6)⟩
        · obtain ⟨-, -, a15, a16, a17, a18, a19, a20, rst_⟩ := put_01 hA hN hr3.1 hput
          obtain ⟨f8, f9, f10, f11, f12, f13, a1, a2, rst_⟩ := rst_
          obtain ⟨a3, a4, a5, a6, a7, a8, a9, a10, rst_⟩ := rst_
          obtain ⟨a11, a12, a13, a14, a27, a28, a29, a30, rst_⟩ := rst_
          obtain ⟨a31, a32, a33, a34⟩ := rst_
          clear hput
          exact ⟨⟨GdT_n a3 a4 a5 a6 a7 a8 a9 a10 a11 a12 a13 a14 (G1), GdT_n a15 a16 a17 a18 a19 a20 rfl rfl rfl rfl rfl rfl (GdT_c gT f8 f9 f10 f11 f12 f13)⟩, ⟨GdB_n a27 a28 (G3), GdB_n a29 a30 (G4)⟩, GdD_n a31 a32 (G5), GdD_n a33 a34 (G6)⟩
      · rcases hn.2 with hN | hN
        · obtain ⟨-, -, a27, f3, a0, a2, a3, a4, rst_⟩ := put_10 hA hN hr3.2.1 hput
          obtain ⟨a5, a6, a7, a8, a9, a10, a11, a12, rst_⟩ := rst_
          obtain ⟨a13, a14, a15, a16, a17, a18, a19, a20, rst_⟩ := rst_
          obtain ⟨a21, a22, a23, a24, a25, a26, a29, a30, rst_⟩ := rst_
          obtain ⟨a31, a32, a33, a34⟩ := rst_
          clear hput
          exact ⟨⟨GdT_n a3 a4 a5 a6 a7 a8 a9 a10 a11 a12 a13 a14 (G1), GdT_n a15 a16 a17 a18 a19 a20 a21 a22 a23 a24 a25 a26 (G2)⟩, ⟨GdB_n a27 rfl (GdB_c gB f3), GdB_n a29 a30 (G4)⟩, GdD_n a31 a32 (G5), GdD_n a33 a34 (G6)⟩
        · obtain ⟨-, -, a29, f3, a0, a2, a3, a4, rst_⟩ := put_11 hA hN hr3.2.1 hput
          obtain ⟨a5, a6, a7, a8, a9, a10, a11, a12, rst_⟩ := rst_
          obtain ⟨a13, a14, a15, a16, a17, a18, a19, a20, rst_⟩ := rst_
          obtain ⟨a21, a22, a23, a24, a25, a26, a27, a28, rst_⟩ := rst_
          obtain ⟨a31, a32, a33, a34⟩ := rst_
          clear hput
          exact ⟨⟨GdT_n a3 a4 a5 a6 a7 a8 a9 a10 a11 a12 a13 a14 (G1), GdT_n a15 a16 a17 a18 a19 a20 a21 a22 a23 a24 a25 a26 (G2)⟩, ⟨GdB_n a27 a28 (G3), GdB_n a29 rfl (GdB_c gB f3)⟩, GdD_n a31 a32 (G5), GdD_n a33 a34 (G6)⟩
      · rcases hn.2 with hN | hN
        · obtain ⟨-, -, a31, f3, a0, a1, a3, a4, rst_⟩ := put_20 hA hN hr3.2.2 hput
          obtain ⟨a5, a6, a7, a8, a9, a10, a11, a12, rst_⟩ := rst_
          obtain ⟨a13, a14, a15, a16, a17, a18, a19, a20, rst_⟩ := rst_
          obtain ⟨a21, a22, a23, a24, a25, a26, a27, a28, rst_⟩ := rst_
          obtain ⟨a29, a30, a33, a34⟩ := rst_
          clear hput
          exact ⟨⟨GdT_n a3 a4 a5 a6 a7 a8 a9 a10 a11 a12 a13 a14 (G1), GdT_n a15 a16 a17 a18 a19 a20 a21 a22 a23 a24 a25 a26 (G2)⟩, ⟨GdB_n a27 a28 (G3), GdB_n a29 a30 (G4)⟩, GdD_n a31 rfl (GdD_c gD f3), GdD_n a33 a34 (G6)⟩
        · obtain ⟨-, -, a33, f3, a0, a1, a3, a4, rst_⟩ := put_21 hA hN hr3.2.2 hput
          obtain ⟨a5, a6, a7, a8, a9, a10, a11, a12, rst_⟩ := rst_
          obtain ⟨a13, a14, a15, a16, a17, a18, a19, a20, rst_⟩ := rst_
          obtain ⟨a21, a22, a23, a24, a25, a26, a27, a28, rst_⟩ := rst_
          obtain ⟨a29, a30, a31, a32⟩ := rst_
          clear hput
          exact ⟨⟨GdT_n a3 a4 a5 a6 a7 a8 a9 a10 a11 a12 a13 a14 (G1), GdT_n a15 a16 a17 a18 a19 a20 a21 a22 a23 a24 a25 a26 (G2)⟩, ⟨GdB_n a27 a28 (G3), GdB_n a29 a30 (G4)⟩, GdD_n a31 a32 (G5), GdD_n a33 rfl (GdD_c gD f3)⟩
theorem feed_good {TN TN2 : Nat → Int32} {TF TF2 : Nat → Nat → Int32} {x0 x1 x2 x3 x4 r : Int32} (hx : S_x_feed TN TF x0 x1 x2 x3 x4 TN2 TF2 r) (G : Gd TN TF) : Gd TN2 TF2 := by
  obtain ⟨cL, ct, -, eN, eF⟩ := hx
  subst eN; subst eF
  exact G
theorem end_good {TN TN2 : Nat → Int32} {TF TF2 : Nat → Nat → Int32} {x0 r : Int32} (hx : S_x_end TN TF x0 TN2 TF2 r) (G : Gd TN TF) : Gd TN2 TF2 := by
  obtain ⟨cL, -, eN, eF⟩ := hx
  subst eN; subst eF
  exact G
/-- slot g, and the ranges -/
def TLg (g : Nat) (TN : Nat → Int32) (TF : Nat → Nat → Int32) (M : Nat → Nat → Int32) : Prop := TLk g TN TF M ∧ Gd TN TF
theorem TLg_sl {g : Nat} {TN : Nat → Int32} {TF M M2 : Nat → Nat → Int32} (h : TLg g TN TF M) (s : Sl g M M2) : TLg g TN TF M2 := ⟨TLk_sl h.1 s, h.2⟩
theorem TLg_cp {a b : Nat} {TN : Nat → Int32} {TF TF2 M M2 : Nat → Nat → Int32} (h : TLg a TN TF M) (c : Cp a b M M2) (t : CpT TF TF2) : TLg b TN TF2 M2 := ⟨TLk_cp h.1 c t, Gd_cp h.2 t⟩
theorem feed_simg {TN TN2 : Nat → Int32} {TF TF2 M M2 : Nat → Nat → Int32} {x0 x1 x2 x3 x4 r r' : Int32} (h : TLg 0 TN TF M) (hr : 0 ≤ (TN 0).toInt ∧ (TN 0).toInt ≤ 600) (hx : S_x_feed TN TF x0 x1 x2 x3 x4 TN2 TF2 r) (hy : S_y_feed M x0 x1 x2 x3 x4 M2 r') : r = r' ∧ TLg 0 TN2 TF2 M2 ∧ (∀ g : Nat, 1 ≤ g → Sl g M M2) ∧ M2 8 = M 8 := by
  obtain ⟨a, b, c, d⟩ := feed_sim h.1 hr hx hy
  exact ⟨a, ⟨b, feed_good hx h.2⟩, c, d⟩
theorem end_simg {TN TN2 : Nat → Int32} {TF TF2 M M2 : Nat → Nat → Int32} {x0 r r' : Int32} (h : TLg 0 TN TF M) (hx : S_x_end TN TF x0 TN2 TF2 r) (hy : S_y_end M x0 M2 r') : r = r' ∧ TLg 0 TN2 TF2 M2 ∧ (∀ g : Nat, 1 ≤ g → Sl g M M2) ∧ M2 8 = M 8 := by
  obtain ⟨a, b, c, d⟩ := end_sim h.1 hx hy
  exact ⟨a, ⟨b, end_good hx h.2⟩, c, d⟩
theorem text_simg {TN TN2 : Nat → Int32} {TF TF2 M M2 : Nat → Nat → Int32} {x0 x1 r r' : Int32} (h : TLg 0 TN TF M) (hr0 : 0 ≤ (TN 0).toInt ∧ (TN 0).toInt ≤ 600) (hr3 : (0 ≤ (TN 3).toInt ∧ (TN 3).toInt ≤ 2) ∧ (0 ≤ (TN 4).toInt ∧ (TN 4).toInt ≤ 2) ∧ (0 ≤ (TN 5).toInt ∧ (TN 5).toInt ≤ 2)) (hmany : ∀ j : Nat, 0 ≤ (M 4 j).toInt ∧ (M 4 j).toInt ≤ 2) (hby : By (M 0)) (hx : S_x_text TN TF x0 x1 TN2 TF2 r) (hy : S_y_text M x0 x1 M2 r') : r = r' ∧ TLg 0 TN2 TF2 M2 ∧ (∀ g : Nat, 1 ≤ g → Sl g M M2) ∧ M2 8 = M 8 := by
  obtain ⟨a, b, c, d⟩ := text_sim h.1 hr0 hr3 hmany hby hx hy
  exact ⟨a, ⟨b, text_good hr3 hx h.2⟩, c, d⟩
