/-! the calls: what they do to all that is told -/
def S_x_feed (TN : Nat → Int32) (TF : Nat → Nat → Int32) (x0 : Int32) (x1 : Int32) (x2 : Int32) (x3 : Int32) (x4 : Int32) (TN2 : Nat → Int32) (TF2 : Nat → Nat → Int32) (r : Int32) : Prop := ∃ (c_n1_1 : Int32) (c_g2 : Nat → Int32), (R_x_feed (TN 0) x0 (TF 0) x1 x2 x3 x4 r c_n1_1 c_g2) ∧ (TN2 = (fun i => ([c_n1_1, (TN 1), (TN 2), (TN 3), (TN 4), (TN 5), (TN 6), (TN 7), (TN 8), (TN 9), (TN 10), (TN 11), (TN 12), (TN 13), (TN 14), (TN 15), (TN 16), (TN 17), (TN 18), (TN 19), (TN 20), (TN 21)] : List (Int32)).getD i 0)) ∧ (TF2 = (fun i => ([c_g2, (TF 1), (TF 2), (TF 3), (TF 4), (TF 5), (TF 6), (TF 7), (TF 8), (TF 9), (TF 10), (TF 11), (TF 12), (TF 13), (TF 14), (TF 15), (TF 16)] : List (Nat → Int32)).getD i (fun _ => 0)))
def S_y_feed (M : Nat → Nat → Int32) (x0 : Int32) (x1 : Int32) (x2 : Int32) (x3 : Int32) (x4 : Int32) (M2 : Nat → Nat → Int32) (r : Int32) : Prop := ∃ (c_g1 : Nat → Int32) (c_g2 : Nat → Int32), (R_y_feed (M 1) x0 (M 0) x1 x2 x3 x4 r c_g1 c_g2) ∧ (M2 = (fun i => ([c_g1, c_g2, (M 2), (M 3), (M 4), (M 5), (M 6), (M 7), (M 8)] : List (Nat → Int32)).getD i (fun _ => 0)))
def S_x_end (TN : Nat → Int32) (TF : Nat → Nat → Int32) (x0 : Int32) (TN2 : Nat → Int32) (TF2 : Nat → Nat → Int32) (r : Int32) : Prop := ∃ (c_n1_1 : Int32), (R_x_end x0 (TN 0) r c_n1_1) ∧ (TN2 = (fun i => ([c_n1_1, (TN 1), (TN 2), (TN 3), (TN 4), (TN 5), (TN 6), (TN 7), (TN 8), (TN 9), (TN 10), (TN 11), (TN 12), (TN 13), (TN 14), (TN 15), (TN 16), (TN 17), (TN 18), (TN 19), (TN 20), (TN 21)] : List (Int32)).getD i 0)) ∧ (TF2 = (fun i => ([(TF 0), (TF 1), (TF 2), (TF 3), (TF 4), (TF 5), (TF 6), (TF 7), (TF 8), (TF 9), (TF 10), (TF 11), (TF 12), (TF 13), (TF 14), (TF 15), (TF 16)] : List (Nat → Int32)).getD i (fun _ => 0)))
def S_y_end (M : Nat → Nat → Int32) (x0 : Int32) (M2 : Nat → Nat → Int32) (r : Int32) : Prop := ∃ (c_g1 : Nat → Int32), (R_y_end (M 1) x0 r c_g1) ∧ (M2 = (fun i => ([(M 0), c_g1, (M 2), (M 3), (M 4), (M 5), (M 6), (M 7), (M 8)] : List (Nat → Int32)).getD i (fun _ => 0)))
def S_x_text (TN : Nat → Int32) (TF : Nat → Nat → Int32) (x0 : Int32) (x1 : Int32) (TN2 : Nat → Int32) (TF2 : Nat → Nat → Int32) (r : Int32) : Prop := ∃ (j_rfault : Int32) (j_rplace : Int32) (j_rtoken : Int32) (j_rfrom : Int32) (j_rto : Int32) (j_rvalue : Int32) (j_rtpalms : Int32) (j_rtactors : Int32) (j_rtusurers : Int32) (j_rtrate : Int32) (j_rtchest : Int32) (j_rtborrowers : Int32) (j_rt_claps : Nat → Int32) (j_rt_hands : Nat → Int32) (j_rt_hunger : Nat → Int32) (j_rt_saved : Nat → Int32) (j_rt_asks : Nat → Int32) (j_rt_floors : Nat → Int32) (j_rbdeeds : Int32) (j_rb_parts : Nat → Int32) (j_rdmin : Int32) (j_rd_halves : Nat → Int32) (j_r_n : Nat → Int32) (c_n1_2 : Int32) (c_n1_3 : Int32) (c_n1_4 : Int32) (c_n1_5 : Int32) (c_n1_6 : Int32) (c_n3_0 : Int32) (c_n3_3 : Int32) (c_n3_6 : Int32) (c_n3_9 : Int32) (c_n3_10 : Int32) (c_n3_11 : Int32) (c_g4 : Nat → Int32) (c_g5 : Nat → Int32) (c_g6 : Nat → Int32) (c_g7 : Nat → Int32) (c_g8 : Nat → Int32) (c_g9 : Nat → Int32) (c_n10_0 : Int32) (c_n10_3 : Int32) (c_n10_6 : Int32) (c_n10_9 : Int32) (c_n10_10 : Int32) (c_n10_11 : Int32) (c_g11 : Nat → Int32) (c_g12 : Nat → Int32) (c_g13 : Nat → Int32) (c_g14 : Nat → Int32) (c_g15 : Nat → Int32) (c_g16 : Nat → Int32) (c_n17_0 : Int32) (c_g18 : Nat → Int32) (c_n19_0 : Int32) (c_g20 : Nat → Int32) (c_n21_0 : Int32) (c_g22 : Nat → Int32) (c_n23_0 : Int32) (c_g24 : Nat → Int32) (c_n25_4 : Int32) (c_n25_5 : Int32) (c_n25_6 : Int32) (c_n25_7 : Int32) (c_n25_8 : Int32) (c_n25_9 : Int32) (c_n26_0 : Int32) (c_n26_3 : Int32) (c_n26_6 : Int32) (c_n26_9 : Int32) (c_n26_10 : Int32) (c_n26_11 : Int32) (c_g27 : Nat → Int32) (c_g28 : Nat → Int32) (c_g29 : Nat → Int32) (c_g30 : Nat → Int32) (c_g31 : Nat → Int32) (c_g32 : Nat → Int32) (c_n33_0 : Int32) (c_g34 : Nat → Int32) (c_n35_0 : Int32) (c_g36 : Nat → Int32) (c_g37 : Nat → Int32), (R_x_text x0 (TN 3) (TN 4) (TN 5) x1 (TN 6) (TN 7) (TN 8) (TN 9) (TN 10) (TN 11) (TF 1) (TF 2) (TF 3) (TF 4) (TF 5) (TF 6) (TN 12) (TN 13) (TN 14) (TN 15) (TN 16) (TN 17) (TF 7) (TF 8) (TF 9) (TF 10) (TF 11) (TF 12) (TN 18) (TF 13) (TN 19) (TF 14) (TN 20) (TF 15) (TN 21) (TF 16) j_rfault j_rplace j_rtoken j_rfrom j_rto j_rvalue j_rtpalms j_rtactors j_rtusurers j_rtrate j_rtchest j_rtborrowers j_rt_claps j_rt_hands j_rt_hunger j_rt_saved j_rt_asks j_rt_floors j_rbdeeds j_rb_parts j_rdmin j_rd_halves j_r_n (TN 0) (TF 0) r c_n1_2 c_n1_3 c_n1_4 c_n1_5 c_n1_6 c_n3_0 c_n3_3 c_n3_6 c_n3_9 c_n3_10 c_n3_11 c_g4 c_g5 c_g6 c_g7 c_g8 c_g9 c_n10_0 c_n10_3 c_n10_6 c_n10_9 c_n10_10 c_n10_11 c_g11 c_g12 c_g13 c_g14 c_g15 c_g16 c_n17_0 c_g18 c_n19_0 c_g20 c_n21_0 c_g22 c_n23_0 c_g24 c_n25_4 c_n25_5 c_n25_6 c_n25_7 c_n25_8 c_n25_9 c_n26_0 c_n26_3 c_n26_6 c_n26_9 c_n26_10 c_n26_11 c_g27 c_g28 c_g29 c_g30 c_g31 c_g32 c_n33_0 c_g34 c_n35_0 c_g36 c_g37) ∧ (TN2 = (fun i => ([(0 : Int32), c_n1_2, c_n1_3, c_n1_4, c_n1_5, c_n1_6, c_n3_0, c_n3_3, c_n3_6, c_n3_9, c_n3_10, c_n3_11, c_n10_0, c_n10_3, c_n10_6, c_n10_9, c_n10_10, c_n10_11, c_n17_0, c_n19_0, c_n21_0, c_n23_0] : List (Int32)).getD i 0)) ∧ (TF2 = (fun i => ([(TF 0), c_g4, c_g5, c_g6, c_g7, c_g8, c_g9, c_g11, c_g12, c_g13, c_g14, c_g15, c_g16, c_g18, c_g20, c_g22, c_g24] : List (Nat → Int32)).getD i (fun _ => 0)))
def S_y_text (M : Nat → Nat → Int32) (x0 : Int32) (x1 : Int32) (M2 : Nat → Nat → Int32) (r : Int32) : Prop := ∃ (j_xvalue : Int32) (j_xwrongAt : Int32) (j_xlaterPlace : Int32) (j_m_read : Nat → Int32) (j_m_told : Nat → Int32) (j_xreached : Int32) (j_xbegins : Int32) (j_xsort : Int32) (j_xword : Int64) (j_xlaterFault : Int32) (c_n0_9 : Int32) (c_n0_10 : Int32) (c_n0_11 : Int32) (c_n0_12 : Int32) (c_n0_13 : Int32) (c_n0_14 : Int64) (c_n0_15 : Int32) (c_n0_16 : Int32) (c_n0_17 : Int32) (c_g2 : Nat → Int32) (c_g3 : Nat → Int32) (c_g4 : Nat → Int32) (c_g5 : Nat → Int32) (c_g6 : Nat → Int32) (c_g7 : Nat → Int32) (c_g8 : Nat → Int32) (c_g9 : Nat → Int32) (c_g10 : Nat → Int32), (R_y_text (M 1) (M 2) (M 3) x0 x1 (M 4) (M 0) j_xvalue j_xwrongAt j_xlaterPlace j_m_read j_m_told (M 7) (M 5) (M 6) j_xreached j_xbegins j_xsort j_xword j_xlaterFault r c_n0_9 c_n0_10 c_n0_11 c_n0_12 c_n0_13 c_n0_14 c_n0_15 c_n0_16 c_n0_17 c_g2 c_g3 c_g4 c_g5 c_g6 c_g7 c_g8 c_g9 c_g10) ∧ (M2 = (fun i => ([(M 0), c_g2, c_g3, c_g4, c_g5, c_g6, c_g7, c_g8, (M 8)] : List (Nat → Int32)).getD i (fun _ => 0)))
def S_x_fault (TN : Nat → Int32) (TF : Nat → Nat → Int32) (x0 : Int32) (r : Int32) : Prop := (R_x_fault x0 (TN 2) (TN 1) r)
def S_y_fault (M : Nat → Nat → Int32) (x0 : Int32) (r : Int32) : Prop := (R_y_fault x0 (M 3) (M 2) r)
def S_x_count (TN : Nat → Int32) (TF : Nat → Nat → Int32) (x0 : Int32) (r : Int32) : Prop := (R_x_count x0 (TN 3) (TN 4) (TN 5) r)
def S_y_count (M : Nat → Nat → Int32) (x0 : Int32) (r : Int32) : Prop := (R_y_count x0 (M 4) r)
def S_x_theatre (TN : Nat → Int32) (TF : Nat → Nat → Int32) (x0 : Int32) (x1 : Int32) (r : Int32) : Prop := (R_x_theatre x0 (TN 3) x1 (TN 12) (TN 13) (TN 15) (TN 16) (TN 14) (TN 17) (TF 7) (TF 8) (TF 9) (TF 10) (TF 11) (TF 12) (TN 6) (TN 7) (TN 9) (TN 10) (TN 8) (TN 11) (TF 1) (TF 2) (TF 3) (TF 4) (TF 5) (TF 6) r)
def S_y_theatre (M : Nat → Nat → Int32) (x0 : Int32) (x1 : Int32) (r : Int32) : Prop := ∃ (j_xtheatre : Int32) (j_xpalms : Int32) (j_xactors : Int32) (j_xrate : Int32) (c_n0_20 : Int32) (c_n0_21 : Int32) (c_n0_22 : Int32) (c_n0_23 : Int32), (R_y_theatre (M 4) x0 (M 5) j_xtheatre j_xpalms j_xactors j_xrate x1 r c_n0_20 c_n0_21 c_n0_22 c_n0_23)
def S_x_deed (TN : Nat → Int32) (TF : Nat → Nat → Int32) (x0 : Int32) (x1 : Int32) (x2 : Int32) (r : Int32) : Prop := (R_x_deed x0 (TN 4) x2 x1 (TN 19) (TF 14) (TN 18) (TF 13) r)
def S_y_deed (M : Nat → Nat → Int32) (x0 : Int32) (x1 : Int32) (x2 : Int32) (r : Int32) : Prop := (R_y_deed (M 4) x0 x1 (M 6) x2 r)
def S_x_heard (TN : Nat → Int32) (TF : Nat → Nat → Int32) (x0 : Int32) (x1 : Int32) (r : Int32) : Prop := (R_x_heard x0 (TN 5) x1 (TN 21) (TF 16) (TN 20) (TF 15) r)
def S_y_heard (M : Nat → Nat → Int32) (x0 : Int32) (x1 : Int32) (r : Int32) : Prop := ∃ (c_n0_44 : Int32), (R_y_heard (M 4) x0 (M 7) x1 r c_n0_44)
def S_y_image (M : Nat → Nat → Int32) (x0 : Int32) (M2 : Nat → Nat → Int32) (r : Int32) : Prop := ∃ (c_g1 : Nat → Int32) (c_g2 : Nat → Int32) (c_g3 : Nat → Int32) (c_g4 : Nat → Int32) (c_g5 : Nat → Int32) (c_g6 : Nat → Int32) (c_g7 : Nat → Int32) (c_g8 : Nat → Int32) (c_g9 : Nat → Int32), (R_y_image x0 (M 1) (M 2) (M 3) (M 4) (M 5) (M 6) (M 7) (M 0) (M 8) r c_g1 c_g2 c_g3 c_g4 c_g5 c_g6 c_g7 c_g8 c_g9) ∧ (M2 = (fun i => ([c_g1, c_g2, c_g3, c_g4, c_g5, c_g6, c_g7, c_g8, c_g9] : List (Nat → Int32)).getD i (fun _ => 0)))
def S_y_again (M : Nat → Nat → Int32) (x0 : Int32) (M2 : Nat → Nat → Int32) (r : Int32) : Prop := ∃ (c_g1 : Nat → Int32) (c_g2 : Nat → Int32) (c_g3 : Nat → Int32) (c_g4 : Nat → Int32) (c_g5 : Nat → Int32) (c_g6 : Nat → Int32) (c_g7 : Nat → Int32) (c_g8 : Nat → Int32), (R_y_again x0 (M 8) (M 1) (M 2) (M 3) (M 4) (M 5) (M 6) (M 7) (M 0) r c_g1 c_g2 c_g3 c_g4 c_g5 c_g6 c_g7 c_g8) ∧ (M2 = (fun i => ([c_g1, c_g2, c_g3, c_g4, c_g5, c_g6, c_g7, c_g8, (M 8)] : List (Nat → Int32)).getD i (fun _ => 0)))
def TLk (g : Nat) (TN : Nat → Int32) (TF : Nat → Nat → Int32) (M : Nat → Nat → Int32) : Prop := M 1 g = TN 0 ∧ M 2 g = TN 1 ∧ M 3 g = TN 2 ∧ M 4 (3 * g) = TN 3 ∧ M 4 (3 * g + 1) = TN 4 ∧ M 4 (3 * g + 2) = TN 5 ∧ (∀ j : Nat, j < 600 → M 0 (600 * g + j) = TF 0 j) ∧ RT (fun j => M 5 (72 * g + j)) (TN 6) (TN 7) (TN 8) (TN 9) (TN 10) (TN 11) (TF 1) (TF 2) (TF 3) (TF 4) (TF 5) (TF 6) ∧ RT (fun j => M 5 (72 * g + 36 + j)) (TN 12) (TN 13) (TN 14) (TN 15) (TN 16) (TN 17) (TF 7) (TF 8) (TF 9) (TF 10) (TF 11) (TF 12) ∧ RB (fun j => M 6 (242 * g + j)) (TN 18) (TF 13) ∧ RB (fun j => M 6 (242 * g + 121 + j)) (TN 19) (TF 14) ∧ RD (fun j => M 7 (14 * g + j)) (TN 20) (TF 15) ∧ RD (fun j => M 7 (14 * g + 7 + j)) (TN 21) (TF 16)
/-- slot g is as it was -/
def Sl (g : Nat) (M M2 : Nat → Nat → Int32) : Prop := M2 1 g = M 1 g ∧ M2 2 g = M 2 g ∧ M2 3 g = M 3 g ∧ (∀ j : Nat, j < 3 → M2 4 (3 * g + j) = M 4 (3 * g + j)) ∧ (∀ j : Nat, j < 600 → M2 0 (600 * g + j) = M 0 (600 * g + j)) ∧ (∀ j : Nat, j < 72 → M2 5 (72 * g + j) = M 5 (72 * g + j)) ∧ (∀ j : Nat, j < 242 → M2 6 (242 * g + j) = M 6 (242 * g + j)) ∧ (∀ j : Nat, j < 14 → M2 7 (14 * g + j) = M 7 (14 * g + j))
theorem Sl_rf {g : Nat} {M : Nat → Nat → Int32} : Sl g M M := ⟨rfl, rfl, rfl, fun _ _ => rfl, fun _ _ => rfl, fun _ _ => rfl, fun _ _ => rfl, fun _ _ => rfl⟩
theorem RT_c {td td2 : Nat → Int32} {pa ac us ra ch bo : Int32} {cl ha hu sa ak fl : Nat → Int32} (e : ∀ j : Nat, j < 36 → td2 j = td j) (h : RT td pa ac us ra ch bo cl ha hu sa ak fl) : RT td2 pa ac us ra ch bo cl ha hu sa ak fl := by
  obtain ⟨c0, c1, c2, c3, c4, c5, A, B, C, rA, rB, rC⟩ := h
  refine ⟨by rw [e 0 (by omega)]; exact c0, by rw [e 1 (by omega)]; exact c1, by rw [e 2 (by omega)]; exact c2, by rw [e 3 (by omega)]; exact c3, by rw [e 4 (by omega)]; exact c4, by rw [e 5 (by omega)]; exact c5, fun i hi => ?_, fun i hi => ?_, fun i hi => ?_, rA, rB, rC⟩
  · rw [e (6 + 2 * i) (by omega), e (7 + 2 * i) (by omega)]; exact A i hi
  · rw [e (16 + 2 * i) (by omega), e (17 + 2 * i) (by omega)]; exact B i hi
  · rw [e (28 + 2 * i) (by omega), e (29 + 2 * i) (by omega)]; exact C i hi
theorem RB_c {td td2 : Nat → Int32} {de : Int32} {pr : Nat → Int32} (e : ∀ j : Nat, j < 121 → td2 j = td j) (h : RB td de pr) : RB td2 de pr := by
  obtain ⟨c0, A, rA⟩ := h
  exact ⟨by rw [e 0 (by omega)]; exact c0, fun i hi j hj => by rw [e _ (by omega)]; exact A i hi j hj, rA⟩
theorem RD_c {td td2 : Nat → Int32} {mi : Int32} {hv : Nat → Int32} (e : ∀ j : Nat, j < 7 → td2 j = td j) (h : RD td mi hv) : RD td2 mi hv := by
  obtain ⟨c0, A, rA⟩ := h
  exact ⟨by rw [e 0 (by omega)]; exact c0, fun i hi => by rw [e _ (by omega)]; exact A i hi, rA⟩
theorem TLk_sl {g : Nat} {TN : Nat → Int32} {TF M M2 : Nat → Nat → Int32} (h : TLk g TN TF M) (s : Sl g M M2) : TLk g TN TF M2 := by
  obtain ⟨h1, h2, h3, h4, h5, h6, hT, hA, hB, hC, hD, hE, hF⟩ := h
  obtain ⟨s1, s2, s3, s4, s0, s5, s6, s7⟩ := s
  refine ⟨by rw [s1, h1], by rw [s2, h2], by rw [s3, h3], by have := s4 0 (by omega); rw [Nat.add_zero] at this; rw [this, h4], by rw [s4 1 (by omega), h5], by rw [s4 2 (by omega), h6], fun j hj => by rw [s0 j hj, hT j hj], RT_c (fun j hj => s5 j (by omega)) hA, RT_c (fun j hj => by have := s5 (36 + j) (by omega); rw [← Nat.add_assoc] at this; exact this) hB, RB_c (fun j hj => s6 j (by omega)) hC, RB_c (fun j hj => by have := s6 (121 + j) (by omega); rw [← Nat.add_assoc] at this; exact this) hD, RD_c (fun j hj => s7 j (by omega)) hE, RD_c (fun j hj => by have := s7 (7 + j) (by omega); rw [← Nat.add_assoc] at this; exact this) hF⟩
/-- the same, when only some numbers and the tape of slot 0 are new -/
theorem TLk_new {TN TN2 : Nat → Int32} {TF TF2 M M2 : Nat → Nat → Int32} (h : TLk 0 TN TF M) (h0 : ∀ j : Nat, j < 600 → M2 0 j = TF2 0 j) (h1 : M2 1 0 = TN2 0) (h2 : M2 2 0 = TN2 1) (h3 : M2 3 0 = TN2 2) (eN : ∀ i : Nat, 3 ≤ i → i < 22 → TN2 i = TN i) (eF : ∀ i : Nat, 1 ≤ i → i < 17 → TF2 i = TF i) (e4 : M2 4 = M 4) (e5 : M2 5 = M 5) (e6 : M2 6 = M 6) (e7 : M2 7 = M 7) : TLk 0 TN2 TF2 M2 := by
  obtain ⟨-, -, -, k4, k5, k6, -, hA, hB, hC, hD, hE, hF⟩ := h
  refine ⟨h1, h2, h3, by rw [e4, eN 3 (by omega) (by omega)]; exact k4, by rw [e4, eN 4 (by omega) (by omega)]; exact k5, by rw [e4, eN 5 (by omega) (by omega)]; exact k6, fun j hj => by rw [show 600 * 0 + j = j from by omega]; exact h0 j hj, ?_, ?_, ?_, ?_, ?_, ?_⟩
  · rw [e5, eN 6 (by omega) (by omega), eN 7 (by omega) (by omega), eN 8 (by omega) (by omega), eN 9 (by omega) (by omega), eN 10 (by omega) (by omega), eN 11 (by omega) (by omega), eF 1 (by omega) (by omega), eF 2 (by omega) (by omega), eF 3 (by omega) (by omega), eF 4 (by omega) (by omega), eF 5 (by omega) (by omega), eF 6 (by omega) (by omega)]; exact hA
  · rw [e5, eN 12 (by omega) (by omega), eN 13 (by omega) (by omega), eN 14 (by omega) (by omega), eN 15 (by omega) (by omega), eN 16 (by omega) (by omega), eN 17 (by omega) (by omega), eF 7 (by omega) (by omega), eF 8 (by omega) (by omega), eF 9 (by omega) (by omega), eF 10 (by omega) (by omega), eF 11 (by omega) (by omega), eF 12 (by omega) (by omega)]; exact hB
  · rw [e6, eN 18 (by omega) (by omega), eF 13 (by omega) (by omega)]; exact hC
  · rw [e6, eN 19 (by omega) (by omega), eF 14 (by omega) (by omega)]; exact hD
  · rw [e7, eN 20 (by omega) (by omega), eF 15 (by omega) (by omega)]; exact hE
  · rw [e7, eN 21 (by omega) (by omega), eF 16 (by omega) (by omega)]; exact hF
/-! feeding -/
theorem sh_b (v : BitVec 32) (s : Nat) (hs : s ≤ 24) : (v >>> s).signExtend 8 = (v.sshiftRight s).signExtend 8 := by
  apply BitVec.eq_of_getLsbD_eq
  intro i hi
  have h1 : i < 32 := by omega
  have h2 : s + i < 32 := by omega
  have h3 : ¬ 32 ≤ i := by omega
  rw [BitVec.getLsbD_signExtend, BitVec.getLsbD_signExtend, if_pos h1, if_pos h1, BitVec.getLsbD_ushiftRight, BitVec.getLsbD_sshiftRight, if_pos h2]
  simp [h3]
theorem sh_eq (a : Int32) {l : Int32} (hl : l.toInt = 0 ∨ l.toInt = 8 ∨ l.toInt = 16 ∨ l.toInt = 24) : Int32.toInt8 (UInt32.toInt32 (Int32.toUInt32 a >>> (Int32.toUInt32 l &&& Int32.toUInt32 31))) = Int32.toInt8 (a >>> (l &&& (31 : Int32))) := by
  rcases hl with h | h | h | h
  · have e : l = 0 := mi_eq (by rw [h]; decide)
    subst e
    exact Int8.toBitVec_inj.mp (sh_b a.toBitVec 0 (by decide))
  · have e : l = 8 := mi_eq (by rw [h]; decide)
    subst e
    exact Int8.toBitVec_inj.mp (sh_b a.toBitVec 8 (by decide))
  · have e : l = 16 := mi_eq (by rw [h]; decide)
    subst e
    exact Int8.toBitVec_inj.mp (sh_b a.toBitVec 16 (by decide))
  · have e : l = 24 := mi_eq (by rw [h]; decide)
    subst e
    exact Int8.toBitVec_inj.mp (sh_b a.toBitVec 24 (by decide))
theorem four_sim {a L : Int32} {kt' tp' sz' : Nat → Int32} : ∀ (N N' : Nat) (l len : Int32) (kt : Nat → Int32) (l' : Int32) (tp sz : Nat → Int32), fx (T_k_append_3 a L kt') N (l, len, kt) → fx (T_j_four_3 a tp' sz') N' (l', tp, sz) → l' = l → (l.toInt = -8 ∨ l.toInt = 0 ∨ l.toInt = 8 ∨ l.toInt = 16 ∨ l.toInt = 24) → 0 ≤ len.toInt → 8 * len.toInt + l.toInt + 8 ≤ 4800 → sz 0 = len → (∀ j : Nat, j < 600 → tp j = kt j) → sz' 0 = L ∧ 8 * L.toInt = 8 * len.toInt + l.toInt + 8 ∧ (∀ j : Nat, j < 600 → tp' j = kt' j) ∧ (∀ j : Nat, j ≠ 0 → sz' j = sz j) ∧ (∀ j : Nat, 600 ≤ j → tp' j = tp j) := by
  intro N
  induction N with
  | zero => intro N' l len kt l' tp sz h; exact h.elim
  | succ N ih =>
    intro N' l len kt l' tp sz h h' el hl h0 h6 hs hA
    cases N' with
    | zero => exact h'.elim
    | succ N' =>
      subst el
      replace h := fx_o h
      replace h' := fx_o h'
      dsimp only [T_k_append_3] at h
      dsimp only [T_j_four_3] at h'
      obtain ⟨b0, e0, h'⟩ := h'
      rcases h with ⟨c, eL, ek⟩ | ⟨c, h⟩
      · rcases h' with ⟨-, et, es⟩ | ⟨c', -⟩
        · rw [eL, ek, et, es]
          exact ⟨hs, by omega, hA, fun _ _ => rfl, fun _ _ => rfl⟩
        · omega
      · rcases h' with ⟨c', -⟩ | ⟨-, b1, e1, b2, e2, b3, e3, b4, e4, b5, e5, b6, e6, h'⟩
        · omega
        · rcases h with ⟨c2, -⟩ | ⟨c2, z4, f4, z5, f5, g6, f6, z7, f7, z8, f8, h⟩
          · omega
          · have hb : b0 = len := by rw [← e0]; exact hs
            subst hb
            have h7 : z7.toInt = b0.toInt + 1 := by rw [f7]; exact mi_addc (by decide) (by omega) (by omega)
            have h8 : z8.toInt = l'.toInt - 8 := by rw [f8, mi_addc (C := -8) (by decide) (by omega) (by omega)]; omega
            have hv : z5 = b2 := by rw [f5, e2, f4, e1, sh_eq a (by omega)]
            have q := ih N' z8 z7 g6 b6 b3 b5 h h' (by rw [e6, f8]) (by omega) (by omega) (by omega) (by rw [← e5, e4, f7]; exact up_eq) (fun j hj => by
              rw [← e3, ← f6, hv]
              by_cases hk : j = Int32.toNatClampNeg b0
              · rw [hk, up_eq, up_eq]
              · rw [up_ne hk, up_ne hk]; exact hA j hj)
            obtain ⟨q1, q2, q3, q4, q5⟩ := q
            refine ⟨q1, by omega, q3, fun j hj => ?_, fun j hj => ?_⟩
            · rw [q4 j hj, ← e5]; exact up_ne hj
            · rw [q5 j hj, ← e3, mi_cl]; exact up_ne (by omega)
theorem four_s {a len L : Int32} {kt kt' tp tp' sz sz' : Nat → Int32} (h : R_k_append a len kt L kt') (h' : R_j_four a tp sz tp' sz') (h0 : 0 ≤ len.toInt) (h6 : len.toInt ≤ 596) (hs : sz 0 = len) (hA : ∀ j : Nat, j < 600 → tp j = kt j) : sz' 0 = L ∧ L.toInt = len.toInt + 4 ∧ (∀ j : Nat, j < 600 → tp' j = kt' j) ∧ (∀ j : Nat, j ≠ 0 → sz' j = sz j) ∧ (∀ j : Nat, 600 ≤ j → tp' j = tp j) := by
  have z24 : (24 : Int32).toInt = 24 := by decide
  obtain ⟨q1, q2, q3, q4, q5⟩ := four_sim _ _ _ _ _ _ _ _ h h' rfl (by omega) h0 (by omega) hs hA
  exact ⟨q1, by omega, q3, q4, q5⟩
theorem feed_sim {TN TN2 : Nat → Int32} {TF TF2 M M2 : Nat → Nat → Int32} {x0 x1 x2 x3 x4 r r' : Int32} (h : TLk 0 TN TF M) (hr : 0 ≤ (TN 0).toInt ∧ (TN 0).toInt ≤ 600) (hx : S_x_feed TN TF x0 x1 x2 x3 x4 TN2 TF2 r) (hy : S_y_feed M x0 x1 x2 x3 x4 M2 r') : r = r' ∧ TLk 0 TN2 TF2 M2 ∧ (∀ g : Nat, 1 ≤ g → Sl g M M2) ∧ M2 8 = M 8 := by
  obtain ⟨cL, ct, hx, eN, eF⟩ := hx
  obtain ⟨cT, cS, hy, eM⟩ := hy
  obtain ⟨z1, f1, hx⟩ := hx
  obtain ⟨y1, k1, y2, k2, hy⟩ := hy
  have hA : ∀ j : Nat, j < 600 → M 0 j = TF 0 j := fun j hj => by
    have := h.2.2.2.2.2.2.1 j hj
    rw [show 600 * 0 + j = j from by omega] at this
    exact this
  have hs : M 1 0 = TN 0 := h.1
  have hyx : y1 = TN 0 := by rw [← k1]; exact hs
  subst hyx
  rcases hx with ⟨c, a1, t1, p1, a2, t2, p2, a3, t3, p3, a4, t4, p4, a5, t5, p5, e0, e1, e2⟩ | ⟨c, e0, e1, e2⟩
  · rcases hy with ⟨c', b1, s1, q1, w1, -, b2, s2, q2, w2, -, b3, s3, q3, w3, -, b4, s4, q4, w4, -, b5, s5, q5, w5, v5, d0, d1, d2⟩ | ⟨c', -⟩
    · obtain ⟨m1, n1, A1, B1, C1⟩ := four_s p1 q1 (by omega) (by omega) hs hA
      obtain ⟨m2, n2, A2, B2, C2⟩ := four_s p2 q2 (by omega) (by omega) m1 A1
      obtain ⟨m3, n3, A3, B3, C3⟩ := four_s p3 q3 (by omega) (by omega) m2 A2
      obtain ⟨m4, n4, A4, B4, C4⟩ := four_s p4 q4 (by omega) (by omega) m3 A3
      obtain ⟨m5, n5, A5, B5, C5⟩ := four_s p5 q5 (by omega) (by omega) m4 A4
      subst eN; subst eF; subst eM
      refine ⟨by rw [e0, d0, ← v5]; exact m5.symm, ?_, ?_, rfl⟩
      · refine TLk_new h ?_ ?_ h.2.1 h.2.2.1 ?_ ?_ rfl rfl rfl rfl
        · intro j hj
          show cT j = ct j
          rw [d1, e2]; exact A5 j hj
        · show cS 0 = cL
          rw [d2, e1]; exact m5
        · intro i h1 h2
          rcases (by omega : i = 3 ∨ i = 4 ∨ i = 5 ∨ i = 6 ∨ i = 7 ∨ i = 8 ∨ i = 9 ∨ i = 10 ∨ i = 11 ∨ i = 12 ∨ i = 13 ∨ i = 14 ∨ i = 15 ∨ i = 16 ∨ i = 17 ∨ i = 18 ∨ i = 19 ∨ i = 20 ∨ i = 21) with e | e | e | e | e | e | e | e | e | e | e | e | e | e | e | e | e | e | e <;> subst e <;> rfl
        · intro i h1 h2
          rcases (by omega : i = 1 ∨ i = 2 ∨ i = 3 ∨ i = 4 ∨ i = 5 ∨ i = 6 ∨ i = 7 ∨ i = 8 ∨ i = 9 ∨ i = 10 ∨ i = 11 ∨ i = 12 ∨ i = 13 ∨ i = 14 ∨ i = 15 ∨ i = 16) with e | e | e | e | e | e | e | e | e | e | e | e | e | e | e | e <;> subst e <;> rfl
      · intro g hg
        refine ⟨?_, rfl, rfl, fun _ _ => rfl, fun j hj => ?_, fun _ _ => rfl, fun _ _ => rfl, fun _ _ => rfl⟩
        · show cS g = M 1 g
          rw [d2, B5 g (by omega), B4 g (by omega), B3 g (by omega), B2 g (by omega), B1 g (by omega)]
        · show cT (600 * g + j) = M 0 (600 * g + j)
          rw [d1, C5 _ (by omega), C4 _ (by omega), C3 _ (by omega), C2 _ (by omega), C1 _ (by omega)]
    · omega
  · rcases hy with ⟨c', -⟩ | ⟨c', d0, d1, d2⟩
    · omega
    · subst eN; subst eF; subst eM
      refine ⟨by rw [e0, d0], ?_, ?_, rfl⟩
      · refine TLk_new h ?_ ?_ h.2.1 h.2.2.1 ?_ ?_ rfl rfl rfl rfl
        · intro j hj
          show cT j = ct j
          rw [d1, e2]; exact hA j hj
        · show cS 0 = cL
          rw [d2, e1]; exact hs
        · intro i h1 h2
          rcases (by omega : i = 3 ∨ i = 4 ∨ i = 5 ∨ i = 6 ∨ i = 7 ∨ i = 8 ∨ i = 9 ∨ i = 10 ∨ i = 11 ∨ i = 12 ∨ i = 13 ∨ i = 14 ∨ i = 15 ∨ i = 16 ∨ i = 17 ∨ i = 18 ∨ i = 19 ∨ i = 20 ∨ i = 21) with e | e | e | e | e | e | e | e | e | e | e | e | e | e | e | e | e | e | e <;> subst e <;> rfl
        · intro i h1 h2
          rcases (by omega : i = 1 ∨ i = 2 ∨ i = 3 ∨ i = 4 ∨ i = 5 ∨ i = 6 ∨ i = 7 ∨ i = 8 ∨ i = 9 ∨ i = 10 ∨ i = 11 ∨ i = 12 ∨ i = 13 ∨ i = 14 ∨ i = 15 ∨ i = 16) with e | e | e | e | e | e | e | e | e | e | e | e | e | e | e | e <;> subst e <;> rfl
      · intro g hg
        refine ⟨?_, rfl, rfl, fun _ _ => rfl, fun j hj => ?_, fun _ _ => rfl, fun _ _ => rfl, fun _ _ => rfl⟩
        · show cS g = M 1 g
          rw [d2]
        · show cT (600 * g + j) = M 0 (600 * g + j)
          rw [d1]
theorem end_sim {TN TN2 : Nat → Int32} {TF TF2 M M2 : Nat → Nat → Int32} {x0 r r' : Int32} (h : TLk 0 TN TF M) (hx : S_x_end TN TF x0 TN2 TF2 r) (hy : S_y_end M x0 M2 r') : r = r' ∧ TLk 0 TN2 TF2 M2 ∧ (∀ g : Nat, 1 ≤ g → Sl g M M2) ∧ M2 8 = M 8 := by
  obtain ⟨cL, hx, eN, eF⟩ := hx
  obtain ⟨cS, hy, eM⟩ := hy
  obtain ⟨z1, f1, r2, hi, hy⟩ := hy
  have hA : ∀ j : Nat, j < 600 → M 0 j = TF 0 j := fun j hj => by
    have := h.2.2.2.2.2.2.1 j hj
    rw [show 600 * 0 + j = j from by omega] at this
    exact this
  have hz : z1 = TN 0 := by rw [f1]; exact h.1
  subst hz
  have hi := in_sp hi
  subst eN; subst eF; subst eM
  have key : r = r' ∧ cS 0 = cL ∧ ∀ g : Nat, 1 ≤ g → cS g = M 1 g := by
    rcases hy with ⟨q, g6, e6, d0, d1⟩ | ⟨q, d0, d1⟩
    · have hi : 0 ≤ x0.toInt ∧ x0.toInt ≤ (TN 0).toInt := by
        rcases hi with ⟨-, p⟩ | ⟨p, -⟩
        · exact p
        · rw [q] at p; exact absurd p (by decide)
      rcases hx with ⟨c, -⟩ | ⟨-, ⟨-, e0, e1⟩ | ⟨c, -⟩⟩
      · omega
      · exact ⟨by rw [e0, d0], by rw [d1, ← e6, e1]; exact up_eq, fun g hg => by rw [d1, ← e6]; exact up_ne (show g ≠ 0 from by omega)⟩
      · omega
    · have hi : x0.toInt < 0 ∨ (TN 0).toInt < x0.toInt := by
        rcases hi with ⟨p, -⟩ | ⟨-, p⟩
        · rw [q] at p; exact absurd p (by decide)
        · exact p
      rcases hx with ⟨c, e0, e1⟩ | ⟨c, ⟨c2, -⟩ | ⟨-, e0, e1⟩⟩
      · exact ⟨by rw [e0, d0], by rw [d1, e1]; exact h.1, fun g _ => by rw [d1]⟩
      · omega
      · exact ⟨by rw [e0, d0], by rw [d1, e1]; exact h.1, fun g _ => by rw [d1]⟩
  refine ⟨key.1, ?_, ?_, rfl⟩
  · refine TLk_new h hA key.2.1 h.2.1 h.2.2.1 ?_ ?_ rfl rfl rfl rfl
    · intro i h1 h2
      rcases (by omega : i = 3 ∨ i = 4 ∨ i = 5 ∨ i = 6 ∨ i = 7 ∨ i = 8 ∨ i = 9 ∨ i = 10 ∨ i = 11 ∨ i = 12 ∨ i = 13 ∨ i = 14 ∨ i = 15 ∨ i = 16 ∨ i = 17 ∨ i = 18 ∨ i = 19 ∨ i = 20 ∨ i = 21) with e | e | e | e | e | e | e | e | e | e | e | e | e | e | e | e | e | e | e <;> subst e <;> rfl
    · intro i h1 h2
      rcases (by omega : i = 1 ∨ i = 2 ∨ i = 3 ∨ i = 4 ∨ i = 5 ∨ i = 6 ∨ i = 7 ∨ i = 8 ∨ i = 9 ∨ i = 10 ∨ i = 11 ∨ i = 12 ∨ i = 13 ∨ i = 14 ∨ i = 15 ∨ i = 16) with e | e | e | e | e | e | e | e | e | e | e | e | e | e | e | e <;> subst e <;> rfl
  · intro g hg
    exact ⟨key.2.2 g hg, rfl, rfl, fun _ _ => rfl, fun _ _ => rfl, fun _ _ => rfl, fun _ _ => rfl, fun _ _ => rfl⟩
theorem fault_sim {TN : Nat → Int32} {TF M : Nat → Nat → Int32} {x0 r r' : Int32} (h : TLk 0 TN TF M) (hx : S_x_fault TN TF x0 r) (hy : S_y_fault M x0 r') : r = r' := by
  have h2 : M 2 0 = TN 1 := h.2.1
  have h3 : M 3 0 = TN 2 := h.2.2.1
  rcases hx with ⟨c, ⟨c2, e⟩ | ⟨c2, e⟩⟩ | ⟨c, e⟩ <;> rcases hy with ⟨d, ⟨d2, f⟩ | ⟨d2, z, ez, f⟩⟩ | ⟨d, z, ez, f⟩
  · rw [e, f]
  · omega
  · omega
  · omega
  · rw [e, f, ez]; exact h3.symm
  · omega
  · omega
  · omega
  · rw [e, f, ez]; exact h2.symm
theorem count_sim {TN : Nat → Int32} {TF M : Nat → Nat → Int32} {x0 r r' : Int32} (h : TLk 0 TN TF M) (hx : S_x_count TN TF x0 r) (hy : S_y_count M x0 r') : r = r' := by
  obtain ⟨y, hx, e⟩ := hx
  obtain ⟨q, hq, hy⟩ := hy
  have h4 : M 4 0 = TN 3 := h.2.2.2.1
  have h5 : M 4 1 = TN 4 := h.2.2.2.2.1
  have h6 : M 4 2 = TN 5 := h.2.2.2.2.2.1
  have hq := in_sp hq
  rcases hy with ⟨q1, z, ez, f⟩ | ⟨q1, f⟩
  · have hi : 0 ≤ x0.toInt ∧ x0.toInt ≤ 2 := by
      rcases hq with ⟨-, p⟩ | ⟨p, -⟩
      · exact p
      · rw [q1] at p; exact absurd p (by decide)
    rcases hx with ⟨c, -⟩ | ⟨c, e2⟩ | ⟨c, e2⟩ | ⟨c, e2⟩
    · omega
    · rw [e, e2, f, ez, mi_clc c]; exact h4.symm
    · rw [e, e2, f, ez, mi_clc c]; exact h5.symm
    · rw [e, e2, f, ez, mi_clc c]; exact h6.symm
  · have hi : x0.toInt < 0 ∨ 2 < x0.toInt := by
      rcases hq with ⟨p, -⟩ | ⟨-, p⟩
      · rw [q1] at p; exact absurd p (by decide)
      · exact p
    rcases hx with ⟨c, e2⟩ | ⟨c, -⟩ | ⟨c, -⟩ | ⟨c, -⟩
    · rw [e, e2, f]
    · omega
    · omega
    · omega
