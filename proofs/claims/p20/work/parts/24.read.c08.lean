set_option maxHeartbeats 4000000 in
set_option maxRecDepth 100000 in
theorem j_keep1 (l : Launch) (D : va_G) (cI cB cJ cZ cT : ClassId) (h : Nat) (qtold : Nat) (qread : Nat) (xcode : Int32) (xreached : Int32) (xlength : Int32) (xbegins : Int32) (xsort : Int32) (xvalue : Int32) (xwrongAt : Int32) (xlaterFault : Int32) (xlaterPlace : Int32) (xtheatre : Int32) (xpalms : Int32) (xactors : Int32) (xrate : Int32) (xbook : Int32) (xchest : Int32) (xencores : Int32) (xnights : Int32) (xlives : Int32) (xhushed : Int32) (xclaps : Int32) (xechoFor : Int32) (xcapped : Int32) (xtwoHands : Int32) (xoneHand : Int32) (xdark : Int32) (xminutes : Int32) (xseed : Int32) (wtape : Value) (wsize : Value) (wfault : Value) (wfaultPlace : Value) (wmany : Value) (wtheatres : Value) (wbooks : Value) (wdarks : Value) (xword : Int64) (wleft : Value) (wowes : Value) (wgot : Value) (wsaved : Value) (wstorms : Value) (wstarved : Value) (wasks : Value) (wwentTo : Value) (wahead : Value) (wbehind : Value) (wunit : Value) (wkept : Value) (m_told : Nat → Int32) (m_read : Nat → Int32) (h_xtheatre : 0 ≤ xtheatre.toInt ∧ xtheatre.toInt ≤ 1) (h_xpalms : 0 ≤ xpalms.toInt ∧ xpalms.toInt ≤ 5) (h_xactors : 0 ≤ xactors.toInt ∧ xactors.toInt ≤ 6) (h_xlives : 0 ≤ xlives.toInt ∧ xlives.toInt ≤ 63) (ht_ : Tt m_told) : Co l yX10_keep wsX10_keep ({ frames := 0, cells := 0, slots := 0, locals := 0 }) D (tyL cI cB cJ cZ cT) [.ref h, .int 1, .int 16, .int 2, .int 6] [(h, .inr (10, [.int xcode, wtape, wsize, wfault, wfaultPlace, wmany, wtheatres, wbooks, wdarks, .int xreached, .int xlength, .int xbegins, .int xsort, .int xvalue, .long xword, .int xwrongAt, .int xlaterFault, .int xlaterPlace, .ref qtold, .ref qread, .int xtheatre, .int xpalms, .int xactors, .int xrate, .int xbook, .int xchest, .int xencores, .int xnights, .int xlives, .int xhushed, .int xclaps, .int xechoFor, wleft, wowes, wgot, wsaved, wstorms, wstarved, .int xcapped, .int xtwoHands, .int xoneHand, wasks, wwentTo, .int xdark, .int xminutes, wahead, wbehind, wunit, .int xseed, wkept])), (qtold, .inl (cI, 121, .inl m_told)), (qread, .inl (cI, 4, .inl m_read))] (fun u : (Nat → Int32) => none) (fun u : (Nat → Int32) => (Tt u) ∧ (R_j_keep1 m_told m_read u)) (fun u : (Nat → Int32) => [(h, .inr (10, [.int xcode, wtape, wsize, wfault, wfaultPlace, wmany, wtheatres, wbooks, wdarks, .int xreached, .int xlength, .int xbegins, .int xsort, .int xvalue, .long xword, .int xwrongAt, .int xlaterFault, .int xlaterPlace, .ref qtold, .ref qread, .int xtheatre, .int xpalms, .int xactors, .int xrate, .int xbook, .int xchest, .int xencores, .int xnights, .int xlives, .int xhushed, .int xclaps, .int xechoFor, wleft, wowes, wgot, wsaved, wstorms, wstarved, .int xcapped, .int xtwoHands, .int xoneHand, wasks, wwentTo, .int xdark, .int xminutes, wahead, wbehind, wunit, .int xseed, wkept])), (qtold, .inl (cI, 121, .inl u)), (qread, .inl (cI, 4, .inl m_read))]) 0 0 := by
  refine entry (cc := cX10_keep) (maxL := 7) (ret := none) (by decide) rfl (Nat.le_of_ble_eq_true rfl) ?_
  intro p e s m below meth c A ls hx hb hr hml hts hown hlocks hname hK hP hD hS hA hl
  have hown : s.vm.findClass RX10 = some m.cls := hown
  have hl : lv_has ls 7 [(0, .ref h), (1, .int 1), (2, .int 16), (3, .int 2), (4, .int 6)] := hl
  obtain ⟨x1, hx1⟩ : ∃ z : Int32, m_told 0 = z := ⟨_, rfl⟩
  have hv_x1 : 0 ≤ x1.toInt ∧ x1.toInt ≤ 5 := by rw [← hx1]; exact ht_.1
  obtain ⟨x2, hx2⟩ : ∃ z : Int32, m_told 1 = z := ⟨_, rfl⟩
  have hv_x2 : 0 ≤ x2.toInt ∧ x2.toInt ≤ 6 := by rw [← hx2]; exact ht_.2.1
  obtain ⟨x3, hx3⟩ : ∃ z : Int32, m_told 4 = z := ⟨_, rfl⟩
  have hv_x3 : 0 ≤ x3.toInt ∧ x3.toInt ≤ 4 := by rw [← hx3]; exact ht_.2.2
  refine lv_aload_n hx hb dX10_keep_0 rfl (lv_at hl 0 rfl) ?_
  refine va_get (D := D) (ci := 10) (v := .ref qtold) (C := RX10) (T := TX10) (N := 50) hx hb hts (fun _ h => List.mem_cons_of_mem _ (inAX10 _ h)) hown hK.1 hP 0 rfl rfl 18 (by decide) (hts (.fieldLink RX10 35 "ClapBankModel" "told" "[I") (List.mem_cons_of_mem _ W_652)) (fun _ h9 => h9) rfl dX10_keep_1 ?_
  refine lv_iload_n hx hb dX10_keep_4 rfl (lv_at hl 1 rfl) ?_
  refine va_iald hx hb hK.1 hP 1 0 rfl rfl (i_in (X := 1) (by decide) (by decide) (by decide)) dX10_keep_5 ?_
  refine vz_i (y := x2) (show m_told 1 = _ from hx2) ?_
  refine lv_istore (lv' := [(5, .int x2), (0, .ref h), (1, .int 1), (2, .int 16), (3, .int 2), (4, .int 6)]) hx hb dX10_keep_6 hl (by decide) rfl (fun ls hl => ?_)
  refine lv_iload hx hb dX10_keep_8 (lv_at hl 0 rfl) ?_
  refine lv_iload hx hb dX10_keep_10 (lv_at hl 5 rfl) ?_
  refine bc_ne (tgt := 16) (X := x2.toInt) (Y := 6) hx hb rfl (by decide) dX10_keep_12 (by decide) (fun c4 => ?_) (fun c4 => ?_)
  · skip
    refine lv_iconst (v := 0) hx hb dX10_keep_16 (by decide) ?_
    refine lv_istore (lv' := [(6, .int 0), (5, .int x2), (0, .ref h), (1, .int 1), (2, .int 16), (3, .int 2), (4, .int 6)]) hx hb dX10_keep_17 hl (by decide) rfl (fun ls hl => ?_)
    refine lv_iload hx hb dX10_keep_19 (lv_at hl 0 rfl) ?_
    refine lv_iload_n hx hb dX10_keep_21 rfl (lv_at hl 5 rfl) ?_
    refine bc_ge (tgt := 52) (X := 0) (Y := 2) hx hb (by decide) (by decide) dX10_keep_22 (by decide) (fun h => absurd h (by decide)) (fun c5 => ?_)
    refine lv_aload_n hx hb dX10_keep_25 rfl (lv_at hl 2 rfl) ?_
    refine va_get (D := D) (ci := 10) (v := .ref qtold) (C := RX10) (T := TX10) (N := 50) hx hb hts (fun _ h => List.mem_cons_of_mem _ (inAX10 _ h)) hown hK.1 hP 0 rfl rfl 18 (by decide) (hts (.fieldLink RX10 35 "ClapBankModel" "told" "[I") (List.mem_cons_of_mem _ W_652)) (fun _ h9 => h9) rfl dX10_keep_26 ?_
    refine lv_iload_n hx hb dX10_keep_29 rfl (lv_at hl 4 rfl) ?_
    refine lv_iload_n hx hb dX10_keep_30 rfl (lv_at hl 5 rfl) ?_
    refine lv_iload hx hb dX10_keep_31 (lv_at hl 1 rfl) ?_
    refine lv_imul hx hb dX10_keep_33 ?_
    refine lv_topi (fun z6 ez6 => ?_)
    have iz6 : z6.toInt = (2) * (x2.toInt) := by rw [ez6]; exact (i_mul (X := 2) (Y := x2.toInt) (by decide) rfl (by have h8 := i_rng (2); have h9 := i_rng (x2); omega) (by have h8 := i_rng (2); have h9 := i_rng (x2); omega)).trans (by omega)
    refine lv_iadd hx hb dX10_keep_34 ?_
    refine lv_topi (fun z7 ez7 => ?_)
    have iz7 : z7.toInt = z6.toInt + 16 := by rw [ez7]; exact (i_add (X := 16) (Y := z6.toInt) (by decide) rfl (by have h8 := i_rng (16); have h9 := i_rng (z6); omega) (by have h8 := i_rng (16); have h9 := i_rng (z6); omega)).trans (by omega)
    refine lv_iload hx hb dX10_keep_35 (lv_at hl 0 rfl) ?_
    refine lv_iadd hx hb dX10_keep_37 ?_
    refine lv_topi (fun z8 ez8 => ?_)
    have iz8 : z8.toInt = z6.toInt + 16 := by rw [ez8]; exact (i_add (X := z6.toInt + 16) (Y := 0) iz7 (by decide) (by have h8 := i_rng (z7); have h9 := i_rng (0); omega) (by have h8 := i_rng (z7); have h9 := i_rng (0); omega)).trans (by omega)
    refine lv_aload_n hx hb dX10_keep_38 rfl (lv_at hl 2 rfl) ?_
    refine va_get (D := D) (ci := 10) (v := .ref qread) (C := RX10) (T := TX10) (N := 50) hx hb hts (fun _ h => List.mem_cons_of_mem _ (inAX10 _ h)) hown hK.1 hP 0 rfl rfl 19 (by decide) (hts (.fieldLink RX10 38 "ClapBankModel" "read" "[I") (List.mem_cons_of_mem _ W_653)) (fun _ h9 => h9) rfl dX10_keep_39 ?_
    refine lv_iload hx hb dX10_keep_42 (lv_at hl 0 rfl) ?_
    refine va_iald hx hb hK.1 hP 2 0 rfl rfl (i_in (X := 0) (by decide) (by decide) (by decide)) dX10_keep_44 ?_
    refine lv_topi (fun z9 ez9 => ?_)
    refine va_iast hx hb hK.1 hP hD hS 1 0 rfl rfl (i_in (X := z6.toInt + 16) iz8 (by omega) (by omega)) dX10_keep_45 (fun H locs hP hD hS => ?_)
    have hP : va_P D vwCl [(h, .inr (10, [.int xcode, wtape, wsize, wfault, wfaultPlace, wmany, wtheatres, wbooks, wdarks, .int xreached, .int xlength, .int xbegins, .int xsort, .int xvalue, .long xword, .int xwrongAt, .int xlaterFault, .int xlaterPlace, .ref qtold, .ref qread, .int xtheatre, .int xpalms, .int xactors, .int xrate, .int xbook, .int xchest, .int xencores, .int xnights, .int xlives, .int xhushed, .int xclaps, .int xechoFor, wleft, wowes, wgot, wsaved, wstorms, wstarved, .int xcapped, .int xtwoHands, .int xoneHand, wasks, wwentTo, .int xdark, .int xminutes, wahead, wbehind, wunit, .int xseed, wkept])), (qtold, .inl (cI, 121, .inl (upd m_told (Int32.toNatClampNeg z8) z9))), (qread, .inl (cI, 4, .inl m_read))] H := hP
    have hD : va_D A [(h, .inr (10, [.int xcode, wtape, wsize, wfault, wfaultPlace, wmany, wtheatres, wbooks, wdarks, .int xreached, .int xlength, .int xbegins, .int xsort, .int xvalue, .long xword, .int xwrongAt, .int xlaterFault, .int xlaterPlace, .ref qtold, .ref qread, .int xtheatre, .int xpalms, .int xactors, .int xrate, .int xbook, .int xchest, .int xencores, .int xnights, .int xlives, .int xhushed, .int xclaps, .int xechoFor, wleft, wowes, wgot, wsaved, wstorms, wstarved, .int xcapped, .int xtwoHands, .int xoneHand, wasks, wwentTo, .int xdark, .int xminutes, wahead, wbehind, wunit, .int xseed, wkept])), (qtold, .inl (cI, 121, .inl (upd m_told (Int32.toNatClampNeg z8) z9))), (qread, .inl (cI, 4, .inl m_read))] := hD
    have hf_g10_0 : (upd m_told (Int32.toNatClampNeg z8) z9) 0 = x1 := (pk_un (cl_ne (X := z6.toInt + 16) iz8 (by omega) (by omega))).trans hx1
    have hf_g10_1 : (upd m_told (Int32.toNatClampNeg z8) z9) 1 = x2 := (pk_un (cl_ne (X := z6.toInt + 16) iz8 (by omega) (by omega))).trans hx2
    have hf_g10_4 : (upd m_told (Int32.toNatClampNeg z8) z9) 4 = x3 := (pk_un (cl_ne (X := z6.toInt + 16) iz8 (by omega) (by omega))).trans hx3
    generalize hu_g10 : (upd m_told (Int32.toNatClampNeg z8) z9) = g10 at hP hD hf_g10_0 hf_g10_1 hf_g10_4
    refine lv_iinc (v := 1) (lv' := [(6, .int 1), (5, .int x2), (0, .ref h), (1, .int 1), (2, .int 16), (3, .int 2), (4, .int 6)]) hx hb dX10_keep_46 hl (k := 0) rfl (by decide) (by decide) rfl (fun ls hl => ?_)
    refine lv_goto (tgt := 19) hx hb dX10_keep_49 (by decide) ?_
    refine lv_iload hx hb dX10_keep_19 (lv_at hl 0 rfl) ?_
    refine lv_iload_n hx hb dX10_keep_21 rfl (lv_at hl 5 rfl) ?_
    refine bc_ge (tgt := 52) (X := 1) (Y := 2) hx hb (by decide) (by decide) dX10_keep_22 (by decide) (fun h => absurd h (by decide)) (fun c11 => ?_)
    refine lv_aload_n hx hb dX10_keep_25 rfl (lv_at hl 2 rfl) ?_
    refine va_get (D := D) (ci := 10) (v := .ref qtold) (C := RX10) (T := TX10) (N := 50) hx hb hts (fun _ h => List.mem_cons_of_mem _ (inAX10 _ h)) hown hK.1 hP 0 rfl rfl 18 (by decide) (hts (.fieldLink RX10 35 "ClapBankModel" "told" "[I") (List.mem_cons_of_mem _ W_652)) (fun _ h9 => h9) rfl dX10_keep_26 ?_
    refine lv_iload_n hx hb dX10_keep_29 rfl (lv_at hl 4 rfl) ?_
    refine lv_iload_n hx hb dX10_keep_30 rfl (lv_at hl 5 rfl) ?_
    refine lv_iload hx hb dX10_keep_31 (lv_at hl 1 rfl) ?_
    refine lv_imul hx hb dX10_keep_33 ?_
    refine lv_topi (fun z12 ez12 => ?_)
    have iz12 : z12.toInt = (2) * (x2.toInt) := by rw [ez12]; exact (i_mul (X := 2) (Y := x2.toInt) (by decide) rfl (by have h8 := i_rng (2); have h9 := i_rng (x2); omega) (by have h8 := i_rng (2); have h9 := i_rng (x2); omega)).trans (by omega)
    refine lv_iadd hx hb dX10_keep_34 ?_
    refine lv_topi (fun z13 ez13 => ?_)
    have iz13 : z13.toInt = z12.toInt + 16 := by rw [ez13]; exact (i_add (X := 16) (Y := z12.toInt) (by decide) rfl (by have h8 := i_rng (16); have h9 := i_rng (z12); omega) (by have h8 := i_rng (16); have h9 := i_rng (z12); omega)).trans (by omega)
    refine lv_iload hx hb dX10_keep_35 (lv_at hl 0 rfl) ?_
    refine lv_iadd hx hb dX10_keep_37 ?_
    refine lv_topi (fun z14 ez14 => ?_)
    have iz14 : z14.toInt = z12.toInt + 17 := by rw [ez14]; exact (i_add (X := z12.toInt + 16) (Y := 1) iz13 (by decide) (by have h8 := i_rng (z13); have h9 := i_rng (1); omega) (by have h8 := i_rng (z13); have h9 := i_rng (1); omega)).trans (by omega)
    refine lv_aload_n hx hb dX10_keep_38 rfl (lv_at hl 2 rfl) ?_
    refine va_get (D := D) (ci := 10) (v := .ref qread) (C := RX10) (T := TX10) (N := 50) hx hb hts (fun _ h => List.mem_cons_of_mem _ (inAX10 _ h)) hown hK.1 hP 0 rfl rfl 19 (by decide) (hts (.fieldLink RX10 38 "ClapBankModel" "read" "[I") (List.mem_cons_of_mem _ W_653)) (fun _ h9 => h9) rfl dX10_keep_39 ?_
    refine lv_iload hx hb dX10_keep_42 (lv_at hl 0 rfl) ?_
    refine va_iald hx hb hK.1 hP 2 0 rfl rfl (i_in (X := 1) (by decide) (by decide) (by decide)) dX10_keep_44 ?_
    refine lv_topi (fun z15 ez15 => ?_)
    refine va_iast hx hb hK.1 hP hD hS 1 0 rfl rfl (i_in (X := z12.toInt + 17) iz14 (by omega) (by omega)) dX10_keep_45 (fun H locs hP hD hS => ?_)
    have hP : va_P D vwCl [(h, .inr (10, [.int xcode, wtape, wsize, wfault, wfaultPlace, wmany, wtheatres, wbooks, wdarks, .int xreached, .int xlength, .int xbegins, .int xsort, .int xvalue, .long xword, .int xwrongAt, .int xlaterFault, .int xlaterPlace, .ref qtold, .ref qread, .int xtheatre, .int xpalms, .int xactors, .int xrate, .int xbook, .int xchest, .int xencores, .int xnights, .int xlives, .int xhushed, .int xclaps, .int xechoFor, wleft, wowes, wgot, wsaved, wstorms, wstarved, .int xcapped, .int xtwoHands, .int xoneHand, wasks, wwentTo, .int xdark, .int xminutes, wahead, wbehind, wunit, .int xseed, wkept])), (qtold, .inl (cI, 121, .inl (upd g10 (Int32.toNatClampNeg z14) z15))), (qread, .inl (cI, 4, .inl m_read))] H := hP
    have hD : va_D A [(h, .inr (10, [.int xcode, wtape, wsize, wfault, wfaultPlace, wmany, wtheatres, wbooks, wdarks, .int xreached, .int xlength, .int xbegins, .int xsort, .int xvalue, .long xword, .int xwrongAt, .int xlaterFault, .int xlaterPlace, .ref qtold, .ref qread, .int xtheatre, .int xpalms, .int xactors, .int xrate, .int xbook, .int xchest, .int xencores, .int xnights, .int xlives, .int xhushed, .int xclaps, .int xechoFor, wleft, wowes, wgot, wsaved, wstorms, wstarved, .int xcapped, .int xtwoHands, .int xoneHand, wasks, wwentTo, .int xdark, .int xminutes, wahead, wbehind, wunit, .int xseed, wkept])), (qtold, .inl (cI, 121, .inl (upd g10 (Int32.toNatClampNeg z14) z15))), (qread, .inl (cI, 4, .inl m_read))] := hD
    have hf_g16_0 : (upd g10 (Int32.toNatClampNeg z14) z15) 0 = x1 := (pk_un (cl_ne (X := z12.toInt + 17) iz14 (by omega) (by omega))).trans hf_g10_0
    have hf_g16_1 : (upd g10 (Int32.toNatClampNeg z14) z15) 1 = x2 := (pk_un (cl_ne (X := z12.toInt + 17) iz14 (by omega) (by omega))).trans hf_g10_1
    have hf_g16_4 : (upd g10 (Int32.toNatClampNeg z14) z15) 4 = x3 := (pk_un (cl_ne (X := z12.toInt + 17) iz14 (by omega) (by omega))).trans hf_g10_4
    generalize hu_g16 : (upd g10 (Int32.toNatClampNeg z14) z15) = g16 at hP hD hf_g16_0 hf_g16_1 hf_g16_4
    refine lv_iinc (v := 2) (lv' := [(6, .int 2), (5, .int x2), (0, .ref h), (1, .int 1), (2, .int 16), (3, .int 2), (4, .int 6)]) hx hb dX10_keep_46 hl (k := 0) rfl (by decide) (by decide) rfl (fun ls hl => ?_)
    refine lv_goto (tgt := 19) hx hb dX10_keep_49 (by decide) ?_
    refine lv_iload hx hb dX10_keep_19 (lv_at hl 0 rfl) ?_
    refine lv_iload_n hx hb dX10_keep_21 rfl (lv_at hl 5 rfl) ?_
    refine bc_ge (tgt := 52) (X := 2) (Y := 2) hx hb (by decide) (by decide) dX10_keep_22 (by decide) (fun c17 => ?_) (fun h => absurd h (by decide))
    refine lv_aload_n hx hb dX10_keep_52 rfl (lv_at hl 2 rfl) ?_
    refine va_get (D := D) (ci := 10) (v := .ref qtold) (C := RX10) (T := TX10) (N := 50) hx hb hts (fun _ h => List.mem_cons_of_mem _ (inAX10 _ h)) hown hK.1 hP 0 rfl rfl 18 (by decide) (hts (.fieldLink RX10 35 "ClapBankModel" "told" "[I") (List.mem_cons_of_mem _ W_652)) (fun _ h9 => h9) rfl dX10_keep_53 ?_
    refine lv_iload_n hx hb dX10_keep_56 rfl (lv_at hl 3 rfl) ?_
    refine lv_dup2_11 hx hb dX10_keep_57 rfl rfl ?_
    refine va_iald hx hb hK.1 hP 1 0 rfl rfl (i_in (X := 1) (by decide) (by decide) (by decide)) dX10_keep_58 ?_
    refine vz_i (y := x2) (show g16 1 = _ from hf_g16_1) ?_
    refine lv_iconst (v := 1) hx hb dX10_keep_59 (by decide) ?_
    refine lv_iadd hx hb dX10_keep_60 ?_
    refine lv_topi (fun z18 ez18 => ?_)
    have iz18 : z18.toInt = x2.toInt + 1 := by rw [ez18]; exact (i_add (X := x2.toInt) (Y := 1) rfl (by decide) (by have h8 := i_rng (x2); have h9 := i_rng (1); omega) (by have h8 := i_rng (x2); have h9 := i_rng (1); omega)).trans (by omega)
    refine va_iast hx hb hK.1 hP hD hS 1 0 rfl rfl (i_in (X := 1) (by decide) (by decide) (by decide)) dX10_keep_61 (fun H locs hP hD hS => ?_)
    have hP : va_P D vwCl [(h, .inr (10, [.int xcode, wtape, wsize, wfault, wfaultPlace, wmany, wtheatres, wbooks, wdarks, .int xreached, .int xlength, .int xbegins, .int xsort, .int xvalue, .long xword, .int xwrongAt, .int xlaterFault, .int xlaterPlace, .ref qtold, .ref qread, .int xtheatre, .int xpalms, .int xactors, .int xrate, .int xbook, .int xchest, .int xencores, .int xnights, .int xlives, .int xhushed, .int xclaps, .int xechoFor, wleft, wowes, wgot, wsaved, wstorms, wstarved, .int xcapped, .int xtwoHands, .int xoneHand, wasks, wwentTo, .int xdark, .int xminutes, wahead, wbehind, wunit, .int xseed, wkept])), (qtold, .inl (cI, 121, .inl (upd g16 (Int32.toNatClampNeg 1) z18))), (qread, .inl (cI, 4, .inl m_read))] H := hP
    have hD : va_D A [(h, .inr (10, [.int xcode, wtape, wsize, wfault, wfaultPlace, wmany, wtheatres, wbooks, wdarks, .int xreached, .int xlength, .int xbegins, .int xsort, .int xvalue, .long xword, .int xwrongAt, .int xlaterFault, .int xlaterPlace, .ref qtold, .ref qread, .int xtheatre, .int xpalms, .int xactors, .int xrate, .int xbook, .int xchest, .int xencores, .int xnights, .int xlives, .int xhushed, .int xclaps, .int xechoFor, wleft, wowes, wgot, wsaved, wstorms, wstarved, .int xcapped, .int xtwoHands, .int xoneHand, wasks, wwentTo, .int xdark, .int xminutes, wahead, wbehind, wunit, .int xseed, wkept])), (qtold, .inl (cI, 121, .inl (upd g16 (Int32.toNatClampNeg 1) z18))), (qread, .inl (cI, 4, .inl m_read))] := hD
    have hf_g19_0 : (upd g16 (Int32.toNatClampNeg 1) z18) 0 = x1 := (pk_un (by decide)).trans hf_g16_0
    have hf_g19_4 : (upd g16 (Int32.toNatClampNeg 1) z18) 4 = x3 := (pk_un (by decide)).trans hf_g16_4
    have hf_g19_1 : (upd g16 (Int32.toNatClampNeg 1) z18) 1 = z18 := pk_us
    generalize hu_g19 : (upd g16 (Int32.toNatClampNeg 1) z18) = g19 at hP hD hf_g19_0 hf_g19_4 hf_g19_1
    refine W.widen (k := 0) (n := 0) (Nat.le_of_ble_eq_true rfl) (Nat.le_of_ble_eq_true rfl) ?_
    exact ro_v hx hb hr hlocks (g19) rfl (⟨(show Tt g19 from by unfold Tt; rw [hf_g19_0, hf_g19_1, hf_g19_4]; omega), (⟨_, hx1, ⟨_, hx2, ⟨_, hx3, Or.inl (⟨c4, ⟨_, ez6, ⟨_, ez7, ⟨_, ez8, ⟨_, ez9, ⟨_, hu_g10, ⟨_, ez12, ⟨_, ez13, ⟨_, ez14, ⟨_, ez15, ⟨_, hu_g16, ⟨_, ez18, ⟨_, hu_g19, rfl⟩⟩⟩⟩⟩⟩⟩⟩⟩⟩⟩⟩⟩)⟩⟩⟩)⟩) (hP.sub [0, 1, 2] rfl) (hD.sub [0, 1, 2] (by decide) rfl) hS dX10_keep_62
  · skip
    refine W.widen (k := 0) (n := 0) (Nat.le_of_ble_eq_true rfl) (Nat.le_of_ble_eq_true rfl) ?_
    exact ro_v hx hb hr hlocks (m_told) rfl (⟨(show Tt m_told from by unfold Tt; rw [hx1, hx2, hx3]; omega), (⟨_, hx1, ⟨_, hx2, ⟨_, hx3, Or.inr (⟨c4, rfl⟩)⟩⟩⟩)⟩) (hP.sub [0, 1, 2] rfl) (hD.sub [0, 1, 2] (by decide) rfl) hS dX10_keep_15
