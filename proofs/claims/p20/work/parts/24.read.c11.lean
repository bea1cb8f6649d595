set_option maxHeartbeats 4000000 in
set_option maxRecDepth 100000 in
theorem j_keepd (l : Launch) (D : va_G) (cI cB cJ cZ cT : ClassId) (h : Nat) (qtold : Nat) (qread : Nat) (xcode : Int32) (xreached : Int32) (xlength : Int32) (xbegins : Int32) (xsort : Int32) (xvalue : Int32) (xwrongAt : Int32) (xlaterFault : Int32) (xlaterPlace : Int32) (xtheatre : Int32) (xpalms : Int32) (xactors : Int32) (xrate : Int32) (xbook : Int32) (xchest : Int32) (xencores : Int32) (xnights : Int32) (xlives : Int32) (xhushed : Int32) (xclaps : Int32) (xechoFor : Int32) (xcapped : Int32) (xtwoHands : Int32) (xoneHand : Int32) (xdark : Int32) (xminutes : Int32) (xseed : Int32) (wtape : Value) (wsize : Value) (wfault : Value) (wfaultPlace : Value) (wmany : Value) (wtheatres : Value) (wbooks : Value) (wdarks : Value) (xword : Int64) (wleft : Value) (wowes : Value) (wgot : Value) (wsaved : Value) (wstorms : Value) (wstarved : Value) (wasks : Value) (wwentTo : Value) (wahead : Value) (wbehind : Value) (wunit : Value) (wkept : Value) (m_told : Nat → Int32) (m_read : Nat → Int32) (h_xtheatre : 0 ≤ xtheatre.toInt ∧ xtheatre.toInt ≤ 1) (h_xpalms : 0 ≤ xpalms.toInt ∧ xpalms.toInt ≤ 5) (h_xactors : 0 ≤ xactors.toInt ∧ xactors.toInt ≤ 6) (h_xlives : 0 ≤ xlives.toInt ∧ xlives.toInt ≤ 63) (ht_ : Td m_told) : Co l yX10_keep wsX10_keep ({ frames := 0, cells := 0, slots := 0, locals := 0 }) D (tyL cI cB cJ cZ cT) [.ref h, .int 0, .int 1, .int 1, .int 6] [(h, .inr (10, [.int xcode, wtape, wsize, wfault, wfaultPlace, wmany, wtheatres, wbooks, wdarks, .int xreached, .int xlength, .int xbegins, .int xsort, .int xvalue, .long xword, .int xwrongAt, .int xlaterFault, .int xlaterPlace, .ref qtold, .ref qread, .int xtheatre, .int xpalms, .int xactors, .int xrate, .int xbook, .int xchest, .int xencores, .int xnights, .int xlives, .int xhushed, .int xclaps, .int xechoFor, wleft, wowes, wgot, wsaved, wstorms, wstarved, .int xcapped, .int xtwoHands, .int xoneHand, wasks, wwentTo, .int xdark, .int xminutes, wahead, wbehind, wunit, .int xseed, wkept])), (qtold, .inl (cI, 121, .inl m_told)), (qread, .inl (cI, 4, .inl m_read))] (fun u : (Nat → Int32) => none) (fun u : (Nat → Int32) => (Td u) ∧ (R_j_keepd m_told m_read u)) (fun u : (Nat → Int32) => [(h, .inr (10, [.int xcode, wtape, wsize, wfault, wfaultPlace, wmany, wtheatres, wbooks, wdarks, .int xreached, .int xlength, .int xbegins, .int xsort, .int xvalue, .long xword, .int xwrongAt, .int xlaterFault, .int xlaterPlace, .ref qtold, .ref qread, .int xtheatre, .int xpalms, .int xactors, .int xrate, .int xbook, .int xchest, .int xencores, .int xnights, .int xlives, .int xhushed, .int xclaps, .int xechoFor, wleft, wowes, wgot, wsaved, wstorms, wstarved, .int xcapped, .int xtwoHands, .int xoneHand, wasks, wwentTo, .int xdark, .int xminutes, wahead, wbehind, wunit, .int xseed, wkept])), (qtold, .inl (cI, 121, .inl u)), (qread, .inl (cI, 4, .inl m_read))]) 0 0 := by
  refine entry (cc := cX10_keep) (maxL := 7) (ret := none) (by decide) rfl (Nat.le_of_ble_eq_true rfl) ?_
  intro p e s m below meth c A ls hx hb hr hml hts hown hlocks hname hK hP hD hS hA hl
  have hown : s.vm.findClass RX10 = some m.cls := hown
  have hl : lv_has ls 7 [(0, .ref h), (1, .int 0), (2, .int 1), (3, .int 1), (4, .int 6)] := hl
  obtain ⟨x1, hx1⟩ : ∃ z : Int32, m_told 0 = z := ⟨_, rfl⟩
  have hv_x1 : 0 ≤ x1.toInt ∧ x1.toInt ≤ 6 := by rw [← hx1]; exact ht_
  refine lv_aload_n hx hb dX10_keep_0 rfl (lv_at hl 0 rfl) ?_
  refine va_get (D := D) (ci := 10) (v := .ref qtold) (C := RX10) (T := TX10) (N := 50) hx hb hts (fun _ h => List.mem_cons_of_mem _ (inAX10 _ h)) hown hK.1 hP 0 rfl rfl 18 (by decide) (hts (.fieldLink RX10 35 "ClapBankModel" "told" "[I") (List.mem_cons_of_mem _ W_652)) (fun _ h9 => h9) rfl dX10_keep_1 ?_
  refine lv_iload_n hx hb dX10_keep_4 rfl (lv_at hl 1 rfl) ?_
  refine va_iald hx hb hK.1 hP 1 0 rfl rfl (i_in (X := 0) (by decide) (by decide) (by decide)) dX10_keep_5 ?_
  refine vz_i (y := x1) (show m_told 0 = _ from hx1) ?_
  refine lv_istore (lv' := [(5, .int x1), (0, .ref h), (1, .int 0), (2, .int 1), (3, .int 1), (4, .int 6)]) hx hb dX10_keep_6 hl (by decide) rfl (fun ls hl => ?_)
  refine lv_iload hx hb dX10_keep_8 (lv_at hl 0 rfl) ?_
  refine lv_iload hx hb dX10_keep_10 (lv_at hl 5 rfl) ?_
  refine bc_ne (tgt := 16) (X := x1.toInt) (Y := 6) hx hb rfl (by decide) dX10_keep_12 (by decide) (fun c2 => ?_) (fun c2 => ?_)
  · skip
    refine lv_iconst (v := 0) hx hb dX10_keep_16 (by decide) ?_
    refine lv_istore (lv' := [(6, .int 0), (5, .int x1), (0, .ref h), (1, .int 0), (2, .int 1), (3, .int 1), (4, .int 6)]) hx hb dX10_keep_17 hl (by decide) rfl (fun ls hl => ?_)
    refine lv_iload hx hb dX10_keep_19 (lv_at hl 0 rfl) ?_
    refine lv_iload_n hx hb dX10_keep_21 rfl (lv_at hl 5 rfl) ?_
    refine bc_ge (tgt := 52) (X := 0) (Y := 1) hx hb (by decide) (by decide) dX10_keep_22 (by decide) (fun h => absurd h (by decide)) (fun c3 => ?_)
    refine lv_aload_n hx hb dX10_keep_25 rfl (lv_at hl 2 rfl) ?_
    refine va_get (D := D) (ci := 10) (v := .ref qtold) (C := RX10) (T := TX10) (N := 50) hx hb hts (fun _ h => List.mem_cons_of_mem _ (inAX10 _ h)) hown hK.1 hP 0 rfl rfl 18 (by decide) (hts (.fieldLink RX10 35 "ClapBankModel" "told" "[I") (List.mem_cons_of_mem _ W_652)) (fun _ h9 => h9) rfl dX10_keep_26 ?_
    refine lv_iload_n hx hb dX10_keep_29 rfl (lv_at hl 4 rfl) ?_
    refine lv_iload_n hx hb dX10_keep_30 rfl (lv_at hl 5 rfl) ?_
    refine lv_iload hx hb dX10_keep_31 (lv_at hl 1 rfl) ?_
    refine lv_imul hx hb dX10_keep_33 ?_
    refine lv_topi (fun z4 ez4 => ?_)
    have iz4 : z4.toInt = (1) * (x1.toInt) := by rw [ez4]; exact (i_mul (X := 1) (Y := x1.toInt) (by decide) rfl (by have h8 := i_rng (1); have h9 := i_rng (x1); omega) (by have h8 := i_rng (1); have h9 := i_rng (x1); omega)).trans (by omega)
    refine lv_iadd hx hb dX10_keep_34 ?_
    refine lv_topi (fun z5 ez5 => ?_)
    have iz5 : z5.toInt = z4.toInt + 1 := by rw [ez5]; exact (i_add (X := 1) (Y := z4.toInt) (by decide) rfl (by have h8 := i_rng (1); have h9 := i_rng (z4); omega) (by have h8 := i_rng (1); have h9 := i_rng (z4); omega)).trans (by omega)
    refine lv_iload hx hb dX10_keep_35 (lv_at hl 0 rfl) ?_
    refine lv_iadd hx hb dX10_keep_37 ?_
    refine lv_topi (fun z6 ez6 => ?_)
    have iz6 : z6.toInt = z4.toInt + 1 := by rw [ez6]; exact (i_add (X := z4.toInt + 1) (Y := 0) iz5 (by decide) (by have h8 := i_rng (z5); have h9 := i_rng (0); omega) (by have h8 := i_rng (z5); have h9 := i_rng (0); omega)).trans (by omega)
    refine lv_aload_n hx hb dX10_keep_38 rfl (lv_at hl 2 rfl) ?_
    refine va_get (D := D) (ci := 10) (v := .ref qread) (C := RX10) (T := TX10) (N := 50) hx hb hts (fun _ h => List.mem_cons_of_mem _ (inAX10 _ h)) hown hK.1 hP 0 rfl rfl 19 (by decide) (hts (.fieldLink RX10 38 "ClapBankModel" "read" "[I") (List.mem_cons_of_mem _ W_653)) (fun _ h9 => h9) rfl dX10_keep_39 ?_
    refine lv_iload hx hb dX10_keep_42 (lv_at hl 0 rfl) ?_
    refine va_iald hx hb hK.1 hP 2 0 rfl rfl (i_in (X := 0) (by decide) (by decide) (by decide)) dX10_keep_44 ?_
    refine lv_topi (fun z7 ez7 => ?_)
    refine va_iast hx hb hK.1 hP hD hS 1 0 rfl rfl (i_in (X := z4.toInt + 1) iz6 (by omega) (by omega)) dX10_keep_45 (fun H locs hP hD hS => ?_)
    have hP : va_P D vwCl [(h, .inr (10, [.int xcode, wtape, wsize, wfault, wfaultPlace, wmany, wtheatres, wbooks, wdarks, .int xreached, .int xlength, .int xbegins, .int xsort, .int xvalue, .long xword, .int xwrongAt, .int xlaterFault, .int xlaterPlace, .ref qtold, .ref qread, .int xtheatre, .int xpalms, .int xactors, .int xrate, .int xbook, .int xchest, .int xencores, .int xnights, .int xlives, .int xhushed, .int xclaps, .int xechoFor, wleft, wowes, wgot, wsaved, wstorms, wstarved, .int xcapped, .int xtwoHands, .int xoneHand, wasks, wwentTo, .int xdark, .int xminutes, wahead, wbehind, wunit, .int xseed, wkept])), (qtold, .inl (cI, 121, .inl (upd m_told (Int32.toNatClampNeg z6) z7))), (qread, .inl (cI, 4, .inl m_read))] H := hP
    have hD : va_D A [(h, .inr (10, [.int xcode, wtape, wsize, wfault, wfaultPlace, wmany, wtheatres, wbooks, wdarks, .int xreached, .int xlength, .int xbegins, .int xsort, .int xvalue, .long xword, .int xwrongAt, .int xlaterFault, .int xlaterPlace, .ref qtold, .ref qread, .int xtheatre, .int xpalms, .int xactors, .int xrate, .int xbook, .int xchest, .int xencores, .int xnights, .int xlives, .int xhushed, .int xclaps, .int xechoFor, wleft, wowes, wgot, wsaved, wstorms, wstarved, .int xcapped, .int xtwoHands, .int xoneHand, wasks, wwentTo, .int xdark, .int xminutes, wahead, wbehind, wunit, .int xseed, wkept])), (qtold, .inl (cI, 121, .inl (upd m_told (Int32.toNatClampNeg z6) z7))), (qread, .inl (cI, 4, .inl m_read))] := hD
    have hf_g8_0 : (upd m_told (Int32.toNatClampNeg z6) z7) 0 = x1 := (pk_un (cl_ne (X := z4.toInt + 1) iz6 (by omega) (by omega))).trans hx1
    generalize hu_g8 : (upd m_told (Int32.toNatClampNeg z6) z7) = g8 at hP hD hf_g8_0
    refine lv_iinc (v := 1) (lv' := [(6, .int 1), (5, .int x1), (0, .ref h), (1, .int 0), (2, .int 1), (3, .int 1), (4, .int 6)]) hx hb dX10_keep_46 hl (k := 0) rfl (by decide) (by decide) rfl (fun ls hl => ?_)
    refine lv_goto (tgt := 19) hx hb dX10_keep_49 (by decide) ?_
    refine lv_iload hx hb dX10_keep_19 (lv_at hl 0 rfl) ?_
    refine lv_iload_n hx hb dX10_keep_21 rfl (lv_at hl 5 rfl) ?_
    refine bc_ge (tgt := 52) (X := 1) (Y := 1) hx hb (by decide) (by decide) dX10_keep_22 (by decide) (fun c9 => ?_) (fun h => absurd h (by decide))
    refine lv_aload_n hx hb dX10_keep_52 rfl (lv_at hl 2 rfl) ?_
    refine va_get (D := D) (ci := 10) (v := .ref qtold) (C := RX10) (T := TX10) (N := 50) hx hb hts (fun _ h => List.mem_cons_of_mem _ (inAX10 _ h)) hown hK.1 hP 0 rfl rfl 18 (by decide) (hts (.fieldLink RX10 35 "ClapBankModel" "told" "[I") (List.mem_cons_of_mem _ W_652)) (fun _ h9 => h9) rfl dX10_keep_53 ?_
    refine lv_iload_n hx hb dX10_keep_56 rfl (lv_at hl 3 rfl) ?_
    refine lv_dup2_11 hx hb dX10_keep_57 rfl rfl ?_
    refine va_iald hx hb hK.1 hP 1 0 rfl rfl (i_in (X := 0) (by decide) (by decide) (by decide)) dX10_keep_58 ?_
    refine vz_i (y := x1) (show g8 0 = _ from hf_g8_0) ?_
    refine lv_iconst (v := 1) hx hb dX10_keep_59 (by decide) ?_
    refine lv_iadd hx hb dX10_keep_60 ?_
    refine lv_topi (fun z10 ez10 => ?_)
    have iz10 : z10.toInt = x1.toInt + 1 := by rw [ez10]; exact (i_add (X := x1.toInt) (Y := 1) rfl (by decide) (by have h8 := i_rng (x1); have h9 := i_rng (1); omega) (by have h8 := i_rng (x1); have h9 := i_rng (1); omega)).trans (by omega)
    refine va_iast hx hb hK.1 hP hD hS 1 0 rfl rfl (i_in (X := 0) (by decide) (by decide) (by decide)) dX10_keep_61 (fun H locs hP hD hS => ?_)
    have hP : va_P D vwCl [(h, .inr (10, [.int xcode, wtape, wsize, wfault, wfaultPlace, wmany, wtheatres, wbooks, wdarks, .int xreached, .int xlength, .int xbegins, .int xsort, .int xvalue, .long xword, .int xwrongAt, .int xlaterFault, .int xlaterPlace, .ref qtold, .ref qread, .int xtheatre, .int xpalms, .int xactors, .int xrate, .int xbook, .int xchest, .int xencores, .int xnights, .int xlives, .int xhushed, .int xclaps, .int xechoFor, wleft, wowes, wgot, wsaved, wstorms, wstarved, .int xcapped, .int xtwoHands, .int xoneHand, wasks, wwentTo, .int xdark, .int xminutes, wahead, wbehind, wunit, .int xseed, wkept])), (qtold, .inl (cI, 121, .inl (upd g8 (Int32.toNatClampNeg 0) z10))), (qread, .inl (cI, 4, .inl m_read))] H := hP
    have hD : va_D A [(h, .inr (10, [.int xcode, wtape, wsize, wfault, wfaultPlace, wmany, wtheatres, wbooks, wdarks, .int xreached, .int xlength, .int xbegins, .int xsort, .int xvalue, .long xword, .int xwrongAt, .int xlaterFault, .int xlaterPlace, .ref qtold, .ref qread, .int xtheatre, .int xpalms, .int xactors, .int xrate, .int xbook, .int xchest, .int xencores, .int xnights, .int xlives, .int xhushed, .int xclaps, .int xechoFor, wleft, wowes, wgot, wsaved, wstorms, wstarved, .int xcapped, .int xtwoHands, .int xoneHand, wasks, wwentTo, .int xdark, .int xminutes, wahead, wbehind, wunit, .int xseed, wkept])), (qtold, .inl (cI, 121, .inl (upd g8 (Int32.toNatClampNeg 0) z10))), (qread, .inl (cI, 4, .inl m_read))] := hD
    have hf_g11_0 : (upd g8 (Int32.toNatClampNeg 0) z10) 0 = z10 := pk_us
    generalize hu_g11 : (upd g8 (Int32.toNatClampNeg 0) z10) = g11 at hP hD hf_g11_0
    refine W.widen (k := 0) (n := 0) (Nat.le_of_ble_eq_true rfl) (Nat.le_of_ble_eq_true rfl) ?_
    exact ro_v hx hb hr hlocks (g11) rfl (⟨(show Td g11 from by unfold Td; rw [hf_g11_0]; omega), (⟨_, hx1, Or.inl (⟨c2, ⟨_, ez4, ⟨_, ez5, ⟨_, ez6, ⟨_, ez7, ⟨_, hu_g8, ⟨_, ez10, ⟨_, hu_g11, rfl⟩⟩⟩⟩⟩⟩⟩⟩)⟩)⟩) (hP.sub [0, 1, 2] rfl) (hD.sub [0, 1, 2] (by decide) rfl) hS dX10_keep_62
  · skip
    refine W.widen (k := 0) (n := 0) (Nat.le_of_ble_eq_true rfl) (Nat.le_of_ble_eq_true rfl) ?_
    exact ro_v hx hb hr hlocks (m_told) rfl (⟨(show Td m_told from by unfold Td; rw [hx1]; omega), (⟨_, hx1, Or.inr (⟨c2, rfl⟩)⟩)⟩) (hP.sub [0, 1, 2] rfl) (hD.sub [0, 1, 2] (by decide) rfl) hS dX10_keep_15
