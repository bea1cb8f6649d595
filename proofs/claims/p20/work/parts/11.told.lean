set_option maxHeartbeats 4000000 in
set_option maxRecDepth 100000 in
theorem k_clear (l : Launch) (D : va_G) (cI cB cJ cZ cT : ClassId) (h : Nat) (tpalms : Int32) (tactors : Int32) (tusurers : Int32) (trate : Int32) (tchest : Int32) (tborrowers : Int32) (tclaps : Value) (thands : Value) (thunger : Value) (tsaved : Value) (tasks : Value) (tfloors : Value) (h_tpalms : 0 ≤ tpalms.toInt ∧ tpalms.toInt ≤ 5) (h_tactors : 0 ≤ tactors.toInt ∧ tactors.toInt ≤ 6) (h_tusurers : 0 ≤ tusurers.toInt ∧ tusurers.toInt ≤ 4) : Co l yX7_clear wsX7_clear ({ frames := 0, cells := 0, slots := 0, locals := 0 }) D (tyL cI cB cJ cZ cT) [.ref h] [(h, .inr (7, [.int tpalms, tclaps, thands, .int tactors, thunger, tsaved, .int tusurers, tasks, tfloors, .int trate, .int tchest, .int tborrowers]))] (fun u : Unit => none) (fun u : Unit => (R_k_clear)) (fun u : Unit => [(h, .inr (7, [.int 0, tclaps, thands, .int 0, thunger, tsaved, .int 0, tasks, tfloors, .int 0, .int 999, .int 0]))]) 0 0 := by
  refine entry (cc := cX7_clear) (maxL := 1) (ret := none) (by decide) rfl (Nat.le_of_ble_eq_true rfl) ?_
  intro p e s m below meth c A ls hx hb hr hml hts hown hlocks hname hK hP hD hS hA hl
  have hown : s.vm.findClass RX7 = some m.cls := hown
  have hl : lv_has ls 1 [(0, .ref h)] := hl
  refine lv_aload_n hx hb dX7_clear_0 rfl (lv_at hl 0 rfl) ?_
  refine lv_iconst (v := 0) hx hb dX7_clear_1 (by decide) ?_
  refine va_put (D := D) (ci := 7) (v := .int 0) (ty := .int) (C := RX7) (T := TX7) (N := 12) hx hb hts (fun _ h => List.mem_cons_of_mem _ (inAX7 _ h)) tyX7 tyX7_ok nmX7 hown hK.1 hP hD hS 0 rfl rfl 0 (by decide) (hts (.fieldLink RX7 30 "ClapBank$Theatre" "palms" "I") (List.mem_cons_of_mem _ W_278)) (fun _ h9 => h9) rfl (by decide +kernel) rfl rfl (Nat.le_of_ble_eq_true rfl) dX7_clear_2 (fun H locs hP hD hS => ?_)
  have hP : va_P D vwCl [(h, .inr (7, [.int 0, tclaps, thands, .int tactors, thunger, tsaved, .int tusurers, tasks, tfloors, .int trate, .int tchest, .int tborrowers]))] H := hP
  have hD : va_D A [(h, .inr (7, [.int 0, tclaps, thands, .int tactors, thunger, tsaved, .int tusurers, tasks, tfloors, .int trate, .int tchest, .int tborrowers]))] := hD
  refine lv_aload_n hx hb dX7_clear_5 rfl (lv_at hl 0 rfl) ?_
  refine lv_iconst (v := 0) hx hb dX7_clear_6 (by decide) ?_
  refine va_put (D := D) (ci := 7) (v := .int 0) (ty := .int) (C := RX7) (T := TX7) (N := 12) hx hb hts (fun _ h => List.mem_cons_of_mem _ (inAX7 _ h)) tyX7 tyX7_ok nmX7 hown hK.1 hP hD hS 0 rfl rfl 3 (by decide) (hts (.fieldLink RX7 34 "ClapBank$Theatre" "actors" "I") (List.mem_cons_of_mem _ W_279)) (fun _ h9 => h9) rfl (by decide +kernel) rfl rfl (Nat.le_of_ble_eq_true rfl) dX7_clear_7 (fun H locs hP hD hS => ?_)
  have hP : va_P D vwCl [(h, .inr (7, [.int 0, tclaps, thands, .int 0, thunger, tsaved, .int tusurers, tasks, tfloors, .int trate, .int tchest, .int tborrowers]))] H := hP
  have hD : va_D A [(h, .inr (7, [.int 0, tclaps, thands, .int 0, thunger, tsaved, .int tusurers, tasks, tfloors, .int trate, .int tchest, .int tborrowers]))] := hD
  refine lv_aload_n hx hb dX7_clear_10 rfl (lv_at hl 0 rfl) ?_
  refine lv_iconst (v := 0) hx hb dX7_clear_11 (by decide) ?_
  refine va_put (D := D) (ci := 7) (v := .int 0) (ty := .int) (C := RX7) (T := TX7) (N := 12) hx hb hts (fun _ h => List.mem_cons_of_mem _ (inAX7 _ h)) tyX7 tyX7_ok nmX7 hown hK.1 hP hD hS 0 rfl rfl 6 (by decide) (hts (.fieldLink RX7 37 "ClapBank$Theatre" "usurers" "I") (List.mem_cons_of_mem _ W_280)) (fun _ h9 => h9) rfl (by decide +kernel) rfl rfl (Nat.le_of_ble_eq_true rfl) dX7_clear_12 (fun H locs hP hD hS => ?_)
  have hP : va_P D vwCl [(h, .inr (7, [.int 0, tclaps, thands, .int 0, thunger, tsaved, .int 0, tasks, tfloors, .int trate, .int tchest, .int tborrowers]))] H := hP
  have hD : va_D A [(h, .inr (7, [.int 0, tclaps, thands, .int 0, thunger, tsaved, .int 0, tasks, tfloors, .int trate, .int tchest, .int tborrowers]))] := hD
  refine lv_aload_n hx hb dX7_clear_15 rfl (lv_at hl 0 rfl) ?_
  refine lv_iconst (v := 0) hx hb dX7_clear_16 (by decide) ?_
  refine va_put (D := D) (ci := 7) (v := .int 0) (ty := .int) (C := RX7) (T := TX7) (N := 12) hx hb hts (fun _ h => List.mem_cons_of_mem _ (inAX7 _ h)) tyX7 tyX7_ok nmX7 hown hK.1 hP hD hS 0 rfl rfl 9 (by decide) (hts (.fieldLink RX7 40 "ClapBank$Theatre" "rate" "I") (List.mem_cons_of_mem _ W_281)) (fun _ h9 => h9) rfl (by decide +kernel) rfl rfl (Nat.le_of_ble_eq_true rfl) dX7_clear_17 (fun H locs hP hD hS => ?_)
  have hP : va_P D vwCl [(h, .inr (7, [.int 0, tclaps, thands, .int 0, thunger, tsaved, .int 0, tasks, tfloors, .int 0, .int tchest, .int tborrowers]))] H := hP
  have hD : va_D A [(h, .inr (7, [.int 0, tclaps, thands, .int 0, thunger, tsaved, .int 0, tasks, tfloors, .int 0, .int tchest, .int tborrowers]))] := hD
  refine lv_aload_n hx hb dX7_clear_20 rfl (lv_at hl 0 rfl) ?_
  refine lv_sipush (v := 999) hx hb dX7_clear_21 (by decide) ?_
  refine va_put (D := D) (ci := 7) (v := .int 999) (ty := .int) (C := RX7) (T := TX7) (N := 12) hx hb hts (fun _ h => List.mem_cons_of_mem _ (inAX7 _ h)) tyX7 tyX7_ok nmX7 hown hK.1 hP hD hS 0 rfl rfl 10 (by decide) (hts (.fieldLink RX7 43 "ClapBank$Theatre" "chest" "I") (List.mem_cons_of_mem _ W_282)) (fun _ h9 => h9) rfl (by decide +kernel) rfl rfl (Nat.le_of_ble_eq_true rfl) dX7_clear_24 (fun H locs hP hD hS => ?_)
  have hP : va_P D vwCl [(h, .inr (7, [.int 0, tclaps, thands, .int 0, thunger, tsaved, .int 0, tasks, tfloors, .int 0, .int 999, .int tborrowers]))] H := hP
  have hD : va_D A [(h, .inr (7, [.int 0, tclaps, thands, .int 0, thunger, tsaved, .int 0, tasks, tfloors, .int 0, .int 999, .int tborrowers]))] := hD
  refine lv_aload_n hx hb dX7_clear_27 rfl (lv_at hl 0 rfl) ?_
  refine lv_iconst (v := 0) hx hb dX7_clear_28 (by decide) ?_
  refine va_put (D := D) (ci := 7) (v := .int 0) (ty := .int) (C := RX7) (T := TX7) (N := 12) hx hb hts (fun _ h => List.mem_cons_of_mem _ (inAX7 _ h)) tyX7 tyX7_ok nmX7 hown hK.1 hP hD hS 0 rfl rfl 11 (by decide) (hts (.fieldLink RX7 46 "ClapBank$Theatre" "borrowers" "I") (List.mem_cons_of_mem _ W_283)) (fun _ h9 => h9) rfl (by decide +kernel) rfl rfl (Nat.le_of_ble_eq_true rfl) dX7_clear_29 (fun H locs hP hD hS => ?_)
  have hP : va_P D vwCl [(h, .inr (7, [.int 0, tclaps, thands, .int 0, thunger, tsaved, .int 0, tasks, tfloors, .int 0, .int 999, .int 0]))] H := hP
  have hD : va_D A [(h, .inr (7, [.int 0, tclaps, thands, .int 0, thunger, tsaved, .int 0, tasks, tfloors, .int 0, .int 999, .int 0]))] := hD
  refine W.widen (k := 0) (n := 0) (Nat.le_of_ble_eq_true rfl) (Nat.le_of_ble_eq_true rfl) ?_
  exact ro_v hx hb hr hlocks () rfl ((trivial)) (hP.sub [0] rfl) (hD.sub [0] (by decide) rfl) hS dX7_clear_32
set_option maxHeartbeats 4000000 in
set_option maxRecDepth 100000 in
theorem k_tcopy (l : Launch) (D : va_G) (cI cB cJ cZ cT : ClassId) (h : Nat) (o : Nat) (tclaps : Nat) (thands : Nat) (thunger : Nat) (tsaved : Nat) (tasks : Nat) (tfloors : Nat) (uclaps : Nat) (uhands : Nat) (uhunger : Nat) (usaved : Nat) (uasks : Nat) (ufloors : Nat) (tpalms : Int32) (tactors : Int32) (tusurers : Int32) (trate : Int32) (tchest : Int32) (tborrowers : Int32) (upalms : Int32) (uactors : Int32) (uusurers : Int32) (urate : Int32) (uchest : Int32) (uborrowers : Int32) (t_claps : Nat → Int32) (t_hands : Nat → Int32) (t_hunger : Nat → Int32) (t_saved : Nat → Int32) (t_asks : Nat → Int32) (t_floors : Nat → Int32) (u_claps : Nat → Int32) (u_hands : Nat → Int32) (u_hunger : Nat → Int32) (u_saved : Nat → Int32) (u_asks : Nat → Int32) (u_floors : Nat → Int32) (h_tpalms : 0 ≤ tpalms.toInt ∧ tpalms.toInt ≤ 5) (h_tactors : 0 ≤ tactors.toInt ∧ tactors.toInt ≤ 6) (h_tusurers : 0 ≤ tusurers.toInt ∧ tusurers.toInt ≤ 4) (h_upalms : 0 ≤ upalms.toInt ∧ upalms.toInt ≤ 5) (h_uactors : 0 ≤ uactors.toInt ∧ uactors.toInt ≤ 6) (h_uusurers : 0 ≤ uusurers.toInt ∧ uusurers.toInt ≤ 4) : Co l yX7_copyFrom wsX7_copyFrom ({ frames := 1, cells := 0, slots := 0, locals := 60 }) D (tyL cI cB cJ cZ cT) [.ref h, .ref o] [(h, .inr (7, [.int tpalms, .ref tclaps, .ref thands, .int tactors, .ref thunger, .ref tsaved, .int tusurers, .ref tasks, .ref tfloors, .int trate, .int tchest, .int tborrowers])), (tclaps, .inl (cI, 5, .inl t_claps)), (thands, .inl (cI, 5, .inl t_hands)), (thunger, .inl (cI, 6, .inl t_hunger)), (tsaved, .inl (cI, 6, .inl t_saved)), (tasks, .inl (cI, 4, .inl t_asks)), (tfloors, .inl (cI, 4, .inl t_floors)), (o, .inr (7, [.int upalms, .ref uclaps, .ref uhands, .int uactors, .ref uhunger, .ref usaved, .int uusurers, .ref uasks, .ref ufloors, .int urate, .int uchest, .int uborrowers])), (uclaps, .inl (cI, 5, .inl u_claps)), (uhands, .inl (cI, 5, .inl u_hands)), (uhunger, .inl (cI, 6, .inl u_hunger)), (usaved, .inl (cI, 6, .inl u_saved)), (uasks, .inl (cI, 4, .inl u_asks)), (ufloors, .inl (cI, 4, .inl u_floors))] (fun u : (Nat → Int32) × (Nat → Int32) × (Nat → Int32) × (Nat → Int32) × (Nat → Int32) × (Nat → Int32) => none) (fun u : (Nat → Int32) × (Nat → Int32) × (Nat → Int32) × (Nat → Int32) × (Nat → Int32) × (Nat → Int32) => (R_k_tcopy u_claps t_claps u_hands t_hands u_hunger t_hunger u_saved t_saved u_asks t_asks u_floors t_floors u.1 u.2.1 u.2.2.1 u.2.2.2.1 u.2.2.2.2.1 u.2.2.2.2.2)) (fun u : (Nat → Int32) × (Nat → Int32) × (Nat → Int32) × (Nat → Int32) × (Nat → Int32) × (Nat → Int32) => [(h, .inr (7, [.int upalms, .ref tclaps, .ref thands, .int uactors, .ref thunger, .ref tsaved, .int uusurers, .ref tasks, .ref tfloors, .int urate, .int uchest, .int uborrowers])), (tclaps, .inl (cI, 5, .inl u.1)), (thands, .inl (cI, 5, .inl u.2.1)), (thunger, .inl (cI, 6, .inl u.2.2.1)), (tsaved, .inl (cI, 6, .inl u.2.2.2.1)), (tasks, .inl (cI, 4, .inl u.2.2.2.2.1)), (tfloors, .inl (cI, 4, .inl u.2.2.2.2.2)), (o, .inr (7, [.int upalms, .ref uclaps, .ref uhands, .int uactors, .ref uhunger, .ref usaved, .int uusurers, .ref uasks, .ref ufloors, .int urate, .int uchest, .int uborrowers])), (uclaps, .inl (cI, 5, .inl u_claps)), (uhands, .inl (cI, 5, .inl u_hands)), (uhunger, .inl (cI, 6, .inl u_hunger)), (usaved, .inl (cI, 6, .inl u_saved)), (uasks, .inl (cI, 4, .inl u_asks)), (ufloors, .inl (cI, 4, .inl u_floors))]) 0 0 := by
  refine entry (cc := cX7_copyFrom) (maxL := 2) (ret := none) (by decide) rfl (Nat.le_of_ble_eq_true rfl) ?_
  intro p e s m below meth c A ls hx hb hr hml hts hown hlocks hname hK hP hD hS hA hl
  have hown : s.vm.findClass RX7 = some m.cls := hown
  have hl : lv_has ls 2 [(0, .ref h), (1, .ref o)] := hl
  refine lv_aload_n hx hb dX7_copyFrom_0 rfl (lv_at hl 0 rfl) ?_
  refine lv_aload_n hx hb dX7_copyFrom_1 rfl (lv_at hl 1 rfl) ?_
  refine va_get (D := D) (ci := 7) (v := .int upalms) (C := RX7) (T := TX7) (N := 12) hx hb hts (fun _ h => List.mem_cons_of_mem _ (inAX7 _ h)) hown hK.1 hP 7 rfl rfl 0 (by decide) (hts (.fieldLink RX7 30 "ClapBank$Theatre" "palms" "I") (List.mem_cons_of_mem _ W_278)) (fun _ h9 => h9) rfl dX7_copyFrom_2 ?_
  refine va_put (D := D) (ci := 7) (v := .int upalms) (ty := .int) (C := RX7) (T := TX7) (N := 12) hx hb hts (fun _ h => List.mem_cons_of_mem _ (inAX7 _ h)) tyX7 tyX7_ok nmX7 hown hK.1 hP hD hS 0 rfl rfl 0 (by decide) (hts (.fieldLink RX7 30 "ClapBank$Theatre" "palms" "I") (List.mem_cons_of_mem _ W_278)) (fun _ h9 => h9) rfl (by decide +kernel) rfl rfl (Nat.le_of_ble_eq_true rfl) dX7_copyFrom_5 (fun H locs hP hD hS => ?_)
  have hP : va_P D vwCl [(h, .inr (7, [.int upalms, .ref tclaps, .ref thands, .int tactors, .ref thunger, .ref tsaved, .int tusurers, .ref tasks, .ref tfloors, .int trate, .int tchest, .int tborrowers])), (tclaps, .inl (cI, 5, .inl t_claps)), (thands, .inl (cI, 5, .inl t_hands)), (thunger, .inl (cI, 6, .inl t_hunger)), (tsaved, .inl (cI, 6, .inl t_saved)), (tasks, .inl (cI, 4, .inl t_asks)), (tfloors, .inl (cI, 4, .inl t_floors)), (o, .inr (7, [.int upalms, .ref uclaps, .ref uhands, .int uactors, .ref uhunger, .ref usaved, .int uusurers, .ref uasks, .ref ufloors, .int urate, .int uchest, .int uborrowers])), (uclaps, .inl (cI, 5, .inl u_claps)), (uhands, .inl (cI, 5, .inl u_hands)), (uhunger, .inl (cI, 6, .inl u_hunger)), (usaved, .inl (cI, 6, .inl u_saved)), (uasks, .inl (cI, 4, .inl u_asks)), (ufloors, .inl (cI, 4, .inl u_floors))] H := hP
  have hD : va_D A [(h, .inr (7, [.int upalms, .ref tclaps, .ref thands, .int tactors, .ref thunger, .ref tsaved, .int tusurers, .ref tasks, .ref tfloors, .int trate, .int tchest, .int tborrowers])), (tclaps, .inl (cI, 5, .inl t_claps)), (thands, .inl (cI, 5, .inl t_hands)), (thunger, .inl (cI, 6, .inl t_hunger)), (tsaved, .inl (cI, 6, .inl t_saved)), (tasks, .inl (cI, 4, .inl t_asks)), (tfloors, .inl (cI, 4, .inl t_floors)), (o, .inr (7, [.int upalms, .ref uclaps, .ref uhands, .int uactors, .ref uhunger, .ref usaved, .int uusurers, .ref uasks, .ref ufloors, .int urate, .int uchest, .int uborrowers])), (uclaps, .inl (cI, 5, .inl u_claps)), (uhands, .inl (cI, 5, .inl u_hands)), (uhunger, .inl (cI, 6, .inl u_hunger)), (usaved, .inl (cI, 6, .inl u_saved)), (uasks, .inl (cI, 4, .inl u_asks)), (ufloors, .inl (cI, 4, .inl u_floors))] := hD
  refine lv_aload_n hx hb dX7_copyFrom_8 rfl (lv_at hl 0 rfl) ?_
  refine lv_aload_n hx hb dX7_copyFrom_9 rfl (lv_at hl 1 rfl) ?_
  refine va_get (D := D) (ci := 7) (v := .int uactors) (C := RX7) (T := TX7) (N := 12) hx hb hts (fun _ h => List.mem_cons_of_mem _ (inAX7 _ h)) hown hK.1 hP 7 rfl rfl 3 (by decide) (hts (.fieldLink RX7 34 "ClapBank$Theatre" "actors" "I") (List.mem_cons_of_mem _ W_279)) (fun _ h9 => h9) rfl dX7_copyFrom_10 ?_
  refine va_put (D := D) (ci := 7) (v := .int uactors) (ty := .int) (C := RX7) (T := TX7) (N := 12) hx hb hts (fun _ h => List.mem_cons_of_mem _ (inAX7 _ h)) tyX7 tyX7_ok nmX7 hown hK.1 hP hD hS 0 rfl rfl 3 (by decide) (hts (.fieldLink RX7 34 "ClapBank$Theatre" "actors" "I") (List.mem_cons_of_mem _ W_279)) (fun _ h9 => h9) rfl (by decide +kernel) rfl rfl (Nat.le_of_ble_eq_true rfl) dX7_copyFrom_13 (fun H locs hP hD hS => ?_)
  have hP : va_P D vwCl [(h, .inr (7, [.int upalms, .ref tclaps, .ref thands, .int uactors, .ref thunger, .ref tsaved, .int tusurers, .ref tasks, .ref tfloors, .int trate, .int tchest, .int tborrowers])), (tclaps, .inl (cI, 5, .inl t_claps)), (thands, .inl (cI, 5, .inl t_hands)), (thunger, .inl (cI, 6, .inl t_hunger)), (tsaved, .inl (cI, 6, .inl t_saved)), (tasks, .inl (cI, 4, .inl t_asks)), (tfloors, .inl (cI, 4, .inl t_floors)), (o, .inr (7, [.int upalms, .ref uclaps, .ref uhands, .int uactors, .ref uhunger, .ref usaved, .int uusurers, .ref uasks, .ref ufloors, .int urate, .int uchest, .int uborrowers])), (uclaps, .inl (cI, 5, .inl u_claps)), (uhands, .inl (cI, 5, .inl u_hands)), (uhunger, .inl (cI, 6, .inl u_hunger)), (usaved, .inl (cI, 6, .inl u_saved)), (uasks, .inl (cI, 4, .inl u_asks)), (ufloors, .inl (cI, 4, .inl u_floors))] H := hP
  have hD : va_D A [(h, .inr (7, [.int upalms, .ref tclaps, .ref thands, .int uactors, .ref thunger, .ref tsaved, .int tusurers, .ref tasks, .ref tfloors, .int trate, .int tchest, .int tborrowers])), (tclaps, .inl (cI, 5, .inl t_claps)), (thands, .inl (cI, 5, .inl t_hands)), (thunger, .inl (cI, 6, .inl t_hunger)), (tsaved, .inl (cI, 6, .inl t_saved)), (tasks, .inl (cI, 4, .inl t_asks)), (tfloors, .inl (cI, 4, .inl t_floors)), (o, .inr (7, [.int upalms, .ref uclaps, .ref uhands, .int uactors, .ref uhunger, .ref usaved, .int uusurers, .ref uasks, .ref ufloors, .int urate, .int uchest, .int uborrowers])), (uclaps, .inl (cI, 5, .inl u_claps)), (uhands, .inl (cI, 5, .inl u_hands)), (uhunger, .inl (cI, 6, .inl u_hunger)), (usaved, .inl (cI, 6, .inl u_saved)), (uasks, .inl (cI, 4, .inl u_asks)), (ufloors, .inl (cI, 4, .inl u_floors))] := hD
  refine lv_aload_n hx hb dX7_copyFrom_16 rfl (lv_at hl 0 rfl) ?_
  refine lv_aload_n hx hb dX7_copyFrom_17 rfl (lv_at hl 1 rfl) ?_
  refine va_get (D := D) (ci := 7) (v := .int uusurers) (C := RX7) (T := TX7) (N := 12) hx hb hts (fun _ h => List.mem_cons_of_mem _ (inAX7 _ h)) hown hK.1 hP 7 rfl rfl 6 (by decide) (hts (.fieldLink RX7 37 "ClapBank$Theatre" "usurers" "I") (List.mem_cons_of_mem _ W_280)) (fun _ h9 => h9) rfl dX7_copyFrom_18 ?_
  refine va_put (D := D) (ci := 7) (v := .int uusurers) (ty := .int) (C := RX7) (T := TX7) (N := 12) hx hb hts (fun _ h => List.mem_cons_of_mem _ (inAX7 _ h)) tyX7 tyX7_ok nmX7 hown hK.1 hP hD hS 0 rfl rfl 6 (by decide) (hts (.fieldLink RX7 37 "ClapBank$Theatre" "usurers" "I") (List.mem_cons_of_mem _ W_280)) (fun _ h9 => h9) rfl (by decide +kernel) rfl rfl (Nat.le_of_ble_eq_true rfl) dX7_copyFrom_21 (fun H locs hP hD hS => ?_)
  have hP : va_P D vwCl [(h, .inr (7, [.int upalms, .ref tclaps, .ref thands, .int uactors, .ref thunger, .ref tsaved, .int uusurers, .ref tasks, .ref tfloors, .int trate, .int tchest, .int tborrowers])), (tclaps, .inl (cI, 5, .inl t_claps)), (thands, .inl (cI, 5, .inl t_hands)), (thunger, .inl (cI, 6, .inl t_hunger)), (tsaved, .inl (cI, 6, .inl t_saved)), (tasks, .inl (cI, 4, .inl t_asks)), (tfloors, .inl (cI, 4, .inl t_floors)), (o, .inr (7, [.int upalms, .ref uclaps, .ref uhands, .int uactors, .ref uhunger, .ref usaved, .int uusurers, .ref uasks, .ref ufloors, .int urate, .int uchest, .int uborrowers])), (uclaps, .inl (cI, 5, .inl u_claps)), (uhands, .inl (cI, 5, .inl u_hands)), (uhunger, .inl (cI, 6, .inl u_hunger)), (usaved, .inl (cI, 6, .inl u_saved)), (uasks, .inl (cI, 4, .inl u_asks)), (ufloors, .inl (cI, 4, .inl u_floors))] H := hP
  have hD : va_D A [(h, .inr (7, [.int upalms, .ref tclaps, .ref thands, .int uactors, .ref thunger, .ref tsaved, .int uusurers, .ref tasks, .ref tfloors, .int trate, .int tchest, .int tborrowers])), (tclaps, .inl (cI, 5, .inl t_claps)), (thands, .inl (cI, 5, .inl t_hands)), (thunger, .inl (cI, 6, .inl t_hunger)), (tsaved, .inl (cI, 6, .inl t_saved)), (tasks, .inl (cI, 4, .inl t_asks)), (tfloors, .inl (cI, 4, .inl t_floors)), (o, .inr (7, [.int upalms, .ref uclaps, .ref uhands, .int uactors, .ref uhunger, .ref usaved, .int uusurers, .ref uasks, .ref ufloors, .int urate, .int uchest, .int uborrowers])), (uclaps, .inl (cI, 5, .inl u_claps)), (uhands, .inl (cI, 5, .inl u_hands)), (uhunger, .inl (cI, 6, .inl u_hunger)), (usaved, .inl (cI, 6, .inl u_saved)), (uasks, .inl (cI, 4, .inl u_asks)), (ufloors, .inl (cI, 4, .inl u_floors))] := hD
  refine lv_aload_n hx hb dX7_copyFrom_24 rfl (lv_at hl 0 rfl) ?_
  refine lv_aload_n hx hb dX7_copyFrom_25 rfl (lv_at hl 1 rfl) ?_
  refine va_get (D := D) (ci := 7) (v := .int urate) (C := RX7) (T := TX7) (N := 12) hx hb hts (fun _ h => List.mem_cons_of_mem _ (inAX7 _ h)) hown hK.1 hP 7 rfl rfl 9 (by decide) (hts (.fieldLink RX7 40 "ClapBank$Theatre" "rate" "I") (List.mem_cons_of_mem _ W_281)) (fun _ h9 => h9) rfl dX7_copyFrom_26 ?_
  refine va_put (D := D) (ci := 7) (v := .int urate) (ty := .int) (C := RX7) (T := TX7) (N := 12) hx hb hts (fun _ h => List.mem_cons_of_mem _ (inAX7 _ h)) tyX7 tyX7_ok nmX7 hown hK.1 hP hD hS 0 rfl rfl 9 (by decide) (hts (.fieldLink RX7 40 "ClapBank$Theatre" "rate" "I") (List.mem_cons_of_mem _ W_281)) (fun _ h9 => h9) rfl (by decide +kernel) rfl rfl (Nat.le_of_ble_eq_true rfl) dX7_copyFrom_29 (fun H locs hP hD hS => ?_)
  have hP : va_P D vwCl [(h, .inr (7, [.int upalms, .ref tclaps, .ref thands, .int uactors, .ref thunger, .ref tsaved, .int uusurers, .ref tasks, .ref tfloors, .int urate, .int tchest, .int tborrowers])), (tclaps, .inl (cI, 5, .inl t_claps)), (thands, .inl (cI, 5, .inl t_hands)), (thunger, .inl (cI, 6, .inl t_hunger)), (tsaved, .inl (cI, 6, .inl t_saved)), (tasks, .inl (cI, 4, .inl t_asks)), (tfloors, .inl (cI, 4, .inl t_floors)), (o, .inr (7, [.int upalms, .ref uclaps, .ref uhands, .int uactors, .ref uhunger, .ref usaved, .int uusurers, .ref uasks, .ref ufloors, .int urate, .int uchest, .int uborrowers])), (uclaps, .inl (cI, 5, .inl u_claps)), (uhands, .inl (cI, 5, .inl u_hands)), (uhunger, .inl (cI, 6, .inl u_hunger)), (usaved, .inl (cI, 6, .inl u_saved)), (uasks, .inl (cI, 4, .inl u_asks)), (ufloors, .inl (cI, 4, .inl u_floors))] H := hP
  have hD : va_D A [(h, .inr (7, [.int upalms, .ref tclaps, .ref thands, .int uactors, .ref thunger, .ref tsaved, .int uusurers, .ref tasks, .ref tfloors, .int urate, .int tchest, .int tborrowers])), (tclaps, .inl (cI, 5, .inl t_claps)), (thands, .inl (cI, 5, .inl t_hands)), (thunger, .inl (cI, 6, .inl t_hunger)), (tsaved, .inl (cI, 6, .inl t_saved)), (tasks, .inl (cI, 4, .inl t_asks)), (tfloors, .inl (cI, 4, .inl t_floors)), (o, .inr (7, [.int upalms, .ref uclaps, .ref uhands, .int uactors, .ref uhunger, .ref usaved, .int uusurers, .ref uasks, .ref ufloors, .int urate, .int uchest, .int uborrowers])), (uclaps, .inl (cI, 5, .inl u_claps)), (uhands, .inl (cI, 5, .inl u_hands)), (uhunger, .inl (cI, 6, .inl u_hunger)), (usaved, .inl (cI, 6, .inl u_saved)), (uasks, .inl (cI, 4, .inl u_asks)), (ufloors, .inl (cI, 4, .inl u_floors))] := hD
  refine lv_aload_n hx hb dX7_copyFrom_32 rfl (lv_at hl 0 rfl) ?_
  refine lv_aload_n hx hb dX7_copyFrom_33 rfl (lv_at hl 1 rfl) ?_
  refine va_get (D := D) (ci := 7) (v := .int uchest) (C := RX7) (T := TX7) (N := 12) hx hb hts (fun _ h => List.mem_cons_of_mem _ (inAX7 _ h)) hown hK.1 hP 7 rfl rfl 10 (by decide) (hts (.fieldLink RX7 43 "ClapBank$Theatre" "chest" "I") (List.mem_cons_of_mem _ W_282)) (fun _ h9 => h9) rfl dX7_copyFrom_34 ?_
  refine va_put (D := D) (ci := 7) (v := .int uchest) (ty := .int) (C := RX7) (T := TX7) (N := 12) hx hb hts (fun _ h => List.mem_cons_of_mem _ (inAX7 _ h)) tyX7 tyX7_ok nmX7 hown hK.1 hP hD hS 0 rfl rfl 10 (by decide) (hts (.fieldLink RX7 43 "ClapBank$Theatre" "chest" "I") (List.mem_cons_of_mem _ W_282)) (fun _ h9 => h9) rfl (by decide +kernel) rfl rfl (Nat.le_of_ble_eq_true rfl) dX7_copyFrom_37 (fun H locs hP hD hS => ?_)
  have hP : va_P D vwCl [(h, .inr (7, [.int upalms, .ref tclaps, .ref thands, .int uactors, .ref thunger, .ref tsaved, .int uusurers, .ref tasks, .ref tfloors, .int urate, .int uchest, .int tborrowers])), (tclaps, .inl (cI, 5, .inl t_claps)), (thands, .inl (cI, 5, .inl t_hands)), (thunger, .inl (cI, 6, .inl t_hunger)), (tsaved, .inl (cI, 6, .inl t_saved)), (tasks, .inl (cI, 4, .inl t_asks)), (tfloors, .inl (cI, 4, .inl t_floors)), (o, .inr (7, [.int upalms, .ref uclaps, .ref uhands, .int uactors, .ref uhunger, .ref usaved, .int uusurers, .ref uasks, .ref ufloors, .int urate, .int uchest, .int uborrowers])), (uclaps, .inl (cI, 5, .inl u_claps)), (uhands, .inl (cI, 5, .inl u_hands)), (uhunger, .inl (cI, 6, .inl u_hunger)), (usaved, .inl (cI, 6, .inl u_saved)), (uasks, .inl (cI, 4, .inl u_asks)), (ufloors, .inl (cI, 4, .inl u_floors))] H := hP
  have hD : va_D A [(h, .inr (7, [.int upalms, .ref tclaps, .ref thands, .int uactors, .ref thunger, .ref tsaved, .int uusurers, .ref tasks, .ref tfloors, .int urate, .int uchest, .int tborrowers])), (tclaps, .inl (cI, 5, .inl t_claps)), (thands, .inl (cI, 5, .inl t_hands)), (thunger, .inl (cI, 6, .inl t_hunger)), (tsaved, .inl (cI, 6, .inl t_saved)), (tasks, .inl (cI, 4, .inl t_asks)), (tfloors, .inl (cI, 4, .inl t_floors)), (o, .inr (7, [.int upalms, .ref uclaps, .ref uhands, .int uactors, .ref uhunger, .ref usaved, .int uusurers, .ref uasks, .ref ufloors, .int urate, .int uchest, .int uborrowers])), (uclaps, .inl (cI, 5, .inl u_claps)), (uhands, .inl (cI, 5, .inl u_hands)), (uhunger, .inl (cI, 6, .inl u_hunger)), (usaved, .inl (cI, 6, .inl u_saved)), (uasks, .inl (cI, 4, .inl u_asks)), (ufloors, .inl (cI, 4, .inl u_floors))] := hD
  refine lv_aload_n hx hb dX7_copyFrom_40 rfl (lv_at hl 0 rfl) ?_
  refine lv_aload_n hx hb dX7_copyFrom_41 rfl (lv_at hl 1 rfl) ?_
  refine va_get (D := D) (ci := 7) (v := .int uborrowers) (C := RX7) (T := TX7) (N := 12) hx hb hts (fun _ h => List.mem_cons_of_mem _ (inAX7 _ h)) hown hK.1 hP 7 rfl rfl 11 (by decide) (hts (.fieldLink RX7 46 "ClapBank$Theatre" "borrowers" "I") (List.mem_cons_of_mem _ W_283)) (fun _ h9 => h9) rfl dX7_copyFrom_42 ?_
  refine va_put (D := D) (ci := 7) (v := .int uborrowers) (ty := .int) (C := RX7) (T := TX7) (N := 12) hx hb hts (fun _ h => List.mem_cons_of_mem _ (inAX7 _ h)) tyX7 tyX7_ok nmX7 hown hK.1 hP hD hS 0 rfl rfl 11 (by decide) (hts (.fieldLink RX7 46 "ClapBank$Theatre" "borrowers" "I") (List.mem_cons_of_mem _ W_283)) (fun _ h9 => h9) rfl (by decide +kernel) rfl rfl (Nat.le_of_ble_eq_true rfl) dX7_copyFrom_45 (fun H locs hP hD hS => ?_)
  have hP : va_P D vwCl [(h, .inr (7, [.int upalms, .ref tclaps, .ref thands, .int uactors, .ref thunger, .ref tsaved, .int uusurers, .ref tasks, .ref tfloors, .int urate, .int uchest, .int uborrowers])), (tclaps, .inl (cI, 5, .inl t_claps)), (thands, .inl (cI, 5, .inl t_hands)), (thunger, .inl (cI, 6, .inl t_hunger)), (tsaved, .inl (cI, 6, .inl t_saved)), (tasks, .inl (cI, 4, .inl t_asks)), (tfloors, .inl (cI, 4, .inl t_floors)), (o, .inr (7, [.int upalms, .ref uclaps, .ref uhands, .int uactors, .ref uhunger, .ref usaved, .int uusurers, .ref uasks, .ref ufloors, .int urate, .int uchest, .int uborrowers])), (uclaps, .inl (cI, 5, .inl u_claps)), (uhands, .inl (cI, 5, .inl u_hands)), (uhunger, .inl (cI, 6, .inl u_hunger)), (usaved, .inl (cI, 6, .inl u_saved)), (uasks, .inl (cI, 4, .inl u_asks)), (ufloors, .inl (cI, 4, .inl u_floors))] H := hP
  have hD : va_D A [(h, .inr (7, [.int upalms, .ref tclaps, .ref thands, .int uactors, .ref thunger, .ref tsaved, .int uusurers, .ref tasks, .ref tfloors, .int urate, .int uchest, .int uborrowers])), (tclaps, .inl (cI, 5, .inl t_claps)), (thands, .inl (cI, 5, .inl t_hands)), (thunger, .inl (cI, 6, .inl t_hunger)), (tsaved, .inl (cI, 6, .inl t_saved)), (tasks, .inl (cI, 4, .inl t_asks)), (tfloors, .inl (cI, 4, .inl t_floors)), (o, .inr (7, [.int upalms, .ref uclaps, .ref uhands, .int uactors, .ref uhunger, .ref usaved, .int uusurers, .ref uasks, .ref ufloors, .int urate, .int uchest, .int uborrowers])), (uclaps, .inl (cI, 5, .inl u_claps)), (uhands, .inl (cI, 5, .inl u_hands)), (uhunger, .inl (cI, 6, .inl u_hunger)), (usaved, .inl (cI, 6, .inl u_saved)), (uasks, .inl (cI, 4, .inl u_asks)), (ufloors, .inl (cI, 4, .inl u_floors))] := hD
  refine lv_aload_n hx hb dX7_copyFrom_48 rfl (lv_at hl 1 rfl) ?_
  refine va_get (D := D) (ci := 7) (v := .ref uclaps) (C := RX7) (T := TX7) (N := 12) hx hb hts (fun _ h => List.mem_cons_of_mem _ (inAX7 _ h)) hown hK.1 hP 7 rfl rfl 1 (by decide) (hts (.fieldLink RX7 9 "ClapBank$Theatre" "claps" "[I") (List.mem_cons_of_mem _ W_43)) (fun _ h9 => h9) rfl dX7_copyFrom_49 ?_
  refine lv_iconst (v := 0) hx hb dX7_copyFrom_52 (by decide) ?_
  refine lv_aload_n hx hb dX7_copyFrom_53 rfl (lv_at hl 0 rfl) ?_
  refine va_get (D := D) (ci := 7) (v := .ref tclaps) (C := RX7) (T := TX7) (N := 12) hx hb hts (fun _ h => List.mem_cons_of_mem _ (inAX7 _ h)) hown hK.1 hP 0 rfl rfl 1 (by decide) (hts (.fieldLink RX7 9 "ClapBank$Theatre" "claps" "[I") (List.mem_cons_of_mem _ W_43)) (fun _ h9 => h9) rfl dX7_copyFrom_54 ?_
  refine lv_iconst (v := 0) hx hb dX7_copyFrom_57 (by decide) ?_
  refine lv_iconst (v := 5) hx hb dX7_copyFrom_58 (by decide) ?_
  refine va_copyi (ty := .int) hx hb (hml.trans hl.1.symm) hown (hts (.methodLink RX7 49 arraycopyName) (List.mem_cons_of_mem _ W_437)) (hts (.native arraycopyName) (List.mem_cons_of_mem _ W_9)) (hts (.static arraycopyName) (List.mem_cons_of_mem _ W_10)) (hts (.initialized "java/lang/System") (List.mem_cons_of_mem _ W_11)) hK.1 hP hD hS 8 1 0 0 rfl rfl rfl rfl rfl (by decide) (by decide) (by decide) (by decide) (by decide) (fun _ _ => rfl) (Nat.le_of_ble_eq_true rfl) (Nat.le_of_ble_eq_true rfl) dX7_copyFrom_59 (fun H locs hP hD hS => ?_)
  have hP : va_P D vwCl [(h, .inr (7, [.int upalms, .ref tclaps, .ref thands, .int uactors, .ref thunger, .ref tsaved, .int uusurers, .ref tasks, .ref tfloors, .int urate, .int uchest, .int uborrowers])), (tclaps, .inl (cI, 5, .inl (va_cpy (α := Int32) u_claps t_claps (Int32.toNatClampNeg 0) (Int32.toNatClampNeg 0) (Int32.toNatClampNeg 5)))), (thands, .inl (cI, 5, .inl t_hands)), (thunger, .inl (cI, 6, .inl t_hunger)), (tsaved, .inl (cI, 6, .inl t_saved)), (tasks, .inl (cI, 4, .inl t_asks)), (tfloors, .inl (cI, 4, .inl t_floors)), (o, .inr (7, [.int upalms, .ref uclaps, .ref uhands, .int uactors, .ref uhunger, .ref usaved, .int uusurers, .ref uasks, .ref ufloors, .int urate, .int uchest, .int uborrowers])), (uclaps, .inl (cI, 5, .inl u_claps)), (uhands, .inl (cI, 5, .inl u_hands)), (uhunger, .inl (cI, 6, .inl u_hunger)), (usaved, .inl (cI, 6, .inl u_saved)), (uasks, .inl (cI, 4, .inl u_asks)), (ufloors, .inl (cI, 4, .inl u_floors))] H := hP
  have hD : va_D A [(h, .inr (7, [.int upalms, .ref tclaps, .ref thands, .int uactors, .ref thunger, .ref tsaved, .int uusurers, .ref tasks, .ref tfloors, .int urate, .int uchest, .int uborrowers])), (tclaps, .inl (cI, 5, .inl (va_cpy (α := Int32) u_claps t_claps (Int32.toNatClampNeg 0) (Int32.toNatClampNeg 0) (Int32.toNatClampNeg 5)))), (thands, .inl (cI, 5, .inl t_hands)), (thunger, .inl (cI, 6, .inl t_hunger)), (tsaved, .inl (cI, 6, .inl t_saved)), (tasks, .inl (cI, 4, .inl t_asks)), (tfloors, .inl (cI, 4, .inl t_floors)), (o, .inr (7, [.int upalms, .ref uclaps, .ref uhands, .int uactors, .ref uhunger, .ref usaved, .int uusurers, .ref uasks, .ref ufloors, .int urate, .int uchest, .int uborrowers])), (uclaps, .inl (cI, 5, .inl u_claps)), (uhands, .inl (cI, 5, .inl u_hands)), (uhunger, .inl (cI, 6, .inl u_hunger)), (usaved, .inl (cI, 6, .inl u_saved)), (uasks, .inl (cI, 4, .inl u_asks)), (ufloors, .inl (cI, 4, .inl u_floors))] := hD
  generalize hu_g1 : (va_cpy (α := Int32) u_claps t_claps (Int32.toNatClampNeg 0) (Int32.toNatClampNeg 0) (Int32.toNatClampNeg 5)) = g1 at hP hD
  refine lv_aload_n hx hb dX7_copyFrom_62 rfl (lv_at hl 1 rfl) ?_
  refine va_get (D := D) (ci := 7) (v := .ref uhands) (C := RX7) (T := TX7) (N := 12) hx hb hts (fun _ h => List.mem_cons_of_mem _ (inAX7 _ h)) hown hK.1 hP 7 rfl rfl 2 (by decide) (hts (.fieldLink RX7 15 "ClapBank$Theatre" "hands" "[I") (List.mem_cons_of_mem _ W_44)) (fun _ h9 => h9) rfl dX7_copyFrom_63 ?_
  refine lv_iconst (v := 0) hx hb dX7_copyFrom_66 (by decide) ?_
  refine lv_aload_n hx hb dX7_copyFrom_67 rfl (lv_at hl 0 rfl) ?_
  refine va_get (D := D) (ci := 7) (v := .ref thands) (C := RX7) (T := TX7) (N := 12) hx hb hts (fun _ h => List.mem_cons_of_mem _ (inAX7 _ h)) hown hK.1 hP 0 rfl rfl 2 (by decide) (hts (.fieldLink RX7 15 "ClapBank$Theatre" "hands" "[I") (List.mem_cons_of_mem _ W_44)) (fun _ h9 => h9) rfl dX7_copyFrom_68 ?_
  refine lv_iconst (v := 0) hx hb dX7_copyFrom_71 (by decide) ?_
  refine lv_iconst (v := 5) hx hb dX7_copyFrom_72 (by decide) ?_
  refine va_copyi (ty := .int) hx hb (hml.trans hl.1.symm) hown (hts (.methodLink RX7 49 arraycopyName) (List.mem_cons_of_mem _ W_437)) (hts (.native arraycopyName) (List.mem_cons_of_mem _ W_9)) (hts (.static arraycopyName) (List.mem_cons_of_mem _ W_10)) (hts (.initialized "java/lang/System") (List.mem_cons_of_mem _ W_11)) hK.1 hP hD hS 9 2 0 0 rfl rfl rfl rfl rfl (by decide) (by decide) (by decide) (by decide) (by decide) (fun _ _ => rfl) (Nat.le_of_ble_eq_true rfl) (Nat.le_of_ble_eq_true rfl) dX7_copyFrom_73 (fun H locs hP hD hS => ?_)
  have hP : va_P D vwCl [(h, .inr (7, [.int upalms, .ref tclaps, .ref thands, .int uactors, .ref thunger, .ref tsaved, .int uusurers, .ref tasks, .ref tfloors, .int urate, .int uchest, .int uborrowers])), (tclaps, .inl (cI, 5, .inl g1)), (thands, .inl (cI, 5, .inl (va_cpy (α := Int32) u_hands t_hands (Int32.toNatClampNeg 0) (Int32.toNatClampNeg 0) (Int32.toNatClampNeg 5)))), (thunger, .inl (cI, 6, .inl t_hunger)), (tsaved, .inl (cI, 6, .inl t_saved)), (tasks, .inl (cI, 4, .inl t_asks)), (tfloors, .inl (cI, 4, .inl t_floors)), (o, .inr (7, [.int upalms, .ref uclaps, .ref uhands, .int uactors, .ref uhunger, .ref usaved, .int uusurers, .ref uasks, .ref ufloors, .int urate, .int uchest, .int uborrowers])), (uclaps, .inl (cI, 5, .inl u_claps)), (uhands, .inl (cI, 5, .inl u_hands)), (uhunger, .inl (cI, 6, .inl u_hunger)), (usaved, .inl (cI, 6, .inl u_saved)), (uasks, .inl (cI, 4, .inl u_asks)), (ufloors, .inl (cI, 4, .inl u_floors))] H := hP
  have hD : va_D A [(h, .inr (7, [.int upalms, .ref tclaps, .ref thands, .int uactors, .ref thunger, .ref tsaved, .int uusurers, .ref tasks, .ref tfloors, .int urate, .int uchest, .int uborrowers])), (tclaps, .inl (cI, 5, .inl g1)), (thands, .inl (cI, 5, .inl (va_cpy (α := Int32) u_hands t_hands (Int32.toNatClampNeg 0) (Int32.toNatClampNeg 0) (Int32.toNatClampNeg 5)))), (thunger, .inl (cI, 6, .inl t_hunger)), (tsaved, .inl (cI, 6, .inl t_saved)), (tasks, .inl (cI, 4, .inl t_asks)), (tfloors, .inl (cI, 4, .inl t_floors)), (o, .inr (7, [.int upalms, .ref uclaps, .ref uhands, .int uactors, .ref uhunger, .ref usaved, .int uusurers, .ref uasks, .ref ufloors, .int urate, .int uchest, .int uborrowers])), (uclaps, .inl (cI, 5, .inl u_claps)), (uhands, .inl (cI, 5, .inl u_hands)), (uhunger, .inl (cI, 6, .inl u_hunger)), (usaved, .inl (cI, 6, .inl u_saved)), (uasks, .inl (cI, 4, .inl u_asks)), (ufloors, .inl (cI, 4, .inl u_floors))] := hD
  generalize hu_g2 : (va_cpy (α := Int32) u_hands t_hands (Int32.toNatClampNeg 0) (Int32.toNatClampNeg 0) (Int32.toNatClampNeg 5)) = g2 at hP hD
  refine lv_aload_n hx hb dX7_copyFrom_76 rfl (lv_at hl 1 rfl) ?_
  refine va_get (D := D) (ci := 7) (v := .ref uhunger) (C := RX7) (T := TX7) (N := 12) hx hb hts (fun _ h => List.mem_cons_of_mem _ (inAX7 _ h)) hown hK.1 hP 7 rfl rfl 4 (by decide) (hts (.fieldLink RX7 18 "ClapBank$Theatre" "hunger" "[I") (List.mem_cons_of_mem _ W_45)) (fun _ h9 => h9) rfl dX7_copyFrom_77 ?_
  refine lv_iconst (v := 0) hx hb dX7_copyFrom_80 (by decide) ?_
  refine lv_aload_n hx hb dX7_copyFrom_81 rfl (lv_at hl 0 rfl) ?_
  refine va_get (D := D) (ci := 7) (v := .ref thunger) (C := RX7) (T := TX7) (N := 12) hx hb hts (fun _ h => List.mem_cons_of_mem _ (inAX7 _ h)) hown hK.1 hP 0 rfl rfl 4 (by decide) (hts (.fieldLink RX7 18 "ClapBank$Theatre" "hunger" "[I") (List.mem_cons_of_mem _ W_45)) (fun _ h9 => h9) rfl dX7_copyFrom_82 ?_
  refine lv_iconst (v := 0) hx hb dX7_copyFrom_85 (by decide) ?_
  refine lv_bipush (v := 6) hx hb dX7_copyFrom_86 (by decide) ?_
  refine va_copyi (ty := .int) hx hb (hml.trans hl.1.symm) hown (hts (.methodLink RX7 49 arraycopyName) (List.mem_cons_of_mem _ W_437)) (hts (.native arraycopyName) (List.mem_cons_of_mem _ W_9)) (hts (.static arraycopyName) (List.mem_cons_of_mem _ W_10)) (hts (.initialized "java/lang/System") (List.mem_cons_of_mem _ W_11)) hK.1 hP hD hS 10 3 0 0 rfl rfl rfl rfl rfl (by decide) (by decide) (by decide) (by decide) (by decide) (fun _ _ => rfl) (Nat.le_of_ble_eq_true rfl) (Nat.le_of_ble_eq_true rfl) dX7_copyFrom_88 (fun H locs hP hD hS => ?_)
  have hP : va_P D vwCl [(h, .inr (7, [.int upalms, .ref tclaps, .ref thands, .int uactors, .ref thunger, .ref tsaved, .int uusurers, .ref tasks, .ref tfloors, .int urate, .int uchest, .int uborrowers])), (tclaps, .inl (cI, 5, .inl g1)), (thands, .inl (cI, 5, .inl g2)), (thunger, .inl (cI, 6, .inl (va_cpy (α := Int32) u_hunger t_hunger (Int32.toNatClampNeg 0) (Int32.toNatClampNeg 0) (Int32.toNatClampNeg 6)))), (tsaved, .inl (cI, 6, .inl t_saved)), (tasks, .inl (cI, 4, .inl t_asks)), (tfloors, .inl (cI, 4, .inl t_floors)), (o, .inr (7, [.int upalms, .ref uclaps, .ref uhands, .int uactors, .ref uhunger, .ref usaved, .int uusurers, .ref uasks, .ref ufloors, .int urate, .int uchest, .int uborrowers])), (uclaps, .inl (cI, 5, .inl u_claps)), (uhands, .inl (cI, 5, .inl u_hands)), (uhunger, .inl (cI, 6, .inl u_hunger)), (usaved, .inl (cI, 6, .inl u_saved)), (uasks, .inl (cI, 4, .inl u_asks)), (ufloors, .inl (cI, 4, .inl u_floors))] H := hP
  have hD : va_D A [(h, .inr (7, [.int upalms, .ref tclaps, .ref thands, .int uactors, .ref thunger, .ref tsaved, .int uusurers, .ref tasks, .ref tfloors, .int urate, .int uchest, .int uborrowers])), (tclaps, .inl (cI, 5, .inl g1)), (thands, .inl (cI, 5, .inl g2)), (thunger, .inl (cI, 6, .inl (va_cpy (α := Int32) u_hunger t_hunger (Int32.toNatClampNeg 0) (Int32.toNatClampNeg 0) (Int32.toNatClampNeg 6)))), (tsaved, .inl (cI, 6, .inl t_saved)), (tasks, .inl (cI, 4, .inl t_asks)), (tfloors, .inl (cI, 4, .inl t_floors)), (o, .inr (7, [.int upalms, .ref uclaps, .ref uhands, .int uactors, .ref uhunger, .ref usaved, .int uusurers, .ref uasks, .ref ufloors, .int urate, .int uchest, .int uborrowers])), (uclaps, .inl (cI, 5, .inl u_claps)), (uhands, .inl (cI, 5, .inl u_hands)), (uhunger, .inl (cI, 6, .inl u_hunger)), (usaved, .inl (cI, 6, .inl u_saved)), (uasks, .inl (cI, 4, .inl u_asks)), (ufloors, .inl (cI, 4, .inl u_floors))] := hD
  generalize hu_g3 : (va_cpy (α := Int32) u_hunger t_hunger (Int32.toNatClampNeg 0) (Int32.toNatClampNeg 0) (Int32.toNatClampNeg 6)) = g3 at hP hD
  refine lv_aload_n hx hb dX7_copyFrom_91 rfl (lv_at hl 1 rfl) ?_
  refine va_get (D := D) (ci := 7) (v := .ref usaved) (C := RX7) (T := TX7) (N := 12) hx hb hts (fun _ h => List.mem_cons_of_mem _ (inAX7 _ h)) hown hK.1 hP 7 rfl rfl 5 (by decide) (hts (.fieldLink RX7 21 "ClapBank$Theatre" "saved" "[I") (List.mem_cons_of_mem _ W_46)) (fun _ h9 => h9) rfl dX7_copyFrom_92 ?_
  refine lv_iconst (v := 0) hx hb dX7_copyFrom_95 (by decide) ?_
  refine lv_aload_n hx hb dX7_copyFrom_96 rfl (lv_at hl 0 rfl) ?_
  refine va_get (D := D) (ci := 7) (v := .ref tsaved) (C := RX7) (T := TX7) (N := 12) hx hb hts (fun _ h => List.mem_cons_of_mem _ (inAX7 _ h)) hown hK.1 hP 0 rfl rfl 5 (by decide) (hts (.fieldLink RX7 21 "ClapBank$Theatre" "saved" "[I") (List.mem_cons_of_mem _ W_46)) (fun _ h9 => h9) rfl dX7_copyFrom_97 ?_
  refine lv_iconst (v := 0) hx hb dX7_copyFrom_100 (by decide) ?_
  refine lv_bipush (v := 6) hx hb dX7_copyFrom_101 (by decide) ?_
  refine va_copyi (ty := .int) hx hb (hml.trans hl.1.symm) hown (hts (.methodLink RX7 49 arraycopyName) (List.mem_cons_of_mem _ W_437)) (hts (.native arraycopyName) (List.mem_cons_of_mem _ W_9)) (hts (.static arraycopyName) (List.mem_cons_of_mem _ W_10)) (hts (.initialized "java/lang/System") (List.mem_cons_of_mem _ W_11)) hK.1 hP hD hS 11 4 0 0 rfl rfl rfl rfl rfl (by decide) (by decide) (by decide) (by decide) (by decide) (fun _ _ => rfl) (Nat.le_of_ble_eq_true rfl) (Nat.le_of_ble_eq_true rfl) dX7_copyFrom_103 (fun H locs hP hD hS => ?_)
  have hP : va_P D vwCl [(h, .inr (7, [.int upalms, .ref tclaps, .ref thands, .int uactors, .ref thunger, .ref tsaved, .int uusurers, .ref tasks, .ref tfloors, .int urate, .int uchest, .int uborrowers])), (tclaps, .inl (cI, 5, .inl g1)), (thands, .inl (cI, 5, .inl g2)), (thunger, .inl (cI, 6, .inl g3)), (tsaved, .inl (cI, 6, .inl (va_cpy (α := Int32) u_saved t_saved (Int32.toNatClampNeg 0) (Int32.toNatClampNeg 0) (Int32.toNatClampNeg 6)))), (tasks, .inl (cI, 4, .inl t_asks)), (tfloors, .inl (cI, 4, .inl t_floors)), (o, .inr (7, [.int upalms, .ref uclaps, .ref uhands, .int uactors, .ref uhunger, .ref usaved, .int uusurers, .ref uasks, .ref ufloors, .int urate, .int uchest, .int uborrowers])), (uclaps, .inl (cI, 5, .inl u_claps)), (uhands, .inl (cI, 5, .inl u_hands)), (uhunger, .inl (cI, 6, .inl u_hunger)), (usaved, .inl (cI, 6, .inl u_saved)), (uasks, .inl (cI, 4, .inl u_asks)), (ufloors, .inl (cI, 4, .inl u_floors))] H := hP
  have hD : va_D A [(h, .inr (7, [.int upalms, .ref tclaps, .ref thands, .int uactors, .ref thunger, .ref tsaved, .int uusurers, .ref tasks, .ref tfloors, .int urate, .int uchest, .int uborrowers])), (tclaps, .inl (cI, 5, .inl g1)), (thands, .inl (cI, 5, .inl g2)), (thunger, .inl (cI, 6, .inl g3)), (tsaved, .inl (cI, 6, .inl (va_cpy (α := Int32) u_saved t_saved (Int32.toNatClampNeg 0) (Int32.toNatClampNeg 0) (Int32.toNatClampNeg 6)))), (tasks, .inl (cI, 4, .inl t_asks)), (tfloors, .inl (cI, 4, .inl t_floors)), (o, .inr (7, [.int upalms, .ref uclaps, .ref uhands, .int uactors, .ref uhunger, .ref usaved, .int uusurers, .ref uasks, .ref ufloors, .int urate, .int uchest, .int uborrowers])), (uclaps, .inl (cI, 5, .inl u_claps)), (uhands, .inl (cI, 5, .inl u_hands)), (uhunger, .inl (cI, 6, .inl u_hunger)), (usaved, .inl (cI, 6, .inl u_saved)), (uasks, .inl (cI, 4, .inl u_asks)), (ufloors, .inl (cI, 4, .inl u_floors))] := hD
  generalize hu_g4 : (va_cpy (α := Int32) u_saved t_saved (Int32.toNatClampNeg 0) (Int32.toNatClampNeg 0) (Int32.toNatClampNeg 6)) = g4 at hP hD
  refine lv_aload_n hx hb dX7_copyFrom_106 rfl (lv_at hl 1 rfl) ?_
  refine va_get (D := D) (ci := 7) (v := .ref uasks) (C := RX7) (T := TX7) (N := 12) hx hb hts (fun _ h => List.mem_cons_of_mem _ (inAX7 _ h)) hown hK.1 hP 7 rfl rfl 7 (by decide) (hts (.fieldLink RX7 24 "ClapBank$Theatre" "asks" "[I") (List.mem_cons_of_mem _ W_47)) (fun _ h9 => h9) rfl dX7_copyFrom_107 ?_
  refine lv_iconst (v := 0) hx hb dX7_copyFrom_110 (by decide) ?_
  refine lv_aload_n hx hb dX7_copyFrom_111 rfl (lv_at hl 0 rfl) ?_
  refine va_get (D := D) (ci := 7) (v := .ref tasks) (C := RX7) (T := TX7) (N := 12) hx hb hts (fun _ h => List.mem_cons_of_mem _ (inAX7 _ h)) hown hK.1 hP 0 rfl rfl 7 (by decide) (hts (.fieldLink RX7 24 "ClapBank$Theatre" "asks" "[I") (List.mem_cons_of_mem _ W_47)) (fun _ h9 => h9) rfl dX7_copyFrom_112 ?_
  refine lv_iconst (v := 0) hx hb dX7_copyFrom_115 (by decide) ?_
  refine lv_iconst (v := 4) hx hb dX7_copyFrom_116 (by decide) ?_
  refine va_copyi (ty := .int) hx hb (hml.trans hl.1.symm) hown (hts (.methodLink RX7 49 arraycopyName) (List.mem_cons_of_mem _ W_437)) (hts (.native arraycopyName) (List.mem_cons_of_mem _ W_9)) (hts (.static arraycopyName) (List.mem_cons_of_mem _ W_10)) (hts (.initialized "java/lang/System") (List.mem_cons_of_mem _ W_11)) hK.1 hP hD hS 12 5 0 0 rfl rfl rfl rfl rfl (by decide) (by decide) (by decide) (by decide) (by decide) (fun _ _ => rfl) (Nat.le_of_ble_eq_true rfl) (Nat.le_of_ble_eq_true rfl) dX7_copyFrom_117 (fun H locs hP hD hS => ?_)
  have hP : va_P D vwCl [(h, .inr (7, [.int upalms, .ref tclaps, .ref thands, .int uactors, .ref thunger, .ref tsaved, .int uusurers, .ref tasks, .ref tfloors, .int urate, .int uchest, .int uborrowers])), (tclaps, .inl (cI, 5, .inl g1)), (thands, .inl (cI, 5, .inl g2)), (thunger, .inl (cI, 6, .inl g3)), (tsaved, .inl (cI, 6, .inl g4)), (tasks, .inl (cI, 4, .inl (va_cpy (α := Int32) u_asks t_asks (Int32.toNatClampNeg 0) (Int32.toNatClampNeg 0) (Int32.toNatClampNeg 4)))), (tfloors, .inl (cI, 4, .inl t_floors)), (o, .inr (7, [.int upalms, .ref uclaps, .ref uhands, .int uactors, .ref uhunger, .ref usaved, .int uusurers, .ref uasks, .ref ufloors, .int urate, .int uchest, .int uborrowers])), (uclaps, .inl (cI, 5, .inl u_claps)), (uhands, .inl (cI, 5, .inl u_hands)), (uhunger, .inl (cI, 6, .inl u_hunger)), (usaved, .inl (cI, 6, .inl u_saved)), (uasks, .inl (cI, 4, .inl u_asks)), (ufloors, .inl (cI, 4, .inl u_floors))] H := hP
  have hD : va_D A [(h, .inr (7, [.int upalms, .ref tclaps, .ref thands, .int uactors, .ref thunger, .ref tsaved, .int uusurers, .ref tasks, .ref tfloors, .int urate, .int uchest, .int uborrowers])), (tclaps, .inl (cI, 5, .inl g1)), (thands, .inl (cI, 5, .inl g2)), (thunger, .inl (cI, 6, .inl g3)), (tsaved, .inl (cI, 6, .inl g4)), (tasks, .inl (cI, 4, .inl (va_cpy (α := Int32) u_asks t_asks (Int32.toNatClampNeg 0) (Int32.toNatClampNeg 0) (Int32.toNatClampNeg 4)))), (tfloors, .inl (cI, 4, .inl t_floors)), (o, .inr (7, [.int upalms, .ref uclaps, .ref uhands, .int uactors, .ref uhunger, .ref usaved, .int uusurers, .ref uasks, .ref ufloors, .int urate, .int uchest, .int uborrowers])), (uclaps, .inl (cI, 5, .inl u_claps)), (uhands, .inl (cI, 5, .inl u_hands)), (uhunger, .inl (cI, 6, .inl u_hunger)), (usaved, .inl (cI, 6, .inl u_saved)), (uasks, .inl (cI, 4, .inl u_asks)), (ufloors, .inl (cI, 4, .inl u_floors))] := hD
  generalize hu_g5 : (va_cpy (α := Int32) u_asks t_asks (Int32.toNatClampNeg 0) (Int32.toNatClampNeg 0) (Int32.toNatClampNeg 4)) = g5 at hP hD
  refine lv_aload_n hx hb dX7_copyFrom_120 rfl (lv_at hl 1 rfl) ?_
  refine va_get (D := D) (ci := 7) (v := .ref ufloors) (C := RX7) (T := TX7) (N := 12) hx hb hts (fun _ h => List.mem_cons_of_mem _ (inAX7 _ h)) hown hK.1 hP 7 rfl rfl 8 (by decide) (hts (.fieldLink RX7 27 "ClapBank$Theatre" "floors" "[I") (List.mem_cons_of_mem _ W_48)) (fun _ h9 => h9) rfl dX7_copyFrom_121 ?_
  refine lv_iconst (v := 0) hx hb dX7_copyFrom_124 (by decide) ?_
  refine lv_aload_n hx hb dX7_copyFrom_125 rfl (lv_at hl 0 rfl) ?_
  refine va_get (D := D) (ci := 7) (v := .ref tfloors) (C := RX7) (T := TX7) (N := 12) hx hb hts (fun _ h => List.mem_cons_of_mem _ (inAX7 _ h)) hown hK.1 hP 0 rfl rfl 8 (by decide) (hts (.fieldLink RX7 27 "ClapBank$Theatre" "floors" "[I") (List.mem_cons_of_mem _ W_48)) (fun _ h9 => h9) rfl dX7_copyFrom_126 ?_
  refine lv_iconst (v := 0) hx hb dX7_copyFrom_129 (by decide) ?_
  refine lv_iconst (v := 4) hx hb dX7_copyFrom_130 (by decide) ?_
  refine va_copyi (ty := .int) hx hb (hml.trans hl.1.symm) hown (hts (.methodLink RX7 49 arraycopyName) (List.mem_cons_of_mem _ W_437)) (hts (.native arraycopyName) (List.mem_cons_of_mem _ W_9)) (hts (.static arraycopyName) (List.mem_cons_of_mem _ W_10)) (hts (.initialized "java/lang/System") (List.mem_cons_of_mem _ W_11)) hK.1 hP hD hS 13 6 0 0 rfl rfl rfl rfl rfl (by decide) (by decide) (by decide) (by decide) (by decide) (fun _ _ => rfl) (Nat.le_of_ble_eq_true rfl) (Nat.le_of_ble_eq_true rfl) dX7_copyFrom_131 (fun H locs hP hD hS => ?_)
  have hP : va_P D vwCl [(h, .inr (7, [.int upalms, .ref tclaps, .ref thands, .int uactors, .ref thunger, .ref tsaved, .int uusurers, .ref tasks, .ref tfloors, .int urate, .int uchest, .int uborrowers])), (tclaps, .inl (cI, 5, .inl g1)), (thands, .inl (cI, 5, .inl g2)), (thunger, .inl (cI, 6, .inl g3)), (tsaved, .inl (cI, 6, .inl g4)), (tasks, .inl (cI, 4, .inl g5)), (tfloors, .inl (cI, 4, .inl (va_cpy (α := Int32) u_floors t_floors (Int32.toNatClampNeg 0) (Int32.toNatClampNeg 0) (Int32.toNatClampNeg 4)))), (o, .inr (7, [.int upalms, .ref uclaps, .ref uhands, .int uactors, .ref uhunger, .ref usaved, .int uusurers, .ref uasks, .ref ufloors, .int urate, .int uchest, .int uborrowers])), (uclaps, .inl (cI, 5, .inl u_claps)), (uhands, .inl (cI, 5, .inl u_hands)), (uhunger, .inl (cI, 6, .inl u_hunger)), (usaved, .inl (cI, 6, .inl u_saved)), (uasks, .inl (cI, 4, .inl u_asks)), (ufloors, .inl (cI, 4, .inl u_floors))] H := hP
  have hD : va_D A [(h, .inr (7, [.int upalms, .ref tclaps, .ref thands, .int uactors, .ref thunger, .ref tsaved, .int uusurers, .ref tasks, .ref tfloors, .int urate, .int uchest, .int uborrowers])), (tclaps, .inl (cI, 5, .inl g1)), (thands, .inl (cI, 5, .inl g2)), (thunger, .inl (cI, 6, .inl g3)), (tsaved, .inl (cI, 6, .inl g4)), (tasks, .inl (cI, 4, .inl g5)), (tfloors, .inl (cI, 4, .inl (va_cpy (α := Int32) u_floors t_floors (Int32.toNatClampNeg 0) (Int32.toNatClampNeg 0) (Int32.toNatClampNeg 4)))), (o, .inr (7, [.int upalms, .ref uclaps, .ref uhands, .int uactors, .ref uhunger, .ref usaved, .int uusurers, .ref uasks, .ref ufloors, .int urate, .int uchest, .int uborrowers])), (uclaps, .inl (cI, 5, .inl u_claps)), (uhands, .inl (cI, 5, .inl u_hands)), (uhunger, .inl (cI, 6, .inl u_hunger)), (usaved, .inl (cI, 6, .inl u_saved)), (uasks, .inl (cI, 4, .inl u_asks)), (ufloors, .inl (cI, 4, .inl u_floors))] := hD
  generalize hu_g6 : (va_cpy (α := Int32) u_floors t_floors (Int32.toNatClampNeg 0) (Int32.toNatClampNeg 0) (Int32.toNatClampNeg 4)) = g6 at hP hD
  refine W.widen (k := 0) (n := 0) (Nat.le_of_ble_eq_true rfl) (Nat.le_of_ble_eq_true rfl) ?_
  exact ro_v hx hb hr hlocks (g1, g2, g3, g4, g5, g6) rfl ((⟨_, hu_g1, ⟨_, hu_g2, ⟨_, hu_g3, ⟨_, hu_g4, ⟨_, hu_g5, ⟨_, hu_g6, ⟨rfl, rfl, rfl, rfl, rfl, rfl⟩⟩⟩⟩⟩⟩⟩)) (hP.sub [0, 1, 2, 3, 4, 5, 6, 7, 8, 9, 10, 11, 12, 13] rfl) (hD.sub [0, 1, 2, 3, 4, 5, 6, 7, 8, 9, 10, 11, 12, 13] (by decide) rfl) hS dX7_copyFrom_134
set_option maxHeartbeats 4000000 in
set_option maxRecDepth 100000 in
theorem k_addPalm (l : Launch) (D : va_G) (cI cB cJ cZ cT : ClassId) (h : Nat) (tclaps : Nat) (thands : Nat) (thunger : Nat) (tsaved : Nat) (tasks : Nat) (tfloors : Nat) (a : Int32) (b : Int32) (tpalms : Int32) (tactors : Int32) (tusurers : Int32) (trate : Int32) (tchest : Int32) (tborrowers : Int32) (t_claps : Nat → Int32) (t_hands : Nat → Int32) (t_hunger : Nat → Int32) (t_saved : Nat → Int32) (t_asks : Nat → Int32) (t_floors : Nat → Int32) (h_tpalms : 0 ≤ tpalms.toInt ∧ tpalms.toInt ≤ 5) (h_tactors : 0 ≤ tactors.toInt ∧ tactors.toInt ≤ 6) (h_tusurers : 0 ≤ tusurers.toInt ∧ tusurers.toInt ≤ 4) : Co l yX7_addPalm wsX7_addPalm ({ frames := 0, cells := 0, slots := 0, locals := 0 }) D (tyL cI cB cJ cZ cT) [.ref h, .int a, .int b] [(h, .inr (7, [.int tpalms, .ref tclaps, .ref thands, .int tactors, .ref thunger, .ref tsaved, .int tusurers, .ref tasks, .ref tfloors, .int trate, .int tchest, .int tborrowers])), (tclaps, .inl (cI, 5, .inl t_claps)), (thands, .inl (cI, 5, .inl t_hands)), (thunger, .inl (cI, 6, .inl t_hunger)), (tsaved, .inl (cI, 6, .inl t_saved)), (tasks, .inl (cI, 4, .inl t_asks)), (tfloors, .inl (cI, 4, .inl t_floors))] (fun u : Int32 × (Nat → Int32) × (Nat → Int32) => none) (fun u : Int32 × (Nat → Int32) × (Nat → Int32) => (1 ≤ u.1.toInt ∧ u.1.toInt ≤ 5) ∧ (R_k_addPalm tpalms t_claps t_hands a b u.1 u.2.1 u.2.2)) (fun u : Int32 × (Nat → Int32) × (Nat → Int32) => [(h, .inr (7, [.int u.1, .ref tclaps, .ref thands, .int tactors, .ref thunger, .ref tsaved, .int tusurers, .ref tasks, .ref tfloors, .int trate, .int tchest, .int tborrowers])), (tclaps, .inl (cI, 5, .inl u.2.1)), (thands, .inl (cI, 5, .inl u.2.2)), (thunger, .inl (cI, 6, .inl t_hunger)), (tsaved, .inl (cI, 6, .inl t_saved)), (tasks, .inl (cI, 4, .inl t_asks)), (tfloors, .inl (cI, 4, .inl t_floors))]) 0 0 := by
  refine entry (cc := cX7_addPalm) (maxL := 3) (ret := none) (by decide) rfl (Nat.le_of_ble_eq_true rfl) ?_
  intro p e s m below meth c A ls hx hb hr hml hts hown hlocks hname hK hP hD hS hA hl
  have hown : s.vm.findClass RX7 = some m.cls := hown
  have hl : lv_has ls 3 [(0, .ref h), (1, .int a), (2, .int b)] := hl
  refine lv_aload_n hx hb dX7_addPalm_0 rfl (lv_at hl 0 rfl) ?_
  refine va_get (D := D) (ci := 7) (v := .int tpalms) (C := RX7) (T := TX7) (N := 12) hx hb hts (fun _ h => List.mem_cons_of_mem _ (inAX7 _ h)) hown hK.1 hP 0 rfl rfl 0 (by decide) (hts (.fieldLink RX7 30 "ClapBank$Theatre" "palms" "I") (List.mem_cons_of_mem _ W_278)) (fun _ h9 => h9) rfl dX7_addPalm_1 ?_
  refine lv_iconst (v := 5) hx hb dX7_addPalm_4 (by decide) ?_
  refine bc_ge (tgt := 38) (X := tpalms.toInt) (Y := 5) hx hb rfl (by decide) dX7_addPalm_5 (by decide) (fun c1 => ?_) (fun c1 => ?_)
  · skip
    refine W.widen (k := 0) (n := 0) (Nat.le_of_ble_eq_true rfl) (Nat.le_of_ble_eq_true rfl) ?_
    exact ro_v hx hb hr hlocks (tpalms, t_claps, t_hands) rfl (⟨(show 1 ≤ (tpalms : Int32).toInt ∧ (tpalms : Int32).toInt ≤ 5 from (by have h9 := i_rng (tpalms); omega)), (Or.inl (⟨c1, ⟨rfl, rfl, rfl⟩⟩))⟩) (hP.sub [0, 1, 2, 3, 4, 5, 6] rfl) (hD.sub [0, 1, 2, 3, 4, 5, 6] (by decide) rfl) hS dX7_addPalm_38
  · skip
    refine lv_aload_n hx hb dX7_addPalm_8 rfl (lv_at hl 0 rfl) ?_
    refine va_get (D := D) (ci := 7) (v := .ref tclaps) (C := RX7) (T := TX7) (N := 12) hx hb hts (fun _ h => List.mem_cons_of_mem _ (inAX7 _ h)) hown hK.1 hP 0 rfl rfl 1 (by decide) (hts (.fieldLink RX7 9 "ClapBank$Theatre" "claps" "[I") (List.mem_cons_of_mem _ W_43)) (fun _ h9 => h9) rfl dX7_addPalm_9 ?_
    refine lv_aload_n hx hb dX7_addPalm_12 rfl (lv_at hl 0 rfl) ?_
    refine va_get (D := D) (ci := 7) (v := .int tpalms) (C := RX7) (T := TX7) (N := 12) hx hb hts (fun _ h => List.mem_cons_of_mem _ (inAX7 _ h)) hown hK.1 hP 0 rfl rfl 0 (by decide) (hts (.fieldLink RX7 30 "ClapBank$Theatre" "palms" "I") (List.mem_cons_of_mem _ W_278)) (fun _ h9 => h9) rfl dX7_addPalm_13 ?_
    refine lv_iload_n hx hb dX7_addPalm_16 rfl (lv_at hl 1 rfl) ?_
    refine va_iast hx hb hK.1 hP hD hS 1 0 rfl rfl (i_in (X := tpalms.toInt) rfl (by omega) (by omega)) dX7_addPalm_17 (fun H locs hP hD hS => ?_)
    have hP : va_P D vwCl [(h, .inr (7, [.int tpalms, .ref tclaps, .ref thands, .int tactors, .ref thunger, .ref tsaved, .int tusurers, .ref tasks, .ref tfloors, .int trate, .int tchest, .int tborrowers])), (tclaps, .inl (cI, 5, .inl (upd t_claps (Int32.toNatClampNeg tpalms) a))), (thands, .inl (cI, 5, .inl t_hands)), (thunger, .inl (cI, 6, .inl t_hunger)), (tsaved, .inl (cI, 6, .inl t_saved)), (tasks, .inl (cI, 4, .inl t_asks)), (tfloors, .inl (cI, 4, .inl t_floors))] H := hP
    have hD : va_D A [(h, .inr (7, [.int tpalms, .ref tclaps, .ref thands, .int tactors, .ref thunger, .ref tsaved, .int tusurers, .ref tasks, .ref tfloors, .int trate, .int tchest, .int tborrowers])), (tclaps, .inl (cI, 5, .inl (upd t_claps (Int32.toNatClampNeg tpalms) a))), (thands, .inl (cI, 5, .inl t_hands)), (thunger, .inl (cI, 6, .inl t_hunger)), (tsaved, .inl (cI, 6, .inl t_saved)), (tasks, .inl (cI, 4, .inl t_asks)), (tfloors, .inl (cI, 4, .inl t_floors))] := hD
    generalize hu_g2 : (upd t_claps (Int32.toNatClampNeg tpalms) a) = g2 at hP hD
    refine lv_aload_n hx hb dX7_addPalm_18 rfl (lv_at hl 0 rfl) ?_
    refine va_get (D := D) (ci := 7) (v := .ref thands) (C := RX7) (T := TX7) (N := 12) hx hb hts (fun _ h => List.mem_cons_of_mem _ (inAX7 _ h)) hown hK.1 hP 0 rfl rfl 2 (by decide) (hts (.fieldLink RX7 15 "ClapBank$Theatre" "hands" "[I") (List.mem_cons_of_mem _ W_44)) (fun _ h9 => h9) rfl dX7_addPalm_19 ?_
    refine lv_aload_n hx hb dX7_addPalm_22 rfl (lv_at hl 0 rfl) ?_
    refine va_get (D := D) (ci := 7) (v := .int tpalms) (C := RX7) (T := TX7) (N := 12) hx hb hts (fun _ h => List.mem_cons_of_mem _ (inAX7 _ h)) hown hK.1 hP 0 rfl rfl 0 (by decide) (hts (.fieldLink RX7 30 "ClapBank$Theatre" "palms" "I") (List.mem_cons_of_mem _ W_278)) (fun _ h9 => h9) rfl dX7_addPalm_23 ?_
    refine lv_iload_n hx hb dX7_addPalm_26 rfl (lv_at hl 2 rfl) ?_
    refine va_iast hx hb hK.1 hP hD hS 2 0 rfl rfl (i_in (X := tpalms.toInt) rfl (by omega) (by omega)) dX7_addPalm_27 (fun H locs hP hD hS => ?_)
    have hP : va_P D vwCl [(h, .inr (7, [.int tpalms, .ref tclaps, .ref thands, .int tactors, .ref thunger, .ref tsaved, .int tusurers, .ref tasks, .ref tfloors, .int trate, .int tchest, .int tborrowers])), (tclaps, .inl (cI, 5, .inl g2)), (thands, .inl (cI, 5, .inl (upd t_hands (Int32.toNatClampNeg tpalms) b))), (thunger, .inl (cI, 6, .inl t_hunger)), (tsaved, .inl (cI, 6, .inl t_saved)), (tasks, .inl (cI, 4, .inl t_asks)), (tfloors, .inl (cI, 4, .inl t_floors))] H := hP
    have hD : va_D A [(h, .inr (7, [.int tpalms, .ref tclaps, .ref thands, .int tactors, .ref thunger, .ref tsaved, .int tusurers, .ref tasks, .ref tfloors, .int trate, .int tchest, .int tborrowers])), (tclaps, .inl (cI, 5, .inl g2)), (thands, .inl (cI, 5, .inl (upd t_hands (Int32.toNatClampNeg tpalms) b))), (thunger, .inl (cI, 6, .inl t_hunger)), (tsaved, .inl (cI, 6, .inl t_saved)), (tasks, .inl (cI, 4, .inl t_asks)), (tfloors, .inl (cI, 4, .inl t_floors))] := hD
    generalize hu_g3 : (upd t_hands (Int32.toNatClampNeg tpalms) b) = g3 at hP hD
    refine lv_aload_n hx hb dX7_addPalm_28 rfl (lv_at hl 0 rfl) ?_
    refine lv_dup hx hb dX7_addPalm_29 rfl ?_
    refine va_get (D := D) (ci := 7) (v := .int tpalms) (C := RX7) (T := TX7) (N := 12) hx hb hts (fun _ h => List.mem_cons_of_mem _ (inAX7 _ h)) hown hK.1 hP 0 rfl rfl 0 (by decide) (hts (.fieldLink RX7 30 "ClapBank$Theatre" "palms" "I") (List.mem_cons_of_mem _ W_278)) (fun _ h9 => h9) rfl dX7_addPalm_30 ?_
    refine lv_iconst (v := 1) hx hb dX7_addPalm_33 (by decide) ?_
    refine lv_iadd hx hb dX7_addPalm_34 ?_
    refine lv_topi (fun z4 ez4 => ?_)
    have iz4 : z4.toInt = tpalms.toInt + 1 := by rw [ez4]; exact (i_add (X := tpalms.toInt) (Y := 1) rfl (by decide) (by have h8 := i_rng (tpalms); have h9 := i_rng (1); omega) (by have h8 := i_rng (tpalms); have h9 := i_rng (1); omega)).trans (by omega)
    refine va_put (D := D) (ci := 7) (v := .int z4) (ty := .int) (C := RX7) (T := TX7) (N := 12) hx hb hts (fun _ h => List.mem_cons_of_mem _ (inAX7 _ h)) tyX7 tyX7_ok nmX7 hown hK.1 hP hD hS 0 rfl rfl 0 (by decide) (hts (.fieldLink RX7 30 "ClapBank$Theatre" "palms" "I") (List.mem_cons_of_mem _ W_278)) (fun _ h9 => h9) rfl (by decide +kernel) rfl rfl (Nat.le_of_ble_eq_true rfl) dX7_addPalm_35 (fun H locs hP hD hS => ?_)
    have hP : va_P D vwCl [(h, .inr (7, [.int z4, .ref tclaps, .ref thands, .int tactors, .ref thunger, .ref tsaved, .int tusurers, .ref tasks, .ref tfloors, .int trate, .int tchest, .int tborrowers])), (tclaps, .inl (cI, 5, .inl g2)), (thands, .inl (cI, 5, .inl g3)), (thunger, .inl (cI, 6, .inl t_hunger)), (tsaved, .inl (cI, 6, .inl t_saved)), (tasks, .inl (cI, 4, .inl t_asks)), (tfloors, .inl (cI, 4, .inl t_floors))] H := hP
    have hD : va_D A [(h, .inr (7, [.int z4, .ref tclaps, .ref thands, .int tactors, .ref thunger, .ref tsaved, .int tusurers, .ref tasks, .ref tfloors, .int trate, .int tchest, .int tborrowers])), (tclaps, .inl (cI, 5, .inl g2)), (thands, .inl (cI, 5, .inl g3)), (thunger, .inl (cI, 6, .inl t_hunger)), (tsaved, .inl (cI, 6, .inl t_saved)), (tasks, .inl (cI, 4, .inl t_asks)), (tfloors, .inl (cI, 4, .inl t_floors))] := hD
    refine W.widen (k := 0) (n := 0) (Nat.le_of_ble_eq_true rfl) (Nat.le_of_ble_eq_true rfl) ?_
    exact ro_v hx hb hr hlocks (z4, g2, g3) rfl (⟨(show 1 ≤ (z4 : Int32).toInt ∧ (z4 : Int32).toInt ≤ 5 from (by have h9 := i_rng (z4); omega)), (Or.inr (⟨c1, ⟨_, hu_g2, ⟨_, hu_g3, ⟨_, ez4, ⟨rfl, rfl, rfl⟩⟩⟩⟩⟩))⟩) (hP.sub [0, 1, 2, 3, 4, 5, 6] rfl) (hD.sub [0, 1, 2, 3, 4, 5, 6] (by decide) rfl) hS dX7_addPalm_38
set_option maxHeartbeats 4000000 in
set_option maxRecDepth 100000 in
theorem k_addActor (l : Launch) (D : va_G) (cI cB cJ cZ cT : ClassId) (h : Nat) (tclaps : Nat) (thands : Nat) (thunger : Nat) (tsaved : Nat) (tasks : Nat) (tfloors : Nat) (a : Int32) (b : Int32) (tpalms : Int32) (tactors : Int32) (tusurers : Int32) (trate : Int32) (tchest : Int32) (tborrowers : Int32) (t_claps : Nat → Int32) (t_hands : Nat → Int32) (t_hunger : Nat → Int32) (t_saved : Nat → Int32) (t_asks : Nat → Int32) (t_floors : Nat → Int32) (h_tpalms : 0 ≤ tpalms.toInt ∧ tpalms.toInt ≤ 5) (h_tactors : 0 ≤ tactors.toInt ∧ tactors.toInt ≤ 6) (h_tusurers : 0 ≤ tusurers.toInt ∧ tusurers.toInt ≤ 4) : Co l yX7_addActor wsX7_addActor ({ frames := 0, cells := 0, slots := 0, locals := 0 }) D (tyL cI cB cJ cZ cT) [.ref h, .int a, .int b] [(h, .inr (7, [.int tpalms, .ref tclaps, .ref thands, .int tactors, .ref thunger, .ref tsaved, .int tusurers, .ref tasks, .ref tfloors, .int trate, .int tchest, .int tborrowers])), (tclaps, .inl (cI, 5, .inl t_claps)), (thands, .inl (cI, 5, .inl t_hands)), (thunger, .inl (cI, 6, .inl t_hunger)), (tsaved, .inl (cI, 6, .inl t_saved)), (tasks, .inl (cI, 4, .inl t_asks)), (tfloors, .inl (cI, 4, .inl t_floors))] (fun u : Int32 × (Nat → Int32) × (Nat → Int32) => none) (fun u : Int32 × (Nat → Int32) × (Nat → Int32) => (1 ≤ u.1.toInt ∧ u.1.toInt ≤ 6) ∧ (R_k_addActor tactors t_hunger t_saved a b u.1 u.2.1 u.2.2)) (fun u : Int32 × (Nat → Int32) × (Nat → Int32) => [(h, .inr (7, [.int tpalms, .ref tclaps, .ref thands, .int u.1, .ref thunger, .ref tsaved, .int tusurers, .ref tasks, .ref tfloors, .int trate, .int tchest, .int tborrowers])), (tclaps, .inl (cI, 5, .inl t_claps)), (thands, .inl (cI, 5, .inl t_hands)), (thunger, .inl (cI, 6, .inl u.2.1)), (tsaved, .inl (cI, 6, .inl u.2.2)), (tasks, .inl (cI, 4, .inl t_asks)), (tfloors, .inl (cI, 4, .inl t_floors))]) 0 0 := by
  refine entry (cc := cX7_addActor) (maxL := 3) (ret := none) (by decide) rfl (Nat.le_of_ble_eq_true rfl) ?_
  intro p e s m below meth c A ls hx hb hr hml hts hown hlocks hname hK hP hD hS hA hl
  have hown : s.vm.findClass RX7 = some m.cls := hown
  have hl : lv_has ls 3 [(0, .ref h), (1, .int a), (2, .int b)] := hl
  refine lv_aload_n hx hb dX7_addActor_0 rfl (lv_at hl 0 rfl) ?_
  refine va_get (D := D) (ci := 7) (v := .int tactors) (C := RX7) (T := TX7) (N := 12) hx hb hts (fun _ h => List.mem_cons_of_mem _ (inAX7 _ h)) hown hK.1 hP 0 rfl rfl 3 (by decide) (hts (.fieldLink RX7 34 "ClapBank$Theatre" "actors" "I") (List.mem_cons_of_mem _ W_279)) (fun _ h9 => h9) rfl dX7_addActor_1 ?_
  refine lv_bipush (v := 6) hx hb dX7_addActor_4 (by decide) ?_
  refine bc_ge (tgt := 39) (X := tactors.toInt) (Y := 6) hx hb rfl (by decide) dX7_addActor_6 (by decide) (fun c1 => ?_) (fun c1 => ?_)
  · skip
    refine W.widen (k := 0) (n := 0) (Nat.le_of_ble_eq_true rfl) (Nat.le_of_ble_eq_true rfl) ?_
    exact ro_v hx hb hr hlocks (tactors, t_hunger, t_saved) rfl (⟨(show 1 ≤ (tactors : Int32).toInt ∧ (tactors : Int32).toInt ≤ 6 from (by have h9 := i_rng (tactors); omega)), (Or.inl (⟨c1, ⟨rfl, rfl, rfl⟩⟩))⟩) (hP.sub [0, 1, 2, 3, 4, 5, 6] rfl) (hD.sub [0, 1, 2, 3, 4, 5, 6] (by decide) rfl) hS dX7_addActor_39
  · skip
    refine lv_aload_n hx hb dX7_addActor_9 rfl (lv_at hl 0 rfl) ?_
    refine va_get (D := D) (ci := 7) (v := .ref thunger) (C := RX7) (T := TX7) (N := 12) hx hb hts (fun _ h => List.mem_cons_of_mem _ (inAX7 _ h)) hown hK.1 hP 0 rfl rfl 4 (by decide) (hts (.fieldLink RX7 18 "ClapBank$Theatre" "hunger" "[I") (List.mem_cons_of_mem _ W_45)) (fun _ h9 => h9) rfl dX7_addActor_10 ?_
    refine lv_aload_n hx hb dX7_addActor_13 rfl (lv_at hl 0 rfl) ?_
    refine va_get (D := D) (ci := 7) (v := .int tactors) (C := RX7) (T := TX7) (N := 12) hx hb hts (fun _ h => List.mem_cons_of_mem _ (inAX7 _ h)) hown hK.1 hP 0 rfl rfl 3 (by decide) (hts (.fieldLink RX7 34 "ClapBank$Theatre" "actors" "I") (List.mem_cons_of_mem _ W_279)) (fun _ h9 => h9) rfl dX7_addActor_14 ?_
    refine lv_iload_n hx hb dX7_addActor_17 rfl (lv_at hl 1 rfl) ?_
    refine va_iast hx hb hK.1 hP hD hS 3 0 rfl rfl (i_in (X := tactors.toInt) rfl (by omega) (by omega)) dX7_addActor_18 (fun H locs hP hD hS => ?_)
    have hP : va_P D vwCl [(h, .inr (7, [.int tpalms, .ref tclaps, .ref thands, .int tactors, .ref thunger, .ref tsaved, .int tusurers, .ref tasks, .ref tfloors, .int trate, .int tchest, .int tborrowers])), (tclaps, .inl (cI, 5, .inl t_claps)), (thands, .inl (cI, 5, .inl t_hands)), (thunger, .inl (cI, 6, .inl (upd t_hunger (Int32.toNatClampNeg tactors) a))), (tsaved, .inl (cI, 6, .inl t_saved)), (tasks, .inl (cI, 4, .inl t_asks)), (tfloors, .inl (cI, 4, .inl t_floors))] H := hP
    have hD : va_D A [(h, .inr (7, [.int tpalms, .ref tclaps, .ref thands, .int tactors, .ref thunger, .ref tsaved, .int tusurers, .ref tasks, .ref tfloors, .int trate, .int tchest, .int tborrowers])), (tclaps, .inl (cI, 5, .inl t_claps)), (thands, .inl (cI, 5, .inl t_hands)), (thunger, .inl (cI, 6, .inl (upd t_hunger (Int32.toNatClampNeg tactors) a))), (tsaved, .inl (cI, 6, .inl t_saved)), (tasks, .inl (cI, 4, .inl t_asks)), (tfloors, .inl (cI, 4, .inl t_floors))] := hD
    generalize hu_g2 : (upd t_hunger (Int32.toNatClampNeg tactors) a) = g2 at hP hD
    refine lv_aload_n hx hb dX7_addActor_19 rfl (lv_at hl 0 rfl) ?_
    refine va_get (D := D) (ci := 7) (v := .ref tsaved) (C := RX7) (T := TX7) (N := 12) hx hb hts (fun _ h => List.mem_cons_of_mem _ (inAX7 _ h)) hown hK.1 hP 0 rfl rfl 5 (by decide) (hts (.fieldLink RX7 21 "ClapBank$Theatre" "saved" "[I") (List.mem_cons_of_mem _ W_46)) (fun _ h9 => h9) rfl dX7_addActor_20 ?_
    refine lv_aload_n hx hb dX7_addActor_23 rfl (lv_at hl 0 rfl) ?_
    refine va_get (D := D) (ci := 7) (v := .int tactors) (C := RX7) (T := TX7) (N := 12) hx hb hts (fun _ h => List.mem_cons_of_mem _ (inAX7 _ h)) hown hK.1 hP 0 rfl rfl 3 (by decide) (hts (.fieldLink RX7 34 "ClapBank$Theatre" "actors" "I") (List.mem_cons_of_mem _ W_279)) (fun _ h9 => h9) rfl dX7_addActor_24 ?_
    refine lv_iload_n hx hb dX7_addActor_27 rfl (lv_at hl 2 rfl) ?_
    refine va_iast hx hb hK.1 hP hD hS 4 0 rfl rfl (i_in (X := tactors.toInt) rfl (by omega) (by omega)) dX7_addActor_28 (fun H locs hP hD hS => ?_)
    have hP : va_P D vwCl [(h, .inr (7, [.int tpalms, .ref tclaps, .ref thands, .int tactors, .ref thunger, .ref tsaved, .int tusurers, .ref tasks, .ref tfloors, .int trate, .int tchest, .int tborrowers])), (tclaps, .inl (cI, 5, .inl t_claps)), (thands, .inl (cI, 5, .inl t_hands)), (thunger, .inl (cI, 6, .inl g2)), (tsaved, .inl (cI, 6, .inl (upd t_saved (Int32.toNatClampNeg tactors) b))), (tasks, .inl (cI, 4, .inl t_asks)), (tfloors, .inl (cI, 4, .inl t_floors))] H := hP
    have hD : va_D A [(h, .inr (7, [.int tpalms, .ref tclaps, .ref thands, .int tactors, .ref thunger, .ref tsaved, .int tusurers, .ref tasks, .ref tfloors, .int trate, .int tchest, .int tborrowers])), (tclaps, .inl (cI, 5, .inl t_claps)), (thands, .inl (cI, 5, .inl t_hands)), (thunger, .inl (cI, 6, .inl g2)), (tsaved, .inl (cI, 6, .inl (upd t_saved (Int32.toNatClampNeg tactors) b))), (tasks, .inl (cI, 4, .inl t_asks)), (tfloors, .inl (cI, 4, .inl t_floors))] := hD
    generalize hu_g3 : (upd t_saved (Int32.toNatClampNeg tactors) b) = g3 at hP hD
    refine lv_aload_n hx hb dX7_addActor_29 rfl (lv_at hl 0 rfl) ?_
    refine lv_dup hx hb dX7_addActor_30 rfl ?_
    refine va_get (D := D) (ci := 7) (v := .int tactors) (C := RX7) (T := TX7) (N := 12) hx hb hts (fun _ h => List.mem_cons_of_mem _ (inAX7 _ h)) hown hK.1 hP 0 rfl rfl 3 (by decide) (hts (.fieldLink RX7 34 "ClapBank$Theatre" "actors" "I") (List.mem_cons_of_mem _ W_279)) (fun _ h9 => h9) rfl dX7_addActor_31 ?_
    refine lv_iconst (v := 1) hx hb dX7_addActor_34 (by decide) ?_
    refine lv_iadd hx hb dX7_addActor_35 ?_
    refine lv_topi (fun z4 ez4 => ?_)
    have iz4 : z4.toInt = tactors.toInt + 1 := by rw [ez4]; exact (i_add (X := tactors.toInt) (Y := 1) rfl (by decide) (by have h8 := i_rng (tactors); have h9 := i_rng (1); omega) (by have h8 := i_rng (tactors); have h9 := i_rng (1); omega)).trans (by omega)
    refine va_put (D := D) (ci := 7) (v := .int z4) (ty := .int) (C := RX7) (T := TX7) (N := 12) hx hb hts (fun _ h => List.mem_cons_of_mem _ (inAX7 _ h)) tyX7 tyX7_ok nmX7 hown hK.1 hP hD hS 0 rfl rfl 3 (by decide) (hts (.fieldLink RX7 34 "ClapBank$Theatre" "actors" "I") (List.mem_cons_of_mem _ W_279)) (fun _ h9 => h9) rfl (by decide +kernel) rfl rfl (Nat.le_of_ble_eq_true rfl) dX7_addActor_36 (fun H locs hP hD hS => ?_)
    have hP : va_P D vwCl [(h, .inr (7, [.int tpalms, .ref tclaps, .ref thands, .int z4, .ref thunger, .ref tsaved, .int tusurers, .ref tasks, .ref tfloors, .int trate, .int tchest, .int tborrowers])), (tclaps, .inl (cI, 5, .inl t_claps)), (thands, .inl (cI, 5, .inl t_hands)), (thunger, .inl (cI, 6, .inl g2)), (tsaved, .inl (cI, 6, .inl g3)), (tasks, .inl (cI, 4, .inl t_asks)), (tfloors, .inl (cI, 4, .inl t_floors))] H := hP
    have hD : va_D A [(h, .inr (7, [.int tpalms, .ref tclaps, .ref thands, .int z4, .ref thunger, .ref tsaved, .int tusurers, .ref tasks, .ref tfloors, .int trate, .int tchest, .int tborrowers])), (tclaps, .inl (cI, 5, .inl t_claps)), (thands, .inl (cI, 5, .inl t_hands)), (thunger, .inl (cI, 6, .inl g2)), (tsaved, .inl (cI, 6, .inl g3)), (tasks, .inl (cI, 4, .inl t_asks)), (tfloors, .inl (cI, 4, .inl t_floors))] := hD
    refine W.widen (k := 0) (n := 0) (Nat.le_of_ble_eq_true rfl) (Nat.le_of_ble_eq_true rfl) ?_
    exact ro_v hx hb hr hlocks (z4, g2, g3) rfl (⟨(show 1 ≤ (z4 : Int32).toInt ∧ (z4 : Int32).toInt ≤ 6 from (by have h9 := i_rng (z4); omega)), (Or.inr (⟨c1, ⟨_, hu_g2, ⟨_, hu_g3, ⟨_, ez4, ⟨rfl, rfl, rfl⟩⟩⟩⟩⟩))⟩) (hP.sub [0, 1, 2, 3, 4, 5, 6] rfl) (hD.sub [0, 1, 2, 3, 4, 5, 6] (by decide) rfl) hS dX7_addActor_39
set_option maxHeartbeats 4000000 in
set_option maxRecDepth 100000 in
theorem k_addUsurer (l : Launch) (D : va_G) (cI cB cJ cZ cT : ClassId) (h : Nat) (tclaps : Nat) (thands : Nat) (thunger : Nat) (tsaved : Nat) (tasks : Nat) (tfloors : Nat) (a : Int32) (b : Int32) (tpalms : Int32) (tactors : Int32) (tusurers : Int32) (trate : Int32) (tchest : Int32) (tborrowers : Int32) (t_claps : Nat → Int32) (t_hands : Nat → Int32) (t_hunger : Nat → Int32) (t_saved : Nat → Int32) (t_asks : Nat → Int32) (t_floors : Nat → Int32) (h_tpalms : 0 ≤ tpalms.toInt ∧ tpalms.toInt ≤ 5) (h_tactors : 0 ≤ tactors.toInt ∧ tactors.toInt ≤ 6) (h_tusurers : 0 ≤ tusurers.toInt ∧ tusurers.toInt ≤ 4) : Co l yX7_addUsurer wsX7_addUsurer ({ frames := 0, cells := 0, slots := 0, locals := 0 }) D (tyL cI cB cJ cZ cT) [.ref h, .int a, .int b] [(h, .inr (7, [.int tpalms, .ref tclaps, .ref thands, .int tactors, .ref thunger, .ref tsaved, .int tusurers, .ref tasks, .ref tfloors, .int trate, .int tchest, .int tborrowers])), (tclaps, .inl (cI, 5, .inl t_claps)), (thands, .inl (cI, 5, .inl t_hands)), (thunger, .inl (cI, 6, .inl t_hunger)), (tsaved, .inl (cI, 6, .inl t_saved)), (tasks, .inl (cI, 4, .inl t_asks)), (tfloors, .inl (cI, 4, .inl t_floors))] (fun u : Int32 × (Nat → Int32) × (Nat → Int32) => none) (fun u : Int32 × (Nat → Int32) × (Nat → Int32) => (1 ≤ u.1.toInt ∧ u.1.toInt ≤ 4) ∧ (R_k_addUsurer tusurers t_asks t_floors a b u.1 u.2.1 u.2.2)) (fun u : Int32 × (Nat → Int32) × (Nat → Int32) => [(h, .inr (7, [.int tpalms, .ref tclaps, .ref thands, .int tactors, .ref thunger, .ref tsaved, .int u.1, .ref tasks, .ref tfloors, .int trate, .int tchest, .int tborrowers])), (tclaps, .inl (cI, 5, .inl t_claps)), (thands, .inl (cI, 5, .inl t_hands)), (thunger, .inl (cI, 6, .inl t_hunger)), (tsaved, .inl (cI, 6, .inl t_saved)), (tasks, .inl (cI, 4, .inl u.2.1)), (tfloors, .inl (cI, 4, .inl u.2.2))]) 0 0 := by
  refine entry (cc := cX7_addUsurer) (maxL := 3) (ret := none) (by decide) rfl (Nat.le_of_ble_eq_true rfl) ?_
  intro p e s m below meth c A ls hx hb hr hml hts hown hlocks hname hK hP hD hS hA hl
  have hown : s.vm.findClass RX7 = some m.cls := hown
  have hl : lv_has ls 3 [(0, .ref h), (1, .int a), (2, .int b)] := hl
  refine lv_aload_n hx hb dX7_addUsurer_0 rfl (lv_at hl 0 rfl) ?_
  refine va_get (D := D) (ci := 7) (v := .int tusurers) (C := RX7) (T := TX7) (N := 12) hx hb hts (fun _ h => List.mem_cons_of_mem _ (inAX7 _ h)) hown hK.1 hP 0 rfl rfl 6 (by decide) (hts (.fieldLink RX7 37 "ClapBank$Theatre" "usurers" "I") (List.mem_cons_of_mem _ W_280)) (fun _ h9 => h9) rfl dX7_addUsurer_1 ?_
  refine lv_iconst (v := 4) hx hb dX7_addUsurer_4 (by decide) ?_
  refine bc_ge (tgt := 38) (X := tusurers.toInt) (Y := 4) hx hb rfl (by decide) dX7_addUsurer_5 (by decide) (fun c1 => ?_) (fun c1 => ?_)
  · skip
    refine W.widen (k := 0) (n := 0) (Nat.le_of_ble_eq_true rfl) (Nat.le_of_ble_eq_true rfl) ?_
    exact ro_v hx hb hr hlocks (tusurers, t_asks, t_floors) rfl (⟨(show 1 ≤ (tusurers : Int32).toInt ∧ (tusurers : Int32).toInt ≤ 4 from (by have h9 := i_rng (tusurers); omega)), (Or.inl (⟨c1, ⟨rfl, rfl, rfl⟩⟩))⟩) (hP.sub [0, 1, 2, 3, 4, 5, 6] rfl) (hD.sub [0, 1, 2, 3, 4, 5, 6] (by decide) rfl) hS dX7_addUsurer_38
  · skip
    refine lv_aload_n hx hb dX7_addUsurer_8 rfl (lv_at hl 0 rfl) ?_
    refine va_get (D := D) (ci := 7) (v := .ref tasks) (C := RX7) (T := TX7) (N := 12) hx hb hts (fun _ h => List.mem_cons_of_mem _ (inAX7 _ h)) hown hK.1 hP 0 rfl rfl 7 (by decide) (hts (.fieldLink RX7 24 "ClapBank$Theatre" "asks" "[I") (List.mem_cons_of_mem _ W_47)) (fun _ h9 => h9) rfl dX7_addUsurer_9 ?_
    refine lv_aload_n hx hb dX7_addUsurer_12 rfl (lv_at hl 0 rfl) ?_
    refine va_get (D := D) (ci := 7) (v := .int tusurers) (C := RX7) (T := TX7) (N := 12) hx hb hts (fun _ h => List.mem_cons_of_mem _ (inAX7 _ h)) hown hK.1 hP 0 rfl rfl 6 (by decide) (hts (.fieldLink RX7 37 "ClapBank$Theatre" "usurers" "I") (List.mem_cons_of_mem _ W_280)) (fun _ h9 => h9) rfl dX7_addUsurer_13 ?_
    refine lv_iload_n hx hb dX7_addUsurer_16 rfl (lv_at hl 1 rfl) ?_
    refine va_iast hx hb hK.1 hP hD hS 5 0 rfl rfl (i_in (X := tusurers.toInt) rfl (by omega) (by omega)) dX7_addUsurer_17 (fun H locs hP hD hS => ?_)
    have hP : va_P D vwCl [(h, .inr (7, [.int tpalms, .ref tclaps, .ref thands, .int tactors, .ref thunger, .ref tsaved, .int tusurers, .ref tasks, .ref tfloors, .int trate, .int tchest, .int tborrowers])), (tclaps, .inl (cI, 5, .inl t_claps)), (thands, .inl (cI, 5, .inl t_hands)), (thunger, .inl (cI, 6, .inl t_hunger)), (tsaved, .inl (cI, 6, .inl t_saved)), (tasks, .inl (cI, 4, .inl (upd t_asks (Int32.toNatClampNeg tusurers) a))), (tfloors, .inl (cI, 4, .inl t_floors))] H := hP
    have hD : va_D A [(h, .inr (7, [.int tpalms, .ref tclaps, .ref thands, .int tactors, .ref thunger, .ref tsaved, .int tusurers, .ref tasks, .ref tfloors, .int trate, .int tchest, .int tborrowers])), (tclaps, .inl (cI, 5, .inl t_claps)), (thands, .inl (cI, 5, .inl t_hands)), (thunger, .inl (cI, 6, .inl t_hunger)), (tsaved, .inl (cI, 6, .inl t_saved)), (tasks, .inl (cI, 4, .inl (upd t_asks (Int32.toNatClampNeg tusurers) a))), (tfloors, .inl (cI, 4, .inl t_floors))] := hD
    generalize hu_g2 : (upd t_asks (Int32.toNatClampNeg tusurers) a) = g2 at hP hD
    refine lv_aload_n hx hb dX7_addUsurer_18 rfl (lv_at hl 0 rfl) ?_
    refine va_get (D := D) (ci := 7) (v := .ref tfloors) (C := RX7) (T := TX7) (N := 12) hx hb hts (fun _ h => List.mem_cons_of_mem _ (inAX7 _ h)) hown hK.1 hP 0 rfl rfl 8 (by decide) (hts (.fieldLink RX7 27 "ClapBank$Theatre" "floors" "[I") (List.mem_cons_of_mem _ W_48)) (fun _ h9 => h9) rfl dX7_addUsurer_19 ?_
    refine lv_aload_n hx hb dX7_addUsurer_22 rfl (lv_at hl 0 rfl) ?_
    refine va_get (D := D) (ci := 7) (v := .int tusurers) (C := RX7) (T := TX7) (N := 12) hx hb hts (fun _ h => List.mem_cons_of_mem _ (inAX7 _ h)) hown hK.1 hP 0 rfl rfl 6 (by decide) (hts (.fieldLink RX7 37 "ClapBank$Theatre" "usurers" "I") (List.mem_cons_of_mem _ W_280)) (fun _ h9 => h9) rfl dX7_addUsurer_23 ?_
    refine lv_iload_n hx hb dX7_addUsurer_26 rfl (lv_at hl 2 rfl) ?_
    refine va_iast hx hb hK.1 hP hD hS 6 0 rfl rfl (i_in (X := tusurers.toInt) rfl (by omega) (by omega)) dX7_addUsurer_27 (fun H locs hP hD hS => ?_)
    have hP : va_P D vwCl [(h, .inr (7, [.int tpalms, .ref tclaps, .ref thands, .int tactors, .ref thunger, .ref tsaved, .int tusurers, .ref tasks, .ref tfloors, .int trate, .int tchest, .int tborrowers])), (tclaps, .inl (cI, 5, .inl t_claps)), (thands, .inl (cI, 5, .inl t_hands)), (thunger, .inl (cI, 6, .inl t_hunger)), (tsaved, .inl (cI, 6, .inl t_saved)), (tasks, .inl (cI, 4, .inl g2)), (tfloors, .inl (cI, 4, .inl (upd t_floors (Int32.toNatClampNeg tusurers) b)))] H := hP
    have hD : va_D A [(h, .inr (7, [.int tpalms, .ref tclaps, .ref thands, .int tactors, .ref thunger, .ref tsaved, .int tusurers, .ref tasks, .ref tfloors, .int trate, .int tchest, .int tborrowers])), (tclaps, .inl (cI, 5, .inl t_claps)), (thands, .inl (cI, 5, .inl t_hands)), (thunger, .inl (cI, 6, .inl t_hunger)), (tsaved, .inl (cI, 6, .inl t_saved)), (tasks, .inl (cI, 4, .inl g2)), (tfloors, .inl (cI, 4, .inl (upd t_floors (Int32.toNatClampNeg tusurers) b)))] := hD
    generalize hu_g3 : (upd t_floors (Int32.toNatClampNeg tusurers) b) = g3 at hP hD
    refine lv_aload_n hx hb dX7_addUsurer_28 rfl (lv_at hl 0 rfl) ?_
    refine lv_dup hx hb dX7_addUsurer_29 rfl ?_
    refine va_get (D := D) (ci := 7) (v := .int tusurers) (C := RX7) (T := TX7) (N := 12) hx hb hts (fun _ h => List.mem_cons_of_mem _ (inAX7 _ h)) hown hK.1 hP 0 rfl rfl 6 (by decide) (hts (.fieldLink RX7 37 "ClapBank$Theatre" "usurers" "I") (List.mem_cons_of_mem _ W_280)) (fun _ h9 => h9) rfl dX7_addUsurer_30 ?_
    refine lv_iconst (v := 1) hx hb dX7_addUsurer_33 (by decide) ?_
    refine lv_iadd hx hb dX7_addUsurer_34 ?_
    refine lv_topi (fun z4 ez4 => ?_)
    have iz4 : z4.toInt = tusurers.toInt + 1 := by rw [ez4]; exact (i_add (X := tusurers.toInt) (Y := 1) rfl (by decide) (by have h8 := i_rng (tusurers); have h9 := i_rng (1); omega) (by have h8 := i_rng (tusurers); have h9 := i_rng (1); omega)).trans (by omega)
    refine va_put (D := D) (ci := 7) (v := .int z4) (ty := .int) (C := RX7) (T := TX7) (N := 12) hx hb hts (fun _ h => List.mem_cons_of_mem _ (inAX7 _ h)) tyX7 tyX7_ok nmX7 hown hK.1 hP hD hS 0 rfl rfl 6 (by decide) (hts (.fieldLink RX7 37 "ClapBank$Theatre" "usurers" "I") (List.mem_cons_of_mem _ W_280)) (fun _ h9 => h9) rfl (by decide +kernel) rfl rfl (Nat.le_of_ble_eq_true rfl) dX7_addUsurer_35 (fun H locs hP hD hS => ?_)
    have hP : va_P D vwCl [(h, .inr (7, [.int tpalms, .ref tclaps, .ref thands, .int tactors, .ref thunger, .ref tsaved, .int z4, .ref tasks, .ref tfloors, .int trate, .int tchest, .int tborrowers])), (tclaps, .inl (cI, 5, .inl t_claps)), (thands, .inl (cI, 5, .inl t_hands)), (thunger, .inl (cI, 6, .inl t_hunger)), (tsaved, .inl (cI, 6, .inl t_saved)), (tasks, .inl (cI, 4, .inl g2)), (tfloors, .inl (cI, 4, .inl g3))] H := hP
    have hD : va_D A [(h, .inr (7, [.int tpalms, .ref tclaps, .ref thands, .int tactors, .ref thunger, .ref tsaved, .int z4, .ref tasks, .ref tfloors, .int trate, .int tchest, .int tborrowers])), (tclaps, .inl (cI, 5, .inl t_claps)), (thands, .inl (cI, 5, .inl t_hands)), (thunger, .inl (cI, 6, .inl t_hunger)), (tsaved, .inl (cI, 6, .inl t_saved)), (tasks, .inl (cI, 4, .inl g2)), (tfloors, .inl (cI, 4, .inl g3))] := hD
    refine W.widen (k := 0) (n := 0) (Nat.le_of_ble_eq_true rfl) (Nat.le_of_ble_eq_true rfl) ?_
    exact ro_v hx hb hr hlocks (z4, g2, g3) rfl (⟨(show 1 ≤ (z4 : Int32).toInt ∧ (z4 : Int32).toInt ≤ 4 from (by have h9 := i_rng (z4); omega)), (Or.inr (⟨c1, ⟨_, hu_g2, ⟨_, hu_g3, ⟨_, ez4, ⟨rfl, rfl, rfl⟩⟩⟩⟩⟩))⟩) (hP.sub [0, 1, 2, 3, 4, 5, 6] rfl) (hD.sub [0, 1, 2, 3, 4, 5, 6] (by decide) rfl) hS dX7_addUsurer_38
set_option maxHeartbeats 4000000 in
set_option maxRecDepth 100000 in
theorem k_tellWhole (l : Launch) (D : va_G) (cI cB cJ cZ cT : ClassId) (h : Nat) (a : Int32) (tpalms : Int32) (tactors : Int32) (tusurers : Int32) (trate : Int32) (tchest : Int32) (tborrowers : Int32) (tclaps : Value) (thands : Value) (thunger : Value) (tsaved : Value) (tasks : Value) (tfloors : Value) (h_tpalms : 0 ≤ tpalms.toInt ∧ tpalms.toInt ≤ 5) (h_tactors : 0 ≤ tactors.toInt ∧ tactors.toInt ≤ 6) (h_tusurers : 0 ≤ tusurers.toInt ∧ tusurers.toInt ≤ 4) (h_a : 0 ≤ a.toInt ∧ a.toInt ≤ 9) : Co l yX7_tellWhole wsX7_tellWhole ({ frames := 0, cells := 0, slots := 0, locals := 0 }) D (tyL cI cB cJ cZ cT) [.ref h, .int a] [(h, .inr (7, [.int tpalms, tclaps, thands, .int tactors, thunger, tsaved, .int tusurers, tasks, tfloors, .int trate, .int tchest, .int tborrowers]))] (fun u : Int32 => some (.int u)) (fun u : Int32 => (R_k_tellWhole a tpalms tactors trate tchest tusurers tborrowers u)) (fun u : Int32 => [(h, .inr (7, [.int tpalms, tclaps, thands, .int tactors, thunger, tsaved, .int tusurers, tasks, tfloors, .int trate, .int tchest, .int tborrowers]))]) 0 0 := by
  refine entry (cc := cX7_tellWhole) (maxL := 2) (ret := (some .int)) (by decide) rfl (Nat.le_of_ble_eq_true rfl) ?_
  intro p e s m below meth c A ls hx hb hr hml hts hown hlocks hname hK hP hD hS hA hl
  have hown : s.vm.findClass RX7 = some m.cls := hown
  have hl : lv_has ls 2 [(0, .ref h), (1, .int a)] := hl
  refine lv_iload_n hx hb dX7_tellWhole_0 rfl (lv_at hl 1 rfl) ?_
  rcases (by omega : (a.toInt < 0 ∨ 5 < a.toInt) ∨ a.toInt = 0 ∨ a.toInt = 1 ∨ a.toInt = 2 ∨ a.toInt = 3 ∨ a.toInt = 4 ∨ a.toInt = 5) with c1 | c1 | c1 | c1 | c1 | c1 | c1
  · skip
    refine lv_tableOut (tgt := 70) hx hb dX7_tellWhole_1 c1 (by decide) ?_
    refine lv_iconst (v := (-1)) hx hb dX7_tellWhole_70 (by decide) ?_
    refine W.widen (k := 0) (n := 0) (Nat.le_of_ble_eq_true rfl) (Nat.le_of_ble_eq_true rfl) ?_
    exact ro_i hx hb hr hlocks ((-1)) rfl ((Or.inl (⟨c1, rfl⟩))) (hP.sub [0] rfl) (hD.sub [0] (by decide) rfl) hS dX7_tellWhole_71
  · skip
    refine lv_tableIn (off := 39) (tgt := 40) hx hb dX7_tellWhole_1 (by omega) (by omega) (by rw [c1]; rfl) (by decide) ?_
    refine lv_aload_n hx hb dX7_tellWhole_40 rfl (lv_at hl 0 rfl) ?_
    refine va_get (D := D) (ci := 7) (v := .int tpalms) (C := RX7) (T := TX7) (N := 12) hx hb hts (fun _ h => List.mem_cons_of_mem _ (inAX7 _ h)) hown hK.1 hP 0 rfl rfl 0 (by decide) (hts (.fieldLink RX7 30 "ClapBank$Theatre" "palms" "I") (List.mem_cons_of_mem _ W_278)) (fun _ h9 => h9) rfl dX7_tellWhole_41 ?_
    refine W.widen (k := 0) (n := 0) (Nat.le_of_ble_eq_true rfl) (Nat.le_of_ble_eq_true rfl) ?_
    exact ro_i hx hb hr hlocks (tpalms) rfl ((Or.inr (Or.inl (⟨c1, rfl⟩)))) (hP.sub [0] rfl) (hD.sub [0] (by decide) rfl) hS dX7_tellWhole_44
  · skip
    refine lv_tableIn (off := 44) (tgt := 45) hx hb dX7_tellWhole_1 (by omega) (by omega) (by rw [c1]; rfl) (by decide) ?_
    refine lv_aload_n hx hb dX7_tellWhole_45 rfl (lv_at hl 0 rfl) ?_
    refine va_get (D := D) (ci := 7) (v := .int tactors) (C := RX7) (T := TX7) (N := 12) hx hb hts (fun _ h => List.mem_cons_of_mem _ (inAX7 _ h)) hown hK.1 hP 0 rfl rfl 3 (by decide) (hts (.fieldLink RX7 34 "ClapBank$Theatre" "actors" "I") (List.mem_cons_of_mem _ W_279)) (fun _ h9 => h9) rfl dX7_tellWhole_46 ?_
    refine W.widen (k := 0) (n := 0) (Nat.le_of_ble_eq_true rfl) (Nat.le_of_ble_eq_true rfl) ?_
    exact ro_i hx hb hr hlocks (tactors) rfl ((Or.inr (Or.inr (Or.inl (⟨c1, rfl⟩))))) (hP.sub [0] rfl) (hD.sub [0] (by decide) rfl) hS dX7_tellWhole_49
  · skip
    refine lv_tableIn (off := 49) (tgt := 50) hx hb dX7_tellWhole_1 (by omega) (by omega) (by rw [c1]; rfl) (by decide) ?_
    refine lv_aload_n hx hb dX7_tellWhole_50 rfl (lv_at hl 0 rfl) ?_
    refine va_get (D := D) (ci := 7) (v := .int trate) (C := RX7) (T := TX7) (N := 12) hx hb hts (fun _ h => List.mem_cons_of_mem _ (inAX7 _ h)) hown hK.1 hP 0 rfl rfl 9 (by decide) (hts (.fieldLink RX7 40 "ClapBank$Theatre" "rate" "I") (List.mem_cons_of_mem _ W_281)) (fun _ h9 => h9) rfl dX7_tellWhole_51 ?_
    refine W.widen (k := 0) (n := 0) (Nat.le_of_ble_eq_true rfl) (Nat.le_of_ble_eq_true rfl) ?_
    exact ro_i hx hb hr hlocks (trate) rfl ((Or.inr (Or.inr (Or.inr (Or.inl (⟨c1, rfl⟩)))))) (hP.sub [0] rfl) (hD.sub [0] (by decide) rfl) hS dX7_tellWhole_54
  · skip
    refine lv_tableIn (off := 54) (tgt := 55) hx hb dX7_tellWhole_1 (by omega) (by omega) (by rw [c1]; rfl) (by decide) ?_
    refine lv_aload_n hx hb dX7_tellWhole_55 rfl (lv_at hl 0 rfl) ?_
    refine va_get (D := D) (ci := 7) (v := .int tchest) (C := RX7) (T := TX7) (N := 12) hx hb hts (fun _ h => List.mem_cons_of_mem _ (inAX7 _ h)) hown hK.1 hP 0 rfl rfl 10 (by decide) (hts (.fieldLink RX7 43 "ClapBank$Theatre" "chest" "I") (List.mem_cons_of_mem _ W_282)) (fun _ h9 => h9) rfl dX7_tellWhole_56 ?_
    refine W.widen (k := 0) (n := 0) (Nat.le_of_ble_eq_true rfl) (Nat.le_of_ble_eq_true rfl) ?_
    exact ro_i hx hb hr hlocks (tchest) rfl ((Or.inr (Or.inr (Or.inr (Or.inr (Or.inl (⟨c1, rfl⟩))))))) (hP.sub [0] rfl) (hD.sub [0] (by decide) rfl) hS dX7_tellWhole_59
  · skip
    refine lv_tableIn (off := 59) (tgt := 60) hx hb dX7_tellWhole_1 (by omega) (by omega) (by rw [c1]; rfl) (by decide) ?_
    refine lv_aload_n hx hb dX7_tellWhole_60 rfl (lv_at hl 0 rfl) ?_
    refine va_get (D := D) (ci := 7) (v := .int tusurers) (C := RX7) (T := TX7) (N := 12) hx hb hts (fun _ h => List.mem_cons_of_mem _ (inAX7 _ h)) hown hK.1 hP 0 rfl rfl 6 (by decide) (hts (.fieldLink RX7 37 "ClapBank$Theatre" "usurers" "I") (List.mem_cons_of_mem _ W_280)) (fun _ h9 => h9) rfl dX7_tellWhole_61 ?_
    refine W.widen (k := 0) (n := 0) (Nat.le_of_ble_eq_true rfl) (Nat.le_of_ble_eq_true rfl) ?_
    exact ro_i hx hb hr hlocks (tusurers) rfl ((Or.inr (Or.inr (Or.inr (Or.inr (Or.inr (Or.inl (⟨c1, rfl⟩)))))))) (hP.sub [0] rfl) (hD.sub [0] (by decide) rfl) hS dX7_tellWhole_64
  · skip
    refine lv_tableIn (off := 64) (tgt := 65) hx hb dX7_tellWhole_1 (by omega) (by omega) (by rw [c1]; rfl) (by decide) ?_
    refine lv_aload_n hx hb dX7_tellWhole_65 rfl (lv_at hl 0 rfl) ?_
    refine va_get (D := D) (ci := 7) (v := .int tborrowers) (C := RX7) (T := TX7) (N := 12) hx hb hts (fun _ h => List.mem_cons_of_mem _ (inAX7 _ h)) hown hK.1 hP 0 rfl rfl 11 (by decide) (hts (.fieldLink RX7 46 "ClapBank$Theatre" "borrowers" "I") (List.mem_cons_of_mem _ W_283)) (fun _ h9 => h9) rfl dX7_tellWhole_66 ?_
    refine W.widen (k := 0) (n := 0) (Nat.le_of_ble_eq_true rfl) (Nat.le_of_ble_eq_true rfl) ?_
    exact ro_i hx hb hr hlocks (tborrowers) rfl ((Or.inr (Or.inr (Or.inr (Or.inr (Or.inr (Or.inr (⟨c1, rfl⟩)))))))) (hP.sub [0] rfl) (hD.sub [0] (by decide) rfl) hS dX7_tellWhole_69
set_option maxHeartbeats 4000000 in
set_option maxRecDepth 100000 in
theorem k_tell (l : Launch) (D : va_G) (cI cB cJ cZ cT : ClassId) (h : Nat) (tclaps : Nat) (thands : Nat) (thunger : Nat) (tsaved : Nat) (tasks : Nat) (tfloors : Nat) (a : Int32) (tpalms : Int32) (tactors : Int32) (tusurers : Int32) (trate : Int32) (tchest : Int32) (tborrowers : Int32) (t_claps : Nat → Int32) (t_hands : Nat → Int32) (t_hunger : Nat → Int32) (t_saved : Nat → Int32) (t_asks : Nat → Int32) (t_floors : Nat → Int32) (h_tpalms : 0 ≤ tpalms.toInt ∧ tpalms.toInt ≤ 5) (h_tactors : 0 ≤ tactors.toInt ∧ tactors.toInt ≤ 6) (h_tusurers : 0 ≤ tusurers.toInt ∧ tusurers.toInt ≤ 4) : Co l yX7_tell wsX7_tell ({ frames := 1, cells := 0, slots := 0, locals := 21 }) D (tyL cI cB cJ cZ cT) [.ref h, .int a] [(h, .inr (7, [.int tpalms, .ref tclaps, .ref thands, .int tactors, .ref thunger, .ref tsaved, .int tusurers, .ref tasks, .ref tfloors, .int trate, .int tchest, .int tborrowers])), (tclaps, .inl (cI, 5, .inl t_claps)), (thands, .inl (cI, 5, .inl t_hands)), (thunger, .inl (cI, 6, .inl t_hunger)), (tsaved, .inl (cI, 6, .inl t_saved)), (tasks, .inl (cI, 4, .inl t_asks)), (tfloors, .inl (cI, 4, .inl t_floors))] (fun u : Int32 => some (.int u)) (fun u : Int32 => (R_k_tell a tpalms tactors trate tchest tusurers tborrowers t_claps t_hands t_hunger t_saved t_asks t_floors u)) (fun u : Int32 => [(h, .inr (7, [.int tpalms, .ref tclaps, .ref thands, .int tactors, .ref thunger, .ref tsaved, .int tusurers, .ref tasks, .ref tfloors, .int trate, .int tchest, .int tborrowers])), (tclaps, .inl (cI, 5, .inl t_claps)), (thands, .inl (cI, 5, .inl t_hands)), (thunger, .inl (cI, 6, .inl t_hunger)), (tsaved, .inl (cI, 6, .inl t_saved)), (tasks, .inl (cI, 4, .inl t_asks)), (tfloors, .inl (cI, 4, .inl t_floors))]) 0 0 := by
  refine entry (cc := cX7_tell) (maxL := 3) (ret := (some .int)) (by decide) rfl (Nat.le_of_ble_eq_true rfl) ?_
  intro p e s m below meth c A ls hx hb hr hml hts hown hlocks hname hK hP hD hS hA hl
  have hown : s.vm.findClass RX7 = some m.cls := hown
  have hl : lv_has ls 3 [(0, .ref h), (1, .int a)] := hl
  refine lv_iload_n hx hb dX7_tell_0 rfl (lv_at hl 1 rfl) ?_
  refine bi_ge (tgt := 6) (X := a.toInt) hx hb rfl dX7_tell_1 (by decide) (fun c1 => ?_) (fun c1 => ?_)
  · skip
    refine lv_iload_n hx hb dX7_tell_6 rfl (lv_at hl 1 rfl) ?_
    refine lv_bipush (v := 10) hx hb dX7_tell_7 (by decide) ?_
    refine lv_irem hx hb dX7_tell_9 (i_ne (X := 10) (by decide) (by decide)) ?_
    refine lv_topi (fun z2 ez2 => ?_)
    have hm_z2 : 0 ≤ z2.toInt ∧ z2.toInt < 10 := by rw [ez2]; exact i_rem (X := a.toInt) (Y := 10) rfl (by decide) (by omega) (by omega)
    refine lv_istore_n (lv' := [(2, .int z2), (0, .ref h), (1, .int a)]) hx hb dX7_tell_10 rfl hl (by decide) rfl (fun ls hl => ?_)
    refine lv_iload_n hx hb dX7_tell_11 rfl (lv_at hl 2 rfl) ?_
    refine lv_bipush (v := 10) hx hb dX7_tell_12 (by decide) ?_
    refine lv_idiv hx hb dX7_tell_14 (i_ne (X := 10) (by decide) (by decide)) ?_
    refine lv_topi (fun z3 ez3 => ?_)
    have hm_z3 : z3.toInt = (a.toInt) / 10 := by rw [ez3]; exact i_div (X := a.toInt) (Y := 10) rfl (by decide) (by omega) (by omega)
    rcases (by omega : (z3.toInt < 0 ∨ 6 < z3.toInt) ∨ z3.toInt = 0 ∨ z3.toInt = 1 ∨ z3.toInt = 2 ∨ z3.toInt = 3 ∨ z3.toInt = 4 ∨ z3.toInt = 5 ∨ z3.toInt = 6) with c4 | c4 | c4 | c4 | c4 | c4 | c4 | c4
    · skip
      refine lv_tableOut (tgt := 176) hx hb dX7_tell_15 c4 (by decide) ?_
      refine lv_iconst (v := (-1)) hx hb dX7_tell_176 (by decide) ?_
      refine W.widen (k := 0) (n := 0) (Nat.le_of_ble_eq_true rfl) (Nat.le_of_ble_eq_true rfl) ?_
      exact ro_i hx hb hr hlocks ((-1)) rfl ((Or.inl (⟨c1, ⟨_, ez2, ⟨_, ez3, Or.inl (⟨c4, rfl⟩)⟩⟩⟩))) (hP.sub [0, 1, 2, 3, 4, 5, 6] rfl) (hD.sub [0, 1, 2, 3, 4, 5, 6] (by decide) rfl) hS dX7_tell_177
    · skip
      refine lv_tableIn (off := 41) (tgt := 56) hx hb dX7_tell_15 (by omega) (by omega) (by rw [c4]; rfl) (by decide) ?_
      refine lv_aload_n hx hb dX7_tell_56 rfl (lv_at hl 1 rfl) ?_
      refine lv_iload_n hx hb dX7_tell_57 rfl (lv_at hl 0 rfl) ?_
      refine doV (n := 1) (As := [.int z2]) (rest := []) (wc := [(h, .inr (7, [.int tpalms, .ref tclaps, .ref thands, .int tactors, .ref thunger, .ref tsaved, .int tusurers, .ref tasks, .ref tfloors, .int trate, .int tchest, .int tborrowers]))]) (wr := [(tclaps, .inl (cI, 5, .inl t_claps)), (thands, .inl (cI, 5, .inl t_hands)), (thunger, .inl (cI, 6, .inl t_hunger)), (tsaved, .inl (cI, 6, .inl t_saved)), (tasks, .inl (cI, 4, .inl t_asks)), (tfloors, .inl (cI, 4, .inl t_floors))]) hx hb hml hown hts hK hP hD hS hA [0] [1, 2, 3, 4, 5, 6] rfl rfl rfl rfl (by decide) 0 rfl rfl (k_tellWhole l D cI cB cJ cZ cT (h) (z2) (tpalms) (tactors) (tusurers) (trate) (tchest) (tborrowers) (.ref tclaps) (.ref thands) (.ref thunger) (.ref tsaved) (.ref tasks) (.ref tfloors) (by have h9 := i_rng (tpalms); omega) (by have h9 := i_rng (tactors); omega) (by have h9 := i_rng (tusurers); omega) (by have h9 := i_rng (z2); omega)) gX7_tell_X7_tellWhole rfl rfl rfl (by decide +kernel) ⟨Nat.le_of_ble_eq_true rfl, Nat.le_of_ble_eq_true rfl⟩ hl.1 rfl rfl (Nat.le_of_ble_eq_true rfl) dX7_tell_58 ⟨Nat.le_of_ble_eq_true rfl, Nat.le_of_ble_eq_true rfl⟩ (fun u H locs hw hP hD hS => ?_)
      obtain ⟨r_5, rfl⟩ : ∃ z, z = u := ⟨_, rfl⟩
      have hP : va_P D vwCl [(tclaps, .inl (cI, 5, .inl t_claps)), (thands, .inl (cI, 5, .inl t_hands)), (thunger, .inl (cI, 6, .inl t_hunger)), (tsaved, .inl (cI, 6, .inl t_saved)), (tasks, .inl (cI, 4, .inl t_asks)), (tfloors, .inl (cI, 4, .inl t_floors)), (h, .inr (7, [.int tpalms, .ref tclaps, .ref thands, .int tactors, .ref thunger, .ref tsaved, .int tusurers, .ref tasks, .ref tfloors, .int trate, .int tchest, .int tborrowers]))] H := hP
      have hD : va_D A [(tclaps, .inl (cI, 5, .inl t_claps)), (thands, .inl (cI, 5, .inl t_hands)), (thunger, .inl (cI, 6, .inl t_hunger)), (tsaved, .inl (cI, 6, .inl t_saved)), (tasks, .inl (cI, 4, .inl t_asks)), (tfloors, .inl (cI, 4, .inl t_floors)), (h, .inr (7, [.int tpalms, .ref tclaps, .ref thands, .int tactors, .ref thunger, .ref tsaved, .int tusurers, .ref tasks, .ref tfloors, .int trate, .int tchest, .int tborrowers]))] := hD
      refine W.eq (g2 := F0 m 61 ls [.int r_5]) rfl ?_
      replace hw : (R_k_tellWhole z2 tpalms tactors trate tchest tusurers tborrowers r_5) := hw
      replace hw := hid hw
      have hxq_5 := hw
      refine W.widen (k := 0) (n := 0) (Nat.le_of_ble_eq_true rfl) (Nat.le_of_ble_eq_true rfl) ?_
      exact ro_i hx hb hr hlocks (r_5) rfl ((Or.inl (⟨c1, ⟨_, ez2, ⟨_, ez3, Or.inr (Or.inl (⟨c4, ⟨_, (unhid hxq_5), rfl⟩⟩))⟩⟩⟩))) (hP.sub [6, 0, 1, 2, 3, 4, 5] rfl) (hD.sub [6, 0, 1, 2, 3, 4, 5] (by decide) rfl) hS dX7_tell_61
    · skip
      refine lv_tableIn (off := 47) (tgt := 62) hx hb dX7_tell_15 (by omega) (by omega) (by rw [c4]; rfl) (by decide) ?_
      refine lv_iload_n hx hb dX7_tell_62 rfl (lv_at hl 0 rfl) ?_
      refine lv_aload_n hx hb dX7_tell_63 rfl (lv_at hl 1 rfl) ?_
      refine va_get (D := D) (ci := 7) (v := .int tpalms) (C := RX7) (T := TX7) (N := 12) hx hb hts (fun _ h => List.mem_cons_of_mem _ (inAX7 _ h)) hown hK.1 hP 0 rfl rfl 0 (by decide) (hts (.fieldLink RX7 30 "ClapBank$Theatre" "palms" "I") (List.mem_cons_of_mem _ W_278)) (fun _ h9 => h9) rfl dX7_tell_64 ?_
      refine bc_ge (tgt := 79) (X := z2.toInt) (Y := tpalms.toInt) hx hb rfl rfl dX7_tell_67 (by decide) (fun c7 => ?_) (fun c7 => ?_)
      · skip
        refine lv_iconst (v := (-1)) hx hb dX7_tell_79 (by decide) ?_
        refine W.widen (k := 0) (n := 0) (Nat.le_of_ble_eq_true rfl) (Nat.le_of_ble_eq_true rfl) ?_
        exact ro_i hx hb hr hlocks ((-1)) rfl ((Or.inl (⟨c1, ⟨_, ez2, ⟨_, ez3, Or.inr (Or.inr (Or.inl (⟨c4, Or.inl (⟨c7, rfl⟩)⟩)))⟩⟩⟩))) (hP.sub [0, 1, 2, 3, 4, 5, 6] rfl) (hD.sub [0, 1, 2, 3, 4, 5, 6] (by decide) rfl) hS dX7_tell_80
      · skip
        refine lv_aload_n hx hb dX7_tell_70 rfl (lv_at hl 1 rfl) ?_
        refine va_get (D := D) (ci := 7) (v := .ref tclaps) (C := RX7) (T := TX7) (N := 12) hx hb hts (fun _ h => List.mem_cons_of_mem _ (inAX7 _ h)) hown hK.1 hP 0 rfl rfl 1 (by decide) (hts (.fieldLink RX7 9 "ClapBank$Theatre" "claps" "[I") (List.mem_cons_of_mem _ W_43)) (fun _ h9 => h9) rfl dX7_tell_71 ?_
        refine lv_iload_n hx hb dX7_tell_74 rfl (lv_at hl 0 rfl) ?_
        refine va_iald hx hb hK.1 hP 1 0 rfl rfl (i_in (X := z2.toInt) rfl (by omega) (by omega)) dX7_tell_75 ?_
        refine lv_topi (fun z8 ez8 => ?_)
        refine lv_goto (tgt := 80) hx hb dX7_tell_76 (by decide) ?_
        refine W.widen (k := 0) (n := 0) (Nat.le_of_ble_eq_true rfl) (Nat.le_of_ble_eq_true rfl) ?_
        exact ro_i hx hb hr hlocks (z8) rfl ((Or.inl (⟨c1, ⟨_, ez2, ⟨_, ez3, Or.inr (Or.inr (Or.inl (⟨c4, Or.inr (⟨c7, ⟨_, ez8, rfl⟩⟩)⟩)))⟩⟩⟩))) (hP.sub [0, 1, 2, 3, 4, 5, 6] rfl) (hD.sub [0, 1, 2, 3, 4, 5, 6] (by decide) rfl) hS dX7_tell_80
    · skip
      refine lv_tableIn (off := 66) (tgt := 81) hx hb dX7_tell_15 (by omega) (by omega) (by rw [c4]; rfl) (by decide) ?_
      refine lv_iload_n hx hb dX7_tell_81 rfl (lv_at hl 0 rfl) ?_
      refine lv_aload_n hx hb dX7_tell_82 rfl (lv_at hl 1 rfl) ?_
      refine va_get (D := D) (ci := 7) (v := .int tpalms) (C := RX7) (T := TX7) (N := 12) hx hb hts (fun _ h => List.mem_cons_of_mem _ (inAX7 _ h)) hown hK.1 hP 0 rfl rfl 0 (by decide) (hts (.fieldLink RX7 30 "ClapBank$Theatre" "palms" "I") (List.mem_cons_of_mem _ W_278)) (fun _ h9 => h9) rfl dX7_tell_83 ?_
      refine bc_ge (tgt := 98) (X := z2.toInt) (Y := tpalms.toInt) hx hb rfl rfl dX7_tell_86 (by decide) (fun c9 => ?_) (fun c9 => ?_)
      · skip
        refine lv_iconst (v := (-1)) hx hb dX7_tell_98 (by decide) ?_
        refine W.widen (k := 0) (n := 0) (Nat.le_of_ble_eq_true rfl) (Nat.le_of_ble_eq_true rfl) ?_
        exact ro_i hx hb hr hlocks ((-1)) rfl ((Or.inl (⟨c1, ⟨_, ez2, ⟨_, ez3, Or.inr (Or.inr (Or.inr (Or.inl (⟨c4, Or.inl (⟨c9, rfl⟩)⟩))))⟩⟩⟩))) (hP.sub [0, 1, 2, 3, 4, 5, 6] rfl) (hD.sub [0, 1, 2, 3, 4, 5, 6] (by decide) rfl) hS dX7_tell_99
      · skip
        refine lv_aload_n hx hb dX7_tell_89 rfl (lv_at hl 1 rfl) ?_
        refine va_get (D := D) (ci := 7) (v := .ref thands) (C := RX7) (T := TX7) (N := 12) hx hb hts (fun _ h => List.mem_cons_of_mem _ (inAX7 _ h)) hown hK.1 hP 0 rfl rfl 2 (by decide) (hts (.fieldLink RX7 15 "ClapBank$Theatre" "hands" "[I") (List.mem_cons_of_mem _ W_44)) (fun _ h9 => h9) rfl dX7_tell_90 ?_
        refine lv_iload_n hx hb dX7_tell_93 rfl (lv_at hl 0 rfl) ?_
        refine va_iald hx hb hK.1 hP 2 0 rfl rfl (i_in (X := z2.toInt) rfl (by omega) (by omega)) dX7_tell_94 ?_
        refine lv_topi (fun z10 ez10 => ?_)
        refine lv_goto (tgt := 99) hx hb dX7_tell_95 (by decide) ?_
        refine W.widen (k := 0) (n := 0) (Nat.le_of_ble_eq_true rfl) (Nat.le_of_ble_eq_true rfl) ?_
        exact ro_i hx hb hr hlocks (z10) rfl ((Or.inl (⟨c1, ⟨_, ez2, ⟨_, ez3, Or.inr (Or.inr (Or.inr (Or.inl (⟨c4, Or.inr (⟨c9, ⟨_, ez10, rfl⟩⟩)⟩))))⟩⟩⟩))) (hP.sub [0, 1, 2, 3, 4, 5, 6] rfl) (hD.sub [0, 1, 2, 3, 4, 5, 6] (by decide) rfl) hS dX7_tell_99
    · skip
      refine lv_tableIn (off := 85) (tgt := 100) hx hb dX7_tell_15 (by omega) (by omega) (by rw [c4]; rfl) (by decide) ?_
      refine lv_iload_n hx hb dX7_tell_100 rfl (lv_at hl 0 rfl) ?_
      refine lv_aload_n hx hb dX7_tell_101 rfl (lv_at hl 1 rfl) ?_
      refine va_get (D := D) (ci := 7) (v := .int tactors) (C := RX7) (T := TX7) (N := 12) hx hb hts (fun _ h => List.mem_cons_of_mem _ (inAX7 _ h)) hown hK.1 hP 0 rfl rfl 3 (by decide) (hts (.fieldLink RX7 34 "ClapBank$Theatre" "actors" "I") (List.mem_cons_of_mem _ W_279)) (fun _ h9 => h9) rfl dX7_tell_102 ?_
      refine bc_ge (tgt := 117) (X := z2.toInt) (Y := tactors.toInt) hx hb rfl rfl dX7_tell_105 (by decide) (fun c11 => ?_) (fun c11 => ?_)
      · skip
        refine lv_iconst (v := (-1)) hx hb dX7_tell_117 (by decide) ?_
        refine W.widen (k := 0) (n := 0) (Nat.le_of_ble_eq_true rfl) (Nat.le_of_ble_eq_true rfl) ?_
        exact ro_i hx hb hr hlocks ((-1)) rfl ((Or.inl (⟨c1, ⟨_, ez2, ⟨_, ez3, Or.inr (Or.inr (Or.inr (Or.inr (Or.inl (⟨c4, Or.inl (⟨c11, rfl⟩)⟩)))))⟩⟩⟩))) (hP.sub [0, 1, 2, 3, 4, 5, 6] rfl) (hD.sub [0, 1, 2, 3, 4, 5, 6] (by decide) rfl) hS dX7_tell_118
      · skip
        refine lv_aload_n hx hb dX7_tell_108 rfl (lv_at hl 1 rfl) ?_
        refine va_get (D := D) (ci := 7) (v := .ref thunger) (C := RX7) (T := TX7) (N := 12) hx hb hts (fun _ h => List.mem_cons_of_mem _ (inAX7 _ h)) hown hK.1 hP 0 rfl rfl 4 (by decide) (hts (.fieldLink RX7 18 "ClapBank$Theatre" "hunger" "[I") (List.mem_cons_of_mem _ W_45)) (fun _ h9 => h9) rfl dX7_tell_109 ?_
        refine lv_iload_n hx hb dX7_tell_112 rfl (lv_at hl 0 rfl) ?_
        refine va_iald hx hb hK.1 hP 3 0 rfl rfl (i_in (X := z2.toInt) rfl (by omega) (by omega)) dX7_tell_113 ?_
        refine lv_topi (fun z12 ez12 => ?_)
        refine lv_goto (tgt := 118) hx hb dX7_tell_114 (by decide) ?_
        refine W.widen (k := 0) (n := 0) (Nat.le_of_ble_eq_true rfl) (Nat.le_of_ble_eq_true rfl) ?_
        exact ro_i hx hb hr hlocks (z12) rfl ((Or.inl (⟨c1, ⟨_, ez2, ⟨_, ez3, Or.inr (Or.inr (Or.inr (Or.inr (Or.inl (⟨c4, Or.inr (⟨c11, ⟨_, ez12, rfl⟩⟩)⟩)))))⟩⟩⟩))) (hP.sub [0, 1, 2, 3, 4, 5, 6] rfl) (hD.sub [0, 1, 2, 3, 4, 5, 6] (by decide) rfl) hS dX7_tell_118
    · skip
      refine lv_tableIn (off := 104) (tgt := 119) hx hb dX7_tell_15 (by omega) (by omega) (by rw [c4]; rfl) (by decide) ?_
      refine lv_iload_n hx hb dX7_tell_119 rfl (lv_at hl 0 rfl) ?_
      refine lv_aload_n hx hb dX7_tell_120 rfl (lv_at hl 1 rfl) ?_
      refine va_get (D := D) (ci := 7) (v := .int tactors) (C := RX7) (T := TX7) (N := 12) hx hb hts (fun _ h => List.mem_cons_of_mem _ (inAX7 _ h)) hown hK.1 hP 0 rfl rfl 3 (by decide) (hts (.fieldLink RX7 34 "ClapBank$Theatre" "actors" "I") (List.mem_cons_of_mem _ W_279)) (fun _ h9 => h9) rfl dX7_tell_121 ?_
      refine bc_ge (tgt := 136) (X := z2.toInt) (Y := tactors.toInt) hx hb rfl rfl dX7_tell_124 (by decide) (fun c13 => ?_) (fun c13 => ?_)
      · skip
        refine lv_iconst (v := (-1)) hx hb dX7_tell_136 (by decide) ?_
        refine W.widen (k := 0) (n := 0) (Nat.le_of_ble_eq_true rfl) (Nat.le_of_ble_eq_true rfl) ?_
        exact ro_i hx hb hr hlocks ((-1)) rfl ((Or.inl (⟨c1, ⟨_, ez2, ⟨_, ez3, Or.inr (Or.inr (Or.inr (Or.inr (Or.inr (Or.inl (⟨c4, Or.inl (⟨c13, rfl⟩)⟩))))))⟩⟩⟩))) (hP.sub [0, 1, 2, 3, 4, 5, 6] rfl) (hD.sub [0, 1, 2, 3, 4, 5, 6] (by decide) rfl) hS dX7_tell_137
      · skip
        refine lv_aload_n hx hb dX7_tell_127 rfl (lv_at hl 1 rfl) ?_
        refine va_get (D := D) (ci := 7) (v := .ref tsaved) (C := RX7) (T := TX7) (N := 12) hx hb hts (fun _ h => List.mem_cons_of_mem _ (inAX7 _ h)) hown hK.1 hP 0 rfl rfl 5 (by decide) (hts (.fieldLink RX7 21 "ClapBank$Theatre" "saved" "[I") (List.mem_cons_of_mem _ W_46)) (fun _ h9 => h9) rfl dX7_tell_128 ?_
        refine lv_iload_n hx hb dX7_tell_131 rfl (lv_at hl 0 rfl) ?_
        refine va_iald hx hb hK.1 hP 4 0 rfl rfl (i_in (X := z2.toInt) rfl (by omega) (by omega)) dX7_tell_132 ?_
        refine lv_topi (fun z14 ez14 => ?_)
        refine lv_goto (tgt := 137) hx hb dX7_tell_133 (by decide) ?_
        refine W.widen (k := 0) (n := 0) (Nat.le_of_ble_eq_true rfl) (Nat.le_of_ble_eq_true rfl) ?_
        exact ro_i hx hb hr hlocks (z14) rfl ((Or.inl (⟨c1, ⟨_, ez2, ⟨_, ez3, Or.inr (Or.inr (Or.inr (Or.inr (Or.inr (Or.inl (⟨c4, Or.inr (⟨c13, ⟨_, ez14, rfl⟩⟩)⟩))))))⟩⟩⟩))) (hP.sub [0, 1, 2, 3, 4, 5, 6] rfl) (hD.sub [0, 1, 2, 3, 4, 5, 6] (by decide) rfl) hS dX7_tell_137
    · skip
      refine lv_tableIn (off := 123) (tgt := 138) hx hb dX7_tell_15 (by omega) (by omega) (by rw [c4]; rfl) (by decide) ?_
      refine lv_iload_n hx hb dX7_tell_138 rfl (lv_at hl 0 rfl) ?_
      refine lv_aload_n hx hb dX7_tell_139 rfl (lv_at hl 1 rfl) ?_
      refine va_get (D := D) (ci := 7) (v := .int tusurers) (C := RX7) (T := TX7) (N := 12) hx hb hts (fun _ h => List.mem_cons_of_mem _ (inAX7 _ h)) hown hK.1 hP 0 rfl rfl 6 (by decide) (hts (.fieldLink RX7 37 "ClapBank$Theatre" "usurers" "I") (List.mem_cons_of_mem _ W_280)) (fun _ h9 => h9) rfl dX7_tell_140 ?_
      refine bc_ge (tgt := 155) (X := z2.toInt) (Y := tusurers.toInt) hx hb rfl rfl dX7_tell_143 (by decide) (fun c15 => ?_) (fun c15 => ?_)
      · skip
        refine lv_iconst (v := (-1)) hx hb dX7_tell_155 (by decide) ?_
        refine W.widen (k := 0) (n := 0) (Nat.le_of_ble_eq_true rfl) (Nat.le_of_ble_eq_true rfl) ?_
        exact ro_i hx hb hr hlocks ((-1)) rfl ((Or.inl (⟨c1, ⟨_, ez2, ⟨_, ez3, Or.inr (Or.inr (Or.inr (Or.inr (Or.inr (Or.inr (Or.inl (⟨c4, Or.inl (⟨c15, rfl⟩)⟩)))))))⟩⟩⟩))) (hP.sub [0, 1, 2, 3, 4, 5, 6] rfl) (hD.sub [0, 1, 2, 3, 4, 5, 6] (by decide) rfl) hS dX7_tell_156
      · skip
        refine lv_aload_n hx hb dX7_tell_146 rfl (lv_at hl 1 rfl) ?_
        refine va_get (D := D) (ci := 7) (v := .ref tasks) (C := RX7) (T := TX7) (N := 12) hx hb hts (fun _ h => List.mem_cons_of_mem _ (inAX7 _ h)) hown hK.1 hP 0 rfl rfl 7 (by decide) (hts (.fieldLink RX7 24 "ClapBank$Theatre" "asks" "[I") (List.mem_cons_of_mem _ W_47)) (fun _ h9 => h9) rfl dX7_tell_147 ?_
        refine lv_iload_n hx hb dX7_tell_150 rfl (lv_at hl 0 rfl) ?_
        refine va_iald hx hb hK.1 hP 5 0 rfl rfl (i_in (X := z2.toInt) rfl (by omega) (by omega)) dX7_tell_151 ?_
        refine lv_topi (fun z16 ez16 => ?_)
        refine lv_goto (tgt := 156) hx hb dX7_tell_152 (by decide) ?_
        refine W.widen (k := 0) (n := 0) (Nat.le_of_ble_eq_true rfl) (Nat.le_of_ble_eq_true rfl) ?_
        exact ro_i hx hb hr hlocks (z16) rfl ((Or.inl (⟨c1, ⟨_, ez2, ⟨_, ez3, Or.inr (Or.inr (Or.inr (Or.inr (Or.inr (Or.inr (Or.inl (⟨c4, Or.inr (⟨c15, ⟨_, ez16, rfl⟩⟩)⟩)))))))⟩⟩⟩))) (hP.sub [0, 1, 2, 3, 4, 5, 6] rfl) (hD.sub [0, 1, 2, 3, 4, 5, 6] (by decide) rfl) hS dX7_tell_156
    · skip
      refine lv_tableIn (off := 142) (tgt := 157) hx hb dX7_tell_15 (by omega) (by omega) (by rw [c4]; rfl) (by decide) ?_
      refine lv_iload_n hx hb dX7_tell_157 rfl (lv_at hl 0 rfl) ?_
      refine lv_aload_n hx hb dX7_tell_158 rfl (lv_at hl 1 rfl) ?_
      refine va_get (D := D) (ci := 7) (v := .int tusurers) (C := RX7) (T := TX7) (N := 12) hx hb hts (fun _ h => List.mem_cons_of_mem _ (inAX7 _ h)) hown hK.1 hP 0 rfl rfl 6 (by decide) (hts (.fieldLink RX7 37 "ClapBank$Theatre" "usurers" "I") (List.mem_cons_of_mem _ W_280)) (fun _ h9 => h9) rfl dX7_tell_159 ?_
      refine bc_ge (tgt := 174) (X := z2.toInt) (Y := tusurers.toInt) hx hb rfl rfl dX7_tell_162 (by decide) (fun c17 => ?_) (fun c17 => ?_)
      · skip
        refine lv_iconst (v := (-1)) hx hb dX7_tell_174 (by decide) ?_
        refine W.widen (k := 0) (n := 0) (Nat.le_of_ble_eq_true rfl) (Nat.le_of_ble_eq_true rfl) ?_
        exact ro_i hx hb hr hlocks ((-1)) rfl ((Or.inl (⟨c1, ⟨_, ez2, ⟨_, ez3, Or.inr (Or.inr (Or.inr (Or.inr (Or.inr (Or.inr (Or.inr (⟨c4, Or.inl (⟨c17, rfl⟩)⟩)))))))⟩⟩⟩))) (hP.sub [0, 1, 2, 3, 4, 5, 6] rfl) (hD.sub [0, 1, 2, 3, 4, 5, 6] (by decide) rfl) hS dX7_tell_175
      · skip
        refine lv_aload_n hx hb dX7_tell_165 rfl (lv_at hl 1 rfl) ?_
        refine va_get (D := D) (ci := 7) (v := .ref tfloors) (C := RX7) (T := TX7) (N := 12) hx hb hts (fun _ h => List.mem_cons_of_mem _ (inAX7 _ h)) hown hK.1 hP 0 rfl rfl 8 (by decide) (hts (.fieldLink RX7 27 "ClapBank$Theatre" "floors" "[I") (List.mem_cons_of_mem _ W_48)) (fun _ h9 => h9) rfl dX7_tell_166 ?_
        refine lv_iload_n hx hb dX7_tell_169 rfl (lv_at hl 0 rfl) ?_
        refine va_iald hx hb hK.1 hP 6 0 rfl rfl (i_in (X := z2.toInt) rfl (by omega) (by omega)) dX7_tell_170 ?_
        refine lv_topi (fun z18 ez18 => ?_)
        refine lv_goto (tgt := 175) hx hb dX7_tell_171 (by decide) ?_
        refine W.widen (k := 0) (n := 0) (Nat.le_of_ble_eq_true rfl) (Nat.le_of_ble_eq_true rfl) ?_
        exact ro_i hx hb hr hlocks (z18) rfl ((Or.inl (⟨c1, ⟨_, ez2, ⟨_, ez3, Or.inr (Or.inr (Or.inr (Or.inr (Or.inr (Or.inr (Or.inr (⟨c4, Or.inr (⟨c17, ⟨_, ez18, rfl⟩⟩)⟩)))))))⟩⟩⟩))) (hP.sub [0, 1, 2, 3, 4, 5, 6] rfl) (hD.sub [0, 1, 2, 3, 4, 5, 6] (by decide) rfl) hS dX7_tell_175
  · skip
    refine lv_iconst (v := (-1)) hx hb dX7_tell_4 (by decide) ?_
    refine W.widen (k := 0) (n := 0) (Nat.le_of_ble_eq_true rfl) (Nat.le_of_ble_eq_true rfl) ?_
    exact ro_i hx hb hr hlocks ((-1)) rfl ((Or.inr (⟨c1, rfl⟩))) (hP.sub [0, 1, 2, 3, 4, 5, 6] rfl) (hD.sub [0, 1, 2, 3, 4, 5, 6] (by decide) rfl) hS dX7_tell_5
set_option maxHeartbeats 4000000 in
set_option maxRecDepth 100000 in
theorem k_bcopy (l : Launch) (D : va_G) (cI cB cJ cZ cT : ClassId) (h : Nat) (o : Nat) (tparts : Nat) (uparts : Nat) (tdeeds : Int32) (udeeds : Int32) (t_parts : Nat → Int32) (u_parts : Nat → Int32) (h_tdeeds : 0 ≤ tdeeds.toInt ∧ tdeeds.toInt ≤ 30) (h_udeeds : 0 ≤ udeeds.toInt ∧ udeeds.toInt ≤ 30) : Co l yX0_copyFrom wsX0_copyFrom ({ frames := 1, cells := 0, slots := 0, locals := 60 }) D (tyL cI cB cJ cZ cT) [.ref h, .ref o] [(h, .inr (0, [.int tdeeds, .ref tparts])), (tparts, .inl (cI, 120, .inl t_parts)), (o, .inr (0, [.int udeeds, .ref uparts])), (uparts, .inl (cI, 120, .inl u_parts))] (fun u : (Nat → Int32) => none) (fun u : (Nat → Int32) => (R_k_bcopy u_parts t_parts u)) (fun u : (Nat → Int32) => [(h, .inr (0, [.int udeeds, .ref tparts])), (tparts, .inl (cI, 120, .inl u)), (o, .inr (0, [.int udeeds, .ref uparts])), (uparts, .inl (cI, 120, .inl u_parts))]) 0 0 := by
  refine entry (cc := cX0_copyFrom) (maxL := 2) (ret := none) (by decide) rfl (Nat.le_of_ble_eq_true rfl) ?_
  intro p e s m below meth c A ls hx hb hr hml hts hown hlocks hname hK hP hD hS hA hl
  have hown : s.vm.findClass RX0 = some m.cls := hown
  have hl : lv_has ls 2 [(0, .ref h), (1, .ref o)] := hl
  refine lv_aload_n hx hb dX0_copyFrom_0 rfl (lv_at hl 0 rfl) ?_
  refine lv_aload_n hx hb dX0_copyFrom_1 rfl (lv_at hl 1 rfl) ?_
  refine va_get (D := D) (ci := 0) (v := .int udeeds) (C := RX0) (T := TX0) (N := 2) hx hb hts (fun _ h => List.mem_cons_of_mem _ (inAX0 _ h)) hown hK.1 hP 2 rfl rfl 0 (by decide) (hts (.fieldLink RX0 15 "ClapBank$Book" "deeds" "I") (List.mem_cons_of_mem _ W_7)) (fun _ h9 => h9) rfl dX0_copyFrom_2 ?_
  refine va_put (D := D) (ci := 0) (v := .int udeeds) (ty := .int) (C := RX0) (T := TX0) (N := 2) hx hb hts (fun _ h => List.mem_cons_of_mem _ (inAX0 _ h)) tyX0 tyX0_ok nmX0 hown hK.1 hP hD hS 0 rfl rfl 0 (by decide) (hts (.fieldLink RX0 15 "ClapBank$Book" "deeds" "I") (List.mem_cons_of_mem _ W_7)) (fun _ h9 => h9) rfl (by decide +kernel) rfl rfl (Nat.le_of_ble_eq_true rfl) dX0_copyFrom_5 (fun H locs hP hD hS => ?_)
  have hP : va_P D vwCl [(h, .inr (0, [.int udeeds, .ref tparts])), (tparts, .inl (cI, 120, .inl t_parts)), (o, .inr (0, [.int udeeds, .ref uparts])), (uparts, .inl (cI, 120, .inl u_parts))] H := hP
  have hD : va_D A [(h, .inr (0, [.int udeeds, .ref tparts])), (tparts, .inl (cI, 120, .inl t_parts)), (o, .inr (0, [.int udeeds, .ref uparts])), (uparts, .inl (cI, 120, .inl u_parts))] := hD
  refine lv_aload_n hx hb dX0_copyFrom_8 rfl (lv_at hl 1 rfl) ?_
  refine va_get (D := D) (ci := 0) (v := .ref uparts) (C := RX0) (T := TX0) (N := 2) hx hb hts (fun _ h => List.mem_cons_of_mem _ (inAX0 _ h)) hown hK.1 hP 2 rfl rfl 1 (by decide) (hts (.fieldLink RX0 9 "ClapBank$Book" "parts" "[I") (List.mem_cons_of_mem _ W_5)) (fun _ h9 => h9) rfl dX0_copyFrom_9 ?_
  refine lv_iconst (v := 0) hx hb dX0_copyFrom_12 (by decide) ?_
  refine lv_aload_n hx hb dX0_copyFrom_13 rfl (lv_at hl 0 rfl) ?_
  refine va_get (D := D) (ci := 0) (v := .ref tparts) (C := RX0) (T := TX0) (N := 2) hx hb hts (fun _ h => List.mem_cons_of_mem _ (inAX0 _ h)) hown hK.1 hP 0 rfl rfl 1 (by decide) (hts (.fieldLink RX0 9 "ClapBank$Book" "parts" "[I") (List.mem_cons_of_mem _ W_5)) (fun _ h9 => h9) rfl dX0_copyFrom_14 ?_
  refine lv_iconst (v := 0) hx hb dX0_copyFrom_17 (by decide) ?_
  refine lv_bipush (v := 120) hx hb dX0_copyFrom_18 (by decide) ?_
  refine va_copyi (ty := .int) hx hb (hml.trans hl.1.symm) hown (hts (.methodLink RX0 19 arraycopyName) (List.mem_cons_of_mem _ W_8)) (hts (.native arraycopyName) (List.mem_cons_of_mem _ W_9)) (hts (.static arraycopyName) (List.mem_cons_of_mem _ W_10)) (hts (.initialized "java/lang/System") (List.mem_cons_of_mem _ W_11)) hK.1 hP hD hS 3 1 0 0 rfl rfl rfl rfl rfl (by decide) (by decide) (by decide) (by decide) (by decide) (fun _ _ => rfl) (Nat.le_of_ble_eq_true rfl) (Nat.le_of_ble_eq_true rfl) dX0_copyFrom_20 (fun H locs hP hD hS => ?_)
  have hP : va_P D vwCl [(h, .inr (0, [.int udeeds, .ref tparts])), (tparts, .inl (cI, 120, .inl (va_cpy (α := Int32) u_parts t_parts (Int32.toNatClampNeg 0) (Int32.toNatClampNeg 0) (Int32.toNatClampNeg 120)))), (o, .inr (0, [.int udeeds, .ref uparts])), (uparts, .inl (cI, 120, .inl u_parts))] H := hP
  have hD : va_D A [(h, .inr (0, [.int udeeds, .ref tparts])), (tparts, .inl (cI, 120, .inl (va_cpy (α := Int32) u_parts t_parts (Int32.toNatClampNeg 0) (Int32.toNatClampNeg 0) (Int32.toNatClampNeg 120)))), (o, .inr (0, [.int udeeds, .ref uparts])), (uparts, .inl (cI, 120, .inl u_parts))] := hD
  generalize hu_g1 : (va_cpy (α := Int32) u_parts t_parts (Int32.toNatClampNeg 0) (Int32.toNatClampNeg 0) (Int32.toNatClampNeg 120)) = g1 at hP hD
  refine W.widen (k := 0) (n := 0) (Nat.le_of_ble_eq_true rfl) (Nat.le_of_ble_eq_true rfl) ?_
  exact ro_v hx hb hr hlocks (g1) rfl ((⟨_, hu_g1, rfl⟩)) (hP.sub [0, 1, 2, 3] rfl) (hD.sub [0, 1, 2, 3] (by decide) rfl) hS dX0_copyFrom_23
set_option maxHeartbeats 4000000 in
set_option maxRecDepth 100000 in
theorem k_addDeed (l : Launch) (D : va_G) (cI cB cJ cZ cT : ClassId) (h : Nat) (tparts : Nat) (a : Int32) (b : Int32) (d : Int32) (f : Int32) (tdeeds : Int32) (t_parts : Nat → Int32) (h_tdeeds : 0 ≤ tdeeds.toInt ∧ tdeeds.toInt ≤ 30) : Co l yX0_addDeed wsX0_addDeed ({ frames := 0, cells := 0, slots := 0, locals := 0 }) D (tyL cI cB cJ cZ cT) [.ref h, .int a, .int b, .int d, .int f] [(h, .inr (0, [.int tdeeds, .ref tparts])), (tparts, .inl (cI, 120, .inl t_parts))] (fun u : Int32 × (Nat → Int32) => none) (fun u : Int32 × (Nat → Int32) => (1 ≤ u.1.toInt ∧ u.1.toInt ≤ 30) ∧ (R_k_addDeed tdeeds t_parts a b d f u.1 u.2)) (fun u : Int32 × (Nat → Int32) => [(h, .inr (0, [.int u.1, .ref tparts])), (tparts, .inl (cI, 120, .inl u.2))]) 0 0 := by
  refine entry (cc := cX0_addDeed) (maxL := 6) (ret := none) (by decide) rfl (Nat.le_of_ble_eq_true rfl) ?_
  intro p e s m below meth c A ls hx hb hr hml hts hown hlocks hname hK hP hD hS hA hl
  have hown : s.vm.findClass RX0 = some m.cls := hown
  have hl : lv_has ls 6 [(0, .ref h), (1, .int a), (2, .int b), (3, .int d), (4, .int f)] := hl
  refine lv_aload_n hx hb dX0_addDeed_0 rfl (lv_at hl 0 rfl) ?_
  refine va_get (D := D) (ci := 0) (v := .int tdeeds) (C := RX0) (T := TX0) (N := 2) hx hb hts (fun _ h => List.mem_cons_of_mem _ (inAX0 _ h)) hown hK.1 hP 0 rfl rfl 0 (by decide) (hts (.fieldLink RX0 15 "ClapBank$Book" "deeds" "I") (List.mem_cons_of_mem _ W_7)) (fun _ h9 => h9) rfl dX0_addDeed_1 ?_
  refine lv_bipush (v := 30) hx hb dX0_addDeed_4 (by decide) ?_
  refine bc_ge (tgt := 66) (X := tdeeds.toInt) (Y := 30) hx hb rfl (by decide) dX0_addDeed_6 (by decide) (fun c1 => ?_) (fun c1 => ?_)
  · skip
    refine W.widen (k := 0) (n := 0) (Nat.le_of_ble_eq_true rfl) (Nat.le_of_ble_eq_true rfl) ?_
    exact ro_v hx hb hr hlocks (tdeeds, t_parts) rfl (⟨(show 1 ≤ (tdeeds : Int32).toInt ∧ (tdeeds : Int32).toInt ≤ 30 from (by have h9 := i_rng (tdeeds); omega)), (Or.inl (⟨c1, ⟨rfl, rfl⟩⟩))⟩) (hP.sub [0, 1] rfl) (hD.sub [0, 1] (by decide) rfl) hS dX0_addDeed_66
  · skip
    refine lv_aload_n hx hb dX0_addDeed_9 rfl (lv_at hl 0 rfl) ?_
    refine va_get (D := D) (ci := 0) (v := .int tdeeds) (C := RX0) (T := TX0) (N := 2) hx hb hts (fun _ h => List.mem_cons_of_mem _ (inAX0 _ h)) hown hK.1 hP 0 rfl rfl 0 (by decide) (hts (.fieldLink RX0 15 "ClapBank$Book" "deeds" "I") (List.mem_cons_of_mem _ W_7)) (fun _ h9 => h9) rfl dX0_addDeed_10 ?_
    refine lv_iconst (v := 4) hx hb dX0_addDeed_13 (by decide) ?_
    refine lv_imul hx hb dX0_addDeed_14 ?_
    refine lv_topi (fun z2 ez2 => ?_)
    have iz2 : z2.toInt = (tdeeds.toInt) * (4) := by rw [ez2]; exact (i_mul (X := tdeeds.toInt) (Y := 4) rfl (by decide) (by have h8 := i_rng (tdeeds); have h9 := i_rng (4); omega) (by have h8 := i_rng (tdeeds); have h9 := i_rng (4); omega)).trans (by omega)
    refine lv_istore (lv' := [(5, .int z2), (0, .ref h), (1, .int a), (2, .int b), (3, .int d), (4, .int f)]) hx hb dX0_addDeed_15 hl (by decide) rfl (fun ls hl => ?_)
    refine lv_aload_n hx hb dX0_addDeed_17 rfl (lv_at hl 1 rfl) ?_
    refine va_get (D := D) (ci := 0) (v := .ref tparts) (C := RX0) (T := TX0) (N := 2) hx hb hts (fun _ h => List.mem_cons_of_mem _ (inAX0 _ h)) hown hK.1 hP 0 rfl rfl 1 (by decide) (hts (.fieldLink RX0 9 "ClapBank$Book" "parts" "[I") (List.mem_cons_of_mem _ W_5)) (fun _ h9 => h9) rfl dX0_addDeed_18 ?_
    refine lv_iload hx hb dX0_addDeed_21 (lv_at hl 0 rfl) ?_
    refine lv_iload_n hx hb dX0_addDeed_23 rfl (lv_at hl 2 rfl) ?_
    refine va_iast hx hb hK.1 hP hD hS 1 0 rfl rfl (i_in (X := z2.toInt) rfl (by omega) (by omega)) dX0_addDeed_24 (fun H locs hP hD hS => ?_)
    have hP : va_P D vwCl [(h, .inr (0, [.int tdeeds, .ref tparts])), (tparts, .inl (cI, 120, .inl (upd t_parts (Int32.toNatClampNeg z2) a)))] H := hP
    have hD : va_D A [(h, .inr (0, [.int tdeeds, .ref tparts])), (tparts, .inl (cI, 120, .inl (upd t_parts (Int32.toNatClampNeg z2) a)))] := hD
    generalize hu_g3 : (upd t_parts (Int32.toNatClampNeg z2) a) = g3 at hP hD
    refine lv_aload_n hx hb dX0_addDeed_25 rfl (lv_at hl 1 rfl) ?_
    refine va_get (D := D) (ci := 0) (v := .ref tparts) (C := RX0) (T := TX0) (N := 2) hx hb hts (fun _ h => List.mem_cons_of_mem _ (inAX0 _ h)) hown hK.1 hP 0 rfl rfl 1 (by decide) (hts (.fieldLink RX0 9 "ClapBank$Book" "parts" "[I") (List.mem_cons_of_mem _ W_5)) (fun _ h9 => h9) rfl dX0_addDeed_26 ?_
    refine lv_iload hx hb dX0_addDeed_29 (lv_at hl 0 rfl) ?_
    refine lv_iconst (v := 1) hx hb dX0_addDeed_31 (by decide) ?_
    refine lv_iadd hx hb dX0_addDeed_32 ?_
    refine lv_topi (fun z4 ez4 => ?_)
    have iz4 : z4.toInt = z2.toInt + 1 := by rw [ez4]; exact (i_add (X := z2.toInt) (Y := 1) rfl (by decide) (by have h8 := i_rng (z2); have h9 := i_rng (1); omega) (by have h8 := i_rng (z2); have h9 := i_rng (1); omega)).trans (by omega)
    refine lv_iload_n hx hb dX0_addDeed_33 rfl (lv_at hl 3 rfl) ?_
    refine va_iast hx hb hK.1 hP hD hS 1 0 rfl rfl (i_in (X := z2.toInt + 1) iz4 (by omega) (by omega)) dX0_addDeed_34 (fun H locs hP hD hS => ?_)
    have hP : va_P D vwCl [(h, .inr (0, [.int tdeeds, .ref tparts])), (tparts, .inl (cI, 120, .inl (upd g3 (Int32.toNatClampNeg z4) b)))] H := hP
    have hD : va_D A [(h, .inr (0, [.int tdeeds, .ref tparts])), (tparts, .inl (cI, 120, .inl (upd g3 (Int32.toNatClampNeg z4) b)))] := hD
    generalize hu_g5 : (upd g3 (Int32.toNatClampNeg z4) b) = g5 at hP hD
    refine lv_aload_n hx hb dX0_addDeed_35 rfl (lv_at hl 1 rfl) ?_
    refine va_get (D := D) (ci := 0) (v := .ref tparts) (C := RX0) (T := TX0) (N := 2) hx hb hts (fun _ h => List.mem_cons_of_mem _ (inAX0 _ h)) hown hK.1 hP 0 rfl rfl 1 (by decide) (hts (.fieldLink RX0 9 "ClapBank$Book" "parts" "[I") (List.mem_cons_of_mem _ W_5)) (fun _ h9 => h9) rfl dX0_addDeed_36 ?_
    refine lv_iload hx hb dX0_addDeed_39 (lv_at hl 0 rfl) ?_
    refine lv_iconst (v := 2) hx hb dX0_addDeed_41 (by decide) ?_
    refine lv_iadd hx hb dX0_addDeed_42 ?_
    refine lv_topi (fun z6 ez6 => ?_)
    have iz6 : z6.toInt = z2.toInt + 2 := by rw [ez6]; exact (i_add (X := z2.toInt) (Y := 2) rfl (by decide) (by have h8 := i_rng (z2); have h9 := i_rng (2); omega) (by have h8 := i_rng (z2); have h9 := i_rng (2); omega)).trans (by omega)
    refine lv_iload_n hx hb dX0_addDeed_43 rfl (lv_at hl 4 rfl) ?_
    refine va_iast hx hb hK.1 hP hD hS 1 0 rfl rfl (i_in (X := z2.toInt + 2) iz6 (by omega) (by omega)) dX0_addDeed_44 (fun H locs hP hD hS => ?_)
    have hP : va_P D vwCl [(h, .inr (0, [.int tdeeds, .ref tparts])), (tparts, .inl (cI, 120, .inl (upd g5 (Int32.toNatClampNeg z6) d)))] H := hP
    have hD : va_D A [(h, .inr (0, [.int tdeeds, .ref tparts])), (tparts, .inl (cI, 120, .inl (upd g5 (Int32.toNatClampNeg z6) d)))] := hD
    generalize hu_g7 : (upd g5 (Int32.toNatClampNeg z6) d) = g7 at hP hD
    refine lv_aload_n hx hb dX0_addDeed_45 rfl (lv_at hl 1 rfl) ?_
    refine va_get (D := D) (ci := 0) (v := .ref tparts) (C := RX0) (T := TX0) (N := 2) hx hb hts (fun _ h => List.mem_cons_of_mem _ (inAX0 _ h)) hown hK.1 hP 0 rfl rfl 1 (by decide) (hts (.fieldLink RX0 9 "ClapBank$Book" "parts" "[I") (List.mem_cons_of_mem _ W_5)) (fun _ h9 => h9) rfl dX0_addDeed_46 ?_
    refine lv_iload hx hb dX0_addDeed_49 (lv_at hl 0 rfl) ?_
    refine lv_iconst (v := 3) hx hb dX0_addDeed_51 (by decide) ?_
    refine lv_iadd hx hb dX0_addDeed_52 ?_
    refine lv_topi (fun z8 ez8 => ?_)
    have iz8 : z8.toInt = z2.toInt + 3 := by rw [ez8]; exact (i_add (X := z2.toInt) (Y := 3) rfl (by decide) (by have h8 := i_rng (z2); have h9 := i_rng (3); omega) (by have h8 := i_rng (z2); have h9 := i_rng (3); omega)).trans (by omega)
    refine lv_iload hx hb dX0_addDeed_53 (lv_at hl 5 rfl) ?_
    refine va_iast hx hb hK.1 hP hD hS 1 0 rfl rfl (i_in (X := z2.toInt + 3) iz8 (by omega) (by omega)) dX0_addDeed_55 (fun H locs hP hD hS => ?_)
    have hP : va_P D vwCl [(h, .inr (0, [.int tdeeds, .ref tparts])), (tparts, .inl (cI, 120, .inl (upd g7 (Int32.toNatClampNeg z8) f)))] H := hP
    have hD : va_D A [(h, .inr (0, [.int tdeeds, .ref tparts])), (tparts, .inl (cI, 120, .inl (upd g7 (Int32.toNatClampNeg z8) f)))] := hD
    generalize hu_g9 : (upd g7 (Int32.toNatClampNeg z8) f) = g9 at hP hD
    refine lv_aload_n hx hb dX0_addDeed_56 rfl (lv_at hl 1 rfl) ?_
    refine lv_dup hx hb dX0_addDeed_57 rfl ?_
    refine va_get (D := D) (ci := 0) (v := .int tdeeds) (C := RX0) (T := TX0) (N := 2) hx hb hts (fun _ h => List.mem_cons_of_mem _ (inAX0 _ h)) hown hK.1 hP 0 rfl rfl 0 (by decide) (hts (.fieldLink RX0 15 "ClapBank$Book" "deeds" "I") (List.mem_cons_of_mem _ W_7)) (fun _ h9 => h9) rfl dX0_addDeed_58 ?_
    refine lv_iconst (v := 1) hx hb dX0_addDeed_61 (by decide) ?_
    refine lv_iadd hx hb dX0_addDeed_62 ?_
    refine lv_topi (fun z10 ez10 => ?_)
    have iz10 : z10.toInt = tdeeds.toInt + 1 := by rw [ez10]; exact (i_add (X := tdeeds.toInt) (Y := 1) rfl (by decide) (by have h8 := i_rng (tdeeds); have h9 := i_rng (1); omega) (by have h8 := i_rng (tdeeds); have h9 := i_rng (1); omega)).trans (by omega)
    refine va_put (D := D) (ci := 0) (v := .int z10) (ty := .int) (C := RX0) (T := TX0) (N := 2) hx hb hts (fun _ h => List.mem_cons_of_mem _ (inAX0 _ h)) tyX0 tyX0_ok nmX0 hown hK.1 hP hD hS 0 rfl rfl 0 (by decide) (hts (.fieldLink RX0 15 "ClapBank$Book" "deeds" "I") (List.mem_cons_of_mem _ W_7)) (fun _ h9 => h9) rfl (by decide +kernel) rfl rfl (Nat.le_of_ble_eq_true rfl) dX0_addDeed_63 (fun H locs hP hD hS => ?_)
    have hP : va_P D vwCl [(h, .inr (0, [.int z10, .ref tparts])), (tparts, .inl (cI, 120, .inl g9))] H := hP
    have hD : va_D A [(h, .inr (0, [.int z10, .ref tparts])), (tparts, .inl (cI, 120, .inl g9))] := hD
    refine W.widen (k := 0) (n := 0) (Nat.le_of_ble_eq_true rfl) (Nat.le_of_ble_eq_true rfl) ?_
    exact ro_v hx hb hr hlocks (z10, g9) rfl (⟨(show 1 ≤ (z10 : Int32).toInt ∧ (z10 : Int32).toInt ≤ 30 from (by have h9 := i_rng (z10); omega)), (Or.inr (⟨c1, ⟨_, ez2, ⟨_, hu_g3, ⟨_, ez4, ⟨_, hu_g5, ⟨_, ez6, ⟨_, hu_g7, ⟨_, ez8, ⟨_, hu_g9, ⟨_, ez10, ⟨rfl, rfl⟩⟩⟩⟩⟩⟩⟩⟩⟩⟩⟩))⟩) (hP.sub [0, 1] rfl) (hD.sub [0, 1] (by decide) rfl) hS dX0_addDeed_66
set_option maxHeartbeats 4000000 in
set_option maxRecDepth 100000 in
theorem k_part (l : Launch) (D : va_G) (cI cB cJ cZ cT : ClassId) (h : Nat) (tparts : Nat) (a : Int32) (b : Int32) (tdeeds : Int32) (t_parts : Nat → Int32) (h_tdeeds : 0 ≤ tdeeds.toInt ∧ tdeeds.toInt ≤ 30) (h_a : 0 ≤ a.toInt ∧ a.toInt ≤ 29) (h_b : 0 ≤ b.toInt ∧ b.toInt ≤ 3) : Co l yX0_part wsX0_part ({ frames := 0, cells := 0, slots := 0, locals := 0 }) D (tyL cI cB cJ cZ cT) [.ref h, .int a, .int b] [(h, .inr (0, [.int tdeeds, .ref tparts])), (tparts, .inl (cI, 120, .inl t_parts))] (fun u : Int32 => some (.int u)) (fun u : Int32 => (R_k_part a b t_parts u)) (fun u : Int32 => [(h, .inr (0, [.int tdeeds, .ref tparts])), (tparts, .inl (cI, 120, .inl t_parts))]) 0 0 := by
  refine entry (cc := cX0_part) (maxL := 3) (ret := (some .int)) (by decide) rfl (Nat.le_of_ble_eq_true rfl) ?_
  intro p e s m below meth c A ls hx hb hr hml hts hown hlocks hname hK hP hD hS hA hl
  have hown : s.vm.findClass RX0 = some m.cls := hown
  have hl : lv_has ls 3 [(0, .ref h), (1, .int a), (2, .int b)] := hl
  refine lv_aload_n hx hb dX0_part_0 rfl (lv_at hl 0 rfl) ?_
  refine va_get (D := D) (ci := 0) (v := .ref tparts) (C := RX0) (T := TX0) (N := 2) hx hb hts (fun _ h => List.mem_cons_of_mem _ (inAX0 _ h)) hown hK.1 hP 0 rfl rfl 1 (by decide) (hts (.fieldLink RX0 9 "ClapBank$Book" "parts" "[I") (List.mem_cons_of_mem _ W_5)) (fun _ h9 => h9) rfl dX0_part_1 ?_
  refine lv_iload_n hx hb dX0_part_4 rfl (lv_at hl 1 rfl) ?_
  refine lv_iconst (v := 4) hx hb dX0_part_5 (by decide) ?_
  refine lv_imul hx hb dX0_part_6 ?_
  refine lv_topi (fun z1 ez1 => ?_)
  have iz1 : z1.toInt = (a.toInt) * (4) := by rw [ez1]; exact (i_mul (X := a.toInt) (Y := 4) rfl (by decide) (by have h8 := i_rng (a); have h9 := i_rng (4); omega) (by have h8 := i_rng (a); have h9 := i_rng (4); omega)).trans (by omega)
  refine lv_iload_n hx hb dX0_part_7 rfl (lv_at hl 2 rfl) ?_
  refine lv_iadd hx hb dX0_part_8 ?_
  refine lv_topi (fun z2 ez2 => ?_)
  have iz2 : z2.toInt = (z1.toInt) + (b.toInt) := by rw [ez2]; exact (i_add (X := z1.toInt) (Y := b.toInt) rfl rfl (by have h8 := i_rng (z1); have h9 := i_rng (b); omega) (by have h8 := i_rng (z1); have h9 := i_rng (b); omega)).trans (by omega)
  refine va_iald hx hb hK.1 hP 1 0 rfl rfl (i_in (X := z2.toInt) rfl (by omega) (by omega)) dX0_part_9 ?_
  refine lv_topi (fun z3 ez3 => ?_)
  refine W.widen (k := 0) (n := 0) (Nat.le_of_ble_eq_true rfl) (Nat.le_of_ble_eq_true rfl) ?_
  exact ro_i hx hb hr hlocks (z3) rfl ((⟨_, ez1, ⟨_, ez2, ⟨_, ez3, rfl⟩⟩⟩)) (hP.sub [0, 1] rfl) (hD.sub [0, 1] (by decide) rfl) hS dX0_part_10
set_option maxHeartbeats 4000000 in
set_option maxRecDepth 100000 in
theorem k_isOf (l : Launch) (D : va_G) (cI cB cJ cZ cT : ClassId) (h : Nat) (tparts : Nat) (a : Int32) (b : Int32) (tdeeds : Int32) (t_parts : Nat → Int32) (h_tdeeds : 0 ≤ tdeeds.toInt ∧ tdeeds.toInt ≤ 30) (h_a : 0 ≤ a.toInt ∧ a.toInt ≤ 29) : Co l yX0_isOf wsX0_isOf ({ frames := 1, cells := 0, slots := 0, locals := 22 }) D (tyL cI cB cJ cZ cT) [.ref h, .int a, .int b] [(h, .inr (0, [.int tdeeds, .ref tparts])), (tparts, .inl (cI, 120, .inl t_parts))] (fun u : Int32 => some (.int u)) (fun u : Int32 => (0 ≤ u.toInt ∧ u.toInt ≤ 1)) (fun u : Int32 => [(h, .inr (0, [.int tdeeds, .ref tparts])), (tparts, .inl (cI, 120, .inl t_parts))]) 0 0 := by
  refine entry (cc := cX0_isOf) (maxL := 5) (ret := (some .boolean)) (by decide) rfl (Nat.le_of_ble_eq_true rfl) ?_
  intro p e s m below meth c A ls hx hb hr hml hts hown hlocks hname hK hP hD hS hA hl
  have hown : s.vm.findClass RX0 = some m.cls := hown
  have hl : lv_has ls 5 [(0, .ref h), (1, .int a), (2, .int b)] := hl
  refine lv_aload_n hx hb dX0_isOf_0 rfl (lv_at hl 0 rfl) ?_
  refine lv_iload_n hx hb dX0_isOf_1 rfl (lv_at hl 1 rfl) ?_
  refine lv_iconst (v := 0) hx hb dX0_isOf_2 (by decide) ?_
  refine doV (n := 2) (As := [.int a, .int 0]) (rest := []) (wc := [(h, .inr (0, [.int tdeeds, .ref tparts])), (tparts, .inl (cI, 120, .inl t_parts))]) (wr := ([] : va_W)) hx hb hml hown hts hK hP hD hS hA [0, 1] [] rfl rfl rfl rfl (by decide) 0 rfl rfl (k_part l D cI cB cJ cZ cT (h) (tparts) (a) (0) (tdeeds) (t_parts) (by have h9 := i_rng (tdeeds); omega) (by have h9 := i_rng (a); omega) (by decide)) gX0_isOf_X0_part rfl rfl rfl (by decide +kernel) ⟨Nat.le_of_ble_eq_true rfl, Nat.le_of_ble_eq_true rfl⟩ hl.1 rfl rfl (Nat.le_of_ble_eq_true rfl) dX0_isOf_3 ⟨Nat.le_of_ble_eq_true rfl, Nat.le_of_ble_eq_true rfl⟩ (fun u H locs hw hP hD hS => ?_)
  obtain ⟨r_1, rfl⟩ : ∃ z, z = u := ⟨_, rfl⟩
  have hP : va_P D vwCl [(h, .inr (0, [.int tdeeds, .ref tparts])), (tparts, .inl (cI, 120, .inl t_parts))] H := hP
  have hD : va_D A [(h, .inr (0, [.int tdeeds, .ref tparts])), (tparts, .inl (cI, 120, .inl t_parts))] := hD
  refine W.eq (g2 := F0 m 6 ls [.int r_1]) rfl ?_
  replace hw : (R_k_part a (0 : Int32) t_parts r_1) := hw
  replace hw := hid hw
  have hxq_1 := hw
  refine lv_istore_n (lv' := [(3, .int r_1), (0, .ref h), (1, .int a), (2, .int b)]) hx hb dX0_isOf_6 rfl hl (by decide) rfl (fun ls hl => ?_)
  refine lv_iload_n hx hb dX0_isOf_7 rfl (lv_at hl 0 rfl) ?_
  refine lv_iconst (v := 1) hx hb dX0_isOf_8 (by decide) ?_
  have hg_r3 := i_rng r_1
  refine bc_eq (tgt := 17) (X := r_1.toInt) (Y := 1) hx hb rfl (by decide) dX0_isOf_9 (by decide) (fun c4 => ?_) (fun c4 => ?_)
  · skip
    refine lv_iconst (v := 1) hx hb dX0_isOf_17 (by decide) ?_
    refine lv_goto (tgt := 22) hx hb dX0_isOf_18 (by decide) ?_
    refine lv_istore (lv' := [(4, .int 1), (3, .int r_1), (0, .ref h), (1, .int a), (2, .int b)]) hx hb dX0_isOf_22 hl (by decide) rfl (fun ls hl => ?_)
    refine lv_iload hx hb dX0_isOf_24 (lv_at hl 0 rfl) ?_
    refine bi_ne (tgt := 33) (X := 1) hx hb (by decide) dX0_isOf_26 (by decide) (fun c5 => ?_) (fun h => absurd h (by decide))
    refine lv_aload_n hx hb dX0_isOf_33 rfl (lv_at hl 2 rfl) ?_
    refine lv_iload_n hx hb dX0_isOf_34 rfl (lv_at hl 3 rfl) ?_
    refine lv_iconst (v := 1) hx hb dX0_isOf_35 (by decide) ?_
    refine doV (n := 2) (As := [.int a, .int 1]) (rest := []) (wc := [(h, .inr (0, [.int tdeeds, .ref tparts])), (tparts, .inl (cI, 120, .inl t_parts))]) (wr := ([] : va_W)) hx hb hml hown hts hK hP hD hS hA [0, 1] [] rfl rfl rfl rfl (by decide) 0 rfl rfl (k_part l D cI cB cJ cZ cT (h) (tparts) (a) (1) (tdeeds) (t_parts) (by have h9 := i_rng (tdeeds); omega) (by have h9 := i_rng (a); omega) (by decide)) gX0_isOf_X0_part rfl rfl rfl (by decide +kernel) ⟨Nat.le_of_ble_eq_true rfl, Nat.le_of_ble_eq_true rfl⟩ hl.1 rfl rfl (Nat.le_of_ble_eq_true rfl) dX0_isOf_36 ⟨Nat.le_of_ble_eq_true rfl, Nat.le_of_ble_eq_true rfl⟩ (fun u H locs hw hP hD hS => ?_)
    obtain ⟨r_6, rfl⟩ : ∃ z, z = u := ⟨_, rfl⟩
    have hP : va_P D vwCl [(h, .inr (0, [.int tdeeds, .ref tparts])), (tparts, .inl (cI, 120, .inl t_parts))] H := hP
    have hD : va_D A [(h, .inr (0, [.int tdeeds, .ref tparts])), (tparts, .inl (cI, 120, .inl t_parts))] := hD
    refine W.eq (g2 := F0 m 39 ls [.int r_6]) rfl ?_
    replace hw : (R_k_part a (1 : Int32) t_parts r_6) := hw
    replace hw := hid hw
    have hxq_6 := hw
    refine lv_iload_n hx hb dX0_isOf_39 rfl (lv_at hl 4 rfl) ?_
    have hg_r8 := i_rng b
    have hg_r9 := i_rng r_6
    refine bc_eq (tgt := 58) (X := r_6.toInt) (Y := b.toInt) hx hb rfl rfl dX0_isOf_40 (by decide) (fun c10 => ?_) (fun c10 => ?_)
    · skip
      refine lv_iconst (v := 1) hx hb dX0_isOf_58 (by decide) ?_
      refine lv_goto (tgt := 63) hx hb dX0_isOf_59 (by decide) ?_
      refine W.widen (k := 0) (n := 0) (Nat.le_of_ble_eq_true rfl) (Nat.le_of_ble_eq_true rfl) ?_
      exact ro_z hx hb hr rfl hlocks (1) rfl ((show 0 ≤ (1 : Int32).toInt ∧ (1 : Int32).toInt ≤ 1 from (by decide))) (hP.sub [0, 1] rfl) (hD.sub [0, 1] (by decide) rfl) hS dX0_isOf_63
    · skip
      refine lv_iload hx hb dX0_isOf_43 (lv_at hl 0 rfl) ?_
      refine bi_eq (tgt := 62) (X := 1) hx hb (by decide) dX0_isOf_45 (by decide) (fun h => absurd h (by decide)) (fun c11 => ?_)
      refine lv_aload_n hx hb dX0_isOf_48 rfl (lv_at hl 2 rfl) ?_
      refine lv_iload_n hx hb dX0_isOf_49 rfl (lv_at hl 3 rfl) ?_
      refine lv_iconst (v := 2) hx hb dX0_isOf_50 (by decide) ?_
      refine doV (n := 2) (As := [.int a, .int 2]) (rest := []) (wc := [(h, .inr (0, [.int tdeeds, .ref tparts])), (tparts, .inl (cI, 120, .inl t_parts))]) (wr := ([] : va_W)) hx hb hml hown hts hK hP hD hS hA [0, 1] [] rfl rfl rfl rfl (by decide) 0 rfl rfl (k_part l D cI cB cJ cZ cT (h) (tparts) (a) (2) (tdeeds) (t_parts) (by have h9 := i_rng (tdeeds); omega) (by have h9 := i_rng (a); omega) (by decide)) gX0_isOf_X0_part rfl rfl rfl (by decide +kernel) ⟨Nat.le_of_ble_eq_true rfl, Nat.le_of_ble_eq_true rfl⟩ hl.1 rfl rfl (Nat.le_of_ble_eq_true rfl) dX0_isOf_51 ⟨Nat.le_of_ble_eq_true rfl, Nat.le_of_ble_eq_true rfl⟩ (fun u H locs hw hP hD hS => ?_)
      obtain ⟨r_12, rfl⟩ : ∃ z, z = u := ⟨_, rfl⟩
      have hP : va_P D vwCl [(h, .inr (0, [.int tdeeds, .ref tparts])), (tparts, .inl (cI, 120, .inl t_parts))] H := hP
      have hD : va_D A [(h, .inr (0, [.int tdeeds, .ref tparts])), (tparts, .inl (cI, 120, .inl t_parts))] := hD
      refine W.eq (g2 := F0 m 54 ls [.int r_12]) rfl ?_
      replace hw : (R_k_part a (2 : Int32) t_parts r_12) := hw
      replace hw := hid hw
      have hxq_12 := hw
      refine lv_iload_n hx hb dX0_isOf_54 rfl (lv_at hl 4 rfl) ?_
      have hg_r14 := i_rng b
      have hg_r15 := i_rng r_12
      refine bc_ne (tgt := 62) (X := r_12.toInt) (Y := b.toInt) hx hb rfl rfl dX0_isOf_55 (by decide) (fun c16 => ?_) (fun c16 => ?_)
      · skip
        refine lv_iconst (v := 0) hx hb dX0_isOf_62 (by decide) ?_
        refine W.widen (k := 0) (n := 0) (Nat.le_of_ble_eq_true rfl) (Nat.le_of_ble_eq_true rfl) ?_
        exact ro_z hx hb hr rfl hlocks (0) rfl ((show 0 ≤ (0 : Int32).toInt ∧ (0 : Int32).toInt ≤ 1 from (by decide))) (hP.sub [0, 1] rfl) (hD.sub [0, 1] (by decide) rfl) hS dX0_isOf_63
      · skip
        refine lv_iconst (v := 1) hx hb dX0_isOf_58 (by decide) ?_
        refine lv_goto (tgt := 63) hx hb dX0_isOf_59 (by decide) ?_
        refine W.widen (k := 0) (n := 0) (Nat.le_of_ble_eq_true rfl) (Nat.le_of_ble_eq_true rfl) ?_
        exact ro_z hx hb hr rfl hlocks (1) rfl ((show 0 ≤ (1 : Int32).toInt ∧ (1 : Int32).toInt ≤ 1 from (by decide))) (hP.sub [0, 1] rfl) (hD.sub [0, 1] (by decide) rfl) hS dX0_isOf_63
  · skip
    refine lv_iload_n hx hb dX0_isOf_12 rfl (lv_at hl 0 rfl) ?_
    refine lv_iconst (v := 2) hx hb dX0_isOf_13 (by decide) ?_
    have hg_r17 := i_rng r_1
    refine bc_ne (tgt := 21) (X := r_1.toInt) (Y := 2) hx hb rfl (by decide) dX0_isOf_14 (by decide) (fun c18 => ?_) (fun c18 => ?_)
    · skip
      refine lv_iconst (v := 0) hx hb dX0_isOf_21 (by decide) ?_
      refine lv_istore (lv' := [(4, .int 0), (3, .int r_1), (0, .ref h), (1, .int a), (2, .int b)]) hx hb dX0_isOf_22 hl (by decide) rfl (fun ls hl => ?_)
      refine lv_iload hx hb dX0_isOf_24 (lv_at hl 0 rfl) ?_
      refine bi_ne (tgt := 33) (X := 0) hx hb (by decide) dX0_isOf_26 (by decide) (fun h => absurd h (by decide)) (fun c19 => ?_)
      refine lv_iload_n hx hb dX0_isOf_29 rfl (lv_at hl 1 rfl) ?_
      refine bi_ne (tgt := 43) (X := r_1.toInt) hx hb rfl dX0_isOf_30 (by decide) (fun c20 => ?_) (fun c20 => ?_)
      · skip
        refine lv_iload hx hb dX0_isOf_43 (lv_at hl 0 rfl) ?_
        refine bi_eq (tgt := 62) (X := 0) hx hb (by decide) dX0_isOf_45 (by decide) (fun c21 => ?_) (fun h => absurd h (by decide))
        refine lv_iconst (v := 0) hx hb dX0_isOf_62 (by decide) ?_
        refine W.widen (k := 0) (n := 0) (Nat.le_of_ble_eq_true rfl) (Nat.le_of_ble_eq_true rfl) ?_
        exact ro_z hx hb hr rfl hlocks (0) rfl ((show 0 ≤ (0 : Int32).toInt ∧ (0 : Int32).toInt ≤ 1 from (by decide))) (hP.sub [0, 1] rfl) (hD.sub [0, 1] (by decide) rfl) hS dX0_isOf_63
      · skip
        refine lv_aload_n hx hb dX0_isOf_33 rfl (lv_at hl 2 rfl) ?_
        refine lv_iload_n hx hb dX0_isOf_34 rfl (lv_at hl 3 rfl) ?_
        refine lv_iconst (v := 1) hx hb dX0_isOf_35 (by decide) ?_
        refine doV (n := 2) (As := [.int a, .int 1]) (rest := []) (wc := [(h, .inr (0, [.int tdeeds, .ref tparts])), (tparts, .inl (cI, 120, .inl t_parts))]) (wr := ([] : va_W)) hx hb hml hown hts hK hP hD hS hA [0, 1] [] rfl rfl rfl rfl (by decide) 0 rfl rfl (k_part l D cI cB cJ cZ cT (h) (tparts) (a) (1) (tdeeds) (t_parts) (by have h9 := i_rng (tdeeds); omega) (by have h9 := i_rng (a); omega) (by decide)) gX0_isOf_X0_part rfl rfl rfl (by decide +kernel) ⟨Nat.le_of_ble_eq_true rfl, Nat.le_of_ble_eq_true rfl⟩ hl.1 rfl rfl (Nat.le_of_ble_eq_true rfl) dX0_isOf_36 ⟨Nat.le_of_ble_eq_true rfl, Nat.le_of_ble_eq_true rfl⟩ (fun u H locs hw hP hD hS => ?_)
        obtain ⟨r_22, rfl⟩ : ∃ z, z = u := ⟨_, rfl⟩
        have hP : va_P D vwCl [(h, .inr (0, [.int tdeeds, .ref tparts])), (tparts, .inl (cI, 120, .inl t_parts))] H := hP
        have hD : va_D A [(h, .inr (0, [.int tdeeds, .ref tparts])), (tparts, .inl (cI, 120, .inl t_parts))] := hD
        refine W.eq (g2 := F0 m 39 ls [.int r_22]) rfl ?_
        replace hw : (R_k_part a (1 : Int32) t_parts r_22) := hw
        replace hw := hid hw
        have hxq_22 := hw
        refine lv_iload_n hx hb dX0_isOf_39 rfl (lv_at hl 4 rfl) ?_
        have hg_r24 := i_rng b
        have hg_r25 := i_rng r_22
        refine bc_eq (tgt := 58) (X := r_22.toInt) (Y := b.toInt) hx hb rfl rfl dX0_isOf_40 (by decide) (fun c26 => ?_) (fun c26 => ?_)
        · skip
          refine lv_iconst (v := 1) hx hb dX0_isOf_58 (by decide) ?_
          refine lv_goto (tgt := 63) hx hb dX0_isOf_59 (by decide) ?_
          refine W.widen (k := 0) (n := 0) (Nat.le_of_ble_eq_true rfl) (Nat.le_of_ble_eq_true rfl) ?_
          exact ro_z hx hb hr rfl hlocks (1) rfl ((show 0 ≤ (1 : Int32).toInt ∧ (1 : Int32).toInt ≤ 1 from (by decide))) (hP.sub [0, 1] rfl) (hD.sub [0, 1] (by decide) rfl) hS dX0_isOf_63
        · skip
          refine lv_iload hx hb dX0_isOf_43 (lv_at hl 0 rfl) ?_
          refine bi_eq (tgt := 62) (X := 0) hx hb (by decide) dX0_isOf_45 (by decide) (fun c27 => ?_) (fun h => absurd h (by decide))
          refine lv_iconst (v := 0) hx hb dX0_isOf_62 (by decide) ?_
          refine W.widen (k := 0) (n := 0) (Nat.le_of_ble_eq_true rfl) (Nat.le_of_ble_eq_true rfl) ?_
          exact ro_z hx hb hr rfl hlocks (0) rfl ((show 0 ≤ (0 : Int32).toInt ∧ (0 : Int32).toInt ≤ 1 from (by decide))) (hP.sub [0, 1] rfl) (hD.sub [0, 1] (by decide) rfl) hS dX0_isOf_63
    · skip
      refine lv_iconst (v := 1) hx hb dX0_isOf_17 (by decide) ?_
      refine lv_goto (tgt := 22) hx hb dX0_isOf_18 (by decide) ?_
      refine lv_istore (lv' := [(4, .int 1), (3, .int r_1), (0, .ref h), (1, .int a), (2, .int b)]) hx hb dX0_isOf_22 hl (by decide) rfl (fun ls hl => ?_)
      refine lv_iload hx hb dX0_isOf_24 (lv_at hl 0 rfl) ?_
      refine bi_ne (tgt := 33) (X := 1) hx hb (by decide) dX0_isOf_26 (by decide) (fun c28 => ?_) (fun h => absurd h (by decide))
      refine lv_aload_n hx hb dX0_isOf_33 rfl (lv_at hl 2 rfl) ?_
      refine lv_iload_n hx hb dX0_isOf_34 rfl (lv_at hl 3 rfl) ?_
      refine lv_iconst (v := 1) hx hb dX0_isOf_35 (by decide) ?_
      refine doV (n := 2) (As := [.int a, .int 1]) (rest := []) (wc := [(h, .inr (0, [.int tdeeds, .ref tparts])), (tparts, .inl (cI, 120, .inl t_parts))]) (wr := ([] : va_W)) hx hb hml hown hts hK hP hD hS hA [0, 1] [] rfl rfl rfl rfl (by decide) 0 rfl rfl (k_part l D cI cB cJ cZ cT (h) (tparts) (a) (1) (tdeeds) (t_parts) (by have h9 := i_rng (tdeeds); omega) (by have h9 := i_rng (a); omega) (by decide)) gX0_isOf_X0_part rfl rfl rfl (by decide +kernel) ⟨Nat.le_of_ble_eq_true rfl, Nat.le_of_ble_eq_true rfl⟩ hl.1 rfl rfl (Nat.le_of_ble_eq_true rfl) dX0_isOf_36 ⟨Nat.le_of_ble_eq_true rfl, Nat.le_of_ble_eq_true rfl⟩ (fun u H locs hw hP hD hS => ?_)
      obtain ⟨r_29, rfl⟩ : ∃ z, z = u := ⟨_, rfl⟩
      have hP : va_P D vwCl [(h, .inr (0, [.int tdeeds, .ref tparts])), (tparts, .inl (cI, 120, .inl t_parts))] H := hP
      have hD : va_D A [(h, .inr (0, [.int tdeeds, .ref tparts])), (tparts, .inl (cI, 120, .inl t_parts))] := hD
      refine W.eq (g2 := F0 m 39 ls [.int r_29]) rfl ?_
      replace hw : (R_k_part a (1 : Int32) t_parts r_29) := hw
      replace hw := hid hw
      have hxq_29 := hw
      refine lv_iload_n hx hb dX0_isOf_39 rfl (lv_at hl 4 rfl) ?_
      have hg_r31 := i_rng b
      have hg_r32 := i_rng r_29
      refine bc_eq (tgt := 58) (X := r_29.toInt) (Y := b.toInt) hx hb rfl rfl dX0_isOf_40 (by decide) (fun c33 => ?_) (fun c33 => ?_)
      · skip
        refine lv_iconst (v := 1) hx hb dX0_isOf_58 (by decide) ?_
        refine lv_goto (tgt := 63) hx hb dX0_isOf_59 (by decide) ?_
        refine W.widen (k := 0) (n := 0) (Nat.le_of_ble_eq_true rfl) (Nat.le_of_ble_eq_true rfl) ?_
        exact ro_z hx hb hr rfl hlocks (1) rfl ((show 0 ≤ (1 : Int32).toInt ∧ (1 : Int32).toInt ≤ 1 from (by decide))) (hP.sub [0, 1] rfl) (hD.sub [0, 1] (by decide) rfl) hS dX0_isOf_63
      · skip
        refine lv_iload hx hb dX0_isOf_43 (lv_at hl 0 rfl) ?_
        refine bi_eq (tgt := 62) (X := 1) hx hb (by decide) dX0_isOf_45 (by decide) (fun h => absurd h (by decide)) (fun c34 => ?_)
        refine lv_aload_n hx hb dX0_isOf_48 rfl (lv_at hl 2 rfl) ?_
        refine lv_iload_n hx hb dX0_isOf_49 rfl (lv_at hl 3 rfl) ?_
        refine lv_iconst (v := 2) hx hb dX0_isOf_50 (by decide) ?_
        refine doV (n := 2) (As := [.int a, .int 2]) (rest := []) (wc := [(h, .inr (0, [.int tdeeds, .ref tparts])), (tparts, .inl (cI, 120, .inl t_parts))]) (wr := ([] : va_W)) hx hb hml hown hts hK hP hD hS hA [0, 1] [] rfl rfl rfl rfl (by decide) 0 rfl rfl (k_part l D cI cB cJ cZ cT (h) (tparts) (a) (2) (tdeeds) (t_parts) (by have h9 := i_rng (tdeeds); omega) (by have h9 := i_rng (a); omega) (by decide)) gX0_isOf_X0_part rfl rfl rfl (by decide +kernel) ⟨Nat.le_of_ble_eq_true rfl, Nat.le_of_ble_eq_true rfl⟩ hl.1 rfl rfl (Nat.le_of_ble_eq_true rfl) dX0_isOf_51 ⟨Nat.le_of_ble_eq_true rfl, Nat.le_of_ble_eq_true rfl⟩ (fun u H locs hw hP hD hS => ?_)
        obtain ⟨r_35, rfl⟩ : ∃ z, z = u := ⟨_, rfl⟩
        have hP : va_P D vwCl [(h, .inr (0, [.int tdeeds, .ref tparts])), (tparts, .inl (cI, 120, .inl t_parts))] H := hP
        have hD : va_D A [(h, .inr (0, [.int tdeeds, .ref tparts])), (tparts, .inl (cI, 120, .inl t_parts))] := hD
        refine W.eq (g2 := F0 m 54 ls [.int r_35]) rfl ?_
        replace hw : (R_k_part a (2 : Int32) t_parts r_35) := hw
        replace hw := hid hw
        have hxq_35 := hw
        refine lv_iload_n hx hb dX0_isOf_54 rfl (lv_at hl 4 rfl) ?_
        have hg_r37 := i_rng b
        have hg_r38 := i_rng r_35
        refine bc_ne (tgt := 62) (X := r_35.toInt) (Y := b.toInt) hx hb rfl rfl dX0_isOf_55 (by decide) (fun c39 => ?_) (fun c39 => ?_)
        · skip
          refine lv_iconst (v := 0) hx hb dX0_isOf_62 (by decide) ?_
          refine W.widen (k := 0) (n := 0) (Nat.le_of_ble_eq_true rfl) (Nat.le_of_ble_eq_true rfl) ?_
          exact ro_z hx hb hr rfl hlocks (0) rfl ((show 0 ≤ (0 : Int32).toInt ∧ (0 : Int32).toInt ≤ 1 from (by decide))) (hP.sub [0, 1] rfl) (hD.sub [0, 1] (by decide) rfl) hS dX0_isOf_63
        · skip
          refine lv_iconst (v := 1) hx hb dX0_isOf_58 (by decide) ?_
          refine lv_goto (tgt := 63) hx hb dX0_isOf_59 (by decide) ?_
          refine W.widen (k := 0) (n := 0) (Nat.le_of_ble_eq_true rfl) (Nat.le_of_ble_eq_true rfl) ?_
          exact ro_z hx hb hr rfl hlocks (1) rfl ((show 0 ≤ (1 : Int32).toInt ∧ (1 : Int32).toInt ≤ 1 from (by decide))) (hP.sub [0, 1] rfl) (hD.sub [0, 1] (by decide) rfl) hS dX0_isOf_63
set_option maxHeartbeats 4000000 in
set_option maxRecDepth 100000 in
theorem k_dcopy (l : Launch) (D : va_G) (cI cB cJ cZ cT : ClassId) (h : Nat) (o : Nat) (thalves : Nat) (uhalves : Nat) (tmin : Int32) (umin : Int32) (t_halves : Nat → Int32) (u_halves : Nat → Int32) (h_tmin : 0 ≤ tmin.toInt ∧ tmin.toInt ≤ 6) (h_umin : 0 ≤ umin.toInt ∧ umin.toInt ≤ 6) : Co l yX1_copyFrom wsX1_copyFrom ({ frames := 1, cells := 0, slots := 0, locals := 60 }) D (tyL cI cB cJ cZ cT) [.ref h, .ref o] [(h, .inr (1, [.int tmin, .ref thalves])), (thalves, .inl (cI, 6, .inl t_halves)), (o, .inr (1, [.int umin, .ref uhalves])), (uhalves, .inl (cI, 6, .inl u_halves))] (fun u : (Nat → Int32) => none) (fun u : (Nat → Int32) => (R_k_dcopy u_halves t_halves u)) (fun u : (Nat → Int32) => [(h, .inr (1, [.int umin, .ref thalves])), (thalves, .inl (cI, 6, .inl u)), (o, .inr (1, [.int umin, .ref uhalves])), (uhalves, .inl (cI, 6, .inl u_halves))]) 0 0 := by
  refine entry (cc := cX1_copyFrom) (maxL := 2) (ret := none) (by decide) rfl (Nat.le_of_ble_eq_true rfl) ?_
  intro p e s m below meth c A ls hx hb hr hml hts hown hlocks hname hK hP hD hS hA hl
  have hown : s.vm.findClass RX1 = some m.cls := hown
  have hl : lv_has ls 2 [(0, .ref h), (1, .ref o)] := hl
  refine lv_aload_n hx hb dX1_copyFrom_0 rfl (lv_at hl 0 rfl) ?_
  refine lv_aload_n hx hb dX1_copyFrom_1 rfl (lv_at hl 1 rfl) ?_
  refine va_get (D := D) (ci := 1) (v := .int umin) (C := RX1) (T := TX1) (N := 2) hx hb hts (fun _ h => List.mem_cons_of_mem _ (inAX1 _ h)) hown hK.1 hP 2 rfl rfl 0 (by decide) (hts (.fieldLink RX1 15 "ClapBank$Dark" "minutes" "I") (List.mem_cons_of_mem _ W_23)) (fun _ h9 => h9) rfl dX1_copyFrom_2 ?_
  refine va_put (D := D) (ci := 1) (v := .int umin) (ty := .int) (C := RX1) (T := TX1) (N := 2) hx hb hts (fun _ h => List.mem_cons_of_mem _ (inAX1 _ h)) tyX1 tyX1_ok nmX1 hown hK.1 hP hD hS 0 rfl rfl 0 (by decide) (hts (.fieldLink RX1 15 "ClapBank$Dark" "minutes" "I") (List.mem_cons_of_mem _ W_23)) (fun _ h9 => h9) rfl (by decide +kernel) rfl rfl (Nat.le_of_ble_eq_true rfl) dX1_copyFrom_5 (fun H locs hP hD hS => ?_)
  have hP : va_P D vwCl [(h, .inr (1, [.int umin, .ref thalves])), (thalves, .inl (cI, 6, .inl t_halves)), (o, .inr (1, [.int umin, .ref uhalves])), (uhalves, .inl (cI, 6, .inl u_halves))] H := hP
  have hD : va_D A [(h, .inr (1, [.int umin, .ref thalves])), (thalves, .inl (cI, 6, .inl t_halves)), (o, .inr (1, [.int umin, .ref uhalves])), (uhalves, .inl (cI, 6, .inl u_halves))] := hD
  refine lv_aload_n hx hb dX1_copyFrom_8 rfl (lv_at hl 1 rfl) ?_
  refine va_get (D := D) (ci := 1) (v := .ref uhalves) (C := RX1) (T := TX1) (N := 2) hx hb hts (fun _ h => List.mem_cons_of_mem _ (inAX1 _ h)) hown hK.1 hP 2 rfl rfl 1 (by decide) (hts (.fieldLink RX1 9 "ClapBank$Dark" "halves" "[I") (List.mem_cons_of_mem _ W_21)) (fun _ h9 => h9) rfl dX1_copyFrom_9 ?_
  refine lv_iconst (v := 0) hx hb dX1_copyFrom_12 (by decide) ?_
  refine lv_aload_n hx hb dX1_copyFrom_13 rfl (lv_at hl 0 rfl) ?_
  refine va_get (D := D) (ci := 1) (v := .ref thalves) (C := RX1) (T := TX1) (N := 2) hx hb hts (fun _ h => List.mem_cons_of_mem _ (inAX1 _ h)) hown hK.1 hP 0 rfl rfl 1 (by decide) (hts (.fieldLink RX1 9 "ClapBank$Dark" "halves" "[I") (List.mem_cons_of_mem _ W_21)) (fun _ h9 => h9) rfl dX1_copyFrom_14 ?_
  refine lv_iconst (v := 0) hx hb dX1_copyFrom_17 (by decide) ?_
  refine lv_bipush (v := 6) hx hb dX1_copyFrom_18 (by decide) ?_
  refine va_copyi (ty := .int) hx hb (hml.trans hl.1.symm) hown (hts (.methodLink RX1 19 arraycopyName) (List.mem_cons_of_mem _ W_24)) (hts (.native arraycopyName) (List.mem_cons_of_mem _ W_9)) (hts (.static arraycopyName) (List.mem_cons_of_mem _ W_10)) (hts (.initialized "java/lang/System") (List.mem_cons_of_mem _ W_11)) hK.1 hP hD hS 3 1 0 0 rfl rfl rfl rfl rfl (by decide) (by decide) (by decide) (by decide) (by decide) (fun _ _ => rfl) (Nat.le_of_ble_eq_true rfl) (Nat.le_of_ble_eq_true rfl) dX1_copyFrom_20 (fun H locs hP hD hS => ?_)
  have hP : va_P D vwCl [(h, .inr (1, [.int umin, .ref thalves])), (thalves, .inl (cI, 6, .inl (va_cpy (α := Int32) u_halves t_halves (Int32.toNatClampNeg 0) (Int32.toNatClampNeg 0) (Int32.toNatClampNeg 6)))), (o, .inr (1, [.int umin, .ref uhalves])), (uhalves, .inl (cI, 6, .inl u_halves))] H := hP
  have hD : va_D A [(h, .inr (1, [.int umin, .ref thalves])), (thalves, .inl (cI, 6, .inl (va_cpy (α := Int32) u_halves t_halves (Int32.toNatClampNeg 0) (Int32.toNatClampNeg 0) (Int32.toNatClampNeg 6)))), (o, .inr (1, [.int umin, .ref uhalves])), (uhalves, .inl (cI, 6, .inl u_halves))] := hD
  generalize hu_g1 : (va_cpy (α := Int32) u_halves t_halves (Int32.toNatClampNeg 0) (Int32.toNatClampNeg 0) (Int32.toNatClampNeg 6)) = g1 at hP hD
  refine W.widen (k := 0) (n := 0) (Nat.le_of_ble_eq_true rfl) (Nat.le_of_ble_eq_true rfl) ?_
  exact ro_v hx hb hr hlocks (g1) rfl ((⟨_, hu_g1, rfl⟩)) (hP.sub [0, 1, 2, 3] rfl) (hD.sub [0, 1, 2, 3] (by decide) rfl) hS dX1_copyFrom_23
set_option maxHeartbeats 4000000 in
set_option maxRecDepth 100000 in
theorem k_addMinute (l : Launch) (D : va_G) (cI cB cJ cZ cT : ClassId) (h : Nat) (thalves : Nat) (a : Int32) (tmin : Int32) (t_halves : Nat → Int32) (h_tmin : 0 ≤ tmin.toInt ∧ tmin.toInt ≤ 6) : Co l yX1_addMinute wsX1_addMinute ({ frames := 0, cells := 0, slots := 0, locals := 0 }) D (tyL cI cB cJ cZ cT) [.ref h, .int a] [(h, .inr (1, [.int tmin, .ref thalves])), (thalves, .inl (cI, 6, .inl t_halves))] (fun u : Int32 × (Nat → Int32) => none) (fun u : Int32 × (Nat → Int32) => (1 ≤ u.1.toInt ∧ u.1.toInt ≤ 6) ∧ (R_k_addMinute tmin t_halves a u.1 u.2)) (fun u : Int32 × (Nat → Int32) => [(h, .inr (1, [.int u.1, .ref thalves])), (thalves, .inl (cI, 6, .inl u.2))]) 0 0 := by
  refine entry (cc := cX1_addMinute) (maxL := 2) (ret := none) (by decide) rfl (Nat.le_of_ble_eq_true rfl) ?_
  intro p e s m below meth c A ls hx hb hr hml hts hown hlocks hname hK hP hD hS hA hl
  have hown : s.vm.findClass RX1 = some m.cls := hown
  have hl : lv_has ls 2 [(0, .ref h), (1, .int a)] := hl
  refine lv_aload_n hx hb dX1_addMinute_0 rfl (lv_at hl 0 rfl) ?_
  refine va_get (D := D) (ci := 1) (v := .int tmin) (C := RX1) (T := TX1) (N := 2) hx hb hts (fun _ h => List.mem_cons_of_mem _ (inAX1 _ h)) hown hK.1 hP 0 rfl rfl 0 (by decide) (hts (.fieldLink RX1 15 "ClapBank$Dark" "minutes" "I") (List.mem_cons_of_mem _ W_23)) (fun _ h9 => h9) rfl dX1_addMinute_1 ?_
  refine lv_bipush (v := 6) hx hb dX1_addMinute_4 (by decide) ?_
  refine bc_ge (tgt := 29) (X := tmin.toInt) (Y := 6) hx hb rfl (by decide) dX1_addMinute_6 (by decide) (fun c1 => ?_) (fun c1 => ?_)
  · skip
    refine W.widen (k := 0) (n := 0) (Nat.le_of_ble_eq_true rfl) (Nat.le_of_ble_eq_true rfl) ?_
    exact ro_v hx hb hr hlocks (tmin, t_halves) rfl (⟨(show 1 ≤ (tmin : Int32).toInt ∧ (tmin : Int32).toInt ≤ 6 from (by have h9 := i_rng (tmin); omega)), (Or.inl (⟨c1, ⟨rfl, rfl⟩⟩))⟩) (hP.sub [0, 1] rfl) (hD.sub [0, 1] (by decide) rfl) hS dX1_addMinute_29
  · skip
    refine lv_aload_n hx hb dX1_addMinute_9 rfl (lv_at hl 0 rfl) ?_
    refine va_get (D := D) (ci := 1) (v := .ref thalves) (C := RX1) (T := TX1) (N := 2) hx hb hts (fun _ h => List.mem_cons_of_mem _ (inAX1 _ h)) hown hK.1 hP 0 rfl rfl 1 (by decide) (hts (.fieldLink RX1 9 "ClapBank$Dark" "halves" "[I") (List.mem_cons_of_mem _ W_21)) (fun _ h9 => h9) rfl dX1_addMinute_10 ?_
    refine lv_aload_n hx hb dX1_addMinute_13 rfl (lv_at hl 0 rfl) ?_
    refine va_get (D := D) (ci := 1) (v := .int tmin) (C := RX1) (T := TX1) (N := 2) hx hb hts (fun _ h => List.mem_cons_of_mem _ (inAX1 _ h)) hown hK.1 hP 0 rfl rfl 0 (by decide) (hts (.fieldLink RX1 15 "ClapBank$Dark" "minutes" "I") (List.mem_cons_of_mem _ W_23)) (fun _ h9 => h9) rfl dX1_addMinute_14 ?_
    refine lv_iload_n hx hb dX1_addMinute_17 rfl (lv_at hl 1 rfl) ?_
    refine va_iast hx hb hK.1 hP hD hS 1 0 rfl rfl (i_in (X := tmin.toInt) rfl (by omega) (by omega)) dX1_addMinute_18 (fun H locs hP hD hS => ?_)
    have hP : va_P D vwCl [(h, .inr (1, [.int tmin, .ref thalves])), (thalves, .inl (cI, 6, .inl (upd t_halves (Int32.toNatClampNeg tmin) a)))] H := hP
    have hD : va_D A [(h, .inr (1, [.int tmin, .ref thalves])), (thalves, .inl (cI, 6, .inl (upd t_halves (Int32.toNatClampNeg tmin) a)))] := hD
    generalize hu_g2 : (upd t_halves (Int32.toNatClampNeg tmin) a) = g2 at hP hD
    refine lv_aload_n hx hb dX1_addMinute_19 rfl (lv_at hl 0 rfl) ?_
    refine lv_dup hx hb dX1_addMinute_20 rfl ?_
    refine va_get (D := D) (ci := 1) (v := .int tmin) (C := RX1) (T := TX1) (N := 2) hx hb hts (fun _ h => List.mem_cons_of_mem _ (inAX1 _ h)) hown hK.1 hP 0 rfl rfl 0 (by decide) (hts (.fieldLink RX1 15 "ClapBank$Dark" "minutes" "I") (List.mem_cons_of_mem _ W_23)) (fun _ h9 => h9) rfl dX1_addMinute_21 ?_
    refine lv_iconst (v := 1) hx hb dX1_addMinute_24 (by decide) ?_
    refine lv_iadd hx hb dX1_addMinute_25 ?_
    refine lv_topi (fun z3 ez3 => ?_)
    have iz3 : z3.toInt = tmin.toInt + 1 := by rw [ez3]; exact (i_add (X := tmin.toInt) (Y := 1) rfl (by decide) (by have h8 := i_rng (tmin); have h9 := i_rng (1); omega) (by have h8 := i_rng (tmin); have h9 := i_rng (1); omega)).trans (by omega)
    refine va_put (D := D) (ci := 1) (v := .int z3) (ty := .int) (C := RX1) (T := TX1) (N := 2) hx hb hts (fun _ h => List.mem_cons_of_mem _ (inAX1 _ h)) tyX1 tyX1_ok nmX1 hown hK.1 hP hD hS 0 rfl rfl 0 (by decide) (hts (.fieldLink RX1 15 "ClapBank$Dark" "minutes" "I") (List.mem_cons_of_mem _ W_23)) (fun _ h9 => h9) rfl (by decide +kernel) rfl rfl (Nat.le_of_ble_eq_true rfl) dX1_addMinute_26 (fun H locs hP hD hS => ?_)
    have hP : va_P D vwCl [(h, .inr (1, [.int z3, .ref thalves])), (thalves, .inl (cI, 6, .inl g2))] H := hP
    have hD : va_D A [(h, .inr (1, [.int z3, .ref thalves])), (thalves, .inl (cI, 6, .inl g2))] := hD
    refine W.widen (k := 0) (n := 0) (Nat.le_of_ble_eq_true rfl) (Nat.le_of_ble_eq_true rfl) ?_
    exact ro_v hx hb hr hlocks (z3, g2) rfl (⟨(show 1 ≤ (z3 : Int32).toInt ∧ (z3 : Int32).toInt ≤ 6 from (by have h9 := i_rng (z3); omega)), (Or.inr (⟨c1, ⟨_, hu_g2, ⟨_, ez3, ⟨rfl, rfl⟩⟩⟩⟩))⟩) (hP.sub [0, 1] rfl) (hD.sub [0, 1] (by decide) rfl) hS dX1_addMinute_29
set_option maxHeartbeats 4000000 in
set_option maxRecDepth 100000 in
theorem k_hasMinute (l : Launch) (D : va_G) (cI cB cJ cZ cT : ClassId) (h : Nat) (thalves : Nat) (a : Int32) (tmin : Int32) (h_tmin : 0 ≤ tmin.toInt ∧ tmin.toInt ≤ 6) : Co l yX1_hasMinute wsX1_hasMinute ({ frames := 0, cells := 0, slots := 0, locals := 0 }) D (tyL cI cB cJ cZ cT) [.ref h, .int a] [(h, .inr (1, [.int tmin, .ref thalves]))] (fun u : Int32 => some (.int u)) (fun u : Int32 => ((u = 1 ∧ (0 ≤ a.toInt ∧ a.toInt < tmin.toInt)) ∨ (u = 0 ∧ True)) ∧ (R_k_hasMinute a tmin u)) (fun u : Int32 => [(h, .inr (1, [.int tmin, .ref thalves]))]) 0 0 := by
  refine entry (cc := cX1_hasMinute) (maxL := 2) (ret := (some .boolean)) (by decide) rfl (Nat.le_of_ble_eq_true rfl) ?_
  intro p e s m below meth c A ls hx hb hr hml hts hown hlocks hname hK hP hD hS hA hl
  have hown : s.vm.findClass RX1 = some m.cls := hown
  have hl : lv_has ls 2 [(0, .ref h), (1, .int a)] := hl
  refine lv_iload_n hx hb dX1_hasMinute_0 rfl (lv_at hl 1 rfl) ?_
  refine bi_lt (tgt := 16) (X := a.toInt) hx hb rfl dX1_hasMinute_1 (by decide) (fun c1 => ?_) (fun c1 => ?_)
  · skip
    refine lv_iconst (v := 0) hx hb dX1_hasMinute_16 (by decide) ?_
    refine W.widen (k := 0) (n := 0) (Nat.le_of_ble_eq_true rfl) (Nat.le_of_ble_eq_true rfl) ?_
    exact ro_z hx hb hr rfl hlocks (0) rfl (⟨(Or.inr (⟨rfl, trivial⟩)), (Or.inl (⟨c1, rfl⟩))⟩) (hP.sub [0] rfl) (hD.sub [0] (by decide) rfl) hS dX1_hasMinute_17
  · skip
    refine lv_iload_n hx hb dX1_hasMinute_4 rfl (lv_at hl 1 rfl) ?_
    refine lv_aload_n hx hb dX1_hasMinute_5 rfl (lv_at hl 0 rfl) ?_
    refine va_get (D := D) (ci := 1) (v := .int tmin) (C := RX1) (T := TX1) (N := 2) hx hb hts (fun _ h => List.mem_cons_of_mem _ (inAX1 _ h)) hown hK.1 hP 0 rfl rfl 0 (by decide) (hts (.fieldLink RX1 15 "ClapBank$Dark" "minutes" "I") (List.mem_cons_of_mem _ W_23)) (fun _ h9 => h9) rfl dX1_hasMinute_6 ?_
    have hg_r2 := i_rng a
    refine bc_ge (tgt := 16) (X := a.toInt) (Y := tmin.toInt) hx hb rfl rfl dX1_hasMinute_9 (by decide) (fun c3 => ?_) (fun c3 => ?_)
    · skip
      refine lv_iconst (v := 0) hx hb dX1_hasMinute_16 (by decide) ?_
      refine W.widen (k := 0) (n := 0) (Nat.le_of_ble_eq_true rfl) (Nat.le_of_ble_eq_true rfl) ?_
      exact ro_z hx hb hr rfl hlocks (0) rfl (⟨(Or.inr (⟨rfl, trivial⟩)), (Or.inr (⟨c1, Or.inl (⟨c3, rfl⟩)⟩))⟩) (hP.sub [0] rfl) (hD.sub [0] (by decide) rfl) hS dX1_hasMinute_17
    · skip
      refine lv_iconst (v := 1) hx hb dX1_hasMinute_12 (by decide) ?_
      refine lv_goto (tgt := 17) hx hb dX1_hasMinute_13 (by decide) ?_
      refine W.widen (k := 0) (n := 0) (Nat.le_of_ble_eq_true rfl) (Nat.le_of_ble_eq_true rfl) ?_
      exact ro_z hx hb hr rfl hlocks (1) rfl (⟨(Or.inl (⟨rfl, by omega⟩)), (Or.inr (⟨c1, Or.inr (⟨c3, rfl⟩)⟩))⟩) (hP.sub [0] rfl) (hD.sub [0] (by decide) rfl) hS dX1_hasMinute_17
set_option maxHeartbeats 4000000 in
set_option maxRecDepth 100000 in
theorem k_howMany (l : Launch) (D : va_G) (cI cB cJ cZ cT : ClassId) (h : Nat) (a : Int32) (tlength : Int32) (tfault : Int32) (tplace : Int32) (ttheatres : Int32) (tbooks : Int32) (tdarks : Int32) (ttape : Value) (tfirstTheatre : Value) (tsecondTheatre : Value) (tfirstBook : Value) (tsecondBook : Value) (tfirstDark : Value) (tsecondDark : Value) (h_tlength : 0 ≤ tlength.toInt ∧ tlength.toInt ≤ 600) (h_ttheatres : 0 ≤ ttheatres.toInt ∧ ttheatres.toInt ≤ 2) (h_tbooks : 0 ≤ tbooks.toInt ∧ tbooks.toInt ≤ 2) (h_tdarks : 0 ≤ tdarks.toInt ∧ tdarks.toInt ≤ 2) : Co l yX8_howMany wsX8_howMany ({ frames := 0, cells := 0, slots := 0, locals := 0 }) D (tyL cI cB cJ cZ cT) [.ref h, .int a] [(h, .inr (8, [ttape, .int tlength, .int tfault, .int tplace, .int ttheatres, .int tbooks, .int tdarks, tfirstTheatre, tsecondTheatre, tfirstBook, tsecondBook, tfirstDark, tsecondDark]))] (fun u : Int32 => some (.int u)) (fun u : Int32 => (-2 ≤ u.toInt ∧ u.toInt ≤ 2) ∧ (R_k_howMany a ttheatres tbooks tdarks u)) (fun u : Int32 => [(h, .inr (8, [ttape, .int tlength, .int tfault, .int tplace, .int ttheatres, .int tbooks, .int tdarks, tfirstTheatre, tsecondTheatre, tfirstBook, tsecondBook, tfirstDark, tsecondDark]))]) 0 0 := by
  refine entry (cc := cX8_howMany) (maxL := 2) (ret := (some .int)) (by decide) rfl (Nat.le_of_ble_eq_true rfl) ?_
  intro p e s m below meth c A ls hx hb hr hml hts hown hlocks hname hK hP hD hS hA hl
  have hown : s.vm.findClass RX8 = some m.cls := hown
  have hl : lv_has ls 2 [(0, .ref h), (1, .int a)] := hl
  refine lv_iload_n hx hb dX8_howMany_0 rfl (lv_at hl 1 rfl) ?_
  rcases (by omega : (a.toInt < 0 ∨ 2 < a.toInt) ∨ a.toInt = 0 ∨ a.toInt = 1 ∨ a.toInt = 2) with c1 | c1 | c1 | c1
  · skip
    refine lv_tableOut (tgt := 43) hx hb dX8_howMany_1 c1 (by decide) ?_
    refine lv_bipush (v := (-2)) hx hb dX8_howMany_43 (by decide) ?_
    refine W.widen (k := 0) (n := 0) (Nat.le_of_ble_eq_true rfl) (Nat.le_of_ble_eq_true rfl) ?_
    exact ro_i hx hb hr hlocks ((-2)) rfl (⟨(show -2 ≤ ((-2) : Int32).toInt ∧ ((-2) : Int32).toInt ≤ 2 from (by decide)), (Or.inl (⟨c1, rfl⟩))⟩) (hP.sub [0] rfl) (hD.sub [0] (by decide) rfl) hS dX8_howMany_45
  · skip
    refine lv_tableIn (off := 27) (tgt := 28) hx hb dX8_howMany_1 (by omega) (by omega) (by rw [c1]; rfl) (by decide) ?_
    refine lv_aload_n hx hb dX8_howMany_28 rfl (lv_at hl 0 rfl) ?_
    refine va_get (D := D) (ci := 8) (v := .int ttheatres) (C := RX8) (T := TX8) (N := 13) hx hb hts (fun _ h => List.mem_cons_of_mem _ (inAX8 _ h)) hown hK.1 hP 0 rfl rfl 4 (by decide) (hts (.fieldLink RX8 52 "ClapBank$Told" "theatres" "I") (List.mem_cons_of_mem _ W_460)) (fun _ h9 => h9) rfl dX8_howMany_29 ?_
    refine W.widen (k := 0) (n := 0) (Nat.le_of_ble_eq_true rfl) (Nat.le_of_ble_eq_true rfl) ?_
    exact ro_i hx hb hr hlocks (ttheatres) rfl (⟨(show -2 ≤ (ttheatres : Int32).toInt ∧ (ttheatres : Int32).toInt ≤ 2 from (by have h9 := i_rng (ttheatres); omega)), (Or.inr (Or.inl (⟨c1, rfl⟩)))⟩) (hP.sub [0] rfl) (hD.sub [0] (by decide) rfl) hS dX8_howMany_32
  · skip
    refine lv_tableIn (off := 32) (tgt := 33) hx hb dX8_howMany_1 (by omega) (by omega) (by rw [c1]; rfl) (by decide) ?_
    refine lv_aload_n hx hb dX8_howMany_33 rfl (lv_at hl 0 rfl) ?_
    refine va_get (D := D) (ci := 8) (v := .int tbooks) (C := RX8) (T := TX8) (N := 13) hx hb hts (fun _ h => List.mem_cons_of_mem _ (inAX8 _ h)) hown hK.1 hP 0 rfl rfl 5 (by decide) (hts (.fieldLink RX8 55 "ClapBank$Told" "books" "I") (List.mem_cons_of_mem _ W_461)) (fun _ h9 => h9) rfl dX8_howMany_34 ?_
    refine W.widen (k := 0) (n := 0) (Nat.le_of_ble_eq_true rfl) (Nat.le_of_ble_eq_true rfl) ?_
    exact ro_i hx hb hr hlocks (tbooks) rfl (⟨(show -2 ≤ (tbooks : Int32).toInt ∧ (tbooks : Int32).toInt ≤ 2 from (by have h9 := i_rng (tbooks); omega)), (Or.inr (Or.inr (Or.inl (⟨c1, rfl⟩))))⟩) (hP.sub [0] rfl) (hD.sub [0] (by decide) rfl) hS dX8_howMany_37
  · skip
    refine lv_tableIn (off := 37) (tgt := 38) hx hb dX8_howMany_1 (by omega) (by omega) (by rw [c1]; rfl) (by decide) ?_
    refine lv_aload_n hx hb dX8_howMany_38 rfl (lv_at hl 0 rfl) ?_
    refine va_get (D := D) (ci := 8) (v := .int tdarks) (C := RX8) (T := TX8) (N := 13) hx hb hts (fun _ h => List.mem_cons_of_mem _ (inAX8 _ h)) hown hK.1 hP 0 rfl rfl 6 (by decide) (hts (.fieldLink RX8 58 "ClapBank$Told" "darks" "I") (List.mem_cons_of_mem _ W_462)) (fun _ h9 => h9) rfl dX8_howMany_39 ?_
    refine W.widen (k := 0) (n := 0) (Nat.le_of_ble_eq_true rfl) (Nat.le_of_ble_eq_true rfl) ?_
    exact ro_i hx hb hr hlocks (tdarks) rfl (⟨(show -2 ≤ (tdarks : Int32).toInt ∧ (tdarks : Int32).toInt ≤ 2 from (by have h9 := i_rng (tdarks); omega)), (Or.inr (Or.inr (Or.inr (⟨c1, rfl⟩))))⟩) (hP.sub [0] rfl) (hD.sub [0] (by decide) rfl) hS dX8_howMany_42
set_option maxHeartbeats 4000000 in
set_option maxRecDepth 100000 in
theorem k_theatreAt (l : Launch) (D : va_G) (cI cB cJ cZ cT : ClassId) (h : Nat) (ttape : Nat) (tfirstTheatre : Nat) (tsecondTheatre : Nat) (tfirstBook : Nat) (tsecondBook : Nat) (tfirstDark : Nat) (tsecondDark : Nat) (a : Int32) (tlength : Int32) (tfault : Int32) (tplace : Int32) (ttheatres : Int32) (tbooks : Int32) (tdarks : Int32) (h_tlength : 0 ≤ tlength.toInt ∧ tlength.toInt ≤ 600) (h_ttheatres : 0 ≤ ttheatres.toInt ∧ ttheatres.toInt ≤ 2) (h_tbooks : 0 ≤ tbooks.toInt ∧ tbooks.toInt ≤ 2) (h_tdarks : 0 ≤ tdarks.toInt ∧ tdarks.toInt ≤ 2) : Co l yX8_theatreAt wsX8_theatreAt ({ frames := 0, cells := 0, slots := 0, locals := 0 }) D (tyL cI cB cJ cZ cT) [.ref h, .int a] [(h, .inr (8, [.ref ttape, .int tlength, .int tfault, .int tplace, .int ttheatres, .int tbooks, .int tdarks, .ref tfirstTheatre, .ref tsecondTheatre, .ref tfirstBook, .ref tsecondBook, .ref tfirstDark, .ref tsecondDark]))] (fun u : Value => some (u)) (fun u : Value => ((u = .null ∧ R_k_theatreAt_v0 a ttheatres) ∨ (u = .ref tsecondTheatre ∧ R_k_theatreAt_v1 a ttheatres) ∨ (u = .ref tfirstTheatre ∧ R_k_theatreAt_v2 a ttheatres))) (fun u : Value => [(h, .inr (8, [.ref ttape, .int tlength, .int tfault, .int tplace, .int ttheatres, .int tbooks, .int tdarks, .ref tfirstTheatre, .ref tsecondTheatre, .ref tfirstBook, .ref tsecondBook, .ref tfirstDark, .ref tsecondDark]))]) 0 0 := by
  refine entry (cc := cX8_theatreAt) (maxL := 2) (ret := (some (.object "ClapBank$Theatre"))) (by decide) rfl (Nat.le_of_ble_eq_true rfl) ?_
  intro p e s m below meth c A ls hx hb hr hml hts hown hlocks hname hK hP hD hS hA hl
  have hown : s.vm.findClass RX8 = some m.cls := hown
  have hl : lv_has ls 2 [(0, .ref h), (1, .int a)] := hl
  refine lv_iload_n hx hb dX8_theatreAt_0 rfl (lv_at hl 1 rfl) ?_
  refine bi_lt (tgt := 12) (X := a.toInt) hx hb rfl dX8_theatreAt_1 (by decide) (fun c1 => ?_) (fun c1 => ?_)
  · skip
    refine lv_null hx hb dX8_theatreAt_12 ?_
    refine W.widen (k := 0) (n := 0) (Nat.le_of_ble_eq_true rfl) (Nat.le_of_ble_eq_true rfl) ?_
    exact ro_a hx hb hr (Or.inl rfl) hlocks (.null) rfl ((Or.inl (⟨rfl, (Or.inl (⟨c1, trivial⟩))⟩))) (hP.sub [0] rfl) (hD.sub [0] (by decide) rfl) hS dX8_theatreAt_13
  · skip
    refine lv_iload_n hx hb dX8_theatreAt_4 rfl (lv_at hl 1 rfl) ?_
    refine lv_aload_n hx hb dX8_theatreAt_5 rfl (lv_at hl 0 rfl) ?_
    refine va_get (D := D) (ci := 8) (v := .int ttheatres) (C := RX8) (T := TX8) (N := 13) hx hb hts (fun _ h => List.mem_cons_of_mem _ (inAX8 _ h)) hown hK.1 hP 0 rfl rfl 4 (by decide) (hts (.fieldLink RX8 52 "ClapBank$Told" "theatres" "I") (List.mem_cons_of_mem _ W_460)) (fun _ h9 => h9) rfl dX8_theatreAt_6 ?_
    have hg_r2 := i_rng a
    refine bc_lt (tgt := 14) (X := a.toInt) (Y := ttheatres.toInt) hx hb rfl rfl dX8_theatreAt_9 (by decide) (fun c3 => ?_) (fun c3 => ?_)
    · skip
      refine lv_iload_n hx hb dX8_theatreAt_14 rfl (lv_at hl 1 rfl) ?_
      refine bi_ne (tgt := 25) (X := a.toInt) hx hb rfl dX8_theatreAt_15 (by decide) (fun c4 => ?_) (fun c4 => ?_)
      · skip
        refine lv_aload_n hx hb dX8_theatreAt_25 rfl (lv_at hl 0 rfl) ?_
        refine va_get (D := D) (ci := 8) (v := .ref tsecondTheatre) (C := RX8) (T := TX8) (N := 13) hx hb hts (fun _ h => List.mem_cons_of_mem _ (inAX8 _ h)) hown hK.1 hP 0 rfl rfl 8 (by decide) (hts (.fieldLink RX8 26 "ClapBank$Told" "secondTheatre" "LClapBank$Theatre;") (List.mem_cons_of_mem _ W_450)) (fun _ h9 => h9) rfl dX8_theatreAt_26 ?_
        refine W.widen (k := 0) (n := 0) (Nat.le_of_ble_eq_true rfl) (Nat.le_of_ble_eq_true rfl) ?_
        exact ro_a hx hb hr (Or.inr ⟨_, rfl⟩) hlocks (.ref tsecondTheatre) rfl ((Or.inr (Or.inl (⟨rfl, (Or.inr (⟨c1, Or.inl (⟨c3, Or.inl (⟨c4, trivial⟩)⟩)⟩))⟩)))) (hP.sub [0] rfl) (hD.sub [0] (by decide) rfl) hS dX8_theatreAt_29
      · skip
        refine lv_aload_n hx hb dX8_theatreAt_18 rfl (lv_at hl 0 rfl) ?_
        refine va_get (D := D) (ci := 8) (v := .ref tfirstTheatre) (C := RX8) (T := TX8) (N := 13) hx hb hts (fun _ h => List.mem_cons_of_mem _ (inAX8 _ h)) hown hK.1 hP 0 rfl rfl 7 (by decide) (hts (.fieldLink RX8 22 "ClapBank$Told" "firstTheatre" "LClapBank$Theatre;") (List.mem_cons_of_mem _ W_449)) (fun _ h9 => h9) rfl dX8_theatreAt_19 ?_
        refine lv_goto (tgt := 29) hx hb dX8_theatreAt_22 (by decide) ?_
        refine W.widen (k := 0) (n := 0) (Nat.le_of_ble_eq_true rfl) (Nat.le_of_ble_eq_true rfl) ?_
        exact ro_a hx hb hr (Or.inr ⟨_, rfl⟩) hlocks (.ref tfirstTheatre) rfl ((Or.inr (Or.inr (⟨rfl, (Or.inr (⟨c1, Or.inl (⟨c3, Or.inr (⟨c4, trivial⟩)⟩)⟩))⟩)))) (hP.sub [0] rfl) (hD.sub [0] (by decide) rfl) hS dX8_theatreAt_29
    · skip
      refine lv_null hx hb dX8_theatreAt_12 ?_
      refine W.widen (k := 0) (n := 0) (Nat.le_of_ble_eq_true rfl) (Nat.le_of_ble_eq_true rfl) ?_
      exact ro_a hx hb hr (Or.inl rfl) hlocks (.null) rfl ((Or.inl (⟨rfl, (Or.inr (⟨c1, Or.inr (⟨c3, trivial⟩)⟩))⟩))) (hP.sub [0] rfl) (hD.sub [0] (by decide) rfl) hS dX8_theatreAt_13
set_option maxHeartbeats 4000000 in
set_option maxRecDepth 100000 in
theorem k_bookAt (l : Launch) (D : va_G) (cI cB cJ cZ cT : ClassId) (h : Nat) (ttape : Nat) (tfirstTheatre : Nat) (tsecondTheatre : Nat) (tfirstBook : Nat) (tsecondBook : Nat) (tfirstDark : Nat) (tsecondDark : Nat) (a : Int32) (tlength : Int32) (tfault : Int32) (tplace : Int32) (ttheatres : Int32) (tbooks : Int32) (tdarks : Int32) (h_tlength : 0 ≤ tlength.toInt ∧ tlength.toInt ≤ 600) (h_ttheatres : 0 ≤ ttheatres.toInt ∧ ttheatres.toInt ≤ 2) (h_tbooks : 0 ≤ tbooks.toInt ∧ tbooks.toInt ≤ 2) (h_tdarks : 0 ≤ tdarks.toInt ∧ tdarks.toInt ≤ 2) : Co l yX8_bookAt wsX8_bookAt ({ frames := 0, cells := 0, slots := 0, locals := 0 }) D (tyL cI cB cJ cZ cT) [.ref h, .int a] [(h, .inr (8, [.ref ttape, .int tlength, .int tfault, .int tplace, .int ttheatres, .int tbooks, .int tdarks, .ref tfirstTheatre, .ref tsecondTheatre, .ref tfirstBook, .ref tsecondBook, .ref tfirstDark, .ref tsecondDark]))] (fun u : Value => some (u)) (fun u : Value => ((u = .null ∧ R_k_bookAt_v0 a tbooks) ∨ (u = .ref tsecondBook ∧ R_k_bookAt_v1 a tbooks) ∨ (u = .ref tfirstBook ∧ R_k_bookAt_v2 a tbooks))) (fun u : Value => [(h, .inr (8, [.ref ttape, .int tlength, .int tfault, .int tplace, .int ttheatres, .int tbooks, .int tdarks, .ref tfirstTheatre, .ref tsecondTheatre, .ref tfirstBook, .ref tsecondBook, .ref tfirstDark, .ref tsecondDark]))]) 0 0 := by
  refine entry (cc := cX8_bookAt) (maxL := 2) (ret := (some (.object "ClapBank$Book"))) (by decide) rfl (Nat.le_of_ble_eq_true rfl) ?_
  intro p e s m below meth c A ls hx hb hr hml hts hown hlocks hname hK hP hD hS hA hl
  have hown : s.vm.findClass RX8 = some m.cls := hown
  have hl : lv_has ls 2 [(0, .ref h), (1, .int a)] := hl
  refine lv_iload_n hx hb dX8_bookAt_0 rfl (lv_at hl 1 rfl) ?_
  refine bi_lt (tgt := 12) (X := a.toInt) hx hb rfl dX8_bookAt_1 (by decide) (fun c1 => ?_) (fun c1 => ?_)
  · skip
    refine lv_null hx hb dX8_bookAt_12 ?_
    refine W.widen (k := 0) (n := 0) (Nat.le_of_ble_eq_true rfl) (Nat.le_of_ble_eq_true rfl) ?_
    exact ro_a hx hb hr (Or.inl rfl) hlocks (.null) rfl ((Or.inl (⟨rfl, (Or.inl (⟨c1, trivial⟩))⟩))) (hP.sub [0] rfl) (hD.sub [0] (by decide) rfl) hS dX8_bookAt_13
  · skip
    refine lv_iload_n hx hb dX8_bookAt_4 rfl (lv_at hl 1 rfl) ?_
    refine lv_aload_n hx hb dX8_bookAt_5 rfl (lv_at hl 0 rfl) ?_
    refine va_get (D := D) (ci := 8) (v := .int tbooks) (C := RX8) (T := TX8) (N := 13) hx hb hts (fun _ h => List.mem_cons_of_mem _ (inAX8 _ h)) hown hK.1 hP 0 rfl rfl 5 (by decide) (hts (.fieldLink RX8 55 "ClapBank$Told" "books" "I") (List.mem_cons_of_mem _ W_461)) (fun _ h9 => h9) rfl dX8_bookAt_6 ?_
    have hg_r2 := i_rng a
    refine bc_lt (tgt := 14) (X := a.toInt) (Y := tbooks.toInt) hx hb rfl rfl dX8_bookAt_9 (by decide) (fun c3 => ?_) (fun c3 => ?_)
    · skip
      refine lv_iload_n hx hb dX8_bookAt_14 rfl (lv_at hl 1 rfl) ?_
      refine bi_ne (tgt := 25) (X := a.toInt) hx hb rfl dX8_bookAt_15 (by decide) (fun c4 => ?_) (fun c4 => ?_)
      · skip
        refine lv_aload_n hx hb dX8_bookAt_25 rfl (lv_at hl 0 rfl) ?_
        refine va_get (D := D) (ci := 8) (v := .ref tsecondBook) (C := RX8) (T := TX8) (N := 13) hx hb hts (fun _ h => List.mem_cons_of_mem _ (inAX8 _ h)) hown hK.1 hP 0 rfl rfl 10 (by decide) (hts (.fieldLink RX8 36 "ClapBank$Told" "secondBook" "LClapBank$Book;") (List.mem_cons_of_mem _ W_453)) (fun _ h9 => h9) rfl dX8_bookAt_26 ?_
        refine W.widen (k := 0) (n := 0) (Nat.le_of_ble_eq_true rfl) (Nat.le_of_ble_eq_true rfl) ?_
        exact ro_a hx hb hr (Or.inr ⟨_, rfl⟩) hlocks (.ref tsecondBook) rfl ((Or.inr (Or.inl (⟨rfl, (Or.inr (⟨c1, Or.inl (⟨c3, Or.inl (⟨c4, trivial⟩)⟩)⟩))⟩)))) (hP.sub [0] rfl) (hD.sub [0] (by decide) rfl) hS dX8_bookAt_29
      · skip
        refine lv_aload_n hx hb dX8_bookAt_18 rfl (lv_at hl 0 rfl) ?_
        refine va_get (D := D) (ci := 8) (v := .ref tfirstBook) (C := RX8) (T := TX8) (N := 13) hx hb hts (fun _ h => List.mem_cons_of_mem _ (inAX8 _ h)) hown hK.1 hP 0 rfl rfl 9 (by decide) (hts (.fieldLink RX8 32 "ClapBank$Told" "firstBook" "LClapBank$Book;") (List.mem_cons_of_mem _ W_452)) (fun _ h9 => h9) rfl dX8_bookAt_19 ?_
        refine lv_goto (tgt := 29) hx hb dX8_bookAt_22 (by decide) ?_
        refine W.widen (k := 0) (n := 0) (Nat.le_of_ble_eq_true rfl) (Nat.le_of_ble_eq_true rfl) ?_
        exact ro_a hx hb hr (Or.inr ⟨_, rfl⟩) hlocks (.ref tfirstBook) rfl ((Or.inr (Or.inr (⟨rfl, (Or.inr (⟨c1, Or.inl (⟨c3, Or.inr (⟨c4, trivial⟩)⟩)⟩))⟩)))) (hP.sub [0] rfl) (hD.sub [0] (by decide) rfl) hS dX8_bookAt_29
    · skip
      refine lv_null hx hb dX8_bookAt_12 ?_
      refine W.widen (k := 0) (n := 0) (Nat.le_of_ble_eq_true rfl) (Nat.le_of_ble_eq_true rfl) ?_
      exact ro_a hx hb hr (Or.inl rfl) hlocks (.null) rfl ((Or.inl (⟨rfl, (Or.inr (⟨c1, Or.inr (⟨c3, trivial⟩)⟩))⟩))) (hP.sub [0] rfl) (hD.sub [0] (by decide) rfl) hS dX8_bookAt_13
set_option maxHeartbeats 4000000 in
set_option maxRecDepth 100000 in
theorem k_darkAt (l : Launch) (D : va_G) (cI cB cJ cZ cT : ClassId) (h : Nat) (ttape : Nat) (tfirstTheatre : Nat) (tsecondTheatre : Nat) (tfirstBook : Nat) (tsecondBook : Nat) (tfirstDark : Nat) (tsecondDark : Nat) (a : Int32) (tlength : Int32) (tfault : Int32) (tplace : Int32) (ttheatres : Int32) (tbooks : Int32) (tdarks : Int32) (h_tlength : 0 ≤ tlength.toInt ∧ tlength.toInt ≤ 600) (h_ttheatres : 0 ≤ ttheatres.toInt ∧ ttheatres.toInt ≤ 2) (h_tbooks : 0 ≤ tbooks.toInt ∧ tbooks.toInt ≤ 2) (h_tdarks : 0 ≤ tdarks.toInt ∧ tdarks.toInt ≤ 2) : Co l yX8_darkAt wsX8_darkAt ({ frames := 0, cells := 0, slots := 0, locals := 0 }) D (tyL cI cB cJ cZ cT) [.ref h, .int a] [(h, .inr (8, [.ref ttape, .int tlength, .int tfault, .int tplace, .int ttheatres, .int tbooks, .int tdarks, .ref tfirstTheatre, .ref tsecondTheatre, .ref tfirstBook, .ref tsecondBook, .ref tfirstDark, .ref tsecondDark]))] (fun u : Value => some (u)) (fun u : Value => ((u = .null ∧ R_k_darkAt_v0 a tdarks) ∨ (u = .ref tsecondDark ∧ R_k_darkAt_v1 a tdarks) ∨ (u = .ref tfirstDark ∧ R_k_darkAt_v2 a tdarks))) (fun u : Value => [(h, .inr (8, [.ref ttape, .int tlength, .int tfault, .int tplace, .int ttheatres, .int tbooks, .int tdarks, .ref tfirstTheatre, .ref tsecondTheatre, .ref tfirstBook, .ref tsecondBook, .ref tfirstDark, .ref tsecondDark]))]) 0 0 := by
  refine entry (cc := cX8_darkAt) (maxL := 2) (ret := (some (.object "ClapBank$Dark"))) (by decide) rfl (Nat.le_of_ble_eq_true rfl) ?_
  intro p e s m below meth c A ls hx hb hr hml hts hown hlocks hname hK hP hD hS hA hl
  have hown : s.vm.findClass RX8 = some m.cls := hown
  have hl : lv_has ls 2 [(0, .ref h), (1, .int a)] := hl
  refine lv_iload_n hx hb dX8_darkAt_0 rfl (lv_at hl 1 rfl) ?_
  refine bi_lt (tgt := 12) (X := a.toInt) hx hb rfl dX8_darkAt_1 (by decide) (fun c1 => ?_) (fun c1 => ?_)
  · skip
    refine lv_null hx hb dX8_darkAt_12 ?_
    refine W.widen (k := 0) (n := 0) (Nat.le_of_ble_eq_true rfl) (Nat.le_of_ble_eq_true rfl) ?_
    exact ro_a hx hb hr (Or.inl rfl) hlocks (.null) rfl ((Or.inl (⟨rfl, (Or.inl (⟨c1, trivial⟩))⟩))) (hP.sub [0] rfl) (hD.sub [0] (by decide) rfl) hS dX8_darkAt_13
  · skip
    refine lv_iload_n hx hb dX8_darkAt_4 rfl (lv_at hl 1 rfl) ?_
    refine lv_aload_n hx hb dX8_darkAt_5 rfl (lv_at hl 0 rfl) ?_
    refine va_get (D := D) (ci := 8) (v := .int tdarks) (C := RX8) (T := TX8) (N := 13) hx hb hts (fun _ h => List.mem_cons_of_mem _ (inAX8 _ h)) hown hK.1 hP 0 rfl rfl 6 (by decide) (hts (.fieldLink RX8 58 "ClapBank$Told" "darks" "I") (List.mem_cons_of_mem _ W_462)) (fun _ h9 => h9) rfl dX8_darkAt_6 ?_
    have hg_r2 := i_rng a
    refine bc_lt (tgt := 14) (X := a.toInt) (Y := tdarks.toInt) hx hb rfl rfl dX8_darkAt_9 (by decide) (fun c3 => ?_) (fun c3 => ?_)
    · skip
      refine lv_iload_n hx hb dX8_darkAt_14 rfl (lv_at hl 1 rfl) ?_
      refine bi_ne (tgt := 25) (X := a.toInt) hx hb rfl dX8_darkAt_15 (by decide) (fun c4 => ?_) (fun c4 => ?_)
      · skip
        refine lv_aload_n hx hb dX8_darkAt_25 rfl (lv_at hl 0 rfl) ?_
        refine va_get (D := D) (ci := 8) (v := .ref tsecondDark) (C := RX8) (T := TX8) (N := 13) hx hb hts (fun _ h => List.mem_cons_of_mem _ (inAX8 _ h)) hown hK.1 hP 0 rfl rfl 12 (by decide) (hts (.fieldLink RX8 46 "ClapBank$Told" "secondDark" "LClapBank$Dark;") (List.mem_cons_of_mem _ W_456)) (fun _ h9 => h9) rfl dX8_darkAt_26 ?_
        refine W.widen (k := 0) (n := 0) (Nat.le_of_ble_eq_true rfl) (Nat.le_of_ble_eq_true rfl) ?_
        exact ro_a hx hb hr (Or.inr ⟨_, rfl⟩) hlocks (.ref tsecondDark) rfl ((Or.inr (Or.inl (⟨rfl, (Or.inr (⟨c1, Or.inl (⟨c3, Or.inl (⟨c4, trivial⟩)⟩)⟩))⟩)))) (hP.sub [0] rfl) (hD.sub [0] (by decide) rfl) hS dX8_darkAt_29
      · skip
        refine lv_aload_n hx hb dX8_darkAt_18 rfl (lv_at hl 0 rfl) ?_
        refine va_get (D := D) (ci := 8) (v := .ref tfirstDark) (C := RX8) (T := TX8) (N := 13) hx hb hts (fun _ h => List.mem_cons_of_mem _ (inAX8 _ h)) hown hK.1 hP 0 rfl rfl 11 (by decide) (hts (.fieldLink RX8 42 "ClapBank$Told" "firstDark" "LClapBank$Dark;") (List.mem_cons_of_mem _ W_455)) (fun _ h9 => h9) rfl dX8_darkAt_19 ?_
        refine lv_goto (tgt := 29) hx hb dX8_darkAt_22 (by decide) ?_
        refine W.widen (k := 0) (n := 0) (Nat.le_of_ble_eq_true rfl) (Nat.le_of_ble_eq_true rfl) ?_
        exact ro_a hx hb hr (Or.inr ⟨_, rfl⟩) hlocks (.ref tfirstDark) rfl ((Or.inr (Or.inr (⟨rfl, (Or.inr (⟨c1, Or.inl (⟨c3, Or.inr (⟨c4, trivial⟩)⟩)⟩))⟩)))) (hP.sub [0] rfl) (hD.sub [0] (by decide) rfl) hS dX8_darkAt_29
    · skip
      refine lv_null hx hb dX8_darkAt_12 ?_
      refine W.widen (k := 0) (n := 0) (Nat.le_of_ble_eq_true rfl) (Nat.le_of_ble_eq_true rfl) ?_
      exact ro_a hx hb hr (Or.inl rfl) hlocks (.null) rfl ((Or.inl (⟨rfl, (Or.inr (⟨c1, Or.inr (⟨c3, trivial⟩)⟩))⟩))) (hP.sub [0] rfl) (hD.sub [0] (by decide) rfl) hS dX8_darkAt_13
set_option maxHeartbeats 4000000 in
set_option maxRecDepth 100000 in
theorem k_append (l : Launch) (D : va_G) (cI cB cJ cZ cT : ClassId) (h : Nat) (ttape : Nat) (tfirstTheatre : Nat) (tsecondTheatre : Nat) (tfirstBook : Nat) (tsecondBook : Nat) (tfirstDark : Nat) (tsecondDark : Nat) (a : Int32) (tlength : Int32) (tfault : Int32) (tplace : Int32) (ttheatres : Int32) (tbooks : Int32) (tdarks : Int32) (t_tape : Nat → Int32) (h_tlength : 0 ≤ tlength.toInt ∧ tlength.toInt ≤ 600) (h_ttheatres : 0 ≤ ttheatres.toInt ∧ ttheatres.toInt ≤ 2) (h_tbooks : 0 ≤ tbooks.toInt ∧ tbooks.toInt ≤ 2) (h_tdarks : 0 ≤ tdarks.toInt ∧ tdarks.toInt ≤ 2) (h_t_tape : Ri t_tape (-128) (127)) : Co l yX8_append wsX8_append ({ frames := 0, cells := 0, slots := 0, locals := 0 }) D (tyL cI cB cJ cZ cT) [.ref h, .int a] [(h, .inr (8, [.ref ttape, .int tlength, .int tfault, .int tplace, .int ttheatres, .int tbooks, .int tdarks, .ref tfirstTheatre, .ref tsecondTheatre, .ref tfirstBook, .ref tsecondBook, .ref tfirstDark, .ref tsecondDark])), (ttape, .inl (cB, 600, .inl t_tape))] (fun u : Int32 × (Nat → Int32) => none) (fun u : Int32 × (Nat → Int32) => (0 ≤ u.1.toInt ∧ u.1.toInt ≤ 600) ∧ Ri u.2 (-128) (127) ∧ (R_k_append a tlength t_tape u.1 u.2)) (fun u : Int32 × (Nat → Int32) => [(h, .inr (8, [.ref ttape, .int u.1, .int tfault, .int tplace, .int ttheatres, .int tbooks, .int tdarks, .ref tfirstTheatre, .ref tsecondTheatre, .ref tfirstBook, .ref tsecondBook, .ref tfirstDark, .ref tsecondDark])), (ttape, .inl (cB, 600, .inl u.2))]) 0 0 := by
  refine entry (cc := cX8_append) (maxL := 3) (ret := none) (by decide) rfl (Nat.le_of_ble_eq_true rfl) ?_
  intro p e s m below meth c A ls hx hb hr hml hts hown hlocks hname hK hP hD hS hA hl
  have hown : s.vm.findClass RX8 = some m.cls := hown
  have hl : lv_has ls 3 [(0, .ref h), (1, .int a)] := hl
  refine lv_bipush (v := 24) hx hb dX8_append_0 (by decide) ?_
  refine lv_istore_n (lv' := [(2, .int 24), (0, .ref h), (1, .int a)]) hx hb dX8_append_2 rfl hl (by decide) rfl (fun ls hl => ?_)
  have lp3_0 : ∀ (nf3 : Nat) (l3_2 : Int32) (f3_h_1 : Int32) (a3_ttape : Nat → Int32) (H : Heap) (locs : List Loc) (ls : Array Slot), (-127 ≤ l3_2.toInt ∧ l3_2.toInt ≤ 24) → (0 ≤ f3_h_1.toInt ∧ f3_h_1.toInt ≤ 600) → (Ri a3_ttape (-128) (127)) → (∀ (u0_ : Int32) (u1_ : Nat → Int32), fx (T_k_append_3 a u0_ u1_) nf3 (l3_2, f3_h_1, a3_ttape) → R_k_append a tlength t_tape u0_ u1_) → (l3_2.toInt - (-127) < (nf3 : Int)) → va_P D vwCl [(h, .inr (8, [.ref ttape, .int f3_h_1, .int tfault, .int tplace, .int ttheatres, .int tbooks, .int tdarks, .ref tfirstTheatre, .ref tsecondTheatre, .ref tfirstBook, .ref tsecondBook, .ref tfirstDark, .ref tsecondDark])), (ttape, .inl (cB, 600, .inl a3_ttape))] H → va_D A [(h, .inr (8, [.ref ttape, .int f3_h_1, .int tfault, .int tplace, .int ttheatres, .int tbooks, .int tdarks, .ref tfirstTheatre, .ref tsecondTheatre, .ref tfirstBook, .ref tsecondBook, .ref tfirstDark, .ref tsecondDark])), (ttape, .inl (cB, 600, .inl a3_ttape))] → va_S A s.heap H locs → lv_has ls 3 [(2, .int l3_2), (0, .ref h), (1, .int a)] → W p l e ({ frames := 0, cells := 0, slots := 0, locals := 0 }) s m ([.ref h, .int a] : List Value).toArray below meth c H locs 0 0 (MQ below (Qo (fun u : Int32 × (Nat → Int32) => none) (fun u : Int32 × (Nat → Int32) => (0 ≤ u.1.toInt ∧ u.1.toInt ≤ 600) ∧ Ri u.2 (-128) (127) ∧ (R_k_append a tlength t_tape u.1 u.2)) (BW D A (fun u : Int32 × (Nat → Int32) => [(h, .inr (8, [.ref ttape, .int u.1, .int tfault, .int tplace, .int ttheatres, .int tbooks, .int tdarks, .ref tfirstTheatre, .ref tsecondTheatre, .ref tfirstBook, .ref tsecondBook, .ref tfirstDark, .ref tsecondDark])), (ttape, .inl (cB, 600, .inl u.2))])) A) ([.ref h, .int a] : List Value).toArray s 0 0 A) (F0 m 3 ls []) := by
    intro nf3
    induction nf3 with
    | zero => intro l3_2 f3_h_1 a3_ttape H locs ls h_l3_2 h_f3_h_1 hr_a3_ttape hF3_0 hm3; exact absurd hm3 (by omega)
    | succ nf3 ih3 =>
      intro l3_2 f3_h_1 a3_ttape H locs ls h_l3_2 h_f3_h_1 hr_a3_ttape hF3_0 hm3 hP hD hS hl
      refine lv_iload_n hx hb dX8_append_3 rfl (lv_at hl 0 rfl) ?_
      refine bi_lt (tgt := 46) (X := l3_2.toInt) hx hb rfl dX8_append_4 (by decide) (fun c2 => ?_) (fun c2 => ?_)
      · skip
        refine W.widen (k := 0) (n := 0) (Nat.le_of_ble_eq_true rfl) (Nat.le_of_ble_eq_true rfl) ?_
        exact ro_v hx hb hr hlocks (f3_h_1, a3_ttape) rfl (⟨(show 0 ≤ (f3_h_1 : Int32).toInt ∧ (f3_h_1 : Int32).toInt ≤ 600 from (by have h9 := i_rng (f3_h_1); omega)), hr_a3_ttape, (hF3_0 _ _ (fx_s (Or.inl (⟨c2, ⟨rfl, rfl⟩⟩))))⟩) (hP.sub [0, 1] rfl) (hD.sub [0, 1] (by decide) rfl) hS dX8_append_46
      · skip
        refine lv_aload_n hx hb dX8_append_7 rfl (lv_at hl 1 rfl) ?_
        refine va_get (D := D) (ci := 8) (v := .int f3_h_1) (C := RX8) (T := TX8) (N := 13) hx hb hts (fun _ h => List.mem_cons_of_mem _ (inAX8 _ h)) hown hK.1 hP 0 rfl rfl 1 (by decide) (hts (.fieldLink RX8 49 "ClapBank$Told" "length" "I") (List.mem_cons_of_mem _ W_458)) (fun _ h9 => h9) rfl dX8_append_8 ?_
        refine lv_sipush (v := 600) hx hb dX8_append_11 (by decide) ?_
        refine bc_ge (tgt := 46) (X := f3_h_1.toInt) (Y := 600) hx hb rfl (by decide) dX8_append_14 (by decide) (fun c3 => ?_) (fun c3 => ?_)
        · skip
          refine W.widen (k := 0) (n := 0) (Nat.le_of_ble_eq_true rfl) (Nat.le_of_ble_eq_true rfl) ?_
          exact ro_v hx hb hr hlocks (f3_h_1, a3_ttape) rfl (⟨(show 0 ≤ (f3_h_1 : Int32).toInt ∧ (f3_h_1 : Int32).toInt ≤ 600 from (by have h9 := i_rng (f3_h_1); omega)), hr_a3_ttape, (hF3_0 _ _ (fx_s (Or.inr (⟨c2, Or.inl (⟨c3, ⟨rfl, rfl⟩⟩)⟩))))⟩) (hP.sub [0, 1] rfl) (hD.sub [0, 1] (by decide) rfl) hS dX8_append_46
        · skip
          refine lv_aload_n hx hb dX8_append_17 rfl (lv_at hl 1 rfl) ?_
          refine va_get (D := D) (ci := 8) (v := .ref ttape) (C := RX8) (T := TX8) (N := 13) hx hb hts (fun _ h => List.mem_cons_of_mem _ (inAX8 _ h)) hown hK.1 hP 0 rfl rfl 0 (by decide) (hts (.fieldLink RX8 9 "ClapBank$Told" "tape" "[B") (List.mem_cons_of_mem _ W_446)) (fun _ h9 => h9) rfl dX8_append_18 ?_
          refine lv_aload_n hx hb dX8_append_21 rfl (lv_at hl 1 rfl) ?_
          refine va_get (D := D) (ci := 8) (v := .int f3_h_1) (C := RX8) (T := TX8) (N := 13) hx hb hts (fun _ h => List.mem_cons_of_mem _ (inAX8 _ h)) hown hK.1 hP 0 rfl rfl 1 (by decide) (hts (.fieldLink RX8 49 "ClapBank$Told" "length" "I") (List.mem_cons_of_mem _ W_458)) (fun _ h9 => h9) rfl dX8_append_22 ?_
          refine lv_iload_n hx hb dX8_append_25 rfl (lv_at hl 2 rfl) ?_
          refine lv_iload_n hx hb dX8_append_26 rfl (lv_at hl 0 rfl) ?_
          refine lv_iushr hx hb dX8_append_27 rfl ?_
          refine lv_topi (fun z4 ez4 => ?_)
          refine lv_i2b hx hb dX8_append_28 rfl ?_
          refine lv_topi (fun z5 ez5 => ?_)
          refine va_bast hx hb hK.1 hP hD hS 1 1 rfl rfl (i_in (X := f3_h_1.toInt) rfl (by omega) (by omega)) dX8_append_29 (fun H locs hP hD hS => ?_)
          have hP : va_P D vwCl [(h, .inr (8, [.ref ttape, .int f3_h_1, .int tfault, .int tplace, .int ttheatres, .int tbooks, .int tdarks, .ref tfirstTheatre, .ref tsecondTheatre, .ref tfirstBook, .ref tsecondBook, .ref tfirstDark, .ref tsecondDark])), (ttape, .inl (cB, 600, .inl (upd a3_ttape (Int32.toNatClampNeg f3_h_1) (vp_nar .byte z5))))] H := hP
          have hD : va_D A [(h, .inr (8, [.ref ttape, .int f3_h_1, .int tfault, .int tplace, .int ttheatres, .int tbooks, .int tdarks, .ref tfirstTheatre, .ref tsecondTheatre, .ref tfirstBook, .ref tsecondBook, .ref tfirstDark, .ref tsecondDark])), (ttape, .inl (cB, 600, .inl (upd a3_ttape (Int32.toNatClampNeg f3_h_1) (vp_nar .byte z5))))] := hD
          have hr_g6 : Ri (upd a3_ttape (Int32.toNatClampNeg f3_h_1) (vp_nar .byte z5)) (-128) (127) := Ri_upd hr_a3_ttape (byte_rng _)
          generalize hu_g6 : (upd a3_ttape (Int32.toNatClampNeg f3_h_1) (vp_nar .byte z5)) = g6 at hP hD hr_g6
          refine lv_aload_n hx hb dX8_append_30 rfl (lv_at hl 1 rfl) ?_
          refine lv_dup hx hb dX8_append_31 rfl ?_
          refine va_get (D := D) (ci := 8) (v := .int f3_h_1) (C := RX8) (T := TX8) (N := 13) hx hb hts (fun _ h => List.mem_cons_of_mem _ (inAX8 _ h)) hown hK.1 hP 0 rfl rfl 1 (by decide) (hts (.fieldLink RX8 49 "ClapBank$Told" "length" "I") (List.mem_cons_of_mem _ W_458)) (fun _ h9 => h9) rfl dX8_append_32 ?_
          refine lv_iconst (v := 1) hx hb dX8_append_35 (by decide) ?_
          refine lv_iadd hx hb dX8_append_36 ?_
          refine lv_topi (fun z7 ez7 => ?_)
          have iz7 : z7.toInt = f3_h_1.toInt + 1 := by rw [ez7]; exact (i_add (X := f3_h_1.toInt) (Y := 1) rfl (by decide) (by have h8 := i_rng (f3_h_1); have h9 := i_rng (1); omega) (by have h8 := i_rng (f3_h_1); have h9 := i_rng (1); omega)).trans (by omega)
          refine va_put (D := D) (ci := 8) (v := .int z7) (ty := .int) (C := RX8) (T := TX8) (N := 13) hx hb hts (fun _ h => List.mem_cons_of_mem _ (inAX8 _ h)) tyX8 tyX8_ok nmX8 hown hK.1 hP hD hS 0 rfl rfl 1 (by decide) (hts (.fieldLink RX8 49 "ClapBank$Told" "length" "I") (List.mem_cons_of_mem _ W_458)) (fun _ h9 => h9) rfl (by decide +kernel) rfl rfl (Nat.le_of_ble_eq_true rfl) dX8_append_37 (fun H locs hP hD hS => ?_)
          have hP : va_P D vwCl [(h, .inr (8, [.ref ttape, .int z7, .int tfault, .int tplace, .int ttheatres, .int tbooks, .int tdarks, .ref tfirstTheatre, .ref tsecondTheatre, .ref tfirstBook, .ref tsecondBook, .ref tfirstDark, .ref tsecondDark])), (ttape, .inl (cB, 600, .inl g6))] H := hP
          have hD : va_D A [(h, .inr (8, [.ref ttape, .int z7, .int tfault, .int tplace, .int ttheatres, .int tbooks, .int tdarks, .ref tfirstTheatre, .ref tsecondTheatre, .ref tfirstBook, .ref tsecondBook, .ref tfirstDark, .ref tsecondDark])), (ttape, .inl (cB, 600, .inl g6))] := hD
          obtain ⟨z8, ez8⟩ : ∃ y : Int32, y = l3_2 + (-8) := ⟨_, rfl⟩
          have iz8 : z8.toInt = l3_2.toInt - 8 := by rw [ez8]; exact (i_add (X := l3_2.toInt) (Y := -8) rfl (by decide) (by have h8 := i_rng (l3_2); have h9 := i_rng ((-8)); omega) (by have h8 := i_rng (l3_2); have h9 := i_rng ((-8)); omega)).trans (by omega)
          refine lv_iinc (v := z8) (lv' := [(2, .int z8), (0, .ref h), (1, .int a)]) hx hb dX8_append_40 hl (k := 0) rfl (by rw [ez8]; rfl) (by decide) rfl (fun ls hl => ?_)
          refine lv_goto (tgt := 3) hx hb dX8_append_43 (by decide) ?_
          exact ih3 (z8) (z7) (g6) _ _ _ (by have h9 := i_rng (z8); omega) (by have h9 := i_rng (z7); omega) hr_g6 (fun _ _ hf_ => (hF3_0 _ _ (fx_s (Or.inr (⟨c2, Or.inr (⟨c3, ⟨_, ez4, ⟨_, ez5, ⟨_, hu_g6, ⟨_, ez7, ⟨_, ez8, hf_⟩⟩⟩⟩⟩⟩)⟩))))) (by first | omega | decide) (hP.sub [0, 1] rfl) (hD.sub [0, 1] (by decide) rfl) hS (lv_sub hl [0, 1, 2] rfl)
  exact lp3_0 153 (24) (tlength) (t_tape) _ _ _ (by decide) (by have h9 := i_rng (tlength); omega) h_t_tape (fun _ _ hf_ => (hf_)) (by first | omega | decide) (hP.sub [0, 1] rfl) (hD.sub [0, 1] (by decide) rfl) hS (lv_sub hl [0, 1, 2] rfl)
