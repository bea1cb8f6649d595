set_option maxHeartbeats 4000000 in
set_option maxRecDepth 100000 in
theorem k_listen (l : Launch) (D : va_G) (cI cB cJ cZ cT : ClassId) (h : Nat) (t : Nat) (o : Nat) (ghalvesOf : Nat) (gonceOf : Nat) (tclaps : Nat) (thands : Nat) (thunger : Nat) (tsaved : Nat) (tasks : Nat) (tfloors : Nat) (gsets : Int32) (gany : Int32) (gall : Int32) (tpalms : Int32) (tactors : Int32) (tusurers : Int32) (trate : Int32) (tchest : Int32) (tborrowers : Int32) (ghouse : Value) (gdark : Value) (gearly : Value) (glate : Value) (g_halvesOf : Nat → Int32) (g_onceOf : Nat → Int32) (t_claps : Nat → Int32) (t_hands : Nat → Int32) (t_hunger : Nat → Int32) (t_saved : Nat → Int32) (t_asks : Nat → Int32) (t_floors : Nat → Int32) (h_tpalms : 0 ≤ tpalms.toInt ∧ tpalms.toInt ≤ 5) (h_tactors : 0 ≤ tactors.toInt ∧ tactors.toInt ≤ 6) (h_tusurers : 0 ≤ tusurers.toInt ∧ tusurers.toInt ≤ 4) : Co l yX4_listen wsX4_listen ({ frames := 0, cells := 0, slots := 0, locals := 0 }) D (tyL cI cB cJ cZ cT) [.ref h, .ref t, .ref o] [(h, .inr (4, [ghouse, gdark, gearly, glate, .ref ghalvesOf, .ref gonceOf, .int gsets, .int gany, .int gall])), (ghalvesOf, .inl (cI, 32, .inl g_halvesOf)), (gonceOf, .inl (cI, 32, .inl g_onceOf)), (t, .inr (7, [.int tpalms, .ref tclaps, .ref thands, .int tactors, .ref thunger, .ref tsaved, .int tusurers, .ref tasks, .ref tfloors, .int trate, .int tchest, .int tborrowers])), (tclaps, .inl (cI, 5, .inl t_claps)), (thands, .inl (cI, 5, .inl t_hands)), (thunger, .inl (cI, 6, .inl t_hunger)), (tsaved, .inl (cI, 6, .inl t_saved)), (tasks, .inl (cI, 4, .inl t_asks)), (tfloors, .inl (cI, 4, .inl t_floors))] (fun u : Int32 × (Nat → Int32) × (Nat → Int32) => none) (fun u : Int32 × (Nat → Int32) × (Nat → Int32) => (1 ≤ u.1.toInt ∧ u.1.toInt ≤ 32) ∧ (On u.1.toInt 1024 u.2.2) ∧ (R_k_listen g_halvesOf g_onceOf tpalms t_hands u.1 u.2.1 u.2.2)) (fun u : Int32 × (Nat → Int32) × (Nat → Int32) => [(h, .inr (4, [.ref t, .ref o, gearly, glate, .ref ghalvesOf, .ref gonceOf, .int u.1, .int gany, .int gall])), (ghalvesOf, .inl (cI, 32, .inl u.2.1)), (gonceOf, .inl (cI, 32, .inl u.2.2)), (t, .inr (7, [.int tpalms, .ref tclaps, .ref thands, .int tactors, .ref thunger, .ref tsaved, .int tusurers, .ref tasks, .ref tfloors, .int trate, .int tchest, .int tborrowers])), (tclaps, .inl (cI, 5, .inl t_claps)), (thands, .inl (cI, 5, .inl t_hands)), (thunger, .inl (cI, 6, .inl t_hunger)), (tsaved, .inl (cI, 6, .inl t_saved)), (tasks, .inl (cI, 4, .inl t_asks)), (tfloors, .inl (cI, 4, .inl t_floors))]) 0 0 := by
  refine entry (cc := cX4_listen) (maxL := 5) (ret := none) (by decide) rfl (Nat.le_of_ble_eq_true rfl) ?_
  intro p e s m below meth c A ls hx hb hr hml hts hown hlocks hname hK hP hD hS hA hl
  have hown : s.vm.findClass RX4 = some m.cls := hown
  have hl : lv_has ls 5 [(0, .ref h), (1, .ref t), (2, .ref o)] := hl
  refine lv_aload_n hx hb dX4_listen_0 rfl (lv_at hl 0 rfl) ?_
  refine lv_aload_n hx hb dX4_listen_1 rfl (lv_at hl 1 rfl) ?_
  refine va_put (D := D) (ci := 4) (v := .ref t) (ty := (.object "ClapBank$Theatre")) (C := RX4) (T := TX4) (N := 9) hx hb hts (fun _ h => List.mem_cons_of_mem _ (inAX4 _ h)) tyX4 tyX4_ok nmX4 hown hK.1 hP hD hS 0 rfl rfl 0 (by decide) (hts (.fieldLink RX4 12 "ClapBank$Hearing" "house" "LClapBank$Theatre;") (List.mem_cons_of_mem _ W_221)) (fun _ h9 => h9) rfl (by decide +kernel) rfl rfl (Nat.le_of_ble_eq_true rfl) dX4_listen_2 (fun H locs hP hD hS => ?_)
  have hP : va_P D vwCl [(h, .inr (4, [.ref t, gdark, gearly, glate, .ref ghalvesOf, .ref gonceOf, .int gsets, .int gany, .int gall])), (ghalvesOf, .inl (cI, 32, .inl g_halvesOf)), (gonceOf, .inl (cI, 32, .inl g_onceOf)), (t, .inr (7, [.int tpalms, .ref tclaps, .ref thands, .int tactors, .ref thunger, .ref tsaved, .int tusurers, .ref tasks, .ref tfloors, .int trate, .int tchest, .int tborrowers])), (tclaps, .inl (cI, 5, .inl t_claps)), (thands, .inl (cI, 5, .inl t_hands)), (thunger, .inl (cI, 6, .inl t_hunger)), (tsaved, .inl (cI, 6, .inl t_saved)), (tasks, .inl (cI, 4, .inl t_asks)), (tfloors, .inl (cI, 4, .inl t_floors))] H := hP
  have hD : va_D A [(h, .inr (4, [.ref t, gdark, gearly, glate, .ref ghalvesOf, .ref gonceOf, .int gsets, .int gany, .int gall])), (ghalvesOf, .inl (cI, 32, .inl g_halvesOf)), (gonceOf, .inl (cI, 32, .inl g_onceOf)), (t, .inr (7, [.int tpalms, .ref tclaps, .ref thands, .int tactors, .ref thunger, .ref tsaved, .int tusurers, .ref tasks, .ref tfloors, .int trate, .int tchest, .int tborrowers])), (tclaps, .inl (cI, 5, .inl t_claps)), (thands, .inl (cI, 5, .inl t_hands)), (thunger, .inl (cI, 6, .inl t_hunger)), (tsaved, .inl (cI, 6, .inl t_saved)), (tasks, .inl (cI, 4, .inl t_asks)), (tfloors, .inl (cI, 4, .inl t_floors))] := hD
  refine lv_aload_n hx hb dX4_listen_5 rfl (lv_at hl 0 rfl) ?_
  refine lv_aload_n hx hb dX4_listen_6 rfl (lv_at hl 2 rfl) ?_
  refine va_put (D := D) (ci := 4) (v := .ref o) (ty := (.object "ClapBank$Dark")) (C := RX4) (T := TX4) (N := 9) hx hb hts (fun _ h => List.mem_cons_of_mem _ (inAX4 _ h)) tyX4 tyX4_ok nmX4 hown hK.1 hP hD hS 0 rfl rfl 1 (by decide) (hts (.fieldLink RX4 21 "ClapBank$Hearing" "dark" "LClapBank$Dark;") (List.mem_cons_of_mem _ W_225)) (fun _ h9 => h9) rfl (by decide +kernel) rfl rfl (Nat.le_of_ble_eq_true rfl) dX4_listen_7 (fun H locs hP hD hS => ?_)
  have hP : va_P D vwCl [(h, .inr (4, [.ref t, .ref o, gearly, glate, .ref ghalvesOf, .ref gonceOf, .int gsets, .int gany, .int gall])), (ghalvesOf, .inl (cI, 32, .inl g_halvesOf)), (gonceOf, .inl (cI, 32, .inl g_onceOf)), (t, .inr (7, [.int tpalms, .ref tclaps, .ref thands, .int tactors, .ref thunger, .ref tsaved, .int tusurers, .ref tasks, .ref tfloors, .int trate, .int tchest, .int tborrowers])), (tclaps, .inl (cI, 5, .inl t_claps)), (thands, .inl (cI, 5, .inl t_hands)), (thunger, .inl (cI, 6, .inl t_hunger)), (tsaved, .inl (cI, 6, .inl t_saved)), (tasks, .inl (cI, 4, .inl t_asks)), (tfloors, .inl (cI, 4, .inl t_floors))] H := hP
  have hD : va_D A [(h, .inr (4, [.ref t, .ref o, gearly, glate, .ref ghalvesOf, .ref gonceOf, .int gsets, .int gany, .int gall])), (ghalvesOf, .inl (cI, 32, .inl g_halvesOf)), (gonceOf, .inl (cI, 32, .inl g_onceOf)), (t, .inr (7, [.int tpalms, .ref tclaps, .ref thands, .int tactors, .ref thunger, .ref tsaved, .int tusurers, .ref tasks, .ref tfloors, .int trate, .int tchest, .int tborrowers])), (tclaps, .inl (cI, 5, .inl t_claps)), (thands, .inl (cI, 5, .inl t_hands)), (thunger, .inl (cI, 6, .inl t_hunger)), (tsaved, .inl (cI, 6, .inl t_saved)), (tasks, .inl (cI, 4, .inl t_asks)), (tfloors, .inl (cI, 4, .inl t_floors))] := hD
  refine lv_aload_n hx hb dX4_listen_10 rfl (lv_at hl 0 rfl) ?_
  refine lv_iconst (v := 1) hx hb dX4_listen_11 (by decide) ?_
  refine va_put (D := D) (ci := 4) (v := .int 1) (ty := .int) (C := RX4) (T := TX4) (N := 9) hx hb hts (fun _ h => List.mem_cons_of_mem _ (inAX4 _ h)) tyX4 tyX4_ok nmX4 hown hK.1 hP hD hS 0 rfl rfl 6 (by decide) (hts (.fieldLink RX4 38 "ClapBank$Hearing" "sets" "I") (List.mem_cons_of_mem _ W_232)) (fun _ h9 => h9) rfl (by decide +kernel) rfl rfl (Nat.le_of_ble_eq_true rfl) dX4_listen_12 (fun H locs hP hD hS => ?_)
  have hP : va_P D vwCl [(h, .inr (4, [.ref t, .ref o, gearly, glate, .ref ghalvesOf, .ref gonceOf, .int 1, .int gany, .int gall])), (ghalvesOf, .inl (cI, 32, .inl g_halvesOf)), (gonceOf, .inl (cI, 32, .inl g_onceOf)), (t, .inr (7, [.int tpalms, .ref tclaps, .ref thands, .int tactors, .ref thunger, .ref tsaved, .int tusurers, .ref tasks, .ref tfloors, .int trate, .int tchest, .int tborrowers])), (tclaps, .inl (cI, 5, .inl t_claps)), (thands, .inl (cI, 5, .inl t_hands)), (thunger, .inl (cI, 6, .inl t_hunger)), (tsaved, .inl (cI, 6, .inl t_saved)), (tasks, .inl (cI, 4, .inl t_asks)), (tfloors, .inl (cI, 4, .inl t_floors))] H := hP
  have hD : va_D A [(h, .inr (4, [.ref t, .ref o, gearly, glate, .ref ghalvesOf, .ref gonceOf, .int 1, .int gany, .int gall])), (ghalvesOf, .inl (cI, 32, .inl g_halvesOf)), (gonceOf, .inl (cI, 32, .inl g_onceOf)), (t, .inr (7, [.int tpalms, .ref tclaps, .ref thands, .int tactors, .ref thunger, .ref tsaved, .int tusurers, .ref tasks, .ref tfloors, .int trate, .int tchest, .int tborrowers])), (tclaps, .inl (cI, 5, .inl t_claps)), (thands, .inl (cI, 5, .inl t_hands)), (thunger, .inl (cI, 6, .inl t_hunger)), (tsaved, .inl (cI, 6, .inl t_saved)), (tasks, .inl (cI, 4, .inl t_asks)), (tfloors, .inl (cI, 4, .inl t_floors))] := hD
  refine lv_aload_n hx hb dX4_listen_15 rfl (lv_at hl 0 rfl) ?_
  refine va_get (D := D) (ci := 4) (v := .ref ghalvesOf) (C := RX4) (T := TX4) (N := 9) hx hb hts (fun _ h => List.mem_cons_of_mem _ (inAX4 _ h)) hown hK.1 hP 0 rfl rfl 4 (by decide) (hts (.fieldLink RX4 32 "ClapBank$Hearing" "halvesOf" "[I") (List.mem_cons_of_mem _ W_228)) (fun _ h9 => h9) rfl dX4_listen_16 ?_
  refine lv_iconst (v := 0) hx hb dX4_listen_19 (by decide) ?_
  refine lv_iconst (v := 0) hx hb dX4_listen_20 (by decide) ?_
  refine va_iast hx hb hK.1 hP hD hS 1 0 rfl rfl (i_in (X := 0) (by decide) (by decide) (by decide)) dX4_listen_21 (fun H locs hP hD hS => ?_)
  have hP : va_P D vwCl [(h, .inr (4, [.ref t, .ref o, gearly, glate, .ref ghalvesOf, .ref gonceOf, .int 1, .int gany, .int gall])), (ghalvesOf, .inl (cI, 32, .inl (upd g_halvesOf (Int32.toNatClampNeg 0) 0))), (gonceOf, .inl (cI, 32, .inl g_onceOf)), (t, .inr (7, [.int tpalms, .ref tclaps, .ref thands, .int tactors, .ref thunger, .ref tsaved, .int tusurers, .ref tasks, .ref tfloors, .int trate, .int tchest, .int tborrowers])), (tclaps, .inl (cI, 5, .inl t_claps)), (thands, .inl (cI, 5, .inl t_hands)), (thunger, .inl (cI, 6, .inl t_hunger)), (tsaved, .inl (cI, 6, .inl t_saved)), (tasks, .inl (cI, 4, .inl t_asks)), (tfloors, .inl (cI, 4, .inl t_floors))] H := hP
  have hD : va_D A [(h, .inr (4, [.ref t, .ref o, gearly, glate, .ref ghalvesOf, .ref gonceOf, .int 1, .int gany, .int gall])), (ghalvesOf, .inl (cI, 32, .inl (upd g_halvesOf (Int32.toNatClampNeg 0) 0))), (gonceOf, .inl (cI, 32, .inl g_onceOf)), (t, .inr (7, [.int tpalms, .ref tclaps, .ref thands, .int tactors, .ref thunger, .ref tsaved, .int tusurers, .ref tasks, .ref tfloors, .int trate, .int tchest, .int tborrowers])), (tclaps, .inl (cI, 5, .inl t_claps)), (thands, .inl (cI, 5, .inl t_hands)), (thunger, .inl (cI, 6, .inl t_hunger)), (tsaved, .inl (cI, 6, .inl t_saved)), (tasks, .inl (cI, 4, .inl t_asks)), (tfloors, .inl (cI, 4, .inl t_floors))] := hD
  generalize hu_g1 : (upd g_halvesOf (Int32.toNatClampNeg 0) 0) = g1 at hP hD
  refine lv_aload_n hx hb dX4_listen_22 rfl (lv_at hl 0 rfl) ?_
  refine va_get (D := D) (ci := 4) (v := .ref gonceOf) (C := RX4) (T := TX4) (N := 9) hx hb hts (fun _ h => List.mem_cons_of_mem _ (inAX4 _ h)) hown hK.1 hP 0 rfl rfl 5 (by decide) (hts (.fieldLink RX4 35 "ClapBank$Hearing" "onceOf" "[I") (List.mem_cons_of_mem _ W_229)) (fun _ h9 => h9) rfl dX4_listen_23 ?_
  refine lv_iconst (v := 0) hx hb dX4_listen_26 (by decide) ?_
  refine lv_iconst (v := 0) hx hb dX4_listen_27 (by decide) ?_
  refine va_iast hx hb hK.1 hP hD hS 2 0 rfl rfl (i_in (X := 0) (by decide) (by decide) (by decide)) dX4_listen_28 (fun H locs hP hD hS => ?_)
  have hP : va_P D vwCl [(h, .inr (4, [.ref t, .ref o, gearly, glate, .ref ghalvesOf, .ref gonceOf, .int 1, .int gany, .int gall])), (ghalvesOf, .inl (cI, 32, .inl g1)), (gonceOf, .inl (cI, 32, .inl (upd g_onceOf (Int32.toNatClampNeg 0) 0))), (t, .inr (7, [.int tpalms, .ref tclaps, .ref thands, .int tactors, .ref thunger, .ref tsaved, .int tusurers, .ref tasks, .ref tfloors, .int trate, .int tchest, .int tborrowers])), (tclaps, .inl (cI, 5, .inl t_claps)), (thands, .inl (cI, 5, .inl t_hands)), (thunger, .inl (cI, 6, .inl t_hunger)), (tsaved, .inl (cI, 6, .inl t_saved)), (tasks, .inl (cI, 4, .inl t_asks)), (tfloors, .inl (cI, 4, .inl t_floors))] H := hP
  have hD : va_D A [(h, .inr (4, [.ref t, .ref o, gearly, glate, .ref ghalvesOf, .ref gonceOf, .int 1, .int gany, .int gall])), (ghalvesOf, .inl (cI, 32, .inl g1)), (gonceOf, .inl (cI, 32, .inl (upd g_onceOf (Int32.toNatClampNeg 0) 0))), (t, .inr (7, [.int tpalms, .ref tclaps, .ref thands, .int tactors, .ref thunger, .ref tsaved, .int tusurers, .ref tasks, .ref tfloors, .int trate, .int tchest, .int tborrowers])), (tclaps, .inl (cI, 5, .inl t_claps)), (thands, .inl (cI, 5, .inl t_hands)), (thunger, .inl (cI, 6, .inl t_hunger)), (tsaved, .inl (cI, 6, .inl t_saved)), (tasks, .inl (cI, 4, .inl t_asks)), (tfloors, .inl (cI, 4, .inl t_floors))] := hD
  have hf_g2_0 : (upd g_onceOf (Int32.toNatClampNeg 0) 0) 0 = 0 := pk_us
  generalize hu_g2 : (upd g_onceOf (Int32.toNatClampNeg 0) 0) = g2 at hP hD hf_g2_0
  refine lv_iconst (v := 0) hx hb dX4_listen_29 (by decide) ?_
  refine lv_istore_n (lv' := [(3, .int 0), (0, .ref h), (1, .ref t), (2, .ref o)]) hx hb dX4_listen_30 rfl hl (by decide) rfl (fun ls hl => ?_)
  have lp31_2 : ∀ (nf31 : Nat) (l31_3 : Int32) (f31_h_6 : Int32) (a31_ghalvesOf : Nat → Int32) (a31_gonceOf : Nat → Int32) (H : Heap) (locs : List Loc) (ls : Array Slot), (0 ≤ l31_3.toInt ∧ l31_3.toInt ≤ 5) → (1 ≤ f31_h_6.toInt ∧ f31_h_6.toInt ≤ 32) → (f31_h_6.toInt = s2 l31_3.toInt) → (On (f31_h_6.toInt) (s4 l31_3.toInt) a31_gonceOf) → (∀ (u0_ : Int32) (u1_ : Nat → Int32) (u2_ : Nat → Int32), fx (T_k_listen_31 tpalms t_hands u0_ u1_ u2_) nf31 (l31_3, f31_h_6, a31_ghalvesOf, a31_gonceOf) → R_k_listen g_halvesOf g_onceOf tpalms t_hands u0_ u1_ u2_) → (5 - l31_3.toInt < (nf31 : Int)) → va_P D vwCl [(h, .inr (4, [.ref t, .ref o, gearly, glate, .ref ghalvesOf, .ref gonceOf, .int f31_h_6, .int gany, .int gall])), (ghalvesOf, .inl (cI, 32, .inl a31_ghalvesOf)), (gonceOf, .inl (cI, 32, .inl a31_gonceOf)), (t, .inr (7, [.int tpalms, .ref tclaps, .ref thands, .int tactors, .ref thunger, .ref tsaved, .int tusurers, .ref tasks, .ref tfloors, .int trate, .int tchest, .int tborrowers])), (tclaps, .inl (cI, 5, .inl t_claps)), (thands, .inl (cI, 5, .inl t_hands)), (thunger, .inl (cI, 6, .inl t_hunger)), (tsaved, .inl (cI, 6, .inl t_saved)), (tasks, .inl (cI, 4, .inl t_asks)), (tfloors, .inl (cI, 4, .inl t_floors))] H → va_D A [(h, .inr (4, [.ref t, .ref o, gearly, glate, .ref ghalvesOf, .ref gonceOf, .int f31_h_6, .int gany, .int gall])), (ghalvesOf, .inl (cI, 32, .inl a31_ghalvesOf)), (gonceOf, .inl (cI, 32, .inl a31_gonceOf)), (t, .inr (7, [.int tpalms, .ref tclaps, .ref thands, .int tactors, .ref thunger, .ref tsaved, .int tusurers, .ref tasks, .ref tfloors, .int trate, .int tchest, .int tborrowers])), (tclaps, .inl (cI, 5, .inl t_claps)), (thands, .inl (cI, 5, .inl t_hands)), (thunger, .inl (cI, 6, .inl t_hunger)), (tsaved, .inl (cI, 6, .inl t_saved)), (tasks, .inl (cI, 4, .inl t_asks)), (tfloors, .inl (cI, 4, .inl t_floors))] → va_S A s.heap H locs → lv_has ls 5 [(3, .int l31_3), (0, .ref h), (1, .ref t), (2, .ref o)] → W p l e ({ frames := 0, cells := 0, slots := 0, locals := 0 }) s m ([.ref h, .ref t, .ref o] : List Value).toArray below meth c H locs 0 0 (MQ below (Qo (fun u : Int32 × (Nat → Int32) × (Nat → Int32) => none) (fun u : Int32 × (Nat → Int32) × (Nat → Int32) => (1 ≤ u.1.toInt ∧ u.1.toInt ≤ 32) ∧ (On u.1.toInt 1024 u.2.2) ∧ (R_k_listen g_halvesOf g_onceOf tpalms t_hands u.1 u.2.1 u.2.2)) (BW D A (fun u : Int32 × (Nat → Int32) × (Nat → Int32) => [(h, .inr (4, [.ref t, .ref o, gearly, glate, .ref ghalvesOf, .ref gonceOf, .int u.1, .int gany, .int gall])), (ghalvesOf, .inl (cI, 32, .inl u.2.1)), (gonceOf, .inl (cI, 32, .inl u.2.2)), (t, .inr (7, [.int tpalms, .ref tclaps, .ref thands, .int tactors, .ref thunger, .ref tsaved, .int tusurers, .ref tasks, .ref tfloors, .int trate, .int tchest, .int tborrowers])), (tclaps, .inl (cI, 5, .inl t_claps)), (thands, .inl (cI, 5, .inl t_hands)), (thunger, .inl (cI, 6, .inl t_hunger)), (tsaved, .inl (cI, 6, .inl t_saved)), (tasks, .inl (cI, 4, .inl t_asks)), (tfloors, .inl (cI, 4, .inl t_floors))])) A) ([.ref h, .ref t, .ref o] : List Value).toArray s 0 0 A) (F0 m 31 ls []) := by
    intro nf31
    induction nf31 with
    | zero => intro l31_3 f31_h_6 a31_ghalvesOf a31_gonceOf H locs ls h_l31_3 h_f31_h_6 hp2 hon hF31_2 hm31; exact absurd hm31 (by omega)
    | succ nf31 ih31 =>
      intro l31_3 f31_h_6 a31_ghalvesOf a31_gonceOf H locs ls h_l31_3 h_f31_h_6 hp2 hon hF31_2 hm31 hP hD hS hl
      refine lv_iload_n hx hb dX4_listen_31 rfl (lv_at hl 0 rfl) ?_
      refine lv_aload_n hx hb dX4_listen_32 rfl (lv_at hl 2 rfl) ?_
      refine va_getN (D := D) (ci := 7) (v := .int tpalms) (C := RX7) (T := TX7) (N := 12) hx hb hts (fun _ h => List.mem_cons_of_mem _ (inAX7 _ h)) hown hK.1 hP 3 rfl rfl 0 (by decide) (va_Nw.use rfl (nz_at hK.2.1 1 (w := .fieldLinkNest "ClapBank$Hearing" 42 "ClapBank$Theatre" "palms" "I" "ClapBank") rfl)) (fun _ h9 => h9) rfl dX4_listen_33 ?_
      refine bc_ge (tgt := 124) (X := l31_3.toInt) (Y := tpalms.toInt) hx hb rfl rfl dX4_listen_36 (by decide) (fun c4 => ?_) (fun c4 => ?_)
      · skip
        have hw_n5 : 1 ≤ f31_h_6.toInt ∧ f31_h_6.toInt ≤ 32 := by rw [hp2]; exact s2_rng (by omega) (by omega)
        have ho6 : On (f31_h_6.toInt) 1024 a31_gonceOf := On_mono hon (s4_rng (by omega) (by omega)).2
        refine W.widen (k := 0) (n := 0) (Nat.le_of_ble_eq_true rfl) (Nat.le_of_ble_eq_true rfl) ?_
        exact ro_v hx hb hr hlocks (f31_h_6, a31_ghalvesOf, a31_gonceOf) rfl (⟨(show 1 ≤ (f31_h_6 : Int32).toInt ∧ (f31_h_6 : Int32).toInt ≤ 32 from (by have h9 := i_rng (f31_h_6); omega)), (show On (f31_h_6 : Int32).toInt 1024 a31_gonceOf from ho6), (hF31_2 _ _ _ (fx_s (Or.inl (⟨c4, ⟨rfl, rfl, rfl⟩⟩))))⟩) (hP.sub [0, 1, 2, 3, 4, 5, 6, 7, 8, 9] rfl) (hD.sub [0, 1, 2, 3, 4, 5, 6, 7, 8, 9] (by decide) rfl) hS dX4_listen_124
      · skip
        have h2_ := s2_step (p := l31_3.toInt) (by omega) (by omega)
        have h4_ := s4_step (p := l31_3.toInt) (by omega) (by omega)
        have hw_n7 : 1 ≤ f31_h_6.toInt ∧ f31_h_6.toInt ≤ 16 := by omega
        refine lv_iconst (v := 0) hx hb dX4_listen_39 (by decide) ?_
        refine lv_istore (lv' := [(4, .int 0), (3, .int l31_3), (0, .ref h), (1, .ref t), (2, .ref o)]) hx hb dX4_listen_40 hl (by decide) rfl (fun ls hl => ?_)
        have lp42_7 : ∀ (nf42 : Nat) (l42_4 : Int32) (a42_ghalvesOf : Nat → Int32) (a42_gonceOf : Nat → Int32) (H : Heap) (locs : List Loc) (ls : Array Slot), (0 ≤ l42_4.toInt ∧ l42_4.toInt ≤ 16) → (Oi (l31_3.toInt) (f31_h_6.toInt) (l42_4.toInt) a42_gonceOf) → (∀ (u0_ : Int32) (u1_ : Nat → Int32) (u2_ : Nat → Int32), fx (T_k_listen_42 f31_h_6 l31_3 t_hands (fx (T_k_listen_31 tpalms t_hands u0_ u1_ u2_) nf31) u0_ u1_ u2_) nf42 (l42_4, a42_ghalvesOf, a42_gonceOf) → R_k_listen g_halvesOf g_onceOf tpalms t_hands u0_ u1_ u2_) → (16 - l42_4.toInt < (nf42 : Int)) → va_P D vwCl [(h, .inr (4, [.ref t, .ref o, gearly, glate, .ref ghalvesOf, .ref gonceOf, .int f31_h_6, .int gany, .int gall])), (ghalvesOf, .inl (cI, 32, .inl a42_ghalvesOf)), (gonceOf, .inl (cI, 32, .inl a42_gonceOf)), (t, .inr (7, [.int tpalms, .ref tclaps, .ref thands, .int tactors, .ref thunger, .ref tsaved, .int tusurers, .ref tasks, .ref tfloors, .int trate, .int tchest, .int tborrowers])), (tclaps, .inl (cI, 5, .inl t_claps)), (thands, .inl (cI, 5, .inl t_hands)), (thunger, .inl (cI, 6, .inl t_hunger)), (tsaved, .inl (cI, 6, .inl t_saved)), (tasks, .inl (cI, 4, .inl t_asks)), (tfloors, .inl (cI, 4, .inl t_floors))] H → va_D A [(h, .inr (4, [.ref t, .ref o, gearly, glate, .ref ghalvesOf, .ref gonceOf, .int f31_h_6, .int gany, .int gall])), (ghalvesOf, .inl (cI, 32, .inl a42_ghalvesOf)), (gonceOf, .inl (cI, 32, .inl a42_gonceOf)), (t, .inr (7, [.int tpalms, .ref tclaps, .ref thands, .int tactors, .ref thunger, .ref tsaved, .int tusurers, .ref tasks, .ref tfloors, .int trate, .int tchest, .int tborrowers])), (tclaps, .inl (cI, 5, .inl t_claps)), (thands, .inl (cI, 5, .inl t_hands)), (thunger, .inl (cI, 6, .inl t_hunger)), (tsaved, .inl (cI, 6, .inl t_saved)), (tasks, .inl (cI, 4, .inl t_asks)), (tfloors, .inl (cI, 4, .inl t_floors))] → va_S A s.heap H locs → lv_has ls 5 [(4, .int l42_4), (3, .int l31_3), (0, .ref h), (1, .ref t), (2, .ref o)] → W p l e ({ frames := 0, cells := 0, slots := 0, locals := 0 }) s m ([.ref h, .ref t, .ref o] : List Value).toArray below meth c H locs 0 0 (MQ below (Qo (fun u : Int32 × (Nat → Int32) × (Nat → Int32) => none) (fun u : Int32 × (Nat → Int32) × (Nat → Int32) => (1 ≤ u.1.toInt ∧ u.1.toInt ≤ 32) ∧ (On u.1.toInt 1024 u.2.2) ∧ (R_k_listen g_halvesOf g_onceOf tpalms t_hands u.1 u.2.1 u.2.2)) (BW D A (fun u : Int32 × (Nat → Int32) × (Nat → Int32) => [(h, .inr (4, [.ref t, .ref o, gearly, glate, .ref ghalvesOf, .ref gonceOf, .int u.1, .int gany, .int gall])), (ghalvesOf, .inl (cI, 32, .inl u.2.1)), (gonceOf, .inl (cI, 32, .inl u.2.2)), (t, .inr (7, [.int tpalms, .ref tclaps, .ref thands, .int tactors, .ref thunger, .ref tsaved, .int tusurers, .ref tasks, .ref tfloors, .int trate, .int tchest, .int tborrowers])), (tclaps, .inl (cI, 5, .inl t_claps)), (thands, .inl (cI, 5, .inl t_hands)), (thunger, .inl (cI, 6, .inl t_hunger)), (tsaved, .inl (cI, 6, .inl t_saved)), (tasks, .inl (cI, 4, .inl t_asks)), (tfloors, .inl (cI, 4, .inl t_floors))])) A) ([.ref h, .ref t, .ref o] : List Value).toArray s 0 0 A) (F0 m 42 ls []) := by
          intro nf42
          induction nf42 with
          | zero => intro l42_4 a42_ghalvesOf a42_gonceOf H locs ls h_l42_4 hoi hF42_7 hm42; exact absurd hm42 (by omega)
          | succ nf42 ih42 =>
            intro l42_4 a42_ghalvesOf a42_gonceOf H locs ls h_l42_4 hoi hF42_7 hm42 hP hD hS hl
            refine lv_iload hx hb dX4_listen_42 (lv_at hl 0 rfl) ?_
            refine lv_aload_n hx hb dX4_listen_44 rfl (lv_at hl 2 rfl) ?_
            refine va_get (D := D) (ci := 4) (v := .int f31_h_6) (C := RX4) (T := TX4) (N := 9) hx hb hts (fun _ h => List.mem_cons_of_mem _ (inAX4 _ h)) hown hK.1 hP 0 rfl rfl 6 (by decide) (hts (.fieldLink RX4 38 "ClapBank$Hearing" "sets" "I") (List.mem_cons_of_mem _ W_232)) (fun _ h9 => h9) rfl dX4_listen_45 ?_
            refine bc_ge (tgt := 108) (X := l42_4.toInt) (Y := f31_h_6.toInt) hx hb rfl rfl dX4_listen_48 (by decide) (fun c9 => ?_) (fun c9 => ?_)
            · skip
              have ho10 : On (f31_h_6.toInt * 2) (s4 (l31_3.toInt + 1)) a42_gonceOf := Oi_end hoi (by omega)
              refine lv_aload_n hx hb dX4_listen_108 rfl (lv_at hl 2 rfl) ?_
              refine lv_dup hx hb dX4_listen_109 rfl ?_
              refine va_get (D := D) (ci := 4) (v := .int f31_h_6) (C := RX4) (T := TX4) (N := 9) hx hb hts (fun _ h => List.mem_cons_of_mem _ (inAX4 _ h)) hown hK.1 hP 0 rfl rfl 6 (by decide) (hts (.fieldLink RX4 38 "ClapBank$Hearing" "sets" "I") (List.mem_cons_of_mem _ W_232)) (fun _ h9 => h9) rfl dX4_listen_110 ?_
              refine lv_iconst (v := 2) hx hb dX4_listen_113 (by decide) ?_
              refine lv_imul hx hb dX4_listen_114 ?_
              refine lv_topi (fun z11 ez11 => ?_)
              have iz11 : z11.toInt = (f31_h_6.toInt) * (2) := by rw [ez11]; exact (i_mul (X := f31_h_6.toInt) (Y := 2) rfl (by decide) (by have h8 := i_rng (f31_h_6); have h9 := i_rng (2); omega) (by have h8 := i_rng (f31_h_6); have h9 := i_rng (2); omega)).trans (by omega)
              refine va_put (D := D) (ci := 4) (v := .int z11) (ty := .int) (C := RX4) (T := TX4) (N := 9) hx hb hts (fun _ h => List.mem_cons_of_mem _ (inAX4 _ h)) tyX4 tyX4_ok nmX4 hown hK.1 hP hD hS 0 rfl rfl 6 (by decide) (hts (.fieldLink RX4 38 "ClapBank$Hearing" "sets" "I") (List.mem_cons_of_mem _ W_232)) (fun _ h9 => h9) rfl (by decide +kernel) rfl rfl (Nat.le_of_ble_eq_true rfl) dX4_listen_115 (fun H locs hP hD hS => ?_)
              have hP : va_P D vwCl [(h, .inr (4, [.ref t, .ref o, gearly, glate, .ref ghalvesOf, .ref gonceOf, .int z11, .int gany, .int gall])), (ghalvesOf, .inl (cI, 32, .inl a42_ghalvesOf)), (gonceOf, .inl (cI, 32, .inl a42_gonceOf)), (t, .inr (7, [.int tpalms, .ref tclaps, .ref thands, .int tactors, .ref thunger, .ref tsaved, .int tusurers, .ref tasks, .ref tfloors, .int trate, .int tchest, .int tborrowers])), (tclaps, .inl (cI, 5, .inl t_claps)), (thands, .inl (cI, 5, .inl t_hands)), (thunger, .inl (cI, 6, .inl t_hunger)), (tsaved, .inl (cI, 6, .inl t_saved)), (tasks, .inl (cI, 4, .inl t_asks)), (tfloors, .inl (cI, 4, .inl t_floors))] H := hP
              have hD : va_D A [(h, .inr (4, [.ref t, .ref o, gearly, glate, .ref ghalvesOf, .ref gonceOf, .int z11, .int gany, .int gall])), (ghalvesOf, .inl (cI, 32, .inl a42_ghalvesOf)), (gonceOf, .inl (cI, 32, .inl a42_gonceOf)), (t, .inr (7, [.int tpalms, .ref tclaps, .ref thands, .int tactors, .ref thunger, .ref tsaved, .int tusurers, .ref tasks, .ref tfloors, .int trate, .int tchest, .int tborrowers])), (tclaps, .inl (cI, 5, .inl t_claps)), (thands, .inl (cI, 5, .inl t_hands)), (thunger, .inl (cI, 6, .inl t_hunger)), (tsaved, .inl (cI, 6, .inl t_saved)), (tasks, .inl (cI, 4, .inl t_asks)), (tfloors, .inl (cI, 4, .inl t_floors))] := hD
              obtain ⟨z12, ez12⟩ : ∃ y : Int32, y = l31_3 + 1 := ⟨_, rfl⟩
              have iz12 : z12.toInt = l31_3.toInt + 1 := by rw [ez12]; exact (i_add (X := l31_3.toInt) (Y := 1) rfl (by decide) (by have h8 := i_rng (l31_3); have h9 := i_rng (1); omega) (by have h8 := i_rng (l31_3); have h9 := i_rng (1); omega)).trans (by omega)
              refine lv_iinc (v := z12) (lv' := [(3, .int z12), (4, .int l42_4), (0, .ref h), (1, .ref t), (2, .ref o)]) hx hb dX4_listen_118 hl (k := 1) rfl (by rw [ez12]; rfl) (by decide) rfl (fun ls hl => ?_)
              refine lv_goto (tgt := 31) hx hb dX4_listen_121 (by decide) ?_
              exact ih31 (z12) (z11) (a42_ghalvesOf) (a42_gonceOf) _ _ _ (by have h9 := i_rng (z12); omega) (by have h9 := i_rng (z11); omega) (by rw [iz12]; omega) (On_eq ho10 (by omega) (by rw [iz12])) (fun _ _ _ hf_ => (hF42_7 _ _ _ (fx_s (Or.inl (⟨c9, ⟨_, ez11, ⟨_, ez12, hf_⟩⟩⟩))))) (by first | omega | decide) (hP.sub [0, 1, 2, 3, 4, 5, 6, 7, 8, 9] rfl) (hD.sub [0, 1, 2, 3, 4, 5, 6, 7, 8, 9] (by decide) rfl) hS (lv_sub hl [0, 2, 3, 4] rfl)
            · skip
              refine lv_aload_n hx hb dX4_listen_51 rfl (lv_at hl 2 rfl) ?_
              refine va_get (D := D) (ci := 4) (v := .ref ghalvesOf) (C := RX4) (T := TX4) (N := 9) hx hb hts (fun _ h => List.mem_cons_of_mem _ (inAX4 _ h)) hown hK.1 hP 0 rfl rfl 4 (by decide) (hts (.fieldLink RX4 32 "ClapBank$Hearing" "halvesOf" "[I") (List.mem_cons_of_mem _ W_228)) (fun _ h9 => h9) rfl dX4_listen_52 ?_
              refine lv_iload hx hb dX4_listen_55 (lv_at hl 0 rfl) ?_
              refine lv_aload_n hx hb dX4_listen_57 rfl (lv_at hl 2 rfl) ?_
              refine va_get (D := D) (ci := 4) (v := .int f31_h_6) (C := RX4) (T := TX4) (N := 9) hx hb hts (fun _ h => List.mem_cons_of_mem _ (inAX4 _ h)) hown hK.1 hP 0 rfl rfl 6 (by decide) (hts (.fieldLink RX4 38 "ClapBank$Hearing" "sets" "I") (List.mem_cons_of_mem _ W_232)) (fun _ h9 => h9) rfl dX4_listen_58 ?_
              refine lv_iadd hx hb dX4_listen_61 ?_
              refine lv_topi (fun z13 ez13 => ?_)
              have iz13 : z13.toInt = (l42_4.toInt) + (f31_h_6.toInt) := by rw [ez13]; exact (i_add (X := l42_4.toInt) (Y := f31_h_6.toInt) rfl rfl (by have h8 := i_rng (l42_4); have h9 := i_rng (f31_h_6); omega) (by have h8 := i_rng (l42_4); have h9 := i_rng (f31_h_6); omega)).trans (by omega)
              refine lv_aload_n hx hb dX4_listen_62 rfl (lv_at hl 2 rfl) ?_
              refine va_get (D := D) (ci := 4) (v := .ref ghalvesOf) (C := RX4) (T := TX4) (N := 9) hx hb hts (fun _ h => List.mem_cons_of_mem _ (inAX4 _ h)) hown hK.1 hP 0 rfl rfl 4 (by decide) (hts (.fieldLink RX4 32 "ClapBank$Hearing" "halvesOf" "[I") (List.mem_cons_of_mem _ W_228)) (fun _ h9 => h9) rfl dX4_listen_63 ?_
              refine lv_iload hx hb dX4_listen_66 (lv_at hl 0 rfl) ?_
              refine va_iald hx hb hK.1 hP 1 0 rfl rfl (i_in (X := l42_4.toInt) rfl (by omega) (by omega)) dX4_listen_68 ?_
              refine lv_topi (fun z14 ez14 => ?_)
              refine lv_aload_n hx hb dX4_listen_69 rfl (lv_at hl 3 rfl) ?_
              refine va_getN (D := D) (ci := 7) (v := .ref thands) (C := RX7) (T := TX7) (N := 12) hx hb hts (fun _ h => List.mem_cons_of_mem _ (inAX7 _ h)) hown hK.1 hP 3 rfl rfl 2 (by decide) (va_Nw.use rfl (nz_at hK.2.1 8 (w := .fieldLinkNest "ClapBank$Hearing" 45 "ClapBank$Theatre" "hands" "[I" "ClapBank") rfl)) (fun _ h9 => h9) rfl dX4_listen_70 ?_
              refine lv_iload_n hx hb dX4_listen_73 rfl (lv_at hl 1 rfl) ?_
              refine va_iald hx hb hK.1 hP 5 0 rfl rfl (i_in (X := l31_3.toInt) rfl (by omega) (by omega)) dX4_listen_74 ?_
              refine lv_topi (fun z15 ez15 => ?_)
              refine lv_iadd hx hb dX4_listen_75 ?_
              refine lv_topi (fun z16 ez16 => ?_)
              refine va_iast hx hb hK.1 hP hD hS 1 0 rfl rfl (i_in (X := z13.toInt) rfl (by omega) (by omega)) dX4_listen_76 (fun H locs hP hD hS => ?_)
              have hP : va_P D vwCl [(h, .inr (4, [.ref t, .ref o, gearly, glate, .ref ghalvesOf, .ref gonceOf, .int f31_h_6, .int gany, .int gall])), (ghalvesOf, .inl (cI, 32, .inl (upd a42_ghalvesOf (Int32.toNatClampNeg z13) z16))), (gonceOf, .inl (cI, 32, .inl a42_gonceOf)), (t, .inr (7, [.int tpalms, .ref tclaps, .ref thands, .int tactors, .ref thunger, .ref tsaved, .int tusurers, .ref tasks, .ref tfloors, .int trate, .int tchest, .int tborrowers])), (tclaps, .inl (cI, 5, .inl t_claps)), (thands, .inl (cI, 5, .inl t_hands)), (thunger, .inl (cI, 6, .inl t_hunger)), (tsaved, .inl (cI, 6, .inl t_saved)), (tasks, .inl (cI, 4, .inl t_asks)), (tfloors, .inl (cI, 4, .inl t_floors))] H := hP
              have hD : va_D A [(h, .inr (4, [.ref t, .ref o, gearly, glate, .ref ghalvesOf, .ref gonceOf, .int f31_h_6, .int gany, .int gall])), (ghalvesOf, .inl (cI, 32, .inl (upd a42_ghalvesOf (Int32.toNatClampNeg z13) z16))), (gonceOf, .inl (cI, 32, .inl a42_gonceOf)), (t, .inr (7, [.int tpalms, .ref tclaps, .ref thands, .int tactors, .ref thunger, .ref tsaved, .int tusurers, .ref tasks, .ref tfloors, .int trate, .int tchest, .int tborrowers])), (tclaps, .inl (cI, 5, .inl t_claps)), (thands, .inl (cI, 5, .inl t_hands)), (thunger, .inl (cI, 6, .inl t_hunger)), (tsaved, .inl (cI, 6, .inl t_saved)), (tasks, .inl (cI, 4, .inl t_asks)), (tfloors, .inl (cI, 4, .inl t_floors))] := hD
              generalize hu_g17 : (upd a42_ghalvesOf (Int32.toNatClampNeg z13) z16) = g17 at hP hD
              refine lv_aload_n hx hb dX4_listen_77 rfl (lv_at hl 2 rfl) ?_
              refine va_get (D := D) (ci := 4) (v := .ref gonceOf) (C := RX4) (T := TX4) (N := 9) hx hb hts (fun _ h => List.mem_cons_of_mem _ (inAX4 _ h)) hown hK.1 hP 0 rfl rfl 5 (by decide) (hts (.fieldLink RX4 35 "ClapBank$Hearing" "onceOf" "[I") (List.mem_cons_of_mem _ W_229)) (fun _ h9 => h9) rfl dX4_listen_78 ?_
              refine lv_iload hx hb dX4_listen_81 (lv_at hl 0 rfl) ?_
              refine lv_aload_n hx hb dX4_listen_83 rfl (lv_at hl 2 rfl) ?_
              refine va_get (D := D) (ci := 4) (v := .int f31_h_6) (C := RX4) (T := TX4) (N := 9) hx hb hts (fun _ h => List.mem_cons_of_mem _ (inAX4 _ h)) hown hK.1 hP 0 rfl rfl 6 (by decide) (hts (.fieldLink RX4 38 "ClapBank$Hearing" "sets" "I") (List.mem_cons_of_mem _ W_232)) (fun _ h9 => h9) rfl dX4_listen_84 ?_
              refine lv_iadd hx hb dX4_listen_87 ?_
              refine lv_topi (fun z18 ez18 => ?_)
              have iz18 : z18.toInt = (l42_4.toInt) + (f31_h_6.toInt) := by rw [ez18]; exact (i_add (X := l42_4.toInt) (Y := f31_h_6.toInt) rfl rfl (by have h8 := i_rng (l42_4); have h9 := i_rng (f31_h_6); omega) (by have h8 := i_rng (l42_4); have h9 := i_rng (f31_h_6); omega)).trans (by omega)
              refine lv_aload_n hx hb dX4_listen_88 rfl (lv_at hl 2 rfl) ?_
              refine va_get (D := D) (ci := 4) (v := .ref gonceOf) (C := RX4) (T := TX4) (N := 9) hx hb hts (fun _ h => List.mem_cons_of_mem _ (inAX4 _ h)) hown hK.1 hP 0 rfl rfl 5 (by decide) (hts (.fieldLink RX4 35 "ClapBank$Hearing" "onceOf" "[I") (List.mem_cons_of_mem _ W_229)) (fun _ h9 => h9) rfl dX4_listen_89 ?_
              refine lv_iload hx hb dX4_listen_92 (lv_at hl 0 rfl) ?_
              refine va_iald hx hb hK.1 hP 2 0 rfl rfl (i_in (X := l42_4.toInt) rfl (by omega) (by omega)) dX4_listen_94 ?_
              refine lv_topi (fun z19 ez19 => ?_)
              have hu_z19 : 0 ≤ z19.toInt ∧ z19.toInt < s4 l31_3.toInt := by rw [ez19]; exact On_at (X := l42_4.toInt) hoi.1 rfl (by omega) (by omega)
              refine lv_iconst (v := 1) hx hb dX4_listen_95 (by decide) ?_
              refine lv_iconst (v := 2) hx hb dX4_listen_96 (by decide) ?_
              refine lv_iload_n hx hb dX4_listen_97 rfl (lv_at hl 1 rfl) ?_
              refine lv_imul hx hb dX4_listen_98 ?_
              refine lv_topi (fun z20 ez20 => ?_)
              have iz20 : z20.toInt = (2) * (l31_3.toInt) := by rw [ez20]; exact (i_mul (X := 2) (Y := l31_3.toInt) (by decide) rfl (by have h8 := i_rng (2); have h9 := i_rng (l31_3); omega) (by have h8 := i_rng (2); have h9 := i_rng (l31_3); omega)).trans (by omega)
              refine lv_ishl hx hb dX4_listen_99 ?_
              refine lv_topi (fun z21 ez21 => ?_)
              have hs_z21 : z21.toInt = s4 l31_3.toInt := by rw [ez21]; exact shl4 (by omega) (by omega) (by omega)
              refine lv_iadd hx hb dX4_listen_100 ?_
              refine lv_topi (fun z22 ez22 => ?_)
              have iz22 : z22.toInt = (z19.toInt) + (z21.toInt) := by rw [ez22]; exact (i_add (X := z19.toInt) (Y := z21.toInt) rfl rfl (by have h8 := i_rng (z19); have h9 := i_rng (z21); omega) (by have h8 := i_rng (z19); have h9 := i_rng (z21); omega)).trans (by omega)
              refine va_iast hx hb hK.1 hP hD hS 2 0 rfl rfl (i_in (X := z18.toInt) rfl (by omega) (by omega)) dX4_listen_101 (fun H locs hP hD hS => ?_)
              have hP : va_P D vwCl [(h, .inr (4, [.ref t, .ref o, gearly, glate, .ref ghalvesOf, .ref gonceOf, .int f31_h_6, .int gany, .int gall])), (ghalvesOf, .inl (cI, 32, .inl g17)), (gonceOf, .inl (cI, 32, .inl (upd a42_gonceOf (Int32.toNatClampNeg z18) z22))), (t, .inr (7, [.int tpalms, .ref tclaps, .ref thands, .int tactors, .ref thunger, .ref tsaved, .int tusurers, .ref tasks, .ref tfloors, .int trate, .int tchest, .int tborrowers])), (tclaps, .inl (cI, 5, .inl t_claps)), (thands, .inl (cI, 5, .inl t_hands)), (thunger, .inl (cI, 6, .inl t_hunger)), (tsaved, .inl (cI, 6, .inl t_saved)), (tasks, .inl (cI, 4, .inl t_asks)), (tfloors, .inl (cI, 4, .inl t_floors))] H := hP
              have hD : va_D A [(h, .inr (4, [.ref t, .ref o, gearly, glate, .ref ghalvesOf, .ref gonceOf, .int f31_h_6, .int gany, .int gall])), (ghalvesOf, .inl (cI, 32, .inl g17)), (gonceOf, .inl (cI, 32, .inl (upd a42_gonceOf (Int32.toNatClampNeg z18) z22))), (t, .inr (7, [.int tpalms, .ref tclaps, .ref thands, .int tactors, .ref thunger, .ref tsaved, .int tusurers, .ref tasks, .ref tfloors, .int trate, .int tchest, .int tborrowers])), (tclaps, .inl (cI, 5, .inl t_claps)), (thands, .inl (cI, 5, .inl t_hands)), (thunger, .inl (cI, 6, .inl t_hunger)), (tsaved, .inl (cI, 6, .inl t_saved)), (tasks, .inl (cI, 4, .inl t_asks)), (tfloors, .inl (cI, 4, .inl t_floors))] := hD
              have hq0_g23 : Oi (l31_3.toInt) (f31_h_6.toInt) (l42_4.toInt + 1) (upd a42_gonceOf (Int32.toNatClampNeg z18) z22) := (Oi_up (u := z19) (X := z18.toInt) (by omega) (by omega) hoi rfl (by omega) (by omega) (by omega) (by omega) (by omega) (by omega))
              generalize hu_g23 : (upd a42_gonceOf (Int32.toNatClampNeg z18) z22) = g23 at hP hD hq0_g23
              obtain ⟨z24, ez24⟩ : ∃ y : Int32, y = l42_4 + 1 := ⟨_, rfl⟩
              have iz24 : z24.toInt = l42_4.toInt + 1 := by rw [ez24]; exact (i_add (X := l42_4.toInt) (Y := 1) rfl (by decide) (by have h8 := i_rng (l42_4); have h9 := i_rng (1); omega) (by have h8 := i_rng (l42_4); have h9 := i_rng (1); omega)).trans (by omega)
              refine lv_iinc (v := z24) (lv' := [(4, .int z24), (3, .int l31_3), (0, .ref h), (1, .ref t), (2, .ref o)]) hx hb dX4_listen_102 hl (k := 0) rfl (by rw [ez24]; rfl) (by decide) rfl (fun ls hl => ?_)
              refine lv_goto (tgt := 42) hx hb dX4_listen_105 (by decide) ?_
              exact ih42 (z24) (g17) (g23) _ _ _ (by have h9 := i_rng (z24); omega) (by rw [iz24]; exact hq0_g23) (fun _ _ _ hf_ => (hF42_7 _ _ _ (fx_s (Or.inr (⟨c9, ⟨_, ez13, ⟨_, ez14, ⟨_, ez15, ⟨_, ez16, ⟨_, hu_g17, ⟨_, ez18, ⟨_, ez19, ⟨_, ez20, ⟨_, ez21, ⟨_, ez22, ⟨_, hu_g23, ⟨_, ez24, hf_⟩⟩⟩⟩⟩⟩⟩⟩⟩⟩⟩⟩⟩))))) (by first | omega | decide) (hP.sub [0, 1, 2, 3, 4, 5, 6, 7, 8, 9] rfl) (hD.sub [0, 1, 2, 3, 4, 5, 6, 7, 8, 9] (by decide) rfl) hS (lv_sub hl [0, 1, 2, 3, 4] rfl)
        exact lp42_7 18 (0) (a31_ghalvesOf) (a31_gonceOf) _ _ _ (by decide) (Oi_0 (by omega) (by omega) (by decide) hon) (fun _ _ _ hf_ => (hF31_2 _ _ _ (fx_s (Or.inr (⟨c4, hf_⟩))))) (by have hc0_ : (0 : Int32).toInt = 0 := (by decide); first | omega | decide) (hP.sub [0, 1, 2, 3, 4, 5, 6, 7, 8, 9] rfl) (hD.sub [0, 1, 2, 3, 4, 5, 6, 7, 8, 9] (by decide) rfl) hS (lv_sub hl [0, 1, 2, 3, 4] rfl)
  exact lp31_2 7 (0) (1) (g1) (g2) _ _ _ (by decide) (by decide) (by decide) (On_1 (by decide) (by decide) hf_g2_0) (fun _ _ _ hf_ => (⟨_, hu_g1, ⟨_, hu_g2, hf_⟩⟩)) (by have hc0_ : (0 : Int32).toInt = 0 := (by decide); have hc1_ : (1 : Int32).toInt = 1 := (by decide); first | omega | decide) (hP.sub [0, 1, 2, 3, 4, 5, 6, 7, 8, 9] rfl) (hD.sub [0, 1, 2, 3, 4, 5, 6, 7, 8, 9] (by decide) rfl) hS (lv_sub hl [0, 1, 2, 3] rfl)
set_option maxHeartbeats 4000000 in
set_option maxRecDepth 100000 in
theorem k_addUp (l : Launch) (D : va_G) (cI cB cJ cZ cT : ClassId) (f : Nat) (mf : Nat → Int32) : Co l yX4_addUp wsX4_addUp ({ frames := 0, cells := 0, slots := 0, locals := 0 }) D (tyL cI cB cJ cZ cT) [.ref f] [(f, .inl (cI, 1024, .inl mf))] (fun u : (Nat → Int32) => none) (fun u : (Nat → Int32) => (R_k_addUp mf u)) (fun u : (Nat → Int32) => [(f, .inl (cI, 1024, .inl u))]) 0 0 := by
  refine entry (cc := cX4_addUp) (maxL := 3) (ret := none) (by decide) rfl (Nat.le_of_ble_eq_true rfl) ?_
  intro p e s m below meth c A ls hx hb hr hml hts hown hlocks hname hK hP hD hS hA hl
  have hown : s.vm.findClass RX4 = some m.cls := hown
  have hl : lv_has ls 3 [(0, .ref f)] := hl
  refine lv_iconst (v := 0) hx hb dX4_addUp_0 (by decide) ?_
  refine lv_istore_n (lv' := [(1, .int 0), (0, .ref f)]) hx hb dX4_addUp_1 rfl hl (by decide) rfl (fun ls hl => ?_)
  have lp2_0 : ∀ (nf2 : Nat) (l2_1 : Int32) (a2_f : Nat → Int32) (H : Heap) (locs : List Loc) (ls : Array Slot), (0 ≤ l2_1.toInt ∧ l2_1.toInt ≤ 5) → (∀ (u0_ : Nat → Int32), fx (T_k_addUp_2 u0_) nf2 (l2_1, a2_f) → R_k_addUp mf u0_) → (5 - l2_1.toInt < (nf2 : Int)) → va_P D vwCl [(f, .inl (cI, 1024, .inl a2_f))] H → va_D A [(f, .inl (cI, 1024, .inl a2_f))] → va_S A s.heap H locs → lv_has ls 3 [(1, .int l2_1), (0, .ref f)] → W p l e ({ frames := 0, cells := 0, slots := 0, locals := 0 }) s m ([.ref f] : List Value).toArray below meth c H locs 0 0 (MQ below (Qo (fun u : (Nat → Int32) => none) (fun u : (Nat → Int32) => (R_k_addUp mf u)) (BW D A (fun u : (Nat → Int32) => [(f, .inl (cI, 1024, .inl u))])) A) ([.ref f] : List Value).toArray s 0 0 A) (F0 m 2 ls []) := by
    intro nf2
    induction nf2 with
    | zero => intro l2_1 a2_f H locs ls h_l2_1 hF2_0 hm2; exact absurd hm2 (by omega)
    | succ nf2 ih2 =>
      intro l2_1 a2_f H locs ls h_l2_1 hF2_0 hm2 hP hD hS hl
      refine lv_iload_n hx hb dX4_addUp_2 rfl (lv_at hl 0 rfl) ?_
      refine lv_iconst (v := 5) hx hb dX4_addUp_3 (by decide) ?_
      refine bc_ge (tgt := 53) (X := l2_1.toInt) (Y := 5) hx hb rfl (by decide) dX4_addUp_4 (by decide) (fun c2 => ?_) (fun c2 => ?_)
      · skip
        refine W.widen (k := 0) (n := 0) (Nat.le_of_ble_eq_true rfl) (Nat.le_of_ble_eq_true rfl) ?_
        exact ro_v hx hb hr hlocks (a2_f) rfl ((hF2_0 _ (fx_s (Or.inl (⟨c2, rfl⟩))))) (hP.sub [0] rfl) (hD.sub [0] (by decide) rfl) hS dX4_addUp_53
      · skip
        refine lv_iconst (v := 0) hx hb dX4_addUp_7 (by decide) ?_
        refine lv_istore_n (lv' := [(2, .int 0), (1, .int l2_1), (0, .ref f)]) hx hb dX4_addUp_8 rfl hl (by decide) rfl (fun ls hl => ?_)
        have lp9_2 : ∀ (nf9 : Nat) (l9_2 : Int32) (a9_f : Nat → Int32) (H : Heap) (locs : List Loc) (ls : Array Slot), (0 ≤ l9_2.toInt ∧ l9_2.toInt ≤ 1024) → (∀ (u0_ : Nat → Int32), fx (T_k_addUp_9 l2_1 (fx (T_k_addUp_2 u0_) nf2) u0_) nf9 (l9_2, a9_f) → R_k_addUp mf u0_) → (1024 - l9_2.toInt < (nf9 : Int)) → va_P D vwCl [(f, .inl (cI, 1024, .inl a9_f))] H → va_D A [(f, .inl (cI, 1024, .inl a9_f))] → va_S A s.heap H locs → lv_has ls 3 [(2, .int l9_2), (1, .int l2_1), (0, .ref f)] → W p l e ({ frames := 0, cells := 0, slots := 0, locals := 0 }) s m ([.ref f] : List Value).toArray below meth c H locs 0 0 (MQ below (Qo (fun u : (Nat → Int32) => none) (fun u : (Nat → Int32) => (R_k_addUp mf u)) (BW D A (fun u : (Nat → Int32) => [(f, .inl (cI, 1024, .inl u))])) A) ([.ref f] : List Value).toArray s 0 0 A) (F0 m 9 ls []) := by
          intro nf9
          induction nf9 with
          | zero => intro l9_2 a9_f H locs ls h_l9_2 hF9_2 hm9; exact absurd hm9 (by omega)
          | succ nf9 ih9 =>
            intro l9_2 a9_f H locs ls h_l9_2 hF9_2 hm9 hP hD hS hl
            refine lv_iload_n hx hb dX4_addUp_9 rfl (lv_at hl 0 rfl) ?_
            refine lv_sipush (v := 1024) hx hb dX4_addUp_10 (by decide) ?_
            refine bc_ge (tgt := 47) (X := l9_2.toInt) (Y := 1024) hx hb rfl (by decide) dX4_addUp_13 (by decide) (fun c4 => ?_) (fun c4 => ?_)
            · skip
              obtain ⟨z5, ez5⟩ : ∃ y : Int32, y = l2_1 + 1 := ⟨_, rfl⟩
              have iz5 : z5.toInt = l2_1.toInt + 1 := by rw [ez5]; exact (i_add (X := l2_1.toInt) (Y := 1) rfl (by decide) (by have h8 := i_rng (l2_1); have h9 := i_rng (1); omega) (by have h8 := i_rng (l2_1); have h9 := i_rng (1); omega)).trans (by omega)
              refine lv_iinc (v := z5) (lv' := [(1, .int z5), (2, .int l9_2), (0, .ref f)]) hx hb dX4_addUp_47 hl (k := 1) rfl (by rw [ez5]; rfl) (by decide) rfl (fun ls hl => ?_)
              refine lv_goto (tgt := 2) hx hb dX4_addUp_50 (by decide) ?_
              exact ih2 (z5) (a9_f) _ _ _ (by have h9 := i_rng (z5); omega) (fun _ hf_ => (hF9_2 _ (fx_s (Or.inl (⟨c4, ⟨_, ez5, hf_⟩⟩))))) (by first | omega | decide) (hP.sub [0] rfl) (hD.sub [0] (by decide) rfl) hS (lv_sub hl [0, 2] rfl)
            · skip
              refine lv_iload_n hx hb dX4_addUp_16 rfl (lv_at hl 0 rfl) ?_
              refine lv_iconst (v := 2) hx hb dX4_addUp_17 (by decide) ?_
              refine lv_iload_n hx hb dX4_addUp_18 rfl (lv_at hl 1 rfl) ?_
              refine lv_imul hx hb dX4_addUp_19 ?_
              refine lv_topi (fun z6 ez6 => ?_)
              have iz6 : z6.toInt = (2) * (l2_1.toInt) := by rw [ez6]; exact (i_mul (X := 2) (Y := l2_1.toInt) (by decide) rfl (by have h8 := i_rng (2); have h9 := i_rng (l2_1); omega) (by have h8 := i_rng (2); have h9 := i_rng (l2_1); omega)).trans (by omega)
              refine lv_ishr hx hb dX4_addUp_20 ?_
              refine lv_topi (fun z7 ez7 => ?_)
              refine lv_iconst (v := 3) hx hb dX4_addUp_21 (by decide) ?_
              refine lv_iand hx hb dX4_addUp_22 ?_
              refine lv_topi (fun z8 ez8 => ?_)
              have hv_z8 : 0 ≤ z8.toInt ∧ z8.toInt ≤ 3 := by rw [ez8]; exact i_and _ 2 (by decide) (by decide)
              refine bi_eq (tgt := 41) (X := z8.toInt) hx hb rfl dX4_addUp_23 (by decide) (fun c9 => ?_) (fun c9 => ?_)
              · skip
                obtain ⟨z10, ez10⟩ : ∃ y : Int32, y = l9_2 + 1 := ⟨_, rfl⟩
                have iz10 : z10.toInt = l9_2.toInt + 1 := by rw [ez10]; exact (i_add (X := l9_2.toInt) (Y := 1) rfl (by decide) (by have h8 := i_rng (l9_2); have h9 := i_rng (1); omega) (by have h8 := i_rng (l9_2); have h9 := i_rng (1); omega)).trans (by omega)
                refine lv_iinc (v := z10) (lv' := [(2, .int z10), (1, .int l2_1), (0, .ref f)]) hx hb dX4_addUp_41 hl (k := 0) rfl (by rw [ez10]; rfl) (by decide) rfl (fun ls hl => ?_)
                refine lv_goto (tgt := 9) hx hb dX4_addUp_44 (by decide) ?_
                exact ih9 (z10) (a9_f) _ _ _ (by have h9 := i_rng (z10); omega) (fun _ hf_ => (hF9_2 _ (fx_s (Or.inr (⟨c4, ⟨_, ez6, ⟨_, ez7, ⟨_, ez8, Or.inl (⟨c9, ⟨_, ez10, hf_⟩⟩)⟩⟩⟩⟩))))) (by first | omega | decide) (hP.sub [0] rfl) (hD.sub [0] (by decide) rfl) hS (lv_sub hl [0, 1, 2] rfl)
              · skip
                have hge_n11 : s4 (l2_1.toInt) ≤ l9_2.toInt := sh_ge ez7 ez8 (by omega) (by omega) (by omega) (by omega) (by omega)
                refine lv_aload_n hx hb dX4_addUp_26 rfl (lv_at hl 2 rfl) ?_
                refine lv_iload_n hx hb dX4_addUp_27 rfl (lv_at hl 0 rfl) ?_
                refine lv_dup2_11 hx hb dX4_addUp_28 rfl rfl ?_
                refine va_iald hx hb hK.1 hP 0 0 rfl rfl (i_in (X := l9_2.toInt) rfl (by omega) (by omega)) dX4_addUp_29 ?_
                refine lv_topi (fun z12 ez12 => ?_)
                refine lv_aload_n hx hb dX4_addUp_30 rfl (lv_at hl 2 rfl) ?_
                refine lv_iload_n hx hb dX4_addUp_31 rfl (lv_at hl 0 rfl) ?_
                refine lv_iconst (v := 1) hx hb dX4_addUp_32 (by decide) ?_
                refine lv_iconst (v := 2) hx hb dX4_addUp_33 (by decide) ?_
                refine lv_iload_n hx hb dX4_addUp_34 rfl (lv_at hl 1 rfl) ?_
                refine lv_imul hx hb dX4_addUp_35 ?_
                refine lv_topi (fun z13 ez13 => ?_)
                have iz13 : z13.toInt = (2) * (l2_1.toInt) := by rw [ez13]; exact (i_mul (X := 2) (Y := l2_1.toInt) (by decide) rfl (by have h8 := i_rng (2); have h9 := i_rng (l2_1); omega) (by have h8 := i_rng (2); have h9 := i_rng (l2_1); omega)).trans (by omega)
                refine lv_ishl hx hb dX4_addUp_36 ?_
                refine lv_topi (fun z14 ez14 => ?_)
                have hs_z14 : z14.toInt = s4 (l2_1.toInt) := by rw [ez14]; exact shl4 (by omega) (by omega) (by omega)
                have hs4_z14 := s4_step (p := l2_1.toInt) (by omega) (by omega)
                refine lv_isub hx hb dX4_addUp_37 ?_
                refine lv_topi (fun z15 ez15 => ?_)
                have iz15 : z15.toInt = (l9_2.toInt) - (z14.toInt) := by rw [ez15]; exact (i_sub (X := l9_2.toInt) (Y := z14.toInt) rfl rfl (by have h8 := i_rng (l9_2); have h9 := i_rng (z14); omega) (by have h8 := i_rng (l9_2); have h9 := i_rng (z14); omega)).trans (by omega)
                refine va_iald hx hb hK.1 hP 0 0 rfl rfl (i_in (X := z15.toInt) rfl (by omega) (by omega)) dX4_addUp_38 ?_
                refine lv_topi (fun z16 ez16 => ?_)
                refine lv_iadd hx hb dX4_addUp_39 ?_
                refine lv_topi (fun z17 ez17 => ?_)
                refine va_iast hx hb hK.1 hP hD hS 0 0 rfl rfl (i_in (X := l9_2.toInt) rfl (by omega) (by omega)) dX4_addUp_40 (fun H locs hP hD hS => ?_)
                have hP : va_P D vwCl [(f, .inl (cI, 1024, .inl (upd a9_f (Int32.toNatClampNeg l9_2) z17)))] H := hP
                have hD : va_D A [(f, .inl (cI, 1024, .inl (upd a9_f (Int32.toNatClampNeg l9_2) z17)))] := hD
                generalize hu_g18 : (upd a9_f (Int32.toNatClampNeg l9_2) z17) = g18 at hP hD
                obtain ⟨z19, ez19⟩ : ∃ y : Int32, y = l9_2 + 1 := ⟨_, rfl⟩
                have iz19 : z19.toInt = l9_2.toInt + 1 := by rw [ez19]; exact (i_add (X := l9_2.toInt) (Y := 1) rfl (by decide) (by have h8 := i_rng (l9_2); have h9 := i_rng (1); omega) (by have h8 := i_rng (l9_2); have h9 := i_rng (1); omega)).trans (by omega)
                refine lv_iinc (v := z19) (lv' := [(2, .int z19), (1, .int l2_1), (0, .ref f)]) hx hb dX4_addUp_41 hl (k := 0) rfl (by rw [ez19]; rfl) (by decide) rfl (fun ls hl => ?_)
                refine lv_goto (tgt := 9) hx hb dX4_addUp_44 (by decide) ?_
                exact ih9 (z19) (g18) _ _ _ (by have h9 := i_rng (z19); omega) (fun _ hf_ => (hF9_2 _ (fx_s (Or.inr (⟨c4, ⟨_, ez6, ⟨_, ez7, ⟨_, ez8, Or.inr (⟨c9, ⟨_, ez12, ⟨_, ez13, ⟨_, ez14, ⟨_, ez15, ⟨_, ez16, ⟨_, ez17, ⟨_, hu_g18, ⟨_, ez19, hf_⟩⟩⟩⟩⟩⟩⟩⟩⟩)⟩⟩⟩⟩))))) (by first | omega | decide) (hP.sub [0] rfl) (hD.sub [0] (by decide) rfl) hS (lv_sub hl [0, 1, 2] rfl)
        exact lp9_2 1026 (0) (a2_f) _ _ _ (by decide) (fun _ hf_ => (hF2_0 _ (fx_s (Or.inr (⟨c2, hf_⟩))))) (by have hc0_ : (0 : Int32).toInt = 0 := (by decide); first | omega | decide) (hP.sub [0] rfl) (hD.sub [0] (by decide) rfl) hS (lv_sub hl [0, 1, 2] rfl)
  exact lp2_0 7 (0) (mf) _ _ _ (by decide) (fun _ hf_ => (hf_)) (by have hc0_ : (0 : Int32).toInt = 0 := (by decide); first | omega | decide) (hP.sub [0] rfl) (hD.sub [0] (by decide) rfl) hS (lv_sub hl [0, 1] rfl)
set_option maxHeartbeats 4000000 in
set_option maxRecDepth 100000 in
theorem k_roomBehind (l : Launch) (D : va_G) (cI cB cJ cZ cT : ClassId) (h : Nat) (t : Nat) (tclaps : Nat) (thands : Nat) (thunger : Nat) (tsaved : Nat) (tasks : Nat) (tfloors : Nat) (a : Int32) (gsets : Int32) (gany : Int32) (gall : Int32) (tpalms : Int32) (tactors : Int32) (tusurers : Int32) (trate : Int32) (tchest : Int32) (tborrowers : Int32) (gdark : Value) (gearly : Value) (glate : Value) (ghalvesOf : Value) (gonceOf : Value) (t_claps : Nat → Int32) (t_hands : Nat → Int32) (t_hunger : Nat → Int32) (t_saved : Nat → Int32) (t_asks : Nat → Int32) (t_floors : Nat → Int32) (h_tpalms : 0 ≤ tpalms.toInt ∧ tpalms.toInt ≤ 5) (h_tactors : 0 ≤ tactors.toInt ∧ tactors.toInt ≤ 6) (h_tusurers : 0 ≤ tusurers.toInt ∧ tusurers.toInt ≤ 4) (h_a : 0 ≤ a.toInt ∧ a.toInt ≤ 1023) : Co l yX4_roomBehind wsX4_roomBehind ({ frames := 1, cells := 0, slots := 0, locals := 30 }) D (tyL cI cB cJ cZ cT) [.ref h, .int a] [(h, .inr (4, [.ref t, gdark, gearly, glate, ghalvesOf, gonceOf, .int gsets, .int gany, .int gall])), (t, .inr (7, [.int tpalms, .ref tclaps, .ref thands, .int tactors, .ref thunger, .ref tsaved, .int tusurers, .ref tasks, .ref tfloors, .int trate, .int tchest, .int tborrowers])), (tclaps, .inl (cI, 5, .inl t_claps)), (thands, .inl (cI, 5, .inl t_hands)), (thunger, .inl (cI, 6, .inl t_hunger)), (tsaved, .inl (cI, 6, .inl t_saved)), (tasks, .inl (cI, 4, .inl t_asks)), (tfloors, .inl (cI, 4, .inl t_floors))] (fun u : Int32 => some (.int u)) (fun u : Int32 => (-1 ≤ u.toInt ∧ u.toInt ≤ 1023) ∧ (R_k_roomBehind tpalms t_claps a u)) (fun u : Int32 => [(h, .inr (4, [.ref t, gdark, gearly, glate, ghalvesOf, gonceOf, .int gsets, .int gany, .int gall])), (t, .inr (7, [.int tpalms, .ref tclaps, .ref thands, .int tactors, .ref thunger, .ref tsaved, .int tusurers, .ref tasks, .ref tfloors, .int trate, .int tchest, .int tborrowers])), (tclaps, .inl (cI, 5, .inl t_claps)), (thands, .inl (cI, 5, .inl t_hands)), (thunger, .inl (cI, 6, .inl t_hunger)), (tsaved, .inl (cI, 6, .inl t_saved)), (tasks, .inl (cI, 4, .inl t_asks)), (tfloors, .inl (cI, 4, .inl t_floors))]) 0 0 := by
  refine entry (cc := cX4_roomBehind) (maxL := 5) (ret := (some .int)) (by decide) rfl (Nat.le_of_ble_eq_true rfl) ?_
  intro p e s m below meth c A ls hx hb hr hml hts hown hlocks hname hK hP hD hS hA hl
  have hown : s.vm.findClass RX4 = some m.cls := hown
  have hl : lv_has ls 5 [(0, .ref h), (1, .int a)] := hl
  refine lv_iconst (v := 0) hx hb dX4_roomBehind_0 (by decide) ?_
  refine lv_istore_n (lv' := [(2, .int 0), (0, .ref h), (1, .int a)]) hx hb dX4_roomBehind_1 rfl hl (by decide) rfl (fun ls hl => ?_)
  refine lv_iconst (v := 0) hx hb dX4_roomBehind_2 (by decide) ?_
  refine lv_istore_n (lv' := [(3, .int 0), (2, .int 0), (0, .ref h), (1, .int a)]) hx hb dX4_roomBehind_3 rfl hl (by decide) rfl (fun ls hl => ?_)
  have lp4_0 : ∀ (nf4 : Nat) (l4_3 : Int32) (l4_2 : Int32) (H : Heap) (locs : List Loc) (ls : Array Slot), (0 ≤ l4_3.toInt ∧ l4_3.toInt ≤ 5) → (0 ≤ l4_2.toInt ∧ l4_2.toInt ≤ 1023) → (l4_2.toInt < s4 l4_3.toInt) → (∀ (u0_ : Int32), fx (T_k_roomBehind_4 tpalms t_claps a u0_) nf4 (l4_3, l4_2) → R_k_roomBehind tpalms t_claps a u0_) → (5 - l4_3.toInt < (nf4 : Int)) → va_P D vwCl [(h, .inr (4, [.ref t, gdark, gearly, glate, ghalvesOf, gonceOf, .int gsets, .int gany, .int gall])), (t, .inr (7, [.int tpalms, .ref tclaps, .ref thands, .int tactors, .ref thunger, .ref tsaved, .int tusurers, .ref tasks, .ref tfloors, .int trate, .int tchest, .int tborrowers])), (tclaps, .inl (cI, 5, .inl t_claps)), (thands, .inl (cI, 5, .inl t_hands)), (thunger, .inl (cI, 6, .inl t_hunger)), (tsaved, .inl (cI, 6, .inl t_saved)), (tasks, .inl (cI, 4, .inl t_asks)), (tfloors, .inl (cI, 4, .inl t_floors))] H → va_D A [(h, .inr (4, [.ref t, gdark, gearly, glate, ghalvesOf, gonceOf, .int gsets, .int gany, .int gall])), (t, .inr (7, [.int tpalms, .ref tclaps, .ref thands, .int tactors, .ref thunger, .ref tsaved, .int tusurers, .ref tasks, .ref tfloors, .int trate, .int tchest, .int tborrowers])), (tclaps, .inl (cI, 5, .inl t_claps)), (thands, .inl (cI, 5, .inl t_hands)), (thunger, .inl (cI, 6, .inl t_hunger)), (tsaved, .inl (cI, 6, .inl t_saved)), (tasks, .inl (cI, 4, .inl t_asks)), (tfloors, .inl (cI, 4, .inl t_floors))] → va_S A s.heap H locs → lv_has ls 5 [(3, .int l4_3), (2, .int l4_2), (0, .ref h), (1, .int a)] → W p l e ({ frames := 1, cells := 0, slots := 0, locals := 30 }) s m ([.ref h, .int a] : List Value).toArray below meth c H locs 0 0 (MQ below (Qo (fun u : Int32 => some (.int u)) (fun u : Int32 => (-1 ≤ u.toInt ∧ u.toInt ≤ 1023) ∧ (R_k_roomBehind tpalms t_claps a u)) (BW D A (fun u : Int32 => [(h, .inr (4, [.ref t, gdark, gearly, glate, ghalvesOf, gonceOf, .int gsets, .int gany, .int gall])), (t, .inr (7, [.int tpalms, .ref tclaps, .ref thands, .int tactors, .ref thunger, .ref tsaved, .int tusurers, .ref tasks, .ref tfloors, .int trate, .int tchest, .int tborrowers])), (tclaps, .inl (cI, 5, .inl t_claps)), (thands, .inl (cI, 5, .inl t_hands)), (thunger, .inl (cI, 6, .inl t_hunger)), (tsaved, .inl (cI, 6, .inl t_saved)), (tasks, .inl (cI, 4, .inl t_asks)), (tfloors, .inl (cI, 4, .inl t_floors))])) A) ([.ref h, .int a] : List Value).toArray s 0 0 A) (F0 m 4 ls []) := by
    intro nf4
    induction nf4 with
    | zero => intro l4_3 l4_2 H locs ls h_l4_3 h_l4_2 hrm hF4_0 hm4; exact absurd hm4 (by omega)
    | succ nf4 ih4 =>
      intro l4_3 l4_2 H locs ls h_l4_3 h_l4_2 hrm hF4_0 hm4 hP hD hS hl
      refine lv_iload_n hx hb dX4_roomBehind_4 rfl (lv_at hl 0 rfl) ?_
      refine lv_aload_n hx hb dX4_roomBehind_5 rfl (lv_at hl 2 rfl) ?_
      refine va_get (D := D) (ci := 4) (v := .ref t) (C := RX4) (T := TX4) (N := 9) hx hb hts (fun _ h => List.mem_cons_of_mem _ (inAX4 _ h)) hown hK.1 hP 0 rfl rfl 0 (by decide) (hts (.fieldLink RX4 12 "ClapBank$Hearing" "house" "LClapBank$Theatre;") (List.mem_cons_of_mem _ W_221)) (fun _ h9 => h9) rfl dX4_roomBehind_6 ?_
      refine va_getN (D := D) (ci := 7) (v := .int tpalms) (C := RX7) (T := TX7) (N := 12) hx hb hts (fun _ h => List.mem_cons_of_mem _ (inAX7 _ h)) hown hK.1 hP 1 rfl rfl 0 (by decide) (va_Nw.use rfl (nz_at hK.2.1 1 (w := .fieldLinkNest "ClapBank$Hearing" 42 "ClapBank$Theatre" "palms" "I" "ClapBank") rfl)) (fun _ h9 => h9) rfl dX4_roomBehind_9 ?_
      refine bc_ge (tgt := 60) (X := l4_3.toInt) (Y := tpalms.toInt) hx hb rfl rfl dX4_roomBehind_12 (by decide) (fun c2 => ?_) (fun c2 => ?_)
      · skip
        have h4_ := s4_rng (p := l4_3.toInt) (by omega) (by omega)
        have hw_n3 : 0 ≤ l4_2.toInt ∧ l4_2.toInt ≤ 1023 := by omega
        refine lv_iload_n hx hb dX4_roomBehind_60 rfl (lv_at hl 1 rfl) ?_
        refine W.widen (k := 0) (n := 0) (Nat.le_of_ble_eq_true rfl) (Nat.le_of_ble_eq_true rfl) ?_
        exact ro_i hx hb hr hlocks (l4_2) rfl (⟨(show -1 ≤ (l4_2 : Int32).toInt ∧ (l4_2 : Int32).toInt ≤ 1023 from (by have h9 := i_rng (l4_2); omega)), (hF4_0 _ (fx_s (Or.inl (⟨c2, rfl⟩))))⟩) (hP.sub [0, 1, 2, 3, 4, 5, 6, 7] rfl) (hD.sub [0, 1, 2, 3, 4, 5, 6, 7] (by decide) rfl) hS dX4_roomBehind_61
      · skip
        have h4_ := s4_step (p := l4_3.toInt) (by omega) (by omega)
        have hw_n4 : 0 ≤ l4_2.toInt ∧ l4_2.toInt ≤ 255 := by omega
        refine lv_aload_n hx hb dX4_roomBehind_15 rfl (lv_at hl 2 rfl) ?_
        refine va_get (D := D) (ci := 4) (v := .ref t) (C := RX4) (T := TX4) (N := 9) hx hb hts (fun _ h => List.mem_cons_of_mem _ (inAX4 _ h)) hown hK.1 hP 0 rfl rfl 0 (by decide) (hts (.fieldLink RX4 12 "ClapBank$Hearing" "house" "LClapBank$Theatre;") (List.mem_cons_of_mem _ W_221)) (fun _ h9 => h9) rfl dX4_roomBehind_16 ?_
        refine va_getN (D := D) (ci := 7) (v := .ref tclaps) (C := RX7) (T := TX7) (N := 12) hx hb hts (fun _ h => List.mem_cons_of_mem _ (inAX7 _ h)) hown hK.1 hP 1 rfl rfl 1 (by decide) (va_Nw.use rfl (nz_at hK.2.1 6 (w := .fieldLinkNest "ClapBank$Hearing" 81 "ClapBank$Theatre" "claps" "[I" "ClapBank") rfl)) (fun _ h9 => h9) rfl dX4_roomBehind_19 ?_
        refine lv_iload_n hx hb dX4_roomBehind_22 rfl (lv_at hl 0 rfl) ?_
        refine va_iald hx hb hK.1 hP 2 0 rfl rfl (i_in (X := l4_3.toInt) rfl (by omega) (by omega)) dX4_roomBehind_23 ?_
        refine lv_topi (fun z5 ez5 => ?_)
        refine lv_iload_n hx hb dX4_roomBehind_24 rfl (lv_at hl 3 rfl) ?_
        refine lv_iconst (v := 2) hx hb dX4_roomBehind_25 (by decide) ?_
        refine lv_iload_n hx hb dX4_roomBehind_26 rfl (lv_at hl 0 rfl) ?_
        refine lv_imul hx hb dX4_roomBehind_27 ?_
        refine lv_topi (fun z6 ez6 => ?_)
        have iz6 : z6.toInt = (2) * (l4_3.toInt) := by rw [ez6]; exact (i_mul (X := 2) (Y := l4_3.toInt) (by decide) rfl (by have h8 := i_rng (2); have h9 := i_rng (l4_3); omega) (by have h8 := i_rng (2); have h9 := i_rng (l4_3); omega)).trans (by omega)
        refine lv_ishr hx hb dX4_roomBehind_28 ?_
        refine lv_topi (fun z7 ez7 => ?_)
        refine lv_iconst (v := 3) hx hb dX4_roomBehind_29 (by decide) ?_
        refine lv_iand hx hb dX4_roomBehind_30 ?_
        refine lv_topi (fun z8 ez8 => ?_)
        have hv_z8 : 0 ≤ z8.toInt ∧ z8.toInt ≤ 3 := by rw [ez8]; exact i_and _ 2 (by decide) (by decide)
        refine lv_isub hx hb dX4_roomBehind_31 ?_
        refine lv_topi (fun z9 ez9 => ?_)
        refine lv_istore (lv' := [(4, .int z9), (3, .int l4_3), (2, .int l4_2), (0, .ref h), (1, .int a)]) hx hb dX4_roomBehind_32 hl (by decide) rfl (fun ls hl => ?_)
        refine lv_iload hx hb dX4_roomBehind_34 (lv_at hl 0 rfl) ?_
        refine bi_ge (tgt := 41) (X := z9.toInt) hx hb rfl dX4_roomBehind_36 (by decide) (fun c10 => ?_) (fun c10 => ?_)
        · skip
          refine lv_iload_n hx hb dX4_roomBehind_41 rfl (lv_at hl 2 rfl) ?_
          refine lv_iconst (v := 3) hx hb dX4_roomBehind_42 (by decide) ?_
          refine lv_iload hx hb dX4_roomBehind_43 (lv_at hl 0 rfl) ?_
          refine va_mmin hx hb (hml.trans hl.1.symm) hown (hts (.methodLink RX4 51 Lib.Math.min.name) (List.mem_cons_of_mem _ W_234)) (hts (.static Lib.Math.min.name) (List.mem_cons_of_mem _ W_203)) (hts (.initialized "java/lang/Math") (List.mem_cons_of_mem _ W_131)) (hts (.code Lib.Math.min.name Lib.Math.min.code 2 (some .int)) (List.mem_cons_of_mem _ W_204)) (Nat.le_of_ble_eq_true rfl) (Nat.le_of_ble_eq_true rfl) (Nat.le_of_ble_eq_true rfl) (Nat.le_of_ble_eq_true rfl) dX4_roomBehind_45 ?_
          refine lv_topi (fun z11 ez11 => ?_)
          have hmm_z11 : z11.toInt = min (3) (z9.toInt) := by rw [ez11]; exact i_min (X := 3) (Y := z9.toInt) (by decide) rfl
          refine lv_iconst (v := 2) hx hb dX4_roomBehind_48 (by decide) ?_
          refine lv_iload_n hx hb dX4_roomBehind_49 rfl (lv_at hl 1 rfl) ?_
          refine lv_imul hx hb dX4_roomBehind_50 ?_
          refine lv_topi (fun z12 ez12 => ?_)
          have iz12 : z12.toInt = (2) * (l4_3.toInt) := by rw [ez12]; exact (i_mul (X := 2) (Y := l4_3.toInt) (by decide) rfl (by have h8 := i_rng (2); have h9 := i_rng (l4_3); omega) (by have h8 := i_rng (2); have h9 := i_rng (l4_3); omega)).trans (by omega)
          refine lv_ishl hx hb dX4_roomBehind_51 ?_
          refine lv_topi (fun z13 ez13 => ?_)
          have hs_z13 : 0 ≤ z13.toInt ∧ z13.toInt ≤ 3 * s4 l4_3.toInt := by rw [ez13]; exact shl4m (M := z11.toInt) rfl (by omega) (by omega) (by omega) (by omega) (by omega)
          refine lv_iadd hx hb dX4_roomBehind_52 ?_
          refine lv_topi (fun z14 ez14 => ?_)
          have iz14 : z14.toInt = (l4_2.toInt) + (z13.toInt) := by rw [ez14]; exact (i_add (X := l4_2.toInt) (Y := z13.toInt) rfl rfl (by have h8 := i_rng (l4_2); have h9 := i_rng (z13); omega) (by have h8 := i_rng (l4_2); have h9 := i_rng (z13); omega)).trans (by omega)
          refine lv_istore_n (lv' := [(2, .int z14), (4, .int z9), (3, .int l4_3), (0, .ref h), (1, .int a)]) hx hb dX4_roomBehind_53 rfl hl (by decide) rfl (fun ls hl => ?_)
          obtain ⟨z15, ez15⟩ : ∃ y : Int32, y = l4_3 + 1 := ⟨_, rfl⟩
          have iz15 : z15.toInt = l4_3.toInt + 1 := by rw [ez15]; exact (i_add (X := l4_3.toInt) (Y := 1) rfl (by decide) (by have h8 := i_rng (l4_3); have h9 := i_rng (1); omega) (by have h8 := i_rng (l4_3); have h9 := i_rng (1); omega)).trans (by omega)
          refine lv_iinc (v := z15) (lv' := [(3, .int z15), (2, .int z14), (4, .int z9), (0, .ref h), (1, .int a)]) hx hb dX4_roomBehind_54 hl (k := 2) rfl (by rw [ez15]; rfl) (by decide) rfl (fun ls hl => ?_)
          refine lv_goto (tgt := 4) hx hb dX4_roomBehind_57 (by decide) ?_
          exact ih4 (z15) (z14) _ _ _ (by have h9 := i_rng (z15); omega) (by have h9 := i_rng (z14); omega) (by rw [iz15]; omega) (fun _ hf_ => (hF4_0 _ (fx_s (Or.inr (⟨c2, ⟨_, ez5, ⟨_, ez6, ⟨_, ez7, ⟨_, ez8, ⟨_, ez9, Or.inl (⟨c10, ⟨_, ez11, ⟨_, ez12, ⟨_, ez13, ⟨_, ez14, ⟨_, ez15, hf_⟩⟩⟩⟩⟩⟩)⟩⟩⟩⟩⟩⟩))))) (by first | omega | decide) (hP.sub [0, 1, 2, 3, 4, 5, 6, 7] rfl) (hD.sub [0, 1, 2, 3, 4, 5, 6, 7] (by decide) rfl) hS (lv_sub hl [0, 1, 3, 4] rfl)
        · skip
          refine lv_iconst (v := (-1)) hx hb dX4_roomBehind_39 (by decide) ?_
          refine W.widen (k := 0) (n := 0) (Nat.le_of_ble_eq_true rfl) (Nat.le_of_ble_eq_true rfl) ?_
          exact ro_i hx hb hr hlocks ((-1)) rfl (⟨(show -1 ≤ ((-1) : Int32).toInt ∧ ((-1) : Int32).toInt ≤ 1023 from (by decide)), (hF4_0 _ (fx_s (Or.inr (⟨c2, ⟨_, ez5, ⟨_, ez6, ⟨_, ez7, ⟨_, ez8, ⟨_, ez9, Or.inr (⟨c10, rfl⟩)⟩⟩⟩⟩⟩⟩))))⟩) (hP.sub [0, 1, 2, 3, 4, 5, 6, 7] rfl) (hD.sub [0, 1, 2, 3, 4, 5, 6, 7] (by decide) rfl) hS dX4_roomBehind_40
  exact lp4_0 7 (0) (0) _ _ _ (by decide) (by decide) (by decide) (fun _ hf_ => (hf_)) (by have hc0_ : (0 : Int32).toInt = 0 := (by decide); have hc1_ : (0 : Int32).toInt = 0 := (by decide); first | omega | decide) (hP.sub [0, 1, 2, 3, 4, 5, 6, 7] rfl) (hD.sub [0, 1, 2, 3, 4, 5, 6, 7] (by decide) rfl) hS (lv_sub hl [0, 1, 2, 3] rfl)
set_option maxHeartbeats 4000000 in
set_option maxRecDepth 100000 in
theorem k_spread (l : Launch) (D : va_G) (cI cB cJ cZ cT : ClassId) (h : Nat) (f : Nat) (ghalvesOf : Nat) (gonceOf : Nat) (b : Int32) (d : Int32) (k : Int32) (gsets : Int32) (gany : Int32) (gall : Int32) (ghouse : Value) (gdark : Value) (gearly : Value) (glate : Value) (g_halvesOf : Nat → Int32) (g_onceOf : Nat → Int32) (mf : Nat → Int32) (h_gsets : 1 ≤ gsets.toInt ∧ gsets.toInt ≤ 32) (h_b : 0 ≤ b.toInt ∧ b.toInt ≤ 1023) (hon_ : On (gsets.toInt) 1024 g_onceOf) : Co l yX4_spread wsX4_spread ({ frames := 0, cells := 0, slots := 0, locals := 0 }) D (tyL cI cB cJ cZ cT) [.ref h, .ref f, .int b, .int d, .int k] [(h, .inr (4, [ghouse, gdark, gearly, glate, .ref ghalvesOf, .ref gonceOf, .int gsets, .int gany, .int gall])), (ghalvesOf, .inl (cI, 32, .inl g_halvesOf)), (gonceOf, .inl (cI, 32, .inl g_onceOf)), (f, .inl (cI, 1024, .inl mf))] (fun u : (Nat → Int32) => none) (fun u : (Nat → Int32) => (R_k_spread mf b gsets g_onceOf g_halvesOf d k u)) (fun u : (Nat → Int32) => [(h, .inr (4, [ghouse, gdark, gearly, glate, .ref ghalvesOf, .ref gonceOf, .int gsets, .int gany, .int gall])), (ghalvesOf, .inl (cI, 32, .inl g_halvesOf)), (gonceOf, .inl (cI, 32, .inl g_onceOf)), (f, .inl (cI, 1024, .inl u))]) 0 0 := by
  refine entry (cc := cX4_spread) (maxL := 8) (ret := none) (by decide) rfl (Nat.le_of_ble_eq_true rfl) ?_
  intro p e s m below meth c A ls hx hb hr hml hts hown hlocks hname hK hP hD hS hA hl
  have hown : s.vm.findClass RX4 = some m.cls := hown
  have hl : lv_has ls 8 [(0, .ref h), (1, .ref f), (2, .int b), (3, .int d), (4, .int k)] := hl
  refine lv_aload_n hx hb dX4_spread_0 rfl (lv_at hl 1 rfl) ?_
  refine lv_iload_n hx hb dX4_spread_1 rfl (lv_at hl 2 rfl) ?_
  refine va_iald hx hb hK.1 hP 3 0 rfl rfl (i_in (X := b.toInt) rfl (by omega) (by omega)) dX4_spread_2 ?_
  refine lv_topi (fun z1 ez1 => ?_)
  refine lv_istore (lv' := [(5, .int z1), (0, .ref h), (1, .ref f), (2, .int b), (3, .int d), (4, .int k)]) hx hb dX4_spread_3 hl (by decide) rfl (fun ls hl => ?_)
  refine lv_aload_n hx hb dX4_spread_5 rfl (lv_at hl 2 rfl) ?_
  refine lv_iload_n hx hb dX4_spread_6 rfl (lv_at hl 3 rfl) ?_
  refine lv_iconst (v := 0) hx hb dX4_spread_7 (by decide) ?_
  refine va_iast hx hb hK.1 hP hD hS 3 0 rfl rfl (i_in (X := b.toInt) rfl (by omega) (by omega)) dX4_spread_8 (fun H locs hP hD hS => ?_)
  have hP : va_P D vwCl [(h, .inr (4, [ghouse, gdark, gearly, glate, .ref ghalvesOf, .ref gonceOf, .int gsets, .int gany, .int gall])), (ghalvesOf, .inl (cI, 32, .inl g_halvesOf)), (gonceOf, .inl (cI, 32, .inl g_onceOf)), (f, .inl (cI, 1024, .inl (upd mf (Int32.toNatClampNeg b) 0)))] H := hP
  have hD : va_D A [(h, .inr (4, [ghouse, gdark, gearly, glate, .ref ghalvesOf, .ref gonceOf, .int gsets, .int gany, .int gall])), (ghalvesOf, .inl (cI, 32, .inl g_halvesOf)), (gonceOf, .inl (cI, 32, .inl g_onceOf)), (f, .inl (cI, 1024, .inl (upd mf (Int32.toNatClampNeg b) 0)))] := hD
  generalize hu_g2 : (upd mf (Int32.toNatClampNeg b) 0) = g2 at hP hD
  refine lv_iconst (v := 0) hx hb dX4_spread_9 (by decide) ?_
  refine lv_istore (lv' := [(6, .int 0), (5, .int z1), (0, .ref h), (1, .ref f), (2, .int b), (3, .int d), (4, .int k)]) hx hb dX4_spread_10 hl (by decide) rfl (fun ls hl => ?_)
  have lp12_2 : ∀ (nf12 : Nat) (l12_6 : Int32) (a12_f : Nat → Int32) (H : Heap) (locs : List Loc) (ls : Array Slot), (0 ≤ l12_6.toInt ∧ l12_6.toInt ≤ 32) → (∀ (u0_ : Nat → Int32), fx (T_k_spread_12 gsets g_onceOf b g_halvesOf d k z1 u0_) nf12 (l12_6, a12_f) → R_k_spread mf b gsets g_onceOf g_halvesOf d k u0_) → (32 - l12_6.toInt < (nf12 : Int)) → va_P D vwCl [(h, .inr (4, [ghouse, gdark, gearly, glate, .ref ghalvesOf, .ref gonceOf, .int gsets, .int gany, .int gall])), (ghalvesOf, .inl (cI, 32, .inl g_halvesOf)), (gonceOf, .inl (cI, 32, .inl g_onceOf)), (f, .inl (cI, 1024, .inl a12_f))] H → va_D A [(h, .inr (4, [ghouse, gdark, gearly, glate, .ref ghalvesOf, .ref gonceOf, .int gsets, .int gany, .int gall])), (ghalvesOf, .inl (cI, 32, .inl g_halvesOf)), (gonceOf, .inl (cI, 32, .inl g_onceOf)), (f, .inl (cI, 1024, .inl a12_f))] → va_S A s.heap H locs → lv_has ls 8 [(6, .int l12_6), (5, .int z1), (0, .ref h), (1, .ref f), (2, .int b), (3, .int d), (4, .int k)] → W p l e ({ frames := 0, cells := 0, slots := 0, locals := 0 }) s m ([.ref h, .ref f, .int b, .int d, .int k] : List Value).toArray below meth c H locs 0 0 (MQ below (Qo (fun u : (Nat → Int32) => none) (fun u : (Nat → Int32) => (R_k_spread mf b gsets g_onceOf g_halvesOf d k u)) (BW D A (fun u : (Nat → Int32) => [(h, .inr (4, [ghouse, gdark, gearly, glate, .ref ghalvesOf, .ref gonceOf, .int gsets, .int gany, .int gall])), (ghalvesOf, .inl (cI, 32, .inl g_halvesOf)), (gonceOf, .inl (cI, 32, .inl g_onceOf)), (f, .inl (cI, 1024, .inl u))])) A) ([.ref h, .ref f, .int b, .int d, .int k] : List Value).toArray s 0 0 A) (F0 m 12 ls []) := by
    intro nf12
    induction nf12 with
    | zero => intro l12_6 a12_f H locs ls h_l12_6 hF12_2 hm12; exact absurd hm12 (by omega)
    | succ nf12 ih12 =>
      intro l12_6 a12_f H locs ls h_l12_6 hF12_2 hm12 hP hD hS hl
      refine lv_iload hx hb dX4_spread_12 (lv_at hl 0 rfl) ?_
      refine lv_aload_n hx hb dX4_spread_14 rfl (lv_at hl 2 rfl) ?_
      refine va_get (D := D) (ci := 4) (v := .int gsets) (C := RX4) (T := TX4) (N := 9) hx hb hts (fun _ h => List.mem_cons_of_mem _ (inAX4 _ h)) hown hK.1 hP 0 rfl rfl 6 (by decide) (hts (.fieldLink RX4 38 "ClapBank$Hearing" "sets" "I") (List.mem_cons_of_mem _ W_232)) (fun _ h9 => h9) rfl dX4_spread_15 ?_
      refine bc_ge (tgt := 79) (X := l12_6.toInt) (Y := gsets.toInt) hx hb rfl rfl dX4_spread_18 (by decide) (fun c4 => ?_) (fun c4 => ?_)
      · skip
        refine W.widen (k := 0) (n := 0) (Nat.le_of_ble_eq_true rfl) (Nat.le_of_ble_eq_true rfl) ?_
        exact ro_v hx hb hr hlocks (a12_f) rfl ((hF12_2 _ (fx_s (Or.inl (⟨c4, rfl⟩))))) (hP.sub [0, 1, 2, 3] rfl) (hD.sub [0, 1, 2, 3] (by decide) rfl) hS dX4_spread_79
      · skip
        refine lv_iload_n hx hb dX4_spread_21 rfl (lv_at hl 4 rfl) ?_
        refine lv_aload_n hx hb dX4_spread_22 rfl (lv_at hl 2 rfl) ?_
        refine va_get (D := D) (ci := 4) (v := .ref gonceOf) (C := RX4) (T := TX4) (N := 9) hx hb hts (fun _ h => List.mem_cons_of_mem _ (inAX4 _ h)) hown hK.1 hP 0 rfl rfl 5 (by decide) (hts (.fieldLink RX4 35 "ClapBank$Hearing" "onceOf" "[I") (List.mem_cons_of_mem _ W_229)) (fun _ h9 => h9) rfl dX4_spread_23 ?_
        refine lv_iload hx hb dX4_spread_26 (lv_at hl 0 rfl) ?_
        refine va_iald hx hb hK.1 hP 2 0 rfl rfl (i_in (X := l12_6.toInt) rfl (by omega) (by omega)) dX4_spread_28 ?_
        refine lv_topi (fun z5 ez5 => ?_)
        have hu_z5 : 0 ≤ z5.toInt ∧ z5.toInt < 1024 := by rw [ez5]; exact On_at (X := l12_6.toInt) hon_ rfl (by omega) (by omega)
        refine lv_iadd hx hb dX4_spread_29 ?_
        refine lv_topi (fun z6 ez6 => ?_)
        have iz6 : z6.toInt = (b.toInt) + (z5.toInt) := by rw [ez6]; exact (i_add (X := b.toInt) (Y := z5.toInt) rfl rfl (by have h8 := i_rng (b); have h9 := i_rng (z5); omega) (by have h8 := i_rng (b); have h9 := i_rng (z5); omega)).trans (by omega)
        refine lv_istore (lv' := [(7, .int z6), (6, .int l12_6), (5, .int z1), (0, .ref h), (1, .ref f), (2, .int b), (3, .int d), (4, .int k)]) hx hb dX4_spread_30 hl (by decide) rfl (fun ls hl => ?_)
        refine lv_aload_n hx hb dX4_spread_32 rfl (lv_at hl 3 rfl) ?_
        refine va_get (D := D) (ci := 4) (v := .ref ghalvesOf) (C := RX4) (T := TX4) (N := 9) hx hb hts (fun _ h => List.mem_cons_of_mem _ (inAX4 _ h)) hown hK.1 hP 0 rfl rfl 4 (by decide) (hts (.fieldLink RX4 32 "ClapBank$Hearing" "halvesOf" "[I") (List.mem_cons_of_mem _ W_228)) (fun _ h9 => h9) rfl dX4_spread_33 ?_
        refine lv_iload hx hb dX4_spread_36 (lv_at hl 1 rfl) ?_
        refine va_iald hx hb hK.1 hP 1 0 rfl rfl (i_in (X := l12_6.toInt) rfl (by omega) (by omega)) dX4_spread_38 ?_
        refine lv_topi (fun z7 ez7 => ?_)
        refine lv_iload_n hx hb dX4_spread_39 rfl (lv_at hl 6 rfl) ?_
        have hg_r8 := i_rng d
        have hg_r9 := i_rng z7
        refine bc_ne (tgt := 73) (X := z7.toInt) (Y := d.toInt) hx hb rfl rfl dX4_spread_40 (by decide) (fun c10 => ?_) (fun c10 => ?_)
        · skip
          obtain ⟨z11, ez11⟩ : ∃ y : Int32, y = l12_6 + 1 := ⟨_, rfl⟩
          have iz11 : z11.toInt = l12_6.toInt + 1 := by rw [ez11]; exact (i_add (X := l12_6.toInt) (Y := 1) rfl (by decide) (by have h8 := i_rng (l12_6); have h9 := i_rng (1); omega) (by have h8 := i_rng (l12_6); have h9 := i_rng (1); omega)).trans (by omega)
          refine lv_iinc (v := z11) (lv' := [(6, .int z11), (7, .int z6), (5, .int z1), (0, .ref h), (1, .ref f), (2, .int b), (3, .int d), (4, .int k)]) hx hb dX4_spread_73 hl (k := 1) rfl (by rw [ez11]; rfl) (by decide) rfl (fun ls hl => ?_)
          refine lv_goto (tgt := 12) hx hb dX4_spread_76 (by decide) ?_
          exact ih12 (z11) (a12_f) _ _ _ (by have h9 := i_rng (z11); omega) (fun _ hf_ => (hF12_2 _ (fx_s (Or.inr (⟨c4, ⟨_, ez5, ⟨_, ez6, ⟨_, ez7, Or.inl (⟨c10, ⟨_, ez11, hf_⟩⟩)⟩⟩⟩⟩))))) (by first | omega | decide) (hP.sub [0, 1, 2, 3] rfl) (hD.sub [0, 1, 2, 3] (by decide) rfl) hS (lv_sub hl [0, 2, 3, 4, 5, 6, 7] rfl)
        · skip
          refine lv_iload hx hb dX4_spread_43 (lv_at hl 7 rfl) ?_
          refine lv_iconst (v := (-1)) hx hb dX4_spread_45 (by decide) ?_
          have hg_r12 := i_rng k
          refine bc_eq (tgt := 56) (X := k.toInt) (Y := -1) hx hb rfl (by decide) dX4_spread_46 (by decide) (fun c13 => ?_) (fun c13 => ?_)
          · skip
            refine lv_iload hx hb dX4_spread_56 (lv_at hl 0 rfl) ?_
            refine lv_sipush (v := 1024) hx hb dX4_spread_58 (by decide) ?_
            refine bc_ge (tgt := 73) (X := z6.toInt) (Y := 1024) hx hb rfl (by decide) dX4_spread_61 (by decide) (fun c14 => ?_) (fun c14 => ?_)
            · skip
              obtain ⟨z15, ez15⟩ : ∃ y : Int32, y = l12_6 + 1 := ⟨_, rfl⟩
              have iz15 : z15.toInt = l12_6.toInt + 1 := by rw [ez15]; exact (i_add (X := l12_6.toInt) (Y := 1) rfl (by decide) (by have h8 := i_rng (l12_6); have h9 := i_rng (1); omega) (by have h8 := i_rng (l12_6); have h9 := i_rng (1); omega)).trans (by omega)
              refine lv_iinc (v := z15) (lv' := [(6, .int z15), (7, .int z6), (5, .int z1), (0, .ref h), (1, .ref f), (2, .int b), (3, .int d), (4, .int k)]) hx hb dX4_spread_73 hl (k := 1) rfl (by rw [ez15]; rfl) (by decide) rfl (fun ls hl => ?_)
              refine lv_goto (tgt := 12) hx hb dX4_spread_76 (by decide) ?_
              exact ih12 (z15) (a12_f) _ _ _ (by have h9 := i_rng (z15); omega) (fun _ hf_ => (hF12_2 _ (fx_s (Or.inr (⟨c4, ⟨_, ez5, ⟨_, ez6, ⟨_, ez7, Or.inr (⟨c10, Or.inl (⟨c13, Or.inl (⟨c14, ⟨_, ez15, hf_⟩⟩)⟩)⟩)⟩⟩⟩⟩))))) (by first | omega | decide) (hP.sub [0, 1, 2, 3] rfl) (hD.sub [0, 1, 2, 3] (by decide) rfl) hS (lv_sub hl [0, 2, 3, 4, 5, 6, 7] rfl)
            · skip
              refine lv_aload_n hx hb dX4_spread_64 rfl (lv_at hl 4 rfl) ?_
              refine lv_iload hx hb dX4_spread_65 (lv_at hl 0 rfl) ?_
              refine lv_dup2_11 hx hb dX4_spread_67 rfl rfl ?_
              refine va_iald hx hb hK.1 hP 3 0 rfl rfl (i_in (X := z6.toInt) rfl (by omega) (by omega)) dX4_spread_68 ?_
              refine lv_topi (fun z16 ez16 => ?_)
              refine lv_iload hx hb dX4_spread_69 (lv_at hl 2 rfl) ?_
              refine lv_iadd hx hb dX4_spread_71 ?_
              refine lv_topi (fun z17 ez17 => ?_)
              refine va_iast hx hb hK.1 hP hD hS 3 0 rfl rfl (i_in (X := z6.toInt) rfl (by omega) (by omega)) dX4_spread_72 (fun H locs hP hD hS => ?_)
              have hP : va_P D vwCl [(h, .inr (4, [ghouse, gdark, gearly, glate, .ref ghalvesOf, .ref gonceOf, .int gsets, .int gany, .int gall])), (ghalvesOf, .inl (cI, 32, .inl g_halvesOf)), (gonceOf, .inl (cI, 32, .inl g_onceOf)), (f, .inl (cI, 1024, .inl (upd a12_f (Int32.toNatClampNeg z6) z17)))] H := hP
              have hD : va_D A [(h, .inr (4, [ghouse, gdark, gearly, glate, .ref ghalvesOf, .ref gonceOf, .int gsets, .int gany, .int gall])), (ghalvesOf, .inl (cI, 32, .inl g_halvesOf)), (gonceOf, .inl (cI, 32, .inl g_onceOf)), (f, .inl (cI, 1024, .inl (upd a12_f (Int32.toNatClampNeg z6) z17)))] := hD
              generalize hu_g18 : (upd a12_f (Int32.toNatClampNeg z6) z17) = g18 at hP hD
              obtain ⟨z19, ez19⟩ : ∃ y : Int32, y = l12_6 + 1 := ⟨_, rfl⟩
              have iz19 : z19.toInt = l12_6.toInt + 1 := by rw [ez19]; exact (i_add (X := l12_6.toInt) (Y := 1) rfl (by decide) (by have h8 := i_rng (l12_6); have h9 := i_rng (1); omega) (by have h8 := i_rng (l12_6); have h9 := i_rng (1); omega)).trans (by omega)
              refine lv_iinc (v := z19) (lv' := [(6, .int z19), (7, .int z6), (5, .int z1), (0, .ref h), (1, .ref f), (2, .int b), (3, .int d), (4, .int k)]) hx hb dX4_spread_73 hl (k := 1) rfl (by rw [ez19]; rfl) (by decide) rfl (fun ls hl => ?_)
              refine lv_goto (tgt := 12) hx hb dX4_spread_76 (by decide) ?_
              exact ih12 (z19) (g18) _ _ _ (by have h9 := i_rng (z19); omega) (fun _ hf_ => (hF12_2 _ (fx_s (Or.inr (⟨c4, ⟨_, ez5, ⟨_, ez6, ⟨_, ez7, Or.inr (⟨c10, Or.inl (⟨c13, Or.inr (⟨c14, ⟨_, ez16, ⟨_, ez17, ⟨_, hu_g18, ⟨_, ez19, hf_⟩⟩⟩⟩⟩)⟩)⟩)⟩⟩⟩⟩))))) (by first | omega | decide) (hP.sub [0, 1, 2, 3] rfl) (hD.sub [0, 1, 2, 3] (by decide) rfl) hS (lv_sub hl [0, 2, 3, 4, 5, 6, 7] rfl)
          · skip
            refine lv_iload hx hb dX4_spread_49 (lv_at hl 7 rfl) ?_
            refine lv_iload hx hb dX4_spread_51 (lv_at hl 1 rfl) ?_
            have hg_r20 := i_rng k
            refine bc_ne (tgt := 73) (X := k.toInt) (Y := l12_6.toInt) hx hb rfl rfl dX4_spread_53 (by decide) (fun c21 => ?_) (fun c21 => ?_)
            · skip
              obtain ⟨z22, ez22⟩ : ∃ y : Int32, y = l12_6 + 1 := ⟨_, rfl⟩
              have iz22 : z22.toInt = l12_6.toInt + 1 := by rw [ez22]; exact (i_add (X := l12_6.toInt) (Y := 1) rfl (by decide) (by have h8 := i_rng (l12_6); have h9 := i_rng (1); omega) (by have h8 := i_rng (l12_6); have h9 := i_rng (1); omega)).trans (by omega)
              refine lv_iinc (v := z22) (lv' := [(6, .int z22), (7, .int z6), (5, .int z1), (0, .ref h), (1, .ref f), (2, .int b), (3, .int d), (4, .int k)]) hx hb dX4_spread_73 hl (k := 1) rfl (by rw [ez22]; rfl) (by decide) rfl (fun ls hl => ?_)
              refine lv_goto (tgt := 12) hx hb dX4_spread_76 (by decide) ?_
              exact ih12 (z22) (a12_f) _ _ _ (by have h9 := i_rng (z22); omega) (fun _ hf_ => (hF12_2 _ (fx_s (Or.inr (⟨c4, ⟨_, ez5, ⟨_, ez6, ⟨_, ez7, Or.inr (⟨c10, Or.inr (⟨c13, Or.inl (⟨c21, ⟨_, ez22, hf_⟩⟩)⟩)⟩)⟩⟩⟩⟩))))) (by first | omega | decide) (hP.sub [0, 1, 2, 3] rfl) (hD.sub [0, 1, 2, 3] (by decide) rfl) hS (lv_sub hl [0, 2, 3, 4, 5, 6, 7] rfl)
            · skip
              refine lv_iload hx hb dX4_spread_56 (lv_at hl 0 rfl) ?_
              refine lv_sipush (v := 1024) hx hb dX4_spread_58 (by decide) ?_
              refine bc_ge (tgt := 73) (X := z6.toInt) (Y := 1024) hx hb rfl (by decide) dX4_spread_61 (by decide) (fun c23 => ?_) (fun c23 => ?_)
              · skip
                obtain ⟨z24, ez24⟩ : ∃ y : Int32, y = l12_6 + 1 := ⟨_, rfl⟩
                have iz24 : z24.toInt = l12_6.toInt + 1 := by rw [ez24]; exact (i_add (X := l12_6.toInt) (Y := 1) rfl (by decide) (by have h8 := i_rng (l12_6); have h9 := i_rng (1); omega) (by have h8 := i_rng (l12_6); have h9 := i_rng (1); omega)).trans (by omega)
                refine lv_iinc (v := z24) (lv' := [(6, .int z24), (7, .int z6), (5, .int z1), (0, .ref h), (1, .ref f), (2, .int b), (3, .int d), (4, .int k)]) hx hb dX4_spread_73 hl (k := 1) rfl (by rw [ez24]; rfl) (by decide) rfl (fun ls hl => ?_)
                refine lv_goto (tgt := 12) hx hb dX4_spread_76 (by decide) ?_
                exact ih12 (z24) (a12_f) _ _ _ (by have h9 := i_rng (z24); omega) (fun _ hf_ => (hF12_2 _ (fx_s (Or.inr (⟨c4, ⟨_, ez5, ⟨_, ez6, ⟨_, ez7, Or.inr (⟨c10, Or.inr (⟨c13, Or.inr (⟨c21, Or.inl (⟨c23, ⟨_, ez24, hf_⟩⟩)⟩)⟩)⟩)⟩⟩⟩⟩))))) (by first | omega | decide) (hP.sub [0, 1, 2, 3] rfl) (hD.sub [0, 1, 2, 3] (by decide) rfl) hS (lv_sub hl [0, 2, 3, 4, 5, 6, 7] rfl)
              · skip
                refine lv_aload_n hx hb dX4_spread_64 rfl (lv_at hl 4 rfl) ?_
                refine lv_iload hx hb dX4_spread_65 (lv_at hl 0 rfl) ?_
                refine lv_dup2_11 hx hb dX4_spread_67 rfl rfl ?_
                refine va_iald hx hb hK.1 hP 3 0 rfl rfl (i_in (X := z6.toInt) rfl (by omega) (by omega)) dX4_spread_68 ?_
                refine lv_topi (fun z25 ez25 => ?_)
                refine lv_iload hx hb dX4_spread_69 (lv_at hl 2 rfl) ?_
                refine lv_iadd hx hb dX4_spread_71 ?_
                refine lv_topi (fun z26 ez26 => ?_)
                refine va_iast hx hb hK.1 hP hD hS 3 0 rfl rfl (i_in (X := z6.toInt) rfl (by omega) (by omega)) dX4_spread_72 (fun H locs hP hD hS => ?_)
                have hP : va_P D vwCl [(h, .inr (4, [ghouse, gdark, gearly, glate, .ref ghalvesOf, .ref gonceOf, .int gsets, .int gany, .int gall])), (ghalvesOf, .inl (cI, 32, .inl g_halvesOf)), (gonceOf, .inl (cI, 32, .inl g_onceOf)), (f, .inl (cI, 1024, .inl (upd a12_f (Int32.toNatClampNeg z6) z26)))] H := hP
                have hD : va_D A [(h, .inr (4, [ghouse, gdark, gearly, glate, .ref ghalvesOf, .ref gonceOf, .int gsets, .int gany, .int gall])), (ghalvesOf, .inl (cI, 32, .inl g_halvesOf)), (gonceOf, .inl (cI, 32, .inl g_onceOf)), (f, .inl (cI, 1024, .inl (upd a12_f (Int32.toNatClampNeg z6) z26)))] := hD
                generalize hu_g27 : (upd a12_f (Int32.toNatClampNeg z6) z26) = g27 at hP hD
                obtain ⟨z28, ez28⟩ : ∃ y : Int32, y = l12_6 + 1 := ⟨_, rfl⟩
                have iz28 : z28.toInt = l12_6.toInt + 1 := by rw [ez28]; exact (i_add (X := l12_6.toInt) (Y := 1) rfl (by decide) (by have h8 := i_rng (l12_6); have h9 := i_rng (1); omega) (by have h8 := i_rng (l12_6); have h9 := i_rng (1); omega)).trans (by omega)
                refine lv_iinc (v := z28) (lv' := [(6, .int z28), (7, .int z6), (5, .int z1), (0, .ref h), (1, .ref f), (2, .int b), (3, .int d), (4, .int k)]) hx hb dX4_spread_73 hl (k := 1) rfl (by rw [ez28]; rfl) (by decide) rfl (fun ls hl => ?_)
                refine lv_goto (tgt := 12) hx hb dX4_spread_76 (by decide) ?_
                exact ih12 (z28) (g27) _ _ _ (by have h9 := i_rng (z28); omega) (fun _ hf_ => (hF12_2 _ (fx_s (Or.inr (⟨c4, ⟨_, ez5, ⟨_, ez6, ⟨_, ez7, Or.inr (⟨c10, Or.inr (⟨c13, Or.inr (⟨c21, Or.inr (⟨c23, ⟨_, ez25, ⟨_, ez26, ⟨_, hu_g27, ⟨_, ez28, hf_⟩⟩⟩⟩⟩)⟩)⟩)⟩)⟩⟩⟩⟩))))) (by first | omega | decide) (hP.sub [0, 1, 2, 3] rfl) (hD.sub [0, 1, 2, 3] (by decide) rfl) hS (lv_sub hl [0, 2, 3, 4, 5, 6, 7] rfl)
  exact lp12_2 34 (0) (g2) _ _ _ (by decide) (fun _ hf_ => (⟨_, ez1, ⟨_, hu_g2, hf_⟩⟩)) (by have hc0_ : (0 : Int32).toInt = 0 := (by decide); first | omega | decide) (hP.sub [0, 1, 2, 3] rfl) (hD.sub [0, 1, 2, 3] (by decide) rfl) hS (lv_sub hl [0, 1, 2, 3, 4, 5, 6] rfl)
set_option maxHeartbeats 4000000 in
set_option maxRecDepth 100000 in
theorem k_fill (l : Launch) (D : va_G) (cI cB cJ cZ cT : ClassId) (h : Nat) (f : Nat) (n : Nat) (ghalvesOf : Nat) (gonceOf : Nat) (nhalves : Nat) (b : Int32) (d : Int32) (k : Int32) (j : Int32) (gsets : Int32) (gany : Int32) (gall : Int32) (nmin : Int32) (ghouse : Value) (gearly : Value) (glate : Value) (g_halvesOf : Nat → Int32) (g_onceOf : Nat → Int32) (mf : Nat → Int32) (n_halves : Nat → Int32) (h_gsets : 1 ≤ gsets.toInt ∧ gsets.toInt ≤ 32) (h_b : 0 ≤ b.toInt ∧ b.toInt ≤ 3) (h_d : 0 ≤ d.toInt ∧ d.toInt ≤ 6) (h_nmin : 0 ≤ nmin.toInt ∧ nmin.toInt ≤ 6) (hon_ : On (gsets.toInt) 1024 g_onceOf) : Co l yX4_fill wsX4_fill ({ frames := 1, cells := 0, slots := 0, locals := 27 }) D (tyL cI cB cJ cZ cT) [.ref h, .ref f, .int b, .int d, .int k, .int j] [(h, .inr (4, [ghouse, .ref n, gearly, glate, .ref ghalvesOf, .ref gonceOf, .int gsets, .int gany, .int gall])), (ghalvesOf, .inl (cI, 32, .inl g_halvesOf)), (gonceOf, .inl (cI, 32, .inl g_onceOf)), (f, .inl (cI, 1024, .inl mf)), (n, .inr (1, [.int nmin, .ref nhalves])), (nhalves, .inl (cI, 6, .inl n_halves))] (fun u : (Nat → Int32) => none) (fun u : (Nat → Int32) => (R_k_fill mf d n_halves k gsets g_onceOf g_halvesOf j b u)) (fun u : (Nat → Int32) => [(h, .inr (4, [ghouse, .ref n, gearly, glate, .ref ghalvesOf, .ref gonceOf, .int gsets, .int gany, .int gall])), (ghalvesOf, .inl (cI, 32, .inl g_halvesOf)), (gonceOf, .inl (cI, 32, .inl g_onceOf)), (f, .inl (cI, 1024, .inl u)), (n, .inr (1, [.int nmin, .ref nhalves])), (nhalves, .inl (cI, 6, .inl n_halves))]) 0 0 := by
  refine entry (cc := cX4_fill) (maxL := 8) (ret := none) (by decide) rfl (Nat.le_of_ble_eq_true rfl) ?_
  intro p e s m below meth c A ls hx hb hr hml hts hown hlocks hname hK hP hD hS hA hl
  have hown : s.vm.findClass RX4 = some m.cls := hown
  have hl : lv_has ls 8 [(0, .ref h), (1, .ref f), (2, .int b), (3, .int d), (4, .int k), (5, .int j)] := hl
  refine lv_aload_n hx hb dX4_fill_0 rfl (lv_at hl 1 rfl) ?_
  refine lv_iconst (v := 0) hx hb dX4_fill_1 (by decide) ?_
  refine doS (n := 2) (As := [.ref f, .int 0]) (rest := []) (wc := [(f, .inl (cI, 1024, .inl mf))]) (wr := [(h, .inr (4, [ghouse, .ref n, gearly, glate, .ref ghalvesOf, .ref gonceOf, .int gsets, .int gany, .int gall])), (ghalvesOf, .inl (cI, 32, .inl g_halvesOf)), (gonceOf, .inl (cI, 32, .inl g_onceOf)), (n, .inr (1, [.int nmin, .ref nhalves])), (nhalves, .inl (cI, 6, .inl n_halves))]) hx hb hml hown hts hK hP hD hS hA [3] [0, 1, 2, 4, 5] rfl rfl rfl rfl (by decide) (fill_1024 l D cI cB cJ cZ cT (f) (0) (mf)) gX4_fill_J7_fill_53178 rfl rfl rfl (by decide +kernel) ⟨Nat.le_of_ble_eq_true rfl, Nat.le_of_ble_eq_true rfl⟩ hl.1 rfl rfl (Nat.le_of_ble_eq_true rfl) dX4_fill_2 ⟨Nat.le_of_ble_eq_true rfl, Nat.le_of_ble_eq_true rfl⟩ (fun u H locs hw hP hD hS => ?_)
  obtain ⟨g0_1, rfl⟩ : ∃ z, z = u := ⟨_, rfl⟩
  have hP : va_P D vwCl [(h, .inr (4, [ghouse, .ref n, gearly, glate, .ref ghalvesOf, .ref gonceOf, .int gsets, .int gany, .int gall])), (ghalvesOf, .inl (cI, 32, .inl g_halvesOf)), (gonceOf, .inl (cI, 32, .inl g_onceOf)), (n, .inr (1, [.int nmin, .ref nhalves])), (nhalves, .inl (cI, 6, .inl n_halves)), (f, .inl (cI, 1024, .inl g0_1))] H := hP
  have hD : va_D A [(h, .inr (4, [ghouse, .ref n, gearly, glate, .ref ghalvesOf, .ref gonceOf, .int gsets, .int gany, .int gall])), (ghalvesOf, .inl (cI, 32, .inl g_halvesOf)), (gonceOf, .inl (cI, 32, .inl g_onceOf)), (n, .inr (1, [.int nmin, .ref nhalves])), (nhalves, .inl (cI, 6, .inl n_halves)), (f, .inl (cI, 1024, .inl g0_1))] := hD
  refine W.eq (g2 := F0 m 5 ls []) rfl ?_
  replace hw : (R_fill_1024 (0 : Int32) mf g0_1) := hw
  replace hw := hid hw
  have hxq_1 := hw
  refine lv_aload_n hx hb dX4_fill_5 rfl (lv_at hl 1 rfl) ?_
  refine lv_iconst (v := 0) hx hb dX4_fill_6 (by decide) ?_
  refine lv_iconst (v := 1) hx hb dX4_fill_7 (by decide) ?_
  refine va_iast hx hb hK.1 hP hD hS 5 0 rfl rfl (i_in (X := 0) (by decide) (by decide) (by decide)) dX4_fill_8 (fun H locs hP hD hS => ?_)
  have hP : va_P D vwCl [(h, .inr (4, [ghouse, .ref n, gearly, glate, .ref ghalvesOf, .ref gonceOf, .int gsets, .int gany, .int gall])), (ghalvesOf, .inl (cI, 32, .inl g_halvesOf)), (gonceOf, .inl (cI, 32, .inl g_onceOf)), (n, .inr (1, [.int nmin, .ref nhalves])), (nhalves, .inl (cI, 6, .inl n_halves)), (f, .inl (cI, 1024, .inl (upd g0_1 (Int32.toNatClampNeg 0) 1)))] H := hP
  have hD : va_D A [(h, .inr (4, [ghouse, .ref n, gearly, glate, .ref ghalvesOf, .ref gonceOf, .int gsets, .int gany, .int gall])), (ghalvesOf, .inl (cI, 32, .inl g_halvesOf)), (gonceOf, .inl (cI, 32, .inl g_onceOf)), (n, .inr (1, [.int nmin, .ref nhalves])), (nhalves, .inl (cI, 6, .inl n_halves)), (f, .inl (cI, 1024, .inl (upd g0_1 (Int32.toNatClampNeg 0) 1)))] := hD
  generalize hu_g3 : (upd g0_1 (Int32.toNatClampNeg 0) 1) = g3 at hP hD
  refine lv_iload_n hx hb dX4_fill_9 rfl (lv_at hl 2 rfl) ?_
  refine lv_istore (lv' := [(6, .int b), (0, .ref h), (1, .ref f), (2, .int b), (3, .int d), (4, .int k), (5, .int j)]) hx hb dX4_fill_10 hl (by decide) rfl (fun ls hl => ?_)
  have lp12_3 : ∀ (nf12 : Nat) (l12_6 : Int32) (a12_f : Nat → Int32) (H : Heap) (locs : List Loc) (ls : Array Slot), (0 ≤ l12_6.toInt ∧ l12_6.toInt ≤ 6) → (∀ (u0_ : Nat → Int32), fx (T_k_fill_12 d n_halves k gsets g_onceOf g_halvesOf j u0_) nf12 (l12_6, a12_f) → R_k_fill mf d n_halves k gsets g_onceOf g_halvesOf j b u0_) → (6 - l12_6.toInt < (nf12 : Int)) → va_P D vwCl [(h, .inr (4, [ghouse, .ref n, gearly, glate, .ref ghalvesOf, .ref gonceOf, .int gsets, .int gany, .int gall])), (ghalvesOf, .inl (cI, 32, .inl g_halvesOf)), (gonceOf, .inl (cI, 32, .inl g_onceOf)), (n, .inr (1, [.int nmin, .ref nhalves])), (nhalves, .inl (cI, 6, .inl n_halves)), (f, .inl (cI, 1024, .inl a12_f))] H → va_D A [(h, .inr (4, [ghouse, .ref n, gearly, glate, .ref ghalvesOf, .ref gonceOf, .int gsets, .int gany, .int gall])), (ghalvesOf, .inl (cI, 32, .inl g_halvesOf)), (gonceOf, .inl (cI, 32, .inl g_onceOf)), (n, .inr (1, [.int nmin, .ref nhalves])), (nhalves, .inl (cI, 6, .inl n_halves)), (f, .inl (cI, 1024, .inl a12_f))] → va_S A s.heap H locs → lv_has ls 8 [(6, .int l12_6), (0, .ref h), (1, .ref f), (2, .int b), (3, .int d), (4, .int k), (5, .int j)] → W p l e ({ frames := 1, cells := 0, slots := 0, locals := 27 }) s m ([.ref h, .ref f, .int b, .int d, .int k, .int j] : List Value).toArray below meth c H locs 0 0 (MQ below (Qo (fun u : (Nat → Int32) => none) (fun u : (Nat → Int32) => (R_k_fill mf d n_halves k gsets g_onceOf g_halvesOf j b u)) (BW D A (fun u : (Nat → Int32) => [(h, .inr (4, [ghouse, .ref n, gearly, glate, .ref ghalvesOf, .ref gonceOf, .int gsets, .int gany, .int gall])), (ghalvesOf, .inl (cI, 32, .inl g_halvesOf)), (gonceOf, .inl (cI, 32, .inl g_onceOf)), (f, .inl (cI, 1024, .inl u)), (n, .inr (1, [.int nmin, .ref nhalves])), (nhalves, .inl (cI, 6, .inl n_halves))])) A) ([.ref h, .ref f, .int b, .int d, .int k, .int j] : List Value).toArray s 0 0 A) (F0 m 12 ls []) := by
    intro nf12
    induction nf12 with
    | zero => intro l12_6 a12_f H locs ls h_l12_6 hF12_3 hm12; exact absurd hm12 (by omega)
    | succ nf12 ih12 =>
      intro l12_6 a12_f H locs ls h_l12_6 hF12_3 hm12 hP hD hS hl
      refine lv_iload hx hb dX4_fill_12 (lv_at hl 0 rfl) ?_
      refine lv_iload_n hx hb dX4_fill_14 rfl (lv_at hl 4 rfl) ?_
      refine bc_ge (tgt := 77) (X := l12_6.toInt) (Y := d.toInt) hx hb rfl rfl dX4_fill_15 (by decide) (fun c5 => ?_) (fun c5 => ?_)
      · skip
        refine W.widen (k := 0) (n := 0) (Nat.le_of_ble_eq_true rfl) (Nat.le_of_ble_eq_true rfl) ?_
        exact ro_v hx hb hr hlocks (a12_f) rfl ((hF12_3 _ (fx_s (Or.inl (⟨c5, rfl⟩))))) (hP.sub [0, 1, 2, 5, 3, 4] rfl) (hD.sub [0, 1, 2, 5, 3, 4] (by decide) rfl) hS dX4_fill_77
      · skip
        refine lv_sipush (v := 1023) hx hb dX4_fill_18 (by decide) ?_
        refine lv_istore (lv' := [(7, .int 1023), (6, .int l12_6), (0, .ref h), (1, .ref f), (2, .int b), (3, .int d), (4, .int k), (5, .int j)]) hx hb dX4_fill_21 hl (by decide) rfl (fun ls hl => ?_)
        have lp23_5 : ∀ (nf23 : Nat) (l23_7 : Int32) (a23_f : Nat → Int32) (H : Heap) (locs : List Loc) (ls : Array Slot), (-1 ≤ l23_7.toInt ∧ l23_7.toInt ≤ 1023) → (∀ (u0_ : Nat → Int32), fx (T_k_fill_23 l12_6 n_halves k gsets g_onceOf g_halvesOf j (fx (T_k_fill_12 d n_halves k gsets g_onceOf g_halvesOf j u0_) nf12) u0_) nf23 (l23_7, a23_f) → R_k_fill mf d n_halves k gsets g_onceOf g_halvesOf j b u0_) → (l23_7.toInt - (-1) < (nf23 : Int)) → va_P D vwCl [(h, .inr (4, [ghouse, .ref n, gearly, glate, .ref ghalvesOf, .ref gonceOf, .int gsets, .int gany, .int gall])), (ghalvesOf, .inl (cI, 32, .inl g_halvesOf)), (gonceOf, .inl (cI, 32, .inl g_onceOf)), (n, .inr (1, [.int nmin, .ref nhalves])), (nhalves, .inl (cI, 6, .inl n_halves)), (f, .inl (cI, 1024, .inl a23_f))] H → va_D A [(h, .inr (4, [ghouse, .ref n, gearly, glate, .ref ghalvesOf, .ref gonceOf, .int gsets, .int gany, .int gall])), (ghalvesOf, .inl (cI, 32, .inl g_halvesOf)), (gonceOf, .inl (cI, 32, .inl g_onceOf)), (n, .inr (1, [.int nmin, .ref nhalves])), (nhalves, .inl (cI, 6, .inl n_halves)), (f, .inl (cI, 1024, .inl a23_f))] → va_S A s.heap H locs → lv_has ls 8 [(7, .int l23_7), (6, .int l12_6), (0, .ref h), (1, .ref f), (2, .int b), (3, .int d), (4, .int k), (5, .int j)] → W p l e ({ frames := 1, cells := 0, slots := 0, locals := 27 }) s m ([.ref h, .ref f, .int b, .int d, .int k, .int j] : List Value).toArray below meth c H locs 0 0 (MQ below (Qo (fun u : (Nat → Int32) => none) (fun u : (Nat → Int32) => (R_k_fill mf d n_halves k gsets g_onceOf g_halvesOf j b u)) (BW D A (fun u : (Nat → Int32) => [(h, .inr (4, [ghouse, .ref n, gearly, glate, .ref ghalvesOf, .ref gonceOf, .int gsets, .int gany, .int gall])), (ghalvesOf, .inl (cI, 32, .inl g_halvesOf)), (gonceOf, .inl (cI, 32, .inl g_onceOf)), (f, .inl (cI, 1024, .inl u)), (n, .inr (1, [.int nmin, .ref nhalves])), (nhalves, .inl (cI, 6, .inl n_halves))])) A) ([.ref h, .ref f, .int b, .int d, .int k, .int j] : List Value).toArray s 0 0 A) (F0 m 23 ls []) := by
          intro nf23
          induction nf23 with
          | zero => intro l23_7 a23_f H locs ls h_l23_7 hF23_5 hm23; exact absurd hm23 (by omega)
          | succ nf23 ih23 =>
            intro l23_7 a23_f H locs ls h_l23_7 hF23_5 hm23 hP hD hS hl
            refine lv_iload hx hb dX4_fill_23 (lv_at hl 0 rfl) ?_
            refine bi_lt (tgt := 71) (X := l23_7.toInt) hx hb rfl dX4_fill_25 (by decide) (fun c7 => ?_) (fun c7 => ?_)
            · skip
              obtain ⟨z8, ez8⟩ : ∃ y : Int32, y = l12_6 + 1 := ⟨_, rfl⟩
              have iz8 : z8.toInt = l12_6.toInt + 1 := by rw [ez8]; exact (i_add (X := l12_6.toInt) (Y := 1) rfl (by decide) (by have h8 := i_rng (l12_6); have h9 := i_rng (1); omega) (by have h8 := i_rng (l12_6); have h9 := i_rng (1); omega)).trans (by omega)
              refine lv_iinc (v := z8) (lv' := [(6, .int z8), (7, .int l23_7), (0, .ref h), (1, .ref f), (2, .int b), (3, .int d), (4, .int k), (5, .int j)]) hx hb dX4_fill_71 hl (k := 1) rfl (by rw [ez8]; rfl) (by decide) rfl (fun ls hl => ?_)
              refine lv_goto (tgt := 12) hx hb dX4_fill_74 (by decide) ?_
              exact ih12 (z8) (a23_f) _ _ _ (by have h9 := i_rng (z8); omega) (fun _ hf_ => (hF23_5 _ (fx_s (Or.inl (⟨c7, ⟨_, ez8, hf_⟩⟩))))) (by first | omega | decide) (hP.sub [0, 1, 2, 3, 4, 5] rfl) (hD.sub [0, 1, 2, 3, 4, 5] (by decide) rfl) hS (lv_sub hl [0, 2, 3, 4, 5, 6, 7] rfl)
            · skip
              refine lv_aload_n hx hb dX4_fill_28 rfl (lv_at hl 3 rfl) ?_
              refine lv_iload hx hb dX4_fill_29 (lv_at hl 0 rfl) ?_
              refine va_iald hx hb hK.1 hP 5 0 rfl rfl (i_in (X := l23_7.toInt) rfl (by omega) (by omega)) dX4_fill_31 ?_
              refine lv_topi (fun z9 ez9 => ?_)
              refine bi_eq (tgt := 65) (X := z9.toInt) hx hb rfl dX4_fill_32 (by decide) (fun c10 => ?_) (fun c10 => ?_)
              · skip
                obtain ⟨z11, ez11⟩ : ∃ y : Int32, y = l23_7 + (-1) := ⟨_, rfl⟩
                have iz11 : z11.toInt = l23_7.toInt - 1 := by rw [ez11]; exact (i_add (X := l23_7.toInt) (Y := -1) rfl (by decide) (by have h8 := i_rng (l23_7); have h9 := i_rng ((-1)); omega) (by have h8 := i_rng (l23_7); have h9 := i_rng ((-1)); omega)).trans (by omega)
                refine lv_iinc (v := z11) (lv' := [(7, .int z11), (6, .int l12_6), (0, .ref h), (1, .ref f), (2, .int b), (3, .int d), (4, .int k), (5, .int j)]) hx hb dX4_fill_65 hl (k := 0) rfl (by rw [ez11]; rfl) (by decide) rfl (fun ls hl => ?_)
                refine lv_goto (tgt := 23) hx hb dX4_fill_68 (by decide) ?_
                exact ih23 (z11) (a23_f) _ _ _ (by have h9 := i_rng (z11); omega) (fun _ hf_ => (hF23_5 _ (fx_s (Or.inr (⟨c7, ⟨_, ez9, Or.inl (⟨c10, ⟨_, ez11, hf_⟩⟩)⟩⟩))))) (by first | omega | decide) (hP.sub [0, 1, 2, 3, 4, 5] rfl) (hD.sub [0, 1, 2, 3, 4, 5] (by decide) rfl) hS (lv_sub hl [0, 1, 2, 3, 4, 5, 6, 7] rfl)
              · skip
                refine lv_aload_n hx hb dX4_fill_35 rfl (lv_at hl 2 rfl) ?_
                refine lv_aload_n hx hb dX4_fill_36 rfl (lv_at hl 3 rfl) ?_
                refine lv_iload hx hb dX4_fill_37 (lv_at hl 0 rfl) ?_
                refine lv_aload_n hx hb dX4_fill_39 rfl (lv_at hl 2 rfl) ?_
                refine va_get (D := D) (ci := 4) (v := .ref n) (C := RX4) (T := TX4) (N := 9) hx hb hts (fun _ h => List.mem_cons_of_mem _ (inAX4 _ h)) hown hK.1 hP 0 rfl rfl 1 (by decide) (hts (.fieldLink RX4 21 "ClapBank$Hearing" "dark" "LClapBank$Dark;") (List.mem_cons_of_mem _ W_225)) (fun _ h9 => h9) rfl dX4_fill_40 ?_
                refine va_getN (D := D) (ci := 1) (v := .ref nhalves) (C := RX1) (T := TX1) (N := 2) hx hb hts (fun _ h => List.mem_cons_of_mem _ (inAX1 _ h)) hown hK.1 hP 3 rfl rfl 1 (by decide) (va_Nw.use rfl (nz_at hK.2.1 32 (w := .fieldLinkNest "ClapBank$Hearing" 74 "ClapBank$Dark" "halves" "[I" "ClapBank") rfl)) (fun _ h9 => h9) rfl dX4_fill_43 ?_
                refine lv_iload hx hb dX4_fill_46 (lv_at hl 1 rfl) ?_
                refine va_iald hx hb hK.1 hP 4 0 rfl rfl (i_in (X := l12_6.toInt) rfl (by omega) (by omega)) dX4_fill_48 ?_
                refine lv_topi (fun z12 ez12 => ?_)
                refine lv_iload hx hb dX4_fill_49 (lv_at hl 1 rfl) ?_
                refine lv_iload hx hb dX4_fill_51 (lv_at hl 6 rfl) ?_
                have hg_r13 := i_rng k
                refine bc_ne (tgt := 61) (X := l12_6.toInt) (Y := k.toInt) hx hb rfl rfl dX4_fill_53 (by decide) (fun c14 => ?_) (fun c14 => ?_)
                · skip
                  refine lv_iconst (v := (-1)) hx hb dX4_fill_61 (by decide) ?_
                  refine doV (n := 4) (As := [.ref f, .int l23_7, .int z12, .int (-1)]) (rest := []) (wc := [(h, .inr (4, [ghouse, .ref n, gearly, glate, .ref ghalvesOf, .ref gonceOf, .int gsets, .int gany, .int gall])), (ghalvesOf, .inl (cI, 32, .inl g_halvesOf)), (gonceOf, .inl (cI, 32, .inl g_onceOf)), (f, .inl (cI, 1024, .inl a23_f))]) (wr := [(n, .inr (1, [.int nmin, .ref nhalves])), (nhalves, .inl (cI, 6, .inl n_halves))]) hx hb hml hown hts hK hP hD hS hA [0, 1, 2, 5] [3, 4] rfl rfl rfl rfl (by decide) 0 rfl rfl (k_spread l D cI cB cJ cZ cT (h) (f) (ghalvesOf) (gonceOf) (l23_7) (z12) ((-1)) (gsets) (gany) (gall) (ghouse) (.ref n) (gearly) (glate) (g_halvesOf) (g_onceOf) (a23_f) (by have h9 := i_rng (gsets); omega) (by have h9 := i_rng (l23_7); omega) hon_) gX4_fill_X4_spread rfl rfl rfl (by decide +kernel) ⟨Nat.le_of_ble_eq_true rfl, Nat.le_of_ble_eq_true rfl⟩ hl.1 rfl rfl (Nat.le_of_ble_eq_true rfl) dX4_fill_62 ⟨Nat.le_of_ble_eq_true rfl, Nat.le_of_ble_eq_true rfl⟩ (fun u H locs hw hP hD hS => ?_)
                  obtain ⟨g3_15, rfl⟩ : ∃ z, z = u := ⟨_, rfl⟩
                  have hP : va_P D vwCl [(n, .inr (1, [.int nmin, .ref nhalves])), (nhalves, .inl (cI, 6, .inl n_halves)), (h, .inr (4, [ghouse, .ref n, gearly, glate, .ref ghalvesOf, .ref gonceOf, .int gsets, .int gany, .int gall])), (ghalvesOf, .inl (cI, 32, .inl g_halvesOf)), (gonceOf, .inl (cI, 32, .inl g_onceOf)), (f, .inl (cI, 1024, .inl g3_15))] H := hP
                  have hD : va_D A [(n, .inr (1, [.int nmin, .ref nhalves])), (nhalves, .inl (cI, 6, .inl n_halves)), (h, .inr (4, [ghouse, .ref n, gearly, glate, .ref ghalvesOf, .ref gonceOf, .int gsets, .int gany, .int gall])), (ghalvesOf, .inl (cI, 32, .inl g_halvesOf)), (gonceOf, .inl (cI, 32, .inl g_onceOf)), (f, .inl (cI, 1024, .inl g3_15))] := hD
                  refine W.eq (g2 := F0 m 65 ls []) rfl ?_
                  replace hw : (R_k_spread a23_f l23_7 gsets g_onceOf g_halvesOf z12 ((-1) : Int32) g3_15) := hw
                  replace hw := hid hw
                  have hxq_15 := hw
                  obtain ⟨z17, ez17⟩ : ∃ y : Int32, y = l23_7 + (-1) := ⟨_, rfl⟩
                  have iz17 : z17.toInt = l23_7.toInt - 1 := by rw [ez17]; exact (i_add (X := l23_7.toInt) (Y := -1) rfl (by decide) (by have h8 := i_rng (l23_7); have h9 := i_rng ((-1)); omega) (by have h8 := i_rng (l23_7); have h9 := i_rng ((-1)); omega)).trans (by omega)
                  refine lv_iinc (v := z17) (lv' := [(7, .int z17), (6, .int l12_6), (0, .ref h), (1, .ref f), (2, .int b), (3, .int d), (4, .int k), (5, .int j)]) hx hb dX4_fill_65 hl (k := 0) rfl (by rw [ez17]; rfl) (by decide) rfl (fun ls hl => ?_)
                  refine lv_goto (tgt := 23) hx hb dX4_fill_68 (by decide) ?_
                  exact ih23 (z17) (g3_15) _ _ _ (by have h9 := i_rng (z17); omega) (fun _ hf_ => (hF23_5 _ (fx_s (Or.inr (⟨c7, ⟨_, ez9, Or.inr (⟨c10, ⟨_, ez12, Or.inl (⟨c14, ⟨_, (unhid hxq_15), ⟨_, ez17, hf_⟩⟩⟩)⟩⟩)⟩⟩))))) (by first | omega | decide) (hP.sub [2, 3, 4, 0, 1, 5] rfl) (hD.sub [2, 3, 4, 0, 1, 5] (by decide) rfl) hS (lv_sub hl [0, 1, 2, 3, 4, 5, 6, 7] rfl)
                · skip
                  refine lv_iload hx hb dX4_fill_56 (lv_at hl 7 rfl) ?_
                  refine lv_goto (tgt := 62) hx hb dX4_fill_58 (by decide) ?_
                  refine doV (n := 4) (As := [.ref f, .int l23_7, .int z12, .int j]) (rest := []) (wc := [(h, .inr (4, [ghouse, .ref n, gearly, glate, .ref ghalvesOf, .ref gonceOf, .int gsets, .int gany, .int gall])), (ghalvesOf, .inl (cI, 32, .inl g_halvesOf)), (gonceOf, .inl (cI, 32, .inl g_onceOf)), (f, .inl (cI, 1024, .inl a23_f))]) (wr := [(n, .inr (1, [.int nmin, .ref nhalves])), (nhalves, .inl (cI, 6, .inl n_halves))]) hx hb hml hown hts hK hP hD hS hA [0, 1, 2, 5] [3, 4] rfl rfl rfl rfl (by decide) 0 rfl rfl (k_spread l D cI cB cJ cZ cT (h) (f) (ghalvesOf) (gonceOf) (l23_7) (z12) (j) (gsets) (gany) (gall) (ghouse) (.ref n) (gearly) (glate) (g_halvesOf) (g_onceOf) (a23_f) (by have h9 := i_rng (gsets); omega) (by have h9 := i_rng (l23_7); omega) hon_) gX4_fill_X4_spread rfl rfl rfl (by decide +kernel) ⟨Nat.le_of_ble_eq_true rfl, Nat.le_of_ble_eq_true rfl⟩ hl.1 rfl rfl (Nat.le_of_ble_eq_true rfl) dX4_fill_62 ⟨Nat.le_of_ble_eq_true rfl, Nat.le_of_ble_eq_true rfl⟩ (fun u H locs hw hP hD hS => ?_)
                  obtain ⟨g3_18, rfl⟩ : ∃ z, z = u := ⟨_, rfl⟩
                  have hP : va_P D vwCl [(n, .inr (1, [.int nmin, .ref nhalves])), (nhalves, .inl (cI, 6, .inl n_halves)), (h, .inr (4, [ghouse, .ref n, gearly, glate, .ref ghalvesOf, .ref gonceOf, .int gsets, .int gany, .int gall])), (ghalvesOf, .inl (cI, 32, .inl g_halvesOf)), (gonceOf, .inl (cI, 32, .inl g_onceOf)), (f, .inl (cI, 1024, .inl g3_18))] H := hP
                  have hD : va_D A [(n, .inr (1, [.int nmin, .ref nhalves])), (nhalves, .inl (cI, 6, .inl n_halves)), (h, .inr (4, [ghouse, .ref n, gearly, glate, .ref ghalvesOf, .ref gonceOf, .int gsets, .int gany, .int gall])), (ghalvesOf, .inl (cI, 32, .inl g_halvesOf)), (gonceOf, .inl (cI, 32, .inl g_onceOf)), (f, .inl (cI, 1024, .inl g3_18))] := hD
                  refine W.eq (g2 := F0 m 65 ls []) rfl ?_
                  replace hw : (R_k_spread a23_f l23_7 gsets g_onceOf g_halvesOf z12 j g3_18) := hw
                  replace hw := hid hw
                  have hxq_18 := hw
                  obtain ⟨z20, ez20⟩ : ∃ y : Int32, y = l23_7 + (-1) := ⟨_, rfl⟩
                  have iz20 : z20.toInt = l23_7.toInt - 1 := by rw [ez20]; exact (i_add (X := l23_7.toInt) (Y := -1) rfl (by decide) (by have h8 := i_rng (l23_7); have h9 := i_rng ((-1)); omega) (by have h8 := i_rng (l23_7); have h9 := i_rng ((-1)); omega)).trans (by omega)
                  refine lv_iinc (v := z20) (lv' := [(7, .int z20), (6, .int l12_6), (0, .ref h), (1, .ref f), (2, .int b), (3, .int d), (4, .int k), (5, .int j)]) hx hb dX4_fill_65 hl (k := 0) rfl (by rw [ez20]; rfl) (by decide) rfl (fun ls hl => ?_)
                  refine lv_goto (tgt := 23) hx hb dX4_fill_68 (by decide) ?_
                  exact ih23 (z20) (g3_18) _ _ _ (by have h9 := i_rng (z20); omega) (fun _ hf_ => (hF23_5 _ (fx_s (Or.inr (⟨c7, ⟨_, ez9, Or.inr (⟨c10, ⟨_, ez12, Or.inr (⟨c14, ⟨_, (unhid hxq_18), ⟨_, ez20, hf_⟩⟩⟩)⟩⟩)⟩⟩))))) (by first | omega | decide) (hP.sub [2, 3, 4, 0, 1, 5] rfl) (hD.sub [2, 3, 4, 0, 1, 5] (by decide) rfl) hS (lv_sub hl [0, 1, 2, 3, 4, 5, 6, 7] rfl)
        exact lp23_5 1026 (1023) (a12_f) _ _ _ (by decide) (fun _ hf_ => (hF12_3 _ (fx_s (Or.inr (⟨c5, hf_⟩))))) (by have hc0_ : (1023 : Int32).toInt = 1023 := (by decide); first | omega | decide) (hP.sub [0, 1, 2, 3, 4, 5] rfl) (hD.sub [0, 1, 2, 3, 4, 5] (by decide) rfl) hS (lv_sub hl [0, 1, 2, 3, 4, 5, 6, 7] rfl)
  exact lp12_3 8 (b) (g3) _ _ _ (by have h9 := i_rng (b); omega) (fun _ hf_ => (⟨_, (unhid hxq_1), ⟨_, hu_g3, hf_⟩⟩)) (by first | omega | decide) (hP.sub [0, 1, 2, 3, 4, 5] rfl) (hD.sub [0, 1, 2, 3, 4, 5] (by decide) rfl) hS (lv_sub hl [0, 1, 2, 3, 4, 5, 6] rfl)
