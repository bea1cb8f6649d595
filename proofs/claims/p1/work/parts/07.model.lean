set_option maxHeartbeats 400000 in
set_option maxRecDepth 100000 in
theorem m_in (l : Launch) (D : va_G) (cI cB cJ cZ cT : ClassId) (a : Int32) (A_ : Int) (hA_ : a.toInt = A_) (b : Int32) (B_ : Int) (hB_ : b.toInt = B_) (d : Int32) (D_ : Int) (hD_ : d.toInt = D_) : Co l yX10_in wsX10_in ({ frames := 0, cells := 0, slots := 0, locals := 0 }) D (tyL cI cB cJ cZ cT) [.int a, .int b, .int d] ([] : va_W) (fun u : Int32 => some (.int u)) (fun u : Int32 => (u = 1 ∧ (B_ ≤ A_ ∧ A_ ≤ D_)) ∨ (u = 0 ∧ (A_ < B_ ∨ D_ < A_))) (fun u : Int32 => ([] : va_W)) 0 0 := by
  refine entry (cc := cX10_in) (maxL := 3) (ret := (some .boolean)) (by decide) rfl (Nat.le_of_ble_eq_true rfl) ?_
  intro p e s m below meth c A ls hx hb hr hml hts hown hlocks hname hK hP hD hS hA hl
  have hown : s.vm.findClass RX10 = some m.cls := hown
  have hl : lv_has ls 3 [(0, .int a), (1, .int b), (2, .int d)] := hl
  refine lv_iload_n hx hb dX10_in_0 rfl (lv_at hl 0 rfl) ?_
  refine lv_iload_n hx hb dX10_in_1 rfl (lv_at hl 1 rfl) ?_
  refine bc_lt (tgt := 14) (X := A_) (Y := B_) hx hb hA_ hB_ dX10_in_2 (by decide) (fun c1 => ?_) (fun c1 => ?_)
  · skip
    refine lv_iconst (v := 0) hx hb dX10_in_14 (by decide) ?_
    refine W.widen (k := 0) (n := 0) (Nat.le_of_ble_eq_true rfl) (Nat.le_of_ble_eq_true rfl) ?_
    exact ro_z hx hb hr rfl hlocks (0) rfl ((Or.inr ⟨rfl, by omega⟩)) (hP.sub [] rfl) (hD.sub [] (by decide) rfl) hS dX10_in_15
  · skip
    refine lv_iload_n hx hb dX10_in_5 rfl (lv_at hl 0 rfl) ?_
    refine lv_iload_n hx hb dX10_in_6 rfl (lv_at hl 2 rfl) ?_
    refine bc_gt (tgt := 14) (X := A_) (Y := D_) hx hb hA_ hD_ dX10_in_7 (by decide) (fun c2 => ?_) (fun c2 => ?_)
    · skip
      refine lv_iconst (v := 0) hx hb dX10_in_14 (by decide) ?_
      refine W.widen (k := 0) (n := 0) (Nat.le_of_ble_eq_true rfl) (Nat.le_of_ble_eq_true rfl) ?_
      exact ro_z hx hb hr rfl hlocks (0) rfl ((Or.inr ⟨rfl, by omega⟩)) (hP.sub [] rfl) (hD.sub [] (by decide) rfl) hS dX10_in_15
    · skip
      refine lv_iconst (v := 1) hx hb dX10_in_10 (by decide) ?_
      refine lv_goto (tgt := 15) hx hb dX10_in_11 (by decide) ?_
      refine W.widen (k := 0) (n := 0) (Nat.le_of_ble_eq_true rfl) (Nat.le_of_ble_eq_true rfl) ?_
      exact ro_z hx hb hr rfl hlocks (1) rfl ((Or.inl ⟨rfl, by omega⟩)) (hP.sub [] rfl) (hD.sub [] (by decide) rfl) hS dX10_in_15
set_option maxHeartbeats 400000 in
set_option maxRecDepth 100000 in
theorem m_is (l : Launch) (D : va_G) (cI cB cJ cZ cT : ClassId) (m0 : Nat) (fs : List Value) (m5 : Nat) (fl : fs.length = 50) (f5 : fs[5]? = some (.ref m5)) (a : Int32) (A_ : Int) (hA_ : a.toInt = A_) (h0 : 0 ≤ A_) (h2 : A_ ≤ 2) (b : Int32) : Co l yX10_is wsX10_is ({ frames := 1, cells := 0, slots := 0, locals := 22 }) D (tyL cI cB cJ cZ cT) [.ref m0, .int a, .int b] [(m0, .inr (10, fs)), (m5, .inl (cI, 12, .inl (fun _ => 0)))] (fun u : Unit => some (.int 0)) (fun u : Unit => True) (fun u : Unit => [(m0, .inr (10, fs)), (m5, .inl (cI, 12, .inl (fun _ => 0)))]) 0 0 := by
  refine entry (cc := cX10_is) (maxL := 3) (ret := (some .boolean)) (by decide) rfl (Nat.le_of_ble_eq_true rfl) ?_
  intro p e s m below meth c A ls hx hb hr hml hts hown hlocks hname hK hP hD hS hA hl
  have hown : s.vm.findClass RX10 = some m.cls := hown
  have hl : lv_has ls 3 [(0, .ref m0), (1, .int a), (2, .int b)] := hl
  refine lv_iload_n hx hb dX10_is_0 rfl (lv_at hl 2 rfl) ?_
  refine lv_iconst (v := 0) hx hb dX10_is_1 (by decide) ?_
  refine lv_aload_n hx hb dX10_is_2 rfl (lv_at hl 0 rfl) ?_
  refine va_get (D := D) (ci := 10) (v := .ref m5) (C := RX10) (T := TX10) (N := 50) hx hb hts (fun _ h => List.mem_cons_of_mem _ (List.mem_append_right _ h)) hown hK.1 hP 0 rfl rfl 5 (by decide) (hts (.fieldLink RX10 23 "ClapBankModel" "many" "[I") (List.mem_of_getElem? (i := 1) rfl)) (fun _ h9 => h9) f5 dX10_is_3 ?_
  refine lv_iload_n hx hb dX10_is_6 rfl (lv_at hl 1 rfl) ?_
  refine va_iald hx hb hK.1 hP 1 0 rfl rfl (i_in (X := A_) hA_ (by omega) (by omega)) dX10_is_7 ?_
  refine vz_i (y := 0) rfl ?_
  refine lv_iconst (v := 1) hx hb dX10_is_8 (by decide) ?_
  refine lv_isub hx hb dX10_is_9 ?_
  refine vz_i (y := (-1)) (by decide) ?_
  refine doS (n := 3) (As := [.int b, .int 0, .int (-1)]) (rest := []) (wc := ([] : va_W)) (wr := [(m0, .inr (10, fs)), (m5, .inl (cI, 12, .inl (fun _ => 0)))]) hx hb hml hown hts hK hP hD hS hA [] [0, 1] rfl rfl rfl rfl (by decide) (m_in l D cI cB cJ cZ cT (b) (b.toInt) rfl (0) (0) (by decide) ((-1)) (-1) (by decide)) gX10_is_X10_in rfl rfl rfl (by decide +kernel) ⟨Nat.le_of_ble_eq_true rfl, Nat.le_of_ble_eq_true rfl⟩ hl.1 rfl rfl (Nat.le_of_ble_eq_true rfl) dX10_is_10 ⟨Nat.le_of_ble_eq_true rfl, Nat.le_of_ble_eq_true rfl⟩ (fun u H locs hw hP hD hS => ?_)
  obtain ⟨r_1, rfl⟩ : ∃ z, z = u := ⟨_, rfl⟩
  have hP : va_P D vwCl [(m0, .inr (10, fs)), (m5, .inl (cI, 12, .inl (fun _ => 0)))] H := hP
  have hD : va_D A [(m0, .inr (10, fs)), (m5, .inl (cI, 12, .inl (fun _ => 0)))] := hD
  refine W.eq (g2 := F0 m 13 ls [.int r_1]) rfl ?_
  have hw : (r_1 = 1 ∧ ((0) ≤ (b.toInt) ∧ (b.toInt) ≤ (-1))) ∨ (r_1 = 0 ∧ ((b.toInt) < (0) ∨ (-1) < (b.toInt))) := hw
  rcases hw with ⟨rfl, k2⟩ | ⟨rfl, k2⟩
  · skip
    exact absurd k2 (by omega)
  · skip
    refine W.widen (k := 0) (n := 0) (Nat.le_of_ble_eq_true rfl) (Nat.le_of_ble_eq_true rfl) ?_
    exact ro_z hx hb hr rfl hlocks () rfl (trivial) (hP.sub [0, 1] rfl) (hD.sub [0, 1] (by decide) rfl) hS dX10_is_13
set_option maxHeartbeats 400000 in
set_option maxRecDepth 100000 in
theorem m_hand (l : Launch) (D : va_G) (cI cB cJ cZ cT : ClassId) (m0 : Nat) (fs : List Value) (m5 : Nat) (fl : fs.length = 50) (f5 : fs[5]? = some (.ref m5)) (a : Int32) : Co l yX10_hand wsX10_hand ({ frames := 2, cells := 0, slots := 0, locals := 44 }) D (tyL cI cB cJ cZ cT) [.ref m0, .int a] [(m0, .inr (10, fs)), (m5, .inl (cI, 12, .inl (fun _ => 0)))] (fun u : Unit => some (.int 0)) (fun u : Unit => True) (fun u : Unit => ([] : va_W)) 0 0 := by
  refine entry (cc := cX10_hand) (maxL := 2) (ret := (some .boolean)) (by decide) rfl (Nat.le_of_ble_eq_true rfl) ?_
  intro p e s m below meth c A ls hx hb hr hml hts hown hlocks hname hK hP hD hS hA hl
  have hown : s.vm.findClass RX10 = some m.cls := hown
  have hl : lv_has ls 2 [(0, .ref m0), (1, .int a)] := hl
  refine lv_aload_n hx hb dX10_hand_0 rfl (lv_at hl 0 rfl) ?_
  refine lv_iconst (v := 0) hx hb dX10_hand_1 (by decide) ?_
  refine lv_iload_n hx hb dX10_hand_2 rfl (lv_at hl 1 rfl) ?_
  refine doV (n := 2) (As := [.int 0, .int a]) (rest := []) (wc := [(m0, .inr (10, fs)), (m5, .inl (cI, 12, .inl (fun _ => 0)))]) (wr := ([] : va_W)) hx hb hml hown hts hK hP hD hS hA [0, 1] [] rfl rfl rfl rfl (by decide) 0 rfl rfl (m_is l D cI cB cJ cZ cT (m0) (fs) (m5) fl f5 (0) (0) (by decide) (by omega) (by omega) (a)) gX10_hand_X10_is rfl rfl rfl (by decide +kernel) ⟨Nat.le_of_ble_eq_true rfl, Nat.le_of_ble_eq_true rfl⟩ hl.1 rfl rfl (Nat.le_of_ble_eq_true rfl) dX10_hand_3 ⟨Nat.le_of_ble_eq_true rfl, Nat.le_of_ble_eq_true rfl⟩ (fun u H locs hw hP hD hS => ?_)
  have hP : va_P D vwCl [(m0, .inr (10, fs)), (m5, .inl (cI, 12, .inl (fun _ => 0)))] H := hP
  have hD : va_D A [(m0, .inr (10, fs)), (m5, .inl (cI, 12, .inl (fun _ => 0)))] := hD
  refine W.eq (g2 := F0 m 6 ls [.int 0]) rfl ?_
  refine bi_ne (tgt := 11) (X := 0) hx hb (by decide) dX10_hand_6 (by decide) (fun h => absurd h (by decide)) (fun c1 => ?_)
  refine lv_iconst (v := 0) hx hb dX10_hand_9 (by decide) ?_
  refine W.widen (k := 0) (n := 0) (Nat.le_of_ble_eq_true rfl) (Nat.le_of_ble_eq_true rfl) ?_
  exact ro_z hx hb hr rfl hlocks () rfl (trivial) (hP.sub [] rfl) (hD.sub [] (by decide) rfl) hS dX10_hand_10
set_option maxHeartbeats 400000 in
set_option maxRecDepth 100000 in
theorem m_hasBook (l : Launch) (D : va_G) (cI cB cJ cZ cT : ClassId) (m0 : Nat) (fs : List Value) (m5 : Nat) (fl : fs.length = 50) (f5 : fs[5]? = some (.ref m5)) (a : Int32) : Co l yX10_hasBook wsX10_hasBook ({ frames := 2, cells := 0, slots := 0, locals := 44 }) D (tyL cI cB cJ cZ cT) [.ref m0, .int a] [(m0, .inr (10, fs)), (m5, .inl (cI, 12, .inl (fun _ => 0)))] (fun u : Unit => some (.int 0)) (fun u : Unit => True) (fun u : Unit => ([] : va_W)) 0 0 := by
  refine entry (cc := cX10_hasBook) (maxL := 2) (ret := (some .boolean)) (by decide) rfl (Nat.le_of_ble_eq_true rfl) ?_
  intro p e s m below meth c A ls hx hb hr hml hts hown hlocks hname hK hP hD hS hA hl
  have hown : s.vm.findClass RX10 = some m.cls := hown
  have hl : lv_has ls 2 [(0, .ref m0), (1, .int a)] := hl
  refine lv_aload_n hx hb dX10_hasBook_0 rfl (lv_at hl 0 rfl) ?_
  refine lv_iload_n hx hb dX10_hasBook_1 rfl (lv_at hl 1 rfl) ?_
  refine va_put (D := D) (ci := 10) (v := .int a) (ty := .int) (C := RX10) (T := TX10) (N := 50) hx hb hts (fun _ h => List.mem_cons_of_mem _ (List.mem_append_right _ h)) tyX10 tyX10_ok nmX10 hown hK.1 hP hD hS 0 rfl rfl 24 (by decide) (hts (.fieldLink RX10 246 "ClapBankModel" "book" "I") (List.mem_of_getElem? (i := 1) rfl)) (fun _ h9 => h9) rfl (by decide +kernel) rfl rfl (Nat.lt_of_lt_of_eq (by decide) (Eq.symm fl)) dX10_hasBook_2 (fun H locs hP hD hS => ?_)
  have hP : va_P D vwCl [(m0, .inr (10, (fs.set 24 (.int a)))), (m5, .inl (cI, 12, .inl (fun _ => 0)))] H := hP
  have hD : va_D A [(m0, .inr (10, (fs.set 24 (.int a)))), (m5, .inl (cI, 12, .inl (fun _ => 0)))] := hD
  refine lv_aload_n hx hb dX10_hasBook_5 rfl (lv_at hl 0 rfl) ?_
  refine lv_iconst (v := 1) hx hb dX10_hasBook_6 (by decide) ?_
  refine lv_iload_n hx hb dX10_hasBook_7 rfl (lv_at hl 1 rfl) ?_
  refine doV (n := 2) (As := [.int 1, .int a]) (rest := []) (wc := [(m0, .inr (10, (fs.set 24 (.int a)))), (m5, .inl (cI, 12, .inl (fun _ => 0)))]) (wr := ([] : va_W)) hx hb hml hown hts hK hP hD hS hA [0, 1] [] rfl rfl rfl rfl (by decide) 0 rfl rfl (m_is l D cI cB cJ cZ cT (m0) ((fs.set 24 (.int a))) (m5) (fset_len fl) (fset_ne (by decide) f5) (1) (1) (by decide) (by omega) (by omega) (a)) gX10_hasBook_X10_is rfl rfl rfl (by decide +kernel) ⟨Nat.le_of_ble_eq_true rfl, Nat.le_of_ble_eq_true rfl⟩ hl.1 rfl rfl (Nat.le_of_ble_eq_true rfl) dX10_hasBook_8 ⟨Nat.le_of_ble_eq_true rfl, Nat.le_of_ble_eq_true rfl⟩ (fun u H locs hw hP hD hS => ?_)
  have hP : va_P D vwCl [(m0, .inr (10, (fs.set 24 (.int a)))), (m5, .inl (cI, 12, .inl (fun _ => 0)))] H := hP
  have hD : va_D A [(m0, .inr (10, (fs.set 24 (.int a)))), (m5, .inl (cI, 12, .inl (fun _ => 0)))] := hD
  refine W.eq (g2 := F0 m 11 ls [.int 0]) rfl ?_
  refine W.widen (k := 0) (n := 0) (Nat.le_of_ble_eq_true rfl) (Nat.le_of_ble_eq_true rfl) ?_
  exact ro_z hx hb hr rfl hlocks () rfl (trivial) (hP.sub [] rfl) (hD.sub [] (by decide) rfl) hS dX10_hasBook_11
set_option maxHeartbeats 400000 in
set_option maxRecDepth 100000 in
theorem m_hasDark (l : Launch) (D : va_G) (cI cB cJ cZ cT : ClassId) (m0 : Nat) (fs : List Value) (m5 : Nat) (fl : fs.length = 50) (f5 : fs[5]? = some (.ref m5)) (a : Int32) : Co l yX10_hasDark wsX10_hasDark ({ frames := 2, cells := 0, slots := 0, locals := 44 }) D (tyL cI cB cJ cZ cT) [.ref m0, .int a] [(m0, .inr (10, fs)), (m5, .inl (cI, 12, .inl (fun _ => 0)))] (fun u : Unit => some (.int 0)) (fun u : Unit => True) (fun u : Unit => ([] : va_W)) 0 0 := by
  refine entry (cc := cX10_hasDark) (maxL := 2) (ret := (some .boolean)) (by decide) rfl (Nat.le_of_ble_eq_true rfl) ?_
  intro p e s m below meth c A ls hx hb hr hml hts hown hlocks hname hK hP hD hS hA hl
  have hown : s.vm.findClass RX10 = some m.cls := hown
  have hl : lv_has ls 2 [(0, .ref m0), (1, .int a)] := hl
  refine lv_aload_n hx hb dX10_hasDark_0 rfl (lv_at hl 0 rfl) ?_
  refine lv_iload_n hx hb dX10_hasDark_1 rfl (lv_at hl 1 rfl) ?_
  refine va_put (D := D) (ci := 10) (v := .int a) (ty := .int) (C := RX10) (T := TX10) (N := 50) hx hb hts (fun _ h => List.mem_cons_of_mem _ (List.mem_append_right _ h)) tyX10 tyX10_ok nmX10 hown hK.1 hP hD hS 0 rfl rfl 43 (by decide) (hts (.fieldLink RX10 386 "ClapBankModel" "dark" "I") (List.mem_of_getElem? (i := 1) rfl)) (fun _ h9 => h9) rfl (by decide +kernel) rfl rfl (Nat.lt_of_lt_of_eq (by decide) (Eq.symm fl)) dX10_hasDark_2 (fun H locs hP hD hS => ?_)
  have hP : va_P D vwCl [(m0, .inr (10, (fs.set 43 (.int a)))), (m5, .inl (cI, 12, .inl (fun _ => 0)))] H := hP
  have hD : va_D A [(m0, .inr (10, (fs.set 43 (.int a)))), (m5, .inl (cI, 12, .inl (fun _ => 0)))] := hD
  refine lv_aload_n hx hb dX10_hasDark_5 rfl (lv_at hl 0 rfl) ?_
  refine lv_aload_n hx hb dX10_hasDark_6 rfl (lv_at hl 0 rfl) ?_
  refine lv_iconst (v := 2) hx hb dX10_hasDark_7 (by decide) ?_
  refine lv_iload_n hx hb dX10_hasDark_8 rfl (lv_at hl 1 rfl) ?_
  refine doV (n := 2) (As := [.int 2, .int a]) (rest := [.ref m0]) (wc := [(m0, .inr (10, (fs.set 43 (.int a)))), (m5, .inl (cI, 12, .inl (fun _ => 0)))]) (wr := ([] : va_W)) hx hb hml hown hts hK hP hD hS hA [0, 1] [] rfl rfl rfl rfl (by decide) 0 rfl rfl (m_is l D cI cB cJ cZ cT (m0) ((fs.set 43 (.int a))) (m5) (fset_len fl) (fset_ne (by decide) f5) (2) (2) (by decide) (by omega) (by omega) (a)) gX10_hasDark_X10_is rfl rfl rfl (by decide +kernel) ⟨Nat.le_of_ble_eq_true rfl, Nat.le_of_ble_eq_true rfl⟩ hl.1 rfl rfl (Nat.le_of_ble_eq_true rfl) dX10_hasDark_9 ⟨Nat.le_of_ble_eq_true rfl, Nat.le_of_ble_eq_true rfl⟩ (fun u H locs hw hP hD hS => ?_)
  have hP : va_P D vwCl [(m0, .inr (10, (fs.set 43 (.int a)))), (m5, .inl (cI, 12, .inl (fun _ => 0)))] H := hP
  have hD : va_D A [(m0, .inr (10, (fs.set 43 (.int a)))), (m5, .inl (cI, 12, .inl (fun _ => 0)))] := hD
  refine W.eq (g2 := F0 m 12 ls [.int 0, .ref m0]) rfl ?_
  refine bi_eq (tgt := 27) (X := 0) hx hb (by decide) dX10_hasDark_12 (by decide) (fun c1 => ?_) (fun h => absurd h (by decide))
  refine lv_iconst (v := 0) hx hb dX10_hasDark_27 (by decide) ?_
  refine va_put (D := D) (ci := 10) (v := .int 0) (ty := .int) (C := RX10) (T := TX10) (N := 50) hx hb hts (fun _ h => List.mem_cons_of_mem _ (List.mem_append_right _ h)) tyX10 tyX10_ok nmX10 hown hK.1 hP hD hS 0 rfl rfl 44 (by decide) (hts (.fieldLink RX10 389 "ClapBankModel" "minutes" "I") (List.mem_of_getElem? (i := 3) rfl)) (fun _ h9 => h9) rfl (by decide +kernel) rfl rfl (Nat.lt_of_lt_of_eq (by decide) (Eq.symm (fset_len fl))) dX10_hasDark_28 (fun H locs hP hD hS => ?_)
  have hP : va_P D vwCl [(m0, .inr (10, ((fs.set 43 (.int a)).set 44 (.int 0)))), (m5, .inl (cI, 12, .inl (fun _ => 0)))] H := hP
  have hD : va_D A [(m0, .inr (10, ((fs.set 43 (.int a)).set 44 (.int 0)))), (m5, .inl (cI, 12, .inl (fun _ => 0)))] := hD
  refine lv_aload_n hx hb dX10_hasDark_31 rfl (lv_at hl 0 rfl) ?_
  refine lv_iconst (v := 2) hx hb dX10_hasDark_32 (by decide) ?_
  refine lv_iload_n hx hb dX10_hasDark_33 rfl (lv_at hl 1 rfl) ?_
  refine doV (n := 2) (As := [.int 2, .int a]) (rest := []) (wc := [(m0, .inr (10, ((fs.set 43 (.int a)).set 44 (.int 0)))), (m5, .inl (cI, 12, .inl (fun _ => 0)))]) (wr := ([] : va_W)) hx hb hml hown hts hK hP hD hS hA [0, 1] [] rfl rfl rfl rfl (by decide) 0 rfl rfl (m_is l D cI cB cJ cZ cT (m0) (((fs.set 43 (.int a)).set 44 (.int 0))) (m5) (fset_len (fset_len fl)) (fset_ne (by decide) (fset_ne (by decide) f5)) (2) (2) (by decide) (by omega) (by omega) (a)) gX10_hasDark_X10_is rfl rfl rfl (by decide +kernel) ⟨Nat.le_of_ble_eq_true rfl, Nat.le_of_ble_eq_true rfl⟩ hl.1 rfl rfl (Nat.le_of_ble_eq_true rfl) dX10_hasDark_34 ⟨Nat.le_of_ble_eq_true rfl, Nat.le_of_ble_eq_true rfl⟩ (fun u H locs hw hP hD hS => ?_)
  have hP : va_P D vwCl [(m0, .inr (10, ((fs.set 43 (.int a)).set 44 (.int 0)))), (m5, .inl (cI, 12, .inl (fun _ => 0)))] H := hP
  have hD : va_D A [(m0, .inr (10, ((fs.set 43 (.int a)).set 44 (.int 0)))), (m5, .inl (cI, 12, .inl (fun _ => 0)))] := hD
  refine W.eq (g2 := F0 m 37 ls [.int 0]) rfl ?_
  refine W.widen (k := 0) (n := 0) (Nat.le_of_ble_eq_true rfl) (Nat.le_of_ble_eq_true rfl) ?_
  exact ro_z hx hb hr rfl hlocks () rfl (trivial) (hP.sub [] rfl) (hD.sub [] (by decide) rfl) hS dX10_hasDark_37
set_option maxHeartbeats 400000 in
set_option maxRecDepth 100000 in
theorem m_layState (l : Launch) (D : va_G) (cI cB cJ cZ cT : ClassId) (m0 : Nat) (fs : List Value) (m5 : Nat) (fl : fs.length = 50) (f5 : fs[5]? = some (.ref m5)) (a : Int32) (b : Int32) (d : Int32) : Co l yX10_layState wsX10_layState ({ frames := 3, cells := 0, slots := 0, locals := 65 }) D (tyL cI cB cJ cZ cT) [.ref m0, .int a, .int b, .int d] [(m0, .inr (10, fs)), (m5, .inl (cI, 12, .inl (fun _ => 0)))] (fun u : Unit => some (.int 0)) (fun u : Unit => True) (fun u : Unit => ([] : va_W)) 0 0 := by
  refine entry (cc := cX10_layState) (maxL := 4) (ret := (some .boolean)) (by decide) rfl (Nat.le_of_ble_eq_true rfl) ?_
  intro p e s m below meth c A ls hx hb hr hml hts hown hlocks hname hK hP hD hS hA hl
  have hown : s.vm.findClass RX10 = some m.cls := hown
  have hl : lv_has ls 4 [(0, .ref m0), (1, .int a), (2, .int b), (3, .int d)] := hl
  refine lv_aload_n hx hb dX10_layState_0 rfl (lv_at hl 0 rfl) ?_
  refine lv_iload_n hx hb dX10_layState_1 rfl (lv_at hl 2 rfl) ?_
  refine doV (n := 1) (As := [.int b]) (rest := []) (wc := [(m0, .inr (10, fs)), (m5, .inl (cI, 12, .inl (fun _ => 0)))]) (wr := ([] : va_W)) hx hb hml hown hts hK hP hD hS hA [0, 1] [] rfl rfl rfl rfl (by decide) 0 rfl rfl (m_hasBook l D cI cB cJ cZ cT (m0) (fs) (m5) fl f5 (b)) gX10_layState_X10_hasBook rfl rfl rfl (by decide +kernel) ⟨Nat.le_of_ble_eq_true rfl, Nat.le_of_ble_eq_true rfl⟩ hl.1 rfl rfl (Nat.le_of_ble_eq_true rfl) dX10_layState_2 ⟨Nat.le_of_ble_eq_true rfl, Nat.le_of_ble_eq_true rfl⟩ (fun u H locs hw hP hD hS => ?_)
  refine W.eq (g2 := F0 m 5 ls [.int 0]) rfl ?_
  refine bi_eq (tgt := 41) (X := 0) hx hb (by decide) dX10_layState_5 (by decide) (fun c1 => ?_) (fun h => absurd h (by decide))
  refine lv_iconst (v := 0) hx hb dX10_layState_41 (by decide) ?_
  refine W.widen (k := 0) (n := 0) (Nat.le_of_ble_eq_true rfl) (Nat.le_of_ble_eq_true rfl) ?_
  exact ro_z hx hb hr rfl hlocks () rfl (trivial) (hP.sub [] rfl) (hD.sub [] (by decide) rfl) hS dX10_layState_42
set_option maxHeartbeats 400000 in
set_option maxRecDepth 100000 in
theorem m_layUsurer (l : Launch) (D : va_G) (cI cB cJ cZ cT : ClassId) (m0 : Nat) (fs : List Value) (m5 : Nat) (fl : fs.length = 50) (f5 : fs[5]? = some (.ref m5)) (a : Int32) (b : Int32) (d : Int32) : Co l yX10_layUsurer wsX10_layUsurer ({ frames := 3, cells := 0, slots := 0, locals := 65 }) D (tyL cI cB cJ cZ cT) [.ref m0, .int a, .int b, .int d] [(m0, .inr (10, fs)), (m5, .inl (cI, 12, .inl (fun _ => 0)))] (fun u : Unit => some (.int 0)) (fun u : Unit => True) (fun u : Unit => ([] : va_W)) 0 0 := by
  refine entry (cc := cX10_layUsurer) (maxL := 4) (ret := (some .boolean)) (by decide) rfl (Nat.le_of_ble_eq_true rfl) ?_
  intro p e s m below meth c A ls hx hb hr hml hts hown hlocks hname hK hP hD hS hA hl
  have hown : s.vm.findClass RX10 = some m.cls := hown
  have hl : lv_has ls 4 [(0, .ref m0), (1, .int a), (2, .int b), (3, .int d)] := hl
  refine lv_aload_n hx hb dX10_layUsurer_0 rfl (lv_at hl 0 rfl) ?_
  refine lv_iload_n hx hb dX10_layUsurer_1 rfl (lv_at hl 1 rfl) ?_
  refine doV (n := 1) (As := [.int a]) (rest := []) (wc := [(m0, .inr (10, fs)), (m5, .inl (cI, 12, .inl (fun _ => 0)))]) (wr := ([] : va_W)) hx hb hml hown hts hK hP hD hS hA [0, 1] [] rfl rfl rfl rfl (by decide) 0 rfl rfl (m_hand l D cI cB cJ cZ cT (m0) (fs) (m5) fl f5 (a)) gX10_layUsurer_X10_hand rfl rfl rfl (by decide +kernel) ⟨Nat.le_of_ble_eq_true rfl, Nat.le_of_ble_eq_true rfl⟩ hl.1 rfl rfl (Nat.le_of_ble_eq_true rfl) dX10_layUsurer_2 ⟨Nat.le_of_ble_eq_true rfl, Nat.le_of_ble_eq_true rfl⟩ (fun u H locs hw hP hD hS => ?_)
  refine W.eq (g2 := F0 m 5 ls [.int 0]) rfl ?_
  refine bi_eq (tgt := 33) (X := 0) hx hb (by decide) dX10_layUsurer_5 (by decide) (fun c1 => ?_) (fun h => absurd h (by decide))
  refine lv_iconst (v := 0) hx hb dX10_layUsurer_33 (by decide) ?_
  refine W.widen (k := 0) (n := 0) (Nat.le_of_ble_eq_true rfl) (Nat.le_of_ble_eq_true rfl) ?_
  exact ro_z hx hb hr rfl hlocks () rfl (trivial) (hP.sub [] rfl) (hD.sub [] (by decide) rfl) hS dX10_layUsurer_34
set_option maxHeartbeats 400000 in
set_option maxRecDepth 100000 in
theorem y_theatre (l : Launch) (D : va_G) (cI cB cJ cZ cT : ClassId) (m0 : Nat) (fs : List Value) (m5 : Nat) (fl : fs.length = 50) (f5 : fs[5]? = some (.ref m5)) (a : Int32) (b : Int32) : Co l yX10_theatre wsX10_theatre ({ frames := 3, cells := 0, slots := 0, locals := 65 }) D (tyL cI cB cJ cZ cT) [.ref m0, .int a, .int b] [(m0, .inr (10, fs)), (m5, .inl (cI, 12, .inl (fun _ => 0)))] (fun u : Unit => some (.int (-1))) (fun u : Unit => True) (fun u : Unit => ([] : va_W)) 0 0 := by
  refine entry (cc := cX10_theatre) (maxL := 4) (ret := (some .int)) (by decide) rfl (Nat.le_of_ble_eq_true rfl) ?_
  intro p e s m below meth c A ls hx hb hr hml hts hown hlocks hname hK hP hD hS hA hl
  have hown : s.vm.findClass RX10 = some m.cls := hown
  have hl : lv_has ls 4 [(0, .ref m0), (1, .int a), (2, .int b)] := hl
  refine lv_aload_n hx hb dX10_theatre_0 rfl (lv_at hl 0 rfl) ?_
  refine lv_iconst (v := 0) hx hb dX10_theatre_1 (by decide) ?_
  refine va_put (D := D) (ci := 10) (v := .int 0) (ty := .int) (C := RX10) (T := TX10) (N := 50) hx hb hts (fun _ h => List.mem_cons_of_mem _ (List.mem_append_right _ h)) tyX10 tyX10_ok nmX10 hown hK.1 hP hD hS 0 rfl rfl 0 (by decide) (hts (.fieldLink RX10 80 "ClapBankModel" "code" "I") (List.mem_of_getElem? (i := 1) rfl)) (fun _ h9 => h9) rfl (by decide +kernel) rfl rfl (Nat.lt_of_lt_of_eq (by decide) (Eq.symm fl)) dX10_theatre_2 (fun H locs hP hD hS => ?_)
  have hP : va_P D vwCl [(m0, .inr (10, (fs.set 0 (.int 0)))), (m5, .inl (cI, 12, .inl (fun _ => 0)))] H := hP
  have hD : va_D A [(m0, .inr (10, (fs.set 0 (.int 0)))), (m5, .inl (cI, 12, .inl (fun _ => 0)))] := hD
  refine lv_aload_n hx hb dX10_theatre_5 rfl (lv_at hl 0 rfl) ?_
  refine lv_iload_n hx hb dX10_theatre_6 rfl (lv_at hl 1 rfl) ?_
  refine doV (n := 1) (As := [.int a]) (rest := []) (wc := [(m0, .inr (10, (fs.set 0 (.int 0)))), (m5, .inl (cI, 12, .inl (fun _ => 0)))]) (wr := ([] : va_W)) hx hb hml hown hts hK hP hD hS hA [0, 1] [] rfl rfl rfl rfl (by decide) 0 rfl rfl (m_hand l D cI cB cJ cZ cT (m0) ((fs.set 0 (.int 0))) (m5) (fset_len fl) (fset_ne (by decide) f5) (a)) gX10_theatre_X10_hand rfl rfl rfl (by decide +kernel) ⟨Nat.le_of_ble_eq_true rfl, Nat.le_of_ble_eq_true rfl⟩ hl.1 rfl rfl (Nat.le_of_ble_eq_true rfl) dX10_theatre_7 ⟨Nat.le_of_ble_eq_true rfl, Nat.le_of_ble_eq_true rfl⟩ (fun u H locs hw hP hD hS => ?_)
  refine W.eq (g2 := F0 m 10 ls [.int 0]) rfl ?_
  refine bi_ne (tgt := 15) (X := 0) hx hb (by decide) dX10_theatre_10 (by decide) (fun h => absurd h (by decide)) (fun c1 => ?_)
  refine lv_iconst (v := (-1)) hx hb dX10_theatre_13 (by decide) ?_
  refine W.widen (k := 0) (n := 0) (Nat.le_of_ble_eq_true rfl) (Nat.le_of_ble_eq_true rfl) ?_
  exact ro_i hx hb hr hlocks () rfl (trivial) (hP.sub [] rfl) (hD.sub [] (by decide) rfl) hS dX10_theatre_14
set_option maxHeartbeats 400000 in
set_option maxRecDepth 100000 in
theorem y_deed (l : Launch) (D : va_G) (cI cB cJ cZ cT : ClassId) (m0 : Nat) (fs : List Value) (m5 : Nat) (fl : fs.length = 50) (f5 : fs[5]? = some (.ref m5)) (a : Int32) (b : Int32) (d : Int32) : Co l yX10_deed wsX10_deed ({ frames := 3, cells := 0, slots := 0, locals := 65 }) D (tyL cI cB cJ cZ cT) [.ref m0, .int a, .int b, .int d] [(m0, .inr (10, fs)), (m5, .inl (cI, 12, .inl (fun _ => 0)))] (fun u : Unit => some (.int (-2))) (fun u : Unit => True) (fun u : Unit => ([] : va_W)) 0 0 := by
  refine entry (cc := cX10_deed) (maxL := 4) (ret := (some .int)) (by decide) rfl (Nat.le_of_ble_eq_true rfl) ?_
  intro p e s m below meth c A ls hx hb hr hml hts hown hlocks hname hK hP hD hS hA hl
  have hown : s.vm.findClass RX10 = some m.cls := hown
  have hl : lv_has ls 4 [(0, .ref m0), (1, .int a), (2, .int b), (3, .int d)] := hl
  refine lv_aload_n hx hb dX10_deed_0 rfl (lv_at hl 0 rfl) ?_
  refine lv_iconst (v := 0) hx hb dX10_deed_1 (by decide) ?_
  refine va_put (D := D) (ci := 10) (v := .int 0) (ty := .int) (C := RX10) (T := TX10) (N := 50) hx hb hts (fun _ h => List.mem_cons_of_mem _ (List.mem_append_right _ h)) tyX10 tyX10_ok nmX10 hown hK.1 hP hD hS 0 rfl rfl 0 (by decide) (hts (.fieldLink RX10 80 "ClapBankModel" "code" "I") (List.mem_of_getElem? (i := 1) rfl)) (fun _ h9 => h9) rfl (by decide +kernel) rfl rfl (Nat.lt_of_lt_of_eq (by decide) (Eq.symm fl)) dX10_deed_2 (fun H locs hP hD hS => ?_)
  have hP : va_P D vwCl [(m0, .inr (10, (fs.set 0 (.int 0)))), (m5, .inl (cI, 12, .inl (fun _ => 0)))] H := hP
  have hD : va_D A [(m0, .inr (10, (fs.set 0 (.int 0)))), (m5, .inl (cI, 12, .inl (fun _ => 0)))] := hD
  refine lv_aload_n hx hb dX10_deed_5 rfl (lv_at hl 0 rfl) ?_
  refine lv_iload_n hx hb dX10_deed_6 rfl (lv_at hl 1 rfl) ?_
  refine doV (n := 1) (As := [.int a]) (rest := []) (wc := [(m0, .inr (10, (fs.set 0 (.int 0)))), (m5, .inl (cI, 12, .inl (fun _ => 0)))]) (wr := ([] : va_W)) hx hb hml hown hts hK hP hD hS hA [0, 1] [] rfl rfl rfl rfl (by decide) 0 rfl rfl (m_hasBook l D cI cB cJ cZ cT (m0) ((fs.set 0 (.int 0))) (m5) (fset_len fl) (fset_ne (by decide) f5) (a)) gX10_deed_X10_hasBook rfl rfl rfl (by decide +kernel) ⟨Nat.le_of_ble_eq_true rfl, Nat.le_of_ble_eq_true rfl⟩ hl.1 rfl rfl (Nat.le_of_ble_eq_true rfl) dX10_deed_7 ⟨Nat.le_of_ble_eq_true rfl, Nat.le_of_ble_eq_true rfl⟩ (fun u H locs hw hP hD hS => ?_)
  refine W.eq (g2 := F0 m 10 ls [.int 0]) rfl ?_
  refine bi_ne (tgt := 16) (X := 0) hx hb (by decide) dX10_deed_10 (by decide) (fun h => absurd h (by decide)) (fun c1 => ?_)
  refine lv_bipush (v := (-2)) hx hb dX10_deed_13 (by decide) ?_
  refine W.widen (k := 0) (n := 0) (Nat.le_of_ble_eq_true rfl) (Nat.le_of_ble_eq_true rfl) ?_
  exact ro_i hx hb hr hlocks () rfl (trivial) (hP.sub [] rfl) (hD.sub [] (by decide) rfl) hS dX10_deed_15
set_option maxHeartbeats 400000 in
set_option maxRecDepth 100000 in
theorem y_stop (l : Launch) (D : va_G) (cI cB cJ cZ cT : ClassId) (m0 : Nat) (fs : List Value) (m5 : Nat) (fl : fs.length = 50) (f5 : fs[5]? = some (.ref m5)) (a : Int32) (b : Int32) : Co l yX10_stop wsX10_stop ({ frames := 3, cells := 0, slots := 0, locals := 65 }) D (tyL cI cB cJ cZ cT) [.ref m0, .int a, .int b] [(m0, .inr (10, fs)), (m5, .inl (cI, 12, .inl (fun _ => 0)))] (fun u : Unit => some (.int (-1))) (fun u : Unit => True) (fun u : Unit => ([] : va_W)) 0 0 := by
  refine entry (cc := cX10_stop) (maxL := 3) (ret := (some .int)) (by decide) rfl (Nat.le_of_ble_eq_true rfl) ?_
  intro p e s m below meth c A ls hx hb hr hml hts hown hlocks hname hK hP hD hS hA hl
  have hown : s.vm.findClass RX10 = some m.cls := hown
  have hl : lv_has ls 3 [(0, .ref m0), (1, .int a), (2, .int b)] := hl
  refine lv_aload_n hx hb dX10_stop_0 rfl (lv_at hl 0 rfl) ?_
  refine lv_iconst (v := 0) hx hb dX10_stop_1 (by decide) ?_
  refine va_put (D := D) (ci := 10) (v := .int 0) (ty := .int) (C := RX10) (T := TX10) (N := 50) hx hb hts (fun _ h => List.mem_cons_of_mem _ (List.mem_append_right _ h)) tyX10 tyX10_ok nmX10 hown hK.1 hP hD hS 0 rfl rfl 0 (by decide) (hts (.fieldLink RX10 80 "ClapBankModel" "code" "I") (List.mem_of_getElem? (i := 1) rfl)) (fun _ h9 => h9) rfl (by decide +kernel) rfl rfl (Nat.lt_of_lt_of_eq (by decide) (Eq.symm fl)) dX10_stop_2 (fun H locs hP hD hS => ?_)
  have hP : va_P D vwCl [(m0, .inr (10, (fs.set 0 (.int 0)))), (m5, .inl (cI, 12, .inl (fun _ => 0)))] H := hP
  have hD : va_D A [(m0, .inr (10, (fs.set 0 (.int 0)))), (m5, .inl (cI, 12, .inl (fun _ => 0)))] := hD
  refine lv_aload_n hx hb dX10_stop_5 rfl (lv_at hl 0 rfl) ?_
  refine lv_iload_n hx hb dX10_stop_6 rfl (lv_at hl 2 rfl) ?_
  refine doV (n := 1) (As := [.int b]) (rest := []) (wc := [(m0, .inr (10, (fs.set 0 (.int 0)))), (m5, .inl (cI, 12, .inl (fun _ => 0)))]) (wr := ([] : va_W)) hx hb hml hown hts hK hP hD hS hA [0, 1] [] rfl rfl rfl rfl (by decide) 0 rfl rfl (m_hasBook l D cI cB cJ cZ cT (m0) ((fs.set 0 (.int 0))) (m5) (fset_len fl) (fset_ne (by decide) f5) (b)) gX10_stop_X10_hasBook rfl rfl rfl (by decide +kernel) ⟨Nat.le_of_ble_eq_true rfl, Nat.le_of_ble_eq_true rfl⟩ hl.1 rfl rfl (Nat.le_of_ble_eq_true rfl) dX10_stop_7 ⟨Nat.le_of_ble_eq_true rfl, Nat.le_of_ble_eq_true rfl⟩ (fun u H locs hw hP hD hS => ?_)
  refine W.eq (g2 := F0 m 10 ls [.int 0]) rfl ?_
  refine bi_eq (tgt := 32) (X := 0) hx hb (by decide) dX10_stop_10 (by decide) (fun c1 => ?_) (fun h => absurd h (by decide))
  refine lv_iconst (v := (-1)) hx hb dX10_stop_32 (by decide) ?_
  refine W.widen (k := 0) (n := 0) (Nat.le_of_ble_eq_true rfl) (Nat.le_of_ble_eq_true rfl) ?_
  exact ro_i hx hb hr hlocks () rfl (trivial) (hP.sub [] rfl) (hD.sub [] (by decide) rfl) hS dX10_stop_33
set_option maxHeartbeats 400000 in
set_option maxRecDepth 100000 in
theorem y_state (l : Launch) (D : va_G) (cI cB cJ cZ cT : ClassId) (m0 : Nat) (fs : List Value) (m5 : Nat) (fl : fs.length = 50) (f5 : fs[5]? = some (.ref m5)) (a : Int32) (b : Int32) (d : Int32) (f : Int32) : Co l yX10_state wsX10_state ({ frames := 4, cells := 0, slots := 0, locals := 88 }) D (tyL cI cB cJ cZ cT) [.ref m0, .int a, .int b, .int d, .int f] [(m0, .inr (10, fs)), (m5, .inl (cI, 12, .inl (fun _ => 0)))] (fun u : Unit => some (.int (-2))) (fun u : Unit => True) (fun u : Unit => ([] : va_W)) 0 0 := by
  refine entry (cc := cX10_state) (maxL := 5) (ret := (some .int)) (by decide) rfl (Nat.le_of_ble_eq_true rfl) ?_
  intro p e s m below meth c A ls hx hb hr hml hts hown hlocks hname hK hP hD hS hA hl
  have hown : s.vm.findClass RX10 = some m.cls := hown
  have hl : lv_has ls 5 [(0, .ref m0), (1, .int a), (2, .int b), (3, .int d), (4, .int f)] := hl
  refine lv_aload_n hx hb dX10_state_0 rfl (lv_at hl 0 rfl) ?_
  refine lv_iconst (v := 0) hx hb dX10_state_1 (by decide) ?_
  refine va_put (D := D) (ci := 10) (v := .int 0) (ty := .int) (C := RX10) (T := TX10) (N := 50) hx hb hts (fun _ h => List.mem_cons_of_mem _ (List.mem_append_right _ h)) tyX10 tyX10_ok nmX10 hown hK.1 hP hD hS 0 rfl rfl 0 (by decide) (hts (.fieldLink RX10 80 "ClapBankModel" "code" "I") (List.mem_of_getElem? (i := 1) rfl)) (fun _ h9 => h9) rfl (by decide +kernel) rfl rfl (Nat.lt_of_lt_of_eq (by decide) (Eq.symm fl)) dX10_state_2 (fun H locs hP hD hS => ?_)
  have hP : va_P D vwCl [(m0, .inr (10, (fs.set 0 (.int 0)))), (m5, .inl (cI, 12, .inl (fun _ => 0)))] H := hP
  have hD : va_D A [(m0, .inr (10, (fs.set 0 (.int 0)))), (m5, .inl (cI, 12, .inl (fun _ => 0)))] := hD
  refine lv_aload_n hx hb dX10_state_5 rfl (lv_at hl 0 rfl) ?_
  refine lv_iload_n hx hb dX10_state_6 rfl (lv_at hl 1 rfl) ?_
  refine lv_iload_n hx hb dX10_state_7 rfl (lv_at hl 2 rfl) ?_
  refine lv_iload_n hx hb dX10_state_8 rfl (lv_at hl 3 rfl) ?_
  refine doV (n := 3) (As := [.int a, .int b, .int d]) (rest := []) (wc := [(m0, .inr (10, (fs.set 0 (.int 0)))), (m5, .inl (cI, 12, .inl (fun _ => 0)))]) (wr := ([] : va_W)) hx hb hml hown hts hK hP hD hS hA [0, 1] [] rfl rfl rfl rfl (by decide) 0 rfl rfl (m_layState l D cI cB cJ cZ cT (m0) ((fs.set 0 (.int 0))) (m5) (fset_len fl) (fset_ne (by decide) f5) (a) (b) (d)) gX10_state_X10_layState rfl rfl rfl (by decide +kernel) ⟨Nat.le_of_ble_eq_true rfl, Nat.le_of_ble_eq_true rfl⟩ hl.1 rfl rfl (Nat.le_of_ble_eq_true rfl) dX10_state_9 ⟨Nat.le_of_ble_eq_true rfl, Nat.le_of_ble_eq_true rfl⟩ (fun u H locs hw hP hD hS => ?_)
  refine W.eq (g2 := F0 m 12 ls [.int 0]) rfl ?_
  refine bi_ne (tgt := 18) (X := 0) hx hb (by decide) dX10_state_12 (by decide) (fun h => absurd h (by decide)) (fun c1 => ?_)
  refine lv_bipush (v := (-2)) hx hb dX10_state_15 (by decide) ?_
  refine W.widen (k := 0) (n := 0) (Nat.le_of_ble_eq_true rfl) (Nat.le_of_ble_eq_true rfl) ?_
  exact ro_i hx hb hr hlocks () rfl (trivial) (hP.sub [] rfl) (hD.sub [] (by decide) rfl) hS dX10_state_17
set_option maxHeartbeats 400000 in
set_option maxRecDepth 100000 in
theorem y_palm (l : Launch) (D : va_G) (cI cB cJ cZ cT : ClassId) (m0 : Nat) (fs : List Value) (m5 : Nat) (fl : fs.length = 50) (f5 : fs[5]? = some (.ref m5)) (a : Int32) (b : Int32) (d : Int32) (f : Int32) (g : Int32) : Co l yX10_palm wsX10_palm ({ frames := 4, cells := 0, slots := 0, locals := 88 }) D (tyL cI cB cJ cZ cT) [.ref m0, .int a, .int b, .int d, .int f, .int g] [(m0, .inr (10, fs)), (m5, .inl (cI, 12, .inl (fun _ => 0)))] (fun u : Unit => some (.int (-2))) (fun u : Unit => True) (fun u : Unit => ([] : va_W)) 0 0 := by
  refine entry (cc := cX10_palm) (maxL := 6) (ret := (some .int)) (by decide) rfl (Nat.le_of_ble_eq_true rfl) ?_
  intro p e s m below meth c A ls hx hb hr hml hts hown hlocks hname hK hP hD hS hA hl
  have hown : s.vm.findClass RX10 = some m.cls := hown
  have hl : lv_has ls 6 [(0, .ref m0), (1, .int a), (2, .int b), (3, .int d), (4, .int f), (5, .int g)] := hl
  refine lv_aload_n hx hb dX10_palm_0 rfl (lv_at hl 0 rfl) ?_
  refine lv_iconst (v := 0) hx hb dX10_palm_1 (by decide) ?_
  refine va_put (D := D) (ci := 10) (v := .int 0) (ty := .int) (C := RX10) (T := TX10) (N := 50) hx hb hts (fun _ h => List.mem_cons_of_mem _ (List.mem_append_right _ h)) tyX10 tyX10_ok nmX10 hown hK.1 hP hD hS 0 rfl rfl 0 (by decide) (hts (.fieldLink RX10 80 "ClapBankModel" "code" "I") (List.mem_of_getElem? (i := 1) rfl)) (fun _ h9 => h9) rfl (by decide +kernel) rfl rfl (Nat.lt_of_lt_of_eq (by decide) (Eq.symm fl)) dX10_palm_2 (fun H locs hP hD hS => ?_)
  have hP : va_P D vwCl [(m0, .inr (10, (fs.set 0 (.int 0)))), (m5, .inl (cI, 12, .inl (fun _ => 0)))] H := hP
  have hD : va_D A [(m0, .inr (10, (fs.set 0 (.int 0)))), (m5, .inl (cI, 12, .inl (fun _ => 0)))] := hD
  refine lv_aload_n hx hb dX10_palm_5 rfl (lv_at hl 0 rfl) ?_
  refine lv_iload_n hx hb dX10_palm_6 rfl (lv_at hl 1 rfl) ?_
  refine lv_iload_n hx hb dX10_palm_7 rfl (lv_at hl 2 rfl) ?_
  refine lv_iload_n hx hb dX10_palm_8 rfl (lv_at hl 3 rfl) ?_
  refine doV (n := 3) (As := [.int a, .int b, .int d]) (rest := []) (wc := [(m0, .inr (10, (fs.set 0 (.int 0)))), (m5, .inl (cI, 12, .inl (fun _ => 0)))]) (wr := ([] : va_W)) hx hb hml hown hts hK hP hD hS hA [0, 1] [] rfl rfl rfl rfl (by decide) 0 rfl rfl (m_layState l D cI cB cJ cZ cT (m0) ((fs.set 0 (.int 0))) (m5) (fset_len fl) (fset_ne (by decide) f5) (a) (b) (d)) gX10_palm_X10_layState rfl rfl rfl (by decide +kernel) ⟨Nat.le_of_ble_eq_true rfl, Nat.le_of_ble_eq_true rfl⟩ hl.1 rfl rfl (Nat.le_of_ble_eq_true rfl) dX10_palm_9 ⟨Nat.le_of_ble_eq_true rfl, Nat.le_of_ble_eq_true rfl⟩ (fun u H locs hw hP hD hS => ?_)
  refine W.eq (g2 := F0 m 12 ls [.int 0]) rfl ?_
  refine bi_eq (tgt := 24) (X := 0) hx hb (by decide) dX10_palm_12 (by decide) (fun c1 => ?_) (fun h => absurd h (by decide))
  refine lv_bipush (v := (-2)) hx hb dX10_palm_24 (by decide) ?_
  refine W.widen (k := 0) (n := 0) (Nat.le_of_ble_eq_true rfl) (Nat.le_of_ble_eq_true rfl) ?_
  exact ro_i hx hb hr hlocks () rfl (trivial) (hP.sub [] rfl) (hD.sub [] (by decide) rfl) hS dX10_palm_26
set_option maxHeartbeats 400000 in
set_option maxRecDepth 100000 in
theorem y_actor (l : Launch) (D : va_G) (cI cB cJ cZ cT : ClassId) (m0 : Nat) (fs : List Value) (m5 : Nat) (fl : fs.length = 50) (f5 : fs[5]? = some (.ref m5)) (a : Int32) (b : Int32) (d : Int32) (f : Int32) (g : Int32) : Co l yX10_actor wsX10_actor ({ frames := 4, cells := 0, slots := 0, locals := 88 }) D (tyL cI cB cJ cZ cT) [.ref m0, .int a, .int b, .int d, .int f, .int g] [(m0, .inr (10, fs)), (m5, .inl (cI, 12, .inl (fun _ => 0)))] (fun u : Unit => some (.int (-2))) (fun u : Unit => True) (fun u : Unit => ([] : va_W)) 0 0 := by
  refine entry (cc := cX10_actor) (maxL := 7) (ret := (some .int)) (by decide) rfl (Nat.le_of_ble_eq_true rfl) ?_
  intro p e s m below meth c A ls hx hb hr hml hts hown hlocks hname hK hP hD hS hA hl
  have hown : s.vm.findClass RX10 = some m.cls := hown
  have hl : lv_has ls 7 [(0, .ref m0), (1, .int a), (2, .int b), (3, .int d), (4, .int f), (5, .int g)] := hl
  refine lv_aload_n hx hb dX10_actor_0 rfl (lv_at hl 0 rfl) ?_
  refine lv_iconst (v := 0) hx hb dX10_actor_1 (by decide) ?_
  refine va_put (D := D) (ci := 10) (v := .int 0) (ty := .int) (C := RX10) (T := TX10) (N := 50) hx hb hts (fun _ h => List.mem_cons_of_mem _ (List.mem_append_right _ h)) tyX10 tyX10_ok nmX10 hown hK.1 hP hD hS 0 rfl rfl 0 (by decide) (hts (.fieldLink RX10 80 "ClapBankModel" "code" "I") (List.mem_of_getElem? (i := 1) rfl)) (fun _ h9 => h9) rfl (by decide +kernel) rfl rfl (Nat.lt_of_lt_of_eq (by decide) (Eq.symm fl)) dX10_actor_2 (fun H locs hP hD hS => ?_)
  have hP : va_P D vwCl [(m0, .inr (10, (fs.set 0 (.int 0)))), (m5, .inl (cI, 12, .inl (fun _ => 0)))] H := hP
  have hD : va_D A [(m0, .inr (10, (fs.set 0 (.int 0)))), (m5, .inl (cI, 12, .inl (fun _ => 0)))] := hD
  refine lv_aload_n hx hb dX10_actor_5 rfl (lv_at hl 0 rfl) ?_
  refine lv_iload_n hx hb dX10_actor_6 rfl (lv_at hl 1 rfl) ?_
  refine lv_iload_n hx hb dX10_actor_7 rfl (lv_at hl 2 rfl) ?_
  refine lv_iload_n hx hb dX10_actor_8 rfl (lv_at hl 3 rfl) ?_
  refine doV (n := 3) (As := [.int a, .int b, .int d]) (rest := []) (wc := [(m0, .inr (10, (fs.set 0 (.int 0)))), (m5, .inl (cI, 12, .inl (fun _ => 0)))]) (wr := ([] : va_W)) hx hb hml hown hts hK hP hD hS hA [0, 1] [] rfl rfl rfl rfl (by decide) 0 rfl rfl (m_layState l D cI cB cJ cZ cT (m0) ((fs.set 0 (.int 0))) (m5) (fset_len fl) (fset_ne (by decide) f5) (a) (b) (d)) gX10_actor_X10_layState rfl rfl rfl (by decide +kernel) ⟨Nat.le_of_ble_eq_true rfl, Nat.le_of_ble_eq_true rfl⟩ hl.1 rfl rfl (Nat.le_of_ble_eq_true rfl) dX10_actor_9 ⟨Nat.le_of_ble_eq_true rfl, Nat.le_of_ble_eq_true rfl⟩ (fun u H locs hw hP hD hS => ?_)
  refine W.eq (g2 := F0 m 12 ls [.int 0]) rfl ?_
  refine bi_eq (tgt := 24) (X := 0) hx hb (by decide) dX10_actor_12 (by decide) (fun c1 => ?_) (fun h => absurd h (by decide))
  refine lv_bipush (v := (-2)) hx hb dX10_actor_24 (by decide) ?_
  refine W.widen (k := 0) (n := 0) (Nat.le_of_ble_eq_true rfl) (Nat.le_of_ble_eq_true rfl) ?_
  exact ro_i hx hb hr hlocks () rfl (trivial) (hP.sub [] rfl) (hD.sub [] (by decide) rfl) hS dX10_actor_26
set_option maxHeartbeats 400000 in
set_option maxRecDepth 100000 in
theorem y_run (l : Launch) (D : va_G) (cI cB cJ cZ cT : ClassId) (m0 : Nat) (fs : List Value) (m5 : Nat) (fl : fs.length = 50) (f5 : fs[5]? = some (.ref m5)) (a : Int32) (b : Int32) (d : Int32) (f : Int32) : Co l yX10_run wsX10_run ({ frames := 4, cells := 0, slots := 0, locals := 88 }) D (tyL cI cB cJ cZ cT) [.ref m0, .int a, .int b, .int d, .int f] [(m0, .inr (10, fs)), (m5, .inl (cI, 12, .inl (fun _ => 0)))] (fun u : Unit => some (.int (-2))) (fun u : Unit => True) (fun u : Unit => ([] : va_W)) 0 0 := by
  refine entry (cc := cX10_run) (maxL := 8) (ret := (some .int)) (by decide) rfl (Nat.le_of_ble_eq_true rfl) ?_
  intro p e s m below meth c A ls hx hb hr hml hts hown hlocks hname hK hP hD hS hA hl
  have hown : s.vm.findClass RX10 = some m.cls := hown
  have hl : lv_has ls 8 [(0, .ref m0), (1, .int a), (2, .int b), (3, .int d), (4, .int f)] := hl
  refine lv_aload_n hx hb dX10_run_0 rfl (lv_at hl 0 rfl) ?_
  refine lv_iconst (v := 0) hx hb dX10_run_1 (by decide) ?_
  refine va_put (D := D) (ci := 10) (v := .int 0) (ty := .int) (C := RX10) (T := TX10) (N := 50) hx hb hts (fun _ h => List.mem_cons_of_mem _ (List.mem_append_right _ h)) tyX10 tyX10_ok nmX10 hown hK.1 hP hD hS 0 rfl rfl 0 (by decide) (hts (.fieldLink RX10 80 "ClapBankModel" "code" "I") (List.mem_of_getElem? (i := 1) rfl)) (fun _ h9 => h9) rfl (by decide +kernel) rfl rfl (Nat.lt_of_lt_of_eq (by decide) (Eq.symm fl)) dX10_run_2 (fun H locs hP hD hS => ?_)
  have hP : va_P D vwCl [(m0, .inr (10, (fs.set 0 (.int 0)))), (m5, .inl (cI, 12, .inl (fun _ => 0)))] H := hP
  have hD : va_D A [(m0, .inr (10, (fs.set 0 (.int 0)))), (m5, .inl (cI, 12, .inl (fun _ => 0)))] := hD
  refine lv_aload_n hx hb dX10_run_5 rfl (lv_at hl 0 rfl) ?_
  refine lv_iload_n hx hb dX10_run_6 rfl (lv_at hl 1 rfl) ?_
  refine lv_iload_n hx hb dX10_run_7 rfl (lv_at hl 2 rfl) ?_
  refine lv_iload_n hx hb dX10_run_8 rfl (lv_at hl 3 rfl) ?_
  refine doV (n := 3) (As := [.int a, .int b, .int d]) (rest := []) (wc := [(m0, .inr (10, (fs.set 0 (.int 0)))), (m5, .inl (cI, 12, .inl (fun _ => 0)))]) (wr := ([] : va_W)) hx hb hml hown hts hK hP hD hS hA [0, 1] [] rfl rfl rfl rfl (by decide) 0 rfl rfl (m_layState l D cI cB cJ cZ cT (m0) ((fs.set 0 (.int 0))) (m5) (fset_len fl) (fset_ne (by decide) f5) (a) (b) (d)) gX10_run_X10_layState rfl rfl rfl (by decide +kernel) ⟨Nat.le_of_ble_eq_true rfl, Nat.le_of_ble_eq_true rfl⟩ hl.1 rfl rfl (Nat.le_of_ble_eq_true rfl) dX10_run_9 ⟨Nat.le_of_ble_eq_true rfl, Nat.le_of_ble_eq_true rfl⟩ (fun u H locs hw hP hD hS => ?_)
  refine W.eq (g2 := F0 m 12 ls [.int 0]) rfl ?_
  refine bi_eq (tgt := 25) (X := 0) hx hb (by decide) dX10_run_12 (by decide) (fun c1 => ?_) (fun h => absurd h (by decide))
  refine lv_bipush (v := (-2)) hx hb dX10_run_25 (by decide) ?_
  refine W.widen (k := 0) (n := 0) (Nat.le_of_ble_eq_true rfl) (Nat.le_of_ble_eq_true rfl) ?_
  exact ro_i hx hb hr hlocks () rfl (trivial) (hP.sub [] rfl) (hD.sub [] (by decide) rfl) hS dX10_run_27
set_option maxHeartbeats 400000 in
set_option maxRecDepth 100000 in
theorem y_feast (l : Launch) (D : va_G) (cI cB cJ cZ cT : ClassId) (m0 : Nat) (fs : List Value) (m5 : Nat) (fl : fs.length = 50) (f5 : fs[5]? = some (.ref m5)) (a : Int32) (b : Int32) (d : Int32) (f : Int32) : Co l yX10_feast wsX10_feast ({ frames := 4, cells := 0, slots := 0, locals := 88 }) D (tyL cI cB cJ cZ cT) [.ref m0, .int a, .int b, .int d, .int f] [(m0, .inr (10, fs)), (m5, .inl (cI, 12, .inl (fun _ => 0)))] (fun u : Unit => some (.int (-2))) (fun u : Unit => True) (fun u : Unit => ([] : va_W)) 0 0 := by
  refine entry (cc := cX10_feast) (maxL := 11) (ret := (some .int)) (by decide) rfl (Nat.le_of_ble_eq_true rfl) ?_
  intro p e s m below meth c A ls hx hb hr hml hts hown hlocks hname hK hP hD hS hA hl
  have hown : s.vm.findClass RX10 = some m.cls := hown
  have hl : lv_has ls 11 [(0, .ref m0), (1, .int a), (2, .int b), (3, .int d), (4, .int f)] := hl
  refine lv_aload_n hx hb dX10_feast_0 rfl (lv_at hl 0 rfl) ?_
  refine lv_iconst (v := 0) hx hb dX10_feast_1 (by decide) ?_
  refine va_put (D := D) (ci := 10) (v := .int 0) (ty := .int) (C := RX10) (T := TX10) (N := 50) hx hb hts (fun _ h => List.mem_cons_of_mem _ (List.mem_append_right _ h)) tyX10 tyX10_ok nmX10 hown hK.1 hP hD hS 0 rfl rfl 0 (by decide) (hts (.fieldLink RX10 80 "ClapBankModel" "code" "I") (List.mem_of_getElem? (i := 1) rfl)) (fun _ h9 => h9) rfl (by decide +kernel) rfl rfl (Nat.lt_of_lt_of_eq (by decide) (Eq.symm fl)) dX10_feast_2 (fun H locs hP hD hS => ?_)
  have hP : va_P D vwCl [(m0, .inr (10, (fs.set 0 (.int 0)))), (m5, .inl (cI, 12, .inl (fun _ => 0)))] H := hP
  have hD : va_D A [(m0, .inr (10, (fs.set 0 (.int 0)))), (m5, .inl (cI, 12, .inl (fun _ => 0)))] := hD
  refine lv_aload_n hx hb dX10_feast_5 rfl (lv_at hl 0 rfl) ?_
  refine lv_iload_n hx hb dX10_feast_6 rfl (lv_at hl 1 rfl) ?_
  refine lv_iload_n hx hb dX10_feast_7 rfl (lv_at hl 2 rfl) ?_
  refine lv_iload_n hx hb dX10_feast_8 rfl (lv_at hl 3 rfl) ?_
  refine doV (n := 3) (As := [.int a, .int b, .int d]) (rest := []) (wc := [(m0, .inr (10, (fs.set 0 (.int 0)))), (m5, .inl (cI, 12, .inl (fun _ => 0)))]) (wr := ([] : va_W)) hx hb hml hown hts hK hP hD hS hA [0, 1] [] rfl rfl rfl rfl (by decide) 0 rfl rfl (m_layState l D cI cB cJ cZ cT (m0) ((fs.set 0 (.int 0))) (m5) (fset_len fl) (fset_ne (by decide) f5) (a) (b) (d)) gX10_feast_X10_layState rfl rfl rfl (by decide +kernel) ⟨Nat.le_of_ble_eq_true rfl, Nat.le_of_ble_eq_true rfl⟩ hl.1 rfl rfl (Nat.le_of_ble_eq_true rfl) dX10_feast_9 ⟨Nat.le_of_ble_eq_true rfl, Nat.le_of_ble_eq_true rfl⟩ (fun u H locs hw hP hD hS => ?_)
  refine W.eq (g2 := F0 m 12 ls [.int 0]) rfl ?_
  refine bi_eq (tgt := 25) (X := 0) hx hb (by decide) dX10_feast_12 (by decide) (fun c1 => ?_) (fun h => absurd h (by decide))
  refine lv_bipush (v := (-2)) hx hb dX10_feast_25 (by decide) ?_
  refine W.widen (k := 0) (n := 0) (Nat.le_of_ble_eq_true rfl) (Nat.le_of_ble_eq_true rfl) ?_
  exact ro_i hx hb hr hlocks () rfl (trivial) (hP.sub [] rfl) (hD.sub [] (by decide) rfl) hS dX10_feast_27
set_option maxHeartbeats 400000 in
set_option maxRecDepth 100000 in
theorem y_fair (l : Launch) (D : va_G) (cI cB cJ cZ cT : ClassId) (m0 : Nat) (fs : List Value) (m5 : Nat) (fl : fs.length = 50) (f5 : fs[5]? = some (.ref m5)) (a : Int32) (b : Int32) (d : Int32) (f : Int32) : Co l yX10_fair wsX10_fair ({ frames := 4, cells := 0, slots := 0, locals := 88 }) D (tyL cI cB cJ cZ cT) [.ref m0, .int a, .int b, .int d, .int f] [(m0, .inr (10, fs)), (m5, .inl (cI, 12, .inl (fun _ => 0)))] (fun u : Unit => some (.int (-2))) (fun u : Unit => True) (fun u : Unit => ([] : va_W)) 0 0 := by
  refine entry (cc := cX10_fair) (maxL := 8) (ret := (some .int)) (by decide) rfl (Nat.le_of_ble_eq_true rfl) ?_
  intro p e s m below meth c A ls hx hb hr hml hts hown hlocks hname hK hP hD hS hA hl
  have hown : s.vm.findClass RX10 = some m.cls := hown
  have hl : lv_has ls 8 [(0, .ref m0), (1, .int a), (2, .int b), (3, .int d), (4, .int f)] := hl
  refine lv_aload_n hx hb dX10_fair_0 rfl (lv_at hl 0 rfl) ?_
  refine lv_iconst (v := 0) hx hb dX10_fair_1 (by decide) ?_
  refine va_put (D := D) (ci := 10) (v := .int 0) (ty := .int) (C := RX10) (T := TX10) (N := 50) hx hb hts (fun _ h => List.mem_cons_of_mem _ (List.mem_append_right _ h)) tyX10 tyX10_ok nmX10 hown hK.1 hP hD hS 0 rfl rfl 0 (by decide) (hts (.fieldLink RX10 80 "ClapBankModel" "code" "I") (List.mem_of_getElem? (i := 1) rfl)) (fun _ h9 => h9) rfl (by decide +kernel) rfl rfl (Nat.lt_of_lt_of_eq (by decide) (Eq.symm fl)) dX10_fair_2 (fun H locs hP hD hS => ?_)
  have hP : va_P D vwCl [(m0, .inr (10, (fs.set 0 (.int 0)))), (m5, .inl (cI, 12, .inl (fun _ => 0)))] H := hP
  have hD : va_D A [(m0, .inr (10, (fs.set 0 (.int 0)))), (m5, .inl (cI, 12, .inl (fun _ => 0)))] := hD
  refine lv_aload_n hx hb dX10_fair_5 rfl (lv_at hl 0 rfl) ?_
  refine lv_iload_n hx hb dX10_fair_6 rfl (lv_at hl 1 rfl) ?_
  refine lv_iload_n hx hb dX10_fair_7 rfl (lv_at hl 2 rfl) ?_
  refine lv_iload_n hx hb dX10_fair_8 rfl (lv_at hl 3 rfl) ?_
  refine doV (n := 3) (As := [.int a, .int b, .int d]) (rest := []) (wc := [(m0, .inr (10, (fs.set 0 (.int 0)))), (m5, .inl (cI, 12, .inl (fun _ => 0)))]) (wr := ([] : va_W)) hx hb hml hown hts hK hP hD hS hA [0, 1] [] rfl rfl rfl rfl (by decide) 0 rfl rfl (m_layState l D cI cB cJ cZ cT (m0) ((fs.set 0 (.int 0))) (m5) (fset_len fl) (fset_ne (by decide) f5) (a) (b) (d)) gX10_fair_X10_layState rfl rfl rfl (by decide +kernel) ⟨Nat.le_of_ble_eq_true rfl, Nat.le_of_ble_eq_true rfl⟩ hl.1 rfl rfl (Nat.le_of_ble_eq_true rfl) dX10_fair_9 ⟨Nat.le_of_ble_eq_true rfl, Nat.le_of_ble_eq_true rfl⟩ (fun u H locs hw hP hD hS => ?_)
  refine W.eq (g2 := F0 m 12 ls [.int 0]) rfl ?_
  refine bi_ne (tgt := 18) (X := 0) hx hb (by decide) dX10_fair_12 (by decide) (fun h => absurd h (by decide)) (fun c1 => ?_)
  refine lv_bipush (v := (-2)) hx hb dX10_fair_15 (by decide) ?_
  refine W.widen (k := 0) (n := 0) (Nat.le_of_ble_eq_true rfl) (Nat.le_of_ble_eq_true rfl) ?_
  exact ro_i hx hb hr hlocks () rfl (trivial) (hP.sub [] rfl) (hD.sub [] (by decide) rfl) hS dX10_fair_17
set_option maxHeartbeats 400000 in
set_option maxRecDepth 100000 in
theorem y_ask (l : Launch) (D : va_G) (cI cB cJ cZ cT : ClassId) (m0 : Nat) (fs : List Value) (m5 : Nat) (fl : fs.length = 50) (f5 : fs[5]? = some (.ref m5)) (a : Int32) (b : Int32) (d : Int32) : Co l yX10_ask wsX10_ask ({ frames := 4, cells := 0, slots := 0, locals := 88 }) D (tyL cI cB cJ cZ cT) [.ref m0, .int a, .int b, .int d] [(m0, .inr (10, fs)), (m5, .inl (cI, 12, .inl (fun _ => 0)))] (fun u : Unit => some (.int (-1))) (fun u : Unit => True) (fun u : Unit => ([] : va_W)) 0 0 := by
  refine entry (cc := cX10_ask) (maxL := 4) (ret := (some .int)) (by decide) rfl (Nat.le_of_ble_eq_true rfl) ?_
  intro p e s m below meth c A ls hx hb hr hml hts hown hlocks hname hK hP hD hS hA hl
  have hown : s.vm.findClass RX10 = some m.cls := hown
  have hl : lv_has ls 4 [(0, .ref m0), (1, .int a), (2, .int b), (3, .int d)] := hl
  refine lv_aload_n hx hb dX10_ask_0 rfl (lv_at hl 0 rfl) ?_
  refine lv_iconst (v := 0) hx hb dX10_ask_1 (by decide) ?_
  refine va_put (D := D) (ci := 10) (v := .int 0) (ty := .int) (C := RX10) (T := TX10) (N := 50) hx hb hts (fun _ h => List.mem_cons_of_mem _ (List.mem_append_right _ h)) tyX10 tyX10_ok nmX10 hown hK.1 hP hD hS 0 rfl rfl 0 (by decide) (hts (.fieldLink RX10 80 "ClapBankModel" "code" "I") (List.mem_of_getElem? (i := 1) rfl)) (fun _ h9 => h9) rfl (by decide +kernel) rfl rfl (Nat.lt_of_lt_of_eq (by decide) (Eq.symm fl)) dX10_ask_2 (fun H locs hP hD hS => ?_)
  have hP : va_P D vwCl [(m0, .inr (10, (fs.set 0 (.int 0)))), (m5, .inl (cI, 12, .inl (fun _ => 0)))] H := hP
  have hD : va_D A [(m0, .inr (10, (fs.set 0 (.int 0)))), (m5, .inl (cI, 12, .inl (fun _ => 0)))] := hD
  refine lv_aload_n hx hb dX10_ask_5 rfl (lv_at hl 0 rfl) ?_
  refine lv_iload_n hx hb dX10_ask_6 rfl (lv_at hl 1 rfl) ?_
  refine lv_iload_n hx hb dX10_ask_7 rfl (lv_at hl 2 rfl) ?_
  refine lv_iload_n hx hb dX10_ask_8 rfl (lv_at hl 3 rfl) ?_
  refine doV (n := 3) (As := [.int a, .int b, .int d]) (rest := []) (wc := [(m0, .inr (10, (fs.set 0 (.int 0)))), (m5, .inl (cI, 12, .inl (fun _ => 0)))]) (wr := ([] : va_W)) hx hb hml hown hts hK hP hD hS hA [0, 1] [] rfl rfl rfl rfl (by decide) 0 rfl rfl (m_layUsurer l D cI cB cJ cZ cT (m0) ((fs.set 0 (.int 0))) (m5) (fset_len fl) (fset_ne (by decide) f5) (a) (b) (d)) gX10_ask_X10_layUsurer rfl rfl rfl (by decide +kernel) ⟨Nat.le_of_ble_eq_true rfl, Nat.le_of_ble_eq_true rfl⟩ hl.1 rfl rfl (Nat.le_of_ble_eq_true rfl) dX10_ask_9 ⟨Nat.le_of_ble_eq_true rfl, Nat.le_of_ble_eq_true rfl⟩ (fun u H locs hw hP hD hS => ?_)
  refine W.eq (g2 := F0 m 12 ls [.int 0]) rfl ?_
  refine bi_eq (tgt := 28) (X := 0) hx hb (by decide) dX10_ask_12 (by decide) (fun c1 => ?_) (fun h => absurd h (by decide))
  refine lv_iconst (v := (-1)) hx hb dX10_ask_28 (by decide) ?_
  refine W.widen (k := 0) (n := 0) (Nat.le_of_ble_eq_true rfl) (Nat.le_of_ble_eq_true rfl) ?_
  exact ro_i hx hb hr hlocks () rfl (trivial) (hP.sub [] rfl) (hD.sub [] (by decide) rfl) hS dX10_ask_29
set_option maxHeartbeats 400000 in
set_option maxRecDepth 100000 in
theorem y_taken (l : Launch) (D : va_G) (cI cB cJ cZ cT : ClassId) (m0 : Nat) (fs : List Value) (m5 : Nat) (fl : fs.length = 50) (f5 : fs[5]? = some (.ref m5)) (a : Int32) (b : Int32) (d : Int32) : Co l yX10_taken wsX10_taken ({ frames := 4, cells := 0, slots := 0, locals := 88 }) D (tyL cI cB cJ cZ cT) [.ref m0, .int a, .int b, .int d] [(m0, .inr (10, fs)), (m5, .inl (cI, 12, .inl (fun _ => 0)))] (fun u : Unit => some (.int (-1))) (fun u : Unit => True) (fun u : Unit => ([] : va_W)) 0 0 := by
  refine entry (cc := cX10_taken) (maxL := 6) (ret := (some .int)) (by decide) rfl (Nat.le_of_ble_eq_true rfl) ?_
  intro p e s m below meth c A ls hx hb hr hml hts hown hlocks hname hK hP hD hS hA hl
  have hown : s.vm.findClass RX10 = some m.cls := hown
  have hl : lv_has ls 6 [(0, .ref m0), (1, .int a), (2, .int b), (3, .int d)] := hl
  refine lv_aload_n hx hb dX10_taken_0 rfl (lv_at hl 0 rfl) ?_
  refine lv_iconst (v := 0) hx hb dX10_taken_1 (by decide) ?_
  refine va_put (D := D) (ci := 10) (v := .int 0) (ty := .int) (C := RX10) (T := TX10) (N := 50) hx hb hts (fun _ h => List.mem_cons_of_mem _ (List.mem_append_right _ h)) tyX10 tyX10_ok nmX10 hown hK.1 hP hD hS 0 rfl rfl 0 (by decide) (hts (.fieldLink RX10 80 "ClapBankModel" "code" "I") (List.mem_of_getElem? (i := 1) rfl)) (fun _ h9 => h9) rfl (by decide +kernel) rfl rfl (Nat.lt_of_lt_of_eq (by decide) (Eq.symm fl)) dX10_taken_2 (fun H locs hP hD hS => ?_)
  have hP : va_P D vwCl [(m0, .inr (10, (fs.set 0 (.int 0)))), (m5, .inl (cI, 12, .inl (fun _ => 0)))] H := hP
  have hD : va_D A [(m0, .inr (10, (fs.set 0 (.int 0)))), (m5, .inl (cI, 12, .inl (fun _ => 0)))] := hD
  refine lv_aload_n hx hb dX10_taken_5 rfl (lv_at hl 0 rfl) ?_
  refine lv_iload_n hx hb dX10_taken_6 rfl (lv_at hl 1 rfl) ?_
  refine lv_iload_n hx hb dX10_taken_7 rfl (lv_at hl 2 rfl) ?_
  refine lv_iload_n hx hb dX10_taken_8 rfl (lv_at hl 3 rfl) ?_
  refine doV (n := 3) (As := [.int a, .int b, .int d]) (rest := []) (wc := [(m0, .inr (10, (fs.set 0 (.int 0)))), (m5, .inl (cI, 12, .inl (fun _ => 0)))]) (wr := ([] : va_W)) hx hb hml hown hts hK hP hD hS hA [0, 1] [] rfl rfl rfl rfl (by decide) 0 rfl rfl (m_layUsurer l D cI cB cJ cZ cT (m0) ((fs.set 0 (.int 0))) (m5) (fset_len fl) (fset_ne (by decide) f5) (a) (b) (d)) gX10_taken_X10_layUsurer rfl rfl rfl (by decide +kernel) ⟨Nat.le_of_ble_eq_true rfl, Nat.le_of_ble_eq_true rfl⟩ hl.1 rfl rfl (Nat.le_of_ble_eq_true rfl) dX10_taken_9 ⟨Nat.le_of_ble_eq_true rfl, Nat.le_of_ble_eq_true rfl⟩ (fun u H locs hw hP hD hS => ?_)
  refine W.eq (g2 := F0 m 12 ls [.int 0]) rfl ?_
  refine bi_ne (tgt := 17) (X := 0) hx hb (by decide) dX10_taken_12 (by decide) (fun h => absurd h (by decide)) (fun c1 => ?_)
  refine lv_iconst (v := (-1)) hx hb dX10_taken_15 (by decide) ?_
  refine W.widen (k := 0) (n := 0) (Nat.le_of_ble_eq_true rfl) (Nat.le_of_ble_eq_true rfl) ?_
  exact ro_i hx hb hr hlocks () rfl (trivial) (hP.sub [] rfl) (hD.sub [] (by decide) rfl) hS dX10_taken_16
set_option maxHeartbeats 400000 in
set_option maxRecDepth 100000 in
theorem y_stands (l : Launch) (D : va_G) (cI cB cJ cZ cT : ClassId) (m0 : Nat) (fs : List Value) (m5 : Nat) (fl : fs.length = 50) (f5 : fs[5]? = some (.ref m5)) (a : Int32) (b : Int32) : Co l yX10_stands wsX10_stands ({ frames := 3, cells := 0, slots := 0, locals := 65 }) D (tyL cI cB cJ cZ cT) [.ref m0, .int a, .int b] [(m0, .inr (10, fs)), (m5, .inl (cI, 12, .inl (fun _ => 0)))] (fun u : Unit => some (.int (-1))) (fun u : Unit => True) (fun u : Unit => ([] : va_W)) 0 0 := by
  refine entry (cc := cX10_stands) (maxL := 5) (ret := (some .int)) (by decide) rfl (Nat.le_of_ble_eq_true rfl) ?_
  intro p e s m below meth c A ls hx hb hr hml hts hown hlocks hname hK hP hD hS hA hl
  have hown : s.vm.findClass RX10 = some m.cls := hown
  have hl : lv_has ls 5 [(0, .ref m0), (1, .int a), (2, .int b)] := hl
  refine lv_aload_n hx hb dX10_stands_0 rfl (lv_at hl 0 rfl) ?_
  refine lv_iconst (v := 0) hx hb dX10_stands_1 (by decide) ?_
  refine va_put (D := D) (ci := 10) (v := .int 0) (ty := .int) (C := RX10) (T := TX10) (N := 50) hx hb hts (fun _ h => List.mem_cons_of_mem _ (List.mem_append_right _ h)) tyX10 tyX10_ok nmX10 hown hK.1 hP hD hS 0 rfl rfl 0 (by decide) (hts (.fieldLink RX10 80 "ClapBankModel" "code" "I") (List.mem_of_getElem? (i := 1) rfl)) (fun _ h9 => h9) rfl (by decide +kernel) rfl rfl (Nat.lt_of_lt_of_eq (by decide) (Eq.symm fl)) dX10_stands_2 (fun H locs hP hD hS => ?_)
  have hP : va_P D vwCl [(m0, .inr (10, (fs.set 0 (.int 0)))), (m5, .inl (cI, 12, .inl (fun _ => 0)))] H := hP
  have hD : va_D A [(m0, .inr (10, (fs.set 0 (.int 0)))), (m5, .inl (cI, 12, .inl (fun _ => 0)))] := hD
  refine lv_iload_n hx hb dX10_stands_5 rfl (lv_at hl 2 rfl) ?_
  refine lv_iconst (v := 0) hx hb dX10_stands_6 (by decide) ?_
  refine lv_iconst (v := 1) hx hb dX10_stands_7 (by decide) ?_
  refine doS (n := 3) (As := [.int b, .int 0, .int 1]) (rest := []) (wc := ([] : va_W)) (wr := [(m0, .inr (10, (fs.set 0 (.int 0)))), (m5, .inl (cI, 12, .inl (fun _ => 0)))]) hx hb hml hown hts hK hP hD hS hA [] [0, 1] rfl rfl rfl rfl (by decide) (m_in l D cI cB cJ cZ cT (b) (b.toInt) rfl (0) (0) (by decide) (1) (1) (by decide)) gX10_stands_X10_in rfl rfl rfl (by decide +kernel) ⟨Nat.le_of_ble_eq_true rfl, Nat.le_of_ble_eq_true rfl⟩ hl.1 rfl rfl (Nat.le_of_ble_eq_true rfl) dX10_stands_8 ⟨Nat.le_of_ble_eq_true rfl, Nat.le_of_ble_eq_true rfl⟩ (fun u H locs hw hP hD hS => ?_)
  obtain ⟨r_1, rfl⟩ : ∃ z, z = u := ⟨_, rfl⟩
  have hP : va_P D vwCl [(m0, .inr (10, (fs.set 0 (.int 0)))), (m5, .inl (cI, 12, .inl (fun _ => 0)))] H := hP
  have hD : va_D A [(m0, .inr (10, (fs.set 0 (.int 0)))), (m5, .inl (cI, 12, .inl (fun _ => 0)))] := hD
  refine W.eq (g2 := F0 m 11 ls [.int r_1]) rfl ?_
  have hw : (r_1 = 1 ∧ ((0) ≤ (b.toInt) ∧ (b.toInt) ≤ (1))) ∨ (r_1 = 0 ∧ ((b.toInt) < (0) ∨ (1) < (b.toInt))) := hw
  rcases hw with ⟨rfl, k2⟩ | ⟨rfl, k2⟩
  · skip
    refine bi_eq (tgt := 29) (X := 1) hx hb (by decide) dX10_stands_11 (by decide) (fun h => absurd h (by decide)) (fun c3 => ?_)
    refine lv_aload_n hx hb dX10_stands_14 rfl (lv_at hl 0 rfl) ?_
    refine lv_iload_n hx hb dX10_stands_15 rfl (lv_at hl 1 rfl) ?_
    refine doV (n := 1) (As := [.int a]) (rest := []) (wc := [(m0, .inr (10, (fs.set 0 (.int 0)))), (m5, .inl (cI, 12, .inl (fun _ => 0)))]) (wr := ([] : va_W)) hx hb hml hown hts hK hP hD hS hA [0, 1] [] rfl rfl rfl rfl (by decide) 0 rfl rfl (m_hand l D cI cB cJ cZ cT (m0) ((fs.set 0 (.int 0))) (m5) (fset_len fl) (fset_ne (by decide) f5) (a)) gX10_stands_X10_hand rfl rfl rfl (by decide +kernel) ⟨Nat.le_of_ble_eq_true rfl, Nat.le_of_ble_eq_true rfl⟩ hl.1 rfl rfl (Nat.le_of_ble_eq_true rfl) dX10_stands_16 ⟨Nat.le_of_ble_eq_true rfl, Nat.le_of_ble_eq_true rfl⟩ (fun u H locs hw hP hD hS => ?_)
    refine W.eq (g2 := F0 m 19 ls [.int 0]) rfl ?_
    refine bi_eq (tgt := 29) (X := 0) hx hb (by decide) dX10_stands_19 (by decide) (fun c4 => ?_) (fun h => absurd h (by decide))
    refine lv_iconst (v := (-1)) hx hb dX10_stands_29 (by decide) ?_
    refine W.widen (k := 0) (n := 0) (Nat.le_of_ble_eq_true rfl) (Nat.le_of_ble_eq_true rfl) ?_
    exact ro_i hx hb hr hlocks () rfl (trivial) (hP.sub [] rfl) (hD.sub [] (by decide) rfl) hS dX10_stands_30
  · skip
    refine bi_eq (tgt := 29) (X := 0) hx hb (by decide) dX10_stands_11 (by decide) (fun c5 => ?_) (fun h => absurd h (by decide))
    refine lv_iconst (v := (-1)) hx hb dX10_stands_29 (by decide) ?_
    refine W.widen (k := 0) (n := 0) (Nat.le_of_ble_eq_true rfl) (Nat.le_of_ble_eq_true rfl) ?_
    exact ro_i hx hb hr hlocks () rfl (trivial) (hP.sub [] rfl) (hD.sub [] (by decide) rfl) hS dX10_stands_30
set_option maxHeartbeats 400000 in
set_option maxRecDepth 100000 in
theorem y_heard (l : Launch) (D : va_G) (cI cB cJ cZ cT : ClassId) (m0 : Nat) (fs : List Value) (m5 : Nat) (fl : fs.length = 50) (f5 : fs[5]? = some (.ref m5)) (a : Int32) (b : Int32) : Co l yX10_heard wsX10_heard ({ frames := 3, cells := 0, slots := 0, locals := 65 }) D (tyL cI cB cJ cZ cT) [.ref m0, .int a, .int b] [(m0, .inr (10, fs)), (m5, .inl (cI, 12, .inl (fun _ => 0)))] (fun u : Unit => some (.int (-2))) (fun u : Unit => True) (fun u : Unit => ([] : va_W)) 0 0 := by
  refine entry (cc := cX10_heard) (maxL := 3) (ret := (some .int)) (by decide) rfl (Nat.le_of_ble_eq_true rfl) ?_
  intro p e s m below meth c A ls hx hb hr hml hts hown hlocks hname hK hP hD hS hA hl
  have hown : s.vm.findClass RX10 = some m.cls := hown
  have hl : lv_has ls 3 [(0, .ref m0), (1, .int a), (2, .int b)] := hl
  refine lv_aload_n hx hb dX10_heard_0 rfl (lv_at hl 0 rfl) ?_
  refine lv_iconst (v := 0) hx hb dX10_heard_1 (by decide) ?_
  refine va_put (D := D) (ci := 10) (v := .int 0) (ty := .int) (C := RX10) (T := TX10) (N := 50) hx hb hts (fun _ h => List.mem_cons_of_mem _ (List.mem_append_right _ h)) tyX10 tyX10_ok nmX10 hown hK.1 hP hD hS 0 rfl rfl 0 (by decide) (hts (.fieldLink RX10 80 "ClapBankModel" "code" "I") (List.mem_of_getElem? (i := 1) rfl)) (fun _ h9 => h9) rfl (by decide +kernel) rfl rfl (Nat.lt_of_lt_of_eq (by decide) (Eq.symm fl)) dX10_heard_2 (fun H locs hP hD hS => ?_)
  have hP : va_P D vwCl [(m0, .inr (10, (fs.set 0 (.int 0)))), (m5, .inl (cI, 12, .inl (fun _ => 0)))] H := hP
  have hD : va_D A [(m0, .inr (10, (fs.set 0 (.int 0)))), (m5, .inl (cI, 12, .inl (fun _ => 0)))] := hD
  refine lv_aload_n hx hb dX10_heard_5 rfl (lv_at hl 0 rfl) ?_
  refine lv_iload_n hx hb dX10_heard_6 rfl (lv_at hl 1 rfl) ?_
  refine doV (n := 1) (As := [.int a]) (rest := []) (wc := [(m0, .inr (10, (fs.set 0 (.int 0)))), (m5, .inl (cI, 12, .inl (fun _ => 0)))]) (wr := ([] : va_W)) hx hb hml hown hts hK hP hD hS hA [0, 1] [] rfl rfl rfl rfl (by decide) 0 rfl rfl (m_hasDark l D cI cB cJ cZ cT (m0) ((fs.set 0 (.int 0))) (m5) (fset_len fl) (fset_ne (by decide) f5) (a)) gX10_heard_X10_hasDark rfl rfl rfl (by decide +kernel) ⟨Nat.le_of_ble_eq_true rfl, Nat.le_of_ble_eq_true rfl⟩ hl.1 rfl rfl (Nat.le_of_ble_eq_true rfl) dX10_heard_7 ⟨Nat.le_of_ble_eq_true rfl, Nat.le_of_ble_eq_true rfl⟩ (fun u H locs hw hP hD hS => ?_)
  refine W.eq (g2 := F0 m 10 ls [.int 0]) rfl ?_
  refine bi_ne (tgt := 16) (X := 0) hx hb (by decide) dX10_heard_10 (by decide) (fun h => absurd h (by decide)) (fun c1 => ?_)
  refine lv_bipush (v := (-2)) hx hb dX10_heard_13 (by decide) ?_
  refine W.widen (k := 0) (n := 0) (Nat.le_of_ble_eq_true rfl) (Nat.le_of_ble_eq_true rfl) ?_
  exact ro_i hx hb hr hlocks () rfl (trivial) (hP.sub [] rfl) (hD.sub [] (by decide) rfl) hS dX10_heard_15
set_option maxHeartbeats 400000 in
set_option maxRecDepth 100000 in
theorem y_ways (l : Launch) (D : va_G) (cI cB cJ cZ cT : ClassId) (m0 : Nat) (fs : List Value) (m5 : Nat) (fl : fs.length = 50) (f5 : fs[5]? = some (.ref m5)) (a : Int32) (b : Int32) : Co l yX10_ways wsX10_ways ({ frames := 3, cells := 0, slots := 0, locals := 65 }) D (tyL cI cB cJ cZ cT) [.ref m0, .int a, .int b] [(m0, .inr (10, fs)), (m5, .inl (cI, 12, .inl (fun _ => 0)))] (fun u : Unit => some (.long (-1))) (fun u : Unit => True) (fun u : Unit => ([] : va_W)) 0 0 := by
  refine entry (cc := cX10_ways) (maxL := 3) (ret := (some .long)) (by decide) rfl (Nat.le_of_ble_eq_true rfl) ?_
  intro p e s m below meth c A ls hx hb hr hml hts hown hlocks hname hK hP hD hS hA hl
  have hown : s.vm.findClass RX10 = some m.cls := hown
  have hl : lv_has ls 3 [(0, .ref m0), (1, .int a), (2, .int b)] := hl
  refine lv_aload_n hx hb dX10_ways_0 rfl (lv_at hl 0 rfl) ?_
  refine lv_iconst (v := 0) hx hb dX10_ways_1 (by decide) ?_
  refine va_put (D := D) (ci := 10) (v := .int 0) (ty := .int) (C := RX10) (T := TX10) (N := 50) hx hb hts (fun _ h => List.mem_cons_of_mem _ (List.mem_append_right _ h)) tyX10 tyX10_ok nmX10 hown hK.1 hP hD hS 0 rfl rfl 0 (by decide) (hts (.fieldLink RX10 80 "ClapBankModel" "code" "I") (List.mem_of_getElem? (i := 1) rfl)) (fun _ h9 => h9) rfl (by decide +kernel) rfl rfl (Nat.lt_of_lt_of_eq (by decide) (Eq.symm fl)) dX10_ways_2 (fun H locs hP hD hS => ?_)
  have hP : va_P D vwCl [(m0, .inr (10, (fs.set 0 (.int 0)))), (m5, .inl (cI, 12, .inl (fun _ => 0)))] H := hP
  have hD : va_D A [(m0, .inr (10, (fs.set 0 (.int 0)))), (m5, .inl (cI, 12, .inl (fun _ => 0)))] := hD
  refine lv_aload_n hx hb dX10_ways_5 rfl (lv_at hl 0 rfl) ?_
  refine lv_iload_n hx hb dX10_ways_6 rfl (lv_at hl 2 rfl) ?_
  refine doV (n := 1) (As := [.int b]) (rest := []) (wc := [(m0, .inr (10, (fs.set 0 (.int 0)))), (m5, .inl (cI, 12, .inl (fun _ => 0)))]) (wr := ([] : va_W)) hx hb hml hown hts hK hP hD hS hA [0, 1] [] rfl rfl rfl rfl (by decide) 0 rfl rfl (m_hasDark l D cI cB cJ cZ cT (m0) ((fs.set 0 (.int 0))) (m5) (fset_len fl) (fset_ne (by decide) f5) (b)) gX10_ways_X10_hasDark rfl rfl rfl (by decide +kernel) ⟨Nat.le_of_ble_eq_true rfl, Nat.le_of_ble_eq_true rfl⟩ hl.1 rfl rfl (Nat.le_of_ble_eq_true rfl) dX10_ways_7 ⟨Nat.le_of_ble_eq_true rfl, Nat.le_of_ble_eq_true rfl⟩ (fun u H locs hw hP hD hS => ?_)
  refine W.eq (g2 := F0 m 10 ls [.int 0]) rfl ?_
  refine bi_eq (tgt := 21) (X := 0) hx hb (by decide) dX10_ways_10 (by decide) (fun c1 => ?_) (fun h => absurd h (by decide))
  refine lv_ldc2 (v := (-1)) hx hb hown (hts (.constantLong RX10 413 (-1)) (List.mem_of_getElem? (i := 2) rfl)) dX10_ways_21 ?_
  refine W.widen (k := 0) (n := 0) (Nat.le_of_ble_eq_true rfl) (Nat.le_of_ble_eq_true rfl) ?_
  exact ro_l hx hb hr hlocks () rfl (trivial) (hP.sub [] rfl) (hD.sub [] (by decide) rfl) hS dX10_ways_24
set_option maxHeartbeats 400000 in
set_option maxRecDepth 100000 in
theorem y_whose (l : Launch) (D : va_G) (cI cB cJ cZ cT : ClassId) (m0 : Nat) (fs : List Value) (m5 : Nat) (fl : fs.length = 50) (f5 : fs[5]? = some (.ref m5)) (a : Int32) (b : Int32) (d : Int32) (f : Int32) : Co l yX10_whose wsX10_whose ({ frames := 3, cells := 0, slots := 0, locals := 65 }) D (tyL cI cB cJ cZ cT) [.ref m0, .int a, .int b, .int d, .int f] [(m0, .inr (10, fs)), (m5, .inl (cI, 12, .inl (fun _ => 0)))] (fun u : Unit => some (.int (-2))) (fun u : Unit => True) (fun u : Unit => ([] : va_W)) 0 0 := by
  refine entry (cc := cX10_whose) (maxL := 8) (ret := (some .int)) (by decide) rfl (Nat.le_of_ble_eq_true rfl) ?_
  intro p e s m below meth c A ls hx hb hr hml hts hown hlocks hname hK hP hD hS hA hl
  have hown : s.vm.findClass RX10 = some m.cls := hown
  have hl : lv_has ls 8 [(0, .ref m0), (1, .int a), (2, .int b), (3, .int d), (4, .int f)] := hl
  refine lv_aload_n hx hb dX10_whose_0 rfl (lv_at hl 0 rfl) ?_
  refine lv_iconst (v := 0) hx hb dX10_whose_1 (by decide) ?_
  refine va_put (D := D) (ci := 10) (v := .int 0) (ty := .int) (C := RX10) (T := TX10) (N := 50) hx hb hts (fun _ h => List.mem_cons_of_mem _ (List.mem_append_right _ h)) tyX10 tyX10_ok nmX10 hown hK.1 hP hD hS 0 rfl rfl 0 (by decide) (hts (.fieldLink RX10 80 "ClapBankModel" "code" "I") (List.mem_of_getElem? (i := 1) rfl)) (fun _ h9 => h9) rfl (by decide +kernel) rfl rfl (Nat.lt_of_lt_of_eq (by decide) (Eq.symm fl)) dX10_whose_2 (fun H locs hP hD hS => ?_)
  have hP : va_P D vwCl [(m0, .inr (10, (fs.set 0 (.int 0)))), (m5, .inl (cI, 12, .inl (fun _ => 0)))] H := hP
  have hD : va_D A [(m0, .inr (10, (fs.set 0 (.int 0)))), (m5, .inl (cI, 12, .inl (fun _ => 0)))] := hD
  refine lv_aload_n hx hb dX10_whose_5 rfl (lv_at hl 0 rfl) ?_
  refine lv_iload_n hx hb dX10_whose_6 rfl (lv_at hl 2 rfl) ?_
  refine doV (n := 1) (As := [.int b]) (rest := []) (wc := [(m0, .inr (10, (fs.set 0 (.int 0)))), (m5, .inl (cI, 12, .inl (fun _ => 0)))]) (wr := ([] : va_W)) hx hb hml hown hts hK hP hD hS hA [0, 1] [] rfl rfl rfl rfl (by decide) 0 rfl rfl (m_hasDark l D cI cB cJ cZ cT (m0) ((fs.set 0 (.int 0))) (m5) (fset_len fl) (fset_ne (by decide) f5) (b)) gX10_whose_X10_hasDark rfl rfl rfl (by decide +kernel) ⟨Nat.le_of_ble_eq_true rfl, Nat.le_of_ble_eq_true rfl⟩ hl.1 rfl rfl (Nat.le_of_ble_eq_true rfl) dX10_whose_7 ⟨Nat.le_of_ble_eq_true rfl, Nat.le_of_ble_eq_true rfl⟩ (fun u H locs hw hP hD hS => ?_)
  refine W.eq (g2 := F0 m 10 ls [.int 0]) rfl ?_
  refine bi_eq (tgt := 35) (X := 0) hx hb (by decide) dX10_whose_10 (by decide) (fun c1 => ?_) (fun h => absurd h (by decide))
  refine lv_bipush (v := (-2)) hx hb dX10_whose_35 (by decide) ?_
  refine W.widen (k := 0) (n := 0) (Nat.le_of_ble_eq_true rfl) (Nat.le_of_ble_eq_true rfl) ?_
  exact ro_i hx hb hr hlocks () rfl (trivial) (hP.sub [] rfl) (hD.sub [] (by decide) rfl) hS dX10_whose_37
set_option maxHeartbeats 400000 in
set_option maxRecDepth 100000 in
theorem y_drawn (l : Launch) (D : va_G) (cI cB cJ cZ cT : ClassId) (m0 : Nat) (fs : List Value) (m5 : Nat) (fl : fs.length = 50) (f5 : fs[5]? = some (.ref m5)) (a : Int32) (b : Int32) (d : Int32) (f : Int32) : Co l yX10_drawn wsX10_drawn ({ frames := 3, cells := 0, slots := 0, locals := 65 }) D (tyL cI cB cJ cZ cT) [.ref m0, .int a, .int b, .int d, .int f] [(m0, .inr (10, fs)), (m5, .inl (cI, 12, .inl (fun _ => 0)))] (fun u : Unit => some (.int (-1))) (fun u : Unit => True) (fun u : Unit => ([] : va_W)) 0 0 := by
  refine entry (cc := cX10_drawn) (maxL := 8) (ret := (some .int)) (by decide) rfl (Nat.le_of_ble_eq_true rfl) ?_
  intro p e s m below meth c A ls hx hb hr hml hts hown hlocks hname hK hP hD hS hA hl
  have hown : s.vm.findClass RX10 = some m.cls := hown
  have hl : lv_has ls 8 [(0, .ref m0), (1, .int a), (2, .int b), (3, .int d), (4, .int f)] := hl
  refine lv_aload_n hx hb dX10_drawn_0 rfl (lv_at hl 0 rfl) ?_
  refine lv_iconst (v := 0) hx hb dX10_drawn_1 (by decide) ?_
  refine va_put (D := D) (ci := 10) (v := .int 0) (ty := .int) (C := RX10) (T := TX10) (N := 50) hx hb hts (fun _ h => List.mem_cons_of_mem _ (List.mem_append_right _ h)) tyX10 tyX10_ok nmX10 hown hK.1 hP hD hS 0 rfl rfl 0 (by decide) (hts (.fieldLink RX10 80 "ClapBankModel" "code" "I") (List.mem_of_getElem? (i := 1) rfl)) (fun _ h9 => h9) rfl (by decide +kernel) rfl rfl (Nat.lt_of_lt_of_eq (by decide) (Eq.symm fl)) dX10_drawn_2 (fun H locs hP hD hS => ?_)
  have hP : va_P D vwCl [(m0, .inr (10, (fs.set 0 (.int 0)))), (m5, .inl (cI, 12, .inl (fun _ => 0)))] H := hP
  have hD : va_D A [(m0, .inr (10, (fs.set 0 (.int 0)))), (m5, .inl (cI, 12, .inl (fun _ => 0)))] := hD
  refine lv_iload_n hx hb dX10_drawn_5 rfl (lv_at hl 3 rfl) ?_
  refine lv_iconst (v := 0) hx hb dX10_drawn_6 (by decide) ?_
  refine lv_bipush (v := 20) hx hb dX10_drawn_7 (by decide) ?_
  refine doS (n := 3) (As := [.int d, .int 0, .int 20]) (rest := []) (wc := ([] : va_W)) (wr := [(m0, .inr (10, (fs.set 0 (.int 0)))), (m5, .inl (cI, 12, .inl (fun _ => 0)))]) hx hb hml hown hts hK hP hD hS hA [] [0, 1] rfl rfl rfl rfl (by decide) (m_in l D cI cB cJ cZ cT (d) (d.toInt) rfl (0) (0) (by decide) (20) (20) (by decide)) gX10_drawn_X10_in rfl rfl rfl (by decide +kernel) ⟨Nat.le_of_ble_eq_true rfl, Nat.le_of_ble_eq_true rfl⟩ hl.1 rfl rfl (Nat.le_of_ble_eq_true rfl) dX10_drawn_9 ⟨Nat.le_of_ble_eq_true rfl, Nat.le_of_ble_eq_true rfl⟩ (fun u H locs hw hP hD hS => ?_)
  obtain ⟨r_1, rfl⟩ : ∃ z, z = u := ⟨_, rfl⟩
  have hP : va_P D vwCl [(m0, .inr (10, (fs.set 0 (.int 0)))), (m5, .inl (cI, 12, .inl (fun _ => 0)))] H := hP
  have hD : va_D A [(m0, .inr (10, (fs.set 0 (.int 0)))), (m5, .inl (cI, 12, .inl (fun _ => 0)))] := hD
  refine W.eq (g2 := F0 m 12 ls [.int r_1]) rfl ?_
  have hw : (r_1 = 1 ∧ ((0) ≤ (d.toInt) ∧ (d.toInt) ≤ (20))) ∨ (r_1 = 0 ∧ ((d.toInt) < (0) ∨ (20) < (d.toInt))) := hw
  rcases hw with ⟨rfl, k2⟩ | ⟨rfl, k2⟩
  · skip
    refine bi_eq (tgt := 50) (X := 1) hx hb (by decide) dX10_drawn_12 (by decide) (fun h => absurd h (by decide)) (fun c3 => ?_)
    refine lv_aload_n hx hb dX10_drawn_15 rfl (lv_at hl 0 rfl) ?_
    refine lv_iload_n hx hb dX10_drawn_16 rfl (lv_at hl 1 rfl) ?_
    refine doV (n := 1) (As := [.int a]) (rest := []) (wc := [(m0, .inr (10, (fs.set 0 (.int 0)))), (m5, .inl (cI, 12, .inl (fun _ => 0)))]) (wr := ([] : va_W)) hx hb hml hown hts hK hP hD hS hA [0, 1] [] rfl rfl rfl rfl (by decide) 0 rfl rfl (m_hand l D cI cB cJ cZ cT (m0) ((fs.set 0 (.int 0))) (m5) (fset_len fl) (fset_ne (by decide) f5) (a)) gX10_drawn_X10_hand rfl rfl rfl (by decide +kernel) ⟨Nat.le_of_ble_eq_true rfl, Nat.le_of_ble_eq_true rfl⟩ hl.1 rfl rfl (Nat.le_of_ble_eq_true rfl) dX10_drawn_17 ⟨Nat.le_of_ble_eq_true rfl, Nat.le_of_ble_eq_true rfl⟩ (fun u H locs hw hP hD hS => ?_)
    refine W.eq (g2 := F0 m 20 ls [.int 0]) rfl ?_
    refine bi_eq (tgt := 50) (X := 0) hx hb (by decide) dX10_drawn_20 (by decide) (fun c4 => ?_) (fun h => absurd h (by decide))
    refine lv_iconst (v := (-1)) hx hb dX10_drawn_50 (by decide) ?_
    refine W.widen (k := 0) (n := 0) (Nat.le_of_ble_eq_true rfl) (Nat.le_of_ble_eq_true rfl) ?_
    exact ro_i hx hb hr hlocks () rfl (trivial) (hP.sub [] rfl) (hD.sub [] (by decide) rfl) hS dX10_drawn_51
  · skip
    refine bi_eq (tgt := 50) (X := 0) hx hb (by decide) dX10_drawn_12 (by decide) (fun c5 => ?_) (fun h => absurd h (by decide))
    refine lv_iconst (v := (-1)) hx hb dX10_drawn_50 (by decide) ?_
    refine W.widen (k := 0) (n := 0) (Nat.le_of_ble_eq_true rfl) (Nat.le_of_ble_eq_true rfl) ?_
    exact ro_i hx hb hr hlocks () rfl (trivial) (hP.sub [] rfl) (hD.sub [] (by decide) rfl) hS dX10_drawn_51
set_option maxHeartbeats 400000 in
set_option maxRecDepth 100000 in
theorem y_look (l : Launch) (D : va_G) (cI cB cJ cZ cT : ClassId) (m0 : Nat) (fs : List Value) (m5 : Nat) (fl : fs.length = 50) (f5 : fs[5]? = some (.ref m5)) (a : Int32) (b : Int32) (d : Int32) (f : Int32) : Co l yX10_look wsX10_look ({ frames := 4, cells := 0, slots := 0, locals := 88 }) D (tyL cI cB cJ cZ cT) [.ref m0, .int a, .int b, .int d, .int f] [(m0, .inr (10, fs)), (m5, .inl (cI, 12, .inl (fun _ => 0)))] (fun u : Unit => some (.int (-2))) (fun u : Unit => True) (fun u : Unit => ([] : va_W)) 0 0 := by
  refine entry (cc := cX10_look) (maxL := 5) (ret := (some .int)) (by decide) rfl (Nat.le_of_ble_eq_true rfl) ?_
  intro p e s m below meth c A ls hx hb hr hml hts hown hlocks hname hK hP hD hS hA hl
  have hown : s.vm.findClass RX10 = some m.cls := hown
  have hl : lv_has ls 5 [(0, .ref m0), (1, .int a), (2, .int b), (3, .int d), (4, .int f)] := hl
  refine lv_aload_n hx hb dX10_look_0 rfl (lv_at hl 0 rfl) ?_
  refine lv_iconst (v := 0) hx hb dX10_look_1 (by decide) ?_
  refine va_put (D := D) (ci := 10) (v := .int 0) (ty := .int) (C := RX10) (T := TX10) (N := 50) hx hb hts (fun _ h => List.mem_cons_of_mem _ (List.mem_append_right _ h)) tyX10 tyX10_ok nmX10 hown hK.1 hP hD hS 0 rfl rfl 0 (by decide) (hts (.fieldLink RX10 80 "ClapBankModel" "code" "I") (List.mem_of_getElem? (i := 1) rfl)) (fun _ h9 => h9) rfl (by decide +kernel) rfl rfl (Nat.lt_of_lt_of_eq (by decide) (Eq.symm fl)) dX10_look_2 (fun H locs hP hD hS => ?_)
  have hP : va_P D vwCl [(m0, .inr (10, (fs.set 0 (.int 0)))), (m5, .inl (cI, 12, .inl (fun _ => 0)))] H := hP
  have hD : va_D A [(m0, .inr (10, (fs.set 0 (.int 0)))), (m5, .inl (cI, 12, .inl (fun _ => 0)))] := hD
  refine lv_aload_n hx hb dX10_look_5 rfl (lv_at hl 0 rfl) ?_
  refine lv_iload_n hx hb dX10_look_6 rfl (lv_at hl 1 rfl) ?_
  refine lv_iload_n hx hb dX10_look_7 rfl (lv_at hl 2 rfl) ?_
  refine lv_iload_n hx hb dX10_look_8 rfl (lv_at hl 3 rfl) ?_
  refine doV (n := 3) (As := [.int a, .int b, .int d]) (rest := []) (wc := [(m0, .inr (10, (fs.set 0 (.int 0)))), (m5, .inl (cI, 12, .inl (fun _ => 0)))]) (wr := ([] : va_W)) hx hb hml hown hts hK hP hD hS hA [0, 1] [] rfl rfl rfl rfl (by decide) 0 rfl rfl (m_layState l D cI cB cJ cZ cT (m0) ((fs.set 0 (.int 0))) (m5) (fset_len fl) (fset_ne (by decide) f5) (a) (b) (d)) gX10_look_X10_layState rfl rfl rfl (by decide +kernel) ⟨Nat.le_of_ble_eq_true rfl, Nat.le_of_ble_eq_true rfl⟩ hl.1 rfl rfl (Nat.le_of_ble_eq_true rfl) dX10_look_9 ⟨Nat.le_of_ble_eq_true rfl, Nat.le_of_ble_eq_true rfl⟩ (fun u H locs hw hP hD hS => ?_)
  refine W.eq (g2 := F0 m 12 ls [.int 0]) rfl ?_
  refine bi_ne (tgt := 18) (X := 0) hx hb (by decide) dX10_look_12 (by decide) (fun h => absurd h (by decide)) (fun c1 => ?_)
  refine lv_bipush (v := (-2)) hx hb dX10_look_15 (by decide) ?_
  refine W.widen (k := 0) (n := 0) (Nat.le_of_ble_eq_true rfl) (Nat.le_of_ble_eq_true rfl) ?_
  exact ro_i hx hb hr hlocks () rfl (trivial) (hP.sub [] rfl) (hD.sub [] (by decide) rfl) hS dX10_look_17
set_option maxHeartbeats 400000 in
set_option maxRecDepth 100000 in
theorem y_silence (l : Launch) (D : va_G) (cI cB cJ cZ cT : ClassId) (m0 : Nat) (fs : List Value) (m5 : Nat) (fl : fs.length = 50) (f5 : fs[5]? = some (.ref m5)) (a : Int32) (b : Int32) (d : Int32) : Co l yX10_silence wsX10_silence ({ frames := 3, cells := 0, slots := 0, locals := 65 }) D (tyL cI cB cJ cZ cT) [.ref m0, .int a, .int b, .int d] [(m0, .inr (10, fs)), (m5, .inl (cI, 12, .inl (fun _ => 0)))] (fun u : Unit => some (.int (-1))) (fun u : Unit => True) (fun u : Unit => ([] : va_W)) 0 0 := by
  refine entry (cc := cX10_silence) (maxL := 9) (ret := (some .int)) (by decide) rfl (Nat.le_of_ble_eq_true rfl) ?_
  intro p e s m below meth c A ls hx hb hr hml hts hown hlocks hname hK hP hD hS hA hl
  have hown : s.vm.findClass RX10 = some m.cls := hown
  have hl : lv_has ls 9 [(0, .ref m0), (1, .int a), (2, .int b), (3, .int d)] := hl
  refine lv_aload_n hx hb dX10_silence_0 rfl (lv_at hl 0 rfl) ?_
  refine lv_iconst (v := 0) hx hb dX10_silence_1 (by decide) ?_
  refine va_put (D := D) (ci := 10) (v := .int 0) (ty := .int) (C := RX10) (T := TX10) (N := 50) hx hb hts (fun _ h => List.mem_cons_of_mem _ (List.mem_append_right _ h)) tyX10 tyX10_ok nmX10 hown hK.1 hP hD hS 0 rfl rfl 0 (by decide) (hts (.fieldLink RX10 80 "ClapBankModel" "code" "I") (List.mem_of_getElem? (i := 1) rfl)) (fun _ h9 => h9) rfl (by decide +kernel) rfl rfl (Nat.lt_of_lt_of_eq (by decide) (Eq.symm fl)) dX10_silence_2 (fun H locs hP hD hS => ?_)
  have hP : va_P D vwCl [(m0, .inr (10, (fs.set 0 (.int 0)))), (m5, .inl (cI, 12, .inl (fun _ => 0)))] H := hP
  have hD : va_D A [(m0, .inr (10, (fs.set 0 (.int 0)))), (m5, .inl (cI, 12, .inl (fun _ => 0)))] := hD
  refine lv_aload_n hx hb dX10_silence_5 rfl (lv_at hl 0 rfl) ?_
  refine lv_iload_n hx hb dX10_silence_6 rfl (lv_at hl 2 rfl) ?_
  refine doV (n := 1) (As := [.int b]) (rest := []) (wc := [(m0, .inr (10, (fs.set 0 (.int 0)))), (m5, .inl (cI, 12, .inl (fun _ => 0)))]) (wr := ([] : va_W)) hx hb hml hown hts hK hP hD hS hA [0, 1] [] rfl rfl rfl rfl (by decide) 0 rfl rfl (m_hasBook l D cI cB cJ cZ cT (m0) ((fs.set 0 (.int 0))) (m5) (fset_len fl) (fset_ne (by decide) f5) (b)) gX10_silence_X10_hasBook rfl rfl rfl (by decide +kernel) ⟨Nat.le_of_ble_eq_true rfl, Nat.le_of_ble_eq_true rfl⟩ hl.1 rfl rfl (Nat.le_of_ble_eq_true rfl) dX10_silence_7 ⟨Nat.le_of_ble_eq_true rfl, Nat.le_of_ble_eq_true rfl⟩ (fun u H locs hw hP hD hS => ?_)
  refine W.eq (g2 := F0 m 10 ls [.int 0]) rfl ?_
  refine bi_eq (tgt := 21) (X := 0) hx hb (by decide) dX10_silence_10 (by decide) (fun c1 => ?_) (fun h => absurd h (by decide))
  refine lv_iconst (v := (-1)) hx hb dX10_silence_21 (by decide) ?_
  refine W.widen (k := 0) (n := 0) (Nat.le_of_ble_eq_true rfl) (Nat.le_of_ble_eq_true rfl) ?_
  exact ro_i hx hb hr hlocks () rfl (trivial) (hP.sub [] rfl) (hD.sub [] (by decide) rfl) hS dX10_silence_22
set_option maxHeartbeats 400000 in
set_option maxRecDepth 100000 in
theorem y_count (l : Launch) (D : va_G) (cI cB cJ cZ cT : ClassId) (m0 : Nat) (fs : List Value) (m5 : Nat) (fl : fs.length = 50) (f5 : fs[5]? = some (.ref m5)) (a : Int32) : Co l yX10_count wsX10_count ({ frames := 1, cells := 0, slots := 0, locals := 22 }) D (tyL cI cB cJ cZ cT) [.ref m0, .int a] [(m0, .inr (10, fs)), (m5, .inl (cI, 12, .inl (fun _ => 0)))] (fun u : Int32 => some (.int u)) (fun u : Int32 => u = sp_count a) (fun u : Int32 => ([] : va_W)) 0 0 := by
  refine entry (cc := cX10_count) (maxL := 2) (ret := (some .int)) (by decide) rfl (Nat.le_of_ble_eq_true rfl) ?_
  intro p e s m below meth c A ls hx hb hr hml hts hown hlocks hname hK hP hD hS hA hl
  have hown : s.vm.findClass RX10 = some m.cls := hown
  have hl : lv_has ls 2 [(0, .ref m0), (1, .int a)] := hl
  refine lv_aload_n hx hb dX10_count_0 rfl (lv_at hl 0 rfl) ?_
  refine lv_iconst (v := 0) hx hb dX10_count_1 (by decide) ?_
  refine va_put (D := D) (ci := 10) (v := .int 0) (ty := .int) (C := RX10) (T := TX10) (N := 50) hx hb hts (fun _ h => List.mem_cons_of_mem _ (List.mem_append_right _ h)) tyX10 tyX10_ok nmX10 hown hK.1 hP hD hS 0 rfl rfl 0 (by decide) (hts (.fieldLink RX10 80 "ClapBankModel" "code" "I") (List.mem_of_getElem? (i := 1) rfl)) (fun _ h9 => h9) rfl (by decide +kernel) rfl rfl (Nat.lt_of_lt_of_eq (by decide) (Eq.symm fl)) dX10_count_2 (fun H locs hP hD hS => ?_)
  have hP : va_P D vwCl [(m0, .inr (10, (fs.set 0 (.int 0)))), (m5, .inl (cI, 12, .inl (fun _ => 0)))] H := hP
  have hD : va_D A [(m0, .inr (10, (fs.set 0 (.int 0)))), (m5, .inl (cI, 12, .inl (fun _ => 0)))] := hD
  refine lv_iload_n hx hb dX10_count_5 rfl (lv_at hl 1 rfl) ?_
  refine lv_iconst (v := 0) hx hb dX10_count_6 (by decide) ?_
  refine lv_iconst (v := 2) hx hb dX10_count_7 (by decide) ?_
  refine doS (n := 3) (As := [.int a, .int 0, .int 2]) (rest := []) (wc := ([] : va_W)) (wr := [(m0, .inr (10, (fs.set 0 (.int 0)))), (m5, .inl (cI, 12, .inl (fun _ => 0)))]) hx hb hml hown hts hK hP hD hS hA [] [0, 1] rfl rfl rfl rfl (by decide) (m_in l D cI cB cJ cZ cT (a) (a.toInt) rfl (0) (0) (by decide) (2) (2) (by decide)) gX10_count_X10_in rfl rfl rfl (by decide +kernel) ⟨Nat.le_of_ble_eq_true rfl, Nat.le_of_ble_eq_true rfl⟩ hl.1 rfl rfl (Nat.le_of_ble_eq_true rfl) dX10_count_8 ⟨Nat.le_of_ble_eq_true rfl, Nat.le_of_ble_eq_true rfl⟩ (fun u H locs hw hP hD hS => ?_)
  obtain ⟨r_1, rfl⟩ : ∃ z, z = u := ⟨_, rfl⟩
  have hP : va_P D vwCl [(m0, .inr (10, (fs.set 0 (.int 0)))), (m5, .inl (cI, 12, .inl (fun _ => 0)))] H := hP
  have hD : va_D A [(m0, .inr (10, (fs.set 0 (.int 0)))), (m5, .inl (cI, 12, .inl (fun _ => 0)))] := hD
  refine W.eq (g2 := F0 m 11 ls [.int r_1]) rfl ?_
  have hw : (r_1 = 1 ∧ ((0) ≤ (a.toInt) ∧ (a.toInt) ≤ (2))) ∨ (r_1 = 0 ∧ ((a.toInt) < (0) ∨ (2) < (a.toInt))) := hw
  rcases hw with ⟨rfl, k2⟩ | ⟨rfl, k2⟩
  · skip
    refine bi_eq (tgt := 23) (X := 1) hx hb (by decide) dX10_count_11 (by decide) (fun h => absurd h (by decide)) (fun c3 => ?_)
    refine lv_aload_n hx hb dX10_count_14 rfl (lv_at hl 0 rfl) ?_
    refine va_get (D := D) (ci := 10) (v := .ref m5) (C := RX10) (T := TX10) (N := 50) hx hb hts (fun _ h => List.mem_cons_of_mem _ (List.mem_append_right _ h)) hown hK.1 hP 0 rfl rfl 5 (by decide) (hts (.fieldLink RX10 23 "ClapBankModel" "many" "[I") (List.mem_of_getElem? (i := 2) rfl)) (fun _ h9 => h9) (fset_ne (by decide) f5) dX10_count_15 ?_
    refine lv_iload_n hx hb dX10_count_18 rfl (lv_at hl 1 rfl) ?_
    refine va_iald hx hb hK.1 hP 1 0 rfl rfl (i_in (X := a.toInt) rfl (by omega) (by omega)) dX10_count_19 ?_
    refine vz_i (y := 0) rfl ?_
    refine lv_goto (tgt := 25) hx hb dX10_count_20 (by decide) ?_
    refine W.widen (k := 0) (n := 0) (Nat.le_of_ble_eq_true rfl) (Nat.le_of_ble_eq_true rfl) ?_
    exact ro_i hx hb hr hlocks (0) rfl ((if_pos (by omega)).symm) (hP.sub [] rfl) (hD.sub [] (by decide) rfl) hS dX10_count_25
  · skip
    refine bi_eq (tgt := 23) (X := 0) hx hb (by decide) dX10_count_11 (by decide) (fun c4 => ?_) (fun h => absurd h (by decide))
    refine lv_bipush (v := (-2)) hx hb dX10_count_23 (by decide) ?_
    refine W.widen (k := 0) (n := 0) (Nat.le_of_ble_eq_true rfl) (Nat.le_of_ble_eq_true rfl) ?_
    exact ro_i hx hb hr hlocks ((-2)) rfl ((if_neg (by omega)).symm) (hP.sub [] rfl) (hD.sub [] (by decide) rfl) hS dX10_count_25
set_option maxHeartbeats 400000 in
set_option maxRecDepth 100000 in
theorem y_fault (l : Launch) (D : va_G) (cI cB cJ cZ cT : ClassId) (m0 : Nat) (fs : List Value) (m3 : Nat) (m4 : Nat) (fl : fs.length = 50) (f3 : fs[3]? = some (.ref m3)) (f4 : fs[4]? = some (.ref m4)) (a : Int32) : Co l yX10_fault wsX10_fault ({ frames := 0, cells := 0, slots := 0, locals := 0 }) D (tyL cI cB cJ cZ cT) [.ref m0, .int a] [(m0, .inr (10, fs)), (m3, .inl (cI, 4, .inl (fun _ => 0))), (m4, .inl (cI, 4, .inl (upd (fun _ => 0) 0 (-1))))] (fun u : Int32 => some (.int u)) (fun u : Int32 => u = sp_fault a) (fun u : Int32 => ([] : va_W)) 0 0 := by
  refine entry (cc := cX10_fault) (maxL := 2) (ret := (some .int)) (by decide) rfl (Nat.le_of_ble_eq_true rfl) ?_
  intro p e s m below meth c A ls hx hb hr hml hts hown hlocks hname hK hP hD hS hA hl
  have hown : s.vm.findClass RX10 = some m.cls := hown
  have hl : lv_has ls 2 [(0, .ref m0), (1, .int a)] := hl
  refine lv_aload_n hx hb dX10_fault_0 rfl (lv_at hl 0 rfl) ?_
  refine lv_iconst (v := 0) hx hb dX10_fault_1 (by decide) ?_
  refine va_put (D := D) (ci := 10) (v := .int 0) (ty := .int) (C := RX10) (T := TX10) (N := 50) hx hb hts (fun _ h => List.mem_cons_of_mem _ (List.mem_append_right _ h)) tyX10 tyX10_ok nmX10 hown hK.1 hP hD hS 0 rfl rfl 0 (by decide) (hts (.fieldLink RX10 80 "ClapBankModel" "code" "I") (List.mem_of_getElem? (i := 1) rfl)) (fun _ h9 => h9) rfl (by decide +kernel) rfl rfl (Nat.lt_of_lt_of_eq (by decide) (Eq.symm fl)) dX10_fault_2 (fun H locs hP hD hS => ?_)
  have hP : va_P D vwCl [(m0, .inr (10, (fs.set 0 (.int 0)))), (m3, .inl (cI, 4, .inl (fun _ => 0))), (m4, .inl (cI, 4, .inl (upd (fun _ => 0) 0 (-1))))] H := hP
  have hD : va_D A [(m0, .inr (10, (fs.set 0 (.int 0)))), (m3, .inl (cI, 4, .inl (fun _ => 0))), (m4, .inl (cI, 4, .inl (upd (fun _ => 0) 0 (-1))))] := hD
  refine lv_iload_n hx hb dX10_fault_5 rfl (lv_at hl 1 rfl) ?_
  refine bi_ne (tgt := 18) (X := a.toInt) hx hb rfl dX10_fault_6 (by decide) (fun c1 => ?_) (fun c1 => ?_)
  · skip
    refine lv_iload_n hx hb dX10_fault_18 rfl (lv_at hl 1 rfl) ?_
    refine lv_iconst (v := 1) hx hb dX10_fault_19 (by decide) ?_
    refine bc_ne (tgt := 32) (X := a.toInt) (Y := 1) hx hb rfl (by decide) dX10_fault_20 (by decide) (fun c2 => ?_) (fun c2 => ?_)
    · skip
      refine lv_iconst (v := (-1)) hx hb dX10_fault_32 (by decide) ?_
      refine W.widen (k := 0) (n := 0) (Nat.le_of_ble_eq_true rfl) (Nat.le_of_ble_eq_true rfl) ?_
      exact ro_i hx hb hr hlocks ((-1)) rfl ((if_neg (by omega)).symm) (hP.sub [] rfl) (hD.sub [] (by decide) rfl) hS dX10_fault_33
    · skip
      refine lv_aload_n hx hb dX10_fault_23 rfl (lv_at hl 0 rfl) ?_
      refine va_get (D := D) (ci := 10) (v := .ref m4) (C := RX10) (T := TX10) (N := 50) hx hb hts (fun _ h => List.mem_cons_of_mem _ (List.mem_append_right _ h)) hown hK.1 hP 0 rfl rfl 4 (by decide) (hts (.fieldLink RX10 20 "ClapBankModel" "faultPlace" "[I") (List.mem_of_getElem? (i := 3) rfl)) (fun _ h9 => h9) (fset_ne (by decide) f4) dX10_fault_24 ?_
      refine lv_iconst (v := 0) hx hb dX10_fault_27 (by decide) ?_
      refine va_iald hx hb hK.1 hP 2 0 rfl rfl (i_in (X := 0) (by decide) (by decide) (by decide)) dX10_fault_28 ?_
      refine vz_i (y := (-1)) rfl ?_
      refine lv_goto (tgt := 33) hx hb dX10_fault_29 (by decide) ?_
      refine W.widen (k := 0) (n := 0) (Nat.le_of_ble_eq_true rfl) (Nat.le_of_ble_eq_true rfl) ?_
      exact ro_i hx hb hr hlocks ((-1)) rfl ((if_neg (by omega)).symm) (hP.sub [] rfl) (hD.sub [] (by decide) rfl) hS dX10_fault_33
  · skip
    refine lv_aload_n hx hb dX10_fault_9 rfl (lv_at hl 0 rfl) ?_
    refine va_get (D := D) (ci := 10) (v := .ref m3) (C := RX10) (T := TX10) (N := 50) hx hb hts (fun _ h => List.mem_cons_of_mem _ (List.mem_append_right _ h)) hown hK.1 hP 0 rfl rfl 3 (by decide) (hts (.fieldLink RX10 17 "ClapBankModel" "fault" "[I") (List.mem_of_getElem? (i := 2) rfl)) (fun _ h9 => h9) (fset_ne (by decide) f3) dX10_fault_10 ?_
    refine lv_iconst (v := 0) hx hb dX10_fault_13 (by decide) ?_
    refine va_iald hx hb hK.1 hP 1 0 rfl rfl (i_in (X := 0) (by decide) (by decide) (by decide)) dX10_fault_14 ?_
    refine vz_i (y := 0) rfl ?_
    refine lv_goto (tgt := 33) hx hb dX10_fault_15 (by decide) ?_
    refine W.widen (k := 0) (n := 0) (Nat.le_of_ble_eq_true rfl) (Nat.le_of_ble_eq_true rfl) ?_
    exact ro_i hx hb hr hlocks (0) rfl ((if_pos (by omega)).symm) (hP.sub [] rfl) (hD.sub [] (by decide) rfl) hS dX10_fault_33
set_option maxHeartbeats 400000 in
set_option maxRecDepth 100000 in
theorem y_again (l : Launch) (D : va_G) (cI cB cJ cZ cT : ClassId) (m0 : Nat) (fs : List Value) (mk : Nat) (fl : fs.length = 50) (f49 : fs[49]? = some (.ref mk)) (a : Int32) : Co l yX10_again wsX10_again ({ frames := 1, cells := 0, slots := 0, locals := 22 }) D (tyL cI cB cJ cZ cT) [.ref m0, .int a] [(m0, .inr (10, fs)), (mk, .inl (cZ, 3, .inl (fun _ => 0)))] (fun u : Unit => some (.int 0)) (fun u : Unit => True) (fun u : Unit => ([] : va_W)) 0 0 := by
  refine entry (cc := cX10_again) (maxL := 2) (ret := (some .boolean)) (by decide) rfl (Nat.le_of_ble_eq_true rfl) ?_
  intro p e s m below meth c A ls hx hb hr hml hts hown hlocks hname hK hP hD hS hA hl
  have hown : s.vm.findClass RX10 = some m.cls := hown
  have hl : lv_has ls 2 [(0, .ref m0), (1, .int a)] := hl
  refine lv_aload_n hx hb dX10_again_0 rfl (lv_at hl 0 rfl) ?_
  refine lv_iconst (v := 0) hx hb dX10_again_1 (by decide) ?_
  refine va_put (D := D) (ci := 10) (v := .int 0) (ty := .int) (C := RX10) (T := TX10) (N := 50) hx hb hts (fun _ h => List.mem_cons_of_mem _ (List.mem_append_right _ h)) tyX10 tyX10_ok nmX10 hown hK.1 hP hD hS 0 rfl rfl 0 (by decide) (hts (.fieldLink RX10 80 "ClapBankModel" "code" "I") (List.mem_of_getElem? (i := 1) rfl)) (fun _ h9 => h9) rfl (by decide +kernel) rfl rfl (Nat.lt_of_lt_of_eq (by decide) (Eq.symm fl)) dX10_again_2 (fun H locs hP hD hS => ?_)
  have hP : va_P D vwCl [(m0, .inr (10, (fs.set 0 (.int 0)))), (mk, .inl (cZ, 3, .inl (fun _ => 0)))] H := hP
  have hD : va_D A [(m0, .inr (10, (fs.set 0 (.int 0)))), (mk, .inl (cZ, 3, .inl (fun _ => 0)))] := hD
  refine lv_iload_n hx hb dX10_again_5 rfl (lv_at hl 1 rfl) ?_
  refine lv_iconst (v := 0) hx hb dX10_again_6 (by decide) ?_
  refine lv_iconst (v := 2) hx hb dX10_again_7 (by decide) ?_
  refine doS (n := 3) (As := [.int a, .int 0, .int 2]) (rest := []) (wc := ([] : va_W)) (wr := [(m0, .inr (10, (fs.set 0 (.int 0)))), (mk, .inl (cZ, 3, .inl (fun _ => 0)))]) hx hb hml hown hts hK hP hD hS hA [] [0, 1] rfl rfl rfl rfl (by decide) (m_in l D cI cB cJ cZ cT (a) (a.toInt) rfl (0) (0) (by decide) (2) (2) (by decide)) gX10_again_X10_in rfl rfl rfl (by decide +kernel) ⟨Nat.le_of_ble_eq_true rfl, Nat.le_of_ble_eq_true rfl⟩ hl.1 rfl rfl (Nat.le_of_ble_eq_true rfl) dX10_again_8 ⟨Nat.le_of_ble_eq_true rfl, Nat.le_of_ble_eq_true rfl⟩ (fun u H locs hw hP hD hS => ?_)
  obtain ⟨r_1, rfl⟩ : ∃ z, z = u := ⟨_, rfl⟩
  have hP : va_P D vwCl [(m0, .inr (10, (fs.set 0 (.int 0)))), (mk, .inl (cZ, 3, .inl (fun _ => 0)))] H := hP
  have hD : va_D A [(m0, .inr (10, (fs.set 0 (.int 0)))), (mk, .inl (cZ, 3, .inl (fun _ => 0)))] := hD
  refine W.eq (g2 := F0 m 11 ls [.int r_1]) rfl ?_
  have hw : (r_1 = 1 ∧ ((0) ≤ (a.toInt) ∧ (a.toInt) ≤ (2))) ∨ (r_1 = 0 ∧ ((a.toInt) < (0) ∨ (2) < (a.toInt))) := hw
  rcases hw with ⟨rfl, k2⟩ | ⟨rfl, k2⟩
  · skip
    refine bi_eq (tgt := 23) (X := 1) hx hb (by decide) dX10_again_11 (by decide) (fun h => absurd h (by decide)) (fun c3 => ?_)
    refine lv_aload_n hx hb dX10_again_14 rfl (lv_at hl 0 rfl) ?_
    refine va_get (D := D) (ci := 10) (v := .ref mk) (C := RX10) (T := TX10) (N := 50) hx hb hts (fun _ h => List.mem_cons_of_mem _ (List.mem_append_right _ h)) hown hK.1 hP 0 rfl rfl 49 (by decide) (hts (.fieldLink RX10 76 "ClapBankModel" "kept" "[Z") (List.mem_of_getElem? (i := 2) rfl)) (fun _ h9 => h9) (fset_ne (by decide) f49) dX10_again_15 ?_
    refine lv_iload_n hx hb dX10_again_18 rfl (lv_at hl 1 rfl) ?_
    refine va_zald hx hb hK.1 hP 1 3 rfl rfl (i_in (X := a.toInt) rfl (by omega) (by omega)) dX10_again_19 ?_
    refine vz_i (y := 0) rfl ?_
    refine bi_ne (tgt := 25) (X := 0) hx hb (by decide) dX10_again_20 (by decide) (fun h => absurd h (by decide)) (fun c4 => ?_)
    refine lv_iconst (v := 0) hx hb dX10_again_23 (by decide) ?_
    refine W.widen (k := 0) (n := 0) (Nat.le_of_ble_eq_true rfl) (Nat.le_of_ble_eq_true rfl) ?_
    exact ro_z hx hb hr rfl hlocks () rfl (trivial) (hP.sub [] rfl) (hD.sub [] (by decide) rfl) hS dX10_again_24
  · skip
    refine bi_eq (tgt := 23) (X := 0) hx hb (by decide) dX10_again_11 (by decide) (fun c5 => ?_) (fun h => absurd h (by decide))
    refine lv_iconst (v := 0) hx hb dX10_again_23 (by decide) ?_
    refine W.widen (k := 0) (n := 0) (Nat.le_of_ble_eq_true rfl) (Nat.le_of_ble_eq_true rfl) ?_
    exact ro_z hx hb hr rfl hlocks () rfl (trivial) (hP.sub [] rfl) (hD.sub [] (by decide) rfl) hS dX10_again_24
set_option maxHeartbeats 400000 in
set_option maxRecDepth 100000 in
theorem y_end (l : Launch) (D : va_G) (cI cB cJ cZ cT : ClassId) (m0 : Nat) (fs : List Value) (m2 : Nat) (fl : fs.length = 50) (f2 : fs[2]? = some (.ref m2)) (n : Int32) : Co l yX10_end wsX10_end ({ frames := 1, cells := 0, slots := 0, locals := 22 }) D (tyL cI cB cJ cZ cT) [.ref m0, .int n] [(m0, .inr (10, fs)), (m2, .inl (cI, 4, .inl (fun _ => 0)))] (fun u : Int32 => some (.int u)) (fun u : Int32 => u = sp_end n) (fun u : Int32 => ([] : va_W)) 0 0 := by
  refine entry (cc := cX10_end) (maxL := 2) (ret := (some .int)) (by decide) rfl (Nat.le_of_ble_eq_true rfl) ?_
  intro p e s m below meth c A ls hx hb hr hml hts hown hlocks hname hK hP hD hS hA hl
  have hown : s.vm.findClass RX10 = some m.cls := hown
  have hl : lv_has ls 2 [(0, .ref m0), (1, .int n)] := hl
  refine lv_aload_n hx hb dX10_end_0 rfl (lv_at hl 0 rfl) ?_
  refine lv_iconst (v := 0) hx hb dX10_end_1 (by decide) ?_
  refine va_put (D := D) (ci := 10) (v := .int 0) (ty := .int) (C := RX10) (T := TX10) (N := 50) hx hb hts (fun _ h => List.mem_cons_of_mem _ (List.mem_append_right _ h)) tyX10 tyX10_ok nmX10 hown hK.1 hP hD hS 0 rfl rfl 0 (by decide) (hts (.fieldLink RX10 80 "ClapBankModel" "code" "I") (List.mem_of_getElem? (i := 1) rfl)) (fun _ h9 => h9) rfl (by decide +kernel) rfl rfl (Nat.lt_of_lt_of_eq (by decide) (Eq.symm fl)) dX10_end_2 (fun H locs hP hD hS => ?_)
  have hP : va_P D vwCl [(m0, .inr (10, (fs.set 0 (.int 0)))), (m2, .inl (cI, 4, .inl (fun _ => 0)))] H := hP
  have hD : va_D A [(m0, .inr (10, (fs.set 0 (.int 0)))), (m2, .inl (cI, 4, .inl (fun _ => 0)))] := hD
  refine lv_iload_n hx hb dX10_end_5 rfl (lv_at hl 1 rfl) ?_
  refine lv_iconst (v := 0) hx hb dX10_end_6 (by decide) ?_
  refine lv_aload_n hx hb dX10_end_7 rfl (lv_at hl 0 rfl) ?_
  refine va_get (D := D) (ci := 10) (v := .ref m2) (C := RX10) (T := TX10) (N := 50) hx hb hts (fun _ h => List.mem_cons_of_mem _ (List.mem_append_right _ h)) hown hK.1 hP 0 rfl rfl 2 (by decide) (hts (.fieldLink RX10 13 "ClapBankModel" "size" "[I") (List.mem_of_getElem? (i := 2) rfl)) (fun _ h9 => h9) (fset_ne (by decide) f2) dX10_end_8 ?_
  refine lv_iconst (v := 0) hx hb dX10_end_11 (by decide) ?_
  refine va_iald hx hb hK.1 hP 1 0 rfl rfl (i_in (X := 0) (by decide) (by decide) (by decide)) dX10_end_12 ?_
  refine vz_i (y := 0) rfl ?_
  refine doS (n := 3) (As := [.int n, .int 0, .int 0]) (rest := []) (wc := ([] : va_W)) (wr := [(m0, .inr (10, (fs.set 0 (.int 0)))), (m2, .inl (cI, 4, .inl (fun _ => 0)))]) hx hb hml hown hts hK hP hD hS hA [] [0, 1] rfl rfl rfl rfl (by decide) (m_in l D cI cB cJ cZ cT (n) (n.toInt) rfl (0) (0) (by decide) (0) (0) (by decide)) gX10_end_X10_in rfl rfl rfl (by decide +kernel) ⟨Nat.le_of_ble_eq_true rfl, Nat.le_of_ble_eq_true rfl⟩ hl.1 rfl rfl (Nat.le_of_ble_eq_true rfl) dX10_end_13 ⟨Nat.le_of_ble_eq_true rfl, Nat.le_of_ble_eq_true rfl⟩ (fun u H locs hw hP hD hS => ?_)
  obtain ⟨r_1, rfl⟩ : ∃ z, z = u := ⟨_, rfl⟩
  have hP : va_P D vwCl [(m0, .inr (10, (fs.set 0 (.int 0)))), (m2, .inl (cI, 4, .inl (fun _ => 0)))] H := hP
  have hD : va_D A [(m0, .inr (10, (fs.set 0 (.int 0)))), (m2, .inl (cI, 4, .inl (fun _ => 0)))] := hD
  refine W.eq (g2 := F0 m 16 ls [.int r_1]) rfl ?_
  have hw : (r_1 = 1 ∧ ((0) ≤ (n.toInt) ∧ (n.toInt) ≤ (0))) ∨ (r_1 = 0 ∧ ((n.toInt) < (0) ∨ (0) < (n.toInt))) := hw
  rcases hw with ⟨rfl, k2⟩ | ⟨rfl, k2⟩
  · skip
    refine bi_ne (tgt := 21) (X := 1) hx hb (by decide) dX10_end_16 (by decide) (fun c3 => ?_) (fun h => absurd h (by decide))
    refine lv_aload_n hx hb dX10_end_21 rfl (lv_at hl 0 rfl) ?_
    refine va_get (D := D) (ci := 10) (v := .ref m2) (C := RX10) (T := TX10) (N := 50) hx hb hts (fun _ h => List.mem_cons_of_mem _ (List.mem_append_right _ h)) hown hK.1 hP 0 rfl rfl 2 (by decide) (hts (.fieldLink RX10 13 "ClapBankModel" "size" "[I") (List.mem_of_getElem? (i := 2) rfl)) (fun _ h9 => h9) (fset_ne (by decide) f2) dX10_end_22 ?_
    refine lv_iconst (v := 0) hx hb dX10_end_25 (by decide) ?_
    refine lv_iload_n hx hb dX10_end_26 rfl (lv_at hl 1 rfl) ?_
    refine va_iast hx hb hK.1 hP hD hS 1 0 rfl rfl (i_in (X := 0) (by decide) (by decide) (by decide)) dX10_end_27 (fun H locs hP hD hS => ?_)
    have hP : va_P D vwCl [(m0, .inr (10, (fs.set 0 (.int 0)))), (m2, .inl (cI, 4, .inl (upd (fun _ => 0) 0 n)))] H := hP
    have hD : va_D A [(m0, .inr (10, (fs.set 0 (.int 0)))), (m2, .inl (cI, 4, .inl (upd (fun _ => 0) 0 n)))] := hD
    refine lv_iload_n hx hb dX10_end_28 rfl (lv_at hl 1 rfl) ?_
    refine W.widen (k := 0) (n := 0) (Nat.le_of_ble_eq_true rfl) (Nat.le_of_ble_eq_true rfl) ?_
    exact ro_i hx hb hr hlocks (n) rfl (((i_eq (X := n.toInt) (Y := 0) rfl (by decide) (by omega)).trans (if_pos (by omega)).symm)) (hP.sub [] rfl) (hD.sub [] (by decide) rfl) hS dX10_end_29
  · skip
    refine bi_ne (tgt := 21) (X := 0) hx hb (by decide) dX10_end_16 (by decide) (fun h => absurd h (by decide)) (fun c4 => ?_)
    refine lv_iconst (v := (-1)) hx hb dX10_end_19 (by decide) ?_
    refine W.widen (k := 0) (n := 0) (Nat.le_of_ble_eq_true rfl) (Nat.le_of_ble_eq_true rfl) ?_
    exact ro_i hx hb hr hlocks ((-1)) rfl ((if_neg (by omega)).symm) (hP.sub [] rfl) (hD.sub [] (by decide) rfl) hS dX10_end_20
set_option maxHeartbeats 400000 in
set_option maxRecDepth 100000 in
theorem m_four (l : Launch) (D : va_G) (cI cB cJ cZ cT : ClassId) (m0 : Nat) (fs : List Value) (m1 : Nat) (m2 : Nat) (fl : fs.length = 50) (f1 : fs[1]? = some (.ref m1)) (f2 : fs[2]? = some (.ref m2)) (f : Nat → Int32) (g : Nat → Int32) (x : Int32) (X : Int) (hX : x.toInt = X) (h0 : 0 ≤ X) (h1 : X + 4 ≤ 600) (hg : g 0 = x) (v : Int32) : Co l yX10_four wsX10_four ({ frames := 0, cells := 0, slots := 0, locals := 0 }) D (tyL cI cB cJ cZ cT) [.ref m0, .int v] [(m0, .inr (10, fs)), (m1, .inl (cB, 2400, .inl f)), (m2, .inl (cI, 4, .inl g))] (fun u : Int32 × (Nat → Int32) × (Nat → Int32) => none) (fun u : Int32 × (Nat → Int32) × (Nat → Int32) => u.2.2 0 = u.1 ∧ u.1.toInt = X + 4) (fun u : Int32 × (Nat → Int32) × (Nat → Int32) => [(m0, .inr (10, fs)), (m1, .inl (cB, 2400, .inl u.2.1)), (m2, .inl (cI, 4, .inl u.2.2))]) 0 0 := by
  refine entry (cc := cX10_four) (maxL := 3) (ret := none) (by decide) rfl (Nat.le_of_ble_eq_true rfl) ?_
  intro p e s m below meth c A ls hx hb hr hml hts hown hlocks hname hK hP hD hS hA hl
  have hown : s.vm.findClass RX10 = some m.cls := hown
  have hl : lv_has ls 3 [(0, .ref m0), (1, .int v)] := hl
  refine lv_bipush (v := 24) hx hb dX10_four_0 (by decide) ?_
  refine lv_istore_n (lv' := [(2, .int 24), (0, .ref m0), (1, .int v)]) hx hb dX10_four_2 rfl hl (by decide) rfl (fun ls hl => ?_)
  refine lv_iload_n hx hb dX10_four_3 rfl (lv_at hl 0 rfl) ?_
  refine bi_lt (tgt := 38) (X := 24) hx hb (by decide) dX10_four_4 (by decide) (fun h => absurd h (by decide)) (fun c1 => ?_)
  refine lv_aload_n hx hb dX10_four_7 rfl (lv_at hl 1 rfl) ?_
  refine va_get (D := D) (ci := 10) (v := .ref m1) (C := RX10) (T := TX10) (N := 50) hx hb hts (fun _ h => List.mem_cons_of_mem _ (List.mem_append_right _ h)) hown hK.1 hP 0 rfl rfl 1 (by decide) (hts (.fieldLink RX10 7 "ClapBankModel" "tape" "[B") (List.mem_of_getElem? (i := 1) rfl)) (fun _ h9 => h9) f1 dX10_four_8 ?_
  refine lv_aload_n hx hb dX10_four_11 rfl (lv_at hl 1 rfl) ?_
  refine va_get (D := D) (ci := 10) (v := .ref m2) (C := RX10) (T := TX10) (N := 50) hx hb hts (fun _ h => List.mem_cons_of_mem _ (List.mem_append_right _ h)) hown hK.1 hP 0 rfl rfl 2 (by decide) (hts (.fieldLink RX10 13 "ClapBankModel" "size" "[I") (List.mem_of_getElem? (i := 2) rfl)) (fun _ h9 => h9) f2 dX10_four_12 ?_
  refine lv_iconst (v := 0) hx hb dX10_four_15 (by decide) ?_
  refine va_iald hx hb hK.1 hP 2 0 rfl rfl (i_in (X := 0) (by decide) (by decide) (by decide)) dX10_four_16 ?_
  refine vz_i (y := x) (show g 0 = _ from hg) ?_
  refine lv_iload_n hx hb dX10_four_17 rfl (lv_at hl 2 rfl) ?_
  refine lv_iload_n hx hb dX10_four_18 rfl (lv_at hl 0 rfl) ?_
  refine lv_ishr hx hb dX10_four_19 ?_
  refine lv_topi (fun z2 ez2 => ?_)
  refine lv_i2b hx hb dX10_four_20 rfl ?_
  refine lv_topi (fun z3 ez3 => ?_)
  refine va_bast hx hb hK.1 hP hD hS 1 1 rfl rfl (i_in (X := X) hX (by omega) (by omega)) dX10_four_21 (fun H locs hP hD hS => ?_)
  have hP : va_P D vwCl [(m0, .inr (10, fs)), (m1, .inl (cB, 2400, .inl (upd f (Int32.toNatClampNeg x) (vp_nar .byte z3)))), (m2, .inl (cI, 4, .inl g))] H := hP
  have hD : va_D A [(m0, .inr (10, fs)), (m1, .inl (cB, 2400, .inl (upd f (Int32.toNatClampNeg x) (vp_nar .byte z3)))), (m2, .inl (cI, 4, .inl g))] := hD
  generalize (upd f (Int32.toNatClampNeg x) (vp_nar .byte z3)) = g4 at hP hD
  refine lv_aload_n hx hb dX10_four_22 rfl (lv_at hl 1 rfl) ?_
  refine va_get (D := D) (ci := 10) (v := .ref m2) (C := RX10) (T := TX10) (N := 50) hx hb hts (fun _ h => List.mem_cons_of_mem _ (List.mem_append_right _ h)) hown hK.1 hP 0 rfl rfl 2 (by decide) (hts (.fieldLink RX10 13 "ClapBankModel" "size" "[I") (List.mem_of_getElem? (i := 2) rfl)) (fun _ h9 => h9) f2 dX10_four_23 ?_
  refine lv_iconst (v := 0) hx hb dX10_four_26 (by decide) ?_
  refine lv_dup2_11 hx hb dX10_four_27 rfl rfl ?_
  refine va_iald hx hb hK.1 hP 2 0 rfl rfl (i_in (X := 0) (by decide) (by decide) (by decide)) dX10_four_28 ?_
  refine vz_i (y := x) (show g 0 = _ from hg) ?_
  refine lv_iconst (v := 1) hx hb dX10_four_29 (by decide) ?_
  refine lv_iadd hx hb dX10_four_30 ?_
  refine lv_topi (fun z5 ez5 => ?_)
  have iz5 : z5.toInt = X + 1 := by rw [ez5]; exact (i_add (X := X) (Y := 1) hX (by decide) (by omega) (by omega)).trans (by omega)
  refine va_iast hx hb hK.1 hP hD hS 2 0 rfl rfl (i_in (X := 0) (by decide) (by decide) (by decide)) dX10_four_31 (fun H locs hP hD hS => ?_)
  have hP : va_P D vwCl [(m0, .inr (10, fs)), (m1, .inl (cB, 2400, .inl g4)), (m2, .inl (cI, 4, .inl (upd g 0 z5)))] H := hP
  have hD : va_D A [(m0, .inr (10, fs)), (m1, .inl (cB, 2400, .inl g4)), (m2, .inl (cI, 4, .inl (upd g 0 z5)))] := hD
  refine lv_iinc (v := 16) (lv' := [(2, .int 16), (0, .ref m0), (1, .int v)]) hx hb dX10_four_32 hl (k := 0) rfl (by decide) (by decide) rfl (fun ls hl => ?_)
  refine lv_goto (tgt := 3) hx hb dX10_four_35 (by decide) ?_
  refine lv_iload_n hx hb dX10_four_3 rfl (lv_at hl 0 rfl) ?_
  refine bi_lt (tgt := 38) (X := 16) hx hb (by decide) dX10_four_4 (by decide) (fun h => absurd h (by decide)) (fun c6 => ?_)
  refine lv_aload_n hx hb dX10_four_7 rfl (lv_at hl 1 rfl) ?_
  refine va_get (D := D) (ci := 10) (v := .ref m1) (C := RX10) (T := TX10) (N := 50) hx hb hts (fun _ h => List.mem_cons_of_mem _ (List.mem_append_right _ h)) hown hK.1 hP 0 rfl rfl 1 (by decide) (hts (.fieldLink RX10 7 "ClapBankModel" "tape" "[B") (List.mem_of_getElem? (i := 1) rfl)) (fun _ h9 => h9) f1 dX10_four_8 ?_
  refine lv_aload_n hx hb dX10_four_11 rfl (lv_at hl 1 rfl) ?_
  refine va_get (D := D) (ci := 10) (v := .ref m2) (C := RX10) (T := TX10) (N := 50) hx hb hts (fun _ h => List.mem_cons_of_mem _ (List.mem_append_right _ h)) hown hK.1 hP 0 rfl rfl 2 (by decide) (hts (.fieldLink RX10 13 "ClapBankModel" "size" "[I") (List.mem_of_getElem? (i := 2) rfl)) (fun _ h9 => h9) f2 dX10_four_12 ?_
  refine lv_iconst (v := 0) hx hb dX10_four_15 (by decide) ?_
  refine va_iald hx hb hK.1 hP 2 0 rfl rfl (i_in (X := 0) (by decide) (by decide) (by decide)) dX10_four_16 ?_
  refine vz_i (y := z5) rfl ?_
  refine lv_iload_n hx hb dX10_four_17 rfl (lv_at hl 2 rfl) ?_
  refine lv_iload_n hx hb dX10_four_18 rfl (lv_at hl 0 rfl) ?_
  refine lv_ishr hx hb dX10_four_19 ?_
  refine lv_topi (fun z7 ez7 => ?_)
  refine lv_i2b hx hb dX10_four_20 rfl ?_
  refine lv_topi (fun z8 ez8 => ?_)
  refine va_bast hx hb hK.1 hP hD hS 1 1 rfl rfl (i_in (X := X + 1) iz5 (by omega) (by omega)) dX10_four_21 (fun H locs hP hD hS => ?_)
  have hP : va_P D vwCl [(m0, .inr (10, fs)), (m1, .inl (cB, 2400, .inl (upd g4 (Int32.toNatClampNeg z5) (vp_nar .byte z8)))), (m2, .inl (cI, 4, .inl (upd g 0 z5)))] H := hP
  have hD : va_D A [(m0, .inr (10, fs)), (m1, .inl (cB, 2400, .inl (upd g4 (Int32.toNatClampNeg z5) (vp_nar .byte z8)))), (m2, .inl (cI, 4, .inl (upd g 0 z5)))] := hD
  generalize (upd g4 (Int32.toNatClampNeg z5) (vp_nar .byte z8)) = g9 at hP hD
  refine lv_aload_n hx hb dX10_four_22 rfl (lv_at hl 1 rfl) ?_
  refine va_get (D := D) (ci := 10) (v := .ref m2) (C := RX10) (T := TX10) (N := 50) hx hb hts (fun _ h => List.mem_cons_of_mem _ (List.mem_append_right _ h)) hown hK.1 hP 0 rfl rfl 2 (by decide) (hts (.fieldLink RX10 13 "ClapBankModel" "size" "[I") (List.mem_of_getElem? (i := 2) rfl)) (fun _ h9 => h9) f2 dX10_four_23 ?_
  refine lv_iconst (v := 0) hx hb dX10_four_26 (by decide) ?_
  refine lv_dup2_11 hx hb dX10_four_27 rfl rfl ?_
  refine va_iald hx hb hK.1 hP 2 0 rfl rfl (i_in (X := 0) (by decide) (by decide) (by decide)) dX10_four_28 ?_
  refine vz_i (y := z5) rfl ?_
  refine lv_iconst (v := 1) hx hb dX10_four_29 (by decide) ?_
  refine lv_iadd hx hb dX10_four_30 ?_
  refine lv_topi (fun z10 ez10 => ?_)
  have iz10 : z10.toInt = X + 2 := by rw [ez10]; exact (i_add (X := X + 1) (Y := 1) iz5 (by decide) (by omega) (by omega)).trans (by omega)
  refine va_iast hx hb hK.1 hP hD hS 2 0 rfl rfl (i_in (X := 0) (by decide) (by decide) (by decide)) dX10_four_31 (fun H locs hP hD hS => ?_)
  have hP : va_P D vwCl [(m0, .inr (10, fs)), (m1, .inl (cB, 2400, .inl g9)), (m2, .inl (cI, 4, .inl (upd (upd g 0 z5) 0 z10)))] H := hP
  have hD : va_D A [(m0, .inr (10, fs)), (m1, .inl (cB, 2400, .inl g9)), (m2, .inl (cI, 4, .inl (upd (upd g 0 z5) 0 z10)))] := hD
  refine lv_iinc (v := 8) (lv' := [(2, .int 8), (0, .ref m0), (1, .int v)]) hx hb dX10_four_32 hl (k := 0) rfl (by decide) (by decide) rfl (fun ls hl => ?_)
  refine lv_goto (tgt := 3) hx hb dX10_four_35 (by decide) ?_
  refine lv_iload_n hx hb dX10_four_3 rfl (lv_at hl 0 rfl) ?_
  refine bi_lt (tgt := 38) (X := 8) hx hb (by decide) dX10_four_4 (by decide) (fun h => absurd h (by decide)) (fun c11 => ?_)
  refine lv_aload_n hx hb dX10_four_7 rfl (lv_at hl 1 rfl) ?_
  refine va_get (D := D) (ci := 10) (v := .ref m1) (C := RX10) (T := TX10) (N := 50) hx hb hts (fun _ h => List.mem_cons_of_mem _ (List.mem_append_right _ h)) hown hK.1 hP 0 rfl rfl 1 (by decide) (hts (.fieldLink RX10 7 "ClapBankModel" "tape" "[B") (List.mem_of_getElem? (i := 1) rfl)) (fun _ h9 => h9) f1 dX10_four_8 ?_
  refine lv_aload_n hx hb dX10_four_11 rfl (lv_at hl 1 rfl) ?_
  refine va_get (D := D) (ci := 10) (v := .ref m2) (C := RX10) (T := TX10) (N := 50) hx hb hts (fun _ h => List.mem_cons_of_mem _ (List.mem_append_right _ h)) hown hK.1 hP 0 rfl rfl 2 (by decide) (hts (.fieldLink RX10 13 "ClapBankModel" "size" "[I") (List.mem_of_getElem? (i := 2) rfl)) (fun _ h9 => h9) f2 dX10_four_12 ?_
  refine lv_iconst (v := 0) hx hb dX10_four_15 (by decide) ?_
  refine va_iald hx hb hK.1 hP 2 0 rfl rfl (i_in (X := 0) (by decide) (by decide) (by decide)) dX10_four_16 ?_
  refine vz_i (y := z10) rfl ?_
  refine lv_iload_n hx hb dX10_four_17 rfl (lv_at hl 2 rfl) ?_
  refine lv_iload_n hx hb dX10_four_18 rfl (lv_at hl 0 rfl) ?_
  refine lv_ishr hx hb dX10_four_19 ?_
  refine lv_topi (fun z12 ez12 => ?_)
  refine lv_i2b hx hb dX10_four_20 rfl ?_
  refine lv_topi (fun z13 ez13 => ?_)
  refine va_bast hx hb hK.1 hP hD hS 1 1 rfl rfl (i_in (X := X + 2) iz10 (by omega) (by omega)) dX10_four_21 (fun H locs hP hD hS => ?_)
  have hP : va_P D vwCl [(m0, .inr (10, fs)), (m1, .inl (cB, 2400, .inl (upd g9 (Int32.toNatClampNeg z10) (vp_nar .byte z13)))), (m2, .inl (cI, 4, .inl (upd (upd g 0 z5) 0 z10)))] H := hP
  have hD : va_D A [(m0, .inr (10, fs)), (m1, .inl (cB, 2400, .inl (upd g9 (Int32.toNatClampNeg z10) (vp_nar .byte z13)))), (m2, .inl (cI, 4, .inl (upd (upd g 0 z5) 0 z10)))] := hD
  generalize (upd g9 (Int32.toNatClampNeg z10) (vp_nar .byte z13)) = g14 at hP hD
  refine lv_aload_n hx hb dX10_four_22 rfl (lv_at hl 1 rfl) ?_
  refine va_get (D := D) (ci := 10) (v := .ref m2) (C := RX10) (T := TX10) (N := 50) hx hb hts (fun _ h => List.mem_cons_of_mem _ (List.mem_append_right _ h)) hown hK.1 hP 0 rfl rfl 2 (by decide) (hts (.fieldLink RX10 13 "ClapBankModel" "size" "[I") (List.mem_of_getElem? (i := 2) rfl)) (fun _ h9 => h9) f2 dX10_four_23 ?_
  refine lv_iconst (v := 0) hx hb dX10_four_26 (by decide) ?_
  refine lv_dup2_11 hx hb dX10_four_27 rfl rfl ?_
  refine va_iald hx hb hK.1 hP 2 0 rfl rfl (i_in (X := 0) (by decide) (by decide) (by decide)) dX10_four_28 ?_
  refine vz_i (y := z10) rfl ?_
  refine lv_iconst (v := 1) hx hb dX10_four_29 (by decide) ?_
  refine lv_iadd hx hb dX10_four_30 ?_
  refine lv_topi (fun z15 ez15 => ?_)
  have iz15 : z15.toInt = X + 3 := by rw [ez15]; exact (i_add (X := X + 2) (Y := 1) iz10 (by decide) (by omega) (by omega)).trans (by omega)
  refine va_iast hx hb hK.1 hP hD hS 2 0 rfl rfl (i_in (X := 0) (by decide) (by decide) (by decide)) dX10_four_31 (fun H locs hP hD hS => ?_)
  have hP : va_P D vwCl [(m0, .inr (10, fs)), (m1, .inl (cB, 2400, .inl g14)), (m2, .inl (cI, 4, .inl (upd (upd (upd g 0 z5) 0 z10) 0 z15)))] H := hP
  have hD : va_D A [(m0, .inr (10, fs)), (m1, .inl (cB, 2400, .inl g14)), (m2, .inl (cI, 4, .inl (upd (upd (upd g 0 z5) 0 z10) 0 z15)))] := hD
  refine lv_iinc (v := 0) (lv' := [(2, .int 0), (0, .ref m0), (1, .int v)]) hx hb dX10_four_32 hl (k := 0) rfl (by decide) (by decide) rfl (fun ls hl => ?_)
  refine lv_goto (tgt := 3) hx hb dX10_four_35 (by decide) ?_
  refine lv_iload_n hx hb dX10_four_3 rfl (lv_at hl 0 rfl) ?_
  refine bi_lt (tgt := 38) (X := 0) hx hb (by decide) dX10_four_4 (by decide) (fun h => absurd h (by decide)) (fun c16 => ?_)
  refine lv_aload_n hx hb dX10_four_7 rfl (lv_at hl 1 rfl) ?_
  refine va_get (D := D) (ci := 10) (v := .ref m1) (C := RX10) (T := TX10) (N := 50) hx hb hts (fun _ h => List.mem_cons_of_mem _ (List.mem_append_right _ h)) hown hK.1 hP 0 rfl rfl 1 (by decide) (hts (.fieldLink RX10 7 "ClapBankModel" "tape" "[B") (List.mem_of_getElem? (i := 1) rfl)) (fun _ h9 => h9) f1 dX10_four_8 ?_
  refine lv_aload_n hx hb dX10_four_11 rfl (lv_at hl 1 rfl) ?_
  refine va_get (D := D) (ci := 10) (v := .ref m2) (C := RX10) (T := TX10) (N := 50) hx hb hts (fun _ h => List.mem_cons_of_mem _ (List.mem_append_right _ h)) hown hK.1 hP 0 rfl rfl 2 (by decide) (hts (.fieldLink RX10 13 "ClapBankModel" "size" "[I") (List.mem_of_getElem? (i := 2) rfl)) (fun _ h9 => h9) f2 dX10_four_12 ?_
  refine lv_iconst (v := 0) hx hb dX10_four_15 (by decide) ?_
  refine va_iald hx hb hK.1 hP 2 0 rfl rfl (i_in (X := 0) (by decide) (by decide) (by decide)) dX10_four_16 ?_
  refine vz_i (y := z15) rfl ?_
  refine lv_iload_n hx hb dX10_four_17 rfl (lv_at hl 2 rfl) ?_
  refine lv_iload_n hx hb dX10_four_18 rfl (lv_at hl 0 rfl) ?_
  refine lv_ishr hx hb dX10_four_19 ?_
  refine lv_topi (fun z17 ez17 => ?_)
  refine lv_i2b hx hb dX10_four_20 rfl ?_
  refine lv_topi (fun z18 ez18 => ?_)
  refine va_bast hx hb hK.1 hP hD hS 1 1 rfl rfl (i_in (X := X + 3) iz15 (by omega) (by omega)) dX10_four_21 (fun H locs hP hD hS => ?_)
  have hP : va_P D vwCl [(m0, .inr (10, fs)), (m1, .inl (cB, 2400, .inl (upd g14 (Int32.toNatClampNeg z15) (vp_nar .byte z18)))), (m2, .inl (cI, 4, .inl (upd (upd (upd g 0 z5) 0 z10) 0 z15)))] H := hP
  have hD : va_D A [(m0, .inr (10, fs)), (m1, .inl (cB, 2400, .inl (upd g14 (Int32.toNatClampNeg z15) (vp_nar .byte z18)))), (m2, .inl (cI, 4, .inl (upd (upd (upd g 0 z5) 0 z10) 0 z15)))] := hD
  generalize (upd g14 (Int32.toNatClampNeg z15) (vp_nar .byte z18)) = g19 at hP hD
  refine lv_aload_n hx hb dX10_four_22 rfl (lv_at hl 1 rfl) ?_
  refine va_get (D := D) (ci := 10) (v := .ref m2) (C := RX10) (T := TX10) (N := 50) hx hb hts (fun _ h => List.mem_cons_of_mem _ (List.mem_append_right _ h)) hown hK.1 hP 0 rfl rfl 2 (by decide) (hts (.fieldLink RX10 13 "ClapBankModel" "size" "[I") (List.mem_of_getElem? (i := 2) rfl)) (fun _ h9 => h9) f2 dX10_four_23 ?_
  refine lv_iconst (v := 0) hx hb dX10_four_26 (by decide) ?_
  refine lv_dup2_11 hx hb dX10_four_27 rfl rfl ?_
  refine va_iald hx hb hK.1 hP 2 0 rfl rfl (i_in (X := 0) (by decide) (by decide) (by decide)) dX10_four_28 ?_
  refine vz_i (y := z15) rfl ?_
  refine lv_iconst (v := 1) hx hb dX10_four_29 (by decide) ?_
  refine lv_iadd hx hb dX10_four_30 ?_
  refine lv_topi (fun z20 ez20 => ?_)
  have iz20 : z20.toInt = X + 4 := by rw [ez20]; exact (i_add (X := X + 3) (Y := 1) iz15 (by decide) (by omega) (by omega)).trans (by omega)
  refine va_iast hx hb hK.1 hP hD hS 2 0 rfl rfl (i_in (X := 0) (by decide) (by decide) (by decide)) dX10_four_31 (fun H locs hP hD hS => ?_)
  have hP : va_P D vwCl [(m0, .inr (10, fs)), (m1, .inl (cB, 2400, .inl g19)), (m2, .inl (cI, 4, .inl (upd (upd (upd (upd g 0 z5) 0 z10) 0 z15) 0 z20)))] H := hP
  have hD : va_D A [(m0, .inr (10, fs)), (m1, .inl (cB, 2400, .inl g19)), (m2, .inl (cI, 4, .inl (upd (upd (upd (upd g 0 z5) 0 z10) 0 z15) 0 z20)))] := hD
  refine lv_iinc (v := (-8)) (lv' := [(2, .int (-8)), (0, .ref m0), (1, .int v)]) hx hb dX10_four_32 hl (k := 0) rfl (by decide) (by decide) rfl (fun ls hl => ?_)
  refine lv_goto (tgt := 3) hx hb dX10_four_35 (by decide) ?_
  refine lv_iload_n hx hb dX10_four_3 rfl (lv_at hl 0 rfl) ?_
  refine bi_lt (tgt := 38) (X := -8) hx hb (by decide) dX10_four_4 (by decide) (fun c21 => ?_) (fun h => absurd h (by decide))
  refine W.widen (k := 0) (n := 0) (Nat.le_of_ble_eq_true rfl) (Nat.le_of_ble_eq_true rfl) ?_
  exact ro_v hx hb hr hlocks (z20, g19, (upd (upd (upd (upd g 0 z5) 0 z10) 0 z15) 0 z20)) rfl (⟨rfl, (iz20).trans (by omega)⟩) (hP.sub [0, 1, 2] rfl) (hD.sub [0, 1, 2] (by decide) rfl) hS dX10_four_38
set_option maxHeartbeats 400000 in
set_option maxRecDepth 100000 in
theorem y_feed (l : Launch) (D : va_G) (cI cB cJ cZ cT : ClassId) (m0 : Nat) (fs : List Value) (m1 : Nat) (m2 : Nat) (fl : fs.length = 50) (f1 : fs[1]? = some (.ref m1)) (f2 : fs[2]? = some (.ref m2)) (a : Int32) (b : Int32) (d : Int32) (m1_ : Int32) (m2_ : Int32) : Co l yX10_feed wsX10_feed ({ frames := 1, cells := 0, slots := 0, locals := 22 }) D (tyL cI cB cJ cZ cT) [.ref m0, .int a, .int b, .int d, .int m1_, .int m2_] [(m0, .inr (10, fs)), (m1, .inl (cB, 2400, .inl (fun _ => 0))), (m2, .inl (cI, 4, .inl (fun _ => 0)))] (fun u : Int32 => some (.int u)) (fun u : Int32 => u = 20) (fun u : Int32 => ([] : va_W)) 0 0 := by
  refine entry (cc := cX10_feed) (maxL := 6) (ret := (some .int)) (by decide) rfl (Nat.le_of_ble_eq_true rfl) ?_
  intro p e s m below meth c A ls hx hb hr hml hts hown hlocks hname hK hP hD hS hA hl
  have hown : s.vm.findClass RX10 = some m.cls := hown
  have hl : lv_has ls 6 [(0, .ref m0), (1, .int a), (2, .int b), (3, .int d), (4, .int m1_), (5, .int m2_)] := hl
  refine lv_aload_n hx hb dX10_feed_0 rfl (lv_at hl 0 rfl) ?_
  refine lv_iconst (v := 0) hx hb dX10_feed_1 (by decide) ?_
  refine va_put (D := D) (ci := 10) (v := .int 0) (ty := .int) (C := RX10) (T := TX10) (N := 50) hx hb hts (fun _ h => List.mem_cons_of_mem _ (List.mem_append_right _ h)) tyX10 tyX10_ok nmX10 hown hK.1 hP hD hS 0 rfl rfl 0 (by decide) (hts (.fieldLink RX10 80 "ClapBankModel" "code" "I") (List.mem_of_getElem? (i := 1) rfl)) (fun _ h9 => h9) rfl (by decide +kernel) rfl rfl (Nat.lt_of_lt_of_eq (by decide) (Eq.symm fl)) dX10_feed_2 (fun H locs hP hD hS => ?_)
  have hP : va_P D vwCl [(m0, .inr (10, (fs.set 0 (.int 0)))), (m1, .inl (cB, 2400, .inl (fun _ => 0))), (m2, .inl (cI, 4, .inl (fun _ => 0)))] H := hP
  have hD : va_D A [(m0, .inr (10, (fs.set 0 (.int 0)))), (m1, .inl (cB, 2400, .inl (fun _ => 0))), (m2, .inl (cI, 4, .inl (fun _ => 0)))] := hD
  refine lv_aload_n hx hb dX10_feed_5 rfl (lv_at hl 0 rfl) ?_
  refine va_get (D := D) (ci := 10) (v := .ref m2) (C := RX10) (T := TX10) (N := 50) hx hb hts (fun _ h => List.mem_cons_of_mem _ (List.mem_append_right _ h)) hown hK.1 hP 0 rfl rfl 2 (by decide) (hts (.fieldLink RX10 13 "ClapBankModel" "size" "[I") (List.mem_of_getElem? (i := 2) rfl)) (fun _ h9 => h9) (fset_ne (by decide) f2) dX10_feed_6 ?_
  refine lv_iconst (v := 0) hx hb dX10_feed_9 (by decide) ?_
  refine va_iald hx hb hK.1 hP 2 0 rfl rfl (i_in (X := 0) (by decide) (by decide) (by decide)) dX10_feed_10 ?_
  refine vz_i (y := 0) rfl ?_
  refine lv_bipush (v := 20) hx hb dX10_feed_11 (by decide) ?_
  refine lv_iadd hx hb dX10_feed_13 ?_
  refine vz_i (y := 20) (by decide) ?_
  refine lv_sipush (v := 600) hx hb dX10_feed_14 (by decide) ?_
  refine bc_le (tgt := 22) (X := 20) (Y := 600) hx hb (by decide) (by decide) dX10_feed_17 (by decide) (fun c1 => ?_) (fun h => absurd h (by decide))
  refine lv_aload_n hx hb dX10_feed_22 rfl (lv_at hl 0 rfl) ?_
  refine lv_iload_n hx hb dX10_feed_23 rfl (lv_at hl 1 rfl) ?_
  refine doV (n := 1) (As := [.int a]) (rest := []) (wc := [(m0, .inr (10, (fs.set 0 (.int 0)))), (m1, .inl (cB, 2400, .inl (fun _ => 0))), (m2, .inl (cI, 4, .inl (fun _ => 0)))]) (wr := ([] : va_W)) hx hb hml hown hts hK hP hD hS hA [0, 1, 2] [] rfl rfl rfl rfl (by decide) 0 rfl rfl (m_four l D cI cB cJ cZ cT (m0) ((fs.set 0 (.int 0))) (m1) (m2) (fset_len fl) (fset_ne (by decide) f1) (fset_ne (by decide) f2) ((fun _ => 0)) ((fun _ => 0)) (0) (0) (by decide) (by omega) (by omega) rfl (a)) gX10_feed_X10_four rfl rfl rfl (by decide +kernel) ⟨Nat.le_of_ble_eq_true rfl, Nat.le_of_ble_eq_true rfl⟩ hl.1 rfl rfl (Nat.le_of_ble_eq_true rfl) dX10_feed_24 ⟨Nat.le_of_ble_eq_true rfl, Nat.le_of_ble_eq_true rfl⟩ (fun u H locs hw hP hD hS => ?_)
  obtain ⟨x2_2, f2_3, g2_4⟩ := u
  have hP : va_P D vwCl [(m0, .inr (10, (fs.set 0 (.int 0)))), (m1, .inl (cB, 2400, .inl f2_3)), (m2, .inl (cI, 4, .inl g2_4))] H := hP
  have hD : va_D A [(m0, .inr (10, (fs.set 0 (.int 0)))), (m1, .inl (cB, 2400, .inl f2_3)), (m2, .inl (cI, 4, .inl g2_4))] := hD
  refine W.eq (g2 := F0 m 27 ls []) rfl ?_
  have hw : g2_4 0 = x2_2 ∧ x2_2.toInt = (0) + 4 := hw
  obtain ⟨hz5, hz6⟩ := hw
  refine lv_aload_n hx hb dX10_feed_27 rfl (lv_at hl 0 rfl) ?_
  refine lv_iload_n hx hb dX10_feed_28 rfl (lv_at hl 2 rfl) ?_
  refine doV (n := 1) (As := [.int b]) (rest := []) (wc := [(m0, .inr (10, (fs.set 0 (.int 0)))), (m1, .inl (cB, 2400, .inl f2_3)), (m2, .inl (cI, 4, .inl g2_4))]) (wr := ([] : va_W)) hx hb hml hown hts hK hP hD hS hA [0, 1, 2] [] rfl rfl rfl rfl (by decide) 0 rfl rfl (m_four l D cI cB cJ cZ cT (m0) ((fs.set 0 (.int 0))) (m1) (m2) (fset_len fl) (fset_ne (by decide) f1) (fset_ne (by decide) f2) (f2_3) (g2_4) (x2_2) (x2_2.toInt) rfl (by omega) (by omega) hz5 (b)) gX10_feed_X10_four rfl rfl rfl (by decide +kernel) ⟨Nat.le_of_ble_eq_true rfl, Nat.le_of_ble_eq_true rfl⟩ hl.1 rfl rfl (Nat.le_of_ble_eq_true rfl) dX10_feed_29 ⟨Nat.le_of_ble_eq_true rfl, Nat.le_of_ble_eq_true rfl⟩ (fun u H locs hw hP hD hS => ?_)
  obtain ⟨x2_7, f2_8, g2_9⟩ := u
  have hP : va_P D vwCl [(m0, .inr (10, (fs.set 0 (.int 0)))), (m1, .inl (cB, 2400, .inl f2_8)), (m2, .inl (cI, 4, .inl g2_9))] H := hP
  have hD : va_D A [(m0, .inr (10, (fs.set 0 (.int 0)))), (m1, .inl (cB, 2400, .inl f2_8)), (m2, .inl (cI, 4, .inl g2_9))] := hD
  refine W.eq (g2 := F0 m 32 ls []) rfl ?_
  have hw : g2_9 0 = x2_7 ∧ x2_7.toInt = (x2_2.toInt) + 4 := hw
  obtain ⟨hz10, hz11⟩ := hw
  refine lv_aload_n hx hb dX10_feed_32 rfl (lv_at hl 0 rfl) ?_
  refine lv_iload_n hx hb dX10_feed_33 rfl (lv_at hl 3 rfl) ?_
  refine doV (n := 1) (As := [.int d]) (rest := []) (wc := [(m0, .inr (10, (fs.set 0 (.int 0)))), (m1, .inl (cB, 2400, .inl f2_8)), (m2, .inl (cI, 4, .inl g2_9))]) (wr := ([] : va_W)) hx hb hml hown hts hK hP hD hS hA [0, 1, 2] [] rfl rfl rfl rfl (by decide) 0 rfl rfl (m_four l D cI cB cJ cZ cT (m0) ((fs.set 0 (.int 0))) (m1) (m2) (fset_len fl) (fset_ne (by decide) f1) (fset_ne (by decide) f2) (f2_8) (g2_9) (x2_7) (x2_7.toInt) rfl (by omega) (by omega) hz10 (d)) gX10_feed_X10_four rfl rfl rfl (by decide +kernel) ⟨Nat.le_of_ble_eq_true rfl, Nat.le_of_ble_eq_true rfl⟩ hl.1 rfl rfl (Nat.le_of_ble_eq_true rfl) dX10_feed_34 ⟨Nat.le_of_ble_eq_true rfl, Nat.le_of_ble_eq_true rfl⟩ (fun u H locs hw hP hD hS => ?_)
  obtain ⟨x2_12, f2_13, g2_14⟩ := u
  have hP : va_P D vwCl [(m0, .inr (10, (fs.set 0 (.int 0)))), (m1, .inl (cB, 2400, .inl f2_13)), (m2, .inl (cI, 4, .inl g2_14))] H := hP
  have hD : va_D A [(m0, .inr (10, (fs.set 0 (.int 0)))), (m1, .inl (cB, 2400, .inl f2_13)), (m2, .inl (cI, 4, .inl g2_14))] := hD
  refine W.eq (g2 := F0 m 37 ls []) rfl ?_
  have hw : g2_14 0 = x2_12 ∧ x2_12.toInt = (x2_7.toInt) + 4 := hw
  obtain ⟨hz15, hz16⟩ := hw
  refine lv_aload_n hx hb dX10_feed_37 rfl (lv_at hl 0 rfl) ?_
  refine lv_iload hx hb dX10_feed_38 (lv_at hl 4 rfl) ?_
  refine doV (n := 1) (As := [.int m1_]) (rest := []) (wc := [(m0, .inr (10, (fs.set 0 (.int 0)))), (m1, .inl (cB, 2400, .inl f2_13)), (m2, .inl (cI, 4, .inl g2_14))]) (wr := ([] : va_W)) hx hb hml hown hts hK hP hD hS hA [0, 1, 2] [] rfl rfl rfl rfl (by decide) 0 rfl rfl (m_four l D cI cB cJ cZ cT (m0) ((fs.set 0 (.int 0))) (m1) (m2) (fset_len fl) (fset_ne (by decide) f1) (fset_ne (by decide) f2) (f2_13) (g2_14) (x2_12) (x2_12.toInt) rfl (by omega) (by omega) hz15 (m1_)) gX10_feed_X10_four rfl rfl rfl (by decide +kernel) ⟨Nat.le_of_ble_eq_true rfl, Nat.le_of_ble_eq_true rfl⟩ hl.1 rfl rfl (Nat.le_of_ble_eq_true rfl) dX10_feed_40 ⟨Nat.le_of_ble_eq_true rfl, Nat.le_of_ble_eq_true rfl⟩ (fun u H locs hw hP hD hS => ?_)
  obtain ⟨x2_17, f2_18, g2_19⟩ := u
  have hP : va_P D vwCl [(m0, .inr (10, (fs.set 0 (.int 0)))), (m1, .inl (cB, 2400, .inl f2_18)), (m2, .inl (cI, 4, .inl g2_19))] H := hP
  have hD : va_D A [(m0, .inr (10, (fs.set 0 (.int 0)))), (m1, .inl (cB, 2400, .inl f2_18)), (m2, .inl (cI, 4, .inl g2_19))] := hD
  refine W.eq (g2 := F0 m 43 ls []) rfl ?_
  have hw : g2_19 0 = x2_17 ∧ x2_17.toInt = (x2_12.toInt) + 4 := hw
  obtain ⟨hz20, hz21⟩ := hw
  refine lv_aload_n hx hb dX10_feed_43 rfl (lv_at hl 0 rfl) ?_
  refine lv_iload hx hb dX10_feed_44 (lv_at hl 5 rfl) ?_
  refine doV (n := 1) (As := [.int m2_]) (rest := []) (wc := [(m0, .inr (10, (fs.set 0 (.int 0)))), (m1, .inl (cB, 2400, .inl f2_18)), (m2, .inl (cI, 4, .inl g2_19))]) (wr := ([] : va_W)) hx hb hml hown hts hK hP hD hS hA [0, 1, 2] [] rfl rfl rfl rfl (by decide) 0 rfl rfl (m_four l D cI cB cJ cZ cT (m0) ((fs.set 0 (.int 0))) (m1) (m2) (fset_len fl) (fset_ne (by decide) f1) (fset_ne (by decide) f2) (f2_18) (g2_19) (x2_17) (x2_17.toInt) rfl (by omega) (by omega) hz20 (m2_)) gX10_feed_X10_four rfl rfl rfl (by decide +kernel) ⟨Nat.le_of_ble_eq_true rfl, Nat.le_of_ble_eq_true rfl⟩ hl.1 rfl rfl (Nat.le_of_ble_eq_true rfl) dX10_feed_46 ⟨Nat.le_of_ble_eq_true rfl, Nat.le_of_ble_eq_true rfl⟩ (fun u H locs hw hP hD hS => ?_)
  obtain ⟨x2_22, f2_23, g2_24⟩ := u
  have hP : va_P D vwCl [(m0, .inr (10, (fs.set 0 (.int 0)))), (m1, .inl (cB, 2400, .inl f2_23)), (m2, .inl (cI, 4, .inl g2_24))] H := hP
  have hD : va_D A [(m0, .inr (10, (fs.set 0 (.int 0)))), (m1, .inl (cB, 2400, .inl f2_23)), (m2, .inl (cI, 4, .inl g2_24))] := hD
  refine W.eq (g2 := F0 m 49 ls []) rfl ?_
  have hw : g2_24 0 = x2_22 ∧ x2_22.toInt = (x2_17.toInt) + 4 := hw
  obtain ⟨hz25, hz26⟩ := hw
  refine lv_aload_n hx hb dX10_feed_49 rfl (lv_at hl 0 rfl) ?_
  refine va_get (D := D) (ci := 10) (v := .ref m2) (C := RX10) (T := TX10) (N := 50) hx hb hts (fun _ h => List.mem_cons_of_mem _ (List.mem_append_right _ h)) hown hK.1 hP 0 rfl rfl 2 (by decide) (hts (.fieldLink RX10 13 "ClapBankModel" "size" "[I") (List.mem_of_getElem? (i := 2) rfl)) (fun _ h9 => h9) (fset_ne (by decide) f2) dX10_feed_50 ?_
  refine lv_iconst (v := 0) hx hb dX10_feed_53 (by decide) ?_
  refine va_iald hx hb hK.1 hP 2 0 rfl rfl (i_in (X := 0) (by decide) (by decide) (by decide)) dX10_feed_54 ?_
  refine vz_i (y := x2_22) (show g2_24 0 = _ from hz25) ?_
  refine W.widen (k := 0) (n := 0) (Nat.le_of_ble_eq_true rfl) (Nat.le_of_ble_eq_true rfl) ?_
  exact ro_i hx hb hr hlocks (x2_22) rfl ((i_eq (X := x2_22.toInt) (Y := 20) rfl (by decide) (by omega))) (hP.sub [] rfl) (hD.sub [] (by decide) rfl) hS dX10_feed_55
set_option maxHeartbeats 400000 in
set_option maxRecDepth 100000 in
theorem m_see0 (l : Launch) (D : va_G) (cI cB cJ cZ cT : ClassId) (m0 : Nat) (fs : List Value) (fl : fs.length = 50) (f9 : fs[9]? = some (.int 0)) (f10 : fs[10]? = some (.int 0)) : Co l yX10_see wsX10_see ({ frames := 0, cells := 0, slots := 0, locals := 0 }) D (tyL cI cB cJ cZ cT) [.ref m0] [(m0, .inr (10, fs))] (fun u : Unit => some (.int (-1))) (fun u : Unit => True) (fun u : Unit => [(m0, .inr (10, fs))]) 0 0 := by
  refine entry (cc := cX10_see) (maxL := 1) (ret := (some .int)) (by decide) rfl (Nat.le_of_ble_eq_true rfl) ?_
  intro p e s m below meth c A ls hx hb hr hml hts hown hlocks hname hK hP hD hS hA hl
  have hown : s.vm.findClass RX10 = some m.cls := hown
  have hl : lv_has ls 1 [(0, .ref m0)] := hl
  refine lv_aload_n hx hb dX10_see_0 rfl (lv_at hl 0 rfl) ?_
  refine va_get (D := D) (ci := 10) (v := .int 0) (C := RX10) (T := TX10) (N := 50) hx hb hts (fun _ h => List.mem_cons_of_mem _ (List.mem_append_right _ h)) hown hK.1 hP 0 rfl rfl 9 (by decide) (hts (.fieldLink RX10 100 "ClapBankModel" "reached" "I") (List.mem_of_getElem? (i := 1) rfl)) (fun _ h9 => h9) f9 dX10_see_1 ?_
  refine lv_aload_n hx hb dX10_see_4 rfl (lv_at hl 0 rfl) ?_
  refine va_get (D := D) (ci := 10) (v := .int 0) (C := RX10) (T := TX10) (N := 50) hx hb hts (fun _ h => List.mem_cons_of_mem _ (List.mem_append_right _ h)) hown hK.1 hP 0 rfl rfl 10 (by decide) (hts (.fieldLink RX10 103 "ClapBankModel" "length" "I") (List.mem_of_getElem? (i := 2) rfl)) (fun _ h9 => h9) f10 dX10_see_5 ?_
  refine bc_ge (tgt := 27) (X := 0) (Y := 0) hx hb (by decide) (by decide) dX10_see_8 (by decide) (fun c1 => ?_) (fun h => absurd h (by decide))
  refine lv_iconst (v := (-1)) hx hb dX10_see_27 (by decide) ?_
  refine W.widen (k := 0) (n := 0) (Nat.le_of_ble_eq_true rfl) (Nat.le_of_ble_eq_true rfl) ?_
  exact ro_i hx hb hr hlocks () rfl (trivial) (hP.sub [0] rfl) (hD.sub [0] (by decide) rfl) hS dX10_see_28
set_option maxHeartbeats 400000 in
set_option maxRecDepth 100000 in
theorem m_token0 (l : Launch) (D : va_G) (cI cB cJ cZ cT : ClassId) (m0 : Nat) (fs : List Value) (k3 : Value) (k4 : Value) (k5 : Value) (k6 : Value) (k7 : Value) (k8 : Value) (k18 : Value) (fl : fs.length = 50) (f9 : fs[9]? = some (.int 0)) (f10 : fs[10]? = some (.int 0)) (f16 : fs[16]? = some (.int 0)) (f3 : fs[3]? = some (k3)) (f4 : fs[4]? = some (k4)) (f5 : fs[5]? = some (k5)) (f6 : fs[6]? = some (k6)) (f7 : fs[7]? = some (k7)) (f8 : fs[8]? = some (k8)) (f18 : fs[18]? = some (k18)) : Co l yX10_token wsX10_token ({ frames := 1, cells := 0, slots := 0, locals := 20 }) D (tyL cI cB cJ cZ cT) [.ref m0] [(m0, .inr (10, fs))] (fun u : List Value => none) (fun u : List Value => u.length = 50 ∧ u[12]? = some (.int 0) ∧ u[16]? = some (.int 0) ∧ u[3]? = some (k3) ∧ u[4]? = some (k4) ∧ u[5]? = some (k5) ∧ u[6]? = some (k6) ∧ u[7]? = some (k7) ∧ u[8]? = some (k8) ∧ u[18]? = some (k18)) (fun u : List Value => [(m0, .inr (10, u))]) 0 0 := by
  refine entry (cc := cX10_token) (maxL := 3) (ret := none) (by decide) rfl (Nat.le_of_ble_eq_true rfl) ?_
  intro p e s m below meth c A ls hx hb hr hml hts hown hlocks hname hK hP hD hS hA hl
  have hown : s.vm.findClass RX10 = some m.cls := hown
  have hl : lv_has ls 3 [(0, .ref m0)] := hl
  refine lv_aload_n hx hb dX10_token_0 rfl (lv_at hl 0 rfl) ?_
  refine doV (n := 0) (As := []) (rest := []) (wc := [(m0, .inr (10, fs))]) (wr := ([] : va_W)) hx hb hml hown hts hK hP hD hS hA [0] [] rfl rfl rfl rfl (by decide) 0 rfl rfl (m_see0 l D cI cB cJ cZ cT (m0) (fs) fl f9 f10) gX10_token_X10_see rfl rfl rfl (by decide +kernel) ⟨Nat.le_of_ble_eq_true rfl, Nat.le_of_ble_eq_true rfl⟩ hl.1 rfl rfl (Nat.le_of_ble_eq_true rfl) dX10_token_1 ⟨Nat.le_of_ble_eq_true rfl, Nat.le_of_ble_eq_true rfl⟩ (fun u H locs hw hP hD hS => ?_)
  have hP : va_P D vwCl [(m0, .inr (10, fs))] H := hP
  have hD : va_D A [(m0, .inr (10, fs))] := hD
  refine W.eq (g2 := F0 m 4 ls [.int (-1)]) rfl ?_
  refine lv_bipush (v := 10) hx hb dX10_token_4 (by decide) ?_
  refine bc_eq (tgt := 18) (X := -1) (Y := 10) hx hb (by decide) (by decide) dX10_token_6 (by decide) (fun h => absurd h (by decide)) (fun c1 => ?_)
  refine lv_aload_n hx hb dX10_token_9 rfl (lv_at hl 0 rfl) ?_
  refine doV (n := 0) (As := []) (rest := []) (wc := [(m0, .inr (10, fs))]) (wr := ([] : va_W)) hx hb hml hown hts hK hP hD hS hA [0] [] rfl rfl rfl rfl (by decide) 0 rfl rfl (m_see0 l D cI cB cJ cZ cT (m0) (fs) fl f9 f10) gX10_token_X10_see rfl rfl rfl (by decide +kernel) ⟨Nat.le_of_ble_eq_true rfl, Nat.le_of_ble_eq_true rfl⟩ hl.1 rfl rfl (Nat.le_of_ble_eq_true rfl) dX10_token_10 ⟨Nat.le_of_ble_eq_true rfl, Nat.le_of_ble_eq_true rfl⟩ (fun u H locs hw hP hD hS => ?_)
  have hP : va_P D vwCl [(m0, .inr (10, fs))] H := hP
  have hD : va_D A [(m0, .inr (10, fs))] := hD
  refine W.eq (g2 := F0 m 13 ls [.int (-1)]) rfl ?_
  refine lv_bipush (v := 32) hx hb dX10_token_13 (by decide) ?_
  refine bc_ne (tgt := 31) (X := -1) (Y := 32) hx hb (by decide) (by decide) dX10_token_15 (by decide) (fun c2 => ?_) (fun h => absurd h (by decide))
  refine lv_aload_n hx hb dX10_token_31 rfl (lv_at hl 0 rfl) ?_
  refine lv_aload_n hx hb dX10_token_32 rfl (lv_at hl 0 rfl) ?_
  refine va_get (D := D) (ci := 10) (v := .int 0) (C := RX10) (T := TX10) (N := 50) hx hb hts (fun _ h => List.mem_cons_of_mem _ (List.mem_append_right _ h)) hown hK.1 hP 0 rfl rfl 9 (by decide) (hts (.fieldLink RX10 100 "ClapBankModel" "reached" "I") (List.mem_of_getElem? (i := 1) rfl)) (fun _ h9 => h9) f9 dX10_token_33 ?_
  refine va_put (D := D) (ci := 10) (v := .int 0) (ty := .int) (C := RX10) (T := TX10) (N := 50) hx hb hts (fun _ h => List.mem_cons_of_mem _ (List.mem_append_right _ h)) tyX10 tyX10_ok nmX10 hown hK.1 hP hD hS 0 rfl rfl 11 (by decide) (hts (.fieldLink RX10 110 "ClapBankModel" "begins" "I") (List.mem_of_getElem? (i := 2) rfl)) (fun _ h9 => h9) rfl (by decide +kernel) rfl rfl (Nat.lt_of_lt_of_eq (by decide) (Eq.symm fl)) dX10_token_36 (fun H locs hP hD hS => ?_)
  have hP : va_P D vwCl [(m0, .inr (10, (fs.set 11 (.int 0))))] H := hP
  have hD : va_D A [(m0, .inr (10, (fs.set 11 (.int 0))))] := hD
  refine lv_aload_n hx hb dX10_token_39 rfl (lv_at hl 0 rfl) ?_
  refine doV (n := 0) (As := []) (rest := []) (wc := [(m0, .inr (10, (fs.set 11 (.int 0))))]) (wr := ([] : va_W)) hx hb hml hown hts hK hP hD hS hA [0] [] rfl rfl rfl rfl (by decide) 0 rfl rfl (m_see0 l D cI cB cJ cZ cT (m0) ((fs.set 11 (.int 0))) (fset_len fl) (fset_ne (by decide) f9) (fset_ne (by decide) f10)) gX10_token_X10_see rfl rfl rfl (by decide +kernel) ⟨Nat.le_of_ble_eq_true rfl, Nat.le_of_ble_eq_true rfl⟩ hl.1 rfl rfl (Nat.le_of_ble_eq_true rfl) dX10_token_40 ⟨Nat.le_of_ble_eq_true rfl, Nat.le_of_ble_eq_true rfl⟩ (fun u H locs hw hP hD hS => ?_)
  have hP : va_P D vwCl [(m0, .inr (10, (fs.set 11 (.int 0))))] H := hP
  have hD : va_D A [(m0, .inr (10, (fs.set 11 (.int 0))))] := hD
  refine W.eq (g2 := F0 m 43 ls [.int (-1)]) rfl ?_
  refine lv_istore_n (lv' := [(1, .int (-1)), (0, .ref m0)]) hx hb dX10_token_43 rfl hl (by decide) rfl (fun ls hl => ?_)
  refine lv_aload_n hx hb dX10_token_44 rfl (lv_at hl 1 rfl) ?_
  refine lv_lconst (v := 0) hx hb dX10_token_45 (by decide) ?_
  refine va_put (D := D) (ci := 10) (v := .long 0) (ty := .long) (C := RX10) (T := TX10) (N := 50) hx hb hts (fun _ h => List.mem_cons_of_mem _ (List.mem_append_right _ h)) tyX10 tyX10_ok nmX10 hown hK.1 hP hD hS 0 rfl rfl 14 (by decide) (hts (.fieldLink RX10 113 "ClapBankModel" "word" "J") (List.mem_of_getElem? (i := 3) rfl)) (fun _ h9 => h9) rfl (by decide +kernel) rfl rfl (Nat.lt_of_lt_of_eq (by decide) (Eq.symm (fset_len fl))) dX10_token_46 (fun H locs hP hD hS => ?_)
  have hP : va_P D vwCl [(m0, .inr (10, ((fs.set 11 (.int 0)).set 14 (.long 0))))] H := hP
  have hD : va_D A [(m0, .inr (10, ((fs.set 11 (.int 0)).set 14 (.long 0))))] := hD
  refine lv_iconst (v := 0) hx hb dX10_token_49 (by decide) ?_
  refine lv_istore_n (lv' := [(2, .int 0), (1, .int (-1)), (0, .ref m0)]) hx hb dX10_token_50 rfl hl (by decide) rfl (fun ls hl => ?_)
  refine lv_iload_n hx hb dX10_token_51 rfl (lv_at hl 1 rfl) ?_
  refine bi_ge (tgt := 63) (X := -1) hx hb (by decide) dX10_token_52 (by decide) (fun h => absurd h (by decide)) (fun c3 => ?_)
  refine lv_aload_n hx hb dX10_token_55 rfl (lv_at hl 2 rfl) ?_
  refine lv_iconst (v := 0) hx hb dX10_token_56 (by decide) ?_
  refine va_put (D := D) (ci := 10) (v := .int 0) (ty := .int) (C := RX10) (T := TX10) (N := 50) hx hb hts (fun _ h => List.mem_cons_of_mem _ (List.mem_append_right _ h)) tyX10 tyX10_ok nmX10 hown hK.1 hP hD hS 0 rfl rfl 12 (by decide) (hts (.fieldLink RX10 117 "ClapBankModel" "sort" "I") (List.mem_of_getElem? (i := 4) rfl)) (fun _ h9 => h9) rfl (by decide +kernel) rfl rfl (Nat.lt_of_lt_of_eq (by decide) (Eq.symm (fset_len (fset_len fl)))) dX10_token_57 (fun H locs hP hD hS => ?_)
  have hP : va_P D vwCl [(m0, .inr (10, (((fs.set 11 (.int 0)).set 14 (.long 0)).set 12 (.int 0))))] H := hP
  have hD : va_D A [(m0, .inr (10, (((fs.set 11 (.int 0)).set 14 (.long 0)).set 12 (.int 0))))] := hD
  refine lv_goto (tgt := 266) hx hb dX10_token_60 (by decide) ?_
  refine W.widen (k := 0) (n := 0) (Nat.le_of_ble_eq_true rfl) (Nat.le_of_ble_eq_true rfl) ?_
  exact ro_v hx hb hr hlocks ((((fs.set 11 (.int 0)).set 14 (.long 0)).set 12 (.int 0))) rfl (⟨(fset_len (fset_len (fset_len fl))), (fset_eq (Nat.lt_of_lt_of_eq (by decide) (Eq.symm (fset_len (fset_len fl))))), (fset_ne (by decide) (fset_ne (by decide) (fset_ne (by decide) f16))), (fset_ne (by decide) (fset_ne (by decide) (fset_ne (by decide) f3))), (fset_ne (by decide) (fset_ne (by decide) (fset_ne (by decide) f4))), (fset_ne (by decide) (fset_ne (by decide) (fset_ne (by decide) f5))), (fset_ne (by decide) (fset_ne (by decide) (fset_ne (by decide) f6))), (fset_ne (by decide) (fset_ne (by decide) (fset_ne (by decide) f7))), (fset_ne (by decide) (fset_ne (by decide) (fset_ne (by decide) f8))), (fset_ne (by decide) (fset_ne (by decide) (fset_ne (by decide) f18)))⟩) (hP.sub [0] rfl) (hD.sub [0] (by decide) rfl) hS dX10_token_266
set_option maxHeartbeats 400000 in
set_option maxRecDepth 100000 in
theorem m_lines0 (l : Launch) (D : va_G) (cI cB cJ cZ cT : ClassId) (m0 : Nat) (fs : List Value) (fl : fs.length = 50) (f12 : fs[12]? = some (.int 0)) (a : Int32) : Co l yX10_lines wsX10_lines ({ frames := 0, cells := 0, slots := 0, locals := 0 }) D (tyL cI cB cJ cZ cT) [.ref m0, .int a] [(m0, .inr (10, fs))] (fun u : Unit => some (.int 1)) (fun u : Unit => True) (fun u : Unit => [(m0, .inr (10, fs))]) 0 0 := by
  refine entry (cc := cX10_lines) (maxL := 6) (ret := (some .boolean)) (by decide) rfl (Nat.le_of_ble_eq_true rfl) ?_
  intro p e s m below meth c A ls hx hb hr hml hts hown hlocks hname hK hP hD hS hA hl
  have hown : s.vm.findClass RX10 = some m.cls := hown
  have hl : lv_has ls 6 [(0, .ref m0), (1, .int a)] := hl
  refine lv_iconst (v := 1) hx hb dX10_lines_0 (by decide) ?_
  refine lv_istore_n (lv' := [(2, .int 1), (0, .ref m0), (1, .int a)]) hx hb dX10_lines_1 rfl hl (by decide) rfl (fun ls hl => ?_)
  refine lv_iload_n hx hb dX10_lines_2 rfl (lv_at hl 0 rfl) ?_
  refine bi_eq (tgt := 101) (X := 1) hx hb (by decide) dX10_lines_3 (by decide) (fun h => absurd h (by decide)) (fun c1 => ?_)
  refine lv_aload_n hx hb dX10_lines_6 rfl (lv_at hl 1 rfl) ?_
  refine va_get (D := D) (ci := 10) (v := .int 0) (C := RX10) (T := TX10) (N := 50) hx hb hts (fun _ h => List.mem_cons_of_mem _ (List.mem_append_right _ h)) hown hK.1 hP 0 rfl rfl 12 (by decide) (hts (.fieldLink RX10 117 "ClapBankModel" "sort" "I") (List.mem_of_getElem? (i := 1) rfl)) (fun _ h9 => h9) f12 dX10_lines_7 ?_
  refine bi_eq (tgt := 101) (X := 0) hx hb (by decide) dX10_lines_10 (by decide) (fun c2 => ?_) (fun h => absurd h (by decide))
  refine lv_iload_n hx hb dX10_lines_101 rfl (lv_at hl 0 rfl) ?_
  refine W.widen (k := 0) (n := 0) (Nat.le_of_ble_eq_true rfl) (Nat.le_of_ble_eq_true rfl) ?_
  exact ro_z hx hb hr rfl hlocks () rfl (trivial) (hP.sub [0] rfl) (hD.sub [0] (by decide) rfl) hS dX10_lines_102
set_option maxHeartbeats 400000 in
set_option maxRecDepth 100000 in
theorem m_readText0 (l : Launch) (D : va_G) (cI cB cJ cZ cT : ClassId) (m0 : Nat) (fs : List Value) (m3 : Nat) (m4 : Nat) (k5 : Value) (k6 : Value) (k7 : Value) (k8 : Value) (m18 : Nat) (fl : fs.length = 50) (f3 : fs[3]? = some (.ref m3)) (f4 : fs[4]? = some (.ref m4)) (f5 : fs[5]? = some (k5)) (f6 : fs[6]? = some (k6)) (f7 : fs[7]? = some (k7)) (f8 : fs[8]? = some (k8)) (f18 : fs[18]? = some (.ref m18)) (f10 : fs[10]? = some (.int 0)) (f : Nat → Int32) (g3 : Nat → Int32) (g4 : Nat → Int32) (a : Int32) : Co l yX10_readText wsX10_readText ({ frames := 2, cells := 0, slots := 0, locals := 42 }) D (tyL cI cB cJ cZ cT) [.ref m0, .int a] [(m0, .inr (10, fs)), (m18, .inl (cI, 121, .inl f)), (m3, .inl (cI, 4, .inl g3)), (m4, .inl (cI, 4, .inl g4))] (fun u : List Value × (Nat → Int32) => some (.int 1)) (fun u : List Value × (Nat → Int32) => u.1.length = 50 ∧ u.1[5]? = some (k5) ∧ u.1[6]? = some (k6) ∧ u.1[7]? = some (k7) ∧ u.1[8]? = some (k8) ∧ u.1[18]? = some (.ref m18)) (fun u : List Value × (Nat → Int32) => [(m0, .inr (10, u.1)), (m18, .inl (cI, 121, .inl u.2))]) 0 0 := by
  refine entry (cc := cX10_readText) (maxL := 3) (ret := (some .boolean)) (by decide) rfl (Nat.le_of_ble_eq_true rfl) ?_
  intro p e s m below meth c A ls hx hb hr hml hts hown hlocks hname hK hP hD hS hA hl
  have hown : s.vm.findClass RX10 = some m.cls := hown
  have hl : lv_has ls 3 [(0, .ref m0), (1, .int a)] := hl
  refine lv_iconst (v := 0) hx hb dX10_readText_0 (by decide) ?_
  refine lv_istore_n (lv' := [(2, .int 0), (0, .ref m0), (1, .int a)]) hx hb dX10_readText_1 rfl hl (by decide) rfl (fun ls hl => ?_)
  have lp2 : ∀ (n : Nat) (i : Int32) (fl_ : Nat → Int32) (H : Heap) (locs : List Loc) (ls : Array Slot), (0 ≤ i.toInt ∧ i.toInt ≤ 121 ∧ 121 - i.toInt < (n : Int)) → va_P D vwCl [(m0, .inr (10, fs)), (m18, .inl (cI, 121, .inl fl_)), (m3, .inl (cI, 4, .inl g3)), (m4, .inl (cI, 4, .inl g4))] H → va_D A [(m0, .inr (10, fs)), (m18, .inl (cI, 121, .inl fl_)), (m3, .inl (cI, 4, .inl g3)), (m4, .inl (cI, 4, .inl g4))] → va_S A s.heap H locs → lv_has ls 3 [(2, .int i), (0, .ref m0), (1, .int a)] → W p l e ({ frames := 2, cells := 0, slots := 0, locals := 42 }) s m ([.ref m0, .int a] : List Value).toArray below meth c H locs 0 0 (MQ below (Qo (fun u : List Value × (Nat → Int32) => some (.int 1)) (fun u : List Value × (Nat → Int32) => u.1.length = 50 ∧ u.1[5]? = some (k5) ∧ u.1[6]? = some (k6) ∧ u.1[7]? = some (k7) ∧ u.1[8]? = some (k8) ∧ u.1[18]? = some (.ref m18)) (BW D A (fun u : List Value × (Nat → Int32) => [(m0, .inr (10, u.1)), (m18, .inl (cI, 121, .inl u.2))])) A) ([.ref m0, .int a] : List Value).toArray s 0 0 A) (F0 m 2 ls []) := by
    intro n
    induction n with
    | zero => intro i fl_ H locs ls hi; exact absurd hi (by omega)
    | succ n ih =>
      intro i fl_ H locs ls hi hP hD hS hl
      refine lv_iload_n hx hb dX10_readText_2 rfl (lv_at hl 0 rfl) ?_
      refine lv_bipush (v := 121) hx hb dX10_readText_3 (by decide) ?_
      refine bc_ge (tgt := 21) (X := i.toInt) (Y := 121) hx hb rfl (by decide) dX10_readText_5 (by decide) (fun c3 => ?_) (fun c3 => ?_)
      · skip
        refine lv_aload_n hx hb dX10_readText_21 rfl (lv_at hl 1 rfl) ?_
        refine va_get (D := D) (ci := 10) (v := .ref m18) (C := RX10) (T := TX10) (N := 50) hx hb hts (fun _ h => List.mem_cons_of_mem _ (List.mem_append_right _ h)) hown hK.1 hP 0 rfl rfl 18 (by decide) (hts (.fieldLink RX10 35 "ClapBankModel" "told" "[I") (List.mem_of_getElem? (i := 1) rfl)) (fun _ h9 => h9) f18 dX10_readText_22 ?_
        refine lv_iconst (v := 3) hx hb dX10_readText_25 (by decide) ?_
        refine lv_iload_n hx hb dX10_readText_26 rfl (lv_at hl 2 rfl) ?_
        refine bi_ne (tgt := 36) (X := a.toInt) hx hb rfl dX10_readText_27 (by decide) (fun c4 => ?_) (fun c4 => ?_)
        · skip
          refine lv_iconst (v := 0) hx hb dX10_readText_36 (by decide) ?_
          refine va_iast hx hb hK.1 hP hD hS 1 0 rfl rfl (i_in (X := 3) (by decide) (by decide) (by decide)) dX10_readText_37 (fun H locs hP hD hS => ?_)
          have hP : va_P D vwCl [(m0, .inr (10, fs)), (m18, .inl (cI, 121, .inl (upd fl_ 3 0))), (m3, .inl (cI, 4, .inl g3)), (m4, .inl (cI, 4, .inl g4))] H := hP
          have hD : va_D A [(m0, .inr (10, fs)), (m18, .inl (cI, 121, .inl (upd fl_ 3 0))), (m3, .inl (cI, 4, .inl g3)), (m4, .inl (cI, 4, .inl g4))] := hD
          refine lv_aload_n hx hb dX10_readText_38 rfl (lv_at hl 1 rfl) ?_
          refine lv_iconst (v := 0) hx hb dX10_readText_39 (by decide) ?_
          refine va_put (D := D) (ci := 10) (v := .int 0) (ty := .int) (C := RX10) (T := TX10) (N := 50) hx hb hts (fun _ h => List.mem_cons_of_mem _ (List.mem_append_right _ h)) tyX10 tyX10_ok nmX10 hown hK.1 hP hD hS 0 rfl rfl 9 (by decide) (hts (.fieldLink RX10 100 "ClapBankModel" "reached" "I") (List.mem_of_getElem? (i := 2) rfl)) (fun _ h9 => h9) rfl (by decide +kernel) rfl rfl (Nat.lt_of_lt_of_eq (by decide) (Eq.symm fl)) dX10_readText_40 (fun H locs hP hD hS => ?_)
          have hP : va_P D vwCl [(m0, .inr (10, (fs.set 9 (.int 0)))), (m18, .inl (cI, 121, .inl (upd fl_ 3 0))), (m3, .inl (cI, 4, .inl g3)), (m4, .inl (cI, 4, .inl g4))] H := hP
          have hD : va_D A [(m0, .inr (10, (fs.set 9 (.int 0)))), (m18, .inl (cI, 121, .inl (upd fl_ 3 0))), (m3, .inl (cI, 4, .inl g3)), (m4, .inl (cI, 4, .inl g4))] := hD
          refine lv_aload_n hx hb dX10_readText_43 rfl (lv_at hl 1 rfl) ?_
          refine lv_iconst (v := 0) hx hb dX10_readText_44 (by decide) ?_
          refine va_put (D := D) (ci := 10) (v := .int 0) (ty := .int) (C := RX10) (T := TX10) (N := 50) hx hb hts (fun _ h => List.mem_cons_of_mem _ (List.mem_append_right _ h)) tyX10 tyX10_ok nmX10 hown hK.1 hP hD hS 0 rfl rfl 16 (by decide) (hts (.fieldLink RX10 126 "ClapBankModel" "laterFault" "I") (List.mem_of_getElem? (i := 3) rfl)) (fun _ h9 => h9) rfl (by decide +kernel) rfl rfl (Nat.lt_of_lt_of_eq (by decide) (Eq.symm (fset_len fl))) dX10_readText_45 (fun H locs hP hD hS => ?_)
          have hP : va_P D vwCl [(m0, .inr (10, ((fs.set 9 (.int 0)).set 16 (.int 0)))), (m18, .inl (cI, 121, .inl (upd fl_ 3 0))), (m3, .inl (cI, 4, .inl g3)), (m4, .inl (cI, 4, .inl g4))] H := hP
          have hD : va_D A [(m0, .inr (10, ((fs.set 9 (.int 0)).set 16 (.int 0)))), (m18, .inl (cI, 121, .inl (upd fl_ 3 0))), (m3, .inl (cI, 4, .inl g3)), (m4, .inl (cI, 4, .inl g4))] := hD
          refine lv_aload_n hx hb dX10_readText_48 rfl (lv_at hl 1 rfl) ?_
          refine doV (n := 0) (As := []) (rest := []) (wc := [(m0, .inr (10, ((fs.set 9 (.int 0)).set 16 (.int 0))))]) (wr := [(m18, .inl (cI, 121, .inl (upd fl_ 3 0))), (m3, .inl (cI, 4, .inl g3)), (m4, .inl (cI, 4, .inl g4))]) hx hb hml hown hts hK hP hD hS hA [0] [1, 2, 3] rfl rfl rfl rfl (by decide) 0 rfl rfl (m_token0 l D cI cB cJ cZ cT (m0) (((fs.set 9 (.int 0)).set 16 (.int 0))) (.ref m3) (.ref m4) (k5) (k6) (k7) (k8) (.ref m18) (fset_len (fset_len fl)) (fset_ne (by decide) (fset_eq (Nat.lt_of_lt_of_eq (by decide) (Eq.symm fl)))) (fset_ne (by decide) (fset_ne (by decide) f10)) (fset_eq (Nat.lt_of_lt_of_eq (by decide) (Eq.symm (fset_len fl)))) (fset_ne (by decide) (fset_ne (by decide) f3)) (fset_ne (by decide) (fset_ne (by decide) f4)) (fset_ne (by decide) (fset_ne (by decide) f5)) (fset_ne (by decide) (fset_ne (by decide) f6)) (fset_ne (by decide) (fset_ne (by decide) f7)) (fset_ne (by decide) (fset_ne (by decide) f8)) (fset_ne (by decide) (fset_ne (by decide) f18))) gX10_readText_X10_token rfl rfl rfl (by decide +kernel) ⟨Nat.le_of_ble_eq_true rfl, Nat.le_of_ble_eq_true rfl⟩ hl.1 rfl rfl (Nat.le_of_ble_eq_true rfl) dX10_readText_49 ⟨Nat.le_of_ble_eq_true rfl, Nat.le_of_ble_eq_true rfl⟩ (fun u H locs hw hP hD hS => ?_)
          obtain ⟨fs2_5, rfl⟩ : ∃ z, z = u := ⟨_, rfl⟩
          have hP : va_P D vwCl [(m18, .inl (cI, 121, .inl (upd fl_ 3 0))), (m3, .inl (cI, 4, .inl g3)), (m4, .inl (cI, 4, .inl g4)), (m0, .inr (10, fs2_5))] H := hP
          have hD : va_D A [(m18, .inl (cI, 121, .inl (upd fl_ 3 0))), (m3, .inl (cI, 4, .inl g3)), (m4, .inl (cI, 4, .inl g4)), (m0, .inr (10, fs2_5))] := hD
          refine W.eq (g2 := F0 m 52 ls []) rfl ?_
          have hw : fs2_5.length = 50 ∧ fs2_5[12]? = some (.int 0) ∧ fs2_5[16]? = some (.int 0) ∧ fs2_5[3]? = some ((.ref m3)) ∧ fs2_5[4]? = some ((.ref m4)) ∧ fs2_5[5]? = some (k5) ∧ fs2_5[6]? = some (k6) ∧ fs2_5[7]? = some (k7) ∧ fs2_5[8]? = some (k8) ∧ fs2_5[18]? = some ((.ref m18)) := hw
          obtain ⟨hf6l, hf6_12, hf6_16, hf6_3, hf6_4, hf6_5, hf6_6, hf6_7, hf6_8, hf6_18⟩ := hw
          refine lv_aload_n hx hb dX10_readText_52 rfl (lv_at hl 1 rfl) ?_
          refine lv_iload_n hx hb dX10_readText_53 rfl (lv_at hl 2 rfl) ?_
          refine doV (n := 1) (As := [.int a]) (rest := []) (wc := [(m0, .inr (10, fs2_5))]) (wr := [(m18, .inl (cI, 121, .inl (upd fl_ 3 0))), (m3, .inl (cI, 4, .inl g3)), (m4, .inl (cI, 4, .inl g4))]) hx hb hml hown hts hK hP hD hS hA [3] [0, 1, 2] rfl rfl rfl rfl (by decide) 3 rfl rfl (m_lines0 l D cI cB cJ cZ cT (m0) (fs2_5) hf6l hf6_12 (a)) gX10_readText_X10_lines rfl rfl rfl (by decide +kernel) ⟨Nat.le_of_ble_eq_true rfl, Nat.le_of_ble_eq_true rfl⟩ hl.1 rfl rfl (Nat.le_of_ble_eq_true rfl) dX10_readText_54 ⟨Nat.le_of_ble_eq_true rfl, Nat.le_of_ble_eq_true rfl⟩ (fun u H locs hw hP hD hS => ?_)
          have hP : va_P D vwCl [(m18, .inl (cI, 121, .inl (upd fl_ 3 0))), (m3, .inl (cI, 4, .inl g3)), (m4, .inl (cI, 4, .inl g4)), (m0, .inr (10, fs2_5))] H := hP
          have hD : va_D A [(m18, .inl (cI, 121, .inl (upd fl_ 3 0))), (m3, .inl (cI, 4, .inl g3)), (m4, .inl (cI, 4, .inl g4)), (m0, .inr (10, fs2_5))] := hD
          refine W.eq (g2 := F0 m 57 ls [.int 1]) rfl ?_
          refine lv_istore_n (lv' := [(2, .int 1), (0, .ref m0), (1, .int a)]) hx hb dX10_readText_57 rfl hl (by decide) rfl (fun ls hl => ?_)
          refine lv_aload_n hx hb dX10_readText_58 rfl (lv_at hl 1 rfl) ?_
          refine va_get (D := D) (ci := 10) (v := .ref m3) (C := RX10) (T := TX10) (N := 50) hx hb hts (fun _ h => List.mem_cons_of_mem _ (List.mem_append_right _ h)) hown hK.1 hP 3 rfl rfl 3 (by decide) (hts (.fieldLink RX10 17 "ClapBankModel" "fault" "[I") (List.mem_of_getElem? (i := 4) rfl)) (fun _ h9 => h9) hf6_3 dX10_readText_59 ?_
          refine lv_iconst (v := 0) hx hb dX10_readText_62 (by decide) ?_
          refine lv_iload_n hx hb dX10_readText_63 rfl (lv_at hl 0 rfl) ?_
          refine bi_eq (tgt := 74) (X := 1) hx hb (by decide) dX10_readText_64 (by decide) (fun h => absurd h (by decide)) (fun c7 => ?_)
          refine lv_aload_n hx hb dX10_readText_67 rfl (lv_at hl 1 rfl) ?_
          refine va_get (D := D) (ci := 10) (v := .int 0) (C := RX10) (T := TX10) (N := 50) hx hb hts (fun _ h => List.mem_cons_of_mem _ (List.mem_append_right _ h)) hown hK.1 hP 3 rfl rfl 16 (by decide) (hts (.fieldLink RX10 126 "ClapBankModel" "laterFault" "I") (List.mem_of_getElem? (i := 3) rfl)) (fun _ h9 => h9) hf6_16 dX10_readText_68 ?_
          refine lv_goto (tgt := 75) hx hb dX10_readText_71 (by decide) ?_
          refine va_iast hx hb hK.1 hP hD hS 1 0 rfl rfl (i_in (X := 0) (by decide) (by decide) (by decide)) dX10_readText_75 (fun H locs hP hD hS => ?_)
          have hP : va_P D vwCl [(m18, .inl (cI, 121, .inl (upd fl_ 3 0))), (m3, .inl (cI, 4, .inl (upd g3 0 0))), (m4, .inl (cI, 4, .inl g4)), (m0, .inr (10, fs2_5))] H := hP
          have hD : va_D A [(m18, .inl (cI, 121, .inl (upd fl_ 3 0))), (m3, .inl (cI, 4, .inl (upd g3 0 0))), (m4, .inl (cI, 4, .inl g4)), (m0, .inr (10, fs2_5))] := hD
          refine lv_aload_n hx hb dX10_readText_76 rfl (lv_at hl 1 rfl) ?_
          refine va_get (D := D) (ci := 10) (v := .ref m4) (C := RX10) (T := TX10) (N := 50) hx hb hts (fun _ h => List.mem_cons_of_mem _ (List.mem_append_right _ h)) hown hK.1 hP 3 rfl rfl 4 (by decide) (hts (.fieldLink RX10 20 "ClapBankModel" "faultPlace" "[I") (List.mem_of_getElem? (i := 5) rfl)) (fun _ h9 => h9) hf6_4 dX10_readText_77 ?_
          refine lv_iconst (v := 0) hx hb dX10_readText_80 (by decide) ?_
          refine lv_iload_n hx hb dX10_readText_81 rfl (lv_at hl 0 rfl) ?_
          refine bi_ne (tgt := 92) (X := 1) hx hb (by decide) dX10_readText_82 (by decide) (fun c8 => ?_) (fun h => absurd h (by decide))
          refine lv_aload_n hx hb dX10_readText_92 rfl (lv_at hl 1 rfl) ?_
          refine va_get (D := D) (ci := 10) (v := .int 0) (C := RX10) (T := TX10) (N := 50) hx hb hts (fun _ h => List.mem_cons_of_mem _ (List.mem_append_right _ h)) hown hK.1 hP 3 rfl rfl 16 (by decide) (hts (.fieldLink RX10 126 "ClapBankModel" "laterFault" "I") (List.mem_of_getElem? (i := 3) rfl)) (fun _ h9 => h9) hf6_16 dX10_readText_93 ?_
          refine bi_le (tgt := 106) (X := 0) hx hb (by decide) dX10_readText_96 (by decide) (fun c9 => ?_) (fun h => absurd h (by decide))
          refine lv_iconst (v := (-1)) hx hb dX10_readText_106 (by decide) ?_
          refine va_iast hx hb hK.1 hP hD hS 2 0 rfl rfl (i_in (X := 0) (by decide) (by decide) (by decide)) dX10_readText_107 (fun H locs hP hD hS => ?_)
          have hP : va_P D vwCl [(m18, .inl (cI, 121, .inl (upd fl_ 3 0))), (m3, .inl (cI, 4, .inl (upd g3 0 0))), (m4, .inl (cI, 4, .inl (upd g4 0 (-1)))), (m0, .inr (10, fs2_5))] H := hP
          have hD : va_D A [(m18, .inl (cI, 121, .inl (upd fl_ 3 0))), (m3, .inl (cI, 4, .inl (upd g3 0 0))), (m4, .inl (cI, 4, .inl (upd g4 0 (-1)))), (m0, .inr (10, fs2_5))] := hD
          refine lv_aload_n hx hb dX10_readText_108 rfl (lv_at hl 1 rfl) ?_
          refine va_get (D := D) (ci := 10) (v := .ref m3) (C := RX10) (T := TX10) (N := 50) hx hb hts (fun _ h => List.mem_cons_of_mem _ (List.mem_append_right _ h)) hown hK.1 hP 3 rfl rfl 3 (by decide) (hts (.fieldLink RX10 17 "ClapBankModel" "fault" "[I") (List.mem_of_getElem? (i := 4) rfl)) (fun _ h9 => h9) hf6_3 dX10_readText_109 ?_
          refine lv_iconst (v := 0) hx hb dX10_readText_112 (by decide) ?_
          refine va_iald hx hb hK.1 hP 1 0 rfl rfl (i_in (X := 0) (by decide) (by decide) (by decide)) dX10_readText_113 ?_
          refine vz_i (y := 0) rfl ?_
          refine bi_ne (tgt := 121) (X := 0) hx hb (by decide) dX10_readText_114 (by decide) (fun h => absurd h (by decide)) (fun c10 => ?_)
          refine lv_iconst (v := 1) hx hb dX10_readText_117 (by decide) ?_
          refine lv_goto (tgt := 122) hx hb dX10_readText_118 (by decide) ?_
          refine W.widen (k := 0) (n := 0) (Nat.le_of_ble_eq_true rfl) (Nat.le_of_ble_eq_true rfl) ?_
          exact ro_z hx hb hr rfl hlocks (fs2_5, (upd fl_ 3 0)) rfl (⟨hf6l, hf6_5, hf6_6, hf6_7, hf6_8, hf6_18⟩) (hP.sub [3, 0] rfl) (hD.sub [3, 0] (by decide) rfl) hS dX10_readText_122
        · skip
          refine lv_sipush (v := 999) hx hb dX10_readText_30 (by decide) ?_
          refine lv_goto (tgt := 37) hx hb dX10_readText_33 (by decide) ?_
          refine va_iast hx hb hK.1 hP hD hS 1 0 rfl rfl (i_in (X := 3) (by decide) (by decide) (by decide)) dX10_readText_37 (fun H locs hP hD hS => ?_)
          have hP : va_P D vwCl [(m0, .inr (10, fs)), (m18, .inl (cI, 121, .inl (upd fl_ 3 999))), (m3, .inl (cI, 4, .inl g3)), (m4, .inl (cI, 4, .inl g4))] H := hP
          have hD : va_D A [(m0, .inr (10, fs)), (m18, .inl (cI, 121, .inl (upd fl_ 3 999))), (m3, .inl (cI, 4, .inl g3)), (m4, .inl (cI, 4, .inl g4))] := hD
          refine lv_aload_n hx hb dX10_readText_38 rfl (lv_at hl 1 rfl) ?_
          refine lv_iconst (v := 0) hx hb dX10_readText_39 (by decide) ?_
          refine va_put (D := D) (ci := 10) (v := .int 0) (ty := .int) (C := RX10) (T := TX10) (N := 50) hx hb hts (fun _ h => List.mem_cons_of_mem _ (List.mem_append_right _ h)) tyX10 tyX10_ok nmX10 hown hK.1 hP hD hS 0 rfl rfl 9 (by decide) (hts (.fieldLink RX10 100 "ClapBankModel" "reached" "I") (List.mem_of_getElem? (i := 2) rfl)) (fun _ h9 => h9) rfl (by decide +kernel) rfl rfl (Nat.lt_of_lt_of_eq (by decide) (Eq.symm fl)) dX10_readText_40 (fun H locs hP hD hS => ?_)
          have hP : va_P D vwCl [(m0, .inr (10, (fs.set 9 (.int 0)))), (m18, .inl (cI, 121, .inl (upd fl_ 3 999))), (m3, .inl (cI, 4, .inl g3)), (m4, .inl (cI, 4, .inl g4))] H := hP
          have hD : va_D A [(m0, .inr (10, (fs.set 9 (.int 0)))), (m18, .inl (cI, 121, .inl (upd fl_ 3 999))), (m3, .inl (cI, 4, .inl g3)), (m4, .inl (cI, 4, .inl g4))] := hD
          refine lv_aload_n hx hb dX10_readText_43 rfl (lv_at hl 1 rfl) ?_
          refine lv_iconst (v := 0) hx hb dX10_readText_44 (by decide) ?_
          refine va_put (D := D) (ci := 10) (v := .int 0) (ty := .int) (C := RX10) (T := TX10) (N := 50) hx hb hts (fun _ h => List.mem_cons_of_mem _ (List.mem_append_right _ h)) tyX10 tyX10_ok nmX10 hown hK.1 hP hD hS 0 rfl rfl 16 (by decide) (hts (.fieldLink RX10 126 "ClapBankModel" "laterFault" "I") (List.mem_of_getElem? (i := 3) rfl)) (fun _ h9 => h9) rfl (by decide +kernel) rfl rfl (Nat.lt_of_lt_of_eq (by decide) (Eq.symm (fset_len fl))) dX10_readText_45 (fun H locs hP hD hS => ?_)
          have hP : va_P D vwCl [(m0, .inr (10, ((fs.set 9 (.int 0)).set 16 (.int 0)))), (m18, .inl (cI, 121, .inl (upd fl_ 3 999))), (m3, .inl (cI, 4, .inl g3)), (m4, .inl (cI, 4, .inl g4))] H := hP
          have hD : va_D A [(m0, .inr (10, ((fs.set 9 (.int 0)).set 16 (.int 0)))), (m18, .inl (cI, 121, .inl (upd fl_ 3 999))), (m3, .inl (cI, 4, .inl g3)), (m4, .inl (cI, 4, .inl g4))] := hD
          refine lv_aload_n hx hb dX10_readText_48 rfl (lv_at hl 1 rfl) ?_
          refine doV (n := 0) (As := []) (rest := []) (wc := [(m0, .inr (10, ((fs.set 9 (.int 0)).set 16 (.int 0))))]) (wr := [(m18, .inl (cI, 121, .inl (upd fl_ 3 999))), (m3, .inl (cI, 4, .inl g3)), (m4, .inl (cI, 4, .inl g4))]) hx hb hml hown hts hK hP hD hS hA [0] [1, 2, 3] rfl rfl rfl rfl (by decide) 0 rfl rfl (m_token0 l D cI cB cJ cZ cT (m0) (((fs.set 9 (.int 0)).set 16 (.int 0))) (.ref m3) (.ref m4) (k5) (k6) (k7) (k8) (.ref m18) (fset_len (fset_len fl)) (fset_ne (by decide) (fset_eq (Nat.lt_of_lt_of_eq (by decide) (Eq.symm fl)))) (fset_ne (by decide) (fset_ne (by decide) f10)) (fset_eq (Nat.lt_of_lt_of_eq (by decide) (Eq.symm (fset_len fl)))) (fset_ne (by decide) (fset_ne (by decide) f3)) (fset_ne (by decide) (fset_ne (by decide) f4)) (fset_ne (by decide) (fset_ne (by decide) f5)) (fset_ne (by decide) (fset_ne (by decide) f6)) (fset_ne (by decide) (fset_ne (by decide) f7)) (fset_ne (by decide) (fset_ne (by decide) f8)) (fset_ne (by decide) (fset_ne (by decide) f18))) gX10_readText_X10_token rfl rfl rfl (by decide +kernel) ⟨Nat.le_of_ble_eq_true rfl, Nat.le_of_ble_eq_true rfl⟩ hl.1 rfl rfl (Nat.le_of_ble_eq_true rfl) dX10_readText_49 ⟨Nat.le_of_ble_eq_true rfl, Nat.le_of_ble_eq_true rfl⟩ (fun u H locs hw hP hD hS => ?_)
          obtain ⟨fs2_11, rfl⟩ : ∃ z, z = u := ⟨_, rfl⟩
          have hP : va_P D vwCl [(m18, .inl (cI, 121, .inl (upd fl_ 3 999))), (m3, .inl (cI, 4, .inl g3)), (m4, .inl (cI, 4, .inl g4)), (m0, .inr (10, fs2_11))] H := hP
          have hD : va_D A [(m18, .inl (cI, 121, .inl (upd fl_ 3 999))), (m3, .inl (cI, 4, .inl g3)), (m4, .inl (cI, 4, .inl g4)), (m0, .inr (10, fs2_11))] := hD
          refine W.eq (g2 := F0 m 52 ls []) rfl ?_
          have hw : fs2_11.length = 50 ∧ fs2_11[12]? = some (.int 0) ∧ fs2_11[16]? = some (.int 0) ∧ fs2_11[3]? = some ((.ref m3)) ∧ fs2_11[4]? = some ((.ref m4)) ∧ fs2_11[5]? = some (k5) ∧ fs2_11[6]? = some (k6) ∧ fs2_11[7]? = some (k7) ∧ fs2_11[8]? = some (k8) ∧ fs2_11[18]? = some ((.ref m18)) := hw
          obtain ⟨hf12l, hf12_12, hf12_16, hf12_3, hf12_4, hf12_5, hf12_6, hf12_7, hf12_8, hf12_18⟩ := hw
          refine lv_aload_n hx hb dX10_readText_52 rfl (lv_at hl 1 rfl) ?_
          refine lv_iload_n hx hb dX10_readText_53 rfl (lv_at hl 2 rfl) ?_
          refine doV (n := 1) (As := [.int a]) (rest := []) (wc := [(m0, .inr (10, fs2_11))]) (wr := [(m18, .inl (cI, 121, .inl (upd fl_ 3 999))), (m3, .inl (cI, 4, .inl g3)), (m4, .inl (cI, 4, .inl g4))]) hx hb hml hown hts hK hP hD hS hA [3] [0, 1, 2] rfl rfl rfl rfl (by decide) 3 rfl rfl (m_lines0 l D cI cB cJ cZ cT (m0) (fs2_11) hf12l hf12_12 (a)) gX10_readText_X10_lines rfl rfl rfl (by decide +kernel) ⟨Nat.le_of_ble_eq_true rfl, Nat.le_of_ble_eq_true rfl⟩ hl.1 rfl rfl (Nat.le_of_ble_eq_true rfl) dX10_readText_54 ⟨Nat.le_of_ble_eq_true rfl, Nat.le_of_ble_eq_true rfl⟩ (fun u H locs hw hP hD hS => ?_)
          have hP : va_P D vwCl [(m18, .inl (cI, 121, .inl (upd fl_ 3 999))), (m3, .inl (cI, 4, .inl g3)), (m4, .inl (cI, 4, .inl g4)), (m0, .inr (10, fs2_11))] H := hP
          have hD : va_D A [(m18, .inl (cI, 121, .inl (upd fl_ 3 999))), (m3, .inl (cI, 4, .inl g3)), (m4, .inl (cI, 4, .inl g4)), (m0, .inr (10, fs2_11))] := hD
          refine W.eq (g2 := F0 m 57 ls [.int 1]) rfl ?_
          refine lv_istore_n (lv' := [(2, .int 1), (0, .ref m0), (1, .int a)]) hx hb dX10_readText_57 rfl hl (by decide) rfl (fun ls hl => ?_)
          refine lv_aload_n hx hb dX10_readText_58 rfl (lv_at hl 1 rfl) ?_
          refine va_get (D := D) (ci := 10) (v := .ref m3) (C := RX10) (T := TX10) (N := 50) hx hb hts (fun _ h => List.mem_cons_of_mem _ (List.mem_append_right _ h)) hown hK.1 hP 3 rfl rfl 3 (by decide) (hts (.fieldLink RX10 17 "ClapBankModel" "fault" "[I") (List.mem_of_getElem? (i := 4) rfl)) (fun _ h9 => h9) hf12_3 dX10_readText_59 ?_
          refine lv_iconst (v := 0) hx hb dX10_readText_62 (by decide) ?_
          refine lv_iload_n hx hb dX10_readText_63 rfl (lv_at hl 0 rfl) ?_
          refine bi_eq (tgt := 74) (X := 1) hx hb (by decide) dX10_readText_64 (by decide) (fun h => absurd h (by decide)) (fun c13 => ?_)
          refine lv_aload_n hx hb dX10_readText_67 rfl (lv_at hl 1 rfl) ?_
          refine va_get (D := D) (ci := 10) (v := .int 0) (C := RX10) (T := TX10) (N := 50) hx hb hts (fun _ h => List.mem_cons_of_mem _ (List.mem_append_right _ h)) hown hK.1 hP 3 rfl rfl 16 (by decide) (hts (.fieldLink RX10 126 "ClapBankModel" "laterFault" "I") (List.mem_of_getElem? (i := 3) rfl)) (fun _ h9 => h9) hf12_16 dX10_readText_68 ?_
          refine lv_goto (tgt := 75) hx hb dX10_readText_71 (by decide) ?_
          refine va_iast hx hb hK.1 hP hD hS 1 0 rfl rfl (i_in (X := 0) (by decide) (by decide) (by decide)) dX10_readText_75 (fun H locs hP hD hS => ?_)
          have hP : va_P D vwCl [(m18, .inl (cI, 121, .inl (upd fl_ 3 999))), (m3, .inl (cI, 4, .inl (upd g3 0 0))), (m4, .inl (cI, 4, .inl g4)), (m0, .inr (10, fs2_11))] H := hP
          have hD : va_D A [(m18, .inl (cI, 121, .inl (upd fl_ 3 999))), (m3, .inl (cI, 4, .inl (upd g3 0 0))), (m4, .inl (cI, 4, .inl g4)), (m0, .inr (10, fs2_11))] := hD
          refine lv_aload_n hx hb dX10_readText_76 rfl (lv_at hl 1 rfl) ?_
          refine va_get (D := D) (ci := 10) (v := .ref m4) (C := RX10) (T := TX10) (N := 50) hx hb hts (fun _ h => List.mem_cons_of_mem _ (List.mem_append_right _ h)) hown hK.1 hP 3 rfl rfl 4 (by decide) (hts (.fieldLink RX10 20 "ClapBankModel" "faultPlace" "[I") (List.mem_of_getElem? (i := 5) rfl)) (fun _ h9 => h9) hf12_4 dX10_readText_77 ?_
          refine lv_iconst (v := 0) hx hb dX10_readText_80 (by decide) ?_
          refine lv_iload_n hx hb dX10_readText_81 rfl (lv_at hl 0 rfl) ?_
          refine bi_ne (tgt := 92) (X := 1) hx hb (by decide) dX10_readText_82 (by decide) (fun c14 => ?_) (fun h => absurd h (by decide))
          refine lv_aload_n hx hb dX10_readText_92 rfl (lv_at hl 1 rfl) ?_
          refine va_get (D := D) (ci := 10) (v := .int 0) (C := RX10) (T := TX10) (N := 50) hx hb hts (fun _ h => List.mem_cons_of_mem _ (List.mem_append_right _ h)) hown hK.1 hP 3 rfl rfl 16 (by decide) (hts (.fieldLink RX10 126 "ClapBankModel" "laterFault" "I") (List.mem_of_getElem? (i := 3) rfl)) (fun _ h9 => h9) hf12_16 dX10_readText_93 ?_
          refine bi_le (tgt := 106) (X := 0) hx hb (by decide) dX10_readText_96 (by decide) (fun c15 => ?_) (fun h => absurd h (by decide))
          refine lv_iconst (v := (-1)) hx hb dX10_readText_106 (by decide) ?_
          refine va_iast hx hb hK.1 hP hD hS 2 0 rfl rfl (i_in (X := 0) (by decide) (by decide) (by decide)) dX10_readText_107 (fun H locs hP hD hS => ?_)
          have hP : va_P D vwCl [(m18, .inl (cI, 121, .inl (upd fl_ 3 999))), (m3, .inl (cI, 4, .inl (upd g3 0 0))), (m4, .inl (cI, 4, .inl (upd g4 0 (-1)))), (m0, .inr (10, fs2_11))] H := hP
          have hD : va_D A [(m18, .inl (cI, 121, .inl (upd fl_ 3 999))), (m3, .inl (cI, 4, .inl (upd g3 0 0))), (m4, .inl (cI, 4, .inl (upd g4 0 (-1)))), (m0, .inr (10, fs2_11))] := hD
          refine lv_aload_n hx hb dX10_readText_108 rfl (lv_at hl 1 rfl) ?_
          refine va_get (D := D) (ci := 10) (v := .ref m3) (C := RX10) (T := TX10) (N := 50) hx hb hts (fun _ h => List.mem_cons_of_mem _ (List.mem_append_right _ h)) hown hK.1 hP 3 rfl rfl 3 (by decide) (hts (.fieldLink RX10 17 "ClapBankModel" "fault" "[I") (List.mem_of_getElem? (i := 4) rfl)) (fun _ h9 => h9) hf12_3 dX10_readText_109 ?_
          refine lv_iconst (v := 0) hx hb dX10_readText_112 (by decide) ?_
          refine va_iald hx hb hK.1 hP 1 0 rfl rfl (i_in (X := 0) (by decide) (by decide) (by decide)) dX10_readText_113 ?_
          refine vz_i (y := 0) rfl ?_
          refine bi_ne (tgt := 121) (X := 0) hx hb (by decide) dX10_readText_114 (by decide) (fun h => absurd h (by decide)) (fun c16 => ?_)
          refine lv_iconst (v := 1) hx hb dX10_readText_117 (by decide) ?_
          refine lv_goto (tgt := 122) hx hb dX10_readText_118 (by decide) ?_
          refine W.widen (k := 0) (n := 0) (Nat.le_of_ble_eq_true rfl) (Nat.le_of_ble_eq_true rfl) ?_
          exact ro_z hx hb hr rfl hlocks (fs2_11, (upd fl_ 3 999)) rfl (⟨hf12l, hf12_5, hf12_6, hf12_7, hf12_8, hf12_18⟩) (hP.sub [3, 0] rfl) (hD.sub [3, 0] (by decide) rfl) hS dX10_readText_122
      · skip
        refine lv_aload_n hx hb dX10_readText_8 rfl (lv_at hl 1 rfl) ?_
        refine va_get (D := D) (ci := 10) (v := .ref m18) (C := RX10) (T := TX10) (N := 50) hx hb hts (fun _ h => List.mem_cons_of_mem _ (List.mem_append_right _ h)) hown hK.1 hP 0 rfl rfl 18 (by decide) (hts (.fieldLink RX10 35 "ClapBankModel" "told" "[I") (List.mem_of_getElem? (i := 1) rfl)) (fun _ h9 => h9) f18 dX10_readText_9 ?_
        refine lv_iload_n hx hb dX10_readText_12 rfl (lv_at hl 0 rfl) ?_
        refine lv_iconst (v := 0) hx hb dX10_readText_13 (by decide) ?_
        refine va_iast hx hb hK.1 hP hD hS 1 0 rfl rfl (i_in (X := i.toInt) rfl (by omega) (by omega)) dX10_readText_14 (fun H locs hP hD hS => ?_)
        have hP : va_P D vwCl [(m0, .inr (10, fs)), (m18, .inl (cI, 121, .inl (upd fl_ (Int32.toNatClampNeg i) 0))), (m3, .inl (cI, 4, .inl g3)), (m4, .inl (cI, 4, .inl g4))] H := hP
        have hD : va_D A [(m0, .inr (10, fs)), (m18, .inl (cI, 121, .inl (upd fl_ (Int32.toNatClampNeg i) 0))), (m3, .inl (cI, 4, .inl g3)), (m4, .inl (cI, 4, .inl g4))] := hD
        generalize (upd fl_ (Int32.toNatClampNeg i) 0) = g17 at hP hD
        obtain ⟨z18, ez18⟩ : ∃ y : Int32, y = i + 1 := ⟨_, rfl⟩
        have iz18 : z18.toInt = i.toInt + 1 := by rw [ez18]; exact (i_add (X := i.toInt) (Y := 1) rfl (by decide) (by omega) (by omega)).trans (by omega)
        refine lv_iinc (v := z18) (lv' := [(2, .int z18), (0, .ref m0), (1, .int a)]) hx hb dX10_readText_15 hl (k := 0) rfl (by rw [ez18]; rfl) (by decide) rfl (fun ls hl => ?_)
        refine lv_goto (tgt := 2) hx hb dX10_readText_18 (by decide) ?_
        exact ih (z18) (g17) _ _ _ (by omega) (hP.sub [0, 1, 2, 3] rfl) (hD.sub [0, 1, 2, 3] (by decide) rfl) hS (lv_sub hl [0, 1, 2] rfl)
  exact lp2 122 (0) (f) _ _ _ (by decide) (hP.sub [0, 1, 2, 3] rfl) (hD.sub [0, 1, 2, 3] (by decide) rfl) hS (lv_sub hl [0, 1, 2] rfl)
set_option maxHeartbeats 400000 in
set_option maxRecDepth 100000 in
theorem m_store_theatres (l : Launch) (D : va_G) (cI cB cJ cZ cT : ClassId) (m0 : Nat) (fs : List Value) (m18 : Nat) (fl : fs.length = 50) (f18 : fs[18]? = some (.ref m18)) (q : Nat) (f : Nat → Int32) (g : Nat → Int32) : Co l yX10_store wsX10_store ({ frames := 0, cells := 0, slots := 0, locals := 0 }) D (tyL cI cB cJ cZ cT) [.ref m0, .ref q, .int 36, .int 0] [(m0, .inr (10, fs)), (m18, .inl (cI, 121, .inl f)), (q, .inl (cI, 288, .inl g))] (fun u : Unit => none) (fun u : Unit => True) (fun u : Unit => ([] : va_W)) 0 0 := by
  refine entry (cc := cX10_store) (maxL := 5) (ret := none) (by decide) rfl (Nat.le_of_ble_eq_true rfl) ?_
  intro p e s m below meth c A ls hx hb hr hml hts hown hlocks hname hK hP hD hS hA hl
  have hown : s.vm.findClass RX10 = some m.cls := hown
  have hl : lv_has ls 5 [(0, .ref m0), (1, .ref q), (2, .int 36), (3, .int 0)] := hl
  refine lv_iconst (v := 0) hx hb dX10_store_0 (by decide) ?_
  refine lv_istore (lv' := [(4, .int 0), (0, .ref m0), (1, .ref q), (2, .int 36), (3, .int 0)]) hx hb dX10_store_1 hl (by decide) rfl (fun ls hl => ?_)
  have lp2 : ∀ (n : Nat) (i : Int32) (fl_ : Nat → Int32) (H : Heap) (locs : List Loc) (ls : Array Slot), (0 ≤ i.toInt ∧ i.toInt ≤ 36 ∧ 36 - i.toInt < (n : Int)) → va_P D vwCl [(m0, .inr (10, fs)), (m18, .inl (cI, 121, .inl f)), (q, .inl (cI, 288, .inl fl_))] H → va_D A [(m0, .inr (10, fs)), (m18, .inl (cI, 121, .inl f)), (q, .inl (cI, 288, .inl fl_))] → va_S A s.heap H locs → lv_has ls 5 [(4, .int i), (0, .ref m0), (1, .ref q), (2, .int 36), (3, .int 0)] → W p l e ({ frames := 0, cells := 0, slots := 0, locals := 0 }) s m ([.ref m0, .ref q, .int 36, .int 0] : List Value).toArray below meth c H locs 0 0 (MQ below (Qo (fun u : Unit => none) (fun u : Unit => True) (BW D A (fun u : Unit => ([] : va_W))) A) ([.ref m0, .ref q, .int 36, .int 0] : List Value).toArray s 0 0 A) (F0 m 3 ls []) := by
    intro n
    induction n with
    | zero => intro i fl_ H locs ls hi; exact absurd hi (by omega)
    | succ n ih =>
      intro i fl_ H locs ls hi hP hD hS hl
      refine lv_iload hx hb dX10_store_3 (lv_at hl 0 rfl) ?_
      refine lv_iload_n hx hb dX10_store_5 rfl (lv_at hl 3 rfl) ?_
      refine bc_ge (tgt := 30) (X := i.toInt) (Y := 36) hx hb rfl (by decide) dX10_store_6 (by decide) (fun c3 => ?_) (fun c3 => ?_)
      · skip
        refine W.widen (k := 0) (n := 0) (Nat.le_of_ble_eq_true rfl) (Nat.le_of_ble_eq_true rfl) ?_
        exact ro_v hx hb hr hlocks () rfl (trivial) (hP.sub [] rfl) (hD.sub [] (by decide) rfl) hS dX10_store_30
      · skip
        refine lv_aload_n hx hb dX10_store_9 rfl (lv_at hl 2 rfl) ?_
        refine lv_iload_n hx hb dX10_store_10 rfl (lv_at hl 3 rfl) ?_
        refine lv_iload_n hx hb dX10_store_11 rfl (lv_at hl 4 rfl) ?_
        refine lv_imul hx hb dX10_store_12 ?_
        refine vz_i (y := 0) (by decide) ?_
        refine lv_iload hx hb dX10_store_13 (lv_at hl 0 rfl) ?_
        refine lv_iadd hx hb dX10_store_15 ?_
        refine lv_topi (fun z4 ez4 => ?_)
        have iz4 : z4.toInt = i.toInt := by rw [ez4]; exact (i_add (X := 0) (Y := i.toInt) (by decide) rfl (by omega) (by omega)).trans (by omega)
        refine lv_aload_n hx hb dX10_store_16 rfl (lv_at hl 1 rfl) ?_
        refine va_get (D := D) (ci := 10) (v := .ref m18) (C := RX10) (T := TX10) (N := 50) hx hb hts (fun _ h => List.mem_cons_of_mem _ (List.mem_append_right _ h)) hown hK.1 hP 0 rfl rfl 18 (by decide) (hts (.fieldLink RX10 35 "ClapBankModel" "told" "[I") (List.mem_of_getElem? (i := 1) rfl)) (fun _ h9 => h9) f18 dX10_store_17 ?_
        refine lv_iload hx hb dX10_store_20 (lv_at hl 0 rfl) ?_
        refine va_iald hx hb hK.1 hP 1 0 rfl rfl (i_in (X := i.toInt) rfl (by omega) (by omega)) dX10_store_22 ?_
        refine lv_topi (fun z5 ez5 => ?_)
        refine va_iast hx hb hK.1 hP hD hS 2 0 rfl rfl (i_in (X := i.toInt) iz4 (by omega) (by omega)) dX10_store_23 (fun H locs hP hD hS => ?_)
        have hP : va_P D vwCl [(m0, .inr (10, fs)), (m18, .inl (cI, 121, .inl f)), (q, .inl (cI, 288, .inl (upd fl_ (Int32.toNatClampNeg z4) z5)))] H := hP
        have hD : va_D A [(m0, .inr (10, fs)), (m18, .inl (cI, 121, .inl f)), (q, .inl (cI, 288, .inl (upd fl_ (Int32.toNatClampNeg z4) z5)))] := hD
        generalize (upd fl_ (Int32.toNatClampNeg z4) z5) = g6 at hP hD
        obtain ⟨z7, ez7⟩ : ∃ y : Int32, y = i + 1 := ⟨_, rfl⟩
        have iz7 : z7.toInt = i.toInt + 1 := by rw [ez7]; exact (i_add (X := i.toInt) (Y := 1) rfl (by decide) (by omega) (by omega)).trans (by omega)
        refine lv_iinc (v := z7) (lv' := [(4, .int z7), (0, .ref m0), (1, .ref q), (2, .int 36), (3, .int 0)]) hx hb dX10_store_24 hl (k := 0) rfl (by rw [ez7]; rfl) (by decide) rfl (fun ls hl => ?_)
        refine lv_goto (tgt := 3) hx hb dX10_store_27 (by decide) ?_
        exact ih (z7) (g6) _ _ _ (by omega) (hP.sub [0, 1, 2] rfl) (hD.sub [0, 1, 2] (by decide) rfl) hS (lv_sub hl [0, 1, 2, 3, 4] rfl)
  exact lp2 37 (0) (g) _ _ _ (by decide) (hP.sub [0, 1, 2] rfl) (hD.sub [0, 1, 2] (by decide) rfl) hS (lv_sub hl [0, 1, 2, 3, 4] rfl)
set_option maxHeartbeats 400000 in
set_option maxRecDepth 100000 in
theorem m_store_books (l : Launch) (D : va_G) (cI cB cJ cZ cT : ClassId) (m0 : Nat) (fs : List Value) (m18 : Nat) (fl : fs.length = 50) (f18 : fs[18]? = some (.ref m18)) (q : Nat) (f : Nat → Int32) (g : Nat → Int32) : Co l yX10_store wsX10_store ({ frames := 0, cells := 0, slots := 0, locals := 0 }) D (tyL cI cB cJ cZ cT) [.ref m0, .ref q, .int 121, .int 0] [(m0, .inr (10, fs)), (m18, .inl (cI, 121, .inl f)), (q, .inl (cI, 968, .inl g))] (fun u : Unit => none) (fun u : Unit => True) (fun u : Unit => ([] : va_W)) 0 0 := by
  refine entry (cc := cX10_store) (maxL := 5) (ret := none) (by decide) rfl (Nat.le_of_ble_eq_true rfl) ?_
  intro p e s m below meth c A ls hx hb hr hml hts hown hlocks hname hK hP hD hS hA hl
  have hown : s.vm.findClass RX10 = some m.cls := hown
  have hl : lv_has ls 5 [(0, .ref m0), (1, .ref q), (2, .int 121), (3, .int 0)] := hl
  refine lv_iconst (v := 0) hx hb dX10_store_0 (by decide) ?_
  refine lv_istore (lv' := [(4, .int 0), (0, .ref m0), (1, .ref q), (2, .int 121), (3, .int 0)]) hx hb dX10_store_1 hl (by decide) rfl (fun ls hl => ?_)
  have lp2 : ∀ (n : Nat) (i : Int32) (fl_ : Nat → Int32) (H : Heap) (locs : List Loc) (ls : Array Slot), (0 ≤ i.toInt ∧ i.toInt ≤ 121 ∧ 121 - i.toInt < (n : Int)) → va_P D vwCl [(m0, .inr (10, fs)), (m18, .inl (cI, 121, .inl f)), (q, .inl (cI, 968, .inl fl_))] H → va_D A [(m0, .inr (10, fs)), (m18, .inl (cI, 121, .inl f)), (q, .inl (cI, 968, .inl fl_))] → va_S A s.heap H locs → lv_has ls 5 [(4, .int i), (0, .ref m0), (1, .ref q), (2, .int 121), (3, .int 0)] → W p l e ({ frames := 0, cells := 0, slots := 0, locals := 0 }) s m ([.ref m0, .ref q, .int 121, .int 0] : List Value).toArray below meth c H locs 0 0 (MQ below (Qo (fun u : Unit => none) (fun u : Unit => True) (BW D A (fun u : Unit => ([] : va_W))) A) ([.ref m0, .ref q, .int 121, .int 0] : List Value).toArray s 0 0 A) (F0 m 3 ls []) := by
    intro n
    induction n with
    | zero => intro i fl_ H locs ls hi; exact absurd hi (by omega)
    | succ n ih =>
      intro i fl_ H locs ls hi hP hD hS hl
      refine lv_iload hx hb dX10_store_3 (lv_at hl 0 rfl) ?_
      refine lv_iload_n hx hb dX10_store_5 rfl (lv_at hl 3 rfl) ?_
      refine bc_ge (tgt := 30) (X := i.toInt) (Y := 121) hx hb rfl (by decide) dX10_store_6 (by decide) (fun c3 => ?_) (fun c3 => ?_)
      · skip
        refine W.widen (k := 0) (n := 0) (Nat.le_of_ble_eq_true rfl) (Nat.le_of_ble_eq_true rfl) ?_
        exact ro_v hx hb hr hlocks () rfl (trivial) (hP.sub [] rfl) (hD.sub [] (by decide) rfl) hS dX10_store_30
      · skip
        refine lv_aload_n hx hb dX10_store_9 rfl (lv_at hl 2 rfl) ?_
        refine lv_iload_n hx hb dX10_store_10 rfl (lv_at hl 3 rfl) ?_
        refine lv_iload_n hx hb dX10_store_11 rfl (lv_at hl 4 rfl) ?_
        refine lv_imul hx hb dX10_store_12 ?_
        refine vz_i (y := 0) (by decide) ?_
        refine lv_iload hx hb dX10_store_13 (lv_at hl 0 rfl) ?_
        refine lv_iadd hx hb dX10_store_15 ?_
        refine lv_topi (fun z4 ez4 => ?_)
        have iz4 : z4.toInt = i.toInt := by rw [ez4]; exact (i_add (X := 0) (Y := i.toInt) (by decide) rfl (by omega) (by omega)).trans (by omega)
        refine lv_aload_n hx hb dX10_store_16 rfl (lv_at hl 1 rfl) ?_
        refine va_get (D := D) (ci := 10) (v := .ref m18) (C := RX10) (T := TX10) (N := 50) hx hb hts (fun _ h => List.mem_cons_of_mem _ (List.mem_append_right _ h)) hown hK.1 hP 0 rfl rfl 18 (by decide) (hts (.fieldLink RX10 35 "ClapBankModel" "told" "[I") (List.mem_of_getElem? (i := 1) rfl)) (fun _ h9 => h9) f18 dX10_store_17 ?_
        refine lv_iload hx hb dX10_store_20 (lv_at hl 0 rfl) ?_
        refine va_iald hx hb hK.1 hP 1 0 rfl rfl (i_in (X := i.toInt) rfl (by omega) (by omega)) dX10_store_22 ?_
        refine lv_topi (fun z5 ez5 => ?_)
        refine va_iast hx hb hK.1 hP hD hS 2 0 rfl rfl (i_in (X := i.toInt) iz4 (by omega) (by omega)) dX10_store_23 (fun H locs hP hD hS => ?_)
        have hP : va_P D vwCl [(m0, .inr (10, fs)), (m18, .inl (cI, 121, .inl f)), (q, .inl (cI, 968, .inl (upd fl_ (Int32.toNatClampNeg z4) z5)))] H := hP
        have hD : va_D A [(m0, .inr (10, fs)), (m18, .inl (cI, 121, .inl f)), (q, .inl (cI, 968, .inl (upd fl_ (Int32.toNatClampNeg z4) z5)))] := hD
        generalize (upd fl_ (Int32.toNatClampNeg z4) z5) = g6 at hP hD
        obtain ⟨z7, ez7⟩ : ∃ y : Int32, y = i + 1 := ⟨_, rfl⟩
        have iz7 : z7.toInt = i.toInt + 1 := by rw [ez7]; exact (i_add (X := i.toInt) (Y := 1) rfl (by decide) (by omega) (by omega)).trans (by omega)
        refine lv_iinc (v := z7) (lv' := [(4, .int z7), (0, .ref m0), (1, .ref q), (2, .int 121), (3, .int 0)]) hx hb dX10_store_24 hl (k := 0) rfl (by rw [ez7]; rfl) (by decide) rfl (fun ls hl => ?_)
        refine lv_goto (tgt := 3) hx hb dX10_store_27 (by decide) ?_
        exact ih (z7) (g6) _ _ _ (by omega) (hP.sub [0, 1, 2] rfl) (hD.sub [0, 1, 2] (by decide) rfl) hS (lv_sub hl [0, 1, 2, 3, 4] rfl)
  exact lp2 122 (0) (g) _ _ _ (by decide) (hP.sub [0, 1, 2] rfl) (hD.sub [0, 1, 2] (by decide) rfl) hS (lv_sub hl [0, 1, 2, 3, 4] rfl)
set_option maxHeartbeats 400000 in
set_option maxRecDepth 100000 in
theorem m_store_darks (l : Launch) (D : va_G) (cI cB cJ cZ cT : ClassId) (m0 : Nat) (fs : List Value) (m18 : Nat) (fl : fs.length = 50) (f18 : fs[18]? = some (.ref m18)) (q : Nat) (f : Nat → Int32) (g : Nat → Int32) : Co l yX10_store wsX10_store ({ frames := 0, cells := 0, slots := 0, locals := 0 }) D (tyL cI cB cJ cZ cT) [.ref m0, .ref q, .int 7, .int 0] [(m0, .inr (10, fs)), (m18, .inl (cI, 121, .inl f)), (q, .inl (cI, 56, .inl g))] (fun u : Unit => none) (fun u : Unit => True) (fun u : Unit => ([] : va_W)) 0 0 := by
  refine entry (cc := cX10_store) (maxL := 5) (ret := none) (by decide) rfl (Nat.le_of_ble_eq_true rfl) ?_
  intro p e s m below meth c A ls hx hb hr hml hts hown hlocks hname hK hP hD hS hA hl
  have hown : s.vm.findClass RX10 = some m.cls := hown
  have hl : lv_has ls 5 [(0, .ref m0), (1, .ref q), (2, .int 7), (3, .int 0)] := hl
  refine lv_iconst (v := 0) hx hb dX10_store_0 (by decide) ?_
  refine lv_istore (lv' := [(4, .int 0), (0, .ref m0), (1, .ref q), (2, .int 7), (3, .int 0)]) hx hb dX10_store_1 hl (by decide) rfl (fun ls hl => ?_)
  have lp2 : ∀ (n : Nat) (i : Int32) (fl_ : Nat → Int32) (H : Heap) (locs : List Loc) (ls : Array Slot), (0 ≤ i.toInt ∧ i.toInt ≤ 7 ∧ 7 - i.toInt < (n : Int)) → va_P D vwCl [(m0, .inr (10, fs)), (m18, .inl (cI, 121, .inl f)), (q, .inl (cI, 56, .inl fl_))] H → va_D A [(m0, .inr (10, fs)), (m18, .inl (cI, 121, .inl f)), (q, .inl (cI, 56, .inl fl_))] → va_S A s.heap H locs → lv_has ls 5 [(4, .int i), (0, .ref m0), (1, .ref q), (2, .int 7), (3, .int 0)] → W p l e ({ frames := 0, cells := 0, slots := 0, locals := 0 }) s m ([.ref m0, .ref q, .int 7, .int 0] : List Value).toArray below meth c H locs 0 0 (MQ below (Qo (fun u : Unit => none) (fun u : Unit => True) (BW D A (fun u : Unit => ([] : va_W))) A) ([.ref m0, .ref q, .int 7, .int 0] : List Value).toArray s 0 0 A) (F0 m 3 ls []) := by
    intro n
    induction n with
    | zero => intro i fl_ H locs ls hi; exact absurd hi (by omega)
    | succ n ih =>
      intro i fl_ H locs ls hi hP hD hS hl
      refine lv_iload hx hb dX10_store_3 (lv_at hl 0 rfl) ?_
      refine lv_iload_n hx hb dX10_store_5 rfl (lv_at hl 3 rfl) ?_
      refine bc_ge (tgt := 30) (X := i.toInt) (Y := 7) hx hb rfl (by decide) dX10_store_6 (by decide) (fun c3 => ?_) (fun c3 => ?_)
      · skip
        refine W.widen (k := 0) (n := 0) (Nat.le_of_ble_eq_true rfl) (Nat.le_of_ble_eq_true rfl) ?_
        exact ro_v hx hb hr hlocks () rfl (trivial) (hP.sub [] rfl) (hD.sub [] (by decide) rfl) hS dX10_store_30
      · skip
        refine lv_aload_n hx hb dX10_store_9 rfl (lv_at hl 2 rfl) ?_
        refine lv_iload_n hx hb dX10_store_10 rfl (lv_at hl 3 rfl) ?_
        refine lv_iload_n hx hb dX10_store_11 rfl (lv_at hl 4 rfl) ?_
        refine lv_imul hx hb dX10_store_12 ?_
        refine vz_i (y := 0) (by decide) ?_
        refine lv_iload hx hb dX10_store_13 (lv_at hl 0 rfl) ?_
        refine lv_iadd hx hb dX10_store_15 ?_
        refine lv_topi (fun z4 ez4 => ?_)
        have iz4 : z4.toInt = i.toInt := by rw [ez4]; exact (i_add (X := 0) (Y := i.toInt) (by decide) rfl (by omega) (by omega)).trans (by omega)
        refine lv_aload_n hx hb dX10_store_16 rfl (lv_at hl 1 rfl) ?_
        refine va_get (D := D) (ci := 10) (v := .ref m18) (C := RX10) (T := TX10) (N := 50) hx hb hts (fun _ h => List.mem_cons_of_mem _ (List.mem_append_right _ h)) hown hK.1 hP 0 rfl rfl 18 (by decide) (hts (.fieldLink RX10 35 "ClapBankModel" "told" "[I") (List.mem_of_getElem? (i := 1) rfl)) (fun _ h9 => h9) f18 dX10_store_17 ?_
        refine lv_iload hx hb dX10_store_20 (lv_at hl 0 rfl) ?_
        refine va_iald hx hb hK.1 hP 1 0 rfl rfl (i_in (X := i.toInt) rfl (by omega) (by omega)) dX10_store_22 ?_
        refine lv_topi (fun z5 ez5 => ?_)
        refine va_iast hx hb hK.1 hP hD hS 2 0 rfl rfl (i_in (X := i.toInt) iz4 (by omega) (by omega)) dX10_store_23 (fun H locs hP hD hS => ?_)
        have hP : va_P D vwCl [(m0, .inr (10, fs)), (m18, .inl (cI, 121, .inl f)), (q, .inl (cI, 56, .inl (upd fl_ (Int32.toNatClampNeg z4) z5)))] H := hP
        have hD : va_D A [(m0, .inr (10, fs)), (m18, .inl (cI, 121, .inl f)), (q, .inl (cI, 56, .inl (upd fl_ (Int32.toNatClampNeg z4) z5)))] := hD
        generalize (upd fl_ (Int32.toNatClampNeg z4) z5) = g6 at hP hD
        obtain ⟨z7, ez7⟩ : ∃ y : Int32, y = i + 1 := ⟨_, rfl⟩
        have iz7 : z7.toInt = i.toInt + 1 := by rw [ez7]; exact (i_add (X := i.toInt) (Y := 1) rfl (by decide) (by omega) (by omega)).trans (by omega)
        refine lv_iinc (v := z7) (lv' := [(4, .int z7), (0, .ref m0), (1, .ref q), (2, .int 7), (3, .int 0)]) hx hb dX10_store_24 hl (k := 0) rfl (by rw [ez7]; rfl) (by decide) rfl (fun ls hl => ?_)
        refine lv_goto (tgt := 3) hx hb dX10_store_27 (by decide) ?_
        exact ih (z7) (g6) _ _ _ (by omega) (hP.sub [0, 1, 2] rfl) (hD.sub [0, 1, 2] (by decide) rfl) hS (lv_sub hl [0, 1, 2, 3, 4] rfl)
  exact lp2 8 (0) (g) _ _ _ (by decide) (hP.sub [0, 1, 2] rfl) (hD.sub [0, 1, 2] (by decide) rfl) hS (lv_sub hl [0, 1, 2, 3, 4] rfl)
set_option maxHeartbeats 400000 in
set_option maxRecDepth 100000 in
theorem y_text (l : Launch) (D : va_G) (cI cB cJ cZ cT : ClassId) (m0 : Nat) (fs : List Value) (t_size : Nat) (t_fault : Nat) (t_faultPlace : Nat) (t_many : Nat) (t_theatres : Nat) (t_books : Nat) (t_darks : Nat) (t_told : Nat) (fl : fs.length = 50) (f2 : fs[2]? = some (.ref t_size)) (f3 : fs[3]? = some (.ref t_fault)) (f4 : fs[4]? = some (.ref t_faultPlace)) (f5 : fs[5]? = some (.ref t_many)) (f6 : fs[6]? = some (.ref t_theatres)) (f7 : fs[7]? = some (.ref t_books)) (f8 : fs[8]? = some (.ref t_darks)) (f18 : fs[18]? = some (.ref t_told)) (a : Int32) (b : Int32) : Co l yX10_text wsX10_text ({ frames := 3, cells := 0, slots := 0, locals := 64 }) D (tyL cI cB cJ cZ cT) [.ref m0, .int a, .int b] [(m0, .inr (10, fs)), (t_size, .inl (cI, 4, .inl (fun _ => 0))), (t_fault, .inl (cI, 4, .inl (fun _ => 0))), (t_faultPlace, .inl (cI, 4, .inl (upd (fun _ => 0) 0 (-1)))), (t_many, .inl (cI, 12, .inl (fun _ => 0))), (t_theatres, .inl (cI, 288, .inl (fun _ => 0))), (t_books, .inl (cI, 968, .inl (fun _ => 0))), (t_darks, .inl (cI, 56, .inl (fun _ => 0))), (t_told, .inl (cI, 121, .inl (fun _ => 0)))] (fun u : Int32 => some (.int u)) (fun u : Int32 => u = sp_text a b) (fun u : Int32 => ([] : va_W)) 0 0 := by
  refine entry (cc := cX10_text) (maxL := 4) (ret := (some .int)) (by decide) rfl (Nat.le_of_ble_eq_true rfl) ?_
  intro p e s m below meth c A ls hx hb hr hml hts hown hlocks hname hK hP hD hS hA hl
  have hown : s.vm.findClass RX10 = some m.cls := hown
  have hl : lv_has ls 4 [(0, .ref m0), (1, .int a), (2, .int b)] := hl
  refine lv_aload_n hx hb dX10_text_0 rfl (lv_at hl 0 rfl) ?_
  refine lv_iconst (v := 0) hx hb dX10_text_1 (by decide) ?_
  refine va_put (D := D) (ci := 10) (v := .int 0) (ty := .int) (C := RX10) (T := TX10) (N := 50) hx hb hts (fun _ h => List.mem_cons_of_mem _ (List.mem_append_right _ h)) tyX10 tyX10_ok nmX10 hown hK.1 hP hD hS 0 rfl rfl 0 (by decide) (hts (.fieldLink RX10 80 "ClapBankModel" "code" "I") (List.mem_of_getElem? (i := 1) rfl)) (fun _ h9 => h9) rfl (by decide +kernel) rfl rfl (Nat.lt_of_lt_of_eq (by decide) (Eq.symm fl)) dX10_text_2 (fun H locs hP hD hS => ?_)
  have hP : va_P D vwCl [(m0, .inr (10, (fs.set 0 (.int 0)))), (t_size, .inl (cI, 4, .inl (fun _ => 0))), (t_fault, .inl (cI, 4, .inl (fun _ => 0))), (t_faultPlace, .inl (cI, 4, .inl (upd (fun _ => 0) 0 (-1)))), (t_many, .inl (cI, 12, .inl (fun _ => 0))), (t_theatres, .inl (cI, 288, .inl (fun _ => 0))), (t_books, .inl (cI, 968, .inl (fun _ => 0))), (t_darks, .inl (cI, 56, .inl (fun _ => 0))), (t_told, .inl (cI, 121, .inl (fun _ => 0)))] H := hP
  have hD : va_D A [(m0, .inr (10, (fs.set 0 (.int 0)))), (t_size, .inl (cI, 4, .inl (fun _ => 0))), (t_fault, .inl (cI, 4, .inl (fun _ => 0))), (t_faultPlace, .inl (cI, 4, .inl (upd (fun _ => 0) 0 (-1)))), (t_many, .inl (cI, 12, .inl (fun _ => 0))), (t_theatres, .inl (cI, 288, .inl (fun _ => 0))), (t_books, .inl (cI, 968, .inl (fun _ => 0))), (t_darks, .inl (cI, 56, .inl (fun _ => 0))), (t_told, .inl (cI, 121, .inl (fun _ => 0)))] := hD
  refine lv_aload_n hx hb dX10_text_5 rfl (lv_at hl 0 rfl) ?_
  refine lv_aload_n hx hb dX10_text_6 rfl (lv_at hl 0 rfl) ?_
  refine va_get (D := D) (ci := 10) (v := .ref t_size) (C := RX10) (T := TX10) (N := 50) hx hb hts (fun _ h => List.mem_cons_of_mem _ (List.mem_append_right _ h)) hown hK.1 hP 0 rfl rfl 2 (by decide) (hts (.fieldLink RX10 13 "ClapBankModel" "size" "[I") (List.mem_of_getElem? (i := 2) rfl)) (fun _ h9 => h9) (fset_ne (by decide) f2) dX10_text_7 ?_
  refine lv_iconst (v := 0) hx hb dX10_text_10 (by decide) ?_
  refine va_iald hx hb hK.1 hP 1 0 rfl rfl (i_in (X := 0) (by decide) (by decide) (by decide)) dX10_text_11 ?_
  refine vz_i (y := 0) rfl ?_
  refine va_put (D := D) (ci := 10) (v := .int 0) (ty := .int) (C := RX10) (T := TX10) (N := 50) hx hb hts (fun _ h => List.mem_cons_of_mem _ (List.mem_append_right _ h)) tyX10 tyX10_ok nmX10 hown hK.1 hP hD hS 0 rfl rfl 10 (by decide) (hts (.fieldLink RX10 103 "ClapBankModel" "length" "I") (List.mem_of_getElem? (i := 3) rfl)) (fun _ h9 => h9) rfl (by decide +kernel) rfl rfl (Nat.lt_of_lt_of_eq (by decide) (Eq.symm (fset_len fl))) dX10_text_12 (fun H locs hP hD hS => ?_)
  have hP : va_P D vwCl [(m0, .inr (10, ((fs.set 0 (.int 0)).set 10 (.int 0)))), (t_size, .inl (cI, 4, .inl (fun _ => 0))), (t_fault, .inl (cI, 4, .inl (fun _ => 0))), (t_faultPlace, .inl (cI, 4, .inl (upd (fun _ => 0) 0 (-1)))), (t_many, .inl (cI, 12, .inl (fun _ => 0))), (t_theatres, .inl (cI, 288, .inl (fun _ => 0))), (t_books, .inl (cI, 968, .inl (fun _ => 0))), (t_darks, .inl (cI, 56, .inl (fun _ => 0))), (t_told, .inl (cI, 121, .inl (fun _ => 0)))] H := hP
  have hD : va_D A [(m0, .inr (10, ((fs.set 0 (.int 0)).set 10 (.int 0)))), (t_size, .inl (cI, 4, .inl (fun _ => 0))), (t_fault, .inl (cI, 4, .inl (fun _ => 0))), (t_faultPlace, .inl (cI, 4, .inl (upd (fun _ => 0) 0 (-1)))), (t_many, .inl (cI, 12, .inl (fun _ => 0))), (t_theatres, .inl (cI, 288, .inl (fun _ => 0))), (t_books, .inl (cI, 968, .inl (fun _ => 0))), (t_darks, .inl (cI, 56, .inl (fun _ => 0))), (t_told, .inl (cI, 121, .inl (fun _ => 0)))] := hD
  refine lv_aload_n hx hb dX10_text_15 rfl (lv_at hl 0 rfl) ?_
  refine va_get (D := D) (ci := 10) (v := .ref t_size) (C := RX10) (T := TX10) (N := 50) hx hb hts (fun _ h => List.mem_cons_of_mem _ (List.mem_append_right _ h)) hown hK.1 hP 0 rfl rfl 2 (by decide) (hts (.fieldLink RX10 13 "ClapBankModel" "size" "[I") (List.mem_of_getElem? (i := 2) rfl)) (fun _ h9 => h9) (fset_ne (by decide) (fset_ne (by decide) f2)) dX10_text_16 ?_
  refine lv_iconst (v := 0) hx hb dX10_text_19 (by decide) ?_
  refine lv_iconst (v := 0) hx hb dX10_text_20 (by decide) ?_
  refine va_iast hx hb hK.1 hP hD hS 1 0 rfl rfl (i_in (X := 0) (by decide) (by decide) (by decide)) dX10_text_21 (fun H locs hP hD hS => ?_)
  have hP : va_P D vwCl [(m0, .inr (10, ((fs.set 0 (.int 0)).set 10 (.int 0)))), (t_size, .inl (cI, 4, .inl (upd (fun _ => 0) 0 0))), (t_fault, .inl (cI, 4, .inl (fun _ => 0))), (t_faultPlace, .inl (cI, 4, .inl (upd (fun _ => 0) 0 (-1)))), (t_many, .inl (cI, 12, .inl (fun _ => 0))), (t_theatres, .inl (cI, 288, .inl (fun _ => 0))), (t_books, .inl (cI, 968, .inl (fun _ => 0))), (t_darks, .inl (cI, 56, .inl (fun _ => 0))), (t_told, .inl (cI, 121, .inl (fun _ => 0)))] H := hP
  have hD : va_D A [(m0, .inr (10, ((fs.set 0 (.int 0)).set 10 (.int 0)))), (t_size, .inl (cI, 4, .inl (upd (fun _ => 0) 0 0))), (t_fault, .inl (cI, 4, .inl (fun _ => 0))), (t_faultPlace, .inl (cI, 4, .inl (upd (fun _ => 0) 0 (-1)))), (t_many, .inl (cI, 12, .inl (fun _ => 0))), (t_theatres, .inl (cI, 288, .inl (fun _ => 0))), (t_books, .inl (cI, 968, .inl (fun _ => 0))), (t_darks, .inl (cI, 56, .inl (fun _ => 0))), (t_told, .inl (cI, 121, .inl (fun _ => 0)))] := hD
  refine lv_aload_n hx hb dX10_text_22 rfl (lv_at hl 0 rfl) ?_
  refine va_get (D := D) (ci := 10) (v := .ref t_fault) (C := RX10) (T := TX10) (N := 50) hx hb hts (fun _ h => List.mem_cons_of_mem _ (List.mem_append_right _ h)) hown hK.1 hP 0 rfl rfl 3 (by decide) (hts (.fieldLink RX10 17 "ClapBankModel" "fault" "[I") (List.mem_of_getElem? (i := 4) rfl)) (fun _ h9 => h9) (fset_ne (by decide) (fset_ne (by decide) f3)) dX10_text_23 ?_
  refine lv_iconst (v := 0) hx hb dX10_text_26 (by decide) ?_
  refine lv_iconst (v := 0) hx hb dX10_text_27 (by decide) ?_
  refine va_iast hx hb hK.1 hP hD hS 2 0 rfl rfl (i_in (X := 0) (by decide) (by decide) (by decide)) dX10_text_28 (fun H locs hP hD hS => ?_)
  have hP : va_P D vwCl [(m0, .inr (10, ((fs.set 0 (.int 0)).set 10 (.int 0)))), (t_size, .inl (cI, 4, .inl (upd (fun _ => 0) 0 0))), (t_fault, .inl (cI, 4, .inl (upd (fun _ => 0) 0 0))), (t_faultPlace, .inl (cI, 4, .inl (upd (fun _ => 0) 0 (-1)))), (t_many, .inl (cI, 12, .inl (fun _ => 0))), (t_theatres, .inl (cI, 288, .inl (fun _ => 0))), (t_books, .inl (cI, 968, .inl (fun _ => 0))), (t_darks, .inl (cI, 56, .inl (fun _ => 0))), (t_told, .inl (cI, 121, .inl (fun _ => 0)))] H := hP
  have hD : va_D A [(m0, .inr (10, ((fs.set 0 (.int 0)).set 10 (.int 0)))), (t_size, .inl (cI, 4, .inl (upd (fun _ => 0) 0 0))), (t_fault, .inl (cI, 4, .inl (upd (fun _ => 0) 0 0))), (t_faultPlace, .inl (cI, 4, .inl (upd (fun _ => 0) 0 (-1)))), (t_many, .inl (cI, 12, .inl (fun _ => 0))), (t_theatres, .inl (cI, 288, .inl (fun _ => 0))), (t_books, .inl (cI, 968, .inl (fun _ => 0))), (t_darks, .inl (cI, 56, .inl (fun _ => 0))), (t_told, .inl (cI, 121, .inl (fun _ => 0)))] := hD
  refine lv_aload_n hx hb dX10_text_29 rfl (lv_at hl 0 rfl) ?_
  refine va_get (D := D) (ci := 10) (v := .ref t_faultPlace) (C := RX10) (T := TX10) (N := 50) hx hb hts (fun _ h => List.mem_cons_of_mem _ (List.mem_append_right _ h)) hown hK.1 hP 0 rfl rfl 4 (by decide) (hts (.fieldLink RX10 20 "ClapBankModel" "faultPlace" "[I") (List.mem_of_getElem? (i := 5) rfl)) (fun _ h9 => h9) (fset_ne (by decide) (fset_ne (by decide) f4)) dX10_text_30 ?_
  refine lv_iconst (v := 0) hx hb dX10_text_33 (by decide) ?_
  refine lv_iconst (v := (-1)) hx hb dX10_text_34 (by decide) ?_
  refine va_iast hx hb hK.1 hP hD hS 3 0 rfl rfl (i_in (X := 0) (by decide) (by decide) (by decide)) dX10_text_35 (fun H locs hP hD hS => ?_)
  have hP : va_P D vwCl [(m0, .inr (10, ((fs.set 0 (.int 0)).set 10 (.int 0)))), (t_size, .inl (cI, 4, .inl (upd (fun _ => 0) 0 0))), (t_fault, .inl (cI, 4, .inl (upd (fun _ => 0) 0 0))), (t_faultPlace, .inl (cI, 4, .inl (upd (upd (fun _ => 0) 0 (-1)) 0 (-1)))), (t_many, .inl (cI, 12, .inl (fun _ => 0))), (t_theatres, .inl (cI, 288, .inl (fun _ => 0))), (t_books, .inl (cI, 968, .inl (fun _ => 0))), (t_darks, .inl (cI, 56, .inl (fun _ => 0))), (t_told, .inl (cI, 121, .inl (fun _ => 0)))] H := hP
  have hD : va_D A [(m0, .inr (10, ((fs.set 0 (.int 0)).set 10 (.int 0)))), (t_size, .inl (cI, 4, .inl (upd (fun _ => 0) 0 0))), (t_fault, .inl (cI, 4, .inl (upd (fun _ => 0) 0 0))), (t_faultPlace, .inl (cI, 4, .inl (upd (upd (fun _ => 0) 0 (-1)) 0 (-1)))), (t_many, .inl (cI, 12, .inl (fun _ => 0))), (t_theatres, .inl (cI, 288, .inl (fun _ => 0))), (t_books, .inl (cI, 968, .inl (fun _ => 0))), (t_darks, .inl (cI, 56, .inl (fun _ => 0))), (t_told, .inl (cI, 121, .inl (fun _ => 0)))] := hD
  refine lv_iload_n hx hb dX10_text_36 rfl (lv_at hl 1 rfl) ?_
  refine lv_iconst (v := 0) hx hb dX10_text_37 (by decide) ?_
  refine lv_iconst (v := 2) hx hb dX10_text_38 (by decide) ?_
  refine doS (n := 3) (As := [.int a, .int 0, .int 2]) (rest := []) (wc := ([] : va_W)) (wr := [(m0, .inr (10, ((fs.set 0 (.int 0)).set 10 (.int 0)))), (t_size, .inl (cI, 4, .inl (upd (fun _ => 0) 0 0))), (t_fault, .inl (cI, 4, .inl (upd (fun _ => 0) 0 0))), (t_faultPlace, .inl (cI, 4, .inl (upd (upd (fun _ => 0) 0 (-1)) 0 (-1)))), (t_many, .inl (cI, 12, .inl (fun _ => 0))), (t_theatres, .inl (cI, 288, .inl (fun _ => 0))), (t_books, .inl (cI, 968, .inl (fun _ => 0))), (t_darks, .inl (cI, 56, .inl (fun _ => 0))), (t_told, .inl (cI, 121, .inl (fun _ => 0)))]) hx hb hml hown hts hK hP hD hS hA [] [0, 1, 2, 3, 4, 5, 6, 7, 8] rfl rfl rfl rfl (by decide) (m_in l D cI cB cJ cZ cT (a) (a.toInt) rfl (0) (0) (by decide) (2) (2) (by decide)) gX10_text_X10_in rfl rfl rfl (by decide +kernel) ⟨Nat.le_of_ble_eq_true rfl, Nat.le_of_ble_eq_true rfl⟩ hl.1 rfl rfl (Nat.le_of_ble_eq_true rfl) dX10_text_39 ⟨Nat.le_of_ble_eq_true rfl, Nat.le_of_ble_eq_true rfl⟩ (fun u H locs hw hP hD hS => ?_)
  obtain ⟨r_1, rfl⟩ : ∃ z, z = u := ⟨_, rfl⟩
  have hP : va_P D vwCl [(m0, .inr (10, ((fs.set 0 (.int 0)).set 10 (.int 0)))), (t_size, .inl (cI, 4, .inl (upd (fun _ => 0) 0 0))), (t_fault, .inl (cI, 4, .inl (upd (fun _ => 0) 0 0))), (t_faultPlace, .inl (cI, 4, .inl (upd (upd (fun _ => 0) 0 (-1)) 0 (-1)))), (t_many, .inl (cI, 12, .inl (fun _ => 0))), (t_theatres, .inl (cI, 288, .inl (fun _ => 0))), (t_books, .inl (cI, 968, .inl (fun _ => 0))), (t_darks, .inl (cI, 56, .inl (fun _ => 0))), (t_told, .inl (cI, 121, .inl (fun _ => 0)))] H := hP
  have hD : va_D A [(m0, .inr (10, ((fs.set 0 (.int 0)).set 10 (.int 0)))), (t_size, .inl (cI, 4, .inl (upd (fun _ => 0) 0 0))), (t_fault, .inl (cI, 4, .inl (upd (fun _ => 0) 0 0))), (t_faultPlace, .inl (cI, 4, .inl (upd (upd (fun _ => 0) 0 (-1)) 0 (-1)))), (t_many, .inl (cI, 12, .inl (fun _ => 0))), (t_theatres, .inl (cI, 288, .inl (fun _ => 0))), (t_books, .inl (cI, 968, .inl (fun _ => 0))), (t_darks, .inl (cI, 56, .inl (fun _ => 0))), (t_told, .inl (cI, 121, .inl (fun _ => 0)))] := hD
  refine W.eq (g2 := F0 m 42 ls [.int r_1]) rfl ?_
  have hw : (r_1 = 1 ∧ ((0) ≤ (a.toInt) ∧ (a.toInt) ≤ (2))) ∨ (r_1 = 0 ∧ ((a.toInt) < (0) ∨ (2) < (a.toInt))) := hw
  rcases hw with ⟨rfl, k2⟩ | ⟨rfl, k2⟩
  · skip
    refine bi_eq (tgt := 72) (X := 1) hx hb (by decide) dX10_text_42 (by decide) (fun h => absurd h (by decide)) (fun c3 => ?_)
    refine lv_iload_n hx hb dX10_text_45 rfl (lv_at hl 2 rfl) ?_
    refine lv_iconst (v := (-1)) hx hb dX10_text_46 (by decide) ?_
    refine bc_ne (tgt := 63) (X := b.toInt) (Y := -1) hx hb rfl (by decide) dX10_text_47 (by decide) (fun c4 => ?_) (fun c4 => ?_)
    · skip
      refine lv_aload_n hx hb dX10_text_63 rfl (lv_at hl 0 rfl) ?_
      refine lv_iload_n hx hb dX10_text_64 rfl (lv_at hl 1 rfl) ?_
      refine lv_iload_n hx hb dX10_text_65 rfl (lv_at hl 2 rfl) ?_
      refine doV (n := 2) (As := [.int a, .int b]) (rest := []) (wc := [(m0, .inr (10, ((fs.set 0 (.int 0)).set 10 (.int 0)))), (t_many, .inl (cI, 12, .inl (fun _ => 0)))]) (wr := [(t_size, .inl (cI, 4, .inl (upd (fun _ => 0) 0 0))), (t_fault, .inl (cI, 4, .inl (upd (fun _ => 0) 0 0))), (t_faultPlace, .inl (cI, 4, .inl (upd (upd (fun _ => 0) 0 (-1)) 0 (-1)))), (t_theatres, .inl (cI, 288, .inl (fun _ => 0))), (t_books, .inl (cI, 968, .inl (fun _ => 0))), (t_darks, .inl (cI, 56, .inl (fun _ => 0))), (t_told, .inl (cI, 121, .inl (fun _ => 0)))]) hx hb hml hown hts hK hP hD hS hA [0, 4] [1, 2, 3, 5, 6, 7, 8] rfl rfl rfl rfl (by decide) 0 rfl rfl (m_is l D cI cB cJ cZ cT (m0) (((fs.set 0 (.int 0)).set 10 (.int 0))) (t_many) (fset_len (fset_len fl)) (fset_ne (by decide) (fset_ne (by decide) f5)) (a) (a.toInt) rfl (by omega) (by omega) (b)) gX10_text_X10_is rfl rfl rfl (by decide +kernel) ⟨Nat.le_of_ble_eq_true rfl, Nat.le_of_ble_eq_true rfl⟩ hl.1 rfl rfl (Nat.le_of_ble_eq_true rfl) dX10_text_66 ⟨Nat.le_of_ble_eq_true rfl, Nat.le_of_ble_eq_true rfl⟩ (fun u H locs hw hP hD hS => ?_)
      have hP : va_P D vwCl [(t_size, .inl (cI, 4, .inl (upd (fun _ => 0) 0 0))), (t_fault, .inl (cI, 4, .inl (upd (fun _ => 0) 0 0))), (t_faultPlace, .inl (cI, 4, .inl (upd (upd (fun _ => 0) 0 (-1)) 0 (-1)))), (t_theatres, .inl (cI, 288, .inl (fun _ => 0))), (t_books, .inl (cI, 968, .inl (fun _ => 0))), (t_darks, .inl (cI, 56, .inl (fun _ => 0))), (t_told, .inl (cI, 121, .inl (fun _ => 0))), (m0, .inr (10, ((fs.set 0 (.int 0)).set 10 (.int 0)))), (t_many, .inl (cI, 12, .inl (fun _ => 0)))] H := hP
      have hD : va_D A [(t_size, .inl (cI, 4, .inl (upd (fun _ => 0) 0 0))), (t_fault, .inl (cI, 4, .inl (upd (fun _ => 0) 0 0))), (t_faultPlace, .inl (cI, 4, .inl (upd (upd (fun _ => 0) 0 (-1)) 0 (-1)))), (t_theatres, .inl (cI, 288, .inl (fun _ => 0))), (t_books, .inl (cI, 968, .inl (fun _ => 0))), (t_darks, .inl (cI, 56, .inl (fun _ => 0))), (t_told, .inl (cI, 121, .inl (fun _ => 0))), (m0, .inr (10, ((fs.set 0 (.int 0)).set 10 (.int 0)))), (t_many, .inl (cI, 12, .inl (fun _ => 0)))] := hD
      refine W.eq (g2 := F0 m 69 ls [.int 0]) rfl ?_
      refine bi_ne (tgt := 75) (X := 0) hx hb (by decide) dX10_text_69 (by decide) (fun h => absurd h (by decide)) (fun c5 => ?_)
      refine lv_bipush (v := (-2)) hx hb dX10_text_72 (by decide) ?_
      refine W.widen (k := 0) (n := 0) (Nat.le_of_ble_eq_true rfl) (Nat.le_of_ble_eq_true rfl) ?_
      exact ro_i hx hb hr hlocks ((-2)) rfl ((if_neg (by omega)).symm) (hP.sub [] rfl) (hD.sub [] (by decide) rfl) hS dX10_text_74
    · skip
      refine lv_aload_n hx hb dX10_text_50 rfl (lv_at hl 0 rfl) ?_
      refine va_get (D := D) (ci := 10) (v := .ref t_many) (C := RX10) (T := TX10) (N := 50) hx hb hts (fun _ h => List.mem_cons_of_mem _ (List.mem_append_right _ h)) hown hK.1 hP 0 rfl rfl 5 (by decide) (hts (.fieldLink RX10 23 "ClapBankModel" "many" "[I") (List.mem_of_getElem? (i := 6) rfl)) (fun _ h9 => h9) (fset_ne (by decide) (fset_ne (by decide) f5)) dX10_text_51 ?_
      refine lv_iload_n hx hb dX10_text_54 rfl (lv_at hl 1 rfl) ?_
      refine va_iald hx hb hK.1 hP 4 0 rfl rfl (i_in (X := a.toInt) rfl (by omega) (by omega)) dX10_text_55 ?_
      refine vz_i (y := 0) rfl ?_
      refine lv_iconst (v := 2) hx hb dX10_text_56 (by decide) ?_
      refine bc_ne (tgt := 75) (X := 0) (Y := 2) hx hb (by decide) (by decide) dX10_text_57 (by decide) (fun c6 => ?_) (fun h => absurd h (by decide))
      refine lv_aload_n hx hb dX10_text_75 rfl (lv_at hl 0 rfl) ?_
      refine lv_iload_n hx hb dX10_text_76 rfl (lv_at hl 1 rfl) ?_
      refine doV (n := 1) (As := [.int a]) (rest := []) (wc := [(m0, .inr (10, ((fs.set 0 (.int 0)).set 10 (.int 0)))), (t_told, .inl (cI, 121, .inl (fun _ => 0))), (t_fault, .inl (cI, 4, .inl (upd (fun _ => 0) 0 0))), (t_faultPlace, .inl (cI, 4, .inl (upd (upd (fun _ => 0) 0 (-1)) 0 (-1))))]) (wr := [(t_size, .inl (cI, 4, .inl (upd (fun _ => 0) 0 0))), (t_many, .inl (cI, 12, .inl (fun _ => 0))), (t_theatres, .inl (cI, 288, .inl (fun _ => 0))), (t_books, .inl (cI, 968, .inl (fun _ => 0))), (t_darks, .inl (cI, 56, .inl (fun _ => 0)))]) hx hb hml hown hts hK hP hD hS hA [0, 8, 2, 3] [1, 4, 5, 6, 7] rfl rfl rfl rfl (by decide) 0 rfl rfl (m_readText0 l D cI cB cJ cZ cT (m0) (((fs.set 0 (.int 0)).set 10 (.int 0))) (t_fault) (t_faultPlace) (.ref t_many) (.ref t_theatres) (.ref t_books) (.ref t_darks) (t_told) (fset_len (fset_len fl)) (fset_ne (by decide) (fset_ne (by decide) f3)) (fset_ne (by decide) (fset_ne (by decide) f4)) (fset_ne (by decide) (fset_ne (by decide) f5)) (fset_ne (by decide) (fset_ne (by decide) f6)) (fset_ne (by decide) (fset_ne (by decide) f7)) (fset_ne (by decide) (fset_ne (by decide) f8)) (fset_ne (by decide) (fset_ne (by decide) f18)) (fset_eq (Nat.lt_of_lt_of_eq (by decide) (Eq.symm (fset_len fl)))) ((fun _ => 0)) ((upd (fun _ => 0) 0 0)) ((upd (upd (fun _ => 0) 0 (-1)) 0 (-1))) (a)) gX10_text_X10_readText rfl rfl rfl (by decide +kernel) ⟨Nat.le_of_ble_eq_true rfl, Nat.le_of_ble_eq_true rfl⟩ hl.1 rfl rfl (Nat.le_of_ble_eq_true rfl) dX10_text_77 ⟨Nat.le_of_ble_eq_true rfl, Nat.le_of_ble_eq_true rfl⟩ (fun u H locs hw hP hD hS => ?_)
      obtain ⟨fs2_7, f2_8⟩ := u
      have hP : va_P D vwCl [(t_size, .inl (cI, 4, .inl (upd (fun _ => 0) 0 0))), (t_many, .inl (cI, 12, .inl (fun _ => 0))), (t_theatres, .inl (cI, 288, .inl (fun _ => 0))), (t_books, .inl (cI, 968, .inl (fun _ => 0))), (t_darks, .inl (cI, 56, .inl (fun _ => 0))), (m0, .inr (10, fs2_7)), (t_told, .inl (cI, 121, .inl f2_8))] H := hP
      have hD : va_D A [(t_size, .inl (cI, 4, .inl (upd (fun _ => 0) 0 0))), (t_many, .inl (cI, 12, .inl (fun _ => 0))), (t_theatres, .inl (cI, 288, .inl (fun _ => 0))), (t_books, .inl (cI, 968, .inl (fun _ => 0))), (t_darks, .inl (cI, 56, .inl (fun _ => 0))), (m0, .inr (10, fs2_7)), (t_told, .inl (cI, 121, .inl f2_8))] := hD
      refine W.eq (g2 := F0 m 80 ls [.int 1]) rfl ?_
      have hw : fs2_7.length = 50 ∧ fs2_7[5]? = some ((.ref t_many)) ∧ fs2_7[6]? = some ((.ref t_theatres)) ∧ fs2_7[7]? = some ((.ref t_books)) ∧ fs2_7[8]? = some ((.ref t_darks)) ∧ fs2_7[18]? = some (.ref t_told) := hw
      obtain ⟨hf9l, hf9_5, hf9_6, hf9_7, hf9_8, hf9_18⟩ := hw
      refine bi_ne (tgt := 85) (X := 1) hx hb (by decide) dX10_text_80 (by decide) (fun c10 => ?_) (fun h => absurd h (by decide))
      refine lv_iload_n hx hb dX10_text_85 rfl (lv_at hl 2 rfl) ?_
      refine lv_iconst (v := (-1)) hx hb dX10_text_86 (by decide) ?_
      refine bc_ne (tgt := 99) (X := b.toInt) (Y := -1) hx hb rfl (by decide) dX10_text_87 (by decide) (fun h => absurd h (by omega)) (fun c11 => ?_)
      refine lv_aload_n hx hb dX10_text_90 rfl (lv_at hl 0 rfl) ?_
      refine va_get (D := D) (ci := 10) (v := .ref t_many) (C := RX10) (T := TX10) (N := 50) hx hb hts (fun _ h => List.mem_cons_of_mem _ (List.mem_append_right _ h)) hown hK.1 hP 5 rfl rfl 5 (by decide) (hts (.fieldLink RX10 23 "ClapBankModel" "many" "[I") (List.mem_of_getElem? (i := 6) rfl)) (fun _ h9 => h9) hf9_5 dX10_text_91 ?_
      refine lv_iload_n hx hb dX10_text_94 rfl (lv_at hl 1 rfl) ?_
      refine va_iald hx hb hK.1 hP 1 0 rfl rfl (i_in (X := a.toInt) rfl (by omega) (by omega)) dX10_text_95 ?_
      refine vz_i (y := 0) rfl ?_
      refine lv_goto (tgt := 100) hx hb dX10_text_96 (by decide) ?_
      refine lv_istore_n (lv' := [(3, .int 0), (0, .ref m0), (1, .int a), (2, .int b)]) hx hb dX10_text_100 rfl hl (by decide) rfl (fun ls hl => ?_)
      refine lv_aload_n hx hb dX10_text_101 rfl (lv_at hl 1 rfl) ?_
      refine va_get (D := D) (ci := 10) (v := .ref t_many) (C := RX10) (T := TX10) (N := 50) hx hb hts (fun _ h => List.mem_cons_of_mem _ (List.mem_append_right _ h)) hown hK.1 hP 5 rfl rfl 5 (by decide) (hts (.fieldLink RX10 23 "ClapBankModel" "many" "[I") (List.mem_of_getElem? (i := 6) rfl)) (fun _ h9 => h9) hf9_5 dX10_text_102 ?_
      refine lv_iload_n hx hb dX10_text_105 rfl (lv_at hl 2 rfl) ?_
      refine lv_dup2_11 hx hb dX10_text_106 rfl rfl ?_
      refine va_iald hx hb hK.1 hP 1 0 rfl rfl (i_in (X := a.toInt) rfl (by omega) (by omega)) dX10_text_107 ?_
      refine vz_i (y := 0) rfl ?_
      refine lv_iload_n hx hb dX10_text_108 rfl (lv_at hl 3 rfl) ?_
      refine lv_iconst (v := (-1)) hx hb dX10_text_109 (by decide) ?_
      refine bc_ne (tgt := 117) (X := b.toInt) (Y := -1) hx hb rfl (by decide) dX10_text_110 (by decide) (fun h => absurd h (by omega)) (fun c12 => ?_)
      refine lv_iconst (v := 1) hx hb dX10_text_113 (by decide) ?_
      refine lv_goto (tgt := 118) hx hb dX10_text_114 (by decide) ?_
      refine lv_iadd hx hb dX10_text_118 ?_
      refine vz_i (y := 1) (by decide) ?_
      refine va_iast hx hb hK.1 hP hD hS 1 0 rfl rfl (i_in (X := a.toInt) rfl (by omega) (by omega)) dX10_text_119 (fun H locs hP hD hS => ?_)
      have hP : va_P D vwCl [(t_size, .inl (cI, 4, .inl (upd (fun _ => 0) 0 0))), (t_many, .inl (cI, 12, .inl (upd (fun _ => 0) (Int32.toNatClampNeg a) 1))), (t_theatres, .inl (cI, 288, .inl (fun _ => 0))), (t_books, .inl (cI, 968, .inl (fun _ => 0))), (t_darks, .inl (cI, 56, .inl (fun _ => 0))), (m0, .inr (10, fs2_7)), (t_told, .inl (cI, 121, .inl f2_8))] H := hP
      have hD : va_D A [(t_size, .inl (cI, 4, .inl (upd (fun _ => 0) 0 0))), (t_many, .inl (cI, 12, .inl (upd (fun _ => 0) (Int32.toNatClampNeg a) 1))), (t_theatres, .inl (cI, 288, .inl (fun _ => 0))), (t_books, .inl (cI, 968, .inl (fun _ => 0))), (t_darks, .inl (cI, 56, .inl (fun _ => 0))), (m0, .inr (10, fs2_7)), (t_told, .inl (cI, 121, .inl f2_8))] := hD
      generalize (upd (fun _ => 0) (Int32.toNatClampNeg a) 1) = g13 at hP hD
      refine lv_iload_n hx hb dX10_text_120 rfl (lv_at hl 2 rfl) ?_
      refine bi_ne (tgt := 138) (X := a.toInt) hx hb rfl dX10_text_121 (by decide) (fun c14 => ?_) (fun c14 => ?_)
      · skip
        refine lv_iload_n hx hb dX10_text_138 rfl (lv_at hl 2 rfl) ?_
        refine lv_iconst (v := 1) hx hb dX10_text_139 (by decide) ?_
        refine bc_ne (tgt := 157) (X := a.toInt) (Y := 1) hx hb rfl (by decide) dX10_text_140 (by decide) (fun c15 => ?_) (fun c15 => ?_)
        · skip
          refine lv_aload_n hx hb dX10_text_157 rfl (lv_at hl 1 rfl) ?_
          refine lv_aload_n hx hb dX10_text_158 rfl (lv_at hl 1 rfl) ?_
          refine va_get (D := D) (ci := 10) (v := .ref t_darks) (C := RX10) (T := TX10) (N := 50) hx hb hts (fun _ h => List.mem_cons_of_mem _ (List.mem_append_right _ h)) hown hK.1 hP 5 rfl rfl 8 (by decide) (hts (.fieldLink RX10 32 "ClapBankModel" "darks" "[I") (List.mem_of_getElem? (i := 9) rfl)) (fun _ h9 => h9) hf9_8 dX10_text_159 ?_
          refine lv_bipush (v := 7) hx hb dX10_text_162 (by decide) ?_
          refine lv_iload_n hx hb dX10_text_164 rfl (lv_at hl 0 rfl) ?_
          refine doV (n := 3) (As := [.ref t_darks, .int 7, .int 0]) (rest := []) (wc := [(m0, .inr (10, fs2_7)), (t_told, .inl (cI, 121, .inl f2_8)), (t_darks, .inl (cI, 56, .inl (fun _ => 0)))]) (wr := [(t_size, .inl (cI, 4, .inl (upd (fun _ => 0) 0 0))), (t_many, .inl (cI, 12, .inl g13)), (t_theatres, .inl (cI, 288, .inl (fun _ => 0))), (t_books, .inl (cI, 968, .inl (fun _ => 0)))]) hx hb hml hown hts hK hP hD hS hA [5, 6, 4] [0, 1, 2, 3] rfl rfl rfl rfl (by decide) 5 rfl rfl (m_store_darks l D cI cB cJ cZ cT (m0) (fs2_7) (t_told) hf9l hf9_18 (t_darks) (f2_8) ((fun _ => 0))) gX10_text_X10_store rfl rfl rfl (by decide +kernel) ⟨Nat.le_of_ble_eq_true rfl, Nat.le_of_ble_eq_true rfl⟩ hl.1 rfl rfl (Nat.le_of_ble_eq_true rfl) dX10_text_165 ⟨Nat.le_of_ble_eq_true rfl, Nat.le_of_ble_eq_true rfl⟩ (fun u H locs hw hP hD hS => ?_)
          have hP : va_P D vwCl [(t_size, .inl (cI, 4, .inl (upd (fun _ => 0) 0 0))), (t_many, .inl (cI, 12, .inl g13)), (t_theatres, .inl (cI, 288, .inl (fun _ => 0))), (t_books, .inl (cI, 968, .inl (fun _ => 0)))] H := hP
          have hD : va_D A [(t_size, .inl (cI, 4, .inl (upd (fun _ => 0) 0 0))), (t_many, .inl (cI, 12, .inl g13)), (t_theatres, .inl (cI, 288, .inl (fun _ => 0))), (t_books, .inl (cI, 968, .inl (fun _ => 0)))] := hD
          refine W.eq (g2 := F0 m 168 ls []) rfl ?_
          refine lv_iload_n hx hb dX10_text_168 rfl (lv_at hl 0 rfl) ?_
          refine W.widen (k := 0) (n := 0) (Nat.le_of_ble_eq_true rfl) (Nat.le_of_ble_eq_true rfl) ?_
          exact ro_i hx hb hr hlocks (0) rfl ((if_pos (by omega)).symm) (hP.sub [] rfl) (hD.sub [] (by decide) rfl) hS dX10_text_169
        · skip
          refine lv_aload_n hx hb dX10_text_143 rfl (lv_at hl 1 rfl) ?_
          refine lv_aload_n hx hb dX10_text_144 rfl (lv_at hl 1 rfl) ?_
          refine va_get (D := D) (ci := 10) (v := .ref t_books) (C := RX10) (T := TX10) (N := 50) hx hb hts (fun _ h => List.mem_cons_of_mem _ (List.mem_append_right _ h)) hown hK.1 hP 5 rfl rfl 7 (by decide) (hts (.fieldLink RX10 29 "ClapBankModel" "books" "[I") (List.mem_of_getElem? (i := 8) rfl)) (fun _ h9 => h9) hf9_7 dX10_text_145 ?_
          refine lv_bipush (v := 121) hx hb dX10_text_148 (by decide) ?_
          refine lv_iload_n hx hb dX10_text_150 rfl (lv_at hl 0 rfl) ?_
          refine doV (n := 3) (As := [.ref t_books, .int 121, .int 0]) (rest := []) (wc := [(m0, .inr (10, fs2_7)), (t_told, .inl (cI, 121, .inl f2_8)), (t_books, .inl (cI, 968, .inl (fun _ => 0)))]) (wr := [(t_size, .inl (cI, 4, .inl (upd (fun _ => 0) 0 0))), (t_many, .inl (cI, 12, .inl g13)), (t_theatres, .inl (cI, 288, .inl (fun _ => 0))), (t_darks, .inl (cI, 56, .inl (fun _ => 0)))]) hx hb hml hown hts hK hP hD hS hA [5, 6, 3] [0, 1, 2, 4] rfl rfl rfl rfl (by decide) 5 rfl rfl (m_store_books l D cI cB cJ cZ cT (m0) (fs2_7) (t_told) hf9l hf9_18 (t_books) (f2_8) ((fun _ => 0))) gX10_text_X10_store rfl rfl rfl (by decide +kernel) ⟨Nat.le_of_ble_eq_true rfl, Nat.le_of_ble_eq_true rfl⟩ hl.1 rfl rfl (Nat.le_of_ble_eq_true rfl) dX10_text_151 ⟨Nat.le_of_ble_eq_true rfl, Nat.le_of_ble_eq_true rfl⟩ (fun u H locs hw hP hD hS => ?_)
          have hP : va_P D vwCl [(t_size, .inl (cI, 4, .inl (upd (fun _ => 0) 0 0))), (t_many, .inl (cI, 12, .inl g13)), (t_theatres, .inl (cI, 288, .inl (fun _ => 0))), (t_darks, .inl (cI, 56, .inl (fun _ => 0)))] H := hP
          have hD : va_D A [(t_size, .inl (cI, 4, .inl (upd (fun _ => 0) 0 0))), (t_many, .inl (cI, 12, .inl g13)), (t_theatres, .inl (cI, 288, .inl (fun _ => 0))), (t_darks, .inl (cI, 56, .inl (fun _ => 0)))] := hD
          refine W.eq (g2 := F0 m 154 ls []) rfl ?_
          refine lv_goto (tgt := 168) hx hb dX10_text_154 (by decide) ?_
          refine lv_iload_n hx hb dX10_text_168 rfl (lv_at hl 0 rfl) ?_
          refine W.widen (k := 0) (n := 0) (Nat.le_of_ble_eq_true rfl) (Nat.le_of_ble_eq_true rfl) ?_
          exact ro_i hx hb hr hlocks (0) rfl ((if_pos (by omega)).symm) (hP.sub [] rfl) (hD.sub [] (by decide) rfl) hS dX10_text_169
      · skip
        refine lv_aload_n hx hb dX10_text_124 rfl (lv_at hl 1 rfl) ?_
        refine lv_aload_n hx hb dX10_text_125 rfl (lv_at hl 1 rfl) ?_
        refine va_get (D := D) (ci := 10) (v := .ref t_theatres) (C := RX10) (T := TX10) (N := 50) hx hb hts (fun _ h => List.mem_cons_of_mem _ (List.mem_append_right _ h)) hown hK.1 hP 5 rfl rfl 6 (by decide) (hts (.fieldLink RX10 26 "ClapBankModel" "theatres" "[I") (List.mem_of_getElem? (i := 7) rfl)) (fun _ h9 => h9) hf9_6 dX10_text_126 ?_
        refine lv_bipush (v := 36) hx hb dX10_text_129 (by decide) ?_
        refine lv_iload_n hx hb dX10_text_131 rfl (lv_at hl 0 rfl) ?_
        refine doV (n := 3) (As := [.ref t_theatres, .int 36, .int 0]) (rest := []) (wc := [(m0, .inr (10, fs2_7)), (t_told, .inl (cI, 121, .inl f2_8)), (t_theatres, .inl (cI, 288, .inl (fun _ => 0)))]) (wr := [(t_size, .inl (cI, 4, .inl (upd (fun _ => 0) 0 0))), (t_many, .inl (cI, 12, .inl g13)), (t_books, .inl (cI, 968, .inl (fun _ => 0))), (t_darks, .inl (cI, 56, .inl (fun _ => 0)))]) hx hb hml hown hts hK hP hD hS hA [5, 6, 2] [0, 1, 3, 4] rfl rfl rfl rfl (by decide) 5 rfl rfl (m_store_theatres l D cI cB cJ cZ cT (m0) (fs2_7) (t_told) hf9l hf9_18 (t_theatres) (f2_8) ((fun _ => 0))) gX10_text_X10_store rfl rfl rfl (by decide +kernel) ⟨Nat.le_of_ble_eq_true rfl, Nat.le_of_ble_eq_true rfl⟩ hl.1 rfl rfl (Nat.le_of_ble_eq_true rfl) dX10_text_132 ⟨Nat.le_of_ble_eq_true rfl, Nat.le_of_ble_eq_true rfl⟩ (fun u H locs hw hP hD hS => ?_)
        have hP : va_P D vwCl [(t_size, .inl (cI, 4, .inl (upd (fun _ => 0) 0 0))), (t_many, .inl (cI, 12, .inl g13)), (t_books, .inl (cI, 968, .inl (fun _ => 0))), (t_darks, .inl (cI, 56, .inl (fun _ => 0)))] H := hP
        have hD : va_D A [(t_size, .inl (cI, 4, .inl (upd (fun _ => 0) 0 0))), (t_many, .inl (cI, 12, .inl g13)), (t_books, .inl (cI, 968, .inl (fun _ => 0))), (t_darks, .inl (cI, 56, .inl (fun _ => 0)))] := hD
        refine W.eq (g2 := F0 m 135 ls []) rfl ?_
        refine lv_goto (tgt := 168) hx hb dX10_text_135 (by decide) ?_
        refine lv_iload_n hx hb dX10_text_168 rfl (lv_at hl 0 rfl) ?_
        refine W.widen (k := 0) (n := 0) (Nat.le_of_ble_eq_true rfl) (Nat.le_of_ble_eq_true rfl) ?_
        exact ro_i hx hb hr hlocks (0) rfl ((if_pos (by omega)).symm) (hP.sub [] rfl) (hD.sub [] (by decide) rfl) hS dX10_text_169
  · skip
    refine bi_eq (tgt := 72) (X := 0) hx hb (by decide) dX10_text_42 (by decide) (fun c16 => ?_) (fun h => absurd h (by decide))
    refine lv_bipush (v := (-2)) hx hb dX10_text_72 (by decide) ?_
    refine W.widen (k := 0) (n := 0) (Nat.le_of_ble_eq_true rfl) (Nat.le_of_ble_eq_true rfl) ?_
    exact ro_i hx hb hr hlocks ((-2)) rfl ((if_neg (by omega)).symm) (hP.sub [] rfl) (hD.sub [] (by decide) rfl) hS dX10_text_74
set_option maxHeartbeats 400000 in
set_option maxRecDepth 100000 in
theorem m_copyRow_1 (l : Launch) (D : va_G) (cI cB cJ cZ cT : ClassId) (q : Nat) (g : Nat → Int32) (z : Int32) (Z_ : Int) (hZ_ : z.toInt = Z_) (h1 : 1 ≤ Z_) (h3 : Z_ ≤ 3) : Co l yX10_copyRow wsX10_copyRow ({ frames := 0, cells := 0, slots := 0, locals := 0 }) D (tyL cI cB cJ cZ cT) [.ref q, .int 1, .int 0, .int z] [(q, .inl (cI, 4, .inl g))] (fun u : Unit => none) (fun u : Unit => True) (fun u : Unit => ([] : va_W)) 0 0 := by
  refine entry (cc := cX10_copyRow) (maxL := 5) (ret := none) (by decide) rfl (Nat.le_of_ble_eq_true rfl) ?_
  intro p e s m below meth c A ls hx hb hr hml hts hown hlocks hname hK hP hD hS hA hl
  have hown : s.vm.findClass RX10 = some m.cls := hown
  have hl : lv_has ls 5 [(0, .ref q), (1, .int 1), (2, .int 0), (3, .int z)] := hl
  refine lv_iconst (v := 0) hx hb dX10_copyRow_0 (by decide) ?_
  refine lv_istore (lv' := [(4, .int 0), (0, .ref q), (1, .int 1), (2, .int 0), (3, .int z)]) hx hb dX10_copyRow_1 hl (by decide) rfl (fun ls hl => ?_)
  have lp2 : ∀ (n : Nat) (i : Int32) (fl_ : Nat → Int32) (H : Heap) (locs : List Loc) (ls : Array Slot), (0 ≤ i.toInt ∧ i.toInt ≤ 1 ∧ 1 - i.toInt < (n : Int)) → va_P D vwCl [(q, .inl (cI, 4, .inl fl_))] H → va_D A [(q, .inl (cI, 4, .inl fl_))] → va_S A s.heap H locs → lv_has ls 5 [(4, .int i), (0, .ref q), (1, .int 1), (2, .int 0), (3, .int z)] → W p l e ({ frames := 0, cells := 0, slots := 0, locals := 0 }) s m ([.ref q, .int 1, .int 0, .int z] : List Value).toArray below meth c H locs 0 0 (MQ below (Qo (fun u : Unit => none) (fun u : Unit => True) (BW D A (fun u : Unit => ([] : va_W))) A) ([.ref q, .int 1, .int 0, .int z] : List Value).toArray s 0 0 A) (F0 m 3 ls []) := by
    intro n
    induction n with
    | zero => intro i fl_ H locs ls hi; exact absurd hi (by omega)
    | succ n ih =>
      intro i fl_ H locs ls hi hP hD hS hl
      refine lv_iload hx hb dX10_copyRow_3 (lv_at hl 0 rfl) ?_
      refine lv_iload_n hx hb dX10_copyRow_5 rfl (lv_at hl 2 rfl) ?_
      refine bc_ge (tgt := 31) (X := i.toInt) (Y := 1) hx hb rfl (by decide) dX10_copyRow_6 (by decide) (fun c3 => ?_) (fun c3 => ?_)
      · skip
        refine W.widen (k := 0) (n := 0) (Nat.le_of_ble_eq_true rfl) (Nat.le_of_ble_eq_true rfl) ?_
        exact ro_v hx hb hr hlocks () rfl (trivial) (hP.sub [] rfl) (hD.sub [] (by decide) rfl) hS dX10_copyRow_31
      · skip
        refine lv_aload_n hx hb dX10_copyRow_9 rfl (lv_at hl 1 rfl) ?_
        refine lv_iload_n hx hb dX10_copyRow_10 rfl (lv_at hl 2 rfl) ?_
        refine lv_iload_n hx hb dX10_copyRow_11 rfl (lv_at hl 4 rfl) ?_
        refine lv_imul hx hb dX10_copyRow_12 ?_
        refine lv_topi (fun z4 ez4 => ?_)
        have iz4 : z4.toInt = (1) * (Z_) := by rw [ez4]; exact (i_mul (X := 1) (Y := Z_) (by decide) hZ_ (by omega) (by omega)).trans (by omega)
        refine lv_iload hx hb dX10_copyRow_13 (lv_at hl 0 rfl) ?_
        refine lv_iadd hx hb dX10_copyRow_15 ?_
        refine lv_topi (fun z5 ez5 => ?_)
        have iz5 : z5.toInt = (z4.toInt) + (i.toInt) := by rw [ez5]; exact (i_add (X := z4.toInt) (Y := i.toInt) rfl rfl (by omega) (by omega)).trans (by omega)
        refine lv_aload_n hx hb dX10_copyRow_16 rfl (lv_at hl 1 rfl) ?_
        refine lv_iload_n hx hb dX10_copyRow_17 rfl (lv_at hl 2 rfl) ?_
        refine lv_iload_n hx hb dX10_copyRow_18 rfl (lv_at hl 3 rfl) ?_
        refine lv_imul hx hb dX10_copyRow_19 ?_
        refine vz_i (y := 0) (by decide) ?_
        refine lv_iload hx hb dX10_copyRow_20 (lv_at hl 0 rfl) ?_
        refine lv_iadd hx hb dX10_copyRow_22 ?_
        refine lv_topi (fun z6 ez6 => ?_)
        have iz6 : z6.toInt = i.toInt := by rw [ez6]; exact (i_add (X := 0) (Y := i.toInt) (by decide) rfl (by omega) (by omega)).trans (by omega)
        refine va_iald hx hb hK.1 hP 0 0 rfl rfl (i_in (X := i.toInt) iz6 (by omega) (by omega)) dX10_copyRow_23 ?_
        refine lv_topi (fun z7 ez7 => ?_)
        refine va_iast hx hb hK.1 hP hD hS 0 0 rfl rfl (i_in (X := z5.toInt) rfl (by omega) (by omega)) dX10_copyRow_24 (fun H locs hP hD hS => ?_)
        have hP : va_P D vwCl [(q, .inl (cI, 4, .inl (upd fl_ (Int32.toNatClampNeg z5) z7)))] H := hP
        have hD : va_D A [(q, .inl (cI, 4, .inl (upd fl_ (Int32.toNatClampNeg z5) z7)))] := hD
        generalize (upd fl_ (Int32.toNatClampNeg z5) z7) = g8 at hP hD
        obtain ⟨z9, ez9⟩ : ∃ y : Int32, y = i + 1 := ⟨_, rfl⟩
        have iz9 : z9.toInt = i.toInt + 1 := by rw [ez9]; exact (i_add (X := i.toInt) (Y := 1) rfl (by decide) (by omega) (by omega)).trans (by omega)
        refine lv_iinc (v := z9) (lv' := [(4, .int z9), (0, .ref q), (1, .int 1), (2, .int 0), (3, .int z)]) hx hb dX10_copyRow_25 hl (k := 0) rfl (by rw [ez9]; rfl) (by decide) rfl (fun ls hl => ?_)
        refine lv_goto (tgt := 3) hx hb dX10_copyRow_28 (by decide) ?_
        exact ih (z9) (g8) _ _ _ (by omega) (hP.sub [0] rfl) (hD.sub [0] (by decide) rfl) hS (lv_sub hl [0, 1, 2, 3, 4] rfl)
  exact lp2 2 (0) (g) _ _ _ (by decide) (hP.sub [0] rfl) (hD.sub [0] (by decide) rfl) hS (lv_sub hl [0, 1, 2, 3, 4] rfl)
set_option maxHeartbeats 400000 in
set_option maxRecDepth 100000 in
theorem m_copyRow_3 (l : Launch) (D : va_G) (cI cB cJ cZ cT : ClassId) (q : Nat) (g : Nat → Int32) (z : Int32) (Z_ : Int) (hZ_ : z.toInt = Z_) (h1 : 1 ≤ Z_) (h3 : Z_ ≤ 3) : Co l yX10_copyRow wsX10_copyRow ({ frames := 0, cells := 0, slots := 0, locals := 0 }) D (tyL cI cB cJ cZ cT) [.ref q, .int 3, .int 0, .int z] [(q, .inl (cI, 12, .inl g))] (fun u : Unit => none) (fun u : Unit => True) (fun u : Unit => ([] : va_W)) 0 0 := by
  refine entry (cc := cX10_copyRow) (maxL := 5) (ret := none) (by decide) rfl (Nat.le_of_ble_eq_true rfl) ?_
  intro p e s m below meth c A ls hx hb hr hml hts hown hlocks hname hK hP hD hS hA hl
  have hown : s.vm.findClass RX10 = some m.cls := hown
  have hl : lv_has ls 5 [(0, .ref q), (1, .int 3), (2, .int 0), (3, .int z)] := hl
  refine lv_iconst (v := 0) hx hb dX10_copyRow_0 (by decide) ?_
  refine lv_istore (lv' := [(4, .int 0), (0, .ref q), (1, .int 3), (2, .int 0), (3, .int z)]) hx hb dX10_copyRow_1 hl (by decide) rfl (fun ls hl => ?_)
  have lp2 : ∀ (n : Nat) (i : Int32) (fl_ : Nat → Int32) (H : Heap) (locs : List Loc) (ls : Array Slot), (0 ≤ i.toInt ∧ i.toInt ≤ 3 ∧ 3 - i.toInt < (n : Int)) → va_P D vwCl [(q, .inl (cI, 12, .inl fl_))] H → va_D A [(q, .inl (cI, 12, .inl fl_))] → va_S A s.heap H locs → lv_has ls 5 [(4, .int i), (0, .ref q), (1, .int 3), (2, .int 0), (3, .int z)] → W p l e ({ frames := 0, cells := 0, slots := 0, locals := 0 }) s m ([.ref q, .int 3, .int 0, .int z] : List Value).toArray below meth c H locs 0 0 (MQ below (Qo (fun u : Unit => none) (fun u : Unit => True) (BW D A (fun u : Unit => ([] : va_W))) A) ([.ref q, .int 3, .int 0, .int z] : List Value).toArray s 0 0 A) (F0 m 3 ls []) := by
    intro n
    induction n with
    | zero => intro i fl_ H locs ls hi; exact absurd hi (by omega)
    | succ n ih =>
      intro i fl_ H locs ls hi hP hD hS hl
      refine lv_iload hx hb dX10_copyRow_3 (lv_at hl 0 rfl) ?_
      refine lv_iload_n hx hb dX10_copyRow_5 rfl (lv_at hl 2 rfl) ?_
      refine bc_ge (tgt := 31) (X := i.toInt) (Y := 3) hx hb rfl (by decide) dX10_copyRow_6 (by decide) (fun c3 => ?_) (fun c3 => ?_)
      · skip
        refine W.widen (k := 0) (n := 0) (Nat.le_of_ble_eq_true rfl) (Nat.le_of_ble_eq_true rfl) ?_
        exact ro_v hx hb hr hlocks () rfl (trivial) (hP.sub [] rfl) (hD.sub [] (by decide) rfl) hS dX10_copyRow_31
      · skip
        refine lv_aload_n hx hb dX10_copyRow_9 rfl (lv_at hl 1 rfl) ?_
        refine lv_iload_n hx hb dX10_copyRow_10 rfl (lv_at hl 2 rfl) ?_
        refine lv_iload_n hx hb dX10_copyRow_11 rfl (lv_at hl 4 rfl) ?_
        refine lv_imul hx hb dX10_copyRow_12 ?_
        refine lv_topi (fun z4 ez4 => ?_)
        have iz4 : z4.toInt = (3) * (Z_) := by rw [ez4]; exact (i_mul (X := 3) (Y := Z_) (by decide) hZ_ (by omega) (by omega)).trans (by omega)
        refine lv_iload hx hb dX10_copyRow_13 (lv_at hl 0 rfl) ?_
        refine lv_iadd hx hb dX10_copyRow_15 ?_
        refine lv_topi (fun z5 ez5 => ?_)
        have iz5 : z5.toInt = (z4.toInt) + (i.toInt) := by rw [ez5]; exact (i_add (X := z4.toInt) (Y := i.toInt) rfl rfl (by omega) (by omega)).trans (by omega)
        refine lv_aload_n hx hb dX10_copyRow_16 rfl (lv_at hl 1 rfl) ?_
        refine lv_iload_n hx hb dX10_copyRow_17 rfl (lv_at hl 2 rfl) ?_
        refine lv_iload_n hx hb dX10_copyRow_18 rfl (lv_at hl 3 rfl) ?_
        refine lv_imul hx hb dX10_copyRow_19 ?_
        refine vz_i (y := 0) (by decide) ?_
        refine lv_iload hx hb dX10_copyRow_20 (lv_at hl 0 rfl) ?_
        refine lv_iadd hx hb dX10_copyRow_22 ?_
        refine lv_topi (fun z6 ez6 => ?_)
        have iz6 : z6.toInt = i.toInt := by rw [ez6]; exact (i_add (X := 0) (Y := i.toInt) (by decide) rfl (by omega) (by omega)).trans (by omega)
        refine va_iald hx hb hK.1 hP 0 0 rfl rfl (i_in (X := i.toInt) iz6 (by omega) (by omega)) dX10_copyRow_23 ?_
        refine lv_topi (fun z7 ez7 => ?_)
        refine va_iast hx hb hK.1 hP hD hS 0 0 rfl rfl (i_in (X := z5.toInt) rfl (by omega) (by omega)) dX10_copyRow_24 (fun H locs hP hD hS => ?_)
        have hP : va_P D vwCl [(q, .inl (cI, 12, .inl (upd fl_ (Int32.toNatClampNeg z5) z7)))] H := hP
        have hD : va_D A [(q, .inl (cI, 12, .inl (upd fl_ (Int32.toNatClampNeg z5) z7)))] := hD
        generalize (upd fl_ (Int32.toNatClampNeg z5) z7) = g8 at hP hD
        obtain ⟨z9, ez9⟩ : ∃ y : Int32, y = i + 1 := ⟨_, rfl⟩
        have iz9 : z9.toInt = i.toInt + 1 := by rw [ez9]; exact (i_add (X := i.toInt) (Y := 1) rfl (by decide) (by omega) (by omega)).trans (by omega)
        refine lv_iinc (v := z9) (lv' := [(4, .int z9), (0, .ref q), (1, .int 3), (2, .int 0), (3, .int z)]) hx hb dX10_copyRow_25 hl (k := 0) rfl (by rw [ez9]; rfl) (by decide) rfl (fun ls hl => ?_)
        refine lv_goto (tgt := 3) hx hb dX10_copyRow_28 (by decide) ?_
        exact ih (z9) (g8) _ _ _ (by omega) (hP.sub [0] rfl) (hD.sub [0] (by decide) rfl) hS (lv_sub hl [0, 1, 2, 3, 4] rfl)
  exact lp2 4 (0) (g) _ _ _ (by decide) (hP.sub [0] rfl) (hD.sub [0] (by decide) rfl) hS (lv_sub hl [0, 1, 2, 3, 4] rfl)
set_option maxHeartbeats 400000 in
set_option maxRecDepth 100000 in
theorem m_copyRow_72 (l : Launch) (D : va_G) (cI cB cJ cZ cT : ClassId) (q : Nat) (g : Nat → Int32) (z : Int32) (Z_ : Int) (hZ_ : z.toInt = Z_) (h1 : 1 ≤ Z_) (h3 : Z_ ≤ 3) : Co l yX10_copyRow wsX10_copyRow ({ frames := 0, cells := 0, slots := 0, locals := 0 }) D (tyL cI cB cJ cZ cT) [.ref q, .int 72, .int 0, .int z] [(q, .inl (cI, 288, .inl g))] (fun u : Unit => none) (fun u : Unit => True) (fun u : Unit => ([] : va_W)) 0 0 := by
  refine entry (cc := cX10_copyRow) (maxL := 5) (ret := none) (by decide) rfl (Nat.le_of_ble_eq_true rfl) ?_
  intro p e s m below meth c A ls hx hb hr hml hts hown hlocks hname hK hP hD hS hA hl
  have hown : s.vm.findClass RX10 = some m.cls := hown
  have hl : lv_has ls 5 [(0, .ref q), (1, .int 72), (2, .int 0), (3, .int z)] := hl
  refine lv_iconst (v := 0) hx hb dX10_copyRow_0 (by decide) ?_
  refine lv_istore (lv' := [(4, .int 0), (0, .ref q), (1, .int 72), (2, .int 0), (3, .int z)]) hx hb dX10_copyRow_1 hl (by decide) rfl (fun ls hl => ?_)
  have lp2 : ∀ (n : Nat) (i : Int32) (fl_ : Nat → Int32) (H : Heap) (locs : List Loc) (ls : Array Slot), (0 ≤ i.toInt ∧ i.toInt ≤ 72 ∧ 72 - i.toInt < (n : Int)) → va_P D vwCl [(q, .inl (cI, 288, .inl fl_))] H → va_D A [(q, .inl (cI, 288, .inl fl_))] → va_S A s.heap H locs → lv_has ls 5 [(4, .int i), (0, .ref q), (1, .int 72), (2, .int 0), (3, .int z)] → W p l e ({ frames := 0, cells := 0, slots := 0, locals := 0 }) s m ([.ref q, .int 72, .int 0, .int z] : List Value).toArray below meth c H locs 0 0 (MQ below (Qo (fun u : Unit => none) (fun u : Unit => True) (BW D A (fun u : Unit => ([] : va_W))) A) ([.ref q, .int 72, .int 0, .int z] : List Value).toArray s 0 0 A) (F0 m 3 ls []) := by
    intro n
    induction n with
    | zero => intro i fl_ H locs ls hi; exact absurd hi (by omega)
    | succ n ih =>
      intro i fl_ H locs ls hi hP hD hS hl
      refine lv_iload hx hb dX10_copyRow_3 (lv_at hl 0 rfl) ?_
      refine lv_iload_n hx hb dX10_copyRow_5 rfl (lv_at hl 2 rfl) ?_
      refine bc_ge (tgt := 31) (X := i.toInt) (Y := 72) hx hb rfl (by decide) dX10_copyRow_6 (by decide) (fun c3 => ?_) (fun c3 => ?_)
      · skip
        refine W.widen (k := 0) (n := 0) (Nat.le_of_ble_eq_true rfl) (Nat.le_of_ble_eq_true rfl) ?_
        exact ro_v hx hb hr hlocks () rfl (trivial) (hP.sub [] rfl) (hD.sub [] (by decide) rfl) hS dX10_copyRow_31
      · skip
        refine lv_aload_n hx hb dX10_copyRow_9 rfl (lv_at hl 1 rfl) ?_
        refine lv_iload_n hx hb dX10_copyRow_10 rfl (lv_at hl 2 rfl) ?_
        refine lv_iload_n hx hb dX10_copyRow_11 rfl (lv_at hl 4 rfl) ?_
        refine lv_imul hx hb dX10_copyRow_12 ?_
        refine lv_topi (fun z4 ez4 => ?_)
        have iz4 : z4.toInt = (72) * (Z_) := by rw [ez4]; exact (i_mul (X := 72) (Y := Z_) (by decide) hZ_ (by omega) (by omega)).trans (by omega)
        refine lv_iload hx hb dX10_copyRow_13 (lv_at hl 0 rfl) ?_
        refine lv_iadd hx hb dX10_copyRow_15 ?_
        refine lv_topi (fun z5 ez5 => ?_)
        have iz5 : z5.toInt = (z4.toInt) + (i.toInt) := by rw [ez5]; exact (i_add (X := z4.toInt) (Y := i.toInt) rfl rfl (by omega) (by omega)).trans (by omega)
        refine lv_aload_n hx hb dX10_copyRow_16 rfl (lv_at hl 1 rfl) ?_
        refine lv_iload_n hx hb dX10_copyRow_17 rfl (lv_at hl 2 rfl) ?_
        refine lv_iload_n hx hb dX10_copyRow_18 rfl (lv_at hl 3 rfl) ?_
        refine lv_imul hx hb dX10_copyRow_19 ?_
        refine vz_i (y := 0) (by decide) ?_
        refine lv_iload hx hb dX10_copyRow_20 (lv_at hl 0 rfl) ?_
        refine lv_iadd hx hb dX10_copyRow_22 ?_
        refine lv_topi (fun z6 ez6 => ?_)
        have iz6 : z6.toInt = i.toInt := by rw [ez6]; exact (i_add (X := 0) (Y := i.toInt) (by decide) rfl (by omega) (by omega)).trans (by omega)
        refine va_iald hx hb hK.1 hP 0 0 rfl rfl (i_in (X := i.toInt) iz6 (by omega) (by omega)) dX10_copyRow_23 ?_
        refine lv_topi (fun z7 ez7 => ?_)
        refine va_iast hx hb hK.1 hP hD hS 0 0 rfl rfl (i_in (X := z5.toInt) rfl (by omega) (by omega)) dX10_copyRow_24 (fun H locs hP hD hS => ?_)
        have hP : va_P D vwCl [(q, .inl (cI, 288, .inl (upd fl_ (Int32.toNatClampNeg z5) z7)))] H := hP
        have hD : va_D A [(q, .inl (cI, 288, .inl (upd fl_ (Int32.toNatClampNeg z5) z7)))] := hD
        generalize (upd fl_ (Int32.toNatClampNeg z5) z7) = g8 at hP hD
        obtain ⟨z9, ez9⟩ : ∃ y : Int32, y = i + 1 := ⟨_, rfl⟩
        have iz9 : z9.toInt = i.toInt + 1 := by rw [ez9]; exact (i_add (X := i.toInt) (Y := 1) rfl (by decide) (by omega) (by omega)).trans (by omega)
        refine lv_iinc (v := z9) (lv' := [(4, .int z9), (0, .ref q), (1, .int 72), (2, .int 0), (3, .int z)]) hx hb dX10_copyRow_25 hl (k := 0) rfl (by rw [ez9]; rfl) (by decide) rfl (fun ls hl => ?_)
        refine lv_goto (tgt := 3) hx hb dX10_copyRow_28 (by decide) ?_
        exact ih (z9) (g8) _ _ _ (by omega) (hP.sub [0] rfl) (hD.sub [0] (by decide) rfl) hS (lv_sub hl [0, 1, 2, 3, 4] rfl)
  exact lp2 73 (0) (g) _ _ _ (by decide) (hP.sub [0] rfl) (hD.sub [0] (by decide) rfl) hS (lv_sub hl [0, 1, 2, 3, 4] rfl)
set_option maxHeartbeats 400000 in
set_option maxRecDepth 100000 in
theorem m_copyRow_242 (l : Launch) (D : va_G) (cI cB cJ cZ cT : ClassId) (q : Nat) (g : Nat → Int32) (z : Int32) (Z_ : Int) (hZ_ : z.toInt = Z_) (h1 : 1 ≤ Z_) (h3 : Z_ ≤ 3) : Co l yX10_copyRow wsX10_copyRow ({ frames := 0, cells := 0, slots := 0, locals := 0 }) D (tyL cI cB cJ cZ cT) [.ref q, .int 242, .int 0, .int z] [(q, .inl (cI, 968, .inl g))] (fun u : Unit => none) (fun u : Unit => True) (fun u : Unit => ([] : va_W)) 0 0 := by
  refine entry (cc := cX10_copyRow) (maxL := 5) (ret := none) (by decide) rfl (Nat.le_of_ble_eq_true rfl) ?_
  intro p e s m below meth c A ls hx hb hr hml hts hown hlocks hname hK hP hD hS hA hl
  have hown : s.vm.findClass RX10 = some m.cls := hown
  have hl : lv_has ls 5 [(0, .ref q), (1, .int 242), (2, .int 0), (3, .int z)] := hl
  refine lv_iconst (v := 0) hx hb dX10_copyRow_0 (by decide) ?_
  refine lv_istore (lv' := [(4, .int 0), (0, .ref q), (1, .int 242), (2, .int 0), (3, .int z)]) hx hb dX10_copyRow_1 hl (by decide) rfl (fun ls hl => ?_)
  have lp2 : ∀ (n : Nat) (i : Int32) (fl_ : Nat → Int32) (H : Heap) (locs : List Loc) (ls : Array Slot), (0 ≤ i.toInt ∧ i.toInt ≤ 242 ∧ 242 - i.toInt < (n : Int)) → va_P D vwCl [(q, .inl (cI, 968, .inl fl_))] H → va_D A [(q, .inl (cI, 968, .inl fl_))] → va_S A s.heap H locs → lv_has ls 5 [(4, .int i), (0, .ref q), (1, .int 242), (2, .int 0), (3, .int z)] → W p l e ({ frames := 0, cells := 0, slots := 0, locals := 0 }) s m ([.ref q, .int 242, .int 0, .int z] : List Value).toArray below meth c H locs 0 0 (MQ below (Qo (fun u : Unit => none) (fun u : Unit => True) (BW D A (fun u : Unit => ([] : va_W))) A) ([.ref q, .int 242, .int 0, .int z] : List Value).toArray s 0 0 A) (F0 m 3 ls []) := by
    intro n
    induction n with
    | zero => intro i fl_ H locs ls hi; exact absurd hi (by omega)
    | succ n ih =>
      intro i fl_ H locs ls hi hP hD hS hl
      refine lv_iload hx hb dX10_copyRow_3 (lv_at hl 0 rfl) ?_
      refine lv_iload_n hx hb dX10_copyRow_5 rfl (lv_at hl 2 rfl) ?_
      refine bc_ge (tgt := 31) (X := i.toInt) (Y := 242) hx hb rfl (by decide) dX10_copyRow_6 (by decide) (fun c3 => ?_) (fun c3 => ?_)
      · skip
        refine W.widen (k := 0) (n := 0) (Nat.le_of_ble_eq_true rfl) (Nat.le_of_ble_eq_true rfl) ?_
        exact ro_v hx hb hr hlocks () rfl (trivial) (hP.sub [] rfl) (hD.sub [] (by decide) rfl) hS dX10_copyRow_31
      · skip
        refine lv_aload_n hx hb dX10_copyRow_9 rfl (lv_at hl 1 rfl) ?_
        refine lv_iload_n hx hb dX10_copyRow_10 rfl (lv_at hl 2 rfl) ?_
        refine lv_iload_n hx hb dX10_copyRow_11 rfl (lv_at hl 4 rfl) ?_
        refine lv_imul hx hb dX10_copyRow_12 ?_
        refine lv_topi (fun z4 ez4 => ?_)
        have iz4 : z4.toInt = (242) * (Z_) := by rw [ez4]; exact (i_mul (X := 242) (Y := Z_) (by decide) hZ_ (by omega) (by omega)).trans (by omega)
        refine lv_iload hx hb dX10_copyRow_13 (lv_at hl 0 rfl) ?_
        refine lv_iadd hx hb dX10_copyRow_15 ?_
        refine lv_topi (fun z5 ez5 => ?_)
        have iz5 : z5.toInt = (z4.toInt) + (i.toInt) := by rw [ez5]; exact (i_add (X := z4.toInt) (Y := i.toInt) rfl rfl (by omega) (by omega)).trans (by omega)
        refine lv_aload_n hx hb dX10_copyRow_16 rfl (lv_at hl 1 rfl) ?_
        refine lv_iload_n hx hb dX10_copyRow_17 rfl (lv_at hl 2 rfl) ?_
        refine lv_iload_n hx hb dX10_copyRow_18 rfl (lv_at hl 3 rfl) ?_
        refine lv_imul hx hb dX10_copyRow_19 ?_
        refine vz_i (y := 0) (by decide) ?_
        refine lv_iload hx hb dX10_copyRow_20 (lv_at hl 0 rfl) ?_
        refine lv_iadd hx hb dX10_copyRow_22 ?_
        refine lv_topi (fun z6 ez6 => ?_)
        have iz6 : z6.toInt = i.toInt := by rw [ez6]; exact (i_add (X := 0) (Y := i.toInt) (by decide) rfl (by omega) (by omega)).trans (by omega)
        refine va_iald hx hb hK.1 hP 0 0 rfl rfl (i_in (X := i.toInt) iz6 (by omega) (by omega)) dX10_copyRow_23 ?_
        refine lv_topi (fun z7 ez7 => ?_)
        refine va_iast hx hb hK.1 hP hD hS 0 0 rfl rfl (i_in (X := z5.toInt) rfl (by omega) (by omega)) dX10_copyRow_24 (fun H locs hP hD hS => ?_)
        have hP : va_P D vwCl [(q, .inl (cI, 968, .inl (upd fl_ (Int32.toNatClampNeg z5) z7)))] H := hP
        have hD : va_D A [(q, .inl (cI, 968, .inl (upd fl_ (Int32.toNatClampNeg z5) z7)))] := hD
        generalize (upd fl_ (Int32.toNatClampNeg z5) z7) = g8 at hP hD
        obtain ⟨z9, ez9⟩ : ∃ y : Int32, y = i + 1 := ⟨_, rfl⟩
        have iz9 : z9.toInt = i.toInt + 1 := by rw [ez9]; exact (i_add (X := i.toInt) (Y := 1) rfl (by decide) (by omega) (by omega)).trans (by omega)
        refine lv_iinc (v := z9) (lv' := [(4, .int z9), (0, .ref q), (1, .int 242), (2, .int 0), (3, .int z)]) hx hb dX10_copyRow_25 hl (k := 0) rfl (by rw [ez9]; rfl) (by decide) rfl (fun ls hl => ?_)
        refine lv_goto (tgt := 3) hx hb dX10_copyRow_28 (by decide) ?_
        exact ih (z9) (g8) _ _ _ (by omega) (hP.sub [0] rfl) (hD.sub [0] (by decide) rfl) hS (lv_sub hl [0, 1, 2, 3, 4] rfl)
  exact lp2 243 (0) (g) _ _ _ (by decide) (hP.sub [0] rfl) (hD.sub [0] (by decide) rfl) hS (lv_sub hl [0, 1, 2, 3, 4] rfl)
set_option maxHeartbeats 400000 in
set_option maxRecDepth 100000 in
theorem m_copyRow_14 (l : Launch) (D : va_G) (cI cB cJ cZ cT : ClassId) (q : Nat) (g : Nat → Int32) (z : Int32) (Z_ : Int) (hZ_ : z.toInt = Z_) (h1 : 1 ≤ Z_) (h3 : Z_ ≤ 3) : Co l yX10_copyRow wsX10_copyRow ({ frames := 0, cells := 0, slots := 0, locals := 0 }) D (tyL cI cB cJ cZ cT) [.ref q, .int 14, .int 0, .int z] [(q, .inl (cI, 56, .inl g))] (fun u : Unit => none) (fun u : Unit => True) (fun u : Unit => ([] : va_W)) 0 0 := by
  refine entry (cc := cX10_copyRow) (maxL := 5) (ret := none) (by decide) rfl (Nat.le_of_ble_eq_true rfl) ?_
  intro p e s m below meth c A ls hx hb hr hml hts hown hlocks hname hK hP hD hS hA hl
  have hown : s.vm.findClass RX10 = some m.cls := hown
  have hl : lv_has ls 5 [(0, .ref q), (1, .int 14), (2, .int 0), (3, .int z)] := hl
  refine lv_iconst (v := 0) hx hb dX10_copyRow_0 (by decide) ?_
  refine lv_istore (lv' := [(4, .int 0), (0, .ref q), (1, .int 14), (2, .int 0), (3, .int z)]) hx hb dX10_copyRow_1 hl (by decide) rfl (fun ls hl => ?_)
  have lp2 : ∀ (n : Nat) (i : Int32) (fl_ : Nat → Int32) (H : Heap) (locs : List Loc) (ls : Array Slot), (0 ≤ i.toInt ∧ i.toInt ≤ 14 ∧ 14 - i.toInt < (n : Int)) → va_P D vwCl [(q, .inl (cI, 56, .inl fl_))] H → va_D A [(q, .inl (cI, 56, .inl fl_))] → va_S A s.heap H locs → lv_has ls 5 [(4, .int i), (0, .ref q), (1, .int 14), (2, .int 0), (3, .int z)] → W p l e ({ frames := 0, cells := 0, slots := 0, locals := 0 }) s m ([.ref q, .int 14, .int 0, .int z] : List Value).toArray below meth c H locs 0 0 (MQ below (Qo (fun u : Unit => none) (fun u : Unit => True) (BW D A (fun u : Unit => ([] : va_W))) A) ([.ref q, .int 14, .int 0, .int z] : List Value).toArray s 0 0 A) (F0 m 3 ls []) := by
    intro n
    induction n with
    | zero => intro i fl_ H locs ls hi; exact absurd hi (by omega)
    | succ n ih =>
      intro i fl_ H locs ls hi hP hD hS hl
      refine lv_iload hx hb dX10_copyRow_3 (lv_at hl 0 rfl) ?_
      refine lv_iload_n hx hb dX10_copyRow_5 rfl (lv_at hl 2 rfl) ?_
      refine bc_ge (tgt := 31) (X := i.toInt) (Y := 14) hx hb rfl (by decide) dX10_copyRow_6 (by decide) (fun c3 => ?_) (fun c3 => ?_)
      · skip
        refine W.widen (k := 0) (n := 0) (Nat.le_of_ble_eq_true rfl) (Nat.le_of_ble_eq_true rfl) ?_
        exact ro_v hx hb hr hlocks () rfl (trivial) (hP.sub [] rfl) (hD.sub [] (by decide) rfl) hS dX10_copyRow_31
      · skip
        refine lv_aload_n hx hb dX10_copyRow_9 rfl (lv_at hl 1 rfl) ?_
        refine lv_iload_n hx hb dX10_copyRow_10 rfl (lv_at hl 2 rfl) ?_
        refine lv_iload_n hx hb dX10_copyRow_11 rfl (lv_at hl 4 rfl) ?_
        refine lv_imul hx hb dX10_copyRow_12 ?_
        refine lv_topi (fun z4 ez4 => ?_)
        have iz4 : z4.toInt = (14) * (Z_) := by rw [ez4]; exact (i_mul (X := 14) (Y := Z_) (by decide) hZ_ (by omega) (by omega)).trans (by omega)
        refine lv_iload hx hb dX10_copyRow_13 (lv_at hl 0 rfl) ?_
        refine lv_iadd hx hb dX10_copyRow_15 ?_
        refine lv_topi (fun z5 ez5 => ?_)
        have iz5 : z5.toInt = (z4.toInt) + (i.toInt) := by rw [ez5]; exact (i_add (X := z4.toInt) (Y := i.toInt) rfl rfl (by omega) (by omega)).trans (by omega)
        refine lv_aload_n hx hb dX10_copyRow_16 rfl (lv_at hl 1 rfl) ?_
        refine lv_iload_n hx hb dX10_copyRow_17 rfl (lv_at hl 2 rfl) ?_
        refine lv_iload_n hx hb dX10_copyRow_18 rfl (lv_at hl 3 rfl) ?_
        refine lv_imul hx hb dX10_copyRow_19 ?_
        refine vz_i (y := 0) (by decide) ?_
        refine lv_iload hx hb dX10_copyRow_20 (lv_at hl 0 rfl) ?_
        refine lv_iadd hx hb dX10_copyRow_22 ?_
        refine lv_topi (fun z6 ez6 => ?_)
        have iz6 : z6.toInt = i.toInt := by rw [ez6]; exact (i_add (X := 0) (Y := i.toInt) (by decide) rfl (by omega) (by omega)).trans (by omega)
        refine va_iald hx hb hK.1 hP 0 0 rfl rfl (i_in (X := i.toInt) iz6 (by omega) (by omega)) dX10_copyRow_23 ?_
        refine lv_topi (fun z7 ez7 => ?_)
        refine va_iast hx hb hK.1 hP hD hS 0 0 rfl rfl (i_in (X := z5.toInt) rfl (by omega) (by omega)) dX10_copyRow_24 (fun H locs hP hD hS => ?_)
        have hP : va_P D vwCl [(q, .inl (cI, 56, .inl (upd fl_ (Int32.toNatClampNeg z5) z7)))] H := hP
        have hD : va_D A [(q, .inl (cI, 56, .inl (upd fl_ (Int32.toNatClampNeg z5) z7)))] := hD
        generalize (upd fl_ (Int32.toNatClampNeg z5) z7) = g8 at hP hD
        obtain ⟨z9, ez9⟩ : ∃ y : Int32, y = i + 1 := ⟨_, rfl⟩
        have iz9 : z9.toInt = i.toInt + 1 := by rw [ez9]; exact (i_add (X := i.toInt) (Y := 1) rfl (by decide) (by omega) (by omega)).trans (by omega)
        refine lv_iinc (v := z9) (lv' := [(4, .int z9), (0, .ref q), (1, .int 14), (2, .int 0), (3, .int z)]) hx hb dX10_copyRow_25 hl (k := 0) rfl (by rw [ez9]; rfl) (by decide) rfl (fun ls hl => ?_)
        refine lv_goto (tgt := 3) hx hb dX10_copyRow_28 (by decide) ?_
        exact ih (z9) (g8) _ _ _ (by omega) (hP.sub [0] rfl) (hD.sub [0] (by decide) rfl) hS (lv_sub hl [0, 1, 2, 3, 4] rfl)
  exact lp2 15 (0) (g) _ _ _ (by decide) (hP.sub [0] rfl) (hD.sub [0] (by decide) rfl) hS (lv_sub hl [0, 1, 2, 3, 4] rfl)
set_option maxHeartbeats 400000 in
set_option maxRecDepth 100000 in
theorem m_copyAll (l : Launch) (D : va_G) (cI cB cJ cZ cT : ClassId) (m0 : Nat) (fs : List Value) (t_tape : Nat) (t_size : Nat) (t_fault : Nat) (t_faultPlace : Nat) (t_many : Nat) (t_theatres : Nat) (t_books : Nat) (t_darks : Nat) (fl : fs.length = 50) (f1 : fs[1]? = some (.ref t_tape)) (f2 : fs[2]? = some (.ref t_size)) (f3 : fs[3]? = some (.ref t_fault)) (f4 : fs[4]? = some (.ref t_faultPlace)) (f5 : fs[5]? = some (.ref t_many)) (f6 : fs[6]? = some (.ref t_theatres)) (f7 : fs[7]? = some (.ref t_books)) (f8 : fs[8]? = some (.ref t_darks)) (g_tape : Nat → Int32) (g_size : Nat → Int32) (g_fault : Nat → Int32) (g_faultPlace : Nat → Int32) (g_many : Nat → Int32) (g_theatres : Nat → Int32) (g_books : Nat → Int32) (g_darks : Nat → Int32) (z : Int32) (Z_ : Int) (hZ_ : z.toInt = Z_) (h1 : 1 ≤ Z_) (h3 : Z_ ≤ 3) : Co l yX10_copyAll wsX10_copyAll ({ frames := 1, cells := 0, slots := 0, locals := 24 }) D (tyL cI cB cJ cZ cT) [.ref m0, .int 0, .int z] [(m0, .inr (10, fs)), (t_tape, .inl (cB, 2400, .inl g_tape)), (t_size, .inl (cI, 4, .inl g_size)), (t_fault, .inl (cI, 4, .inl g_fault)), (t_faultPlace, .inl (cI, 4, .inl g_faultPlace)), (t_many, .inl (cI, 12, .inl g_many)), (t_theatres, .inl (cI, 288, .inl g_theatres)), (t_books, .inl (cI, 968, .inl g_books)), (t_darks, .inl (cI, 56, .inl g_darks))] (fun u : Unit => none) (fun u : Unit => True) (fun u : Unit => [(m0, .inr (10, fs))]) 0 0 := by
  refine entry (cc := cX10_copyAll) (maxL := 4) (ret := none) (by decide) rfl (Nat.le_of_ble_eq_true rfl) ?_
  intro p e s m below meth c A ls hx hb hr hml hts hown hlocks hname hK hP hD hS hA hl
  have hown : s.vm.findClass RX10 = some m.cls := hown
  have hl : lv_has ls 4 [(0, .ref m0), (1, .int 0), (2, .int z)] := hl
  refine lv_iconst (v := 0) hx hb dX10_copyAll_0 (by decide) ?_
  refine lv_istore_n (lv' := [(3, .int 0), (0, .ref m0), (1, .int 0), (2, .int z)]) hx hb dX10_copyAll_1 rfl hl (by decide) rfl (fun ls hl => ?_)
  have lp2 : ∀ (n : Nat) (i : Int32) (fl_ : Nat → Int32) (H : Heap) (locs : List Loc) (ls : Array Slot), (0 ≤ i.toInt ∧ i.toInt ≤ 600 ∧ 600 - i.toInt < (n : Int)) → va_P D vwCl [(m0, .inr (10, fs)), (t_tape, .inl (cB, 2400, .inl fl_)), (t_size, .inl (cI, 4, .inl g_size)), (t_fault, .inl (cI, 4, .inl g_fault)), (t_faultPlace, .inl (cI, 4, .inl g_faultPlace)), (t_many, .inl (cI, 12, .inl g_many)), (t_theatres, .inl (cI, 288, .inl g_theatres)), (t_books, .inl (cI, 968, .inl g_books)), (t_darks, .inl (cI, 56, .inl g_darks))] H → va_D A [(m0, .inr (10, fs)), (t_tape, .inl (cB, 2400, .inl fl_)), (t_size, .inl (cI, 4, .inl g_size)), (t_fault, .inl (cI, 4, .inl g_fault)), (t_faultPlace, .inl (cI, 4, .inl g_faultPlace)), (t_many, .inl (cI, 12, .inl g_many)), (t_theatres, .inl (cI, 288, .inl g_theatres)), (t_books, .inl (cI, 968, .inl g_books)), (t_darks, .inl (cI, 56, .inl g_darks))] → va_S A s.heap H locs → lv_has ls 4 [(3, .int i), (0, .ref m0), (1, .int 0), (2, .int z)] → W p l e ({ frames := 1, cells := 0, slots := 0, locals := 24 }) s m ([.ref m0, .int 0, .int z] : List Value).toArray below meth c H locs 0 0 (MQ below (Qo (fun u : Unit => none) (fun u : Unit => True) (BW D A (fun u : Unit => [(m0, .inr (10, fs))])) A) ([.ref m0, .int 0, .int z] : List Value).toArray s 0 0 A) (F0 m 2 ls []) := by
    intro n
    induction n with
    | zero => intro i fl_ H locs ls hi; exact absurd hi (by omega)
    | succ n ih =>
      intro i fl_ H locs ls hi hP hD hS hl
      refine lv_iload_n hx hb dX10_copyAll_2 rfl (lv_at hl 0 rfl) ?_
      refine lv_sipush (v := 600) hx hb dX10_copyAll_3 (by decide) ?_
      refine bc_ge (tgt := 39) (X := i.toInt) (Y := 600) hx hb rfl (by decide) dX10_copyAll_6 (by decide) (fun c3 => ?_) (fun c3 => ?_)
      · skip
        refine lv_aload_n hx hb dX10_copyAll_39 rfl (lv_at hl 1 rfl) ?_
        refine va_get (D := D) (ci := 10) (v := .ref t_size) (C := RX10) (T := TX10) (N := 50) hx hb hts (fun _ h => List.mem_cons_of_mem _ (List.mem_append_right _ h)) hown hK.1 hP 0 rfl rfl 2 (by decide) (hts (.fieldLink RX10 13 "ClapBankModel" "size" "[I") (List.mem_of_getElem? (i := 2) rfl)) (fun _ h9 => h9) f2 dX10_copyAll_40 ?_
        refine lv_iconst (v := 1) hx hb dX10_copyAll_43 (by decide) ?_
        refine lv_iload_n hx hb dX10_copyAll_44 rfl (lv_at hl 2 rfl) ?_
        refine lv_iload_n hx hb dX10_copyAll_45 rfl (lv_at hl 3 rfl) ?_
        refine doS (n := 4) (As := [.ref t_size, .int 1, .int 0, .int z]) (rest := []) (wc := [(t_size, .inl (cI, 4, .inl g_size))]) (wr := [(m0, .inr (10, fs)), (t_tape, .inl (cB, 2400, .inl fl_)), (t_fault, .inl (cI, 4, .inl g_fault)), (t_faultPlace, .inl (cI, 4, .inl g_faultPlace)), (t_many, .inl (cI, 12, .inl g_many)), (t_theatres, .inl (cI, 288, .inl g_theatres)), (t_books, .inl (cI, 968, .inl g_books)), (t_darks, .inl (cI, 56, .inl g_darks))]) hx hb hml hown hts hK hP hD hS hA [2] [0, 1, 3, 4, 5, 6, 7, 8] rfl rfl rfl rfl (by decide) (m_copyRow_1 l D cI cB cJ cZ cT (t_size) (g_size) (z) (Z_) hZ_ (by omega) (by omega)) gX10_copyAll_X10_copyRow rfl rfl rfl (by decide +kernel) ⟨Nat.le_of_ble_eq_true rfl, Nat.le_of_ble_eq_true rfl⟩ hl.1 rfl rfl (Nat.le_of_ble_eq_true rfl) dX10_copyAll_46 ⟨Nat.le_of_ble_eq_true rfl, Nat.le_of_ble_eq_true rfl⟩ (fun u H locs hw hP hD hS => ?_)
        have hP : va_P D vwCl [(m0, .inr (10, fs)), (t_tape, .inl (cB, 2400, .inl fl_)), (t_fault, .inl (cI, 4, .inl g_fault)), (t_faultPlace, .inl (cI, 4, .inl g_faultPlace)), (t_many, .inl (cI, 12, .inl g_many)), (t_theatres, .inl (cI, 288, .inl g_theatres)), (t_books, .inl (cI, 968, .inl g_books)), (t_darks, .inl (cI, 56, .inl g_darks))] H := hP
        have hD : va_D A [(m0, .inr (10, fs)), (t_tape, .inl (cB, 2400, .inl fl_)), (t_fault, .inl (cI, 4, .inl g_fault)), (t_faultPlace, .inl (cI, 4, .inl g_faultPlace)), (t_many, .inl (cI, 12, .inl g_many)), (t_theatres, .inl (cI, 288, .inl g_theatres)), (t_books, .inl (cI, 968, .inl g_books)), (t_darks, .inl (cI, 56, .inl g_darks))] := hD
        refine W.eq (g2 := F0 m 49 ls []) rfl ?_
        refine lv_aload_n hx hb dX10_copyAll_49 rfl (lv_at hl 1 rfl) ?_
        refine va_get (D := D) (ci := 10) (v := .ref t_fault) (C := RX10) (T := TX10) (N := 50) hx hb hts (fun _ h => List.mem_cons_of_mem _ (List.mem_append_right _ h)) hown hK.1 hP 0 rfl rfl 3 (by decide) (hts (.fieldLink RX10 17 "ClapBankModel" "fault" "[I") (List.mem_of_getElem? (i := 3) rfl)) (fun _ h9 => h9) f3 dX10_copyAll_50 ?_
        refine lv_iconst (v := 1) hx hb dX10_copyAll_53 (by decide) ?_
        refine lv_iload_n hx hb dX10_copyAll_54 rfl (lv_at hl 2 rfl) ?_
        refine lv_iload_n hx hb dX10_copyAll_55 rfl (lv_at hl 3 rfl) ?_
        refine doS (n := 4) (As := [.ref t_fault, .int 1, .int 0, .int z]) (rest := []) (wc := [(t_fault, .inl (cI, 4, .inl g_fault))]) (wr := [(m0, .inr (10, fs)), (t_tape, .inl (cB, 2400, .inl fl_)), (t_faultPlace, .inl (cI, 4, .inl g_faultPlace)), (t_many, .inl (cI, 12, .inl g_many)), (t_theatres, .inl (cI, 288, .inl g_theatres)), (t_books, .inl (cI, 968, .inl g_books)), (t_darks, .inl (cI, 56, .inl g_darks))]) hx hb hml hown hts hK hP hD hS hA [2] [0, 1, 3, 4, 5, 6, 7] rfl rfl rfl rfl (by decide) (m_copyRow_1 l D cI cB cJ cZ cT (t_fault) (g_fault) (z) (Z_) hZ_ (by omega) (by omega)) gX10_copyAll_X10_copyRow rfl rfl rfl (by decide +kernel) ⟨Nat.le_of_ble_eq_true rfl, Nat.le_of_ble_eq_true rfl⟩ hl.1 rfl rfl (Nat.le_of_ble_eq_true rfl) dX10_copyAll_56 ⟨Nat.le_of_ble_eq_true rfl, Nat.le_of_ble_eq_true rfl⟩ (fun u H locs hw hP hD hS => ?_)
        have hP : va_P D vwCl [(m0, .inr (10, fs)), (t_tape, .inl (cB, 2400, .inl fl_)), (t_faultPlace, .inl (cI, 4, .inl g_faultPlace)), (t_many, .inl (cI, 12, .inl g_many)), (t_theatres, .inl (cI, 288, .inl g_theatres)), (t_books, .inl (cI, 968, .inl g_books)), (t_darks, .inl (cI, 56, .inl g_darks))] H := hP
        have hD : va_D A [(m0, .inr (10, fs)), (t_tape, .inl (cB, 2400, .inl fl_)), (t_faultPlace, .inl (cI, 4, .inl g_faultPlace)), (t_many, .inl (cI, 12, .inl g_many)), (t_theatres, .inl (cI, 288, .inl g_theatres)), (t_books, .inl (cI, 968, .inl g_books)), (t_darks, .inl (cI, 56, .inl g_darks))] := hD
        refine W.eq (g2 := F0 m 59 ls []) rfl ?_
        refine lv_aload_n hx hb dX10_copyAll_59 rfl (lv_at hl 1 rfl) ?_
        refine va_get (D := D) (ci := 10) (v := .ref t_faultPlace) (C := RX10) (T := TX10) (N := 50) hx hb hts (fun _ h => List.mem_cons_of_mem _ (List.mem_append_right _ h)) hown hK.1 hP 0 rfl rfl 4 (by decide) (hts (.fieldLink RX10 20 "ClapBankModel" "faultPlace" "[I") (List.mem_of_getElem? (i := 4) rfl)) (fun _ h9 => h9) f4 dX10_copyAll_60 ?_
        refine lv_iconst (v := 1) hx hb dX10_copyAll_63 (by decide) ?_
        refine lv_iload_n hx hb dX10_copyAll_64 rfl (lv_at hl 2 rfl) ?_
        refine lv_iload_n hx hb dX10_copyAll_65 rfl (lv_at hl 3 rfl) ?_
        refine doS (n := 4) (As := [.ref t_faultPlace, .int 1, .int 0, .int z]) (rest := []) (wc := [(t_faultPlace, .inl (cI, 4, .inl g_faultPlace))]) (wr := [(m0, .inr (10, fs)), (t_tape, .inl (cB, 2400, .inl fl_)), (t_many, .inl (cI, 12, .inl g_many)), (t_theatres, .inl (cI, 288, .inl g_theatres)), (t_books, .inl (cI, 968, .inl g_books)), (t_darks, .inl (cI, 56, .inl g_darks))]) hx hb hml hown hts hK hP hD hS hA [2] [0, 1, 3, 4, 5, 6] rfl rfl rfl rfl (by decide) (m_copyRow_1 l D cI cB cJ cZ cT (t_faultPlace) (g_faultPlace) (z) (Z_) hZ_ (by omega) (by omega)) gX10_copyAll_X10_copyRow rfl rfl rfl (by decide +kernel) ⟨Nat.le_of_ble_eq_true rfl, Nat.le_of_ble_eq_true rfl⟩ hl.1 rfl rfl (Nat.le_of_ble_eq_true rfl) dX10_copyAll_66 ⟨Nat.le_of_ble_eq_true rfl, Nat.le_of_ble_eq_true rfl⟩ (fun u H locs hw hP hD hS => ?_)
        have hP : va_P D vwCl [(m0, .inr (10, fs)), (t_tape, .inl (cB, 2400, .inl fl_)), (t_many, .inl (cI, 12, .inl g_many)), (t_theatres, .inl (cI, 288, .inl g_theatres)), (t_books, .inl (cI, 968, .inl g_books)), (t_darks, .inl (cI, 56, .inl g_darks))] H := hP
        have hD : va_D A [(m0, .inr (10, fs)), (t_tape, .inl (cB, 2400, .inl fl_)), (t_many, .inl (cI, 12, .inl g_many)), (t_theatres, .inl (cI, 288, .inl g_theatres)), (t_books, .inl (cI, 968, .inl g_books)), (t_darks, .inl (cI, 56, .inl g_darks))] := hD
        refine W.eq (g2 := F0 m 69 ls []) rfl ?_
        refine lv_aload_n hx hb dX10_copyAll_69 rfl (lv_at hl 1 rfl) ?_
        refine va_get (D := D) (ci := 10) (v := .ref t_many) (C := RX10) (T := TX10) (N := 50) hx hb hts (fun _ h => List.mem_cons_of_mem _ (List.mem_append_right _ h)) hown hK.1 hP 0 rfl rfl 5 (by decide) (hts (.fieldLink RX10 23 "ClapBankModel" "many" "[I") (List.mem_of_getElem? (i := 5) rfl)) (fun _ h9 => h9) f5 dX10_copyAll_70 ?_
        refine lv_iconst (v := 3) hx hb dX10_copyAll_73 (by decide) ?_
        refine lv_iload_n hx hb dX10_copyAll_74 rfl (lv_at hl 2 rfl) ?_
        refine lv_iload_n hx hb dX10_copyAll_75 rfl (lv_at hl 3 rfl) ?_
        refine doS (n := 4) (As := [.ref t_many, .int 3, .int 0, .int z]) (rest := []) (wc := [(t_many, .inl (cI, 12, .inl g_many))]) (wr := [(m0, .inr (10, fs)), (t_tape, .inl (cB, 2400, .inl fl_)), (t_theatres, .inl (cI, 288, .inl g_theatres)), (t_books, .inl (cI, 968, .inl g_books)), (t_darks, .inl (cI, 56, .inl g_darks))]) hx hb hml hown hts hK hP hD hS hA [2] [0, 1, 3, 4, 5] rfl rfl rfl rfl (by decide) (m_copyRow_3 l D cI cB cJ cZ cT (t_many) (g_many) (z) (Z_) hZ_ (by omega) (by omega)) gX10_copyAll_X10_copyRow rfl rfl rfl (by decide +kernel) ⟨Nat.le_of_ble_eq_true rfl, Nat.le_of_ble_eq_true rfl⟩ hl.1 rfl rfl (Nat.le_of_ble_eq_true rfl) dX10_copyAll_76 ⟨Nat.le_of_ble_eq_true rfl, Nat.le_of_ble_eq_true rfl⟩ (fun u H locs hw hP hD hS => ?_)
        have hP : va_P D vwCl [(m0, .inr (10, fs)), (t_tape, .inl (cB, 2400, .inl fl_)), (t_theatres, .inl (cI, 288, .inl g_theatres)), (t_books, .inl (cI, 968, .inl g_books)), (t_darks, .inl (cI, 56, .inl g_darks))] H := hP
        have hD : va_D A [(m0, .inr (10, fs)), (t_tape, .inl (cB, 2400, .inl fl_)), (t_theatres, .inl (cI, 288, .inl g_theatres)), (t_books, .inl (cI, 968, .inl g_books)), (t_darks, .inl (cI, 56, .inl g_darks))] := hD
        refine W.eq (g2 := F0 m 79 ls []) rfl ?_
        refine lv_aload_n hx hb dX10_copyAll_79 rfl (lv_at hl 1 rfl) ?_
        refine va_get (D := D) (ci := 10) (v := .ref t_theatres) (C := RX10) (T := TX10) (N := 50) hx hb hts (fun _ h => List.mem_cons_of_mem _ (List.mem_append_right _ h)) hown hK.1 hP 0 rfl rfl 6 (by decide) (hts (.fieldLink RX10 26 "ClapBankModel" "theatres" "[I") (List.mem_of_getElem? (i := 6) rfl)) (fun _ h9 => h9) f6 dX10_copyAll_80 ?_
        refine lv_bipush (v := 72) hx hb dX10_copyAll_83 (by decide) ?_
        refine lv_iload_n hx hb dX10_copyAll_85 rfl (lv_at hl 2 rfl) ?_
        refine lv_iload_n hx hb dX10_copyAll_86 rfl (lv_at hl 3 rfl) ?_
        refine doS (n := 4) (As := [.ref t_theatres, .int 72, .int 0, .int z]) (rest := []) (wc := [(t_theatres, .inl (cI, 288, .inl g_theatres))]) (wr := [(m0, .inr (10, fs)), (t_tape, .inl (cB, 2400, .inl fl_)), (t_books, .inl (cI, 968, .inl g_books)), (t_darks, .inl (cI, 56, .inl g_darks))]) hx hb hml hown hts hK hP hD hS hA [2] [0, 1, 3, 4] rfl rfl rfl rfl (by decide) (m_copyRow_72 l D cI cB cJ cZ cT (t_theatres) (g_theatres) (z) (Z_) hZ_ (by omega) (by omega)) gX10_copyAll_X10_copyRow rfl rfl rfl (by decide +kernel) ⟨Nat.le_of_ble_eq_true rfl, Nat.le_of_ble_eq_true rfl⟩ hl.1 rfl rfl (Nat.le_of_ble_eq_true rfl) dX10_copyAll_87 ⟨Nat.le_of_ble_eq_true rfl, Nat.le_of_ble_eq_true rfl⟩ (fun u H locs hw hP hD hS => ?_)
        have hP : va_P D vwCl [(m0, .inr (10, fs)), (t_tape, .inl (cB, 2400, .inl fl_)), (t_books, .inl (cI, 968, .inl g_books)), (t_darks, .inl (cI, 56, .inl g_darks))] H := hP
        have hD : va_D A [(m0, .inr (10, fs)), (t_tape, .inl (cB, 2400, .inl fl_)), (t_books, .inl (cI, 968, .inl g_books)), (t_darks, .inl (cI, 56, .inl g_darks))] := hD
        refine W.eq (g2 := F0 m 90 ls []) rfl ?_
        refine lv_aload_n hx hb dX10_copyAll_90 rfl (lv_at hl 1 rfl) ?_
        refine va_get (D := D) (ci := 10) (v := .ref t_books) (C := RX10) (T := TX10) (N := 50) hx hb hts (fun _ h => List.mem_cons_of_mem _ (List.mem_append_right _ h)) hown hK.1 hP 0 rfl rfl 7 (by decide) (hts (.fieldLink RX10 29 "ClapBankModel" "books" "[I") (List.mem_of_getElem? (i := 7) rfl)) (fun _ h9 => h9) f7 dX10_copyAll_91 ?_
        refine lv_sipush (v := 242) hx hb dX10_copyAll_94 (by decide) ?_
        refine lv_iload_n hx hb dX10_copyAll_97 rfl (lv_at hl 2 rfl) ?_
        refine lv_iload_n hx hb dX10_copyAll_98 rfl (lv_at hl 3 rfl) ?_
        refine doS (n := 4) (As := [.ref t_books, .int 242, .int 0, .int z]) (rest := []) (wc := [(t_books, .inl (cI, 968, .inl g_books))]) (wr := [(m0, .inr (10, fs)), (t_tape, .inl (cB, 2400, .inl fl_)), (t_darks, .inl (cI, 56, .inl g_darks))]) hx hb hml hown hts hK hP hD hS hA [2] [0, 1, 3] rfl rfl rfl rfl (by decide) (m_copyRow_242 l D cI cB cJ cZ cT (t_books) (g_books) (z) (Z_) hZ_ (by omega) (by omega)) gX10_copyAll_X10_copyRow rfl rfl rfl (by decide +kernel) ⟨Nat.le_of_ble_eq_true rfl, Nat.le_of_ble_eq_true rfl⟩ hl.1 rfl rfl (Nat.le_of_ble_eq_true rfl) dX10_copyAll_99 ⟨Nat.le_of_ble_eq_true rfl, Nat.le_of_ble_eq_true rfl⟩ (fun u H locs hw hP hD hS => ?_)
        have hP : va_P D vwCl [(m0, .inr (10, fs)), (t_tape, .inl (cB, 2400, .inl fl_)), (t_darks, .inl (cI, 56, .inl g_darks))] H := hP
        have hD : va_D A [(m0, .inr (10, fs)), (t_tape, .inl (cB, 2400, .inl fl_)), (t_darks, .inl (cI, 56, .inl g_darks))] := hD
        refine W.eq (g2 := F0 m 102 ls []) rfl ?_
        refine lv_aload_n hx hb dX10_copyAll_102 rfl (lv_at hl 1 rfl) ?_
        refine va_get (D := D) (ci := 10) (v := .ref t_darks) (C := RX10) (T := TX10) (N := 50) hx hb hts (fun _ h => List.mem_cons_of_mem _ (List.mem_append_right _ h)) hown hK.1 hP 0 rfl rfl 8 (by decide) (hts (.fieldLink RX10 32 "ClapBankModel" "darks" "[I") (List.mem_of_getElem? (i := 8) rfl)) (fun _ h9 => h9) f8 dX10_copyAll_103 ?_
        refine lv_bipush (v := 14) hx hb dX10_copyAll_106 (by decide) ?_
        refine lv_iload_n hx hb dX10_copyAll_108 rfl (lv_at hl 2 rfl) ?_
        refine lv_iload_n hx hb dX10_copyAll_109 rfl (lv_at hl 3 rfl) ?_
        refine doS (n := 4) (As := [.ref t_darks, .int 14, .int 0, .int z]) (rest := []) (wc := [(t_darks, .inl (cI, 56, .inl g_darks))]) (wr := [(m0, .inr (10, fs)), (t_tape, .inl (cB, 2400, .inl fl_))]) hx hb hml hown hts hK hP hD hS hA [2] [0, 1] rfl rfl rfl rfl (by decide) (m_copyRow_14 l D cI cB cJ cZ cT (t_darks) (g_darks) (z) (Z_) hZ_ (by omega) (by omega)) gX10_copyAll_X10_copyRow rfl rfl rfl (by decide +kernel) ⟨Nat.le_of_ble_eq_true rfl, Nat.le_of_ble_eq_true rfl⟩ hl.1 rfl rfl (Nat.le_of_ble_eq_true rfl) dX10_copyAll_110 ⟨Nat.le_of_ble_eq_true rfl, Nat.le_of_ble_eq_true rfl⟩ (fun u H locs hw hP hD hS => ?_)
        have hP : va_P D vwCl [(m0, .inr (10, fs)), (t_tape, .inl (cB, 2400, .inl fl_))] H := hP
        have hD : va_D A [(m0, .inr (10, fs)), (t_tape, .inl (cB, 2400, .inl fl_))] := hD
        refine W.eq (g2 := F0 m 113 ls []) rfl ?_
        refine W.widen (k := 0) (n := 0) (Nat.le_of_ble_eq_true rfl) (Nat.le_of_ble_eq_true rfl) ?_
        exact ro_v hx hb hr hlocks () rfl (trivial) (hP.sub [0] rfl) (hD.sub [0] (by decide) rfl) hS dX10_copyAll_113
      · skip
        refine lv_aload_n hx hb dX10_copyAll_9 rfl (lv_at hl 1 rfl) ?_
        refine va_get (D := D) (ci := 10) (v := .ref t_tape) (C := RX10) (T := TX10) (N := 50) hx hb hts (fun _ h => List.mem_cons_of_mem _ (List.mem_append_right _ h)) hown hK.1 hP 0 rfl rfl 1 (by decide) (hts (.fieldLink RX10 7 "ClapBankModel" "tape" "[B") (List.mem_of_getElem? (i := 1) rfl)) (fun _ h9 => h9) f1 dX10_copyAll_10 ?_
        refine lv_sipush (v := 600) hx hb dX10_copyAll_13 (by decide) ?_
        refine lv_iload_n hx hb dX10_copyAll_16 rfl (lv_at hl 3 rfl) ?_
        refine lv_imul hx hb dX10_copyAll_17 ?_
        refine lv_topi (fun z4 ez4 => ?_)
        have iz4 : z4.toInt = (600) * (Z_) := by rw [ez4]; exact (i_mul (X := 600) (Y := Z_) (by decide) hZ_ (by omega) (by omega)).trans (by omega)
        refine lv_iload_n hx hb dX10_copyAll_18 rfl (lv_at hl 0 rfl) ?_
        refine lv_iadd hx hb dX10_copyAll_19 ?_
        refine lv_topi (fun z5 ez5 => ?_)
        have iz5 : z5.toInt = (z4.toInt) + (i.toInt) := by rw [ez5]; exact (i_add (X := z4.toInt) (Y := i.toInt) rfl rfl (by omega) (by omega)).trans (by omega)
        refine lv_aload_n hx hb dX10_copyAll_20 rfl (lv_at hl 1 rfl) ?_
        refine va_get (D := D) (ci := 10) (v := .ref t_tape) (C := RX10) (T := TX10) (N := 50) hx hb hts (fun _ h => List.mem_cons_of_mem _ (List.mem_append_right _ h)) hown hK.1 hP 0 rfl rfl 1 (by decide) (hts (.fieldLink RX10 7 "ClapBankModel" "tape" "[B") (List.mem_of_getElem? (i := 1) rfl)) (fun _ h9 => h9) f1 dX10_copyAll_21 ?_
        refine lv_sipush (v := 600) hx hb dX10_copyAll_24 (by decide) ?_
        refine lv_iload_n hx hb dX10_copyAll_27 rfl (lv_at hl 2 rfl) ?_
        refine lv_imul hx hb dX10_copyAll_28 ?_
        refine vz_i (y := 0) (by decide) ?_
        refine lv_iload_n hx hb dX10_copyAll_29 rfl (lv_at hl 0 rfl) ?_
        refine lv_iadd hx hb dX10_copyAll_30 ?_
        refine lv_topi (fun z6 ez6 => ?_)
        have iz6 : z6.toInt = i.toInt := by rw [ez6]; exact (i_add (X := 0) (Y := i.toInt) (by decide) rfl (by omega) (by omega)).trans (by omega)
        refine va_bald hx hb hK.1 hP 1 1 rfl rfl (i_in (X := i.toInt) iz6 (by omega) (by omega)) dX10_copyAll_31 ?_
        refine lv_topi (fun z7 ez7 => ?_)
        refine va_bast hx hb hK.1 hP hD hS 1 1 rfl rfl (i_in (X := z5.toInt) rfl (by omega) (by omega)) dX10_copyAll_32 (fun H locs hP hD hS => ?_)
        have hP : va_P D vwCl [(m0, .inr (10, fs)), (t_tape, .inl (cB, 2400, .inl (upd fl_ (Int32.toNatClampNeg z5) (vp_nar .byte z7)))), (t_size, .inl (cI, 4, .inl g_size)), (t_fault, .inl (cI, 4, .inl g_fault)), (t_faultPlace, .inl (cI, 4, .inl g_faultPlace)), (t_many, .inl (cI, 12, .inl g_many)), (t_theatres, .inl (cI, 288, .inl g_theatres)), (t_books, .inl (cI, 968, .inl g_books)), (t_darks, .inl (cI, 56, .inl g_darks))] H := hP
        have hD : va_D A [(m0, .inr (10, fs)), (t_tape, .inl (cB, 2400, .inl (upd fl_ (Int32.toNatClampNeg z5) (vp_nar .byte z7)))), (t_size, .inl (cI, 4, .inl g_size)), (t_fault, .inl (cI, 4, .inl g_fault)), (t_faultPlace, .inl (cI, 4, .inl g_faultPlace)), (t_many, .inl (cI, 12, .inl g_many)), (t_theatres, .inl (cI, 288, .inl g_theatres)), (t_books, .inl (cI, 968, .inl g_books)), (t_darks, .inl (cI, 56, .inl g_darks))] := hD
        generalize (upd fl_ (Int32.toNatClampNeg z5) (vp_nar .byte z7)) = g8 at hP hD
        obtain ⟨z9, ez9⟩ : ∃ y : Int32, y = i + 1 := ⟨_, rfl⟩
        have iz9 : z9.toInt = i.toInt + 1 := by rw [ez9]; exact (i_add (X := i.toInt) (Y := 1) rfl (by decide) (by omega) (by omega)).trans (by omega)
        refine lv_iinc (v := z9) (lv' := [(3, .int z9), (0, .ref m0), (1, .int 0), (2, .int z)]) hx hb dX10_copyAll_33 hl (k := 0) rfl (by rw [ez9]; rfl) (by decide) rfl (fun ls hl => ?_)
        refine lv_goto (tgt := 2) hx hb dX10_copyAll_36 (by decide) ?_
        exact ih (z9) (g8) _ _ _ (by omega) (hP.sub [0, 1, 2, 3, 4, 5, 6, 7, 8] rfl) (hD.sub [0, 1, 2, 3, 4, 5, 6, 7, 8] (by decide) rfl) hS (lv_sub hl [0, 1, 2, 3] rfl)
  exact lp2 601 (0) (g_tape) _ _ _ (by decide) (hP.sub [0, 1, 2, 3, 4, 5, 6, 7, 8] rfl) (hD.sub [0, 1, 2, 3, 4, 5, 6, 7, 8] (by decide) rfl) hS (lv_sub hl [0, 1, 2, 3] rfl)
set_option maxHeartbeats 400000 in
set_option maxRecDepth 100000 in
theorem y_image (l : Launch) (D : va_G) (cI cB cJ cZ cT : ClassId) (m0 : Nat) (fs : List Value) (t_tape : Nat) (t_size : Nat) (t_fault : Nat) (t_faultPlace : Nat) (t_many : Nat) (t_theatres : Nat) (t_books : Nat) (t_darks : Nat) (t_kept : Nat) (fl : fs.length = 50) (f1 : fs[1]? = some (.ref t_tape)) (f2 : fs[2]? = some (.ref t_size)) (f3 : fs[3]? = some (.ref t_fault)) (f4 : fs[4]? = some (.ref t_faultPlace)) (f5 : fs[5]? = some (.ref t_many)) (f6 : fs[6]? = some (.ref t_theatres)) (f7 : fs[7]? = some (.ref t_books)) (f8 : fs[8]? = some (.ref t_darks)) (f49 : fs[49]? = some (.ref t_kept)) (a : Int32) : Co l yX10_image wsX10_image ({ frames := 2, cells := 0, slots := 0, locals := 47 }) D (tyL cI cB cJ cZ cT) [.ref m0, .int a] [(m0, .inr (10, fs)), (t_tape, .inl (cB, 2400, .inl (fun _ => 0))), (t_size, .inl (cI, 4, .inl (fun _ => 0))), (t_fault, .inl (cI, 4, .inl (fun _ => 0))), (t_faultPlace, .inl (cI, 4, .inl (upd (fun _ => 0) 0 (-1)))), (t_many, .inl (cI, 12, .inl (fun _ => 0))), (t_theatres, .inl (cI, 288, .inl (fun _ => 0))), (t_books, .inl (cI, 968, .inl (fun _ => 0))), (t_darks, .inl (cI, 56, .inl (fun _ => 0))), (t_kept, .inl (cZ, 3, .inl (fun _ => 0)))] (fun u : Int32 => some (.int u)) (fun u : Int32 => u = sp_image a) (fun u : Int32 => ([] : va_W)) 0 0 := by
  refine entry (cc := cX10_image) (maxL := 2) (ret := (some .boolean)) (by decide) rfl (Nat.le_of_ble_eq_true rfl) ?_
  intro p e s m below meth c A ls hx hb hr hml hts hown hlocks hname hK hP hD hS hA hl
  have hown : s.vm.findClass RX10 = some m.cls := hown
  have hl : lv_has ls 2 [(0, .ref m0), (1, .int a)] := hl
  refine lv_aload_n hx hb dX10_image_0 rfl (lv_at hl 0 rfl) ?_
  refine lv_iconst (v := 0) hx hb dX10_image_1 (by decide) ?_
  refine va_put (D := D) (ci := 10) (v := .int 0) (ty := .int) (C := RX10) (T := TX10) (N := 50) hx hb hts (fun _ h => List.mem_cons_of_mem _ (List.mem_append_right _ h)) tyX10 tyX10_ok nmX10 hown hK.1 hP hD hS 0 rfl rfl 0 (by decide) (hts (.fieldLink RX10 80 "ClapBankModel" "code" "I") (List.mem_of_getElem? (i := 1) rfl)) (fun _ h9 => h9) rfl (by decide +kernel) rfl rfl (Nat.lt_of_lt_of_eq (by decide) (Eq.symm fl)) dX10_image_2 (fun H locs hP hD hS => ?_)
  have hP : va_P D vwCl [(m0, .inr (10, (fs.set 0 (.int 0)))), (t_tape, .inl (cB, 2400, .inl (fun _ => 0))), (t_size, .inl (cI, 4, .inl (fun _ => 0))), (t_fault, .inl (cI, 4, .inl (fun _ => 0))), (t_faultPlace, .inl (cI, 4, .inl (upd (fun _ => 0) 0 (-1)))), (t_many, .inl (cI, 12, .inl (fun _ => 0))), (t_theatres, .inl (cI, 288, .inl (fun _ => 0))), (t_books, .inl (cI, 968, .inl (fun _ => 0))), (t_darks, .inl (cI, 56, .inl (fun _ => 0))), (t_kept, .inl (cZ, 3, .inl (fun _ => 0)))] H := hP
  have hD : va_D A [(m0, .inr (10, (fs.set 0 (.int 0)))), (t_tape, .inl (cB, 2400, .inl (fun _ => 0))), (t_size, .inl (cI, 4, .inl (fun _ => 0))), (t_fault, .inl (cI, 4, .inl (fun _ => 0))), (t_faultPlace, .inl (cI, 4, .inl (upd (fun _ => 0) 0 (-1)))), (t_many, .inl (cI, 12, .inl (fun _ => 0))), (t_theatres, .inl (cI, 288, .inl (fun _ => 0))), (t_books, .inl (cI, 968, .inl (fun _ => 0))), (t_darks, .inl (cI, 56, .inl (fun _ => 0))), (t_kept, .inl (cZ, 3, .inl (fun _ => 0)))] := hD
  refine lv_iload_n hx hb dX10_image_5 rfl (lv_at hl 1 rfl) ?_
  refine lv_iconst (v := 0) hx hb dX10_image_6 (by decide) ?_
  refine lv_iconst (v := 2) hx hb dX10_image_7 (by decide) ?_
  refine doS (n := 3) (As := [.int a, .int 0, .int 2]) (rest := []) (wc := ([] : va_W)) (wr := [(m0, .inr (10, (fs.set 0 (.int 0)))), (t_tape, .inl (cB, 2400, .inl (fun _ => 0))), (t_size, .inl (cI, 4, .inl (fun _ => 0))), (t_fault, .inl (cI, 4, .inl (fun _ => 0))), (t_faultPlace, .inl (cI, 4, .inl (upd (fun _ => 0) 0 (-1)))), (t_many, .inl (cI, 12, .inl (fun _ => 0))), (t_theatres, .inl (cI, 288, .inl (fun _ => 0))), (t_books, .inl (cI, 968, .inl (fun _ => 0))), (t_darks, .inl (cI, 56, .inl (fun _ => 0))), (t_kept, .inl (cZ, 3, .inl (fun _ => 0)))]) hx hb hml hown hts hK hP hD hS hA [] [0, 1, 2, 3, 4, 5, 6, 7, 8, 9] rfl rfl rfl rfl (by decide) (m_in l D cI cB cJ cZ cT (a) (a.toInt) rfl (0) (0) (by decide) (2) (2) (by decide)) gX10_image_X10_in rfl rfl rfl (by decide +kernel) ⟨Nat.le_of_ble_eq_true rfl, Nat.le_of_ble_eq_true rfl⟩ hl.1 rfl rfl (Nat.le_of_ble_eq_true rfl) dX10_image_8 ⟨Nat.le_of_ble_eq_true rfl, Nat.le_of_ble_eq_true rfl⟩ (fun u H locs hw hP hD hS => ?_)
  obtain ⟨r_1, rfl⟩ : ∃ z, z = u := ⟨_, rfl⟩
  have hP : va_P D vwCl [(m0, .inr (10, (fs.set 0 (.int 0)))), (t_tape, .inl (cB, 2400, .inl (fun _ => 0))), (t_size, .inl (cI, 4, .inl (fun _ => 0))), (t_fault, .inl (cI, 4, .inl (fun _ => 0))), (t_faultPlace, .inl (cI, 4, .inl (upd (fun _ => 0) 0 (-1)))), (t_many, .inl (cI, 12, .inl (fun _ => 0))), (t_theatres, .inl (cI, 288, .inl (fun _ => 0))), (t_books, .inl (cI, 968, .inl (fun _ => 0))), (t_darks, .inl (cI, 56, .inl (fun _ => 0))), (t_kept, .inl (cZ, 3, .inl (fun _ => 0)))] H := hP
  have hD : va_D A [(m0, .inr (10, (fs.set 0 (.int 0)))), (t_tape, .inl (cB, 2400, .inl (fun _ => 0))), (t_size, .inl (cI, 4, .inl (fun _ => 0))), (t_fault, .inl (cI, 4, .inl (fun _ => 0))), (t_faultPlace, .inl (cI, 4, .inl (upd (fun _ => 0) 0 (-1)))), (t_many, .inl (cI, 12, .inl (fun _ => 0))), (t_theatres, .inl (cI, 288, .inl (fun _ => 0))), (t_books, .inl (cI, 968, .inl (fun _ => 0))), (t_darks, .inl (cI, 56, .inl (fun _ => 0))), (t_kept, .inl (cZ, 3, .inl (fun _ => 0)))] := hD
  refine W.eq (g2 := F0 m 11 ls [.int r_1]) rfl ?_
  have hw : (r_1 = 1 ∧ ((0) ≤ (a.toInt) ∧ (a.toInt) ≤ (2))) ∨ (r_1 = 0 ∧ ((a.toInt) < (0) ∨ (2) < (a.toInt))) := hw
  rcases hw with ⟨rfl, k2⟩ | ⟨rfl, k2⟩
  · skip
    refine bi_ne (tgt := 16) (X := 1) hx hb (by decide) dX10_image_11 (by decide) (fun c3 => ?_) (fun h => absurd h (by decide))
    refine lv_aload_n hx hb dX10_image_16 rfl (lv_at hl 0 rfl) ?_
    refine lv_iconst (v := 0) hx hb dX10_image_17 (by decide) ?_
    refine lv_iload_n hx hb dX10_image_18 rfl (lv_at hl 1 rfl) ?_
    refine lv_iconst (v := 1) hx hb dX10_image_19 (by decide) ?_
    refine lv_iadd hx hb dX10_image_20 ?_
    refine lv_topi (fun z4 ez4 => ?_)
    have iz4 : z4.toInt = a.toInt + 1 := by rw [ez4]; exact (i_add (X := a.toInt) (Y := 1) rfl (by decide) (by omega) (by omega)).trans (by omega)
    refine doV (n := 2) (As := [.int 0, .int z4]) (rest := []) (wc := [(m0, .inr (10, (fs.set 0 (.int 0)))), (t_tape, .inl (cB, 2400, .inl (fun _ => 0))), (t_size, .inl (cI, 4, .inl (fun _ => 0))), (t_fault, .inl (cI, 4, .inl (fun _ => 0))), (t_faultPlace, .inl (cI, 4, .inl (upd (fun _ => 0) 0 (-1)))), (t_many, .inl (cI, 12, .inl (fun _ => 0))), (t_theatres, .inl (cI, 288, .inl (fun _ => 0))), (t_books, .inl (cI, 968, .inl (fun _ => 0))), (t_darks, .inl (cI, 56, .inl (fun _ => 0)))]) (wr := [(t_kept, .inl (cZ, 3, .inl (fun _ => 0)))]) hx hb hml hown hts hK hP hD hS hA [0, 1, 2, 3, 4, 5, 6, 7, 8] [9] rfl rfl rfl rfl (by decide) 0 rfl rfl (m_copyAll l D cI cB cJ cZ cT (m0) ((fs.set 0 (.int 0))) (t_tape) (t_size) (t_fault) (t_faultPlace) (t_many) (t_theatres) (t_books) (t_darks) (fset_len fl) (fset_ne (by decide) f1) (fset_ne (by decide) f2) (fset_ne (by decide) f3) (fset_ne (by decide) f4) (fset_ne (by decide) f5) (fset_ne (by decide) f6) (fset_ne (by decide) f7) (fset_ne (by decide) f8) ((fun _ => 0)) ((fun _ => 0)) ((fun _ => 0)) ((upd (fun _ => 0) 0 (-1))) ((fun _ => 0)) ((fun _ => 0)) ((fun _ => 0)) ((fun _ => 0)) (z4) (a.toInt + 1) iz4 (by omega) (by omega)) gX10_image_X10_copyAll rfl rfl rfl (by decide +kernel) ⟨Nat.le_of_ble_eq_true rfl, Nat.le_of_ble_eq_true rfl⟩ hl.1 rfl rfl (Nat.le_of_ble_eq_true rfl) dX10_image_21 ⟨Nat.le_of_ble_eq_true rfl, Nat.le_of_ble_eq_true rfl⟩ (fun u H locs hw hP hD hS => ?_)
    have hP : va_P D vwCl [(t_kept, .inl (cZ, 3, .inl (fun _ => 0))), (m0, .inr (10, (fs.set 0 (.int 0))))] H := hP
    have hD : va_D A [(t_kept, .inl (cZ, 3, .inl (fun _ => 0))), (m0, .inr (10, (fs.set 0 (.int 0))))] := hD
    refine W.eq (g2 := F0 m 24 ls []) rfl ?_
    refine lv_aload_n hx hb dX10_image_24 rfl (lv_at hl 0 rfl) ?_
    refine va_get (D := D) (ci := 10) (v := .ref t_kept) (C := RX10) (T := TX10) (N := 50) hx hb hts (fun _ h => List.mem_cons_of_mem _ (List.mem_append_right _ h)) hown hK.1 hP 1 rfl rfl 49 (by decide) (hts (.fieldLink RX10 76 "ClapBankModel" "kept" "[Z") (List.mem_of_getElem? (i := 2) rfl)) (fun _ h9 => h9) (fset_ne (by decide) f49) dX10_image_25 ?_
    refine lv_iload_n hx hb dX10_image_28 rfl (lv_at hl 1 rfl) ?_
    refine lv_iconst (v := 1) hx hb dX10_image_29 (by decide) ?_
    refine va_zast hx hb hK.1 hP hD hS 0 3 rfl rfl (i_in (X := a.toInt) rfl (by omega) (by omega)) dX10_image_30 (fun H locs hP hD hS => ?_)
    have hP : va_P D vwCl [(t_kept, .inl (cZ, 3, .inl (upd (fun _ => 0) (Int32.toNatClampNeg a) (1 &&& 1)))), (m0, .inr (10, (fs.set 0 (.int 0))))] H := hP
    have hD : va_D A [(t_kept, .inl (cZ, 3, .inl (upd (fun _ => 0) (Int32.toNatClampNeg a) (1 &&& 1)))), (m0, .inr (10, (fs.set 0 (.int 0))))] := hD
    generalize (upd (fun _ => 0) (Int32.toNatClampNeg a) (1 &&& 1)) = g5 at hP hD
    refine lv_iconst (v := 1) hx hb dX10_image_31 (by decide) ?_
    refine W.widen (k := 0) (n := 0) (Nat.le_of_ble_eq_true rfl) (Nat.le_of_ble_eq_true rfl) ?_
    exact ro_z hx hb hr rfl hlocks (1) rfl ((if_pos (by omega)).symm) (hP.sub [] rfl) (hD.sub [] (by decide) rfl) hS dX10_image_32
  · skip
    refine bi_ne (tgt := 16) (X := 0) hx hb (by decide) dX10_image_11 (by decide) (fun h => absurd h (by decide)) (fun c6 => ?_)
    refine lv_iconst (v := 0) hx hb dX10_image_14 (by decide) ?_
    refine W.widen (k := 0) (n := 0) (Nat.le_of_ble_eq_true rfl) (Nat.le_of_ble_eq_true rfl) ?_
    exact ro_z hx hb hr rfl hlocks (0) rfl ((if_neg (by omega)).symm) (hP.sub [] rfl) (hD.sub [] (by decide) rfl) hS dX10_image_15
