set_option maxHeartbeats 4000000 in
set_option maxRecDepth 100000 in
theorem k_isLetter (l : Launch) (D : va_G) (cI cB cJ cZ cT : ClassId) (a : Int32) : Co l yX5_isLetter wsX5_isLetter ({ frames := 0, cells := 0, slots := 0, locals := 0 }) D (tyL cI cB cJ cZ cT) [.int a] ([] : va_W) (fun u : Int32 => some (.int u)) (fun u : Int32 => (0 ≤ u.toInt ∧ u.toInt ≤ 1) ∧ (R_k_isLetter a u)) (fun u : Int32 => ([] : va_W)) 0 0 := by
  refine entry (cc := cX5_isLetter) (maxL := 1) (ret := (some .boolean)) (by decide) rfl (Nat.le_of_ble_eq_true rfl) ?_
  intro p e s m below meth c A ls hx hb hr hml hts hown hlocks hname hK hP hD hS hA hl
  have hown : s.vm.findClass RX5 = some m.cls := hown
  have hl : lv_has ls 1 [(0, .int a)] := hl
  refine lv_iload_n hx hb dX5_isLetter_0 rfl (lv_at hl 0 rfl) ?_
  refine lv_bipush (v := 97) hx hb dX5_isLetter_1 (by decide) ?_
  have hg_r1 := i_rng a
  refine bc_lt (tgt := 16) (X := a.toInt) (Y := 97) hx hb rfl (by decide) dX5_isLetter_3 (by decide) (fun c2 => ?_) (fun c2 => ?_)
  · skip
    refine lv_iconst (v := 0) hx hb dX5_isLetter_16 (by decide) ?_
    refine W.widen (k := 0) (n := 0) (Nat.le_of_ble_eq_true rfl) (Nat.le_of_ble_eq_true rfl) ?_
    exact ro_z hx hb hr rfl hlocks (0) rfl (⟨(show 0 ≤ (0 : Int32).toInt ∧ (0 : Int32).toInt ≤ 1 from (by decide)), (Or.inl (⟨c2, rfl⟩))⟩) (hP.sub [] rfl) (hD.sub [] (by decide) rfl) hS dX5_isLetter_17
  · skip
    refine lv_iload_n hx hb dX5_isLetter_6 rfl (lv_at hl 0 rfl) ?_
    refine lv_bipush (v := 122) hx hb dX5_isLetter_7 (by decide) ?_
    have hg_r3 := i_rng a
    refine bc_gt (tgt := 16) (X := a.toInt) (Y := 122) hx hb rfl (by decide) dX5_isLetter_9 (by decide) (fun c4 => ?_) (fun c4 => ?_)
    · skip
      refine lv_iconst (v := 0) hx hb dX5_isLetter_16 (by decide) ?_
      refine W.widen (k := 0) (n := 0) (Nat.le_of_ble_eq_true rfl) (Nat.le_of_ble_eq_true rfl) ?_
      exact ro_z hx hb hr rfl hlocks (0) rfl (⟨(show 0 ≤ (0 : Int32).toInt ∧ (0 : Int32).toInt ≤ 1 from (by decide)), (Or.inr (⟨c2, Or.inl (⟨c4, rfl⟩)⟩))⟩) (hP.sub [] rfl) (hD.sub [] (by decide) rfl) hS dX5_isLetter_17
    · skip
      refine lv_iconst (v := 1) hx hb dX5_isLetter_12 (by decide) ?_
      refine lv_goto (tgt := 17) hx hb dX5_isLetter_13 (by decide) ?_
      refine W.widen (k := 0) (n := 0) (Nat.le_of_ble_eq_true rfl) (Nat.le_of_ble_eq_true rfl) ?_
      exact ro_z hx hb hr rfl hlocks (1) rfl (⟨(show 0 ≤ (1 : Int32).toInt ∧ (1 : Int32).toInt ≤ 1 from (by decide)), (Or.inr (⟨c2, Or.inr (⟨c4, rfl⟩)⟩))⟩) (hP.sub [] rfl) (hD.sub [] (by decide) rfl) hS dX5_isLetter_17
set_option maxHeartbeats 4000000 in
set_option maxRecDepth 100000 in
theorem k_isDigit (l : Launch) (D : va_G) (cI cB cJ cZ cT : ClassId) (a : Int32) : Co l yX5_isDigit wsX5_isDigit ({ frames := 0, cells := 0, slots := 0, locals := 0 }) D (tyL cI cB cJ cZ cT) [.int a] ([] : va_W) (fun u : Int32 => some (.int u)) (fun u : Int32 => (0 ≤ u.toInt ∧ u.toInt ≤ 1) ∧ (R_k_isDigit a u)) (fun u : Int32 => ([] : va_W)) 0 0 := by
  refine entry (cc := cX5_isDigit) (maxL := 1) (ret := (some .boolean)) (by decide) rfl (Nat.le_of_ble_eq_true rfl) ?_
  intro p e s m below meth c A ls hx hb hr hml hts hown hlocks hname hK hP hD hS hA hl
  have hown : s.vm.findClass RX5 = some m.cls := hown
  have hl : lv_has ls 1 [(0, .int a)] := hl
  refine lv_iload_n hx hb dX5_isDigit_0 rfl (lv_at hl 0 rfl) ?_
  refine lv_bipush (v := 48) hx hb dX5_isDigit_1 (by decide) ?_
  have hg_r1 := i_rng a
  refine bc_lt (tgt := 16) (X := a.toInt) (Y := 48) hx hb rfl (by decide) dX5_isDigit_3 (by decide) (fun c2 => ?_) (fun c2 => ?_)
  · skip
    refine lv_iconst (v := 0) hx hb dX5_isDigit_16 (by decide) ?_
    refine W.widen (k := 0) (n := 0) (Nat.le_of_ble_eq_true rfl) (Nat.le_of_ble_eq_true rfl) ?_
    exact ro_z hx hb hr rfl hlocks (0) rfl (⟨(show 0 ≤ (0 : Int32).toInt ∧ (0 : Int32).toInt ≤ 1 from (by decide)), (Or.inl (⟨c2, rfl⟩))⟩) (hP.sub [] rfl) (hD.sub [] (by decide) rfl) hS dX5_isDigit_17
  · skip
    refine lv_iload_n hx hb dX5_isDigit_6 rfl (lv_at hl 0 rfl) ?_
    refine lv_bipush (v := 57) hx hb dX5_isDigit_7 (by decide) ?_
    have hg_r3 := i_rng a
    refine bc_gt (tgt := 16) (X := a.toInt) (Y := 57) hx hb rfl (by decide) dX5_isDigit_9 (by decide) (fun c4 => ?_) (fun c4 => ?_)
    · skip
      refine lv_iconst (v := 0) hx hb dX5_isDigit_16 (by decide) ?_
      refine W.widen (k := 0) (n := 0) (Nat.le_of_ble_eq_true rfl) (Nat.le_of_ble_eq_true rfl) ?_
      exact ro_z hx hb hr rfl hlocks (0) rfl (⟨(show 0 ≤ (0 : Int32).toInt ∧ (0 : Int32).toInt ≤ 1 from (by decide)), (Or.inr (⟨c2, Or.inl (⟨c4, rfl⟩)⟩))⟩) (hP.sub [] rfl) (hD.sub [] (by decide) rfl) hS dX5_isDigit_17
    · skip
      refine lv_iconst (v := 1) hx hb dX5_isDigit_12 (by decide) ?_
      refine lv_goto (tgt := 17) hx hb dX5_isDigit_13 (by decide) ?_
      refine W.widen (k := 0) (n := 0) (Nat.le_of_ble_eq_true rfl) (Nat.le_of_ble_eq_true rfl) ?_
      exact ro_z hx hb hr rfl hlocks (1) rfl (⟨(show 0 ≤ (1 : Int32).toInt ∧ (1 : Int32).toInt ≤ 1 from (by decide)), (Or.inr (⟨c2, Or.inr (⟨c4, rfl⟩)⟩))⟩) (hP.sub [] rfl) (hD.sub [] (by decide) rfl) hS dX5_isDigit_17
set_option maxHeartbeats 4000000 in
set_option maxRecDepth 100000 in
theorem k_step (l : Launch) (D : va_G) (cI cB cJ cZ cT : ClassId) (h : Nat) (q : Nat) (n : Int32) (rfault : Int32) (rplace : Int32) (rtoken : Int32) (rfrom : Int32) (rto : Int32) (rvalue : Int32) (rtheatre : Value) (rbook : Value) (rdark : Value) (rnumbers : Value) (m_q : Nat → Int32) (h_rto : 0 ≤ rto.toInt ∧ rto.toInt ≤ 600) (h_m_q : Ri m_q (-128) (127)) (h_n : 0 ≤ n.toInt ∧ n.toInt ≤ 600) : Co l yX5_step wsX5_step ({ frames := 1, cells := 0, slots := 0, locals := 30 }) D (tyL cI cB cJ cZ cT) [.ref h, .ref q, .int n] [(h, .inr (5, [rtheatre, rbook, rdark, rnumbers, .int rfault, .int rplace, .int rtoken, .int rfrom, .int rto, .int rvalue])), (q, .inl (cB, 600, .inl m_q))] (fun u : Int32 × Int32 × Int32 × Int32 => none) (fun u : Int32 × Int32 × Int32 × Int32 => (0 ≤ u.1.toInt ∧ u.1.toInt ≤ 4) ∧ (0 ≤ u.2.1.toInt ∧ u.2.1.toInt ≤ 600) ∧ (0 ≤ u.2.2.1.toInt ∧ u.2.2.1.toInt ≤ 600) ∧ (R_k_step n m_q rvalue rto u.1 u.2.1 u.2.2.1 u.2.2.2)) (fun u : Int32 × Int32 × Int32 × Int32 => [(h, .inr (5, [rtheatre, rbook, rdark, rnumbers, .int rfault, .int rplace, .int u.1, .int u.2.1, .int u.2.2.1, .int u.2.2.2])), (q, .inl (cB, 600, .inl m_q))]) 0 0 := by
  refine entry (cc := cX5_step) (maxL := 4) (ret := none) (by decide) rfl (Nat.le_of_ble_eq_true rfl) ?_
  intro p e s m below meth c A ls hx hb hr hml hts hown hlocks hname hK hP hD hS hA hl
  have hown : s.vm.findClass RX5 = some m.cls := hown
  have hl : lv_has ls 4 [(0, .ref h), (1, .ref q), (2, .int n)] := hl
  refine lv_aload_n hx hb dX5_step_0 rfl (lv_at hl 0 rfl) ?_
  refine va_get (D := D) (ci := 5) (v := .int rto) (C := RX5) (T := TX5) (N := 10) hx hb hts (fun _ h => List.mem_cons_of_mem _ (inAX5 _ h)) hown hK.1 hP 0 rfl rfl 8 (by decide) (hts (.fieldLink RX5 52 "ClapBank$Reader" "to" "I") (List.mem_cons_of_mem _ W_272)) (fun _ h9 => h9) rfl dX5_step_1 ?_
  refine lv_istore_n (lv' := [(3, .int rto), (0, .ref h), (1, .ref q), (2, .int n)]) hx hb dX5_step_4 rfl hl (by decide) rfl (fun ls hl => ?_)
  have lp5_0 : ∀ (nf5 : Nat) (l5_3 : Int32) (H : Heap) (locs : List Loc) (ls : Array Slot), (0 ≤ l5_3.toInt ∧ l5_3.toInt ≤ 600) → (∀ (u0_ : Int32) (u1_ : Int32) (u2_ : Int32) (u3_ : Int32), fx (T_k_step_5 n m_q rvalue u0_ u1_ u2_ u3_) nf5 l5_3 → R_k_step n m_q rvalue rto u0_ u1_ u2_ u3_) → (600 - l5_3.toInt < (nf5 : Int)) → va_P D vwCl [(h, .inr (5, [rtheatre, rbook, rdark, rnumbers, .int rfault, .int rplace, .int rtoken, .int rfrom, .int rto, .int rvalue])), (q, .inl (cB, 600, .inl m_q))] H → va_D A [(h, .inr (5, [rtheatre, rbook, rdark, rnumbers, .int rfault, .int rplace, .int rtoken, .int rfrom, .int rto, .int rvalue])), (q, .inl (cB, 600, .inl m_q))] → va_S A s.heap H locs → lv_has ls 4 [(3, .int l5_3), (0, .ref h), (1, .ref q), (2, .int n)] → W p l e ({ frames := 1, cells := 0, slots := 0, locals := 30 }) s m ([.ref h, .ref q, .int n] : List Value).toArray below meth c H locs 0 0 (MQ below (Qo (fun u : Int32 × Int32 × Int32 × Int32 => none) (fun u : Int32 × Int32 × Int32 × Int32 => (0 ≤ u.1.toInt ∧ u.1.toInt ≤ 4) ∧ (0 ≤ u.2.1.toInt ∧ u.2.1.toInt ≤ 600) ∧ (0 ≤ u.2.2.1.toInt ∧ u.2.2.1.toInt ≤ 600) ∧ (R_k_step n m_q rvalue rto u.1 u.2.1 u.2.2.1 u.2.2.2)) (BW D A (fun u : Int32 × Int32 × Int32 × Int32 => [(h, .inr (5, [rtheatre, rbook, rdark, rnumbers, .int rfault, .int rplace, .int u.1, .int u.2.1, .int u.2.2.1, .int u.2.2.2])), (q, .inl (cB, 600, .inl m_q))])) A) ([.ref h, .ref q, .int n] : List Value).toArray s 0 0 A) (F0 m 5 ls []) := by
    intro nf5
    induction nf5 with
    | zero => intro l5_3 H locs ls h_l5_3 hF5_0 hm5; exact absurd hm5 (by omega)
    | succ nf5 ih5 =>
      intro l5_3 H locs ls h_l5_3 hF5_0 hm5 hP hD hS hl
      refine lv_iload_n hx hb dX5_step_5 rfl (lv_at hl 0 rfl) ?_
      refine lv_iload_n hx hb dX5_step_6 rfl (lv_at hl 3 rfl) ?_
      refine bc_ge (tgt := 32) (X := l5_3.toInt) (Y := n.toInt) hx hb rfl rfl dX5_step_7 (by decide) (fun c2 => ?_) (fun c2 => ?_)
      · skip
        refine lv_aload_n hx hb dX5_step_32 rfl (lv_at hl 1 rfl) ?_
        refine lv_iload_n hx hb dX5_step_33 rfl (lv_at hl 0 rfl) ?_
        refine va_put (D := D) (ci := 5) (v := .int l5_3) (ty := .int) (C := RX5) (T := TX5) (N := 10) hx hb hts (fun _ h => List.mem_cons_of_mem _ (inAX5 _ h)) tyX5 tyX5_ok nmX5 hown hK.1 hP hD hS 0 rfl rfl 7 (by decide) (hts (.fieldLink RX5 101 "ClapBank$Reader" "from" "I") (List.mem_cons_of_mem _ W_289)) (fun _ h9 => h9) rfl (by decide +kernel) rfl rfl (Nat.le_of_ble_eq_true rfl) dX5_step_34 (fun H locs hP hD hS => ?_)
        have hP : va_P D vwCl [(h, .inr (5, [rtheatre, rbook, rdark, rnumbers, .int rfault, .int rplace, .int rtoken, .int l5_3, .int rto, .int rvalue])), (q, .inl (cB, 600, .inl m_q))] H := hP
        have hD : va_D A [(h, .inr (5, [rtheatre, rbook, rdark, rnumbers, .int rfault, .int rplace, .int rtoken, .int l5_3, .int rto, .int rvalue])), (q, .inl (cB, 600, .inl m_q))] := hD
        refine lv_iload_n hx hb dX5_step_37 rfl (lv_at hl 0 rfl) ?_
        refine lv_iload_n hx hb dX5_step_38 rfl (lv_at hl 3 rfl) ?_
        refine bc_lt (tgt := 50) (X := l5_3.toInt) (Y := n.toInt) hx hb rfl rfl dX5_step_39 (by decide) (fun c3 => ?_) (fun c3 => ?_)
        · skip
          refine lv_aload_n hx hb dX5_step_50 rfl (lv_at hl 2 rfl) ?_
          refine lv_iload_n hx hb dX5_step_51 rfl (lv_at hl 0 rfl) ?_
          refine va_bald hx hb hK.1 hP 1 1 rfl rfl (i_in (X := l5_3.toInt) rfl (by omega) (by omega)) dX5_step_52 ?_
          refine lv_topi (fun z4 ez4 => ?_)
          have hv_z4 : -128 ≤ z4.toInt ∧ z4.toInt ≤ 127 := by rw [ez4]; exact h_m_q _
          refine doS (n := 1) (As := [.int z4]) (rest := []) (wc := ([] : va_W)) (wr := [(h, .inr (5, [rtheatre, rbook, rdark, rnumbers, .int rfault, .int rplace, .int rtoken, .int l5_3, .int rto, .int rvalue])), (q, .inl (cB, 600, .inl m_q))]) hx hb hml hown hts hK hP hD hS hA [] [0, 1] rfl rfl rfl rfl (by decide) (k_isLetter l D cI cB cJ cZ cT (z4)) gX5_step_X5_isLetter rfl rfl rfl (by decide +kernel) ⟨Nat.le_of_ble_eq_true rfl, Nat.le_of_ble_eq_true rfl⟩ hl.1 rfl rfl (Nat.le_of_ble_eq_true rfl) dX5_step_53 ⟨Nat.le_of_ble_eq_true rfl, Nat.le_of_ble_eq_true rfl⟩ (fun u H locs hw hP hD hS => ?_)
          obtain ⟨r_5, rfl⟩ : ∃ z, z = u := ⟨_, rfl⟩
          have hP : va_P D vwCl [(h, .inr (5, [rtheatre, rbook, rdark, rnumbers, .int rfault, .int rplace, .int rtoken, .int l5_3, .int rto, .int rvalue])), (q, .inl (cB, 600, .inl m_q))] H := hP
          have hD : va_D A [(h, .inr (5, [rtheatre, rbook, rdark, rnumbers, .int rfault, .int rplace, .int rtoken, .int l5_3, .int rto, .int rvalue])), (q, .inl (cB, 600, .inl m_q))] := hD
          refine W.eq (g2 := F0 m 56 ls [.int r_5]) rfl ?_
          replace hw : (0 ≤ r_5.toInt ∧ r_5.toInt ≤ 1) ∧ (R_k_isLetter z4 r_5) := hw
          obtain ⟨hb_r_5, hxq_5⟩ := hw
          replace hxq_5 := hid hxq_5
          refine bi_eq (tgt := 84) (X := r_5.toInt) hx hb rfl dX5_step_56 (by decide) (fun c7 => ?_) (fun c7 => ?_)
          · skip
            refine lv_aload_n hx hb dX5_step_84 rfl (lv_at hl 2 rfl) ?_
            refine lv_iload_n hx hb dX5_step_85 rfl (lv_at hl 0 rfl) ?_
            refine va_bald hx hb hK.1 hP 1 1 rfl rfl (i_in (X := l5_3.toInt) rfl (by omega) (by omega)) dX5_step_86 ?_
            refine vz_i (y := z4) ez4.symm ?_
            refine doS (n := 1) (As := [.int z4]) (rest := []) (wc := ([] : va_W)) (wr := [(h, .inr (5, [rtheatre, rbook, rdark, rnumbers, .int rfault, .int rplace, .int rtoken, .int l5_3, .int rto, .int rvalue])), (q, .inl (cB, 600, .inl m_q))]) hx hb hml hown hts hK hP hD hS hA [] [0, 1] rfl rfl rfl rfl (by decide) (k_isDigit l D cI cB cJ cZ cT (z4)) gX5_step_X5_isDigit rfl rfl rfl (by decide +kernel) ⟨Nat.le_of_ble_eq_true rfl, Nat.le_of_ble_eq_true rfl⟩ hl.1 rfl rfl (Nat.le_of_ble_eq_true rfl) dX5_step_87 ⟨Nat.le_of_ble_eq_true rfl, Nat.le_of_ble_eq_true rfl⟩ (fun u H locs hw hP hD hS => ?_)
            obtain ⟨r_8, rfl⟩ : ∃ z, z = u := ⟨_, rfl⟩
            have hP : va_P D vwCl [(h, .inr (5, [rtheatre, rbook, rdark, rnumbers, .int rfault, .int rplace, .int rtoken, .int l5_3, .int rto, .int rvalue])), (q, .inl (cB, 600, .inl m_q))] H := hP
            have hD : va_D A [(h, .inr (5, [rtheatre, rbook, rdark, rnumbers, .int rfault, .int rplace, .int rtoken, .int l5_3, .int rto, .int rvalue])), (q, .inl (cB, 600, .inl m_q))] := hD
            refine W.eq (g2 := F0 m 90 ls [.int r_8]) rfl ?_
            replace hw : (0 ≤ r_8.toInt ∧ r_8.toInt ≤ 1) ∧ (R_k_isDigit z4 r_8) := hw
            obtain ⟨hb_r_8, hxq_8⟩ := hw
            replace hxq_8 := hid hxq_8
            refine bi_eq (tgt := 164) (X := r_8.toInt) hx hb rfl dX5_step_90 (by decide) (fun c10 => ?_) (fun c10 => ?_)
            · skip
              refine lv_aload_n hx hb dX5_step_164 rfl (lv_at hl 1 rfl) ?_
              refine lv_aload_n hx hb dX5_step_165 rfl (lv_at hl 2 rfl) ?_
              refine lv_iload_n hx hb dX5_step_166 rfl (lv_at hl 0 rfl) ?_
              refine va_bald hx hb hK.1 hP 1 1 rfl rfl (i_in (X := l5_3.toInt) rfl (by omega) (by omega)) dX5_step_167 ?_
              refine vz_i (y := z4) ez4.symm ?_
              refine lv_bipush (v := 59) hx hb dX5_step_168 (by decide) ?_
              refine bc_ne (tgt := 177) (X := z4.toInt) (Y := 59) hx hb rfl (by decide) dX5_step_170 (by decide) (fun c11 => ?_) (fun c11 => ?_)
              · skip
                refine lv_iconst (v := 4) hx hb dX5_step_177 (by decide) ?_
                refine va_put (D := D) (ci := 5) (v := .int 4) (ty := .int) (C := RX5) (T := TX5) (N := 10) hx hb hts (fun _ h => List.mem_cons_of_mem _ (inAX5 _ h)) tyX5 tyX5_ok nmX5 hown hK.1 hP hD hS 0 rfl rfl 6 (by decide) (hts (.fieldLink RX5 59 "ClapBank$Reader" "token" "I") (List.mem_cons_of_mem _ W_273)) (fun _ h9 => h9) rfl (by decide +kernel) rfl rfl (Nat.le_of_ble_eq_true rfl) dX5_step_178 (fun H locs hP hD hS => ?_)
                have hP : va_P D vwCl [(h, .inr (5, [rtheatre, rbook, rdark, rnumbers, .int rfault, .int rplace, .int 4, .int l5_3, .int rto, .int rvalue])), (q, .inl (cB, 600, .inl m_q))] H := hP
                have hD : va_D A [(h, .inr (5, [rtheatre, rbook, rdark, rnumbers, .int rfault, .int rplace, .int 4, .int l5_3, .int rto, .int rvalue])), (q, .inl (cB, 600, .inl m_q))] := hD
                obtain ⟨z12, ez12⟩ : ∃ y : Int32, y = l5_3 + 1 := ⟨_, rfl⟩
                have iz12 : z12.toInt = l5_3.toInt + 1 := by rw [ez12]; exact (i_add (X := l5_3.toInt) (Y := 1) rfl (by decide) (by have h8 := i_rng (l5_3); have h9 := i_rng (1); omega) (by have h8 := i_rng (l5_3); have h9 := i_rng (1); omega)).trans (by omega)
                refine lv_iinc (v := z12) (lv' := [(3, .int z12), (0, .ref h), (1, .ref q), (2, .int n)]) hx hb dX5_step_181 hl (k := 0) rfl (by rw [ez12]; rfl) (by decide) rfl (fun ls hl => ?_)
                refine lv_aload_n hx hb dX5_step_184 rfl (lv_at hl 1 rfl) ?_
                refine lv_iload_n hx hb dX5_step_185 rfl (lv_at hl 0 rfl) ?_
                refine va_put (D := D) (ci := 5) (v := .int z12) (ty := .int) (C := RX5) (T := TX5) (N := 10) hx hb hts (fun _ h => List.mem_cons_of_mem _ (inAX5 _ h)) tyX5 tyX5_ok nmX5 hown hK.1 hP hD hS 0 rfl rfl 8 (by decide) (hts (.fieldLink RX5 52 "ClapBank$Reader" "to" "I") (List.mem_cons_of_mem _ W_272)) (fun _ h9 => h9) rfl (by decide +kernel) rfl rfl (Nat.le_of_ble_eq_true rfl) dX5_step_186 (fun H locs hP hD hS => ?_)
                have hP : va_P D vwCl [(h, .inr (5, [rtheatre, rbook, rdark, rnumbers, .int rfault, .int rplace, .int 4, .int l5_3, .int z12, .int rvalue])), (q, .inl (cB, 600, .inl m_q))] H := hP
                have hD : va_D A [(h, .inr (5, [rtheatre, rbook, rdark, rnumbers, .int rfault, .int rplace, .int 4, .int l5_3, .int z12, .int rvalue])), (q, .inl (cB, 600, .inl m_q))] := hD
                refine W.widen (k := 0) (n := 0) (Nat.le_of_ble_eq_true rfl) (Nat.le_of_ble_eq_true rfl) ?_
                exact ro_v hx hb hr hlocks (4, l5_3, z12, rvalue) rfl (⟨(show 0 ≤ (4 : Int32).toInt ∧ (4 : Int32).toInt ≤ 4 from (by decide)), (show 0 ≤ (l5_3 : Int32).toInt ∧ (l5_3 : Int32).toInt ≤ 600 from (by have h9 := i_rng (l5_3); omega)), (show 0 ≤ (z12 : Int32).toInt ∧ (z12 : Int32).toInt ≤ 600 from (by have h9 := i_rng (z12); omega)), (hF5_0 _ _ _ _ (fx_s (Or.inl (⟨c2, Or.inl (⟨c3, ⟨_, ez4, ⟨_, (unhid hxq_5), Or.inl (⟨c7, ⟨_, (unhid hxq_8), Or.inl (⟨c10, Or.inl (⟨c11, ⟨_, ez12, ⟨rfl, rfl, rfl, rfl⟩⟩⟩)⟩)⟩⟩)⟩⟩⟩)⟩))))⟩) (hP.sub [0, 1] rfl) (hD.sub [0, 1] (by decide) rfl) hS dX5_step_189
              · skip
                refine lv_iconst (v := 3) hx hb dX5_step_173 (by decide) ?_
                refine lv_goto (tgt := 178) hx hb dX5_step_174 (by decide) ?_
                refine va_put (D := D) (ci := 5) (v := .int 3) (ty := .int) (C := RX5) (T := TX5) (N := 10) hx hb hts (fun _ h => List.mem_cons_of_mem _ (inAX5 _ h)) tyX5 tyX5_ok nmX5 hown hK.1 hP hD hS 0 rfl rfl 6 (by decide) (hts (.fieldLink RX5 59 "ClapBank$Reader" "token" "I") (List.mem_cons_of_mem _ W_273)) (fun _ h9 => h9) rfl (by decide +kernel) rfl rfl (Nat.le_of_ble_eq_true rfl) dX5_step_178 (fun H locs hP hD hS => ?_)
                have hP : va_P D vwCl [(h, .inr (5, [rtheatre, rbook, rdark, rnumbers, .int rfault, .int rplace, .int 3, .int l5_3, .int rto, .int rvalue])), (q, .inl (cB, 600, .inl m_q))] H := hP
                have hD : va_D A [(h, .inr (5, [rtheatre, rbook, rdark, rnumbers, .int rfault, .int rplace, .int 3, .int l5_3, .int rto, .int rvalue])), (q, .inl (cB, 600, .inl m_q))] := hD
                obtain ⟨z13, ez13⟩ : ∃ y : Int32, y = l5_3 + 1 := ⟨_, rfl⟩
                have iz13 : z13.toInt = l5_3.toInt + 1 := by rw [ez13]; exact (i_add (X := l5_3.toInt) (Y := 1) rfl (by decide) (by have h8 := i_rng (l5_3); have h9 := i_rng (1); omega) (by have h8 := i_rng (l5_3); have h9 := i_rng (1); omega)).trans (by omega)
                refine lv_iinc (v := z13) (lv' := [(3, .int z13), (0, .ref h), (1, .ref q), (2, .int n)]) hx hb dX5_step_181 hl (k := 0) rfl (by rw [ez13]; rfl) (by decide) rfl (fun ls hl => ?_)
                refine lv_aload_n hx hb dX5_step_184 rfl (lv_at hl 1 rfl) ?_
                refine lv_iload_n hx hb dX5_step_185 rfl (lv_at hl 0 rfl) ?_
                refine va_put (D := D) (ci := 5) (v := .int z13) (ty := .int) (C := RX5) (T := TX5) (N := 10) hx hb hts (fun _ h => List.mem_cons_of_mem _ (inAX5 _ h)) tyX5 tyX5_ok nmX5 hown hK.1 hP hD hS 0 rfl rfl 8 (by decide) (hts (.fieldLink RX5 52 "ClapBank$Reader" "to" "I") (List.mem_cons_of_mem _ W_272)) (fun _ h9 => h9) rfl (by decide +kernel) rfl rfl (Nat.le_of_ble_eq_true rfl) dX5_step_186 (fun H locs hP hD hS => ?_)
                have hP : va_P D vwCl [(h, .inr (5, [rtheatre, rbook, rdark, rnumbers, .int rfault, .int rplace, .int 3, .int l5_3, .int z13, .int rvalue])), (q, .inl (cB, 600, .inl m_q))] H := hP
                have hD : va_D A [(h, .inr (5, [rtheatre, rbook, rdark, rnumbers, .int rfault, .int rplace, .int 3, .int l5_3, .int z13, .int rvalue])), (q, .inl (cB, 600, .inl m_q))] := hD
                refine W.widen (k := 0) (n := 0) (Nat.le_of_ble_eq_true rfl) (Nat.le_of_ble_eq_true rfl) ?_
                exact ro_v hx hb hr hlocks (3, l5_3, z13, rvalue) rfl (⟨(show 0 ≤ (3 : Int32).toInt ∧ (3 : Int32).toInt ≤ 4 from (by decide)), (show 0 ≤ (l5_3 : Int32).toInt ∧ (l5_3 : Int32).toInt ≤ 600 from (by have h9 := i_rng (l5_3); omega)), (show 0 ≤ (z13 : Int32).toInt ∧ (z13 : Int32).toInt ≤ 600 from (by have h9 := i_rng (z13); omega)), (hF5_0 _ _ _ _ (fx_s (Or.inl (⟨c2, Or.inl (⟨c3, ⟨_, ez4, ⟨_, (unhid hxq_5), Or.inl (⟨c7, ⟨_, (unhid hxq_8), Or.inl (⟨c10, Or.inr (⟨c11, ⟨_, ez13, ⟨rfl, rfl, rfl, rfl⟩⟩⟩)⟩)⟩⟩)⟩⟩⟩)⟩))))⟩) (hP.sub [0, 1] rfl) (hD.sub [0, 1] (by decide) rfl) hS dX5_step_189
            · skip
              refine lv_aload_n hx hb dX5_step_93 rfl (lv_at hl 1 rfl) ?_
              refine lv_iconst (v := 0) hx hb dX5_step_94 (by decide) ?_
              refine va_put (D := D) (ci := 5) (v := .int 0) (ty := .int) (C := RX5) (T := TX5) (N := 10) hx hb hts (fun _ h => List.mem_cons_of_mem _ (inAX5 _ h)) tyX5 tyX5_ok nmX5 hown hK.1 hP hD hS 0 rfl rfl 9 (by decide) (hts (.fieldLink RX5 91 "ClapBank$Reader" "value" "I") (List.mem_cons_of_mem _ W_290)) (fun _ h9 => h9) rfl (by decide +kernel) rfl rfl (Nat.le_of_ble_eq_true rfl) dX5_step_95 (fun H locs hP hD hS => ?_)
              have hP : va_P D vwCl [(h, .inr (5, [rtheatre, rbook, rdark, rnumbers, .int rfault, .int rplace, .int rtoken, .int l5_3, .int rto, .int 0])), (q, .inl (cB, 600, .inl m_q))] H := hP
              have hD : va_D A [(h, .inr (5, [rtheatre, rbook, rdark, rnumbers, .int rfault, .int rplace, .int rtoken, .int l5_3, .int rto, .int 0])), (q, .inl (cB, 600, .inl m_q))] := hD
              have lp98_13 : ∀ (nf98 : Nat) (l98_3 : Int32) (f98_h_9 : Int32) (H : Heap) (locs : List Loc) (ls : Array Slot), (0 ≤ l98_3.toInt ∧ l98_3.toInt ≤ 600) → (-2147483648 ≤ f98_h_9.toInt ∧ f98_h_9.toInt ≤ 9999) → (∀ (u0_ : Int32) (u1_ : Int32) (u2_ : Int32) (u3_ : Int32), fx (T_k_step_98 n l5_3 m_q u0_ u1_ u2_ u3_) nf98 (l98_3, f98_h_9) → R_k_step n m_q rvalue rto u0_ u1_ u2_ u3_) → (600 - l98_3.toInt < (nf98 : Int)) → va_P D vwCl [(h, .inr (5, [rtheatre, rbook, rdark, rnumbers, .int rfault, .int rplace, .int rtoken, .int l5_3, .int rto, .int f98_h_9])), (q, .inl (cB, 600, .inl m_q))] H → va_D A [(h, .inr (5, [rtheatre, rbook, rdark, rnumbers, .int rfault, .int rplace, .int rtoken, .int l5_3, .int rto, .int f98_h_9])), (q, .inl (cB, 600, .inl m_q))] → va_S A s.heap H locs → lv_has ls 4 [(3, .int l98_3), (0, .ref h), (1, .ref q), (2, .int n)] → W p l e ({ frames := 1, cells := 0, slots := 0, locals := 30 }) s m ([.ref h, .ref q, .int n] : List Value).toArray below meth c H locs 0 0 (MQ below (Qo (fun u : Int32 × Int32 × Int32 × Int32 => none) (fun u : Int32 × Int32 × Int32 × Int32 => (0 ≤ u.1.toInt ∧ u.1.toInt ≤ 4) ∧ (0 ≤ u.2.1.toInt ∧ u.2.1.toInt ≤ 600) ∧ (0 ≤ u.2.2.1.toInt ∧ u.2.2.1.toInt ≤ 600) ∧ (R_k_step n m_q rvalue rto u.1 u.2.1 u.2.2.1 u.2.2.2)) (BW D A (fun u : Int32 × Int32 × Int32 × Int32 => [(h, .inr (5, [rtheatre, rbook, rdark, rnumbers, .int rfault, .int rplace, .int u.1, .int u.2.1, .int u.2.2.1, .int u.2.2.2])), (q, .inl (cB, 600, .inl m_q))])) A) ([.ref h, .ref q, .int n] : List Value).toArray s 0 0 A) (F0 m 98 ls []) := by
                intro nf98
                induction nf98 with
                | zero => intro l98_3 f98_h_9 H locs ls h_l98_3 h_f98_h_9 hF98_13 hm98; exact absurd hm98 (by omega)
                | succ nf98 ih98 =>
                  intro l98_3 f98_h_9 H locs ls h_l98_3 h_f98_h_9 hF98_13 hm98 hP hD hS hl
                  refine lv_iload_n hx hb dX5_step_98 rfl (lv_at hl 0 rfl) ?_
                  refine lv_iload_n hx hb dX5_step_99 rfl (lv_at hl 3 rfl) ?_
                  refine bc_ge (tgt := 142) (X := l98_3.toInt) (Y := n.toInt) hx hb rfl rfl dX5_step_100 (by decide) (fun c15 => ?_) (fun c15 => ?_)
                  · skip
                    refine lv_aload_n hx hb dX5_step_142 rfl (lv_at hl 1 rfl) ?_
                    refine lv_iload_n hx hb dX5_step_143 rfl (lv_at hl 0 rfl) ?_
                    refine lv_aload_n hx hb dX5_step_144 rfl (lv_at hl 1 rfl) ?_
                    refine va_get (D := D) (ci := 5) (v := .int l5_3) (C := RX5) (T := TX5) (N := 10) hx hb hts (fun _ h => List.mem_cons_of_mem _ (inAX5 _ h)) hown hK.1 hP 0 rfl rfl 7 (by decide) (hts (.fieldLink RX5 101 "ClapBank$Reader" "from" "I") (List.mem_cons_of_mem _ W_289)) (fun _ h9 => h9) rfl dX5_step_145 ?_
                    refine lv_isub hx hb dX5_step_148 ?_
                    refine lv_topi (fun z16 ez16 => ?_)
                    have iz16 : z16.toInt = (l98_3.toInt) - (l5_3.toInt) := by rw [ez16]; exact (i_sub (X := l98_3.toInt) (Y := l5_3.toInt) rfl rfl (by have h8 := i_rng (l98_3); have h9 := i_rng (l5_3); omega) (by have h8 := i_rng (l98_3); have h9 := i_rng (l5_3); omega)).trans (by omega)
                    refine lv_iconst (v := 3) hx hb dX5_step_149 (by decide) ?_
                    refine bc_gt (tgt := 157) (X := z16.toInt) (Y := 3) hx hb rfl (by decide) dX5_step_150 (by decide) (fun c17 => ?_) (fun c17 => ?_)
                    · skip
                      refine lv_iconst (v := 4) hx hb dX5_step_157 (by decide) ?_
                      refine va_put (D := D) (ci := 5) (v := .int 4) (ty := .int) (C := RX5) (T := TX5) (N := 10) hx hb hts (fun _ h => List.mem_cons_of_mem _ (inAX5 _ h)) tyX5 tyX5_ok nmX5 hown hK.1 hP hD hS 0 rfl rfl 6 (by decide) (hts (.fieldLink RX5 59 "ClapBank$Reader" "token" "I") (List.mem_cons_of_mem _ W_273)) (fun _ h9 => h9) rfl (by decide +kernel) rfl rfl (Nat.le_of_ble_eq_true rfl) dX5_step_158 (fun H locs hP hD hS => ?_)
                      have hP : va_P D vwCl [(h, .inr (5, [rtheatre, rbook, rdark, rnumbers, .int rfault, .int rplace, .int 4, .int l5_3, .int rto, .int f98_h_9])), (q, .inl (cB, 600, .inl m_q))] H := hP
                      have hD : va_D A [(h, .inr (5, [rtheatre, rbook, rdark, rnumbers, .int rfault, .int rplace, .int 4, .int l5_3, .int rto, .int f98_h_9])), (q, .inl (cB, 600, .inl m_q))] := hD
                      refine lv_goto (tgt := 184) hx hb dX5_step_161 (by decide) ?_
                      refine lv_aload_n hx hb dX5_step_184 rfl (lv_at hl 1 rfl) ?_
                      refine lv_iload_n hx hb dX5_step_185 rfl (lv_at hl 0 rfl) ?_
                      refine va_put (D := D) (ci := 5) (v := .int l98_3) (ty := .int) (C := RX5) (T := TX5) (N := 10) hx hb hts (fun _ h => List.mem_cons_of_mem _ (inAX5 _ h)) tyX5 tyX5_ok nmX5 hown hK.1 hP hD hS 0 rfl rfl 8 (by decide) (hts (.fieldLink RX5 52 "ClapBank$Reader" "to" "I") (List.mem_cons_of_mem _ W_272)) (fun _ h9 => h9) rfl (by decide +kernel) rfl rfl (Nat.le_of_ble_eq_true rfl) dX5_step_186 (fun H locs hP hD hS => ?_)
                      have hP : va_P D vwCl [(h, .inr (5, [rtheatre, rbook, rdark, rnumbers, .int rfault, .int rplace, .int 4, .int l5_3, .int l98_3, .int f98_h_9])), (q, .inl (cB, 600, .inl m_q))] H := hP
                      have hD : va_D A [(h, .inr (5, [rtheatre, rbook, rdark, rnumbers, .int rfault, .int rplace, .int 4, .int l5_3, .int l98_3, .int f98_h_9])), (q, .inl (cB, 600, .inl m_q))] := hD
                      refine W.widen (k := 0) (n := 0) (Nat.le_of_ble_eq_true rfl) (Nat.le_of_ble_eq_true rfl) ?_
                      exact ro_v hx hb hr hlocks (4, l5_3, l98_3, f98_h_9) rfl (⟨(show 0 ≤ (4 : Int32).toInt ∧ (4 : Int32).toInt ≤ 4 from (by decide)), (show 0 ≤ (l5_3 : Int32).toInt ∧ (l5_3 : Int32).toInt ≤ 600 from (by have h9 := i_rng (l5_3); omega)), (show 0 ≤ (l98_3 : Int32).toInt ∧ (l98_3 : Int32).toInt ≤ 600 from (by have h9 := i_rng (l98_3); omega)), (hF98_13 _ _ _ _ (fx_s (Or.inl (⟨c15, ⟨_, ez16, Or.inl (⟨c17, ⟨rfl, rfl, rfl, rfl⟩⟩)⟩⟩))))⟩) (hP.sub [0, 1] rfl) (hD.sub [0, 1] (by decide) rfl) hS dX5_step_189
                    · skip
                      refine lv_iconst (v := 2) hx hb dX5_step_153 (by decide) ?_
                      refine lv_goto (tgt := 158) hx hb dX5_step_154 (by decide) ?_
                      refine va_put (D := D) (ci := 5) (v := .int 2) (ty := .int) (C := RX5) (T := TX5) (N := 10) hx hb hts (fun _ h => List.mem_cons_of_mem _ (inAX5 _ h)) tyX5 tyX5_ok nmX5 hown hK.1 hP hD hS 0 rfl rfl 6 (by decide) (hts (.fieldLink RX5 59 "ClapBank$Reader" "token" "I") (List.mem_cons_of_mem _ W_273)) (fun _ h9 => h9) rfl (by decide +kernel) rfl rfl (Nat.le_of_ble_eq_true rfl) dX5_step_158 (fun H locs hP hD hS => ?_)
                      have hP : va_P D vwCl [(h, .inr (5, [rtheatre, rbook, rdark, rnumbers, .int rfault, .int rplace, .int 2, .int l5_3, .int rto, .int f98_h_9])), (q, .inl (cB, 600, .inl m_q))] H := hP
                      have hD : va_D A [(h, .inr (5, [rtheatre, rbook, rdark, rnumbers, .int rfault, .int rplace, .int 2, .int l5_3, .int rto, .int f98_h_9])), (q, .inl (cB, 600, .inl m_q))] := hD
                      refine lv_goto (tgt := 184) hx hb dX5_step_161 (by decide) ?_
                      refine lv_aload_n hx hb dX5_step_184 rfl (lv_at hl 1 rfl) ?_
                      refine lv_iload_n hx hb dX5_step_185 rfl (lv_at hl 0 rfl) ?_
                      refine va_put (D := D) (ci := 5) (v := .int l98_3) (ty := .int) (C := RX5) (T := TX5) (N := 10) hx hb hts (fun _ h => List.mem_cons_of_mem _ (inAX5 _ h)) tyX5 tyX5_ok nmX5 hown hK.1 hP hD hS 0 rfl rfl 8 (by decide) (hts (.fieldLink RX5 52 "ClapBank$Reader" "to" "I") (List.mem_cons_of_mem _ W_272)) (fun _ h9 => h9) rfl (by decide +kernel) rfl rfl (Nat.le_of_ble_eq_true rfl) dX5_step_186 (fun H locs hP hD hS => ?_)
                      have hP : va_P D vwCl [(h, .inr (5, [rtheatre, rbook, rdark, rnumbers, .int rfault, .int rplace, .int 2, .int l5_3, .int l98_3, .int f98_h_9])), (q, .inl (cB, 600, .inl m_q))] H := hP
                      have hD : va_D A [(h, .inr (5, [rtheatre, rbook, rdark, rnumbers, .int rfault, .int rplace, .int 2, .int l5_3, .int l98_3, .int f98_h_9])), (q, .inl (cB, 600, .inl m_q))] := hD
                      refine W.widen (k := 0) (n := 0) (Nat.le_of_ble_eq_true rfl) (Nat.le_of_ble_eq_true rfl) ?_
                      exact ro_v hx hb hr hlocks (2, l5_3, l98_3, f98_h_9) rfl (⟨(show 0 ≤ (2 : Int32).toInt ∧ (2 : Int32).toInt ≤ 4 from (by decide)), (show 0 ≤ (l5_3 : Int32).toInt ∧ (l5_3 : Int32).toInt ≤ 600 from (by have h9 := i_rng (l5_3); omega)), (show 0 ≤ (l98_3 : Int32).toInt ∧ (l98_3 : Int32).toInt ≤ 600 from (by have h9 := i_rng (l98_3); omega)), (hF98_13 _ _ _ _ (fx_s (Or.inl (⟨c15, ⟨_, ez16, Or.inr (⟨c17, ⟨rfl, rfl, rfl, rfl⟩⟩)⟩⟩))))⟩) (hP.sub [0, 1] rfl) (hD.sub [0, 1] (by decide) rfl) hS dX5_step_189
                  · skip
                    refine lv_aload_n hx hb dX5_step_103 rfl (lv_at hl 2 rfl) ?_
                    refine lv_iload_n hx hb dX5_step_104 rfl (lv_at hl 0 rfl) ?_
                    refine va_bald hx hb hK.1 hP 1 1 rfl rfl (i_in (X := l98_3.toInt) rfl (by omega) (by omega)) dX5_step_105 ?_
                    refine lv_topi (fun z18 ez18 => ?_)
                    have hv_z18 : -128 ≤ z18.toInt ∧ z18.toInt ≤ 127 := by rw [ez18]; exact h_m_q _
                    refine doS (n := 1) (As := [.int z18]) (rest := []) (wc := ([] : va_W)) (wr := [(h, .inr (5, [rtheatre, rbook, rdark, rnumbers, .int rfault, .int rplace, .int rtoken, .int l5_3, .int rto, .int f98_h_9])), (q, .inl (cB, 600, .inl m_q))]) hx hb hml hown hts hK hP hD hS hA [] [0, 1] rfl rfl rfl rfl (by decide) (k_isDigit l D cI cB cJ cZ cT (z18)) gX5_step_X5_isDigit rfl rfl rfl (by decide +kernel) ⟨Nat.le_of_ble_eq_true rfl, Nat.le_of_ble_eq_true rfl⟩ hl.1 rfl rfl (Nat.le_of_ble_eq_true rfl) dX5_step_106 ⟨Nat.le_of_ble_eq_true rfl, Nat.le_of_ble_eq_true rfl⟩ (fun u H locs hw hP hD hS => ?_)
                    obtain ⟨r_19, rfl⟩ : ∃ z, z = u := ⟨_, rfl⟩
                    have hP : va_P D vwCl [(h, .inr (5, [rtheatre, rbook, rdark, rnumbers, .int rfault, .int rplace, .int rtoken, .int l5_3, .int rto, .int f98_h_9])), (q, .inl (cB, 600, .inl m_q))] H := hP
                    have hD : va_D A [(h, .inr (5, [rtheatre, rbook, rdark, rnumbers, .int rfault, .int rplace, .int rtoken, .int l5_3, .int rto, .int f98_h_9])), (q, .inl (cB, 600, .inl m_q))] := hD
                    refine W.eq (g2 := F0 m 109 ls [.int r_19]) rfl ?_
                    replace hw : (0 ≤ r_19.toInt ∧ r_19.toInt ≤ 1) ∧ (R_k_isDigit z18 r_19) := hw
                    obtain ⟨hb_r_19, hxq_19⟩ := hw
                    replace hxq_19 := hid hxq_19
                    refine bi_eq (tgt := 142) (X := r_19.toInt) hx hb rfl dX5_step_109 (by decide) (fun c21 => ?_) (fun c21 => ?_)
                    · skip
                      refine lv_aload_n hx hb dX5_step_142 rfl (lv_at hl 1 rfl) ?_
                      refine lv_iload_n hx hb dX5_step_143 rfl (lv_at hl 0 rfl) ?_
                      refine lv_aload_n hx hb dX5_step_144 rfl (lv_at hl 1 rfl) ?_
                      refine va_get (D := D) (ci := 5) (v := .int l5_3) (C := RX5) (T := TX5) (N := 10) hx hb hts (fun _ h => List.mem_cons_of_mem _ (inAX5 _ h)) hown hK.1 hP 0 rfl rfl 7 (by decide) (hts (.fieldLink RX5 101 "ClapBank$Reader" "from" "I") (List.mem_cons_of_mem _ W_289)) (fun _ h9 => h9) rfl dX5_step_145 ?_
                      refine lv_isub hx hb dX5_step_148 ?_
                      refine lv_topi (fun z22 ez22 => ?_)
                      have iz22 : z22.toInt = (l98_3.toInt) - (l5_3.toInt) := by rw [ez22]; exact (i_sub (X := l98_3.toInt) (Y := l5_3.toInt) rfl rfl (by have h8 := i_rng (l98_3); have h9 := i_rng (l5_3); omega) (by have h8 := i_rng (l98_3); have h9 := i_rng (l5_3); omega)).trans (by omega)
                      refine lv_iconst (v := 3) hx hb dX5_step_149 (by decide) ?_
                      refine bc_gt (tgt := 157) (X := z22.toInt) (Y := 3) hx hb rfl (by decide) dX5_step_150 (by decide) (fun c23 => ?_) (fun c23 => ?_)
                      · skip
                        refine lv_iconst (v := 4) hx hb dX5_step_157 (by decide) ?_
                        refine va_put (D := D) (ci := 5) (v := .int 4) (ty := .int) (C := RX5) (T := TX5) (N := 10) hx hb hts (fun _ h => List.mem_cons_of_mem _ (inAX5 _ h)) tyX5 tyX5_ok nmX5 hown hK.1 hP hD hS 0 rfl rfl 6 (by decide) (hts (.fieldLink RX5 59 "ClapBank$Reader" "token" "I") (List.mem_cons_of_mem _ W_273)) (fun _ h9 => h9) rfl (by decide +kernel) rfl rfl (Nat.le_of_ble_eq_true rfl) dX5_step_158 (fun H locs hP hD hS => ?_)
                        have hP : va_P D vwCl [(h, .inr (5, [rtheatre, rbook, rdark, rnumbers, .int rfault, .int rplace, .int 4, .int l5_3, .int rto, .int f98_h_9])), (q, .inl (cB, 600, .inl m_q))] H := hP
                        have hD : va_D A [(h, .inr (5, [rtheatre, rbook, rdark, rnumbers, .int rfault, .int rplace, .int 4, .int l5_3, .int rto, .int f98_h_9])), (q, .inl (cB, 600, .inl m_q))] := hD
                        refine lv_goto (tgt := 184) hx hb dX5_step_161 (by decide) ?_
                        refine lv_aload_n hx hb dX5_step_184 rfl (lv_at hl 1 rfl) ?_
                        refine lv_iload_n hx hb dX5_step_185 rfl (lv_at hl 0 rfl) ?_
                        refine va_put (D := D) (ci := 5) (v := .int l98_3) (ty := .int) (C := RX5) (T := TX5) (N := 10) hx hb hts (fun _ h => List.mem_cons_of_mem _ (inAX5 _ h)) tyX5 tyX5_ok nmX5 hown hK.1 hP hD hS 0 rfl rfl 8 (by decide) (hts (.fieldLink RX5 52 "ClapBank$Reader" "to" "I") (List.mem_cons_of_mem _ W_272)) (fun _ h9 => h9) rfl (by decide +kernel) rfl rfl (Nat.le_of_ble_eq_true rfl) dX5_step_186 (fun H locs hP hD hS => ?_)
                        have hP : va_P D vwCl [(h, .inr (5, [rtheatre, rbook, rdark, rnumbers, .int rfault, .int rplace, .int 4, .int l5_3, .int l98_3, .int f98_h_9])), (q, .inl (cB, 600, .inl m_q))] H := hP
                        have hD : va_D A [(h, .inr (5, [rtheatre, rbook, rdark, rnumbers, .int rfault, .int rplace, .int 4, .int l5_3, .int l98_3, .int f98_h_9])), (q, .inl (cB, 600, .inl m_q))] := hD
                        refine W.widen (k := 0) (n := 0) (Nat.le_of_ble_eq_true rfl) (Nat.le_of_ble_eq_true rfl) ?_
                        exact ro_v hx hb hr hlocks (4, l5_3, l98_3, f98_h_9) rfl (⟨(show 0 ≤ (4 : Int32).toInt ∧ (4 : Int32).toInt ≤ 4 from (by decide)), (show 0 ≤ (l5_3 : Int32).toInt ∧ (l5_3 : Int32).toInt ≤ 600 from (by have h9 := i_rng (l5_3); omega)), (show 0 ≤ (l98_3 : Int32).toInt ∧ (l98_3 : Int32).toInt ≤ 600 from (by have h9 := i_rng (l98_3); omega)), (hF98_13 _ _ _ _ (fx_s (Or.inr (⟨c15, ⟨_, ez18, ⟨_, (unhid hxq_19), Or.inl (⟨c21, ⟨_, ez22, Or.inl (⟨c23, ⟨rfl, rfl, rfl, rfl⟩⟩)⟩⟩)⟩⟩⟩))))⟩) (hP.sub [0, 1] rfl) (hD.sub [0, 1] (by decide) rfl) hS dX5_step_189
                      · skip
                        refine lv_iconst (v := 2) hx hb dX5_step_153 (by decide) ?_
                        refine lv_goto (tgt := 158) hx hb dX5_step_154 (by decide) ?_
                        refine va_put (D := D) (ci := 5) (v := .int 2) (ty := .int) (C := RX5) (T := TX5) (N := 10) hx hb hts (fun _ h => List.mem_cons_of_mem _ (inAX5 _ h)) tyX5 tyX5_ok nmX5 hown hK.1 hP hD hS 0 rfl rfl 6 (by decide) (hts (.fieldLink RX5 59 "ClapBank$Reader" "token" "I") (List.mem_cons_of_mem _ W_273)) (fun _ h9 => h9) rfl (by decide +kernel) rfl rfl (Nat.le_of_ble_eq_true rfl) dX5_step_158 (fun H locs hP hD hS => ?_)
                        have hP : va_P D vwCl [(h, .inr (5, [rtheatre, rbook, rdark, rnumbers, .int rfault, .int rplace, .int 2, .int l5_3, .int rto, .int f98_h_9])), (q, .inl (cB, 600, .inl m_q))] H := hP
                        have hD : va_D A [(h, .inr (5, [rtheatre, rbook, rdark, rnumbers, .int rfault, .int rplace, .int 2, .int l5_3, .int rto, .int f98_h_9])), (q, .inl (cB, 600, .inl m_q))] := hD
                        refine lv_goto (tgt := 184) hx hb dX5_step_161 (by decide) ?_
                        refine lv_aload_n hx hb dX5_step_184 rfl (lv_at hl 1 rfl) ?_
                        refine lv_iload_n hx hb dX5_step_185 rfl (lv_at hl 0 rfl) ?_
                        refine va_put (D := D) (ci := 5) (v := .int l98_3) (ty := .int) (C := RX5) (T := TX5) (N := 10) hx hb hts (fun _ h => List.mem_cons_of_mem _ (inAX5 _ h)) tyX5 tyX5_ok nmX5 hown hK.1 hP hD hS 0 rfl rfl 8 (by decide) (hts (.fieldLink RX5 52 "ClapBank$Reader" "to" "I") (List.mem_cons_of_mem _ W_272)) (fun _ h9 => h9) rfl (by decide +kernel) rfl rfl (Nat.le_of_ble_eq_true rfl) dX5_step_186 (fun H locs hP hD hS => ?_)
                        have hP : va_P D vwCl [(h, .inr (5, [rtheatre, rbook, rdark, rnumbers, .int rfault, .int rplace, .int 2, .int l5_3, .int l98_3, .int f98_h_9])), (q, .inl (cB, 600, .inl m_q))] H := hP
                        have hD : va_D A [(h, .inr (5, [rtheatre, rbook, rdark, rnumbers, .int rfault, .int rplace, .int 2, .int l5_3, .int l98_3, .int f98_h_9])), (q, .inl (cB, 600, .inl m_q))] := hD
                        refine W.widen (k := 0) (n := 0) (Nat.le_of_ble_eq_true rfl) (Nat.le_of_ble_eq_true rfl) ?_
                        exact ro_v hx hb hr hlocks (2, l5_3, l98_3, f98_h_9) rfl (⟨(show 0 ≤ (2 : Int32).toInt ∧ (2 : Int32).toInt ≤ 4 from (by decide)), (show 0 ≤ (l5_3 : Int32).toInt ∧ (l5_3 : Int32).toInt ≤ 600 from (by have h9 := i_rng (l5_3); omega)), (show 0 ≤ (l98_3 : Int32).toInt ∧ (l98_3 : Int32).toInt ≤ 600 from (by have h9 := i_rng (l98_3); omega)), (hF98_13 _ _ _ _ (fx_s (Or.inr (⟨c15, ⟨_, ez18, ⟨_, (unhid hxq_19), Or.inl (⟨c21, ⟨_, ez22, Or.inr (⟨c23, ⟨rfl, rfl, rfl, rfl⟩⟩)⟩⟩)⟩⟩⟩))))⟩) (hP.sub [0, 1] rfl) (hD.sub [0, 1] (by decide) rfl) hS dX5_step_189
                    · skip
                      refine lv_aload_n hx hb dX5_step_112 rfl (lv_at hl 1 rfl) ?_
                      refine lv_sipush (v := 9999) hx hb dX5_step_113 (by decide) ?_
                      refine lv_aload_n hx hb dX5_step_116 rfl (lv_at hl 1 rfl) ?_
                      refine va_get (D := D) (ci := 5) (v := .int f98_h_9) (C := RX5) (T := TX5) (N := 10) hx hb hts (fun _ h => List.mem_cons_of_mem _ (inAX5 _ h)) hown hK.1 hP 0 rfl rfl 9 (by decide) (hts (.fieldLink RX5 91 "ClapBank$Reader" "value" "I") (List.mem_cons_of_mem _ W_290)) (fun _ h9 => h9) rfl dX5_step_117 ?_
                      refine lv_bipush (v := 10) hx hb dX5_step_120 (by decide) ?_
                      refine lv_imul hx hb dX5_step_122 ?_
                      refine lv_topi (fun z24 ez24 => ?_)
                      refine lv_aload_n hx hb dX5_step_123 rfl (lv_at hl 2 rfl) ?_
                      refine lv_iload_n hx hb dX5_step_124 rfl (lv_at hl 0 rfl) ?_
                      refine va_bald hx hb hK.1 hP 1 1 rfl rfl (i_in (X := l98_3.toInt) rfl (by omega) (by omega)) dX5_step_125 ?_
                      refine vz_i (y := z18) ez18.symm ?_
                      refine lv_iadd hx hb dX5_step_126 ?_
                      refine lv_topi (fun z25 ez25 => ?_)
                      refine lv_bipush (v := 48) hx hb dX5_step_127 (by decide) ?_
                      refine lv_isub hx hb dX5_step_129 ?_
                      refine lv_topi (fun z26 ez26 => ?_)
                      refine va_mmin hx hb (hml.trans hl.1.symm) hown (hts (.methodLink RX5 111 Lib.Math.min.name) (List.mem_cons_of_mem _ W_291)) (hts (.static Lib.Math.min.name) (List.mem_cons_of_mem _ W_203)) (hts (.initialized "java/lang/Math") (List.mem_cons_of_mem _ W_131)) (hts (.code Lib.Math.min.name Lib.Math.min.code 2 (some .int)) (List.mem_cons_of_mem _ W_204)) (Nat.le_of_ble_eq_true rfl) (Nat.le_of_ble_eq_true rfl) (Nat.le_of_ble_eq_true rfl) (Nat.le_of_ble_eq_true rfl) dX5_step_130 ?_
                      refine lv_topi (fun z27 ez27 => ?_)
                      have hmm_z27 : z27.toInt = min (9999) (z26.toInt) := by rw [ez27]; exact i_min (X := 9999) (Y := z26.toInt) (by decide) rfl
                      refine va_put (D := D) (ci := 5) (v := .int z27) (ty := .int) (C := RX5) (T := TX5) (N := 10) hx hb hts (fun _ h => List.mem_cons_of_mem _ (inAX5 _ h)) tyX5 tyX5_ok nmX5 hown hK.1 hP hD hS 0 rfl rfl 9 (by decide) (hts (.fieldLink RX5 91 "ClapBank$Reader" "value" "I") (List.mem_cons_of_mem _ W_290)) (fun _ h9 => h9) rfl (by decide +kernel) rfl rfl (Nat.le_of_ble_eq_true rfl) dX5_step_133 (fun H locs hP hD hS => ?_)
                      have hP : va_P D vwCl [(h, .inr (5, [rtheatre, rbook, rdark, rnumbers, .int rfault, .int rplace, .int rtoken, .int l5_3, .int rto, .int z27])), (q, .inl (cB, 600, .inl m_q))] H := hP
                      have hD : va_D A [(h, .inr (5, [rtheatre, rbook, rdark, rnumbers, .int rfault, .int rplace, .int rtoken, .int l5_3, .int rto, .int z27])), (q, .inl (cB, 600, .inl m_q))] := hD
                      obtain ⟨z28, ez28⟩ : ∃ y : Int32, y = l98_3 + 1 := ⟨_, rfl⟩
                      have iz28 : z28.toInt = l98_3.toInt + 1 := by rw [ez28]; exact (i_add (X := l98_3.toInt) (Y := 1) rfl (by decide) (by have h8 := i_rng (l98_3); have h9 := i_rng (1); omega) (by have h8 := i_rng (l98_3); have h9 := i_rng (1); omega)).trans (by omega)
                      refine lv_iinc (v := z28) (lv' := [(3, .int z28), (0, .ref h), (1, .ref q), (2, .int n)]) hx hb dX5_step_136 hl (k := 0) rfl (by rw [ez28]; rfl) (by decide) rfl (fun ls hl => ?_)
                      refine lv_goto (tgt := 98) hx hb dX5_step_139 (by decide) ?_
                      exact ih98 (z28) (z27) _ _ _ (by have h9 := i_rng (z28); omega) (by have h9 := i_rng (z27); omega) (fun _ _ _ _ hf_ => (hF98_13 _ _ _ _ (fx_s (Or.inr (⟨c15, ⟨_, ez18, ⟨_, (unhid hxq_19), Or.inr (⟨c21, ⟨_, ez24, ⟨_, ez25, ⟨_, ez26, ⟨_, ez27, ⟨_, ez28, hf_⟩⟩⟩⟩⟩⟩)⟩⟩⟩))))) (by first | omega | decide) (hP.sub [0, 1] rfl) (hD.sub [0, 1] (by decide) rfl) hS (lv_sub hl [0, 1, 2, 3] rfl)
              exact lp98_13 602 (l5_3) (0) _ _ _ (by have h9 := i_rng (l5_3); omega) (by decide) (fun _ _ _ _ hf_ => (hF5_0 _ _ _ _ (fx_s (Or.inl (⟨c2, Or.inl (⟨c3, ⟨_, ez4, ⟨_, (unhid hxq_5), Or.inl (⟨c7, ⟨_, (unhid hxq_8), Or.inr (⟨c10, hf_⟩)⟩⟩)⟩⟩⟩)⟩))))) (by have hc1_ : (0 : Int32).toInt = 0 := (by decide); first | omega | decide) (hP.sub [0, 1] rfl) (hD.sub [0, 1] (by decide) rfl) hS (lv_sub hl [0, 1, 2, 3] rfl)
          · skip
            refine lv_aload_n hx hb dX5_step_59 rfl (lv_at hl 1 rfl) ?_
            refine lv_iconst (v := 1) hx hb dX5_step_60 (by decide) ?_
            refine va_put (D := D) (ci := 5) (v := .int 1) (ty := .int) (C := RX5) (T := TX5) (N := 10) hx hb hts (fun _ h => List.mem_cons_of_mem _ (inAX5 _ h)) tyX5 tyX5_ok nmX5 hown hK.1 hP hD hS 0 rfl rfl 6 (by decide) (hts (.fieldLink RX5 59 "ClapBank$Reader" "token" "I") (List.mem_cons_of_mem _ W_273)) (fun _ h9 => h9) rfl (by decide +kernel) rfl rfl (Nat.le_of_ble_eq_true rfl) dX5_step_61 (fun H locs hP hD hS => ?_)
            have hP : va_P D vwCl [(h, .inr (5, [rtheatre, rbook, rdark, rnumbers, .int rfault, .int rplace, .int 1, .int l5_3, .int rto, .int rvalue])), (q, .inl (cB, 600, .inl m_q))] H := hP
            have hD : va_D A [(h, .inr (5, [rtheatre, rbook, rdark, rnumbers, .int rfault, .int rplace, .int 1, .int l5_3, .int rto, .int rvalue])), (q, .inl (cB, 600, .inl m_q))] := hD
            have lp64_28 : ∀ (nf64 : Nat) (l64_3 : Int32) (H : Heap) (locs : List Loc) (ls : Array Slot), (0 ≤ l64_3.toInt ∧ l64_3.toInt ≤ 600) → (∀ (u0_ : Int32) (u1_ : Int32) (u2_ : Int32) (u3_ : Int32), fx (T_k_step_64 n l5_3 rvalue m_q u0_ u1_ u2_ u3_) nf64 l64_3 → R_k_step n m_q rvalue rto u0_ u1_ u2_ u3_) → (600 - l64_3.toInt < (nf64 : Int)) → va_P D vwCl [(h, .inr (5, [rtheatre, rbook, rdark, rnumbers, .int rfault, .int rplace, .int 1, .int l5_3, .int rto, .int rvalue])), (q, .inl (cB, 600, .inl m_q))] H → va_D A [(h, .inr (5, [rtheatre, rbook, rdark, rnumbers, .int rfault, .int rplace, .int 1, .int l5_3, .int rto, .int rvalue])), (q, .inl (cB, 600, .inl m_q))] → va_S A s.heap H locs → lv_has ls 4 [(3, .int l64_3), (0, .ref h), (1, .ref q), (2, .int n)] → W p l e ({ frames := 1, cells := 0, slots := 0, locals := 30 }) s m ([.ref h, .ref q, .int n] : List Value).toArray below meth c H locs 0 0 (MQ below (Qo (fun u : Int32 × Int32 × Int32 × Int32 => none) (fun u : Int32 × Int32 × Int32 × Int32 => (0 ≤ u.1.toInt ∧ u.1.toInt ≤ 4) ∧ (0 ≤ u.2.1.toInt ∧ u.2.1.toInt ≤ 600) ∧ (0 ≤ u.2.2.1.toInt ∧ u.2.2.1.toInt ≤ 600) ∧ (R_k_step n m_q rvalue rto u.1 u.2.1 u.2.2.1 u.2.2.2)) (BW D A (fun u : Int32 × Int32 × Int32 × Int32 => [(h, .inr (5, [rtheatre, rbook, rdark, rnumbers, .int rfault, .int rplace, .int u.1, .int u.2.1, .int u.2.2.1, .int u.2.2.2])), (q, .inl (cB, 600, .inl m_q))])) A) ([.ref h, .ref q, .int n] : List Value).toArray s 0 0 A) (F0 m 64 ls []) := by
              intro nf64
              induction nf64 with
              | zero => intro l64_3 H locs ls h_l64_3 hF64_28 hm64; exact absurd hm64 (by omega)
              | succ nf64 ih64 =>
                intro l64_3 H locs ls h_l64_3 hF64_28 hm64 hP hD hS hl
                refine lv_iload_n hx hb dX5_step_64 rfl (lv_at hl 0 rfl) ?_
                refine lv_iload_n hx hb dX5_step_65 rfl (lv_at hl 3 rfl) ?_
                refine bc_ge (tgt := 184) (X := l64_3.toInt) (Y := n.toInt) hx hb rfl rfl dX5_step_66 (by decide) (fun c30 => ?_) (fun c30 => ?_)
                · skip
                  refine lv_aload_n hx hb dX5_step_184 rfl (lv_at hl 1 rfl) ?_
                  refine lv_iload_n hx hb dX5_step_185 rfl (lv_at hl 0 rfl) ?_
                  refine va_put (D := D) (ci := 5) (v := .int l64_3) (ty := .int) (C := RX5) (T := TX5) (N := 10) hx hb hts (fun _ h => List.mem_cons_of_mem _ (inAX5 _ h)) tyX5 tyX5_ok nmX5 hown hK.1 hP hD hS 0 rfl rfl 8 (by decide) (hts (.fieldLink RX5 52 "ClapBank$Reader" "to" "I") (List.mem_cons_of_mem _ W_272)) (fun _ h9 => h9) rfl (by decide +kernel) rfl rfl (Nat.le_of_ble_eq_true rfl) dX5_step_186 (fun H locs hP hD hS => ?_)
                  have hP : va_P D vwCl [(h, .inr (5, [rtheatre, rbook, rdark, rnumbers, .int rfault, .int rplace, .int 1, .int l5_3, .int l64_3, .int rvalue])), (q, .inl (cB, 600, .inl m_q))] H := hP
                  have hD : va_D A [(h, .inr (5, [rtheatre, rbook, rdark, rnumbers, .int rfault, .int rplace, .int 1, .int l5_3, .int l64_3, .int rvalue])), (q, .inl (cB, 600, .inl m_q))] := hD
                  refine W.widen (k := 0) (n := 0) (Nat.le_of_ble_eq_true rfl) (Nat.le_of_ble_eq_true rfl) ?_
                  exact ro_v hx hb hr hlocks (1, l5_3, l64_3, rvalue) rfl (⟨(show 0 ≤ (1 : Int32).toInt ∧ (1 : Int32).toInt ≤ 4 from (by decide)), (show 0 ≤ (l5_3 : Int32).toInt ∧ (l5_3 : Int32).toInt ≤ 600 from (by have h9 := i_rng (l5_3); omega)), (show 0 ≤ (l64_3 : Int32).toInt ∧ (l64_3 : Int32).toInt ≤ 600 from (by have h9 := i_rng (l64_3); omega)), (hF64_28 _ _ _ _ (fx_s (Or.inl (⟨c30, ⟨rfl, rfl, rfl, rfl⟩⟩))))⟩) (hP.sub [0, 1] rfl) (hD.sub [0, 1] (by decide) rfl) hS dX5_step_189
                · skip
                  refine lv_aload_n hx hb dX5_step_69 rfl (lv_at hl 2 rfl) ?_
                  refine lv_iload_n hx hb dX5_step_70 rfl (lv_at hl 0 rfl) ?_
                  refine va_bald hx hb hK.1 hP 1 1 rfl rfl (i_in (X := l64_3.toInt) rfl (by omega) (by omega)) dX5_step_71 ?_
                  refine lv_topi (fun z31 ez31 => ?_)
                  have hv_z31 : -128 ≤ z31.toInt ∧ z31.toInt ≤ 127 := by rw [ez31]; exact h_m_q _
                  refine doS (n := 1) (As := [.int z31]) (rest := []) (wc := ([] : va_W)) (wr := [(h, .inr (5, [rtheatre, rbook, rdark, rnumbers, .int rfault, .int rplace, .int 1, .int l5_3, .int rto, .int rvalue])), (q, .inl (cB, 600, .inl m_q))]) hx hb hml hown hts hK hP hD hS hA [] [0, 1] rfl rfl rfl rfl (by decide) (k_isLetter l D cI cB cJ cZ cT (z31)) gX5_step_X5_isLetter rfl rfl rfl (by decide +kernel) ⟨Nat.le_of_ble_eq_true rfl, Nat.le_of_ble_eq_true rfl⟩ hl.1 rfl rfl (Nat.le_of_ble_eq_true rfl) dX5_step_72 ⟨Nat.le_of_ble_eq_true rfl, Nat.le_of_ble_eq_true rfl⟩ (fun u H locs hw hP hD hS => ?_)
                  obtain ⟨r_32, rfl⟩ : ∃ z, z = u := ⟨_, rfl⟩
                  have hP : va_P D vwCl [(h, .inr (5, [rtheatre, rbook, rdark, rnumbers, .int rfault, .int rplace, .int 1, .int l5_3, .int rto, .int rvalue])), (q, .inl (cB, 600, .inl m_q))] H := hP
                  have hD : va_D A [(h, .inr (5, [rtheatre, rbook, rdark, rnumbers, .int rfault, .int rplace, .int 1, .int l5_3, .int rto, .int rvalue])), (q, .inl (cB, 600, .inl m_q))] := hD
                  refine W.eq (g2 := F0 m 75 ls [.int r_32]) rfl ?_
                  replace hw : (0 ≤ r_32.toInt ∧ r_32.toInt ≤ 1) ∧ (R_k_isLetter z31 r_32) := hw
                  obtain ⟨hb_r_32, hxq_32⟩ := hw
                  replace hxq_32 := hid hxq_32
                  refine bi_eq (tgt := 184) (X := r_32.toInt) hx hb rfl dX5_step_75 (by decide) (fun c34 => ?_) (fun c34 => ?_)
                  · skip
                    refine lv_aload_n hx hb dX5_step_184 rfl (lv_at hl 1 rfl) ?_
                    refine lv_iload_n hx hb dX5_step_185 rfl (lv_at hl 0 rfl) ?_
                    refine va_put (D := D) (ci := 5) (v := .int l64_3) (ty := .int) (C := RX5) (T := TX5) (N := 10) hx hb hts (fun _ h => List.mem_cons_of_mem _ (inAX5 _ h)) tyX5 tyX5_ok nmX5 hown hK.1 hP hD hS 0 rfl rfl 8 (by decide) (hts (.fieldLink RX5 52 "ClapBank$Reader" "to" "I") (List.mem_cons_of_mem _ W_272)) (fun _ h9 => h9) rfl (by decide +kernel) rfl rfl (Nat.le_of_ble_eq_true rfl) dX5_step_186 (fun H locs hP hD hS => ?_)
                    have hP : va_P D vwCl [(h, .inr (5, [rtheatre, rbook, rdark, rnumbers, .int rfault, .int rplace, .int 1, .int l5_3, .int l64_3, .int rvalue])), (q, .inl (cB, 600, .inl m_q))] H := hP
                    have hD : va_D A [(h, .inr (5, [rtheatre, rbook, rdark, rnumbers, .int rfault, .int rplace, .int 1, .int l5_3, .int l64_3, .int rvalue])), (q, .inl (cB, 600, .inl m_q))] := hD
                    refine W.widen (k := 0) (n := 0) (Nat.le_of_ble_eq_true rfl) (Nat.le_of_ble_eq_true rfl) ?_
                    exact ro_v hx hb hr hlocks (1, l5_3, l64_3, rvalue) rfl (⟨(show 0 ≤ (1 : Int32).toInt ∧ (1 : Int32).toInt ≤ 4 from (by decide)), (show 0 ≤ (l5_3 : Int32).toInt ∧ (l5_3 : Int32).toInt ≤ 600 from (by have h9 := i_rng (l5_3); omega)), (show 0 ≤ (l64_3 : Int32).toInt ∧ (l64_3 : Int32).toInt ≤ 600 from (by have h9 := i_rng (l64_3); omega)), (hF64_28 _ _ _ _ (fx_s (Or.inr (⟨c30, ⟨_, ez31, ⟨_, (unhid hxq_32), Or.inl (⟨c34, ⟨rfl, rfl, rfl, rfl⟩⟩)⟩⟩⟩))))⟩) (hP.sub [0, 1] rfl) (hD.sub [0, 1] (by decide) rfl) hS dX5_step_189
                  · skip
                    obtain ⟨z35, ez35⟩ : ∃ y : Int32, y = l64_3 + 1 := ⟨_, rfl⟩
                    have iz35 : z35.toInt = l64_3.toInt + 1 := by rw [ez35]; exact (i_add (X := l64_3.toInt) (Y := 1) rfl (by decide) (by have h8 := i_rng (l64_3); have h9 := i_rng (1); omega) (by have h8 := i_rng (l64_3); have h9 := i_rng (1); omega)).trans (by omega)
                    refine lv_iinc (v := z35) (lv' := [(3, .int z35), (0, .ref h), (1, .ref q), (2, .int n)]) hx hb dX5_step_78 hl (k := 0) rfl (by rw [ez35]; rfl) (by decide) rfl (fun ls hl => ?_)
                    refine lv_goto (tgt := 64) hx hb dX5_step_81 (by decide) ?_
                    exact ih64 (z35) _ _ _ (by have h9 := i_rng (z35); omega) (fun _ _ _ _ hf_ => (hF64_28 _ _ _ _ (fx_s (Or.inr (⟨c30, ⟨_, ez31, ⟨_, (unhid hxq_32), Or.inr (⟨c34, ⟨_, ez35, hf_⟩⟩)⟩⟩⟩))))) (by first | omega | decide) (hP.sub [0, 1] rfl) (hD.sub [0, 1] (by decide) rfl) hS (lv_sub hl [0, 1, 2, 3] rfl)
            exact lp64_28 602 (l5_3) _ _ _ (by have h9 := i_rng (l5_3); omega) (fun _ _ _ _ hf_ => (hF5_0 _ _ _ _ (fx_s (Or.inl (⟨c2, Or.inl (⟨c3, ⟨_, ez4, ⟨_, (unhid hxq_5), Or.inr (⟨c7, hf_⟩)⟩⟩⟩)⟩))))) (by first | omega | decide) (hP.sub [0, 1] rfl) (hD.sub [0, 1] (by decide) rfl) hS (lv_sub hl [0, 1, 2, 3] rfl)
        · skip
          refine lv_aload_n hx hb dX5_step_42 rfl (lv_at hl 1 rfl) ?_
          refine lv_iconst (v := 0) hx hb dX5_step_43 (by decide) ?_
          refine va_put (D := D) (ci := 5) (v := .int 0) (ty := .int) (C := RX5) (T := TX5) (N := 10) hx hb hts (fun _ h => List.mem_cons_of_mem _ (inAX5 _ h)) tyX5 tyX5_ok nmX5 hown hK.1 hP hD hS 0 rfl rfl 6 (by decide) (hts (.fieldLink RX5 59 "ClapBank$Reader" "token" "I") (List.mem_cons_of_mem _ W_273)) (fun _ h9 => h9) rfl (by decide +kernel) rfl rfl (Nat.le_of_ble_eq_true rfl) dX5_step_44 (fun H locs hP hD hS => ?_)
          have hP : va_P D vwCl [(h, .inr (5, [rtheatre, rbook, rdark, rnumbers, .int rfault, .int rplace, .int 0, .int l5_3, .int rto, .int rvalue])), (q, .inl (cB, 600, .inl m_q))] H := hP
          have hD : va_D A [(h, .inr (5, [rtheatre, rbook, rdark, rnumbers, .int rfault, .int rplace, .int 0, .int l5_3, .int rto, .int rvalue])), (q, .inl (cB, 600, .inl m_q))] := hD
          refine lv_goto (tgt := 184) hx hb dX5_step_47 (by decide) ?_
          refine lv_aload_n hx hb dX5_step_184 rfl (lv_at hl 1 rfl) ?_
          refine lv_iload_n hx hb dX5_step_185 rfl (lv_at hl 0 rfl) ?_
          refine va_put (D := D) (ci := 5) (v := .int l5_3) (ty := .int) (C := RX5) (T := TX5) (N := 10) hx hb hts (fun _ h => List.mem_cons_of_mem _ (inAX5 _ h)) tyX5 tyX5_ok nmX5 hown hK.1 hP hD hS 0 rfl rfl 8 (by decide) (hts (.fieldLink RX5 52 "ClapBank$Reader" "to" "I") (List.mem_cons_of_mem _ W_272)) (fun _ h9 => h9) rfl (by decide +kernel) rfl rfl (Nat.le_of_ble_eq_true rfl) dX5_step_186 (fun H locs hP hD hS => ?_)
          have hP : va_P D vwCl [(h, .inr (5, [rtheatre, rbook, rdark, rnumbers, .int rfault, .int rplace, .int 0, .int l5_3, .int l5_3, .int rvalue])), (q, .inl (cB, 600, .inl m_q))] H := hP
          have hD : va_D A [(h, .inr (5, [rtheatre, rbook, rdark, rnumbers, .int rfault, .int rplace, .int 0, .int l5_3, .int l5_3, .int rvalue])), (q, .inl (cB, 600, .inl m_q))] := hD
          refine W.widen (k := 0) (n := 0) (Nat.le_of_ble_eq_true rfl) (Nat.le_of_ble_eq_true rfl) ?_
          exact ro_v hx hb hr hlocks (0, l5_3, l5_3, rvalue) rfl (⟨(show 0 ≤ (0 : Int32).toInt ∧ (0 : Int32).toInt ≤ 4 from (by decide)), (show 0 ≤ (l5_3 : Int32).toInt ∧ (l5_3 : Int32).toInt ≤ 600 from (by have h9 := i_rng (l5_3); omega)), (show 0 ≤ (l5_3 : Int32).toInt ∧ (l5_3 : Int32).toInt ≤ 600 from (by have h9 := i_rng (l5_3); omega)), (hF5_0 _ _ _ _ (fx_s (Or.inl (⟨c2, Or.inr (⟨c3, ⟨rfl, rfl, rfl, rfl⟩⟩)⟩))))⟩) (hP.sub [0, 1] rfl) (hD.sub [0, 1] (by decide) rfl) hS dX5_step_189
      · skip
        refine lv_aload_n hx hb dX5_step_10 rfl (lv_at hl 2 rfl) ?_
        refine lv_iload_n hx hb dX5_step_11 rfl (lv_at hl 0 rfl) ?_
        refine va_bald hx hb hK.1 hP 1 1 rfl rfl (i_in (X := l5_3.toInt) rfl (by omega) (by omega)) dX5_step_12 ?_
        refine lv_topi (fun z36 ez36 => ?_)
        have hv_z36 : -128 ≤ z36.toInt ∧ z36.toInt ≤ 127 := by rw [ez36]; exact h_m_q _
        refine lv_bipush (v := 32) hx hb dX5_step_13 (by decide) ?_
        refine bc_eq (tgt := 26) (X := z36.toInt) (Y := 32) hx hb rfl (by decide) dX5_step_15 (by decide) (fun c37 => ?_) (fun c37 => ?_)
        · skip
          obtain ⟨z38, ez38⟩ : ∃ y : Int32, y = l5_3 + 1 := ⟨_, rfl⟩
          have iz38 : z38.toInt = l5_3.toInt + 1 := by rw [ez38]; exact (i_add (X := l5_3.toInt) (Y := 1) rfl (by decide) (by have h8 := i_rng (l5_3); have h9 := i_rng (1); omega) (by have h8 := i_rng (l5_3); have h9 := i_rng (1); omega)).trans (by omega)
          refine lv_iinc (v := z38) (lv' := [(3, .int z38), (0, .ref h), (1, .ref q), (2, .int n)]) hx hb dX5_step_26 hl (k := 0) rfl (by rw [ez38]; rfl) (by decide) rfl (fun ls hl => ?_)
          refine lv_goto (tgt := 5) hx hb dX5_step_29 (by decide) ?_
          exact ih5 (z38) _ _ _ (by have h9 := i_rng (z38); omega) (fun _ _ _ _ hf_ => (hF5_0 _ _ _ _ (fx_s (Or.inr (⟨c2, ⟨_, ez36, Or.inl (⟨c37, ⟨_, ez38, hf_⟩⟩)⟩⟩))))) (by first | omega | decide) (hP.sub [0, 1] rfl) (hD.sub [0, 1] (by decide) rfl) hS (lv_sub hl [0, 1, 2, 3] rfl)
        · skip
          refine lv_aload_n hx hb dX5_step_18 rfl (lv_at hl 2 rfl) ?_
          refine lv_iload_n hx hb dX5_step_19 rfl (lv_at hl 0 rfl) ?_
          refine va_bald hx hb hK.1 hP 1 1 rfl rfl (i_in (X := l5_3.toInt) rfl (by omega) (by omega)) dX5_step_20 ?_
          refine vz_i (y := z36) ez36.symm ?_
          refine lv_bipush (v := 10) hx hb dX5_step_21 (by decide) ?_
          refine bc_ne (tgt := 32) (X := z36.toInt) (Y := 10) hx hb rfl (by decide) dX5_step_23 (by decide) (fun c39 => ?_) (fun c39 => ?_)
          · skip
            refine lv_aload_n hx hb dX5_step_32 rfl (lv_at hl 1 rfl) ?_
            refine lv_iload_n hx hb dX5_step_33 rfl (lv_at hl 0 rfl) ?_
            refine va_put (D := D) (ci := 5) (v := .int l5_3) (ty := .int) (C := RX5) (T := TX5) (N := 10) hx hb hts (fun _ h => List.mem_cons_of_mem _ (inAX5 _ h)) tyX5 tyX5_ok nmX5 hown hK.1 hP hD hS 0 rfl rfl 7 (by decide) (hts (.fieldLink RX5 101 "ClapBank$Reader" "from" "I") (List.mem_cons_of_mem _ W_289)) (fun _ h9 => h9) rfl (by decide +kernel) rfl rfl (Nat.le_of_ble_eq_true rfl) dX5_step_34 (fun H locs hP hD hS => ?_)
            have hP : va_P D vwCl [(h, .inr (5, [rtheatre, rbook, rdark, rnumbers, .int rfault, .int rplace, .int rtoken, .int l5_3, .int rto, .int rvalue])), (q, .inl (cB, 600, .inl m_q))] H := hP
            have hD : va_D A [(h, .inr (5, [rtheatre, rbook, rdark, rnumbers, .int rfault, .int rplace, .int rtoken, .int l5_3, .int rto, .int rvalue])), (q, .inl (cB, 600, .inl m_q))] := hD
            refine lv_iload_n hx hb dX5_step_37 rfl (lv_at hl 0 rfl) ?_
            refine lv_iload_n hx hb dX5_step_38 rfl (lv_at hl 3 rfl) ?_
            refine bc_lt (tgt := 50) (X := l5_3.toInt) (Y := n.toInt) hx hb rfl rfl dX5_step_39 (by decide) (fun c40 => ?_) (fun c40 => ?_)
            · skip
              refine lv_aload_n hx hb dX5_step_50 rfl (lv_at hl 2 rfl) ?_
              refine lv_iload_n hx hb dX5_step_51 rfl (lv_at hl 0 rfl) ?_
              refine va_bald hx hb hK.1 hP 1 1 rfl rfl (i_in (X := l5_3.toInt) rfl (by omega) (by omega)) dX5_step_52 ?_
              refine vz_i (y := z36) ez36.symm ?_
              refine doS (n := 1) (As := [.int z36]) (rest := []) (wc := ([] : va_W)) (wr := [(h, .inr (5, [rtheatre, rbook, rdark, rnumbers, .int rfault, .int rplace, .int rtoken, .int l5_3, .int rto, .int rvalue])), (q, .inl (cB, 600, .inl m_q))]) hx hb hml hown hts hK hP hD hS hA [] [0, 1] rfl rfl rfl rfl (by decide) (k_isLetter l D cI cB cJ cZ cT (z36)) gX5_step_X5_isLetter rfl rfl rfl (by decide +kernel) ⟨Nat.le_of_ble_eq_true rfl, Nat.le_of_ble_eq_true rfl⟩ hl.1 rfl rfl (Nat.le_of_ble_eq_true rfl) dX5_step_53 ⟨Nat.le_of_ble_eq_true rfl, Nat.le_of_ble_eq_true rfl⟩ (fun u H locs hw hP hD hS => ?_)
              obtain ⟨r_41, rfl⟩ : ∃ z, z = u := ⟨_, rfl⟩
              have hP : va_P D vwCl [(h, .inr (5, [rtheatre, rbook, rdark, rnumbers, .int rfault, .int rplace, .int rtoken, .int l5_3, .int rto, .int rvalue])), (q, .inl (cB, 600, .inl m_q))] H := hP
              have hD : va_D A [(h, .inr (5, [rtheatre, rbook, rdark, rnumbers, .int rfault, .int rplace, .int rtoken, .int l5_3, .int rto, .int rvalue])), (q, .inl (cB, 600, .inl m_q))] := hD
              refine W.eq (g2 := F0 m 56 ls [.int r_41]) rfl ?_
              replace hw : (0 ≤ r_41.toInt ∧ r_41.toInt ≤ 1) ∧ (R_k_isLetter z36 r_41) := hw
              obtain ⟨hb_r_41, hxq_41⟩ := hw
              replace hxq_41 := hid hxq_41
              refine bi_eq (tgt := 84) (X := r_41.toInt) hx hb rfl dX5_step_56 (by decide) (fun c43 => ?_) (fun c43 => ?_)
              · skip
                refine lv_aload_n hx hb dX5_step_84 rfl (lv_at hl 2 rfl) ?_
                refine lv_iload_n hx hb dX5_step_85 rfl (lv_at hl 0 rfl) ?_
                refine va_bald hx hb hK.1 hP 1 1 rfl rfl (i_in (X := l5_3.toInt) rfl (by omega) (by omega)) dX5_step_86 ?_
                refine vz_i (y := z36) ez36.symm ?_
                refine doS (n := 1) (As := [.int z36]) (rest := []) (wc := ([] : va_W)) (wr := [(h, .inr (5, [rtheatre, rbook, rdark, rnumbers, .int rfault, .int rplace, .int rtoken, .int l5_3, .int rto, .int rvalue])), (q, .inl (cB, 600, .inl m_q))]) hx hb hml hown hts hK hP hD hS hA [] [0, 1] rfl rfl rfl rfl (by decide) (k_isDigit l D cI cB cJ cZ cT (z36)) gX5_step_X5_isDigit rfl rfl rfl (by decide +kernel) ⟨Nat.le_of_ble_eq_true rfl, Nat.le_of_ble_eq_true rfl⟩ hl.1 rfl rfl (Nat.le_of_ble_eq_true rfl) dX5_step_87 ⟨Nat.le_of_ble_eq_true rfl, Nat.le_of_ble_eq_true rfl⟩ (fun u H locs hw hP hD hS => ?_)
                obtain ⟨r_44, rfl⟩ : ∃ z, z = u := ⟨_, rfl⟩
                have hP : va_P D vwCl [(h, .inr (5, [rtheatre, rbook, rdark, rnumbers, .int rfault, .int rplace, .int rtoken, .int l5_3, .int rto, .int rvalue])), (q, .inl (cB, 600, .inl m_q))] H := hP
                have hD : va_D A [(h, .inr (5, [rtheatre, rbook, rdark, rnumbers, .int rfault, .int rplace, .int rtoken, .int l5_3, .int rto, .int rvalue])), (q, .inl (cB, 600, .inl m_q))] := hD
                refine W.eq (g2 := F0 m 90 ls [.int r_44]) rfl ?_
                replace hw : (0 ≤ r_44.toInt ∧ r_44.toInt ≤ 1) ∧ (R_k_isDigit z36 r_44) := hw
                obtain ⟨hb_r_44, hxq_44⟩ := hw
                replace hxq_44 := hid hxq_44
                refine bi_eq (tgt := 164) (X := r_44.toInt) hx hb rfl dX5_step_90 (by decide) (fun c46 => ?_) (fun c46 => ?_)
                · skip
                  refine lv_aload_n hx hb dX5_step_164 rfl (lv_at hl 1 rfl) ?_
                  refine lv_aload_n hx hb dX5_step_165 rfl (lv_at hl 2 rfl) ?_
                  refine lv_iload_n hx hb dX5_step_166 rfl (lv_at hl 0 rfl) ?_
                  refine va_bald hx hb hK.1 hP 1 1 rfl rfl (i_in (X := l5_3.toInt) rfl (by omega) (by omega)) dX5_step_167 ?_
                  refine vz_i (y := z36) ez36.symm ?_
                  refine lv_bipush (v := 59) hx hb dX5_step_168 (by decide) ?_
                  refine bc_ne (tgt := 177) (X := z36.toInt) (Y := 59) hx hb rfl (by decide) dX5_step_170 (by decide) (fun c47 => ?_) (fun c47 => ?_)
                  · skip
                    refine lv_iconst (v := 4) hx hb dX5_step_177 (by decide) ?_
                    refine va_put (D := D) (ci := 5) (v := .int 4) (ty := .int) (C := RX5) (T := TX5) (N := 10) hx hb hts (fun _ h => List.mem_cons_of_mem _ (inAX5 _ h)) tyX5 tyX5_ok nmX5 hown hK.1 hP hD hS 0 rfl rfl 6 (by decide) (hts (.fieldLink RX5 59 "ClapBank$Reader" "token" "I") (List.mem_cons_of_mem _ W_273)) (fun _ h9 => h9) rfl (by decide +kernel) rfl rfl (Nat.le_of_ble_eq_true rfl) dX5_step_178 (fun H locs hP hD hS => ?_)
                    have hP : va_P D vwCl [(h, .inr (5, [rtheatre, rbook, rdark, rnumbers, .int rfault, .int rplace, .int 4, .int l5_3, .int rto, .int rvalue])), (q, .inl (cB, 600, .inl m_q))] H := hP
                    have hD : va_D A [(h, .inr (5, [rtheatre, rbook, rdark, rnumbers, .int rfault, .int rplace, .int 4, .int l5_3, .int rto, .int rvalue])), (q, .inl (cB, 600, .inl m_q))] := hD
                    obtain ⟨z48, ez48⟩ : ∃ y : Int32, y = l5_3 + 1 := ⟨_, rfl⟩
                    have iz48 : z48.toInt = l5_3.toInt + 1 := by rw [ez48]; exact (i_add (X := l5_3.toInt) (Y := 1) rfl (by decide) (by have h8 := i_rng (l5_3); have h9 := i_rng (1); omega) (by have h8 := i_rng (l5_3); have h9 := i_rng (1); omega)).trans (by omega)
                    refine lv_iinc (v := z48) (lv' := [(3, .int z48), (0, .ref h), (1, .ref q), (2, .int n)]) hx hb dX5_step_181 hl (k := 0) rfl (by rw [ez48]; rfl) (by decide) rfl (fun ls hl => ?_)
                    refine lv_aload_n hx hb dX5_step_184 rfl (lv_at hl 1 rfl) ?_
                    refine lv_iload_n hx hb dX5_step_185 rfl (lv_at hl 0 rfl) ?_
                    refine va_put (D := D) (ci := 5) (v := .int z48) (ty := .int) (C := RX5) (T := TX5) (N := 10) hx hb hts (fun _ h => List.mem_cons_of_mem _ (inAX5 _ h)) tyX5 tyX5_ok nmX5 hown hK.1 hP hD hS 0 rfl rfl 8 (by decide) (hts (.fieldLink RX5 52 "ClapBank$Reader" "to" "I") (List.mem_cons_of_mem _ W_272)) (fun _ h9 => h9) rfl (by decide +kernel) rfl rfl (Nat.le_of_ble_eq_true rfl) dX5_step_186 (fun H locs hP hD hS => ?_)
                    have hP : va_P D vwCl [(h, .inr (5, [rtheatre, rbook, rdark, rnumbers, .int rfault, .int rplace, .int 4, .int l5_3, .int z48, .int rvalue])), (q, .inl (cB, 600, .inl m_q))] H := hP
                    have hD : va_D A [(h, .inr (5, [rtheatre, rbook, rdark, rnumbers, .int rfault, .int rplace, .int 4, .int l5_3, .int z48, .int rvalue])), (q, .inl (cB, 600, .inl m_q))] := hD
                    refine W.widen (k := 0) (n := 0) (Nat.le_of_ble_eq_true rfl) (Nat.le_of_ble_eq_true rfl) ?_
                    exact ro_v hx hb hr hlocks (4, l5_3, z48, rvalue) rfl (⟨(show 0 ≤ (4 : Int32).toInt ∧ (4 : Int32).toInt ≤ 4 from (by decide)), (show 0 ≤ (l5_3 : Int32).toInt ∧ (l5_3 : Int32).toInt ≤ 600 from (by have h9 := i_rng (l5_3); omega)), (show 0 ≤ (z48 : Int32).toInt ∧ (z48 : Int32).toInt ≤ 600 from (by have h9 := i_rng (z48); omega)), (hF5_0 _ _ _ _ (fx_s (Or.inr (⟨c2, ⟨_, ez36, Or.inr (⟨c37, Or.inl (⟨c39, Or.inl (⟨c40, ⟨_, (unhid hxq_41), Or.inl (⟨c43, ⟨_, (unhid hxq_44), Or.inl (⟨c46, Or.inl (⟨c47, ⟨_, ez48, ⟨rfl, rfl, rfl, rfl⟩⟩⟩)⟩)⟩⟩)⟩⟩)⟩)⟩)⟩⟩))))⟩) (hP.sub [0, 1] rfl) (hD.sub [0, 1] (by decide) rfl) hS dX5_step_189
                  · skip
                    refine lv_iconst (v := 3) hx hb dX5_step_173 (by decide) ?_
                    refine lv_goto (tgt := 178) hx hb dX5_step_174 (by decide) ?_
                    refine va_put (D := D) (ci := 5) (v := .int 3) (ty := .int) (C := RX5) (T := TX5) (N := 10) hx hb hts (fun _ h => List.mem_cons_of_mem _ (inAX5 _ h)) tyX5 tyX5_ok nmX5 hown hK.1 hP hD hS 0 rfl rfl 6 (by decide) (hts (.fieldLink RX5 59 "ClapBank$Reader" "token" "I") (List.mem_cons_of_mem _ W_273)) (fun _ h9 => h9) rfl (by decide +kernel) rfl rfl (Nat.le_of_ble_eq_true rfl) dX5_step_178 (fun H locs hP hD hS => ?_)
                    have hP : va_P D vwCl [(h, .inr (5, [rtheatre, rbook, rdark, rnumbers, .int rfault, .int rplace, .int 3, .int l5_3, .int rto, .int rvalue])), (q, .inl (cB, 600, .inl m_q))] H := hP
                    have hD : va_D A [(h, .inr (5, [rtheatre, rbook, rdark, rnumbers, .int rfault, .int rplace, .int 3, .int l5_3, .int rto, .int rvalue])), (q, .inl (cB, 600, .inl m_q))] := hD
                    obtain ⟨z49, ez49⟩ : ∃ y : Int32, y = l5_3 + 1 := ⟨_, rfl⟩
                    have iz49 : z49.toInt = l5_3.toInt + 1 := by rw [ez49]; exact (i_add (X := l5_3.toInt) (Y := 1) rfl (by decide) (by have h8 := i_rng (l5_3); have h9 := i_rng (1); omega) (by have h8 := i_rng (l5_3); have h9 := i_rng (1); omega)).trans (by omega)
                    refine lv_iinc (v := z49) (lv' := [(3, .int z49), (0, .ref h), (1, .ref q), (2, .int n)]) hx hb dX5_step_181 hl (k := 0) rfl (by rw [ez49]; rfl) (by decide) rfl (fun ls hl => ?_)
                    refine lv_aload_n hx hb dX5_step_184 rfl (lv_at hl 1 rfl) ?_
                    refine lv_iload_n hx hb dX5_step_185 rfl (lv_at hl 0 rfl) ?_
                    refine va_put (D := D) (ci := 5) (v := .int z49) (ty := .int) (C := RX5) (T := TX5) (N := 10) hx hb hts (fun _ h => List.mem_cons_of_mem _ (inAX5 _ h)) tyX5 tyX5_ok nmX5 hown hK.1 hP hD hS 0 rfl rfl 8 (by decide) (hts (.fieldLink RX5 52 "ClapBank$Reader" "to" "I") (List.mem_cons_of_mem _ W_272)) (fun _ h9 => h9) rfl (by decide +kernel) rfl rfl (Nat.le_of_ble_eq_true rfl) dX5_step_186 (fun H locs hP hD hS => ?_)
                    have hP : va_P D vwCl [(h, .inr (5, [rtheatre, rbook, rdark, rnumbers, .int rfault, .int rplace, .int 3, .int l5_3, .int z49, .int rvalue])), (q, .inl (cB, 600, .inl m_q))] H := hP
                    have hD : va_D A [(h, .inr (5, [rtheatre, rbook, rdark, rnumbers, .int rfault, .int rplace, .int 3, .int l5_3, .int z49, .int rvalue])), (q, .inl (cB, 600, .inl m_q))] := hD
                    refine W.widen (k := 0) (n := 0) (Nat.le_of_ble_eq_true rfl) (Nat.le_of_ble_eq_true rfl) ?_
                    exact ro_v hx hb hr hlocks (3, l5_3, z49, rvalue) rfl (⟨(show 0 ≤ (3 : Int32).toInt ∧ (3 : Int32).toInt ≤ 4 from (by decide)), (show 0 ≤ (l5_3 : Int32).toInt ∧ (l5_3 : Int32).toInt ≤ 600 from (by have h9 := i_rng (l5_3); omega)), (show 0 ≤ (z49 : Int32).toInt ∧ (z49 : Int32).toInt ≤ 600 from (by have h9 := i_rng (z49); omega)), (hF5_0 _ _ _ _ (fx_s (Or.inr (⟨c2, ⟨_, ez36, Or.inr (⟨c37, Or.inl (⟨c39, Or.inl (⟨c40, ⟨_, (unhid hxq_41), Or.inl (⟨c43, ⟨_, (unhid hxq_44), Or.inl (⟨c46, Or.inr (⟨c47, ⟨_, ez49, ⟨rfl, rfl, rfl, rfl⟩⟩⟩)⟩)⟩⟩)⟩⟩)⟩)⟩)⟩⟩))))⟩) (hP.sub [0, 1] rfl) (hD.sub [0, 1] (by decide) rfl) hS dX5_step_189
                · skip
                  refine lv_aload_n hx hb dX5_step_93 rfl (lv_at hl 1 rfl) ?_
                  refine lv_iconst (v := 0) hx hb dX5_step_94 (by decide) ?_
                  refine va_put (D := D) (ci := 5) (v := .int 0) (ty := .int) (C := RX5) (T := TX5) (N := 10) hx hb hts (fun _ h => List.mem_cons_of_mem _ (inAX5 _ h)) tyX5 tyX5_ok nmX5 hown hK.1 hP hD hS 0 rfl rfl 9 (by decide) (hts (.fieldLink RX5 91 "ClapBank$Reader" "value" "I") (List.mem_cons_of_mem _ W_290)) (fun _ h9 => h9) rfl (by decide +kernel) rfl rfl (Nat.le_of_ble_eq_true rfl) dX5_step_95 (fun H locs hP hD hS => ?_)
                  have hP : va_P D vwCl [(h, .inr (5, [rtheatre, rbook, rdark, rnumbers, .int rfault, .int rplace, .int rtoken, .int l5_3, .int rto, .int 0])), (q, .inl (cB, 600, .inl m_q))] H := hP
                  have hD : va_D A [(h, .inr (5, [rtheatre, rbook, rdark, rnumbers, .int rfault, .int rplace, .int rtoken, .int l5_3, .int rto, .int 0])), (q, .inl (cB, 600, .inl m_q))] := hD
                  have lp98_49 : ∀ (nf98 : Nat) (l98_3 : Int32) (f98_h_9 : Int32) (H : Heap) (locs : List Loc) (ls : Array Slot), (0 ≤ l98_3.toInt ∧ l98_3.toInt ≤ 600) → (-2147483648 ≤ f98_h_9.toInt ∧ f98_h_9.toInt ≤ 9999) → (∀ (u0_ : Int32) (u1_ : Int32) (u2_ : Int32) (u3_ : Int32), fx (T_k_step_98 n l5_3 m_q u0_ u1_ u2_ u3_) nf98 (l98_3, f98_h_9) → R_k_step n m_q rvalue rto u0_ u1_ u2_ u3_) → (600 - l98_3.toInt < (nf98 : Int)) → va_P D vwCl [(h, .inr (5, [rtheatre, rbook, rdark, rnumbers, .int rfault, .int rplace, .int rtoken, .int l5_3, .int rto, .int f98_h_9])), (q, .inl (cB, 600, .inl m_q))] H → va_D A [(h, .inr (5, [rtheatre, rbook, rdark, rnumbers, .int rfault, .int rplace, .int rtoken, .int l5_3, .int rto, .int f98_h_9])), (q, .inl (cB, 600, .inl m_q))] → va_S A s.heap H locs → lv_has ls 4 [(3, .int l98_3), (0, .ref h), (1, .ref q), (2, .int n)] → W p l e ({ frames := 1, cells := 0, slots := 0, locals := 30 }) s m ([.ref h, .ref q, .int n] : List Value).toArray below meth c H locs 0 0 (MQ below (Qo (fun u : Int32 × Int32 × Int32 × Int32 => none) (fun u : Int32 × Int32 × Int32 × Int32 => (0 ≤ u.1.toInt ∧ u.1.toInt ≤ 4) ∧ (0 ≤ u.2.1.toInt ∧ u.2.1.toInt ≤ 600) ∧ (0 ≤ u.2.2.1.toInt ∧ u.2.2.1.toInt ≤ 600) ∧ (R_k_step n m_q rvalue rto u.1 u.2.1 u.2.2.1 u.2.2.2)) (BW D A (fun u : Int32 × Int32 × Int32 × Int32 => [(h, .inr (5, [rtheatre, rbook, rdark, rnumbers, .int rfault, .int rplace, .int u.1, .int u.2.1, .int u.2.2.1, .int u.2.2.2])), (q, .inl (cB, 600, .inl m_q))])) A) ([.ref h, .ref q, .int n] : List Value).toArray s 0 0 A) (F0 m 98 ls []) := by
                    intro nf98
                    induction nf98 with
                    | zero => intro l98_3 f98_h_9 H locs ls h_l98_3 h_f98_h_9 hF98_49 hm98; exact absurd hm98 (by omega)
                    | succ nf98 ih98 =>
                      intro l98_3 f98_h_9 H locs ls h_l98_3 h_f98_h_9 hF98_49 hm98 hP hD hS hl
                      refine lv_iload_n hx hb dX5_step_98 rfl (lv_at hl 0 rfl) ?_
                      refine lv_iload_n hx hb dX5_step_99 rfl (lv_at hl 3 rfl) ?_
                      refine bc_ge (tgt := 142) (X := l98_3.toInt) (Y := n.toInt) hx hb rfl rfl dX5_step_100 (by decide) (fun c51 => ?_) (fun c51 => ?_)
                      · skip
                        refine lv_aload_n hx hb dX5_step_142 rfl (lv_at hl 1 rfl) ?_
                        refine lv_iload_n hx hb dX5_step_143 rfl (lv_at hl 0 rfl) ?_
                        refine lv_aload_n hx hb dX5_step_144 rfl (lv_at hl 1 rfl) ?_
                        refine va_get (D := D) (ci := 5) (v := .int l5_3) (C := RX5) (T := TX5) (N := 10) hx hb hts (fun _ h => List.mem_cons_of_mem _ (inAX5 _ h)) hown hK.1 hP 0 rfl rfl 7 (by decide) (hts (.fieldLink RX5 101 "ClapBank$Reader" "from" "I") (List.mem_cons_of_mem _ W_289)) (fun _ h9 => h9) rfl dX5_step_145 ?_
                        refine lv_isub hx hb dX5_step_148 ?_
                        refine lv_topi (fun z52 ez52 => ?_)
                        have iz52 : z52.toInt = (l98_3.toInt) - (l5_3.toInt) := by rw [ez52]; exact (i_sub (X := l98_3.toInt) (Y := l5_3.toInt) rfl rfl (by have h8 := i_rng (l98_3); have h9 := i_rng (l5_3); omega) (by have h8 := i_rng (l98_3); have h9 := i_rng (l5_3); omega)).trans (by omega)
                        refine lv_iconst (v := 3) hx hb dX5_step_149 (by decide) ?_
                        refine bc_gt (tgt := 157) (X := z52.toInt) (Y := 3) hx hb rfl (by decide) dX5_step_150 (by decide) (fun c53 => ?_) (fun c53 => ?_)
                        · skip
                          refine lv_iconst (v := 4) hx hb dX5_step_157 (by decide) ?_
                          refine va_put (D := D) (ci := 5) (v := .int 4) (ty := .int) (C := RX5) (T := TX5) (N := 10) hx hb hts (fun _ h => List.mem_cons_of_mem _ (inAX5 _ h)) tyX5 tyX5_ok nmX5 hown hK.1 hP hD hS 0 rfl rfl 6 (by decide) (hts (.fieldLink RX5 59 "ClapBank$Reader" "token" "I") (List.mem_cons_of_mem _ W_273)) (fun _ h9 => h9) rfl (by decide +kernel) rfl rfl (Nat.le_of_ble_eq_true rfl) dX5_step_158 (fun H locs hP hD hS => ?_)
                          have hP : va_P D vwCl [(h, .inr (5, [rtheatre, rbook, rdark, rnumbers, .int rfault, .int rplace, .int 4, .int l5_3, .int rto, .int f98_h_9])), (q, .inl (cB, 600, .inl m_q))] H := hP
                          have hD : va_D A [(h, .inr (5, [rtheatre, rbook, rdark, rnumbers, .int rfault, .int rplace, .int 4, .int l5_3, .int rto, .int f98_h_9])), (q, .inl (cB, 600, .inl m_q))] := hD
                          refine lv_goto (tgt := 184) hx hb dX5_step_161 (by decide) ?_
                          refine lv_aload_n hx hb dX5_step_184 rfl (lv_at hl 1 rfl) ?_
                          refine lv_iload_n hx hb dX5_step_185 rfl (lv_at hl 0 rfl) ?_
                          refine va_put (D := D) (ci := 5) (v := .int l98_3) (ty := .int) (C := RX5) (T := TX5) (N := 10) hx hb hts (fun _ h => List.mem_cons_of_mem _ (inAX5 _ h)) tyX5 tyX5_ok nmX5 hown hK.1 hP hD hS 0 rfl rfl 8 (by decide) (hts (.fieldLink RX5 52 "ClapBank$Reader" "to" "I") (List.mem_cons_of_mem _ W_272)) (fun _ h9 => h9) rfl (by decide +kernel) rfl rfl (Nat.le_of_ble_eq_true rfl) dX5_step_186 (fun H locs hP hD hS => ?_)
                          have hP : va_P D vwCl [(h, .inr (5, [rtheatre, rbook, rdark, rnumbers, .int rfault, .int rplace, .int 4, .int l5_3, .int l98_3, .int f98_h_9])), (q, .inl (cB, 600, .inl m_q))] H := hP
                          have hD : va_D A [(h, .inr (5, [rtheatre, rbook, rdark, rnumbers, .int rfault, .int rplace, .int 4, .int l5_3, .int l98_3, .int f98_h_9])), (q, .inl (cB, 600, .inl m_q))] := hD
                          refine W.widen (k := 0) (n := 0) (Nat.le_of_ble_eq_true rfl) (Nat.le_of_ble_eq_true rfl) ?_
                          exact ro_v hx hb hr hlocks (4, l5_3, l98_3, f98_h_9) rfl (⟨(show 0 ≤ (4 : Int32).toInt ∧ (4 : Int32).toInt ≤ 4 from (by decide)), (show 0 ≤ (l5_3 : Int32).toInt ∧ (l5_3 : Int32).toInt ≤ 600 from (by have h9 := i_rng (l5_3); omega)), (show 0 ≤ (l98_3 : Int32).toInt ∧ (l98_3 : Int32).toInt ≤ 600 from (by have h9 := i_rng (l98_3); omega)), (hF98_49 _ _ _ _ (fx_s (Or.inl (⟨c51, ⟨_, ez52, Or.inl (⟨c53, ⟨rfl, rfl, rfl, rfl⟩⟩)⟩⟩))))⟩) (hP.sub [0, 1] rfl) (hD.sub [0, 1] (by decide) rfl) hS dX5_step_189
                        · skip
                          refine lv_iconst (v := 2) hx hb dX5_step_153 (by decide) ?_
                          refine lv_goto (tgt := 158) hx hb dX5_step_154 (by decide) ?_
                          refine va_put (D := D) (ci := 5) (v := .int 2) (ty := .int) (C := RX5) (T := TX5) (N := 10) hx hb hts (fun _ h => List.mem_cons_of_mem _ (inAX5 _ h)) tyX5 tyX5_ok nmX5 hown hK.1 hP hD hS 0 rfl rfl 6 (by decide) (hts (.fieldLink RX5 59 "ClapBank$Reader" "token" "I") (List.mem_cons_of_mem _ W_273)) (fun _ h9 => h9) rfl (by decide +kernel) rfl rfl (Nat.le_of_ble_eq_true rfl) dX5_step_158 (fun H locs hP hD hS => ?_)
                          have hP : va_P D vwCl [(h, .inr (5, [rtheatre, rbook, rdark, rnumbers, .int rfault, .int rplace, .int 2, .int l5_3, .int rto, .int f98_h_9])), (q, .inl (cB, 600, .inl m_q))] H := hP
                          have hD : va_D A [(h, .inr (5, [rtheatre, rbook, rdark, rnumbers, .int rfault, .int rplace, .int 2, .int l5_3, .int rto, .int f98_h_9])), (q, .inl (cB, 600, .inl m_q))] := hD
                          refine lv_goto (tgt := 184) hx hb dX5_step_161 (by decide) ?_
                          refine lv_aload_n hx hb dX5_step_184 rfl (lv_at hl 1 rfl) ?_
                          refine lv_iload_n hx hb dX5_step_185 rfl (lv_at hl 0 rfl) ?_
                          refine va_put (D := D) (ci := 5) (v := .int l98_3) (ty := .int) (C := RX5) (T := TX5) (N := 10) hx hb hts (fun _ h => List.mem_cons_of_mem _ (inAX5 _ h)) tyX5 tyX5_ok nmX5 hown hK.1 hP hD hS 0 rfl rfl 8 (by decide) (hts (.fieldLink RX5 52 "ClapBank$Reader" "to" "I") (List.mem_cons_of_mem _ W_272)) (fun _ h9 => h9) rfl (by decide +kernel) rfl rfl (Nat.le_of_ble_eq_true rfl) dX5_step_186 (fun H locs hP hD hS => ?_)
                          have hP : va_P D vwCl [(h, .inr (5, [rtheatre, rbook, rdark, rnumbers, .int rfault, .int rplace, .int 2, .int l5_3, .int l98_3, .int f98_h_9])), (q, .inl (cB, 600, .inl m_q))] H := hP
                          have hD : va_D A [(h, .inr (5, [rtheatre, rbook, rdark, rnumbers, .int rfault, .int rplace, .int 2, .int l5_3, .int l98_3, .int f98_h_9])), (q, .inl (cB, 600, .inl m_q))] := hD
                          refine W.widen (k := 0) (n := 0) (Nat.le_of_ble_eq_true rfl) (Nat.le_of_ble_eq_true rfl) ?_
                          exact ro_v hx hb hr hlocks (2, l5_3, l98_3, f98_h_9) rfl (⟨(show 0 ≤ (2 : Int32).toInt ∧ (2 : Int32).toInt ≤ 4 from (by decide)), (show 0 ≤ (l5_3 : Int32).toInt ∧ (l5_3 : Int32).toInt ≤ 600 from (by have h9 := i_rng (l5_3); omega)), (show 0 ≤ (l98_3 : Int32).toInt ∧ (l98_3 : Int32).toInt ≤ 600 from (by have h9 := i_rng (l98_3); omega)), (hF98_49 _ _ _ _ (fx_s (Or.inl (⟨c51, ⟨_, ez52, Or.inr (⟨c53, ⟨rfl, rfl, rfl, rfl⟩⟩)⟩⟩))))⟩) (hP.sub [0, 1] rfl) (hD.sub [0, 1] (by decide) rfl) hS dX5_step_189
                      · skip
                        refine lv_aload_n hx hb dX5_step_103 rfl (lv_at hl 2 rfl) ?_
                        refine lv_iload_n hx hb dX5_step_104 rfl (lv_at hl 0 rfl) ?_
                        refine va_bald hx hb hK.1 hP 1 1 rfl rfl (i_in (X := l98_3.toInt) rfl (by omega) (by omega)) dX5_step_105 ?_
                        refine lv_topi (fun z54 ez54 => ?_)
                        have hv_z54 : -128 ≤ z54.toInt ∧ z54.toInt ≤ 127 := by rw [ez54]; exact h_m_q _
                        refine doS (n := 1) (As := [.int z54]) (rest := []) (wc := ([] : va_W)) (wr := [(h, .inr (5, [rtheatre, rbook, rdark, rnumbers, .int rfault, .int rplace, .int rtoken, .int l5_3, .int rto, .int f98_h_9])), (q, .inl (cB, 600, .inl m_q))]) hx hb hml hown hts hK hP hD hS hA [] [0, 1] rfl rfl rfl rfl (by decide) (k_isDigit l D cI cB cJ cZ cT (z54)) gX5_step_X5_isDigit rfl rfl rfl (by decide +kernel) ⟨Nat.le_of_ble_eq_true rfl, Nat.le_of_ble_eq_true rfl⟩ hl.1 rfl rfl (Nat.le_of_ble_eq_true rfl) dX5_step_106 ⟨Nat.le_of_ble_eq_true rfl, Nat.le_of_ble_eq_true rfl⟩ (fun u H locs hw hP hD hS => ?_)
                        obtain ⟨r_55, rfl⟩ : ∃ z, z = u := ⟨_, rfl⟩
                        have hP : va_P D vwCl [(h, .inr (5, [rtheatre, rbook, rdark, rnumbers, .int rfault, .int rplace, .int rtoken, .int l5_3, .int rto, .int f98_h_9])), (q, .inl (cB, 600, .inl m_q))] H := hP
                        have hD : va_D A [(h, .inr (5, [rtheatre, rbook, rdark, rnumbers, .int rfault, .int rplace, .int rtoken, .int l5_3, .int rto, .int f98_h_9])), (q, .inl (cB, 600, .inl m_q))] := hD
                        refine W.eq (g2 := F0 m 109 ls [.int r_55]) rfl ?_
                        replace hw : (0 ≤ r_55.toInt ∧ r_55.toInt ≤ 1) ∧ (R_k_isDigit z54 r_55) := hw
                        obtain ⟨hb_r_55, hxq_55⟩ := hw
                        replace hxq_55 := hid hxq_55
                        refine bi_eq (tgt := 142) (X := r_55.toInt) hx hb rfl dX5_step_109 (by decide) (fun c57 => ?_) (fun c57 => ?_)
                        · skip
                          refine lv_aload_n hx hb dX5_step_142 rfl (lv_at hl 1 rfl) ?_
                          refine lv_iload_n hx hb dX5_step_143 rfl (lv_at hl 0 rfl) ?_
                          refine lv_aload_n hx hb dX5_step_144 rfl (lv_at hl 1 rfl) ?_
                          refine va_get (D := D) (ci := 5) (v := .int l5_3) (C := RX5) (T := TX5) (N := 10) hx hb hts (fun _ h => List.mem_cons_of_mem _ (inAX5 _ h)) hown hK.1 hP 0 rfl rfl 7 (by decide) (hts (.fieldLink RX5 101 "ClapBank$Reader" "from" "I") (List.mem_cons_of_mem _ W_289)) (fun _ h9 => h9) rfl dX5_step_145 ?_
                          refine lv_isub hx hb dX5_step_148 ?_
                          refine lv_topi (fun z58 ez58 => ?_)
                          have iz58 : z58.toInt = (l98_3.toInt) - (l5_3.toInt) := by rw [ez58]; exact (i_sub (X := l98_3.toInt) (Y := l5_3.toInt) rfl rfl (by have h8 := i_rng (l98_3); have h9 := i_rng (l5_3); omega) (by have h8 := i_rng (l98_3); have h9 := i_rng (l5_3); omega)).trans (by omega)
                          refine lv_iconst (v := 3) hx hb dX5_step_149 (by decide) ?_
                          refine bc_gt (tgt := 157) (X := z58.toInt) (Y := 3) hx hb rfl (by decide) dX5_step_150 (by decide) (fun c59 => ?_) (fun c59 => ?_)
                          · skip
                            refine lv_iconst (v := 4) hx hb dX5_step_157 (by decide) ?_
                            refine va_put (D := D) (ci := 5) (v := .int 4) (ty := .int) (C := RX5) (T := TX5) (N := 10) hx hb hts (fun _ h => List.mem_cons_of_mem _ (inAX5 _ h)) tyX5 tyX5_ok nmX5 hown hK.1 hP hD hS 0 rfl rfl 6 (by decide) (hts (.fieldLink RX5 59 "ClapBank$Reader" "token" "I") (List.mem_cons_of_mem _ W_273)) (fun _ h9 => h9) rfl (by decide +kernel) rfl rfl (Nat.le_of_ble_eq_true rfl) dX5_step_158 (fun H locs hP hD hS => ?_)
                            have hP : va_P D vwCl [(h, .inr (5, [rtheatre, rbook, rdark, rnumbers, .int rfault, .int rplace, .int 4, .int l5_3, .int rto, .int f98_h_9])), (q, .inl (cB, 600, .inl m_q))] H := hP
                            have hD : va_D A [(h, .inr (5, [rtheatre, rbook, rdark, rnumbers, .int rfault, .int rplace, .int 4, .int l5_3, .int rto, .int f98_h_9])), (q, .inl (cB, 600, .inl m_q))] := hD
                            refine lv_goto (tgt := 184) hx hb dX5_step_161 (by decide) ?_
                            refine lv_aload_n hx hb dX5_step_184 rfl (lv_at hl 1 rfl) ?_
                            refine lv_iload_n hx hb dX5_step_185 rfl (lv_at hl 0 rfl) ?_
                            refine va_put (D := D) (ci := 5) (v := .int l98_3) (ty := .int) (C := RX5) (T := TX5) (N := 10) hx hb hts (fun _ h => List.mem_cons_of_mem _ (inAX5 _ h)) tyX5 tyX5_ok nmX5 hown hK.1 hP hD hS 0 rfl rfl 8 (by decide) (hts (.fieldLink RX5 52 "ClapBank$Reader" "to" "I") (List.mem_cons_of_mem _ W_272)) (fun _ h9 => h9) rfl (by decide +kernel) rfl rfl (Nat.le_of_ble_eq_true rfl) dX5_step_186 (fun H locs hP hD hS => ?_)
                            have hP : va_P D vwCl [(h, .inr (5, [rtheatre, rbook, rdark, rnumbers, .int rfault, .int rplace, .int 4, .int l5_3, .int l98_3, .int f98_h_9])), (q, .inl (cB, 600, .inl m_q))] H := hP
                            have hD : va_D A [(h, .inr (5, [rtheatre, rbook, rdark, rnumbers, .int rfault, .int rplace, .int 4, .int l5_3, .int l98_3, .int f98_h_9])), (q, .inl (cB, 600, .inl m_q))] := hD
                            refine W.widen (k := 0) (n := 0) (Nat.le_of_ble_eq_true rfl) (Nat.le_of_ble_eq_true rfl) ?_
                            exact ro_v hx hb hr hlocks (4, l5_3, l98_3, f98_h_9) rfl (⟨(show 0 ≤ (4 : Int32).toInt ∧ (4 : Int32).toInt ≤ 4 from (by decide)), (show 0 ≤ (l5_3 : Int32).toInt ∧ (l5_3 : Int32).toInt ≤ 600 from (by have h9 := i_rng (l5_3); omega)), (show 0 ≤ (l98_3 : Int32).toInt ∧ (l98_3 : Int32).toInt ≤ 600 from (by have h9 := i_rng (l98_3); omega)), (hF98_49 _ _ _ _ (fx_s (Or.inr (⟨c51, ⟨_, ez54, ⟨_, (unhid hxq_55), Or.inl (⟨c57, ⟨_, ez58, Or.inl (⟨c59, ⟨rfl, rfl, rfl, rfl⟩⟩)⟩⟩)⟩⟩⟩))))⟩) (hP.sub [0, 1] rfl) (hD.sub [0, 1] (by decide) rfl) hS dX5_step_189
                          · skip
                            refine lv_iconst (v := 2) hx hb dX5_step_153 (by decide) ?_
                            refine lv_goto (tgt := 158) hx hb dX5_step_154 (by decide) ?_
                            refine va_put (D := D) (ci := 5) (v := .int 2) (ty := .int) (C := RX5) (T := TX5) (N := 10) hx hb hts (fun _ h => List.mem_cons_of_mem _ (inAX5 _ h)) tyX5 tyX5_ok nmX5 hown hK.1 hP hD hS 0 rfl rfl 6 (by decide) (hts (.fieldLink RX5 59 "ClapBank$Reader" "token" "I") (List.mem_cons_of_mem _ W_273)) (fun _ h9 => h9) rfl (by decide +kernel) rfl rfl (Nat.le_of_ble_eq_true rfl) dX5_step_158 (fun H locs hP hD hS => ?_)
                            have hP : va_P D vwCl [(h, .inr (5, [rtheatre, rbook, rdark, rnumbers, .int rfault, .int rplace, .int 2, .int l5_3, .int rto, .int f98_h_9])), (q, .inl (cB, 600, .inl m_q))] H := hP
                            have hD : va_D A [(h, .inr (5, [rtheatre, rbook, rdark, rnumbers, .int rfault, .int rplace, .int 2, .int l5_3, .int rto, .int f98_h_9])), (q, .inl (cB, 600, .inl m_q))] := hD
                            refine lv_goto (tgt := 184) hx hb dX5_step_161 (by decide) ?_
                            refine lv_aload_n hx hb dX5_step_184 rfl (lv_at hl 1 rfl) ?_
                            refine lv_iload_n hx hb dX5_step_185 rfl (lv_at hl 0 rfl) ?_
                            refine va_put (D := D) (ci := 5) (v := .int l98_3) (ty := .int) (C := RX5) (T := TX5) (N := 10) hx hb hts (fun _ h => List.mem_cons_of_mem _ (inAX5 _ h)) tyX5 tyX5_ok nmX5 hown hK.1 hP hD hS 0 rfl rfl 8 (by decide) (hts (.fieldLink RX5 52 "ClapBank$Reader" "to" "I") (List.mem_cons_of_mem _ W_272)) (fun _ h9 => h9) rfl (by decide +kernel) rfl rfl (Nat.le_of_ble_eq_true rfl) dX5_step_186 (fun H locs hP hD hS => ?_)
                            have hP : va_P D vwCl [(h, .inr (5, [rtheatre, rbook, rdark, rnumbers, .int rfault, .int rplace, .int 2, .int l5_3, .int l98_3, .int f98_h_9])), (q, .inl (cB, 600, .inl m_q))] H := hP
                            have hD : va_D A [(h, .inr (5, [rtheatre, rbook, rdark, rnumbers, .int rfault, .int rplace, .int 2, .int l5_3, .int l98_3, .int f98_h_9])), (q, .inl (cB, 600, .inl m_q))] := hD
                            refine W.widen (k := 0) (n := 0) (Nat.le_of_ble_eq_true rfl) (Nat.le_of_ble_eq_true rfl) ?_
                            exact ro_v hx hb hr hlocks (2, l5_3, l98_3, f98_h_9) rfl (⟨(show 0 ≤ (2 : Int32).toInt ∧ (2 : Int32).toInt ≤ 4 from (by decide)), (show 0 ≤ (l5_3 : Int32).toInt ∧ (l5_3 : Int32).toInt ≤ 600 from (by have h9 := i_rng (l5_3); omega)), (show 0 ≤ (l98_3 : Int32).toInt ∧ (l98_3 : Int32).toInt ≤ 600 from (by have h9 := i_rng (l98_3); omega)), (hF98_49 _ _ _ _ (fx_s (Or.inr (⟨c51, ⟨_, ez54, ⟨_, (unhid hxq_55), Or.inl (⟨c57, ⟨_, ez58, Or.inr (⟨c59, ⟨rfl, rfl, rfl, rfl⟩⟩)⟩⟩)⟩⟩⟩))))⟩) (hP.sub [0, 1] rfl) (hD.sub [0, 1] (by decide) rfl) hS dX5_step_189
                        · skip
                          refine lv_aload_n hx hb dX5_step_112 rfl (lv_at hl 1 rfl) ?_
                          refine lv_sipush (v := 9999) hx hb dX5_step_113 (by decide) ?_
                          refine lv_aload_n hx hb dX5_step_116 rfl (lv_at hl 1 rfl) ?_
                          refine va_get (D := D) (ci := 5) (v := .int f98_h_9) (C := RX5) (T := TX5) (N := 10) hx hb hts (fun _ h => List.mem_cons_of_mem _ (inAX5 _ h)) hown hK.1 hP 0 rfl rfl 9 (by decide) (hts (.fieldLink RX5 91 "ClapBank$Reader" "value" "I") (List.mem_cons_of_mem _ W_290)) (fun _ h9 => h9) rfl dX5_step_117 ?_
                          refine lv_bipush (v := 10) hx hb dX5_step_120 (by decide) ?_
                          refine lv_imul hx hb dX5_step_122 ?_
                          refine lv_topi (fun z60 ez60 => ?_)
                          refine lv_aload_n hx hb dX5_step_123 rfl (lv_at hl 2 rfl) ?_
                          refine lv_iload_n hx hb dX5_step_124 rfl (lv_at hl 0 rfl) ?_
                          refine va_bald hx hb hK.1 hP 1 1 rfl rfl (i_in (X := l98_3.toInt) rfl (by omega) (by omega)) dX5_step_125 ?_
                          refine vz_i (y := z54) ez54.symm ?_
                          refine lv_iadd hx hb dX5_step_126 ?_
                          refine lv_topi (fun z61 ez61 => ?_)
                          refine lv_bipush (v := 48) hx hb dX5_step_127 (by decide) ?_
                          refine lv_isub hx hb dX5_step_129 ?_
                          refine lv_topi (fun z62 ez62 => ?_)
                          refine va_mmin hx hb (hml.trans hl.1.symm) hown (hts (.methodLink RX5 111 Lib.Math.min.name) (List.mem_cons_of_mem _ W_291)) (hts (.static Lib.Math.min.name) (List.mem_cons_of_mem _ W_203)) (hts (.initialized "java/lang/Math") (List.mem_cons_of_mem _ W_131)) (hts (.code Lib.Math.min.name Lib.Math.min.code 2 (some .int)) (List.mem_cons_of_mem _ W_204)) (Nat.le_of_ble_eq_true rfl) (Nat.le_of_ble_eq_true rfl) (Nat.le_of_ble_eq_true rfl) (Nat.le_of_ble_eq_true rfl) dX5_step_130 ?_
                          refine lv_topi (fun z63 ez63 => ?_)
                          have hmm_z63 : z63.toInt = min (9999) (z62.toInt) := by rw [ez63]; exact i_min (X := 9999) (Y := z62.toInt) (by decide) rfl
                          refine va_put (D := D) (ci := 5) (v := .int z63) (ty := .int) (C := RX5) (T := TX5) (N := 10) hx hb hts (fun _ h => List.mem_cons_of_mem _ (inAX5 _ h)) tyX5 tyX5_ok nmX5 hown hK.1 hP hD hS 0 rfl rfl 9 (by decide) (hts (.fieldLink RX5 91 "ClapBank$Reader" "value" "I") (List.mem_cons_of_mem _ W_290)) (fun _ h9 => h9) rfl (by decide +kernel) rfl rfl (Nat.le_of_ble_eq_true rfl) dX5_step_133 (fun H locs hP hD hS => ?_)
                          have hP : va_P D vwCl [(h, .inr (5, [rtheatre, rbook, rdark, rnumbers, .int rfault, .int rplace, .int rtoken, .int l5_3, .int rto, .int z63])), (q, .inl (cB, 600, .inl m_q))] H := hP
                          have hD : va_D A [(h, .inr (5, [rtheatre, rbook, rdark, rnumbers, .int rfault, .int rplace, .int rtoken, .int l5_3, .int rto, .int z63])), (q, .inl (cB, 600, .inl m_q))] := hD
                          obtain ⟨z64, ez64⟩ : ∃ y : Int32, y = l98_3 + 1 := ⟨_, rfl⟩
                          have iz64 : z64.toInt = l98_3.toInt + 1 := by rw [ez64]; exact (i_add (X := l98_3.toInt) (Y := 1) rfl (by decide) (by have h8 := i_rng (l98_3); have h9 := i_rng (1); omega) (by have h8 := i_rng (l98_3); have h9 := i_rng (1); omega)).trans (by omega)
                          refine lv_iinc (v := z64) (lv' := [(3, .int z64), (0, .ref h), (1, .ref q), (2, .int n)]) hx hb dX5_step_136 hl (k := 0) rfl (by rw [ez64]; rfl) (by decide) rfl (fun ls hl => ?_)
                          refine lv_goto (tgt := 98) hx hb dX5_step_139 (by decide) ?_
                          exact ih98 (z64) (z63) _ _ _ (by have h9 := i_rng (z64); omega) (by have h9 := i_rng (z63); omega) (fun _ _ _ _ hf_ => (hF98_49 _ _ _ _ (fx_s (Or.inr (⟨c51, ⟨_, ez54, ⟨_, (unhid hxq_55), Or.inr (⟨c57, ⟨_, ez60, ⟨_, ez61, ⟨_, ez62, ⟨_, ez63, ⟨_, ez64, hf_⟩⟩⟩⟩⟩⟩)⟩⟩⟩))))) (by first | omega | decide) (hP.sub [0, 1] rfl) (hD.sub [0, 1] (by decide) rfl) hS (lv_sub hl [0, 1, 2, 3] rfl)
                  exact lp98_49 602 (l5_3) (0) _ _ _ (by have h9 := i_rng (l5_3); omega) (by decide) (fun _ _ _ _ hf_ => (hF5_0 _ _ _ _ (fx_s (Or.inr (⟨c2, ⟨_, ez36, Or.inr (⟨c37, Or.inl (⟨c39, Or.inl (⟨c40, ⟨_, (unhid hxq_41), Or.inl (⟨c43, ⟨_, (unhid hxq_44), Or.inr (⟨c46, hf_⟩)⟩⟩)⟩⟩)⟩)⟩)⟩⟩))))) (by have hc1_ : (0 : Int32).toInt = 0 := (by decide); first | omega | decide) (hP.sub [0, 1] rfl) (hD.sub [0, 1] (by decide) rfl) hS (lv_sub hl [0, 1, 2, 3] rfl)
              · skip
                refine lv_aload_n hx hb dX5_step_59 rfl (lv_at hl 1 rfl) ?_
                refine lv_iconst (v := 1) hx hb dX5_step_60 (by decide) ?_
                refine va_put (D := D) (ci := 5) (v := .int 1) (ty := .int) (C := RX5) (T := TX5) (N := 10) hx hb hts (fun _ h => List.mem_cons_of_mem _ (inAX5 _ h)) tyX5 tyX5_ok nmX5 hown hK.1 hP hD hS 0 rfl rfl 6 (by decide) (hts (.fieldLink RX5 59 "ClapBank$Reader" "token" "I") (List.mem_cons_of_mem _ W_273)) (fun _ h9 => h9) rfl (by decide +kernel) rfl rfl (Nat.le_of_ble_eq_true rfl) dX5_step_61 (fun H locs hP hD hS => ?_)
                have hP : va_P D vwCl [(h, .inr (5, [rtheatre, rbook, rdark, rnumbers, .int rfault, .int rplace, .int 1, .int l5_3, .int rto, .int rvalue])), (q, .inl (cB, 600, .inl m_q))] H := hP
                have hD : va_D A [(h, .inr (5, [rtheatre, rbook, rdark, rnumbers, .int rfault, .int rplace, .int 1, .int l5_3, .int rto, .int rvalue])), (q, .inl (cB, 600, .inl m_q))] := hD
                have lp64_64 : ∀ (nf64 : Nat) (l64_3 : Int32) (H : Heap) (locs : List Loc) (ls : Array Slot), (0 ≤ l64_3.toInt ∧ l64_3.toInt ≤ 600) → (∀ (u0_ : Int32) (u1_ : Int32) (u2_ : Int32) (u3_ : Int32), fx (T_k_step_64 n l5_3 rvalue m_q u0_ u1_ u2_ u3_) nf64 l64_3 → R_k_step n m_q rvalue rto u0_ u1_ u2_ u3_) → (600 - l64_3.toInt < (nf64 : Int)) → va_P D vwCl [(h, .inr (5, [rtheatre, rbook, rdark, rnumbers, .int rfault, .int rplace, .int 1, .int l5_3, .int rto, .int rvalue])), (q, .inl (cB, 600, .inl m_q))] H → va_D A [(h, .inr (5, [rtheatre, rbook, rdark, rnumbers, .int rfault, .int rplace, .int 1, .int l5_3, .int rto, .int rvalue])), (q, .inl (cB, 600, .inl m_q))] → va_S A s.heap H locs → lv_has ls 4 [(3, .int l64_3), (0, .ref h), (1, .ref q), (2, .int n)] → W p l e ({ frames := 1, cells := 0, slots := 0, locals := 30 }) s m ([.ref h, .ref q, .int n] : List Value).toArray below meth c H locs 0 0 (MQ below (Qo (fun u : Int32 × Int32 × Int32 × Int32 => none) (fun u : Int32 × Int32 × Int32 × Int32 => (0 ≤ u.1.toInt ∧ u.1.toInt ≤ 4) ∧ (0 ≤ u.2.1.toInt ∧ u.2.1.toInt ≤ 600) ∧ (0 ≤ u.2.2.1.toInt ∧ u.2.2.1.toInt ≤ 600) ∧ (R_k_step n m_q rvalue rto u.1 u.2.1 u.2.2.1 u.2.2.2)) (BW D A (fun u : Int32 × Int32 × Int32 × Int32 => [(h, .inr (5, [rtheatre, rbook, rdark, rnumbers, .int rfault, .int rplace, .int u.1, .int u.2.1, .int u.2.2.1, .int u.2.2.2])), (q, .inl (cB, 600, .inl m_q))])) A) ([.ref h, .ref q, .int n] : List Value).toArray s 0 0 A) (F0 m 64 ls []) := by
                  intro nf64
                  induction nf64 with
                  | zero => intro l64_3 H locs ls h_l64_3 hF64_64 hm64; exact absurd hm64 (by omega)
                  | succ nf64 ih64 =>
                    intro l64_3 H locs ls h_l64_3 hF64_64 hm64 hP hD hS hl
                    refine lv_iload_n hx hb dX5_step_64 rfl (lv_at hl 0 rfl) ?_
                    refine lv_iload_n hx hb dX5_step_65 rfl (lv_at hl 3 rfl) ?_
                    refine bc_ge (tgt := 184) (X := l64_3.toInt) (Y := n.toInt) hx hb rfl rfl dX5_step_66 (by decide) (fun c66 => ?_) (fun c66 => ?_)
                    · skip
                      refine lv_aload_n hx hb dX5_step_184 rfl (lv_at hl 1 rfl) ?_
                      refine lv_iload_n hx hb dX5_step_185 rfl (lv_at hl 0 rfl) ?_
                      refine va_put (D := D) (ci := 5) (v := .int l64_3) (ty := .int) (C := RX5) (T := TX5) (N := 10) hx hb hts (fun _ h => List.mem_cons_of_mem _ (inAX5 _ h)) tyX5 tyX5_ok nmX5 hown hK.1 hP hD hS 0 rfl rfl 8 (by decide) (hts (.fieldLink RX5 52 "ClapBank$Reader" "to" "I") (List.mem_cons_of_mem _ W_272)) (fun _ h9 => h9) rfl (by decide +kernel) rfl rfl (Nat.le_of_ble_eq_true rfl) dX5_step_186 (fun H locs hP hD hS => ?_)
                      have hP : va_P D vwCl [(h, .inr (5, [rtheatre, rbook, rdark, rnumbers, .int rfault, .int rplace, .int 1, .int l5_3, .int l64_3, .int rvalue])), (q, .inl (cB, 600, .inl m_q))] H := hP
                      have hD : va_D A [(h, .inr (5, [rtheatre, rbook, rdark, rnumbers, .int rfault, .int rplace, .int 1, .int l5_3, .int l64_3, .int rvalue])), (q, .inl (cB, 600, .inl m_q))] := hD
                      refine W.widen (k := 0) (n := 0) (Nat.le_of_ble_eq_true rfl) (Nat.le_of_ble_eq_true rfl) ?_
                      exact ro_v hx hb hr hlocks (1, l5_3, l64_3, rvalue) rfl (⟨(show 0 ≤ (1 : Int32).toInt ∧ (1 : Int32).toInt ≤ 4 from (by decide)), (show 0 ≤ (l5_3 : Int32).toInt ∧ (l5_3 : Int32).toInt ≤ 600 from (by have h9 := i_rng (l5_3); omega)), (show 0 ≤ (l64_3 : Int32).toInt ∧ (l64_3 : Int32).toInt ≤ 600 from (by have h9 := i_rng (l64_3); omega)), (hF64_64 _ _ _ _ (fx_s (Or.inl (⟨c66, ⟨rfl, rfl, rfl, rfl⟩⟩))))⟩) (hP.sub [0, 1] rfl) (hD.sub [0, 1] (by decide) rfl) hS dX5_step_189
                    · skip
                      refine lv_aload_n hx hb dX5_step_69 rfl (lv_at hl 2 rfl) ?_
                      refine lv_iload_n hx hb dX5_step_70 rfl (lv_at hl 0 rfl) ?_
                      refine va_bald hx hb hK.1 hP 1 1 rfl rfl (i_in (X := l64_3.toInt) rfl (by omega) (by omega)) dX5_step_71 ?_
                      refine lv_topi (fun z67 ez67 => ?_)
                      have hv_z67 : -128 ≤ z67.toInt ∧ z67.toInt ≤ 127 := by rw [ez67]; exact h_m_q _
                      refine doS (n := 1) (As := [.int z67]) (rest := []) (wc := ([] : va_W)) (wr := [(h, .inr (5, [rtheatre, rbook, rdark, rnumbers, .int rfault, .int rplace, .int 1, .int l5_3, .int rto, .int rvalue])), (q, .inl (cB, 600, .inl m_q))]) hx hb hml hown hts hK hP hD hS hA [] [0, 1] rfl rfl rfl rfl (by decide) (k_isLetter l D cI cB cJ cZ cT (z67)) gX5_step_X5_isLetter rfl rfl rfl (by decide +kernel) ⟨Nat.le_of_ble_eq_true rfl, Nat.le_of_ble_eq_true rfl⟩ hl.1 rfl rfl (Nat.le_of_ble_eq_true rfl) dX5_step_72 ⟨Nat.le_of_ble_eq_true rfl, Nat.le_of_ble_eq_true rfl⟩ (fun u H locs hw hP hD hS => ?_)
                      obtain ⟨r_68, rfl⟩ : ∃ z, z = u := ⟨_, rfl⟩
                      have hP : va_P D vwCl [(h, .inr (5, [rtheatre, rbook, rdark, rnumbers, .int rfault, .int rplace, .int 1, .int l5_3, .int rto, .int rvalue])), (q, .inl (cB, 600, .inl m_q))] H := hP
                      have hD : va_D A [(h, .inr (5, [rtheatre, rbook, rdark, rnumbers, .int rfault, .int rplace, .int 1, .int l5_3, .int rto, .int rvalue])), (q, .inl (cB, 600, .inl m_q))] := hD
                      refine W.eq (g2 := F0 m 75 ls [.int r_68]) rfl ?_
                      replace hw : (0 ≤ r_68.toInt ∧ r_68.toInt ≤ 1) ∧ (R_k_isLetter z67 r_68) := hw
                      obtain ⟨hb_r_68, hxq_68⟩ := hw
                      replace hxq_68 := hid hxq_68
                      refine bi_eq (tgt := 184) (X := r_68.toInt) hx hb rfl dX5_step_75 (by decide) (fun c70 => ?_) (fun c70 => ?_)
                      · skip
                        refine lv_aload_n hx hb dX5_step_184 rfl (lv_at hl 1 rfl) ?_
                        refine lv_iload_n hx hb dX5_step_185 rfl (lv_at hl 0 rfl) ?_
                        refine va_put (D := D) (ci := 5) (v := .int l64_3) (ty := .int) (C := RX5) (T := TX5) (N := 10) hx hb hts (fun _ h => List.mem_cons_of_mem _ (inAX5 _ h)) tyX5 tyX5_ok nmX5 hown hK.1 hP hD hS 0 rfl rfl 8 (by decide) (hts (.fieldLink RX5 52 "ClapBank$Reader" "to" "I") (List.mem_cons_of_mem _ W_272)) (fun _ h9 => h9) rfl (by decide +kernel) rfl rfl (Nat.le_of_ble_eq_true rfl) dX5_step_186 (fun H locs hP hD hS => ?_)
                        have hP : va_P D vwCl [(h, .inr (5, [rtheatre, rbook, rdark, rnumbers, .int rfault, .int rplace, .int 1, .int l5_3, .int l64_3, .int rvalue])), (q, .inl (cB, 600, .inl m_q))] H := hP
                        have hD : va_D A [(h, .inr (5, [rtheatre, rbook, rdark, rnumbers, .int rfault, .int rplace, .int 1, .int l5_3, .int l64_3, .int rvalue])), (q, .inl (cB, 600, .inl m_q))] := hD
                        refine W.widen (k := 0) (n := 0) (Nat.le_of_ble_eq_true rfl) (Nat.le_of_ble_eq_true rfl) ?_
                        exact ro_v hx hb hr hlocks (1, l5_3, l64_3, rvalue) rfl (⟨(show 0 ≤ (1 : Int32).toInt ∧ (1 : Int32).toInt ≤ 4 from (by decide)), (show 0 ≤ (l5_3 : Int32).toInt ∧ (l5_3 : Int32).toInt ≤ 600 from (by have h9 := i_rng (l5_3); omega)), (show 0 ≤ (l64_3 : Int32).toInt ∧ (l64_3 : Int32).toInt ≤ 600 from (by have h9 := i_rng (l64_3); omega)), (hF64_64 _ _ _ _ (fx_s (Or.inr (⟨c66, ⟨_, ez67, ⟨_, (unhid hxq_68), Or.inl (⟨c70, ⟨rfl, rfl, rfl, rfl⟩⟩)⟩⟩⟩))))⟩) (hP.sub [0, 1] rfl) (hD.sub [0, 1] (by decide) rfl) hS dX5_step_189
                      · skip
                        obtain ⟨z71, ez71⟩ : ∃ y : Int32, y = l64_3 + 1 := ⟨_, rfl⟩
                        have iz71 : z71.toInt = l64_3.toInt + 1 := by rw [ez71]; exact (i_add (X := l64_3.toInt) (Y := 1) rfl (by decide) (by have h8 := i_rng (l64_3); have h9 := i_rng (1); omega) (by have h8 := i_rng (l64_3); have h9 := i_rng (1); omega)).trans (by omega)
                        refine lv_iinc (v := z71) (lv' := [(3, .int z71), (0, .ref h), (1, .ref q), (2, .int n)]) hx hb dX5_step_78 hl (k := 0) rfl (by rw [ez71]; rfl) (by decide) rfl (fun ls hl => ?_)
                        refine lv_goto (tgt := 64) hx hb dX5_step_81 (by decide) ?_
                        exact ih64 (z71) _ _ _ (by have h9 := i_rng (z71); omega) (fun _ _ _ _ hf_ => (hF64_64 _ _ _ _ (fx_s (Or.inr (⟨c66, ⟨_, ez67, ⟨_, (unhid hxq_68), Or.inr (⟨c70, ⟨_, ez71, hf_⟩⟩)⟩⟩⟩))))) (by first | omega | decide) (hP.sub [0, 1] rfl) (hD.sub [0, 1] (by decide) rfl) hS (lv_sub hl [0, 1, 2, 3] rfl)
                exact lp64_64 602 (l5_3) _ _ _ (by have h9 := i_rng (l5_3); omega) (fun _ _ _ _ hf_ => (hF5_0 _ _ _ _ (fx_s (Or.inr (⟨c2, ⟨_, ez36, Or.inr (⟨c37, Or.inl (⟨c39, Or.inl (⟨c40, ⟨_, (unhid hxq_41), Or.inr (⟨c43, hf_⟩)⟩⟩)⟩)⟩)⟩⟩))))) (by first | omega | decide) (hP.sub [0, 1] rfl) (hD.sub [0, 1] (by decide) rfl) hS (lv_sub hl [0, 1, 2, 3] rfl)
            · skip
              refine lv_aload_n hx hb dX5_step_42 rfl (lv_at hl 1 rfl) ?_
              refine lv_iconst (v := 0) hx hb dX5_step_43 (by decide) ?_
              refine va_put (D := D) (ci := 5) (v := .int 0) (ty := .int) (C := RX5) (T := TX5) (N := 10) hx hb hts (fun _ h => List.mem_cons_of_mem _ (inAX5 _ h)) tyX5 tyX5_ok nmX5 hown hK.1 hP hD hS 0 rfl rfl 6 (by decide) (hts (.fieldLink RX5 59 "ClapBank$Reader" "token" "I") (List.mem_cons_of_mem _ W_273)) (fun _ h9 => h9) rfl (by decide +kernel) rfl rfl (Nat.le_of_ble_eq_true rfl) dX5_step_44 (fun H locs hP hD hS => ?_)
              have hP : va_P D vwCl [(h, .inr (5, [rtheatre, rbook, rdark, rnumbers, .int rfault, .int rplace, .int 0, .int l5_3, .int rto, .int rvalue])), (q, .inl (cB, 600, .inl m_q))] H := hP
              have hD : va_D A [(h, .inr (5, [rtheatre, rbook, rdark, rnumbers, .int rfault, .int rplace, .int 0, .int l5_3, .int rto, .int rvalue])), (q, .inl (cB, 600, .inl m_q))] := hD
              refine lv_goto (tgt := 184) hx hb dX5_step_47 (by decide) ?_
              refine lv_aload_n hx hb dX5_step_184 rfl (lv_at hl 1 rfl) ?_
              refine lv_iload_n hx hb dX5_step_185 rfl (lv_at hl 0 rfl) ?_
              refine va_put (D := D) (ci := 5) (v := .int l5_3) (ty := .int) (C := RX5) (T := TX5) (N := 10) hx hb hts (fun _ h => List.mem_cons_of_mem _ (inAX5 _ h)) tyX5 tyX5_ok nmX5 hown hK.1 hP hD hS 0 rfl rfl 8 (by decide) (hts (.fieldLink RX5 52 "ClapBank$Reader" "to" "I") (List.mem_cons_of_mem _ W_272)) (fun _ h9 => h9) rfl (by decide +kernel) rfl rfl (Nat.le_of_ble_eq_true rfl) dX5_step_186 (fun H locs hP hD hS => ?_)
              have hP : va_P D vwCl [(h, .inr (5, [rtheatre, rbook, rdark, rnumbers, .int rfault, .int rplace, .int 0, .int l5_3, .int l5_3, .int rvalue])), (q, .inl (cB, 600, .inl m_q))] H := hP
              have hD : va_D A [(h, .inr (5, [rtheatre, rbook, rdark, rnumbers, .int rfault, .int rplace, .int 0, .int l5_3, .int l5_3, .int rvalue])), (q, .inl (cB, 600, .inl m_q))] := hD
              refine W.widen (k := 0) (n := 0) (Nat.le_of_ble_eq_true rfl) (Nat.le_of_ble_eq_true rfl) ?_
              exact ro_v hx hb hr hlocks (0, l5_3, l5_3, rvalue) rfl (⟨(show 0 ≤ (0 : Int32).toInt ∧ (0 : Int32).toInt ≤ 4 from (by decide)), (show 0 ≤ (l5_3 : Int32).toInt ∧ (l5_3 : Int32).toInt ≤ 600 from (by have h9 := i_rng (l5_3); omega)), (show 0 ≤ (l5_3 : Int32).toInt ∧ (l5_3 : Int32).toInt ≤ 600 from (by have h9 := i_rng (l5_3); omega)), (hF5_0 _ _ _ _ (fx_s (Or.inr (⟨c2, ⟨_, ez36, Or.inr (⟨c37, Or.inl (⟨c39, Or.inr (⟨c40, ⟨rfl, rfl, rfl, rfl⟩⟩)⟩)⟩)⟩⟩))))⟩) (hP.sub [0, 1] rfl) (hD.sub [0, 1] (by decide) rfl) hS dX5_step_189
          · skip
            obtain ⟨z72, ez72⟩ : ∃ y : Int32, y = l5_3 + 1 := ⟨_, rfl⟩
            have iz72 : z72.toInt = l5_3.toInt + 1 := by rw [ez72]; exact (i_add (X := l5_3.toInt) (Y := 1) rfl (by decide) (by have h8 := i_rng (l5_3); have h9 := i_rng (1); omega) (by have h8 := i_rng (l5_3); have h9 := i_rng (1); omega)).trans (by omega)
            refine lv_iinc (v := z72) (lv' := [(3, .int z72), (0, .ref h), (1, .ref q), (2, .int n)]) hx hb dX5_step_26 hl (k := 0) rfl (by rw [ez72]; rfl) (by decide) rfl (fun ls hl => ?_)
            refine lv_goto (tgt := 5) hx hb dX5_step_29 (by decide) ?_
            exact ih5 (z72) _ _ _ (by have h9 := i_rng (z72); omega) (fun _ _ _ _ hf_ => (hF5_0 _ _ _ _ (fx_s (Or.inr (⟨c2, ⟨_, ez36, Or.inr (⟨c37, Or.inr (⟨c39, ⟨_, ez72, hf_⟩⟩)⟩)⟩⟩))))) (by first | omega | decide) (hP.sub [0, 1] rfl) (hD.sub [0, 1] (by decide) rfl) hS (lv_sub hl [0, 1, 2, 3] rfl)
  exact lp5_0 602 (rto) _ _ _ (by have h9 := i_rng (rto); omega) (fun _ _ _ _ hf_ => (hf_)) (by first | omega | decide) (hP.sub [0, 1] rfl) (hD.sub [0, 1] (by decide) rfl) hS (lv_sub hl [0, 1, 2, 3] rfl)
