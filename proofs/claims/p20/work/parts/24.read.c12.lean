set_option maxHeartbeats 4000000 in
set_option maxRecDepth 100000 in
theorem j_deedBy (l : Launch) (D : va_G) (cI cB cJ cZ cT : ClassId) (w : Int64) : Co l yX10_deedBy wsX10_deedBy ({ frames := 0, cells := 0, slots := 0, locals := 0 }) D (tyL cI cB cJ cZ cT) [.long w] ([] : va_W) (fun u : Int32 => some (.int u)) (fun u : Int32 => (-1 ≤ u.toInt ∧ u.toInt ≤ 6) ∧ (R_j_deedBy w u)) (fun u : Int32 => ([] : va_W)) 0 0 := by
  refine entry (cc := cX10_deedBy) (maxL := 2) (ret := (some .int)) (by decide) rfl (Nat.le_of_ble_eq_true rfl) ?_
  intro p e s m below meth c A ls hx hb hr hml hts hown hlocks hname hK hP hD hS hA hl
  have hown : s.vm.findClass RX10 = some m.cls := hown
  have hl : lv_has ls 2 [(0, .long w)] := hl
  refine lv_lload_n hx hb dX10_deedBy_0 rfl (lv_at hl 0 rfl) ?_
  refine lv_ldc2 (v := 1668047216) hx hb hown (hts (.constantLong RX10 174 (1668047216)) (List.mem_cons_of_mem _ W_742)) dX10_deedBy_1 ?_
  refine W.lcmp hx hb dX10_deedBy_4 ?_
  refine lv_topi (fun z1 ez1 => ?_)
  refine bi_ne (tgt := 12) (X := z1.toInt) hx hb rfl dX10_deedBy_5 (by decide) (fun c2 => ?_) (fun c2 => ?_)
  · skip
    refine lv_lload_n hx hb dX10_deedBy_12 rfl (lv_at hl 0 rfl) ?_
    refine lv_ldc2 (v := 1818586724) hx hb hown (hts (.constantLong RX10 176 (1818586724)) (List.mem_cons_of_mem _ W_743)) dX10_deedBy_13 ?_
    refine W.lcmp hx hb dX10_deedBy_16 ?_
    refine lv_topi (fun z3 ez3 => ?_)
    refine bi_ne (tgt := 24) (X := z3.toInt) hx hb rfl dX10_deedBy_17 (by decide) (fun c4 => ?_) (fun c4 => ?_)
    · skip
      refine lv_lload_n hx hb dX10_deedBy_24 rfl (lv_at hl 0 rfl) ?_
      refine lv_ldc2 (v := 491328135545) hx hb hown (hts (.constantLong RX10 178 (491328135545)) (List.mem_cons_of_mem _ W_744)) dX10_deedBy_25 ?_
      refine W.lcmp hx hb dX10_deedBy_28 ?_
      refine lv_topi (fun z5 ez5 => ?_)
      refine bi_ne (tgt := 36) (X := z5.toInt) hx hb rfl dX10_deedBy_29 (by decide) (fun c6 => ?_) (fun c6 => ?_)
      · skip
        refine lv_lload_n hx hb dX10_deedBy_36 rfl (lv_at hl 0 rfl) ?_
        refine lv_ldc2 (v := 1752527720) hx hb hown (hts (.constantLong RX10 180 (1752527720)) (List.mem_cons_of_mem _ W_745)) dX10_deedBy_37 ?_
        refine W.lcmp hx hb dX10_deedBy_40 ?_
        refine lv_topi (fun z7 ez7 => ?_)
        refine bi_ne (tgt := 48) (X := z7.toInt) hx hb rfl dX10_deedBy_41 (by decide) (fun c8 => ?_) (fun c8 => ?_)
        · skip
          refine lv_lload_n hx hb dX10_deedBy_48 rfl (lv_at hl 0 rfl) ?_
          refine lv_ldc2 (v := 495874699885) hx hb hown (hts (.constantLong RX10 182 (495874699885)) (List.mem_cons_of_mem _ W_746)) dX10_deedBy_49 ?_
          refine W.lcmp hx hb dX10_deedBy_52 ?_
          refine lv_topi (fun z9 ez9 => ?_)
          refine bi_ne (tgt := 60) (X := z9.toInt) hx hb rfl dX10_deedBy_53 (by decide) (fun c10 => ?_) (fun c10 => ?_)
          · skip
            refine lv_lload_n hx hb dX10_deedBy_60 rfl (lv_at hl 0 rfl) ?_
            refine lv_ldc2 (v := 111524789056101) hx hb hown (hts (.constantLong RX10 184 (111524789056101)) (List.mem_cons_of_mem _ W_747)) dX10_deedBy_61 ?_
            refine W.lcmp hx hb dX10_deedBy_64 ?_
            refine lv_topi (fun z11 ez11 => ?_)
            refine bi_ne (tgt := 72) (X := z11.toInt) hx hb rfl dX10_deedBy_65 (by decide) (fun c12 => ?_) (fun c12 => ?_)
            · skip
              refine lv_lload_n hx hb dX10_deedBy_72 rfl (lv_at hl 0 rfl) ?_
              refine lv_ldc2 (v := 474214787188) hx hb hown (hts (.constantLong RX10 186 (474214787188)) (List.mem_cons_of_mem _ W_748)) dX10_deedBy_73 ?_
              refine W.lcmp hx hb dX10_deedBy_76 ?_
              refine lv_topi (fun z13 ez13 => ?_)
              refine bi_ne (tgt := 85) (X := z13.toInt) hx hb rfl dX10_deedBy_77 (by decide) (fun c14 => ?_) (fun c14 => ?_)
              · skip
                refine lv_iconst (v := (-1)) hx hb dX10_deedBy_85 (by decide) ?_
                refine W.widen (k := 0) (n := 0) (Nat.le_of_ble_eq_true rfl) (Nat.le_of_ble_eq_true rfl) ?_
                exact ro_i hx hb hr hlocks ((-1)) rfl (⟨(show -1 ≤ ((-1) : Int32).toInt ∧ ((-1) : Int32).toInt ≤ 6 from (by decide)), (⟨_, ez1, Or.inl (⟨c2, ⟨_, ez3, Or.inl (⟨c4, ⟨_, ez5, Or.inl (⟨c6, ⟨_, ez7, Or.inl (⟨c8, ⟨_, ez9, Or.inl (⟨c10, ⟨_, ez11, Or.inl (⟨c12, ⟨_, ez13, Or.inl (⟨c14, rfl⟩)⟩⟩)⟩⟩)⟩⟩)⟩⟩)⟩⟩)⟩⟩)⟩)⟩) (hP.sub [] rfl) (hD.sub [] (by decide) rfl) hS dX10_deedBy_86
              · skip
                refine lv_bipush (v := 6) hx hb dX10_deedBy_80 (by decide) ?_
                refine lv_goto (tgt := 86) hx hb dX10_deedBy_82 (by decide) ?_
                refine W.widen (k := 0) (n := 0) (Nat.le_of_ble_eq_true rfl) (Nat.le_of_ble_eq_true rfl) ?_
                exact ro_i hx hb hr hlocks (6) rfl (⟨(show -1 ≤ (6 : Int32).toInt ∧ (6 : Int32).toInt ≤ 6 from (by decide)), (⟨_, ez1, Or.inl (⟨c2, ⟨_, ez3, Or.inl (⟨c4, ⟨_, ez5, Or.inl (⟨c6, ⟨_, ez7, Or.inl (⟨c8, ⟨_, ez9, Or.inl (⟨c10, ⟨_, ez11, Or.inl (⟨c12, ⟨_, ez13, Or.inr (⟨c14, rfl⟩)⟩⟩)⟩⟩)⟩⟩)⟩⟩)⟩⟩)⟩⟩)⟩)⟩) (hP.sub [] rfl) (hD.sub [] (by decide) rfl) hS dX10_deedBy_86
            · skip
              refine lv_iconst (v := 5) hx hb dX10_deedBy_68 (by decide) ?_
              refine lv_goto (tgt := 86) hx hb dX10_deedBy_69 (by decide) ?_
              refine W.widen (k := 0) (n := 0) (Nat.le_of_ble_eq_true rfl) (Nat.le_of_ble_eq_true rfl) ?_
              exact ro_i hx hb hr hlocks (5) rfl (⟨(show -1 ≤ (5 : Int32).toInt ∧ (5 : Int32).toInt ≤ 6 from (by decide)), (⟨_, ez1, Or.inl (⟨c2, ⟨_, ez3, Or.inl (⟨c4, ⟨_, ez5, Or.inl (⟨c6, ⟨_, ez7, Or.inl (⟨c8, ⟨_, ez9, Or.inl (⟨c10, ⟨_, ez11, Or.inr (⟨c12, rfl⟩)⟩⟩)⟩⟩)⟩⟩)⟩⟩)⟩⟩)⟩)⟩) (hP.sub [] rfl) (hD.sub [] (by decide) rfl) hS dX10_deedBy_86
          · skip
            refine lv_iconst (v := 4) hx hb dX10_deedBy_56 (by decide) ?_
            refine lv_goto (tgt := 86) hx hb dX10_deedBy_57 (by decide) ?_
            refine W.widen (k := 0) (n := 0) (Nat.le_of_ble_eq_true rfl) (Nat.le_of_ble_eq_true rfl) ?_
            exact ro_i hx hb hr hlocks (4) rfl (⟨(show -1 ≤ (4 : Int32).toInt ∧ (4 : Int32).toInt ≤ 6 from (by decide)), (⟨_, ez1, Or.inl (⟨c2, ⟨_, ez3, Or.inl (⟨c4, ⟨_, ez5, Or.inl (⟨c6, ⟨_, ez7, Or.inl (⟨c8, ⟨_, ez9, Or.inr (⟨c10, rfl⟩)⟩⟩)⟩⟩)⟩⟩)⟩⟩)⟩)⟩) (hP.sub [] rfl) (hD.sub [] (by decide) rfl) hS dX10_deedBy_86
        · skip
          refine lv_iconst (v := 3) hx hb dX10_deedBy_44 (by decide) ?_
          refine lv_goto (tgt := 86) hx hb dX10_deedBy_45 (by decide) ?_
          refine W.widen (k := 0) (n := 0) (Nat.le_of_ble_eq_true rfl) (Nat.le_of_ble_eq_true rfl) ?_
          exact ro_i hx hb hr hlocks (3) rfl (⟨(show -1 ≤ (3 : Int32).toInt ∧ (3 : Int32).toInt ≤ 6 from (by decide)), (⟨_, ez1, Or.inl (⟨c2, ⟨_, ez3, Or.inl (⟨c4, ⟨_, ez5, Or.inl (⟨c6, ⟨_, ez7, Or.inr (⟨c8, rfl⟩)⟩⟩)⟩⟩)⟩⟩)⟩)⟩) (hP.sub [] rfl) (hD.sub [] (by decide) rfl) hS dX10_deedBy_86
      · skip
        refine lv_iconst (v := 2) hx hb dX10_deedBy_32 (by decide) ?_
        refine lv_goto (tgt := 86) hx hb dX10_deedBy_33 (by decide) ?_
        refine W.widen (k := 0) (n := 0) (Nat.le_of_ble_eq_true rfl) (Nat.le_of_ble_eq_true rfl) ?_
        exact ro_i hx hb hr hlocks (2) rfl (⟨(show -1 ≤ (2 : Int32).toInt ∧ (2 : Int32).toInt ≤ 6 from (by decide)), (⟨_, ez1, Or.inl (⟨c2, ⟨_, ez3, Or.inl (⟨c4, ⟨_, ez5, Or.inr (⟨c6, rfl⟩)⟩⟩)⟩⟩)⟩)⟩) (hP.sub [] rfl) (hD.sub [] (by decide) rfl) hS dX10_deedBy_86
    · skip
      refine lv_iconst (v := 1) hx hb dX10_deedBy_20 (by decide) ?_
      refine lv_goto (tgt := 86) hx hb dX10_deedBy_21 (by decide) ?_
      refine W.widen (k := 0) (n := 0) (Nat.le_of_ble_eq_true rfl) (Nat.le_of_ble_eq_true rfl) ?_
      exact ro_i hx hb hr hlocks (1) rfl (⟨(show -1 ≤ (1 : Int32).toInt ∧ (1 : Int32).toInt ≤ 6 from (by decide)), (⟨_, ez1, Or.inl (⟨c2, ⟨_, ez3, Or.inr (⟨c4, rfl⟩)⟩⟩)⟩)⟩) (hP.sub [] rfl) (hD.sub [] (by decide) rfl) hS dX10_deedBy_86
  · skip
    refine lv_iconst (v := 0) hx hb dX10_deedBy_8 (by decide) ?_
    refine lv_goto (tgt := 86) hx hb dX10_deedBy_9 (by decide) ?_
    refine W.widen (k := 0) (n := 0) (Nat.le_of_ble_eq_true rfl) (Nat.le_of_ble_eq_true rfl) ?_
    exact ro_i hx hb hr hlocks (0) rfl (⟨(show -1 ≤ (0 : Int32).toInt ∧ (0 : Int32).toInt ≤ 6 from (by decide)), (⟨_, ez1, Or.inr (⟨c2, rfl⟩)⟩)⟩) (hP.sub [] rfl) (hD.sub [] (by decide) rfl) hS dX10_deedBy_86
