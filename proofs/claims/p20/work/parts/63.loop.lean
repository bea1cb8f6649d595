set_option maxHeartbeats 4000000 in
set_option maxRecDepth 100000 in
theorem law_loop {p : Program} {e : Env} {s : State} {m : MethodId} {below : List Frame} {meth : Method} {c : Code} (l : Launch) {b L : Nat} {xs : Nat → Int32} (hL : L ≤ 3072) (C0 : lw_At p s m meth c b L xs) {D : va_G} {cI cB cJ cZ cT : ClassId} (hK : KK D (tyL cI cB cJ cZ cT) s) {tz adK adV : Nat → Nat} (hE : EE tz adK adV (fun q : Nat => s.heap.size ≤ q) s s.heap) {ad ai bd : Nat} : ∀ (n : Nat) (TN : Nat → Int32) (TF M : Nat → Nat → Int32) (wx wi wm : va_W) (H : Heap) (locs : List Loc) (ls : Array Slot) (i : Int32) (cells slots : Nat), ShX cI cB cJ cZ cT ad ai TN TF wx → ShI cI cB cJ cZ cT ai M wi → ShM cI cB cJ cZ cT bd M wm → TLg 0 TN TF M → va_P D vwCl (wx ++ (wi ++ wm)) H → va_D (fun q : Nat => s.heap.size ≤ q) (wx ++ (wi ++ wm)) → va_S (fun q : Nat => s.heap.size ≤ q) s.heap H locs → lv_has ls 4 [(3, .int i), (2, .ref bd), (1, .ref ad), (0, .ref b)] → (0 ≤ i.toInt ∧ i.toInt ≤ 3072) → (L : Int) - 6 - i.toInt < 6 * n → cells + 24 * n ≤ 600000 → slots + 957 * n ≤ 7302250 → W p l e room_1 s m #[Value.ref b] below meth c H locs (cells) (slots) (lw_Z below #[Value.ref b] s) (F0 m 18 ls []) := by
  obtain ⟨hx, hb, hr, hml, hown, hts0, hX, hbl, hlocks, hgv⟩ := id C0
  have hown : s.vm.findClass RL = some m.cls := hown
  have hts : ∀ w ∈ lw_tbl, w.before #[Value.ref b] s = true := hts0
  have hA : ∀ q : Nat, s.heap.size ≤ q → (fun q : Nat => s.heap.size ≤ q) q := fun _ h => h
  have hbA : ¬ (fun q : Nat => s.heap.size ≤ q) b := Nat.not_le.mpr hbl
  intro n
  induction n with
  | zero =>
    intro TN TF M wx wi wm H locs ls i cells slots hsx hsi hsm hTL hP hD hS hl hi hn hc hss
    refine lv_iload_n hx hb dL_law_18 rfl (lv_at hl 0 rfl) ?_
    refine lv_aload_n hx hb dL_law_19 rfl (lv_at hl 3 rfl) ?_
    refine va_slen hx hb hX hbl hbA hS dL_law_20 ?_
    refine lv_topi (fun z1 ez1 => ?_)
    have hLn : z1.toInt = (L : Int) := by rw [ez1]; exact Int32.toInt_ofNat_of_lt (by omega)
    refine lv_bipush (v := 6) hx hb dL_law_21 (by decide) ?_
    refine lv_isub hx hb dL_law_23 ?_
    refine lv_topi (fun z2 ez2 => ?_)
    have iz2 : z2.toInt = z1.toInt - 6 := by rw [ez2]; exact (i_sub (X := z1.toInt) (Y := 6) rfl (by decide) (by have h8 := i_rng (z1); have h9 := i_rng (6); omega) (by have h8 := i_rng (z1); have h9 := i_rng (6); omega)).trans (by omega)
    refine bc_gt (tgt := 1247) (X := i.toInt) (Y := z1.toInt - 6) hx hb rfl iz2 dL_law_24 (by decide) (fun c1 => ?_) (fun c1 => ?_)
    · skip
      refine lv_iconst (v := 1) hx hb dL_law_1247 (by decide) ?_
      refine va_forget (fun q hq => hS.2.2 q hq) ?_
      refine W.widen (k := 600000) (n := 7302250) (by omega) (by omega) ?_
      exact lw_ret hx hb hr hlocks dL_law_1248
    · skip
      exact absurd c1 (by omega)
  | succ n ih =>
    intro TN TF M wx wi wm H locs ls i cells slots hsx hsi hsm hTL hP hD hS hl hi hn hc hss
    refine lv_iload_n hx hb dL_law_18 rfl (lv_at hl 0 rfl) ?_
    refine lv_aload_n hx hb dL_law_19 rfl (lv_at hl 3 rfl) ?_
    refine va_slen hx hb hX hbl hbA hS dL_law_20 ?_
    refine lv_topi (fun z1 ez1 => ?_)
    have hLn : z1.toInt = (L : Int) := by rw [ez1]; exact Int32.toInt_ofNat_of_lt (by omega)
    refine lv_bipush (v := 6) hx hb dL_law_21 (by decide) ?_
    refine lv_isub hx hb dL_law_23 ?_
    refine lv_topi (fun z2 ez2 => ?_)
    have iz2 : z2.toInt = z1.toInt - 6 := by rw [ez2]; exact (i_sub (X := z1.toInt) (Y := 6) rfl (by decide) (by have h8 := i_rng (z1); have h9 := i_rng (6); omega) (by have h8 := i_rng (z1); have h9 := i_rng (6); omega)).trans (by omega)
    refine bc_gt (tgt := 1247) (X := i.toInt) (Y := z1.toInt - 6) hx hb rfl iz2 dL_law_24 (by decide) (fun c1 => ?_) (fun c1 => ?_)
    · skip
      refine lv_iconst (v := 1) hx hb dL_law_1247 (by decide) ?_
      refine va_forget (fun q hq => hS.2.2 q hq) ?_
      refine W.widen (k := 600000) (n := 7302250) (by omega) (by omega) ?_
      exact lw_ret hx hb hr hlocks dL_law_1248
    · skip
      have nxt : ∀ (TN : Nat → Int32) (TF M : Nat → Nat → Int32) (wx wi wm : va_W) (H : Heap) (locs : List Loc) (ls : Array Slot), ShX cI cB cJ cZ cT ad ai TN TF wx → ShI cI cB cJ cZ cT ai M wi → ShM cI cB cJ cZ cT bd M wm → TLg 0 TN TF M → va_P D vwCl (wx ++ (wi ++ wm)) H → va_D (fun q : Nat => s.heap.size ≤ q) (wx ++ (wi ++ wm)) → va_S (fun q : Nat => s.heap.size ≤ q) s.heap H locs → lv_has ls 4 [(3, .int i), (2, .ref bd), (1, .ref ad), (0, .ref b)] → W p l e room_1 s m #[Value.ref b] below meth c H locs (cells + 24) (slots + 957) (lw_Z below #[Value.ref b] s) (F0 m 1241 ls []) := by
        intro TN TF M wx wi wm H locs ls hsx hsi hsm hTL hP hD hS hl
        obtain ⟨z3, ez3⟩ : ∃ y : Int32, y = i + 6 := ⟨_, rfl⟩
        have iz3 : z3.toInt = i.toInt + 6 := by rw [ez3]; exact (i_add (X := i.toInt) (Y := 6) rfl (by decide) (by have h8 := i_rng (i); have h9 := i_rng (6); omega) (by have h8 := i_rng (i); have h9 := i_rng (6); omega)).trans (by omega)
        refine lv_iinc (v := z3) (lv' := [(3, .int z3), (2, .ref bd), (1, .ref ad), (0, .ref b)]) hx hb dL_law_1241 hl (k := 0) rfl (by rw [ez3]; rfl) (by decide) rfl (fun ls hl => ?_)
        refine lv_goto (tgt := 18) hx hb dL_law_1244 (by decide) ?_
        exact ih TN TF M wx wi wm _ _ _ z3 _ _ hsx hsi hsm hTL hP hD hS (lv_sub hl [0, 1, 2, 3] rfl) (by omega) (by omega) (by omega) (by omega)
      refine lv_aload_n hx hb dL_law_27 rfl (lv_at hl 3 rfl) ?_
      refine lv_iload_n hx hb dL_law_28 rfl (lv_at hl 0 rfl) ?_
      refine va_sld hx hb hX hbl hbA hS (i_in (X := i.toInt) rfl (by omega) (by omega)) dL_law_29 ?_
      refine lv_topi (fun z4 ez4 => ?_)
      refine lv_bipush (v := 31) hx hb dL_law_30 (by decide) ?_
      refine lv_iand hx hb dL_law_32 ?_
      refine lv_topi (fun z5 ez5 => ?_)
      have hv_z5 : 0 ≤ z5.toInt ∧ z5.toInt ≤ 31 := by rw [ez5]; exact i_and _ 5 (by decide) (by decide)
      obtain ⟨j, hj, ej⟩ := pk_andE z4 (m := 31) 5 (by decide)
      rw [show z5 = nI j from ez5.trans ej]
      rcases (by omega : j = 0 ∨ j = 1 ∨ j = 2 ∨ j = 3 ∨ j = 4 ∨ j = 5 ∨ j = 6 ∨ j = 7 ∨ j = 8 ∨ j = 9 ∨ j = 10 ∨ j = 11 ∨ j = 12 ∨ j = 13 ∨ j = 14 ∨ j = 15 ∨ j = 16 ∨ j = 17 ∨ j = 18 ∨ j = 19 ∨ j = 20 ∨ j = 21 ∨ j = 22 ∨ j = 23 ∨ j = 24 ∨ j = 25 ∨ j = 26 ∨ j = 27 ∨ j = 28 ∨ j = 29 ∨ j = 30 ∨ j = 31) with rfl | rfl | rfl | rfl | rfl | rfl | rfl | rfl | rfl | rfl | rfl | rfl | rfl | rfl | rfl | rfl | rfl | rfl | rfl | rfl | rfl | rfl | rfl | rfl | rfl | rfl | rfl | rfl | rfl | rfl | rfl | rfl
      · refine lv_tableIn (off := 115) (tgt := 148) hx hb dL_law_33 (by decide) (by decide) (by decide) (by decide) ?_
        exact law_0 l hL C0 hK hE hsx hsi hsm hTL hP hD hS (by omega) (lv_sub hl [0, 1, 2, 3] rfl) (by omega) (by omega) nxt
      · refine lv_tableIn (off := 178) (tgt := 211) hx hb dL_law_33 (by decide) (by decide) (by decide) (by decide) ?_
        exact law_1 l hL C0 hK hE hsx hsi hsm hTL hP hD hS (by omega) (lv_sub hl [0, 1, 2, 3] rfl) (by omega) (by omega) nxt
      · refine lv_tableIn (off := 201) (tgt := 234) hx hb dL_law_33 (by decide) (by decide) (by decide) (by decide) ?_
        exact law_2 l hL C0 hK hE hsx hsi hsm hTL hP hD hS (by omega) (lv_sub hl [0, 1, 2, 3] rfl) (by omega) (by omega) nxt
      · refine lv_tableIn (off := 234) (tgt := 267) hx hb dL_law_33 (by decide) (by decide) (by decide) (by decide) ?_
        exact law_3 l hL C0 hK hE hsx hsi hsm hTL hP hD hS (by omega) (lv_sub hl [0, 1, 2, 3] rfl) (by omega) (by omega) nxt
      · refine lv_tableIn (off := 257) (tgt := 290) hx hb dL_law_33 (by decide) (by decide) (by decide) (by decide) ?_
        exact law_4 l hL C0 hK hE hsx hsi hsm hTL hP hD hS (by omega) (lv_sub hl [0, 1, 2, 3] rfl) (by omega) (by omega) nxt
      · refine lv_tableIn (off := 290) (tgt := 323) hx hb dL_law_33 (by decide) (by decide) (by decide) (by decide) ?_
        exact law_5 l hL C0 hK hE hsx hsi hsm hTL hP hD hS (by omega) (lv_sub hl [0, 1, 2, 3] rfl) (by omega) (by omega) nxt
      · refine lv_tableIn (off := 333) (tgt := 366) hx hb dL_law_33 (by decide) (by decide) (by decide) (by decide) ?_
        exact law_6 l hL C0 hK hE hsx hsi hsm hTL hP hD hS (by omega) (lv_sub hl [0, 1, 2, 3] rfl) (by omega) (by omega) nxt
      · refine lv_tableIn (off := 366) (tgt := 399) hx hb dL_law_33 (by decide) (by decide) (by decide) (by decide) ?_
        exact law_7 l hL C0 hK hE hsx hsi hsm hTL hP hD hS (by omega) (lv_sub hl [0, 1, 2, 3] rfl) (by omega) (by omega) nxt
      · refine lv_tableIn (off := 419) (tgt := 452) hx hb dL_law_33 (by decide) (by decide) (by decide) (by decide) ?_
        exact law_8 l hL C0 hK hE hsx hsi hsm hTL hP hD hS (by omega) (lv_sub hl [0, 1, 2, 3] rfl) (by omega) (by omega) nxt
      · refine lv_tableIn (off := 482) (tgt := 515) hx hb dL_law_33 (by decide) (by decide) (by decide) (by decide) ?_
        exact law_9 l hL C0 hK hE hsx hsi hsm hTL hP hD hS (by omega) (lv_sub hl [0, 1, 2, 3] rfl) (by omega) (by omega) nxt
      · refine lv_tableIn (off := 545) (tgt := 578) hx hb dL_law_33 (by decide) (by decide) (by decide) (by decide) ?_
        exact law_10 l hL C0 hK hE hsx hsi hsm hTL hP hD hS (by omega) (lv_sub hl [0, 1, 2, 3] rfl) (by omega) (by omega) nxt
      · refine lv_tableIn (off := 598) (tgt := 631) hx hb dL_law_33 (by decide) (by decide) (by decide) (by decide) ?_
        exact law_11 l hL C0 hK hE hsx hsi hsm hTL hP hD hS (by omega) (lv_sub hl [0, 1, 2, 3] rfl) (by omega) (by omega) nxt
      · refine lv_tableIn (off := 651) (tgt := 684) hx hb dL_law_33 (by decide) (by decide) (by decide) (by decide) ?_
        exact law_12 l hL C0 hK hE hsx hsi hsm hTL hP hD hS (by omega) (lv_sub hl [0, 1, 2, 3] rfl) (by omega) (by omega) nxt
      · refine lv_tableIn (off := 720) (tgt := 753) hx hb dL_law_33 (by decide) (by decide) (by decide) (by decide) ?_
        exact law_13 l hL C0 hK hE hsx hsi hsm hTL hP hD hS (by omega) (lv_sub hl [0, 1, 2, 3] rfl) (by omega) (by omega) nxt
      · refine lv_tableIn (off := 763) (tgt := 796) hx hb dL_law_33 (by decide) (by decide) (by decide) (by decide) ?_
        exact law_14 l hL C0 hK hE hsx hsi hsm hTL hP hD hS (by omega) (lv_sub hl [0, 1, 2, 3] rfl) (by omega) (by omega) nxt
      · refine lv_tableIn (off := 806) (tgt := 839) hx hb dL_law_33 (by decide) (by decide) (by decide) (by decide) ?_
        exact law_15 l hL C0 hK hE hsx hsi hsm hTL hP hD hS (by omega) (lv_sub hl [0, 1, 2, 3] rfl) (by omega) (by omega) nxt
      · refine lv_tableIn (off := 839) (tgt := 872) hx hb dL_law_33 (by decide) (by decide) (by decide) (by decide) ?_
        exact law_16 l hL C0 hK hE hsx hsi hsm hTL hP hD hS (by omega) (lv_sub hl [0, 1, 2, 3] rfl) (by omega) (by omega) nxt
      · refine lv_tableIn (off := 872) (tgt := 905) hx hb dL_law_33 (by decide) (by decide) (by decide) (by decide) ?_
        exact law_17 l hL C0 hK hE hsx hsi hsm hTL hP hD hS (by omega) (lv_sub hl [0, 1, 2, 3] rfl) (by omega) (by omega) nxt
      · refine lv_tableIn (off := 905) (tgt := 938) hx hb dL_law_33 (by decide) (by decide) (by decide) (by decide) ?_
        exact law_18 l hL C0 hK hE hsx hsi hsm hTL hP hD hS (by omega) (lv_sub hl [0, 1, 2, 3] rfl) (by omega) (by omega) nxt
      · refine lv_tableIn (off := 974) (tgt := 1007) hx hb dL_law_33 (by decide) (by decide) (by decide) (by decide) ?_
        exact law_19 l hL C0 hK hE hsx hsi hsm hTL hP hD hS (by omega) (lv_sub hl [0, 1, 2, 3] rfl) (by omega) (by omega) nxt
      · refine lv_tableIn (off := 1027) (tgt := 1060) hx hb dL_law_33 (by decide) (by decide) (by decide) (by decide) ?_
        exact law_20 l hL C0 hK hE hsx hsi hsm hTL hP hD hS (by omega) (lv_sub hl [0, 1, 2, 3] rfl) (by omega) (by omega) nxt
      · refine lv_tableIn (off := 1080) (tgt := 1113) hx hb dL_law_33 (by decide) (by decide) (by decide) (by decide) ?_
        exact law_21 l hL C0 hK hE hsx hsi hsm hTL hP hD hS (by omega) (lv_sub hl [0, 1, 2, 3] rfl) (by omega) (by omega) nxt
      · refine lv_tableIn (off := 1139) (tgt := 1172) hx hb dL_law_33 (by decide) (by decide) (by decide) (by decide) ?_
        exact law_22 l hL C0 hK hE hsx hsi hsm hTL hP hD hS (by omega) (lv_sub hl [0, 1, 2, 3] rfl) (by omega) (by omega) nxt
      · refine lv_tableIn (off := 1162) (tgt := 1195) hx hb dL_law_33 (by decide) (by decide) (by decide) (by decide) ?_
        exact law_23 l hL C0 hK hE hsx hsi hsm hTL hP hD hS (by omega) (lv_sub hl [0, 1, 2, 3] rfl) (by omega) (by omega) nxt
      · refine lv_tableIn (off := 1185) (tgt := 1218) hx hb dL_law_33 (by decide) (by decide) (by decide) (by decide) ?_
        exact law_24 l hL C0 hK hE hsx hsi hsm hTL hP hD hS (by omega) (lv_sub hl [0, 1, 2, 3] rfl) (by omega) (by omega) nxt
      · refine lv_tableOut (tgt := 1241) hx hb dL_law_33 (by decide) (by decide) ?_
        refine W.widen (k := cells + 24) (n := slots + 957) (by omega) (by omega) ?_
        exact nxt TN TF M wx wi wm _ _ _ hsx hsi hsm hTL hP hD hS (lv_sub hl [0, 1, 2, 3] rfl)
      · refine lv_tableOut (tgt := 1241) hx hb dL_law_33 (by decide) (by decide) ?_
        refine W.widen (k := cells + 24) (n := slots + 957) (by omega) (by omega) ?_
        exact nxt TN TF M wx wi wm _ _ _ hsx hsi hsm hTL hP hD hS (lv_sub hl [0, 1, 2, 3] rfl)
      · refine lv_tableOut (tgt := 1241) hx hb dL_law_33 (by decide) (by decide) ?_
        refine W.widen (k := cells + 24) (n := slots + 957) (by omega) (by omega) ?_
        exact nxt TN TF M wx wi wm _ _ _ hsx hsi hsm hTL hP hD hS (lv_sub hl [0, 1, 2, 3] rfl)
      · refine lv_tableOut (tgt := 1241) hx hb dL_law_33 (by decide) (by decide) ?_
        refine W.widen (k := cells + 24) (n := slots + 957) (by omega) (by omega) ?_
        exact nxt TN TF M wx wi wm _ _ _ hsx hsi hsm hTL hP hD hS (lv_sub hl [0, 1, 2, 3] rfl)
      · refine lv_tableOut (tgt := 1241) hx hb dL_law_33 (by decide) (by decide) ?_
        refine W.widen (k := cells + 24) (n := slots + 957) (by omega) (by omega) ?_
        exact nxt TN TF M wx wi wm _ _ _ hsx hsi hsm hTL hP hD hS (lv_sub hl [0, 1, 2, 3] rfl)
      · refine lv_tableOut (tgt := 1241) hx hb dL_law_33 (by decide) (by decide) ?_
        refine W.widen (k := cells + 24) (n := slots + 957) (by omega) (by omega) ?_
        exact nxt TN TF M wx wi wm _ _ _ hsx hsi hsm hTL hP hD hS (lv_sub hl [0, 1, 2, 3] rfl)
      · refine lv_tableOut (tgt := 1241) hx hb dL_law_33 (by decide) (by decide) ?_
        refine W.widen (k := cells + 24) (n := slots + 957) (by omega) (by omega) ?_
        exact nxt TN TF M wx wi wm _ _ _ hsx hsi hsm hTL hP hD hS (lv_sub hl [0, 1, 2, 3] rfl)
