theorem arr_known {ty : FieldType} {args : Array Value} {s : State} (h : (Cond.arrayClass ty).before args s = true) (hp : ∀ C : String, ty ≠ .object C) : ∃ cA : ClassId, ArrOfT s cA ty ∧ va_RA s cA ty := by
  obtain ⟨c, k, comp, h1, h2, h3⟩ := Cond.arrayClass_spec h
  refine ⟨c, fun n z => ⟨fun k h => (by cases h), k, h2, comp, h3⟩, ?_⟩
  cases ty <;> first | exact h1 | exact absurd rfl (hp _)
theorem ref_known {C : String} {args : Array Value} {s : State} (h : (Cond.arrayOver (.object C)).before args s = true) : ∃ cA : ClassId, ArrOfT s cA (.object C) ∧ va_RA s cA (.object C) := by
  obtain ⟨comp, c, k, h1, -, h2, h3, h4⟩ := Cond.arrayOver_spec h
  exact ⟨c, fun n z => ⟨fun k h => (by cases h), k, h2, comp, h3⟩, k, comp, h2, h3, h1, h4⟩
set_option maxRecDepth 100000 in
theorem nzl_in : ∀ w ∈ nzl, w ∈ lw_tbl := (List.forall_mem_cons.mpr ⟨(tb_1 (List.mem_of_getElem? (i := 41) rfl)), (List.forall_mem_cons.mpr ⟨(tb_1 (List.mem_of_getElem? (i := 42) rfl)), (List.forall_mem_cons.mpr ⟨(tb_1 (List.mem_of_getElem? (i := 43) rfl)), (List.forall_mem_cons.mpr ⟨(tb_1 (List.mem_of_getElem? (i := 44) rfl)), (List.forall_mem_cons.mpr ⟨(tb_1 (List.mem_of_getElem? (i := 45) rfl)), (List.forall_mem_cons.mpr ⟨(tb_1 (List.mem_of_getElem? (i := 47) rfl)), (List.forall_mem_cons.mpr ⟨(tb_1 (List.mem_of_getElem? (i := 48) rfl)), (List.forall_mem_cons.mpr ⟨(tb_1 (List.mem_of_getElem? (i := 50) rfl)), (List.forall_mem_cons.mpr ⟨(tb_1 (List.mem_of_getElem? (i := 51) rfl)), (List.forall_mem_cons.mpr ⟨(tb_1 (List.mem_of_getElem? (i := 52) rfl)), (List.forall_mem_cons.mpr ⟨(tb_1 (List.mem_of_getElem? (i := 54) rfl)), (List.forall_mem_cons.mpr ⟨(tb_1 (List.mem_of_getElem? (i := 55) rfl)), (List.forall_mem_cons.mpr ⟨(tb_1 (List.mem_of_getElem? (i := 56) rfl)), (List.forall_mem_cons.mpr ⟨(tb_1 (List.mem_of_getElem? (i := 58) rfl)), (List.forall_mem_cons.mpr ⟨(tb_1 (List.mem_of_getElem? (i := 60) rfl)), (List.forall_mem_cons.mpr ⟨(tb_1 (List.mem_of_getElem? (i := 61) rfl)), (List.forall_mem_cons.mpr ⟨(tb_1 (List.mem_of_getElem? (i := 63) rfl)), (List.forall_mem_cons.mpr ⟨(tb_1 (List.mem_of_getElem? (i := 64) rfl)), (List.forall_mem_cons.mpr ⟨(tb_1 (List.mem_of_getElem? (i := 66) rfl)), (List.forall_mem_cons.mpr ⟨(tb_1 (List.mem_of_getElem? (i := 68) rfl)), (List.forall_mem_cons.mpr ⟨(tb_1 (List.mem_of_getElem? (i := 70) rfl)), (List.forall_mem_cons.mpr ⟨(tb_1 (List.mem_of_getElem? (i := 71) rfl)), (List.forall_mem_cons.mpr ⟨(tb_1 (List.mem_of_getElem? (i := 73) rfl)), (List.forall_mem_cons.mpr ⟨(tb_1 (List.mem_of_getElem? (i := 74) rfl)), (List.forall_mem_cons.mpr ⟨(tb_1 (List.mem_of_getElem? (i := 75) rfl)), (List.forall_mem_cons.mpr ⟨(tb_1 (List.mem_of_getElem? (i := 77) rfl)), (List.forall_mem_cons.mpr ⟨(tb_1 (List.mem_of_getElem? (i := 112) rfl)), (List.forall_mem_cons.mpr ⟨(tb_1 (List.mem_of_getElem? (i := 113) rfl)), (List.forall_mem_cons.mpr ⟨(tb_1 (List.mem_of_getElem? (i := 114) rfl)), (List.forall_mem_cons.mpr ⟨(tb_1 (List.mem_of_getElem? (i := 128) rfl)), (List.forall_mem_cons.mpr ⟨(tb_1 (List.mem_of_getElem? (i := 129) rfl)), (List.forall_mem_cons.mpr ⟨(tb_1 (List.mem_of_getElem? (i := 130) rfl)), (List.forall_mem_cons.mpr ⟨(tb_1 (List.mem_of_getElem? (i := 132) rfl)), (List.forall_mem_cons.mpr ⟨(tb_1 (List.mem_of_getElem? (i := 133) rfl)), (List.forall_mem_cons.mpr ⟨(tb_1 (List.mem_of_getElem? (i := 140) rfl)), (List.forall_mem_cons.mpr ⟨(tb_1 (List.mem_of_getElem? (i := 141) rfl)), (List.forall_mem_cons.mpr ⟨(tb_1 (List.mem_of_getElem? (i := 143) rfl)), (List.forall_mem_cons.mpr ⟨(tb_1 (List.mem_of_getElem? (i := 146) rfl)), (List.forall_mem_cons.mpr ⟨(tb_1 (List.mem_of_getElem? (i := 197) rfl)), (List.forall_mem_cons.mpr ⟨(tb_1 (List.mem_of_getElem? (i := 199) rfl)), (List.forall_mem_cons.mpr ⟨(tb_1 (List.mem_of_getElem? (i := 201) rfl)), (List.forall_mem_cons.mpr ⟨(tb_1 (List.mem_of_getElem? (i := 204) rfl)), (List.forall_mem_cons.mpr ⟨(tb_1 (List.mem_of_getElem? (i := 206) rfl)), (List.forall_mem_cons.mpr ⟨(tb_2 (List.mem_of_getElem? (i := 1) rfl)), (List.forall_mem_cons.mpr ⟨(tb_2 (List.mem_of_getElem? (i := 3) rfl)), (List.forall_mem_cons.mpr ⟨(tb_2 (List.mem_of_getElem? (i := 7) rfl)), (List.forall_mem_cons.mpr ⟨(tb_2 (List.mem_of_getElem? (i := 12) rfl)), (List.forall_mem_cons.mpr ⟨(tb_2 (List.mem_of_getElem? (i := 72) rfl)), (List.forall_mem_cons.mpr ⟨(tb_2 (List.mem_of_getElem? (i := 74) rfl)), (List.forall_mem_cons.mpr ⟨(tb_2 (List.mem_of_getElem? (i := 77) rfl)), (List.forall_mem_cons.mpr ⟨(tb_2 (List.mem_of_getElem? (i := 112) rfl)), (List.forall_mem_cons.mpr ⟨(tb_2 (List.mem_of_getElem? (i := 114) rfl)), (List.forall_mem_cons.mpr ⟨(tb_1 (List.mem_of_getElem? (i := 30) rfl)), (List.forall_mem_cons.mpr ⟨(tb_1 (List.mem_of_getElem? (i := 36) rfl)), (List.forall_mem_cons.mpr ⟨(tb_1 (List.mem_of_getElem? (i := 107) rfl)), (List.forall_mem_cons.mpr ⟨(tb_1 (List.mem_of_getElem? (i := 123) rfl)), (List.forall_mem_cons.mpr ⟨(tb_1 (List.mem_of_getElem? (i := 186) rfl)), (List.forall_mem_cons.mpr ⟨(tb_1 (List.mem_of_getElem? (i := 191) rfl)), (List.forall_mem_cons.mpr ⟨(tb_1 (List.mem_of_getElem? (i := 193) rfl)), (List.forall_mem_cons.mpr ⟨(tb_1 (List.mem_of_getElem? (i := 195) rfl)), (List.forall_mem_cons.mpr ⟨(tb_1 (List.mem_of_getElem? (i := 234) rfl)), (List.forall_mem_cons.mpr ⟨(tb_1 (List.mem_of_getElem? (i := 239) rfl)), (List.forall_mem_cons.mpr ⟨(tb_2 (List.mem_of_getElem? (i := 49) rfl)), (List.forall_mem_cons.mpr ⟨(tb_2 (List.mem_of_getElem? (i := 65) rfl)), (List.forall_mem_cons.mpr ⟨(tb_2 (List.mem_of_getElem? (i := 96) rfl)), (List.forall_mem_cons.mpr ⟨(tb_2 (List.mem_of_getElem? (i := 101) rfl)), (List.forall_mem_cons.mpr ⟨(tb_2 (List.mem_of_getElem? (i := 103) rfl)), (fun _ h => absurd h List.not_mem_nil)⟩)⟩)⟩)⟩)⟩)⟩)⟩)⟩)⟩)⟩)⟩)⟩)⟩)⟩)⟩)⟩)⟩)⟩)⟩)⟩)⟩)⟩)⟩)⟩)⟩)⟩)⟩)⟩)⟩)⟩)⟩)⟩)⟩)⟩)⟩)⟩)⟩)⟩)⟩)⟩)⟩)⟩)⟩)⟩)⟩)⟩)⟩)⟩)⟩)⟩)⟩)⟩)⟩)⟩)⟩)⟩)⟩)⟩)⟩)⟩)⟩)⟩)⟩)⟩)⟩)⟩)⟩)
set_option maxHeartbeats 4000000 in
set_option maxRecDepth 100000 in
theorem known_all {args : Array Value} {s : State} (hts : ∀ w ∈ lw_tbl, w.before args s = true) : ∃ (D : va_G) (cI cB cJ cZ cT : ClassId), KK D (tyL cI cB cJ cZ cT) s := by
  obtain ⟨c0, iS0, hKn0⟩ := u_known (C := RX0) (T := TX0) (N := 2) (n := 2) hts inX0 (hts (.instantiable RX0 2) (tb_1 (List.mem_of_getElem? (i := 106) rfl)))
  obtain ⟨c1, iS1, hKn1⟩ := u_known (C := RX1) (T := TX1) (N := 2) (n := 2) hts inX1 (hts (.instantiable RX1 2) (tb_1 (List.mem_of_getElem? (i := 122) rfl)))
  obtain ⟨c2, iS2, hKn2⟩ := u_known (C := RX2) (T := TX2) (N := 14) (n := 14) hts inX2 (hts (.instantiable RX2 14) (tb_1 (List.mem_of_getElem? (i := 233) rfl)))
  obtain ⟨c3, iS3, hKn3⟩ := u_known (C := RX3) (T := TX3) (N := 3) (n := 3) hts inX3 (hts (.instantiable RX3 3) (tb_2 (List.mem_of_getElem? (i := 48) rfl)))
  obtain ⟨c4, iS4, hKn4⟩ := u_known (C := RX4) (T := TX4) (N := 9) (n := 9) hts inX4 (hts (.instantiable RX4 9) (tb_2 (List.mem_of_getElem? (i := 95) rfl)))
  obtain ⟨c5, iS5, hKn5⟩ := u_known (C := RX5) (T := TX5) (N := 10) (n := 10) hts inX5 (hts (.instantiable RX5 10) (tb_1 (List.mem_of_getElem? (i := 185) rfl)))
  obtain ⟨c6, iS6, hKn6⟩ := u_known (C := RX6) (T := TX6) (N := 7) (n := 7) hts inX6 (hts (.instantiable RX6 7) (tb_2 (List.mem_of_getElem? (i := 64) rfl)))
  obtain ⟨c7, iS7, hKn7⟩ := u_known (C := RX7) (T := TX7) (N := 12) (n := 12) hts inX7 (hts (.instantiable RX7 12) (tb_1 (List.mem_of_getElem? (i := 35) rfl)))
  obtain ⟨c8, iS8, hKn8⟩ := u_known (C := RX8) (T := TX8) (N := 13) (n := 13) hts inX8 (hts (.instantiable RX8 13) (tb_1 (List.mem_of_getElem? (i := 29) rfl)))
  obtain ⟨c9, iS9, hKn9⟩ := u_known (C := RX9) (T := TX9) (N := 7) (n := 7) hts inX9 (hts (.instantiable RX9 7) (tb_1 (List.mem_of_getElem? (i := 21) rfl)))
  obtain ⟨c10, iS10, hKn10⟩ := u_known (C := RX10) (T := TX10) (N := 50) (n := 50) hts inX10 (hts (.instantiable RX10 50) (tb_5 (List.mem_of_getElem? (i := 21) rfl)))
  obtain ⟨cI, aI, bI⟩ := arr_known (hts (.arrayClass .int) (tb_1 (List.mem_of_getElem? (i := 104) rfl))) (fun C h => by cases h)
  obtain ⟨cB, aB, bB⟩ := arr_known (hts (.arrayClass .byte) (tb_1 (List.mem_of_getElem? (i := 103) rfl))) (fun C h => by cases h)
  obtain ⟨cJ, aJ, bJ⟩ := arr_known (hts (.arrayClass .long) (tb_5 (List.mem_of_getElem? (i := 178) rfl))) (fun C h => by cases h)
  obtain ⟨cZ, aZ, bZ⟩ := arr_known (hts (.arrayClass .boolean) (tb_5 (List.mem_of_getElem? (i := 179) rfl))) (fun C h => by cases h)
  have hao : (Cond.arrayOver (.object RX8)).before args s = true := hts _ (tb_1 (List.mem_of_getElem? (i := 183) rfl))
  obtain ⟨cT, aT, bT⟩ := ref_known hao
  refine ⟨(fun k => if k = 0 then c0 else if k = 1 then c1 else if k = 2 then c2 else if k = 3 then c3 else if k = 4 then c4 else if k = 5 then c5 else if k = 6 then c6 else if k = 7 then c7 else if k = 8 then c8 else if k = 9 then c9 else c10, fun k => if k = 0 then iS0 else if k = 1 then iS1 else if k = 2 then iS2 else if k = 3 then iS3 else if k = 4 then iS4 else if k = 5 then iS5 else if k = 6 then iS6 else if k = 7 then iS7 else if k = 8 then iS8 else if k = 9 then iS9 else iS10), cI, cB, cJ, cZ, cT, ⟨?_, ?_⟩, ?_, va_AO.of hao⟩
  · intro k q hq
    match k, hq with
    | 0, hq => cases hq; exact hKn0
    | 1, hq => cases hq; exact hKn1
    | 2, hq => cases hq; exact hKn2
    | 3, hq => cases hq; exact hKn3
    | 4, hq => cases hq; exact hKn4
    | 5, hq => cases hq; exact hKn5
    | 6, hq => cases hq; exact hKn6
    | 7, hq => cases hq; exact hKn7
    | 8, hq => cases hq; exact hKn8
    | 9, hq => cases hq; exact hKn9
    | 10, hq => cases hq; exact hKn10
    | k + 11, hq => simp [vwCl] at hq
  · intro k q hq
    match k, hq with
    | 0, hq => cases hq; exact ⟨aI, bI⟩
    | 1, hq => cases hq; exact ⟨aB, bB⟩
    | 2, hq => cases hq; exact ⟨aJ, bJ⟩
    | 3, hq => cases hq; exact ⟨aZ, bZ⟩
    | 4, hq => cases hq; exact ⟨aT, bT⟩
    | k + 5, hq => simp [tyL] at hq
  · intro w hw
    exact va_Nw.of (nz_tab (List.all_eq_true.mp nz_all w hw)) (hts w (nzl_in w hw))
set_option maxRecDepth 100000 in
theorem ke_fl_a : Cond.arrayOf (.static "ClapBank$Reader" "FIRST_LINE" "[I") .int ∈ flatC (Jvm.Cond.and given_1 narrow_1) := by decide +kernel
set_option maxRecDepth 100000 in
theorem ke_fl_l : Cond.eq (.length (.static "ClapBank$Reader" "FIRST_LINE" "[I")) (.int (Int32.ofNat 4)) ∈ flatC (Jvm.Cond.and given_1 narrow_1) := by decide +kernel
set_option maxRecDepth 100000 in
theorem ke_fl_e : ∀ j, j < 4 → Cond.eq (.elem (.static "ClapBank$Reader" "FIRST_LINE" "[I") (.int (Int32.ofNat j))) (.int (fl_.getD j 0)) ∈ flatC (Jvm.Cond.and given_1 narrow_1) := by decide +kernel
set_option maxRecDepth 100000 in
theorem ke_nu_a : Cond.arrayOf (.static "ClapBank$Reader" "NUMBERS" "[I") .int ∈ flatC (Jvm.Cond.and given_1 narrow_1) := by decide +kernel
set_option maxRecDepth 100000 in
theorem ke_nu_l : Cond.eq (.length (.static "ClapBank$Reader" "NUMBERS" "[I")) (.int (Int32.ofNat 14)) ∈ flatC (Jvm.Cond.and given_1 narrow_1) := by decide +kernel
set_option maxRecDepth 100000 in
theorem ke_nu_e : ∀ j, j < 14 → Cond.eq (.elem (.static "ClapBank$Reader" "NUMBERS" "[I") (.int (Int32.ofNat j))) (.int (nu_.getD j 0)) ∈ flatC (Jvm.Cond.and given_1 narrow_1) := by decide +kernel
set_option maxRecDepth 100000 in
theorem ke_le_a : Cond.arrayOf (.static "ClapBank$Reader" "LEAST" "[I") .int ∈ flatC (Jvm.Cond.and given_1 narrow_1) := by decide +kernel
set_option maxRecDepth 100000 in
theorem ke_le_l : Cond.eq (.length (.static "ClapBank$Reader" "LEAST" "[I")) (.int (Int32.ofNat 42)) ∈ flatC (Jvm.Cond.and given_1 narrow_1) := by decide +kernel
set_option maxRecDepth 100000 in
theorem ke_le_e : ∀ j, j < 42 → Cond.eq (.elem (.static "ClapBank$Reader" "LEAST" "[I") (.int (Int32.ofNat j))) (.int (le_.getD j 0)) ∈ flatC (Jvm.Cond.and given_1 narrow_1) := by decide +kernel
set_option maxRecDepth 100000 in
theorem ke_hi_a : Cond.arrayOf (.static "ClapBank$Reader" "HIGHEST" "[I") .int ∈ flatC (Jvm.Cond.and given_1 narrow_1) := by decide +kernel
set_option maxRecDepth 100000 in
theorem ke_hi_l : Cond.eq (.length (.static "ClapBank$Reader" "HIGHEST" "[I")) (.int (Int32.ofNat 42)) ∈ flatC (Jvm.Cond.and given_1 narrow_1) := by decide +kernel
set_option maxRecDepth 100000 in
theorem ke_hi_e : ∀ j, j < 42 → Cond.eq (.elem (.static "ClapBank$Reader" "HIGHEST" "[I") (.int (Int32.ofNat j))) (.int (hi_.getD j 0)) ∈ flatC (Jvm.Cond.and given_1 narrow_1) := by decide +kernel
set_option maxRecDepth 100000 in
theorem ks_x : ∀ i, i < 14 → Cond.exactly (.string "ClapBank$Reader" (stK.getD i 0)) "java/lang/String" ∈ flatC (Jvm.Cond.and given_1 narrow_1) := by decide +kernel
set_option maxRecDepth 100000 in
theorem ks_c : ∀ i, i < 14 → Cond.eq (.field (.string "ClapBank$Reader" (stK.getD i 0)) "java/lang/String" "coder" "B") (.int 0) ∈ flatC (Jvm.Cond.and given_1 narrow_1) := by decide +kernel
set_option maxRecDepth 100000 in
theorem ks_r : ∀ i, i < 14 → Cond.arrayOf (.field (.string "ClapBank$Reader" (stK.getD i 0)) "java/lang/String" "value" "[B") .byte ∈ flatC (Jvm.Cond.and given_1 narrow_1) := by decide +kernel
set_option maxRecDepth 100000 in
theorem ks_l : ∀ i, i < 14 → Cond.eq (.length (.field (.string "ClapBank$Reader" (stK.getD i 0)) "java/lang/String" "value" "[B")) (.int (Int32.ofNat (stL.getD i 0))) ∈ flatC (Jvm.Cond.and given_1 narrow_1) := by decide +kernel
set_option maxRecDepth 100000 in
theorem ks_e : ∀ i, i < 14 → ∀ j, j < stL.getD i 0 → Cond.eq (.elem (.field (.string "ClapBank$Reader" (stK.getD i 0)) "java/lang/String" "value" "[B") (.int (Int32.ofNat j))) (.int ((stB.getD i []).getD j 0)) ∈ flatC (Jvm.Cond.and given_1 narrow_1) := by decide +kernel
set_option maxRecDepth 100000 in
theorem ks_n0 : ∀ j, j < 14 → 0 ≠ j → (Cond.not (Cond.eq (.string "ClapBank$Reader" (stK.getD 0 0)) (.string "ClapBank$Reader" (stK.getD j 0))) ∈ flatC (Jvm.Cond.and given_1 narrow_1) ∨ Cond.not (Cond.eq (.string "ClapBank$Reader" (stK.getD j 0)) (.string "ClapBank$Reader" (stK.getD 0 0))) ∈ flatC (Jvm.Cond.and given_1 narrow_1)) := by decide +kernel
set_option maxRecDepth 100000 in
theorem ks_n1 : ∀ j, j < 14 → 1 ≠ j → (Cond.not (Cond.eq (.string "ClapBank$Reader" (stK.getD 1 0)) (.string "ClapBank$Reader" (stK.getD j 0))) ∈ flatC (Jvm.Cond.and given_1 narrow_1) ∨ Cond.not (Cond.eq (.string "ClapBank$Reader" (stK.getD j 0)) (.string "ClapBank$Reader" (stK.getD 1 0))) ∈ flatC (Jvm.Cond.and given_1 narrow_1)) := by decide +kernel
set_option maxRecDepth 100000 in
theorem ks_n2 : ∀ j, j < 14 → 2 ≠ j → (Cond.not (Cond.eq (.string "ClapBank$Reader" (stK.getD 2 0)) (.string "ClapBank$Reader" (stK.getD j 0))) ∈ flatC (Jvm.Cond.and given_1 narrow_1) ∨ Cond.not (Cond.eq (.string "ClapBank$Reader" (stK.getD j 0)) (.string "ClapBank$Reader" (stK.getD 2 0))) ∈ flatC (Jvm.Cond.and given_1 narrow_1)) := by decide +kernel
set_option maxRecDepth 100000 in
theorem ks_n3 : ∀ j, j < 14 → 3 ≠ j → (Cond.not (Cond.eq (.string "ClapBank$Reader" (stK.getD 3 0)) (.string "ClapBank$Reader" (stK.getD j 0))) ∈ flatC (Jvm.Cond.and given_1 narrow_1) ∨ Cond.not (Cond.eq (.string "ClapBank$Reader" (stK.getD j 0)) (.string "ClapBank$Reader" (stK.getD 3 0))) ∈ flatC (Jvm.Cond.and given_1 narrow_1)) := by decide +kernel
set_option maxRecDepth 100000 in
theorem ks_n4 : ∀ j, j < 14 → 4 ≠ j → (Cond.not (Cond.eq (.string "ClapBank$Reader" (stK.getD 4 0)) (.string "ClapBank$Reader" (stK.getD j 0))) ∈ flatC (Jvm.Cond.and given_1 narrow_1) ∨ Cond.not (Cond.eq (.string "ClapBank$Reader" (stK.getD j 0)) (.string "ClapBank$Reader" (stK.getD 4 0))) ∈ flatC (Jvm.Cond.and given_1 narrow_1)) := by decide +kernel
set_option maxRecDepth 100000 in
theorem ks_n5 : ∀ j, j < 14 → 5 ≠ j → (Cond.not (Cond.eq (.string "ClapBank$Reader" (stK.getD 5 0)) (.string "ClapBank$Reader" (stK.getD j 0))) ∈ flatC (Jvm.Cond.and given_1 narrow_1) ∨ Cond.not (Cond.eq (.string "ClapBank$Reader" (stK.getD j 0)) (.string "ClapBank$Reader" (stK.getD 5 0))) ∈ flatC (Jvm.Cond.and given_1 narrow_1)) := by decide +kernel
set_option maxRecDepth 100000 in
theorem ks_n6 : ∀ j, j < 14 → 6 ≠ j → (Cond.not (Cond.eq (.string "ClapBank$Reader" (stK.getD 6 0)) (.string "ClapBank$Reader" (stK.getD j 0))) ∈ flatC (Jvm.Cond.and given_1 narrow_1) ∨ Cond.not (Cond.eq (.string "ClapBank$Reader" (stK.getD j 0)) (.string "ClapBank$Reader" (stK.getD 6 0))) ∈ flatC (Jvm.Cond.and given_1 narrow_1)) := by decide +kernel
set_option maxRecDepth 100000 in
theorem ks_n7 : ∀ j, j < 14 → 7 ≠ j → (Cond.not (Cond.eq (.string "ClapBank$Reader" (stK.getD 7 0)) (.string "ClapBank$Reader" (stK.getD j 0))) ∈ flatC (Jvm.Cond.and given_1 narrow_1) ∨ Cond.not (Cond.eq (.string "ClapBank$Reader" (stK.getD j 0)) (.string "ClapBank$Reader" (stK.getD 7 0))) ∈ flatC (Jvm.Cond.and given_1 narrow_1)) := by decide +kernel
set_option maxRecDepth 100000 in
theorem ks_n8 : ∀ j, j < 14 → 8 ≠ j → (Cond.not (Cond.eq (.string "ClapBank$Reader" (stK.getD 8 0)) (.string "ClapBank$Reader" (stK.getD j 0))) ∈ flatC (Jvm.Cond.and given_1 narrow_1) ∨ Cond.not (Cond.eq (.string "ClapBank$Reader" (stK.getD j 0)) (.string "ClapBank$Reader" (stK.getD 8 0))) ∈ flatC (Jvm.Cond.and given_1 narrow_1)) := by decide +kernel
set_option maxRecDepth 100000 in
theorem ks_n9 : ∀ j, j < 14 → 9 ≠ j → (Cond.not (Cond.eq (.string "ClapBank$Reader" (stK.getD 9 0)) (.string "ClapBank$Reader" (stK.getD j 0))) ∈ flatC (Jvm.Cond.and given_1 narrow_1) ∨ Cond.not (Cond.eq (.string "ClapBank$Reader" (stK.getD j 0)) (.string "ClapBank$Reader" (stK.getD 9 0))) ∈ flatC (Jvm.Cond.and given_1 narrow_1)) := by decide +kernel
set_option maxRecDepth 100000 in
theorem ks_n10 : ∀ j, j < 14 → 10 ≠ j → (Cond.not (Cond.eq (.string "ClapBank$Reader" (stK.getD 10 0)) (.string "ClapBank$Reader" (stK.getD j 0))) ∈ flatC (Jvm.Cond.and given_1 narrow_1) ∨ Cond.not (Cond.eq (.string "ClapBank$Reader" (stK.getD j 0)) (.string "ClapBank$Reader" (stK.getD 10 0))) ∈ flatC (Jvm.Cond.and given_1 narrow_1)) := by decide +kernel
set_option maxRecDepth 100000 in
theorem ks_n11 : ∀ j, j < 14 → 11 ≠ j → (Cond.not (Cond.eq (.string "ClapBank$Reader" (stK.getD 11 0)) (.string "ClapBank$Reader" (stK.getD j 0))) ∈ flatC (Jvm.Cond.and given_1 narrow_1) ∨ Cond.not (Cond.eq (.string "ClapBank$Reader" (stK.getD j 0)) (.string "ClapBank$Reader" (stK.getD 11 0))) ∈ flatC (Jvm.Cond.and given_1 narrow_1)) := by decide +kernel
set_option maxRecDepth 100000 in
theorem ks_n12 : ∀ j, j < 14 → 12 ≠ j → (Cond.not (Cond.eq (.string "ClapBank$Reader" (stK.getD 12 0)) (.string "ClapBank$Reader" (stK.getD j 0))) ∈ flatC (Jvm.Cond.and given_1 narrow_1) ∨ Cond.not (Cond.eq (.string "ClapBank$Reader" (stK.getD j 0)) (.string "ClapBank$Reader" (stK.getD 12 0))) ∈ flatC (Jvm.Cond.and given_1 narrow_1)) := by decide +kernel
set_option maxRecDepth 100000 in
theorem ks_n13 : ∀ j, j < 14 → 13 ≠ j → (Cond.not (Cond.eq (.string "ClapBank$Reader" (stK.getD 13 0)) (.string "ClapBank$Reader" (stK.getD j 0))) ∈ flatC (Jvm.Cond.and given_1 narrow_1) ∨ Cond.not (Cond.eq (.string "ClapBank$Reader" (stK.getD j 0)) (.string "ClapBank$Reader" (stK.getD 13 0))) ∈ flatC (Jvm.Cond.and given_1 narrow_1)) := by decide +kernel
theorem ks_n : ∀ i, i < 14 → ∀ j, j < 14 → i ≠ j → (Cond.not (Cond.eq (.string "ClapBank$Reader" (stK.getD i 0)) (.string "ClapBank$Reader" (stK.getD j 0))) ∈ flatC (Jvm.Cond.and given_1 narrow_1) ∨ Cond.not (Cond.eq (.string "ClapBank$Reader" (stK.getD j 0)) (.string "ClapBank$Reader" (stK.getD i 0))) ∈ flatC (Jvm.Cond.and given_1 narrow_1)) := by
  intro i hi
  match i, hi with
  | 0, _ => exact ks_n0
  | 1, _ => exact ks_n1
  | 2, _ => exact ks_n2
  | 3, _ => exact ks_n3
  | 4, _ => exact ks_n4
  | 5, _ => exact ks_n5
  | 6, _ => exact ks_n6
  | 7, _ => exact ks_n7
  | 8, _ => exact ks_n8
  | 9, _ => exact ks_n9
  | 10, _ => exact ks_n10
  | 11, _ => exact ks_n11
  | 12, _ => exact ks_n12
  | 13, _ => exact ks_n13
  | i + 14, hi => exact absurd hi (by omega)
set_option maxRecDepth 100000 in
theorem ke_cs : Cond.eq (.static "java/lang/String" "COMPACT_STRINGS" "Z") (.int 1) ∈ flatC (Jvm.Cond.and given_1 narrow_1) := by decide +kernel
set_option maxRecDepth 100000 in
theorem ke_sf : Cond.isRef (.static "jdk/internal/util/Preconditions" "SIOOBE_FORMATTER" "Ljava/util/function/BiFunction;") ∈ flatC (Jvm.Cond.and given_1 narrow_1) := by decide +kernel
set_option maxHeartbeats 4000000 in
set_option maxRecDepth 100000 in
theorem known_E {args : Array Value} {s : State} (hts : ∀ w ∈ lw_tbl, w.before args s = true) (hgv : (Jvm.Cond.and given_1 narrow_1).before args s = true) {A : Nat → Prop} (hA : ∀ a : Nat, a < s.heap.size → ¬ A a) : ∃ tz adK adV : Nat → Nat, EE tz adK adV A s s.heap := by
  have hs := flat_of_before _ hgv
  obtain ⟨t0, ht0, hT0⟩ := va_Tof (tm := .static "ClapBank$Reader" "FIRST_LINE" "[I") (ty := .int) (N := 4) (f := fun j => .int (fl_.getD j 0)) (A := A) (by decide) (hs _ ke_fl_a) (va_eqt (hs _ ke_fl_l)) (fun j hj => va_eqt (hs _ (ke_fl_e j hj))) hA
  obtain ⟨t1, ht1, hT1⟩ := va_Tof (tm := .static "ClapBank$Reader" "NUMBERS" "[I") (ty := .int) (N := 14) (f := fun j => .int (nu_.getD j 0)) (A := A) (by decide) (hs _ ke_nu_a) (va_eqt (hs _ ke_nu_l)) (fun j hj => va_eqt (hs _ (ke_nu_e j hj))) hA
  obtain ⟨t2, ht2, hT2⟩ := va_Tof (tm := .static "ClapBank$Reader" "LEAST" "[I") (ty := .int) (N := 42) (f := fun j => .int (le_.getD j 0)) (A := A) (by decide) (hs _ ke_le_a) (va_eqt (hs _ ke_le_l)) (fun j hj => va_eqt (hs _ (ke_le_e j hj))) hA
  obtain ⟨t3, ht3, hT3⟩ := va_Tof (tm := .static "ClapBank$Reader" "HIGHEST" "[I") (ty := .int) (N := 42) (f := fun j => .int (hi_.getD j 0)) (A := A) (by decide) (hs _ ke_hi_a) (va_eqt (hs _ ke_hi_l)) (fun j hj => va_eqt (hs _ (ke_hi_e j hj))) hA
  obtain ⟨adK, adV, hS, hev⟩ := vk_Sof (N := 14) (tm := fun i => .string "ClapBank$Reader" (stK.getD i 0)) (len := stL) (byt := stB) (A := A) (fun i _ => Nat.lt_of_le_of_lt (st_len i) (by decide)) (fun i hi => hs _ (ks_x i hi)) (fun i hi => hs _ (ks_c i hi)) (fun i hi => hs _ (ks_r i hi)) (fun i hi => hs _ (ks_l i hi)) (fun i hi j hj => hs _ (ks_e i hi j hj)) (fun i j hi hj hij => (ks_n i hi j hj hij).imp (fun q => hs _ q) (fun q => hs _ q)) hA
  refine ⟨fun k => [t0, t1, t2, t3].getD k 0, adK, adV, ⟨va_Zref (hts (.laysStatic "ClapBank$Reader" "FIRST_LINE" "[I") (tb_2 (List.mem_of_getElem? (i := 206) rfl))) (hts (.initialized RX5) (tb_1 (List.mem_of_getElem? (i := 6) rfl))) ht0 hA, hT0⟩, ⟨va_Zref (hts (.laysStatic "ClapBank$Reader" "NUMBERS" "[I") (tb_3 (List.mem_of_getElem? (i := 52) rfl))) (hts (.initialized RX5) (tb_1 (List.mem_of_getElem? (i := 6) rfl))) ht1 hA, hT1⟩, ⟨va_Zref (hts (.laysStatic "ClapBank$Reader" "LEAST" "[I") (tb_3 (List.mem_of_getElem? (i := 58) rfl))) (hts (.initialized RX5) (tb_1 (List.mem_of_getElem? (i := 6) rfl))) ht2 hA, hT2⟩, ⟨va_Zref (hts (.laysStatic "ClapBank$Reader" "HIGHEST" "[I") (tb_3 (List.mem_of_getElem? (i := 60) rfl))) (hts (.initialized RX5) (tb_1 (List.mem_of_getElem? (i := 6) rfl))) ht3 hA, hT3⟩, va_Zof (hts (.laysStatic "java/lang/String" "COMPACT_STRINGS" "Z") (tb_2 (List.mem_of_getElem? (i := 237) rfl))) (hts (.initialized "java/lang/String") (tb_1 (List.mem_of_getElem? (i := 13) rfl))) (va_eqi (hs _ ke_cs)) hA, va_Zqof (hts (.laysStatic "jdk/internal/util/Preconditions" "SIOOBE_FORMATTER" "Ljava/util/function/BiFunction;") (tb_3 (List.mem_of_getElem? (i := 13) rfl))) (hts (.initialized "jdk/internal/util/Preconditions") (tb_1 (List.mem_of_getElem? (i := 15) rfl))) (hs _ ke_sf) hA, hS, ?_⟩
  intro i hi
  match i, hi with
  | 0, hi => exact vk_R.of (hts (.stringRef "ClapBank$Reader" 138 "palm") (tb_2 (List.mem_of_getElem? (i := 210) rfl))) (hev 0 hi)
  | 1, hi => exact vk_R.of (hts (.stringRef "ClapBank$Reader" 140 "actor") (tb_2 (List.mem_of_getElem? (i := 211) rfl))) (hev 1 hi)
  | 2, hi => exact vk_R.of (hts (.stringRef "ClapBank$Reader" 142 "usurer") (tb_2 (List.mem_of_getElem? (i := 212) rfl))) (hev 2 hi)
  | 3, hi => exact vk_R.of (hts (.stringRef "ClapBank$Reader" 144 "rate") (tb_2 (List.mem_of_getElem? (i := 213) rfl))) (hev 3 hi)
  | 4, hi => exact vk_R.of (hts (.stringRef "ClapBank$Reader" 146 "chest") (tb_2 (List.mem_of_getElem? (i := 214) rfl))) (hev 4 hi)
  | 5, hi => exact vk_R.of (hts (.stringRef "ClapBank$Reader" 148 "borrow") (tb_2 (List.mem_of_getElem? (i := 215) rfl))) (hev 5 hi)
  | 6, hi => exact vk_R.of (hts (.stringRef "ClapBank$Reader" 150 "clap") (tb_2 (List.mem_of_getElem? (i := 216) rfl))) (hev 6 hi)
  | 7, hi => exact vk_R.of (hts (.stringRef "ClapBank$Reader" 152 "lend") (tb_2 (List.mem_of_getElem? (i := 217) rfl))) (hev 7 hi)
  | 8, hi => exact vk_R.of (hts (.stringRef "ClapBank$Reader" 154 "repay") (tb_2 (List.mem_of_getElem? (i := 218) rfl))) (hev 8 hi)
  | 9, hi => exact vk_R.of (hts (.stringRef "ClapBank$Reader" 156 "hush") (tb_2 (List.mem_of_getElem? (i := 219) rfl))) (hev 9 hi)
  | 10, hi => exact vk_R.of (hts (.stringRef "ClapBank$Reader" 158 "storm") (tb_2 (List.mem_of_getElem? (i := 220) rfl))) (hev 10 hi)
  | 11, hi => exact vk_R.of (hts (.stringRef "ClapBank$Reader" 160 "encore") (tb_2 (List.mem_of_getElem? (i := 221) rfl))) (hev 11 hi)
  | 12, hi => exact vk_R.of (hts (.stringRef "ClapBank$Reader" 162 "night") (tb_2 (List.mem_of_getElem? (i := 222) rfl))) (hev 12 hi)
  | 13, hi => exact vk_R.of (hts (.stringRef "ClapBank$Reader" 164 "heard") (tb_2 (List.mem_of_getElem? (i := 223) rfl))) (hev 13 hi)
  | i + 14, hi => exact absurd hi (by omega)
/-! THE CLAIM OUT OF ONE WALK OF THE LAW'S BODY. Your part is whole_start (and what it stands on); all else here is the same for every law, but numbers. -/
def R_law : String := "ClapBankLaw"
def lw_P (b : Addr) (xs : List Int32) (args : Array Value) (s : State) : Prop := args = #[.ref b] ∧ s.IntsAt b xs ∧ xs.length ≤ 3072 ∧ (Jvm.Cond.and given_1 narrow_1).before args s = true
def lw_Q (_ : Array Value) (s : State) (o : Outcome) (t : State) : Prop := o = .returned (some (.int 1)) ∧ Framed s o t [] 600000 7302250
def lw_Z (below : List Frame) (a : Array Value) (s : State) : State → Prop := fun t => ∃ o, t.status = .running ∧ Ended t below o ∧ lw_Q a s o t
/-- the law's own end, with 1 on the stack, nothing written that was there before, its room as the claim has it -/
theorem lw_ret {p : Program} {l : Launch} {e : Env} {s : State} {m : MethodId} {below : List Frame} {meth : Method} {c : Code} {b : Nat} (hx : p.tables.exec = Jvm.exec) (hb : c.code = code) (hr : meth.sig.returnType = ret) (hlocks : meth.locks = false) {pc : Nat} {H : Heap} {ls : Array Slot} (hdg : decode code pc = .ok (.ireturn, 1)) : W p l e room_1 s m #[Value.ref b] below meth c H [] 600000 7302250 (lw_Z below #[Value.ref b] s) (F0 m pc ls [.int 1]) := by
  intro T hT X
  obtain ⟨fs, hret, hrun, hended, hW, hframe⟩ := X.leave (v := some (.int 1)) (hlocks := hlocks) (fun h => by rw [hr] at h; cases h)
  have hmeth' : T.vm.method? m = some meth := X.method'
  refine ⟨T.setFrames fs, ?_, .returned (some (.int 1)), hrun, hended, rfl, ⟨_, rfl⟩, hW, hframe⟩
  jvm_step X.here [X.here.top, hx, hb, hdg, hmeth', hr, ret, narrow_b1]
  (try refine ⟨rfl, ?_⟩); (try refine ⟨rfl, ?_⟩)
  first | (intro acts; rw [hret _ acts rfl rfl rfl]) | rw [hret _ _ rfl rfl rfl]
  exact Steps.refl _
/-- what holds at the law's entry: the machine, the code, the tables' words (any of lw_tbl by 'hts w (by decide +kernel)'), the script of L ints xs at the cell b, what the Statement gives of the start (any of its parts by flat_of_before) -/
def lw_At (p : Program) (s : State) (m : MethodId) (meth : Method) (c : Code) (b L : Nat) (xs : Nat → Int32) : Prop :=
  p.tables.exec = Jvm.exec ∧ c.code = code ∧ meth.sig.returnType = ret ∧ c.maxLocals = 4 ∧ s.vm.findClass R_law = some m.cls ∧ (∀ w ∈ lw_tbl, w.before #[Value.ref b] s = true) ∧ va_X b L xs s s.heap ∧ b < s.heap.size ∧ meth.locks = false ∧ (Jvm.Cond.and given_1 narrow_1).before #[Value.ref b] s = true
