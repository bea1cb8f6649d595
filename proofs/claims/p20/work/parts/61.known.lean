theorem arr_known {ty : FieldType} {args : Array Value} {s : State} (h : (Cond.arrayClass ty).before args s = true) (hp : ∀ C : String, ty ≠ .object C) : ∃ cA : ClassId, ArrOfT s cA ty ∧ va_RA s cA ty := by
  obtain ⟨c, k, comp, h1, h2, h3⟩ := Cond.arrayClass_spec h
  refine ⟨c, fun n z => ⟨fun k h => (by cases h), k, h2, comp, h3⟩, ?_⟩
  cases ty <;> first | exact h1 | exact absurd rfl (hp _)
theorem ref_known {C : String} {args : Array Value} {s : State} (h : (Cond.arrayOver (.object C)).before args s = true) : ∃ cA : ClassId, ArrOfT s cA (.object C) ∧ va_RA s cA (.object C) := by
  obtain ⟨comp, c, k, h1, -, h2, h3, h4⟩ := Cond.arrayOver_spec h
  exact ⟨c, fun n z => ⟨fun k h => (by cases h), k, h2, comp, h3⟩, k, comp, h2, h3, h1, h4⟩
set_option maxRecDepth 100000 in
theorem nzl_in : ∀ w ∈ nzl, w ∈ lw_tbl := (List.forall_mem_cons.mpr ⟨(tb_1 (List.mem_of_getElem? (i := 41) rfl)), (List.forall_mem_cons.mpr ⟨(tb_1 (List.mem_of_getElem? (i := 42) rfl)), (List.forall_mem_cons.mpr ⟨(tb_1 (List.mem_of_getElem? (i := 43) rfl)), (List.forall_mem_cons.mpr ⟨(tb_1 (List.mem_of_getElem? (i := 44) rfl)), (List.forall_mem_cons.mpr ⟨(tb_1 (List.mem_of_getElem? (i := 45) rfl)), (List.forall_mem_cons.mpr ⟨(tb_1 (List.mem_of_getElem? (i := 47) rfl)), (List.forall_mem_cons.mpr ⟨(tb_1 (List.mem_of_getElem? (i := 48) rfl)), (List.forall_mem_cons.mpr ⟨(tb_1 (List.mem_of_getElem? (i := 50) rfl)), (List.forall_mem_cons.mpr ⟨(tb_1 (List.mem_of_getElem? (i := 51) rfl)), (List.forall_mem_cons.mpr ⟨(tb_1 (List.mem_of_getElem? (i := 52) rfl)), (List.forall_mem_cons.mpr ⟨(tb_1 (List.mem_of_getElem? (i := 54) rfl)), (List.forall_mem_cons.mpr ⟨(tb_1 (List.mem_of_getElem? (i := 55) rfl)), (List.forall_mem_cons.mpr ⟨(tb_1 (List.mem_of_getElem? (i := 56) rfl)), (List.forall_mem_cons.mpr ⟨(tb_1 (List.mem_of_getElem? (i := 58) rfl)), (List.forall_mem_cons.mpr ⟨(tb_1 (List.mem_of_getElem? (i := 60) rfl)), (List.forall_mem_cons.mpr ⟨(tb_1 (List.mem_of_getElem? (i := 61) rfl)), (List.forall_mem_cons.mpr ⟨(tb_1 (List.mem_of_getElem? (i := 63) rfl)), (List.forall_mem_cons.mpr ⟨(tb_1 (List.mem_of_getElem? (i := 64) rfl)), (List.forall_mem_cons.mpr ⟨(tb_1 (List.mem_of_getElem? (i := 66) rfl)), (List.forall_mem_cons.mpr ⟨(tb_1 (List.mem_of_getElem? (i := 68) rfl)), (List.forall_mem_cons.mpr ⟨(tb_1 (List.mem_of_getElem? (i := 70) rfl)), (List.forall_mem_cons.mpr ⟨(tb_1 (List.mem_of_getElem? (i := 71) rfl)), (List.forall_mem_cons.mpr ⟨(tb_1 (List.mem_of_getElem? (i := 73) rfl)), (List.forall_mem_cons.mpr ⟨(tb_1 (List.mem_of_getElem? (i := 74) rfl)), (List.forall_mem_cons.mpr ⟨(tb_1 (List.mem_of_getElem? (i := 75) rfl)), (List.forall_mem_cons.mpr ⟨(tb_1 (List.mem_of_getElem? (i := 77) rfl)), (List.forall_mem_cons.mpr ⟨(tb_1 (List.mem_of_getElem? (i := 112) rfl)), (List.forall_mem_cons.mpr ⟨(tb_1 (List.mem_of_getElem? (i := 113) rfl)), (List.forall_mem_cons.mpr ⟨(tb_1 (List.mem_of_getElem? (i := 114) rfl)), (List.forall_mem_cons.mpr ⟨(tb_1 (List.mem_of_getElem? (i := 128) rfl)), (List.forall_mem_cons.mpr ⟨(tb_1 (List.mem_of_getElem? (i := 129) rfl)), (List.forall_mem_cons.mpr ⟨(tb_1 (List.mem_of_getElem? (i := 130) rfl)), (List.forall_mem_cons.mpr ⟨(tb_1 (List.mem_of_getElem? (i := 132) rfl)), (List.forall_mem_cons.mpr ⟨(tb_1 (List.mem_of_getElem? (i := 133) rfl)), (List.forall_mem_cons.mpr ⟨(tb_1 (List.mem_of_getElem? (i := 140) rfl)), (List.forall_mem_cons.mpr ⟨(tb_1 (List.mem_of_getElem? (i := 141) rfl)), (List.forall_mem_cons.mpr ⟨(tb_1 (List.mem_of_getElem? (i := 143) rfl)), (List.forall_mem_cons.mpr ⟨(tb_1 (List.mem_of_getElem? (i := 146) rfl)), (List.forall_mem_cons.mpr ⟨(tb_1 (List.mem_of_getElem? (i := 197) rfl)), (List.forall_mem_cons.mpr ⟨(tb_1 (List.mem_of_getElem? (i := 199) rfl)), (List.forall_mem_cons.mpr ⟨(tb_1 (List.mem_of_getElem? (i := 201) rfl)), (List.forall_mem_cons.mpr ⟨(tb_1 (List.mem_of_getElem? (i := 204) rfl)), (List.forall_mem_cons.mpr ⟨(tb_1 (List.mem_of_getElem? (i := 206) rfl)), (List.forall_mem_cons.mpr ⟨(tb_2 (List.mem_of_getElem? (i := 1) rfl)), (List.forall_mem_cons.mpr ⟨(tb_2 (List.mem_of_getElem? (i := 3) rfl)), (List.forall_mem_cons.mpr ⟨(tb_2 (List.mem_of_getElem? (i := 7) rfl)), (List.forall_mem_cons.mpr ⟨(tb_2 (List.mem_of_getElem? (i := 12) rfl)), (List.forall_mem_cons.mpr ⟨(tb_2 (List.mem_of_getElem? (i := 72) rfl)), (List.forall_mem_cons.mpr ⟨(tb_2 (List.mem_of_getElem? (i := 74) rfl)), (List.forall_mem_cons.mpr ⟨(tb_2 (List.mem_of_getElem? (i := 77) rfl)), (List.forall_mem_cons.mpr ⟨(tb_2 (List.mem_of_getElem? (i := 112) rfl)), (List.forall_mem_cons.mpr ⟨(tb_2 (List.mem_of_getElem? (i := 114) rfl)), (List.forall_mem_cons.mpr ⟨(tb_1 (List.mem_of_getElem? (i := 30) rfl)), (List.forall_mem_cons.mpr ⟨(tb_1 (List.mem_of_getElem? (i := 36) rfl)), (List.forall_mem_cons.mpr ⟨(tb_1 (List.mem_of_getElem? (i := 107) rfl)), (List.forall_mem_cons.mpr ⟨(tb_1 (List.mem_of_getElem? (i := 123) rfl)), (List.forall_mem_cons.mpr ⟨(tb_1 (List.mem_of_getElem? (i := 186) rfl)), (List.forall_mem_cons.mpr ⟨(tb_1 (List.mem_of_getElem? (i := 191) rfl)), (List.forall_mem_cons.mpr ⟨(tb_1 (List.mem_of_getElem? (i := 193) rfl)), (List.forall_mem_cons.mpr ⟨(tb_1 (List.mem_of_getElem? (i := 195) rfl)), (List.forall_mem_cons.mpr ⟨(tb_1 (List.mem_of_getElem? (i := 234) rfl)), (List.forall_mem_cons.mpr ⟨(tb_1 (List.mem_of_getElem? (i := 239) rfl)), (List.forall_mem_cons.mpr ⟨(tb_2 (List.mem_of_getElem? (i := 49) rfl)), (List.forall_mem_cons.mpr ⟨(tb_2 (List.mem_of_getElem? (i := 65) rfl)), (List.forall_mem_cons.mpr ⟨(tb_2 (List.mem_of_getElem? (i := 96) rfl)), (List.forall_mem_cons.mpr ⟨(tb_2 (List.mem_of_getElem? (i := 101) rfl)), (List.forall_mem_cons.mpr ⟨(tb_2 (List.mem_of_getElem? (i := 103) rfl)), (fun _ h => absurd h List.not_mem_nil)⟩)⟩)⟩)⟩)⟩)⟩)⟩)⟩)⟩)⟩)⟩)⟩)⟩)⟩)⟩)⟩)⟩)⟩)⟩)⟩)⟩)⟩)⟩)⟩)⟩)⟩)⟩)⟩)⟩)⟩)⟩)⟩)⟩)⟩)⟩)⟩)⟩)⟩)⟩)⟩)⟩)⟩)⟩)⟩)⟩)⟩)⟩)⟩)⟩)⟩)⟩)⟩)⟩)⟩)⟩)⟩)⟩)⟩)⟩)⟩)⟩)⟩)⟩)⟩)⟩)⟩)⟩)
set_option maxHeartbeats 4000000 in
set_option maxRecDepth 100000 in
theorem known_all {args : Array Value} {s : State} (hts : ∀ w ∈ lw_tbl, w.before args s = true) : ∃ (D : va_G) (cI cB cJ cZ cT : ClassId), KK D (tyL cI cB cJ cZ cT) s := by
  obtain ⟨c0, iS0, hKn0⟩ := u_known (C := RX0) (T := TX0) (N := 2) (n := 2) hts inX0 (hts (.instantiable RX0 2) (tb_1 (List.mem_of_getElem? (i := 106) rfl)))
  obtain ⟨c1, iS1, hKn1⟩ := u_known (C := RX1) (T := TX1) (N := 2) (n := 2) hts inX1 (hts (.instantiable RX1 2) (tb_1 (List.mem_of_getElem? (i := 122) rfl)))
  obtain ⟨c2, iS2, hKn2⟩ := u_known (C := RX2) (T := TX2) (N := 14) (n := 14) hts inX2 (hts (.instantiable RX2 14) (tb_1 (List.mem_of_getElem? (i := 233) rfl)))
  obtain ⟨c3, iS3, hKn3⟩ := u_known (C := RX3) (T := TX3) (N := 3) (n := 3) hts inX3 (hts (.instantiable RX3 3) (tb_2 (List.mem_of_getElem? (i := 48) rfl)))
  obtain ⟨c4, iS4, hKn4⟩ := u_known (C := RX4) (T := TX4) (N := 9) (n := 9) hts inX4 (hts (.instantiable RX4 9) (tb_2 (List.mem_of_getElem? (i := 95) rfl)))
  obtain ⟨c5, iS5, hKn5⟩ := u_known (C := RX5) (T := TX5) (N := 10) (n := 10) hts inX5 (hts (.instantiable RX5 10) (tb_1 (List.mem_of_getElem? (i := 185) rfl)))
  obtain ⟨c6, iS6, hKn6⟩ := u_known (C := RX6) (T := TX6) (N := 7) (n := 7) hts inX6 (hts (.instantiable RX6 7) (tb_2 (List.mem_of_getElem? (i := 64) rfl)))
  obtain ⟨c7, iS7, hKn7⟩ := u_known (C := RX7) (T := TX7) (N := 12) (n := 12) hts inX7 (hts (.instantiable RX7 12) (tb_1 (List.mem_of_getElem? (i := 35) rfl)))
  obtain ⟨c8, iS8, hKn8⟩ := u_known (C := RX8) (T := TX8) (N := 13) (n := 13) hts inX8 (hts (.instantiable RX8 13) (tb_1 (List.mem_of_getElem? (i := 29) rfl)))
  obtain ⟨c9, iS9, hKn9⟩ := u_known (C := RX9) (T := TX9) (N := 7) (n := 7) hts inX9 (hts (.instantiable RX9 7) (tb_1 (List.mem_of_getElem? (i := 21) rfl)))
  obtain ⟨c10, iS10, hKn10⟩ := u_known (C := RX10) (T := TX10) (N := 50) (n := 50) hts inX10 (hts (.instantiable RX10 50) (tb_5 (List.mem_of_getElem? (i := 21) rfl)))
  obtain ⟨cI, aI, bI⟩ := arr_known (hts (.arrayClass .int) (tb_1 (List.mem_of_getElem? (i := 104) rfl))) (fun C h => by cases h)
  obtain ⟨cB, aB, bB⟩ := arr_known (hts (.arrayClass .byte) (tb_1 (List.mem_of_getElem? (i := 103) rfl))) (fun C h => by cases h)
  obtain ⟨cJ, aJ, bJ⟩ := arr_known (hts (.arrayClass .long) (tb_5 (List.mem_of_getElem? (i := 178) rfl))) (fun C h => by cases h)
  obtain ⟨cZ, aZ, bZ⟩ := arr_known (hts (.arrayClass .boolean) (tb_5 (List.mem_of_getElem? (i := 179) rfl))) (fun C h => by cases h)
  have hao : (Cond.arrayOver (.object RX8)).before args s = true := hts _ (tb_1 (List.mem_of_getElem? (i := 183) rfl))
  obtain ⟨cT, aT, bT⟩ := ref_known hao
  refine ⟨(fun k => if k = 0 then c0 else if k = 1 then c1 else if k = 2 then c2 else if k = 3 then c3 else if k = 4 then c4 else if k = 5 then c5 else if k = 6 then c6 else if k = 7 then c7 else if k = 8 then c8 else if k = 9 then c9 else c10, fun k => if k = 0 then iS0 else if k = 1 then iS1 else if k = 2 then iS2 else if k = 3 then iS3 else if k = 4 then iS4 else if k = 5 then iS5 else if k = 6 then iS6 else if k = 7 then iS7 else if k = 8 then iS8 else if k = 9 then iS9 else iS10), cI, cB, cJ, cZ, cT, ⟨?_, ?_⟩, ?_, va_AO.of hao⟩
  · intro k q hq
    match k, hq with
    | 0, hq => cases hq; exact hKn0
    | 1, hq => cases hq; exact hKn1
    | 2, hq => cases hq; exact hKn2
    | 3, hq => cases hq; exact hKn3
    | 4, hq => cases hq; exact hKn4
    | 5, hq => cases hq; exact hKn5
    | 6, hq => cases hq; exact hKn6
    | 7, hq => cases hq; exact hKn7
    | 8, hq => cases hq; exact hKn8
    | 9, hq => cases hq; exact hKn9
    | 10, hq => cases hq; exact hKn10
    | k + 11, hq => simp [vwCl] at hq
  · intro k q hq
    match k, hq with
    | 0, hq => cases hq; exact ⟨aI, bI⟩
    | 1, hq => cases hq; exact ⟨aB, bB⟩
    | 2, hq => cases hq; exact ⟨aJ, bJ⟩
    | 3, hq => cases hq; exact ⟨aZ, bZ⟩
    | 4, hq => cases hq; exact ⟨aT, bT⟩
    | k + 5, hq => simp [tyL] at hq
  · intro w hw
    exact va_Nw.of (nz_tab (List.all_eq_true.mp nz_all w hw)) (hts w (nzl_in w hw))
set_option maxRecDepth 100000 in
theorem ke_fl_a : Cond.arrayOf (.static "ClapBank$Reader" "FIRST_LINE" "[I") .int ∈ flatC (Jvm.Cond.and given_1 narrow_1) := (List.mem_of_getElem? (i := 5) rfl)
set_option maxRecDepth 100000 in
theorem ke_fl_l : Cond.eq (.length (.static "ClapBank$Reader" "FIRST_LINE" "[I")) (.int (Int32.ofNat 4)) ∈ flatC (Jvm.Cond.and given_1 narrow_1) := (List.mem_of_getElem? (i := 6) rfl)
set_option maxRecDepth 100000 in
theorem ke_fl_e : ∀ j, j < 4 → Cond.eq (.elem (.static "ClapBank$Reader" "FIRST_LINE" "[I") (.int (Int32.ofNat j))) (.int (fl_.getD j 0)) ∈ flatC (Jvm.Cond.and given_1 narrow_1) := by
  intro j hj
  match j, hj with
  | 0, _ => exact (List.mem_of_getElem? (i := 7) rfl)
  | 1, _ => exact (List.mem_of_getElem? (i := 8) rfl)
  | 2, _ => exact (List.mem_of_getElem? (i := 9) rfl)
  | 3, _ => exact (List.mem_of_getElem? (i := 10) rfl)
  | j + 4, hj => exact absurd hj (by omega)
set_option maxRecDepth 100000 in
theorem ke_nu_a : Cond.arrayOf (.static "ClapBank$Reader" "NUMBERS" "[I") .int ∈ flatC (Jvm.Cond.and given_1 narrow_1) := (List.mem_of_getElem? (i := 17) rfl)
set_option maxRecDepth 100000 in
theorem ke_nu_l : Cond.eq (.length (.static "ClapBank$Reader" "NUMBERS" "[I")) (.int (Int32.ofNat 14)) ∈ flatC (Jvm.Cond.and given_1 narrow_1) := (List.mem_of_getElem? (i := 18) rfl)
set_option maxRecDepth 100000 in
theorem ke_nu_e : ∀ j, j < 14 → Cond.eq (.elem (.static "ClapBank$Reader" "NUMBERS" "[I") (.int (Int32.ofNat j))) (.int (nu_.getD j 0)) ∈ flatC (Jvm.Cond.and given_1 narrow_1) := by
  intro j hj
  match j, hj with
  | 0, _ => exact (List.mem_of_getElem? (i := 19) rfl)
  | 1, _ => exact (List.mem_of_getElem? (i := 20) rfl)
  | 2, _ => exact (List.mem_of_getElem? (i := 21) rfl)
  | 3, _ => exact (List.mem_of_getElem? (i := 22) rfl)
  | 4, _ => exact (List.mem_of_getElem? (i := 23) rfl)
  | 5, _ => exact (List.mem_of_getElem? (i := 24) rfl)
  | 6, _ => exact (List.mem_of_getElem? (i := 25) rfl)
  | 7, _ => exact (List.mem_of_getElem? (i := 26) rfl)
  | 8, _ => exact (List.mem_of_getElem? (i := 27) rfl)
  | 9, _ => exact (List.mem_of_getElem? (i := 28) rfl)
  | 10, _ => exact (List.mem_of_getElem? (i := 29) rfl)
  | 11, _ => exact (List.mem_of_getElem? (i := 30) rfl)
  | 12, _ => exact (List.mem_of_getElem? (i := 31) rfl)
  | 13, _ => exact (List.mem_of_getElem? (i := 32) rfl)
  | j + 14, hj => exact absurd hj (by omega)
set_option maxRecDepth 100000 in
theorem ke_le_a : Cond.arrayOf (.static "ClapBank$Reader" "LEAST" "[I") .int ∈ flatC (Jvm.Cond.and given_1 narrow_1) := (List.mem_of_getElem? (i := 34) rfl)
set_option maxRecDepth 100000 in
theorem ke_le_l : Cond.eq (.length (.static "ClapBank$Reader" "LEAST" "[I")) (.int (Int32.ofNat 42)) ∈ flatC (Jvm.Cond.and given_1 narrow_1) := (List.mem_of_getElem? (i := 35) rfl)
set_option maxRecDepth 100000 in
theorem ke_le_e : ∀ j, j < 42 → Cond.eq (.elem (.static "ClapBank$Reader" "LEAST" "[I") (.int (Int32.ofNat j))) (.int (le_.getD j 0)) ∈ flatC (Jvm.Cond.and given_1 narrow_1) := by
  intro j hj
  match j, hj with
  | 0, _ => exact (List.mem_of_getElem? (i := 36) rfl)
  | 1, _ => exact (List.mem_of_getElem? (i := 37) rfl)
  | 2, _ => exact (List.mem_of_getElem? (i := 38) rfl)
  | 3, _ => exact (List.mem_of_getElem? (i := 39) rfl)
  | 4, _ => exact (List.mem_of_getElem? (i := 40) rfl)
  | 5, _ => exact (List.mem_of_getElem? (i := 41) rfl)
  | 6, _ => exact (List.mem_of_getElem? (i := 42) rfl)
  | 7, _ => exact (List.mem_of_getElem? (i := 43) rfl)
  | 8, _ => exact (List.mem_of_getElem? (i := 44) rfl)
  | 9, _ => exact (List.mem_of_getElem? (i := 45) rfl)
  | 10, _ => exact (List.mem_of_getElem? (i := 46) rfl)
  | 11, _ => exact (List.mem_of_getElem? (i := 47) rfl)
  | 12, _ => exact (List.mem_of_getElem? (i := 48) rfl)
  | 13, _ => exact (List.mem_of_getElem? (i := 49) rfl)
  | 14, _ => exact (List.mem_of_getElem? (i := 50) rfl)
  | 15, _ => exact (List.mem_of_getElem? (i := 51) rfl)
  | 16, _ => exact (List.mem_of_getElem? (i := 52) rfl)
  | 17, _ => exact (List.mem_of_getElem? (i := 53) rfl)
  | 18, _ => exact (List.mem_of_getElem? (i := 54) rfl)
  | 19, _ => exact (List.mem_of_getElem? (i := 55) rfl)
  | 20, _ => exact (List.mem_of_getElem? (i := 56) rfl)
  | 21, _ => exact (List.mem_of_getElem? (i := 57) rfl)
  | 22, _ => exact (List.mem_of_getElem? (i := 58) rfl)
  | 23, _ => exact (List.mem_of_getElem? (i := 59) rfl)
  | 24, _ => exact (List.mem_of_getElem? (i := 60) rfl)
  | 25, _ => exact (List.mem_of_getElem? (i := 61) rfl)
  | 26, _ => exact (List.mem_of_getElem? (i := 62) rfl)
  | 27, _ => exact (List.mem_of_getElem? (i := 63) rfl)
  | 28, _ => exact (List.mem_of_getElem? (i := 64) rfl)
  | 29, _ => exact (List.mem_of_getElem? (i := 65) rfl)
  | 30, _ => exact (List.mem_of_getElem? (i := 66) rfl)
  | 31, _ => exact (List.mem_of_getElem? (i := 67) rfl)
  | 32, _ => exact (List.mem_of_getElem? (i := 68) rfl)
  | 33, _ => exact (List.mem_of_getElem? (i := 69) rfl)
  | 34, _ => exact (List.mem_of_getElem? (i := 70) rfl)
  | 35, _ => exact (List.mem_of_getElem? (i := 71) rfl)
  | 36, _ => exact (List.mem_of_getElem? (i := 72) rfl)
  | 37, _ => exact (List.mem_of_getElem? (i := 73) rfl)
  | 38, _ => exact (List.mem_of_getElem? (i := 74) rfl)
  | 39, _ => exact (List.mem_of_getElem? (i := 75) rfl)
  | 40, _ => exact (List.mem_of_getElem? (i := 76) rfl)
  | 41, _ => exact (List.mem_of_getElem? (i := 77) rfl)
  | j + 42, hj => exact absurd hj (by omega)
set_option maxRecDepth 100000 in
theorem ke_hi_a : Cond.arrayOf (.static "ClapBank$Reader" "HIGHEST" "[I") .int ∈ flatC (Jvm.Cond.and given_1 narrow_1) := (List.mem_of_getElem? (i := 79) rfl)
set_option maxRecDepth 100000 in
theorem ke_hi_l : Cond.eq (.length (.static "ClapBank$Reader" "HIGHEST" "[I")) (.int (Int32.ofNat 42)) ∈ flatC (Jvm.Cond.and given_1 narrow_1) := (List.mem_of_getElem? (i := 80) rfl)
set_option maxRecDepth 100000 in
theorem ke_hi_e : ∀ j, j < 42 → Cond.eq (.elem (.static "ClapBank$Reader" "HIGHEST" "[I") (.int (Int32.ofNat j))) (.int (hi_.getD j 0)) ∈ flatC (Jvm.Cond.and given_1 narrow_1) := by
  intro j hj
  match j, hj with
  | 0, _ => exact (List.mem_of_getElem? (i := 81) rfl)
  | 1, _ => exact (List.mem_of_getElem? (i := 82) rfl)
  | 2, _ => exact (List.mem_of_getElem? (i := 83) rfl)
  | 3, _ => exact (List.mem_of_getElem? (i := 84) rfl)
  | 4, _ => exact (List.mem_of_getElem? (i := 85) rfl)
  | 5, _ => exact (List.mem_of_getElem? (i := 86) rfl)
  | 6, _ => exact (List.mem_of_getElem? (i := 87) rfl)
  | 7, _ => exact (List.mem_of_getElem? (i := 88) rfl)
  | 8, _ => exact (List.mem_of_getElem? (i := 89) rfl)
  | 9, _ => exact (List.mem_of_getElem? (i := 90) rfl)
  | 10, _ => exact (List.mem_of_getElem? (i := 91) rfl)
  | 11, _ => exact (List.mem_of_getElem? (i := 92) rfl)
  | 12, _ => exact (List.mem_of_getElem? (i := 93) rfl)
  | 13, _ => exact (List.mem_of_getElem? (i := 94) rfl)
  | 14, _ => exact (List.mem_of_getElem? (i := 95) rfl)
  | 15, _ => exact (List.mem_of_getElem? (i := 96) rfl)
  | 16, _ => exact (List.mem_of_getElem? (i := 97) rfl)
  | 17, _ => exact (List.mem_of_getElem? (i := 98) rfl)
  | 18, _ => exact (List.mem_of_getElem? (i := 99) rfl)
  | 19, _ => exact (List.mem_of_getElem? (i := 100) rfl)
  | 20, _ => exact (List.mem_of_getElem? (i := 101) rfl)
  | 21, _ => exact (List.mem_of_getElem? (i := 102) rfl)
  | 22, _ => exact (List.mem_of_getElem? (i := 103) rfl)
  | 23, _ => exact (List.mem_of_getElem? (i := 104) rfl)
  | 24, _ => exact (List.mem_of_getElem? (i := 105) rfl)
  | 25, _ => exact (List.mem_of_getElem? (i := 106) rfl)
  | 26, _ => exact (List.mem_of_getElem? (i := 107) rfl)
  | 27, _ => exact (List.mem_of_getElem? (i := 108) rfl)
  | 28, _ => exact (List.mem_of_getElem? (i := 109) rfl)
  | 29, _ => exact (List.mem_of_getElem? (i := 110) rfl)
  | 30, _ => exact (List.mem_of_getElem? (i := 111) rfl)
  | 31, _ => exact (List.mem_of_getElem? (i := 112) rfl)
  | 32, _ => exact (List.mem_of_getElem? (i := 113) rfl)
  | 33, _ => exact (List.mem_of_getElem? (i := 114) rfl)
  | 34, _ => exact (List.mem_of_getElem? (i := 115) rfl)
  | 35, _ => exact (List.mem_of_getElem? (i := 116) rfl)
  | 36, _ => exact (List.mem_of_getElem? (i := 117) rfl)
  | 37, _ => exact (List.mem_of_getElem? (i := 118) rfl)
  | 38, _ => exact (List.mem_of_getElem? (i := 119) rfl)
  | 39, _ => exact (List.mem_of_getElem? (i := 120) rfl)
  | 40, _ => exact (List.mem_of_getElem? (i := 121) rfl)
  | 41, _ => exact (List.mem_of_getElem? (i := 122) rfl)
  | j + 42, hj => exact absurd hj (by omega)
set_option maxRecDepth 100000 in
theorem ks_x : ∀ i, i < 14 → Cond.exactly (.string "ClapBank$Reader" (stK.getD i 0)) "java/lang/String" ∈ flatC (Jvm.Cond.and given_1 narrow_1) := by
  intro i hi
  match i, hi with
  | 0, _ => exact (List.mem_of_getElem? (i := 123) rfl)
  | 1, _ => exact (List.mem_of_getElem? (i := 131) rfl)
  | 2, _ => exact (List.mem_of_getElem? (i := 141) rfl)
  | 3, _ => exact (List.mem_of_getElem? (i := 153) rfl)
  | 4, _ => exact (List.mem_of_getElem? (i := 164) rfl)
  | 5, _ => exact (List.mem_of_getElem? (i := 177) rfl)
  | 6, _ => exact (List.mem_of_getElem? (i := 192) rfl)
  | 7, _ => exact (List.mem_of_getElem? (i := 206) rfl)
  | 8, _ => exact (List.mem_of_getElem? (i := 221) rfl)
  | 9, _ => exact (List.mem_of_getElem? (i := 238) rfl)
  | 10, _ => exact (List.mem_of_getElem? (i := 255) rfl)
  | 11, _ => exact (List.mem_of_getElem? (i := 274) rfl)
  | 12, _ => exact (List.mem_of_getElem? (i := 295) rfl)
  | 13, _ => exact (List.mem_of_getElem? (i := 316) rfl)
  | i + 14, hi => exact absurd hi (by omega)
set_option maxRecDepth 100000 in
theorem ks_c : ∀ i, i < 14 → Cond.eq (.field (.string "ClapBank$Reader" (stK.getD i 0)) "java/lang/String" "coder" "B") (.int 0) ∈ flatC (Jvm.Cond.and given_1 narrow_1) := by
  intro i hi
  match i, hi with
  | 0, _ => exact (List.mem_of_getElem? (i := 124) rfl)
  | 1, _ => exact (List.mem_of_getElem? (i := 132) rfl)
  | 2, _ => exact (List.mem_of_getElem? (i := 142) rfl)
  | 3, _ => exact (List.mem_of_getElem? (i := 154) rfl)
  | 4, _ => exact (List.mem_of_getElem? (i := 165) rfl)
  | 5, _ => exact (List.mem_of_getElem? (i := 178) rfl)
  | 6, _ => exact (List.mem_of_getElem? (i := 193) rfl)
  | 7, _ => exact (List.mem_of_getElem? (i := 207) rfl)
  | 8, _ => exact (List.mem_of_getElem? (i := 222) rfl)
  | 9, _ => exact (List.mem_of_getElem? (i := 239) rfl)
  | 10, _ => exact (List.mem_of_getElem? (i := 256) rfl)
  | 11, _ => exact (List.mem_of_getElem? (i := 275) rfl)
  | 12, _ => exact (List.mem_of_getElem? (i := 296) rfl)
  | 13, _ => exact (List.mem_of_getElem? (i := 317) rfl)
  | i + 14, hi => exact absurd hi (by omega)
set_option maxRecDepth 100000 in
theorem ks_r : ∀ i, i < 14 → Cond.arrayOf (.field (.string "ClapBank$Reader" (stK.getD i 0)) "java/lang/String" "value" "[B") .byte ∈ flatC (Jvm.Cond.and given_1 narrow_1) := by
  intro i hi
  match i, hi with
  | 0, _ => exact (List.mem_of_getElem? (i := 125) rfl)
  | 1, _ => exact (List.mem_of_getElem? (i := 133) rfl)
  | 2, _ => exact (List.mem_of_getElem? (i := 143) rfl)
  | 3, _ => exact (List.mem_of_getElem? (i := 155) rfl)
  | 4, _ => exact (List.mem_of_getElem? (i := 166) rfl)
  | 5, _ => exact (List.mem_of_getElem? (i := 179) rfl)
  | 6, _ => exact (List.mem_of_getElem? (i := 194) rfl)
  | 7, _ => exact (List.mem_of_getElem? (i := 208) rfl)
  | 8, _ => exact (List.mem_of_getElem? (i := 223) rfl)
  | 9, _ => exact (List.mem_of_getElem? (i := 240) rfl)
  | 10, _ => exact (List.mem_of_getElem? (i := 257) rfl)
  | 11, _ => exact (List.mem_of_getElem? (i := 276) rfl)
  | 12, _ => exact (List.mem_of_getElem? (i := 297) rfl)
  | 13, _ => exact (List.mem_of_getElem? (i := 318) rfl)
  | i + 14, hi => exact absurd hi (by omega)
set_option maxRecDepth 100000 in
theorem ks_l : ∀ i, i < 14 → Cond.eq (.length (.field (.string "ClapBank$Reader" (stK.getD i 0)) "java/lang/String" "value" "[B")) (.int (Int32.ofNat (stL.getD i 0))) ∈ flatC (Jvm.Cond.and given_1 narrow_1) := by
  intro i hi
  match i, hi with
  | 0, _ => exact (List.mem_of_getElem? (i := 126) rfl)
  | 1, _ => exact (List.mem_of_getElem? (i := 134) rfl)
  | 2, _ => exact (List.mem_of_getElem? (i := 144) rfl)
  | 3, _ => exact (List.mem_of_getElem? (i := 156) rfl)
  | 4, _ => exact (List.mem_of_getElem? (i := 167) rfl)
  | 5, _ => exact (List.mem_of_getElem? (i := 180) rfl)
  | 6, _ => exact (List.mem_of_getElem? (i := 195) rfl)
  | 7, _ => exact (List.mem_of_getElem? (i := 209) rfl)
  | 8, _ => exact (List.mem_of_getElem? (i := 224) rfl)
  | 9, _ => exact (List.mem_of_getElem? (i := 241) rfl)
  | 10, _ => exact (List.mem_of_getElem? (i := 258) rfl)
  | 11, _ => exact (List.mem_of_getElem? (i := 277) rfl)
  | 12, _ => exact (List.mem_of_getElem? (i := 298) rfl)
  | 13, _ => exact (List.mem_of_getElem? (i := 319) rfl)
  | i + 14, hi => exact absurd hi (by omega)
set_option maxRecDepth 100000 in
theorem ks_e0 : ∀ j, j < stL.getD 0 0 → Cond.eq (.elem (.field (.string "ClapBank$Reader" (stK.getD 0 0)) "java/lang/String" "value" "[B") (.int (Int32.ofNat j))) (.int ((stB.getD 0 []).getD j 0)) ∈ flatC (Jvm.Cond.and given_1 narrow_1) := by
  intro j hj
  have hj : j < 4 := hj
  match j, hj with
  | 0, _ => exact (List.mem_of_getElem? (i := 127) rfl)
  | 1, _ => exact (List.mem_of_getElem? (i := 128) rfl)
  | 2, _ => exact (List.mem_of_getElem? (i := 129) rfl)
  | 3, _ => exact (List.mem_of_getElem? (i := 130) rfl)
  | j + 4, hj => exact absurd hj (by omega)
set_option maxRecDepth 100000 in
theorem ks_e1 : ∀ j, j < stL.getD 1 0 → Cond.eq (.elem (.field (.string "ClapBank$Reader" (stK.getD 1 0)) "java/lang/String" "value" "[B") (.int (Int32.ofNat j))) (.int ((stB.getD 1 []).getD j 0)) ∈ flatC (Jvm.Cond.and given_1 narrow_1) := by
  intro j hj
  have hj : j < 5 := hj
  match j, hj with
  | 0, _ => exact (List.mem_of_getElem? (i := 135) rfl)
  | 1, _ => exact (List.mem_of_getElem? (i := 136) rfl)
  | 2, _ => exact (List.mem_of_getElem? (i := 137) rfl)
  | 3, _ => exact (List.mem_of_getElem? (i := 138) rfl)
  | 4, _ => exact (List.mem_of_getElem? (i := 139) rfl)
  | j + 5, hj => exact absurd hj (by omega)
set_option maxRecDepth 100000 in
theorem ks_e2 : ∀ j, j < stL.getD 2 0 → Cond.eq (.elem (.field (.string "ClapBank$Reader" (stK.getD 2 0)) "java/lang/String" "value" "[B") (.int (Int32.ofNat j))) (.int ((stB.getD 2 []).getD j 0)) ∈ flatC (Jvm.Cond.and given_1 narrow_1) := by
  intro j hj
  have hj : j < 6 := hj
  match j, hj with
  | 0, _ => exact (List.mem_of_getElem? (i := 145) rfl)
  | 1, _ => exact (List.mem_of_getElem? (i := 146) rfl)
  | 2, _ => exact (List.mem_of_getElem? (i := 147) rfl)
  | 3, _ => exact (List.mem_of_getElem? (i := 148) rfl)
  | 4, _ => exact (List.mem_of_getElem? (i := 149) rfl)
  | 5, _ => exact (List.mem_of_getElem? (i := 150) rfl)
  | j + 6, hj => exact absurd hj (by omega)
set_option maxRecDepth 100000 in
theorem ks_e3 : ∀ j, j < stL.getD 3 0 → Cond.eq (.elem (.field (.string "ClapBank$Reader" (stK.getD 3 0)) "java/lang/String" "value" "[B") (.int (Int32.ofNat j))) (.int ((stB.getD 3 []).getD j 0)) ∈ flatC (Jvm.Cond.and given_1 narrow_1) := by
  intro j hj
  have hj : j < 4 := hj
  match j, hj with
  | 0, _ => exact (List.mem_of_getElem? (i := 157) rfl)
  | 1, _ => exact (List.mem_of_getElem? (i := 158) rfl)
  | 2, _ => exact (List.mem_of_getElem? (i := 159) rfl)
  | 3, _ => exact (List.mem_of_getElem? (i := 160) rfl)
  | j + 4, hj => exact absurd hj (by omega)
set_option maxRecDepth 100000 in
theorem ks_e4 : ∀ j, j < stL.getD 4 0 → Cond.eq (.elem (.field (.string "ClapBank$Reader" (stK.getD 4 0)) "java/lang/String" "value" "[B") (.int (Int32.ofNat j))) (.int ((stB.getD 4 []).getD j 0)) ∈ flatC (Jvm.Cond.and given_1 narrow_1) := by
  intro j hj
  have hj : j < 5 := hj
  match j, hj with
  | 0, _ => exact (List.mem_of_getElem? (i := 168) rfl)
  | 1, _ => exact (List.mem_of_getElem? (i := 169) rfl)
  | 2, _ => exact (List.mem_of_getElem? (i := 170) rfl)
  | 3, _ => exact (List.mem_of_getElem? (i := 171) rfl)
  | 4, _ => exact (List.mem_of_getElem? (i := 172) rfl)
  | j + 5, hj => exact absurd hj (by omega)
set_option maxRecDepth 100000 in
theorem ks_e5 : ∀ j, j < stL.getD 5 0 → Cond.eq (.elem (.field (.string "ClapBank$Reader" (stK.getD 5 0)) "java/lang/String" "value" "[B") (.int (Int32.ofNat j))) (.int ((stB.getD 5 []).getD j 0)) ∈ flatC (Jvm.Cond.and given_1 narrow_1) := by
  intro j hj
  have hj : j < 6 := hj
  match j, hj with
  | 0, _ => exact (List.mem_of_getElem? (i := 181) rfl)
  | 1, _ => exact (List.mem_of_getElem? (i := 182) rfl)
  | 2, _ => exact (List.mem_of_getElem? (i := 183) rfl)
  | 3, _ => exact (List.mem_of_getElem? (i := 184) rfl)
  | 4, _ => exact (List.mem_of_getElem? (i := 185) rfl)
  | 5, _ => exact (List.mem_of_getElem? (i := 186) rfl)
  | j + 6, hj => exact absurd hj (by omega)
set_option maxRecDepth 100000 in
theorem ks_e6 : ∀ j, j < stL.getD 6 0 → Cond.eq (.elem (.field (.string "ClapBank$Reader" (stK.getD 6 0)) "java/lang/String" "value" "[B") (.int (Int32.ofNat j))) (.int ((stB.getD 6 []).getD j 0)) ∈ flatC (Jvm.Cond.and given_1 narrow_1) := by
  intro j hj
  have hj : j < 4 := hj
  match j, hj with
  | 0, _ => exact (List.mem_of_getElem? (i := 196) rfl)
  | 1, _ => exact (List.mem_of_getElem? (i := 197) rfl)
  | 2, _ => exact (List.mem_of_getElem? (i := 198) rfl)
  | 3, _ => exact (List.mem_of_getElem? (i := 199) rfl)
  | j + 4, hj => exact absurd hj (by omega)
set_option maxRecDepth 100000 in
theorem ks_e7 : ∀ j, j < stL.getD 7 0 → Cond.eq (.elem (.field (.string "ClapBank$Reader" (stK.getD 7 0)) "java/lang/String" "value" "[B") (.int (Int32.ofNat j))) (.int ((stB.getD 7 []).getD j 0)) ∈ flatC (Jvm.Cond.and given_1 narrow_1) := by
  intro j hj
  have hj : j < 4 := hj
  match j, hj with
  | 0, _ => exact (List.mem_of_getElem? (i := 210) rfl)
  | 1, _ => exact (List.mem_of_getElem? (i := 211) rfl)
  | 2, _ => exact (List.mem_of_getElem? (i := 212) rfl)
  | 3, _ => exact (List.mem_of_getElem? (i := 213) rfl)
  | j + 4, hj => exact absurd hj (by omega)
set_option maxRecDepth 100000 in
theorem ks_e8 : ∀ j, j < stL.getD 8 0 → Cond.eq (.elem (.field (.string "ClapBank$Reader" (stK.getD 8 0)) "java/lang/String" "value" "[B") (.int (Int32.ofNat j))) (.int ((stB.getD 8 []).getD j 0)) ∈ flatC (Jvm.Cond.and given_1 narrow_1) := by
  intro j hj
  have hj : j < 5 := hj
  match j, hj with
  | 0, _ => exact (List.mem_of_getElem? (i := 225) rfl)
  | 1, _ => exact (List.mem_of_getElem? (i := 226) rfl)
  | 2, _ => exact (List.mem_of_getElem? (i := 227) rfl)
  | 3, _ => exact (List.mem_of_getElem? (i := 228) rfl)
  | 4, _ => exact (List.mem_of_getElem? (i := 229) rfl)
  | j + 5, hj => exact absurd hj (by omega)
set_option maxRecDepth 100000 in
theorem ks_e9 : ∀ j, j < stL.getD 9 0 → Cond.eq (.elem (.field (.string "ClapBank$Reader" (stK.getD 9 0)) "java/lang/String" "value" "[B") (.int (Int32.ofNat j))) (.int ((stB.getD 9 []).getD j 0)) ∈ flatC (Jvm.Cond.and given_1 narrow_1) := by
  intro j hj
  have hj : j < 4 := hj
  match j, hj with
  | 0, _ => exact (List.mem_of_getElem? (i := 242) rfl)
  | 1, _ => exact (List.mem_of_getElem? (i := 243) rfl)
  | 2, _ => exact (List.mem_of_getElem? (i := 244) rfl)
  | 3, _ => exact (List.mem_of_getElem? (i := 245) rfl)
  | j + 4, hj => exact absurd hj (by omega)
set_option maxRecDepth 100000 in
theorem ks_e10 : ∀ j, j < stL.getD 10 0 → Cond.eq (.elem (.field (.string "ClapBank$Reader" (stK.getD 10 0)) "java/lang/String" "value" "[B") (.int (Int32.ofNat j))) (.int ((stB.getD 10 []).getD j 0)) ∈ flatC (Jvm.Cond.and given_1 narrow_1) := by
  intro j hj
  have hj : j < 5 := hj
  match j, hj with
  | 0, _ => exact (List.mem_of_getElem? (i := 259) rfl)
  | 1, _ => exact (List.mem_of_getElem? (i := 260) rfl)
  | 2, _ => exact (List.mem_of_getElem? (i := 261) rfl)
  | 3, _ => exact (List.mem_of_getElem? (i := 262) rfl)
  | 4, _ => exact (List.mem_of_getElem? (i := 263) rfl)
  | j + 5, hj => exact absurd hj (by omega)
set_option maxRecDepth 100000 in
theorem ks_e11 : ∀ j, j < stL.getD 11 0 → Cond.eq (.elem (.field (.string "ClapBank$Reader" (stK.getD 11 0)) "java/lang/String" "value" "[B") (.int (Int32.ofNat j))) (.int ((stB.getD 11 []).getD j 0)) ∈ flatC (Jvm.Cond.and given_1 narrow_1) := by
  intro j hj
  have hj : j < 6 := hj
  match j, hj with
  | 0, _ => exact (List.mem_of_getElem? (i := 278) rfl)
  | 1, _ => exact (List.mem_of_getElem? (i := 279) rfl)
  | 2, _ => exact (List.mem_of_getElem? (i := 280) rfl)
  | 3, _ => exact (List.mem_of_getElem? (i := 281) rfl)
  | 4, _ => exact (List.mem_of_getElem? (i := 282) rfl)
  | 5, _ => exact (List.mem_of_getElem? (i := 283) rfl)
  | j + 6, hj => exact absurd hj (by omega)
set_option maxRecDepth 100000 in
theorem ks_e12 : ∀ j, j < stL.getD 12 0 → Cond.eq (.elem (.field (.string "ClapBank$Reader" (stK.getD 12 0)) "java/lang/String" "value" "[B") (.int (Int32.ofNat j))) (.int ((stB.getD 12 []).getD j 0)) ∈ flatC (Jvm.Cond.and given_1 narrow_1) := by
  intro j hj
  have hj : j < 5 := hj
  match j, hj with
  | 0, _ => exact (List.mem_of_getElem? (i := 299) rfl)
  | 1, _ => exact (List.mem_of_getElem? (i := 300) rfl)
  | 2, _ => exact (List.mem_of_getElem? (i := 301) rfl)
  | 3, _ => exact (List.mem_of_getElem? (i := 302) rfl)
  | 4, _ => exact (List.mem_of_getElem? (i := 303) rfl)
  | j + 5, hj => exact absurd hj (by omega)
set_option maxRecDepth 100000 in
theorem ks_e13 : ∀ j, j < stL.getD 13 0 → Cond.eq (.elem (.field (.string "ClapBank$Reader" (stK.getD 13 0)) "java/lang/String" "value" "[B") (.int (Int32.ofNat j))) (.int ((stB.getD 13 []).getD j 0)) ∈ flatC (Jvm.Cond.and given_1 narrow_1) := by
  intro j hj
  have hj : j < 5 := hj
  match j, hj with
  | 0, _ => exact (List.mem_of_getElem? (i := 320) rfl)
  | 1, _ => exact (List.mem_of_getElem? (i := 321) rfl)
  | 2, _ => exact (List.mem_of_getElem? (i := 322) rfl)
  | 3, _ => exact (List.mem_of_getElem? (i := 323) rfl)
  | 4, _ => exact (List.mem_of_getElem? (i := 324) rfl)
  | j + 5, hj => exact absurd hj (by omega)
theorem ks_e : ∀ i, i < 14 → ∀ j, j < stL.getD i 0 → Cond.eq (.elem (.field (.string "ClapBank$Reader" (stK.getD i 0)) "java/lang/String" "value" "[B") (.int (Int32.ofNat j))) (.int ((stB.getD i []).getD j 0)) ∈ flatC (Jvm.Cond.and given_1 narrow_1) := by
  intro i hi
  match i, hi with
  | 0, _ => exact ks_e0
  | 1, _ => exact ks_e1
  | 2, _ => exact ks_e2
  | 3, _ => exact ks_e3
  | 4, _ => exact ks_e4
  | 5, _ => exact ks_e5
  | 6, _ => exact ks_e6
  | 7, _ => exact ks_e7
  | 8, _ => exact ks_e8
  | 9, _ => exact ks_e9
  | 10, _ => exact ks_e10
  | 11, _ => exact ks_e11
  | 12, _ => exact ks_e12
  | 13, _ => exact ks_e13
  | i + 14, hi => exact absurd hi (by omega)
set_option maxRecDepth 100000 in
theorem ks_n0 : ∀ j, j < 14 → 0 ≠ j → (Cond.not (Cond.eq (.string "ClapBank$Reader" (stK.getD 0 0)) (.string "ClapBank$Reader" (stK.getD j 0))) ∈ flatC (Jvm.Cond.and given_1 narrow_1) ∨ Cond.not (Cond.eq (.string "ClapBank$Reader" (stK.getD j 0)) (.string "ClapBank$Reader" (stK.getD 0 0))) ∈ flatC (Jvm.Cond.and given_1 narrow_1)) := by
  intro j hj h
  match j, hj with
  | 0, _ => exact absurd rfl h
  | 1, _ => exact Or.inl (List.mem_of_getElem? (i := 140) rfl)
  | 2, _ => exact Or.inl (List.mem_of_getElem? (i := 151) rfl)
  | 3, _ => exact Or.inl (List.mem_of_getElem? (i := 161) rfl)
  | 4, _ => exact Or.inl (List.mem_of_getElem? (i := 173) rfl)
  | 5, _ => exact Or.inl (List.mem_of_getElem? (i := 187) rfl)
  | 6, _ => exact Or.inl (List.mem_of_getElem? (i := 200) rfl)
  | 7, _ => exact Or.inl (List.mem_of_getElem? (i := 214) rfl)
  | 8, _ => exact Or.inl (List.mem_of_getElem? (i := 230) rfl)
  | 9, _ => exact Or.inl (List.mem_of_getElem? (i := 246) rfl)
  | 10, _ => exact Or.inl (List.mem_of_getElem? (i := 264) rfl)
  | 11, _ => exact Or.inl (List.mem_of_getElem? (i := 284) rfl)
  | 12, _ => exact Or.inl (List.mem_of_getElem? (i := 304) rfl)
  | 13, _ => exact Or.inl (List.mem_of_getElem? (i := 325) rfl)
  | j + 14, hj => exact absurd hj (by omega)
set_option maxRecDepth 100000 in
theorem ks_n1 : ∀ j, j < 14 → 1 ≠ j → (Cond.not (Cond.eq (.string "ClapBank$Reader" (stK.getD 1 0)) (.string "ClapBank$Reader" (stK.getD j 0))) ∈ flatC (Jvm.Cond.and given_1 narrow_1) ∨ Cond.not (Cond.eq (.string "ClapBank$Reader" (stK.getD j 0)) (.string "ClapBank$Reader" (stK.getD 1 0))) ∈ flatC (Jvm.Cond.and given_1 narrow_1)) := by
  intro j hj h
  match j, hj with
  | 0, _ => exact Or.inr (List.mem_of_getElem? (i := 140) rfl)
  | 1, _ => exact absurd rfl h
  | 2, _ => exact Or.inl (List.mem_of_getElem? (i := 152) rfl)
  | 3, _ => exact Or.inl (List.mem_of_getElem? (i := 162) rfl)
  | 4, _ => exact Or.inl (List.mem_of_getElem? (i := 174) rfl)
  | 5, _ => exact Or.inl (List.mem_of_getElem? (i := 188) rfl)
  | 6, _ => exact Or.inl (List.mem_of_getElem? (i := 201) rfl)
  | 7, _ => exact Or.inl (List.mem_of_getElem? (i := 215) rfl)
  | 8, _ => exact Or.inl (List.mem_of_getElem? (i := 231) rfl)
  | 9, _ => exact Or.inl (List.mem_of_getElem? (i := 247) rfl)
  | 10, _ => exact Or.inl (List.mem_of_getElem? (i := 265) rfl)
  | 11, _ => exact Or.inl (List.mem_of_getElem? (i := 285) rfl)
  | 12, _ => exact Or.inl (List.mem_of_getElem? (i := 305) rfl)
  | 13, _ => exact Or.inl (List.mem_of_getElem? (i := 326) rfl)
  | j + 14, hj => exact absurd hj (by omega)
set_option maxRecDepth 100000 in
theorem ks_n2 : ∀ j, j < 14 → 2 ≠ j → (Cond.not (Cond.eq (.string "ClapBank$Reader" (stK.getD 2 0)) (.string "ClapBank$Reader" (stK.getD j 0))) ∈ flatC (Jvm.Cond.and given_1 narrow_1) ∨ Cond.not (Cond.eq (.string "ClapBank$Reader" (stK.getD j 0)) (.string "ClapBank$Reader" (stK.getD 2 0))) ∈ flatC (Jvm.Cond.and given_1 narrow_1)) := by
  intro j hj h
  match j, hj with
  | 0, _ => exact Or.inr (List.mem_of_getElem? (i := 151) rfl)
  | 1, _ => exact Or.inr (List.mem_of_getElem? (i := 152) rfl)
  | 2, _ => exact absurd rfl h
  | 3, _ => exact Or.inl (List.mem_of_getElem? (i := 163) rfl)
  | 4, _ => exact Or.inl (List.mem_of_getElem? (i := 175) rfl)
  | 5, _ => exact Or.inl (List.mem_of_getElem? (i := 189) rfl)
  | 6, _ => exact Or.inl (List.mem_of_getElem? (i := 202) rfl)
  | 7, _ => exact Or.inl (List.mem_of_getElem? (i := 216) rfl)
  | 8, _ => exact Or.inl (List.mem_of_getElem? (i := 232) rfl)
  | 9, _ => exact Or.inl (List.mem_of_getElem? (i := 248) rfl)
  | 10, _ => exact Or.inl (List.mem_of_getElem? (i := 266) rfl)
  | 11, _ => exact Or.inl (List.mem_of_getElem? (i := 286) rfl)
  | 12, _ => exact Or.inl (List.mem_of_getElem? (i := 306) rfl)
  | 13, _ => exact Or.inl (List.mem_of_getElem? (i := 327) rfl)
  | j + 14, hj => exact absurd hj (by omega)
set_option maxRecDepth 100000 in
theorem ks_n3 : ∀ j, j < 14 → 3 ≠ j → (Cond.not (Cond.eq (.string "ClapBank$Reader" (stK.getD 3 0)) (.string "ClapBank$Reader" (stK.getD j 0))) ∈ flatC (Jvm.Cond.and given_1 narrow_1) ∨ Cond.not (Cond.eq (.string "ClapBank$Reader" (stK.getD j 0)) (.string "ClapBank$Reader" (stK.getD 3 0))) ∈ flatC (Jvm.Cond.and given_1 narrow_1)) := by
  intro j hj h
  match j, hj with
  | 0, _ => exact Or.inr (List.mem_of_getElem? (i := 161) rfl)
  | 1, _ => exact Or.inr (List.mem_of_getElem? (i := 162) rfl)
  | 2, _ => exact Or.inr (List.mem_of_getElem? (i := 163) rfl)
  | 3, _ => exact absurd rfl h
  | 4, _ => exact Or.inl (List.mem_of_getElem? (i := 176) rfl)
  | 5, _ => exact Or.inl (List.mem_of_getElem? (i := 190) rfl)
  | 6, _ => exact Or.inl (List.mem_of_getElem? (i := 203) rfl)
  | 7, _ => exact Or.inl (List.mem_of_getElem? (i := 217) rfl)
  | 8, _ => exact Or.inl (List.mem_of_getElem? (i := 233) rfl)
  | 9, _ => exact Or.inl (List.mem_of_getElem? (i := 249) rfl)
  | 10, _ => exact Or.inl (List.mem_of_getElem? (i := 267) rfl)
  | 11, _ => exact Or.inl (List.mem_of_getElem? (i := 287) rfl)
  | 12, _ => exact Or.inl (List.mem_of_getElem? (i := 307) rfl)
  | 13, _ => exact Or.inl (List.mem_of_getElem? (i := 328) rfl)
  | j + 14, hj => exact absurd hj (by omega)
set_option maxRecDepth 100000 in
theorem ks_n4 : ∀ j, j < 14 → 4 ≠ j → (Cond.not (Cond.eq (.string "ClapBank$Reader" (stK.getD 4 0)) (.string "ClapBank$Reader" (stK.getD j 0))) ∈ flatC (Jvm.Cond.and given_1 narrow_1) ∨ Cond.not (Cond.eq (.string "ClapBank$Reader" (stK.getD j 0)) (.string "ClapBank$Reader" (stK.getD 4 0))) ∈ flatC (Jvm.Cond.and given_1 narrow_1)) := by
  intro j hj h
  match j, hj with
  | 0, _ => exact Or.inr (List.mem_of_getElem? (i := 173) rfl)
  | 1, _ => exact Or.inr (List.mem_of_getElem? (i := 174) rfl)
  | 2, _ => exact Or.inr (List.mem_of_getElem? (i := 175) rfl)
  | 3, _ => exact Or.inr (List.mem_of_getElem? (i := 176) rfl)
  | 4, _ => exact absurd rfl h
  | 5, _ => exact Or.inl (List.mem_of_getElem? (i := 191) rfl)
  | 6, _ => exact Or.inl (List.mem_of_getElem? (i := 204) rfl)
  | 7, _ => exact Or.inl (List.mem_of_getElem? (i := 218) rfl)
  | 8, _ => exact Or.inl (List.mem_of_getElem? (i := 234) rfl)
  | 9, _ => exact Or.inl (List.mem_of_getElem? (i := 250) rfl)
  | 10, _ => exact Or.inl (List.mem_of_getElem? (i := 268) rfl)
  | 11, _ => exact Or.inl (List.mem_of_getElem? (i := 288) rfl)
  | 12, _ => exact Or.inl (List.mem_of_getElem? (i := 308) rfl)
  | 13, _ => exact Or.inl (List.mem_of_getElem? (i := 329) rfl)
  | j + 14, hj => exact absurd hj (by omega)
set_option maxRecDepth 100000 in
theorem ks_n5 : ∀ j, j < 14 → 5 ≠ j → (Cond.not (Cond.eq (.string "ClapBank$Reader" (stK.getD 5 0)) (.string "ClapBank$Reader" (stK.getD j 0))) ∈ flatC (Jvm.Cond.and given_1 narrow_1) ∨ Cond.not (Cond.eq (.string "ClapBank$Reader" (stK.getD j 0)) (.string "ClapBank$Reader" (stK.getD 5 0))) ∈ flatC (Jvm.Cond.and given_1 narrow_1)) := by
  intro j hj h
  match j, hj with
  | 0, _ => exact Or.inr (List.mem_of_getElem? (i := 187) rfl)
  | 1, _ => exact Or.inr (List.mem_of_getElem? (i := 188) rfl)
  | 2, _ => exact Or.inr (List.mem_of_getElem? (i := 189) rfl)
  | 3, _ => exact Or.inr (List.mem_of_getElem? (i := 190) rfl)
  | 4, _ => exact Or.inr (List.mem_of_getElem? (i := 191) rfl)
  | 5, _ => exact absurd rfl h
  | 6, _ => exact Or.inl (List.mem_of_getElem? (i := 205) rfl)
  | 7, _ => exact Or.inl (List.mem_of_getElem? (i := 219) rfl)
  | 8, _ => exact Or.inl (List.mem_of_getElem? (i := 235) rfl)
  | 9, _ => exact Or.inl (List.mem_of_getElem? (i := 251) rfl)
  | 10, _ => exact Or.inl (List.mem_of_getElem? (i := 269) rfl)
  | 11, _ => exact Or.inl (List.mem_of_getElem? (i := 289) rfl)
  | 12, _ => exact Or.inl (List.mem_of_getElem? (i := 309) rfl)
  | 13, _ => exact Or.inl (List.mem_of_getElem? (i := 330) rfl)
  | j + 14, hj => exact absurd hj (by omega)
set_option maxRecDepth 100000 in
theorem ks_n6 : ∀ j, j < 14 → 6 ≠ j → (Cond.not (Cond.eq (.string "ClapBank$Reader" (stK.getD 6 0)) (.string "ClapBank$Reader" (stK.getD j 0))) ∈ flatC (Jvm.Cond.and given_1 narrow_1) ∨ Cond.not (Cond.eq (.string "ClapBank$Reader" (stK.getD j 0)) (.string "ClapBank$Reader" (stK.getD 6 0))) ∈ flatC (Jvm.Cond.and given_1 narrow_1)) := by
  intro j hj h
  match j, hj with
  | 0, _ => exact Or.inr (List.mem_of_getElem? (i := 200) rfl)
  | 1, _ => exact Or.inr (List.mem_of_getElem? (i := 201) rfl)
  | 2, _ => exact Or.inr (List.mem_of_getElem? (i := 202) rfl)
  | 3, _ => exact Or.inr (List.mem_of_getElem? (i := 203) rfl)
  | 4, _ => exact Or.inr (List.mem_of_getElem? (i := 204) rfl)
  | 5, _ => exact Or.inr (List.mem_of_getElem? (i := 205) rfl)
  | 6, _ => exact absurd rfl h
  | 7, _ => exact Or.inl (List.mem_of_getElem? (i := 220) rfl)
  | 8, _ => exact Or.inl (List.mem_of_getElem? (i := 236) rfl)
  | 9, _ => exact Or.inl (List.mem_of_getElem? (i := 252) rfl)
  | 10, _ => exact Or.inl (List.mem_of_getElem? (i := 270) rfl)
  | 11, _ => exact Or.inl (List.mem_of_getElem? (i := 290) rfl)
  | 12, _ => exact Or.inl (List.mem_of_getElem? (i := 310) rfl)
  | 13, _ => exact Or.inl (List.mem_of_getElem? (i := 331) rfl)
  | j + 14, hj => exact absurd hj (by omega)
set_option maxRecDepth 100000 in
theorem ks_n7 : ∀ j, j < 14 → 7 ≠ j → (Cond.not (Cond.eq (.string "ClapBank$Reader" (stK.getD 7 0)) (.string "ClapBank$Reader" (stK.getD j 0))) ∈ flatC (Jvm.Cond.and given_1 narrow_1) ∨ Cond.not (Cond.eq (.string "ClapBank$Reader" (stK.getD j 0)) (.string "ClapBank$Reader" (stK.getD 7 0))) ∈ flatC (Jvm.Cond.and given_1 narrow_1)) := by
  intro j hj h
  match j, hj with
  | 0, _ => exact Or.inr (List.mem_of_getElem? (i := 214) rfl)
  | 1, _ => exact Or.inr (List.mem_of_getElem? (i := 215) rfl)
  | 2, _ => exact Or.inr (List.mem_of_getElem? (i := 216) rfl)
  | 3, _ => exact Or.inr (List.mem_of_getElem? (i := 217) rfl)
  | 4, _ => exact Or.inr (List.mem_of_getElem? (i := 218) rfl)
  | 5, _ => exact Or.inr (List.mem_of_getElem? (i := 219) rfl)
  | 6, _ => exact Or.inr (List.mem_of_getElem? (i := 220) rfl)
  | 7, _ => exact absurd rfl h
  | 8, _ => exact Or.inl (List.mem_of_getElem? (i := 237) rfl)
  | 9, _ => exact Or.inl (List.mem_of_getElem? (i := 253) rfl)
  | 10, _ => exact Or.inl (List.mem_of_getElem? (i := 271) rfl)
  | 11, _ => exact Or.inl (List.mem_of_getElem? (i := 291) rfl)
  | 12, _ => exact Or.inl (List.mem_of_getElem? (i := 311) rfl)
  | 13, _ => exact Or.inl (List.mem_of_getElem? (i := 332) rfl)
  | j + 14, hj => exact absurd hj (by omega)
set_option maxRecDepth 100000 in
theorem ks_n8 : ∀ j, j < 14 → 8 ≠ j → (Cond.not (Cond.eq (.string "ClapBank$Reader" (stK.getD 8 0)) (.string "ClapBank$Reader" (stK.getD j 0))) ∈ flatC (Jvm.Cond.and given_1 narrow_1) ∨ Cond.not (Cond.eq (.string "ClapBank$Reader" (stK.getD j 0)) (.string "ClapBank$Reader" (stK.getD 8 0))) ∈ flatC (Jvm.Cond.and given_1 narrow_1)) := by
  intro j hj h
  match j, hj with
  | 0, _ => exact Or.inr (List.mem_of_getElem? (i := 230) rfl)
  | 1, _ => exact Or.inr (List.mem_of_getElem? (i := 231) rfl)
  | 2, _ => exact Or.inr (List.mem_of_getElem? (i := 232) rfl)
  | 3, _ => exact Or.inr (List.mem_of_getElem? (i := 233) rfl)
  | 4, _ => exact Or.inr (List.mem_of_getElem? (i := 234) rfl)
  | 5, _ => exact Or.inr (List.mem_of_getElem? (i := 235) rfl)
  | 6, _ => exact Or.inr (List.mem_of_getElem? (i := 236) rfl)
  | 7, _ => exact Or.inr (List.mem_of_getElem? (i := 237) rfl)
  | 8, _ => exact absurd rfl h
  | 9, _ => exact Or.inl (List.mem_of_getElem? (i := 254) rfl)
  | 10, _ => exact Or.inl (List.mem_of_getElem? (i := 272) rfl)
  | 11, _ => exact Or.inl (List.mem_of_getElem? (i := 292) rfl)
  | 12, _ => exact Or.inl (List.mem_of_getElem? (i := 312) rfl)
  | 13, _ => exact Or.inl (List.mem_of_getElem? (i := 333) rfl)
  | j + 14, hj => exact absurd hj (by omega)
set_option maxRecDepth 100000 in
theorem ks_n9 : ∀ j, j < 14 → 9 ≠ j → (Cond.not (Cond.eq (.string "ClapBank$Reader" (stK.getD 9 0)) (.string "ClapBank$Reader" (stK.getD j 0))) ∈ flatC (Jvm.Cond.and given_1 narrow_1) ∨ Cond.not (Cond.eq (.string "ClapBank$Reader" (stK.getD j 0)) (.string "ClapBank$Reader" (stK.getD 9 0))) ∈ flatC (Jvm.Cond.and given_1 narrow_1)) := by
  intro j hj h
  match j, hj with
  | 0, _ => exact Or.inr (List.mem_of_getElem? (i := 246) rfl)
  | 1, _ => exact Or.inr (List.mem_of_getElem? (i := 247) rfl)
  | 2, _ => exact Or.inr (List.mem_of_getElem? (i := 248) rfl)
  | 3, _ => exact Or.inr (List.mem_of_getElem? (i := 249) rfl)
  | 4, _ => exact Or.inr (List.mem_of_getElem? (i := 250) rfl)
  | 5, _ => exact Or.inr (List.mem_of_getElem? (i := 251) rfl)
  | 6, _ => exact Or.inr (List.mem_of_getElem? (i := 252) rfl)
  | 7, _ => exact Or.inr (List.mem_of_getElem? (i := 253) rfl)
  | 8, _ => exact Or.inr (List.mem_of_getElem? (i := 254) rfl)
  | 9, _ => exact absurd rfl h
  | 10, _ => exact Or.inl (List.mem_of_getElem? (i := 273) rfl)
  | 11, _ => exact Or.inl (List.mem_of_getElem? (i := 293) rfl)
  | 12, _ => exact Or.inl (List.mem_of_getElem? (i := 313) rfl)
  | 13, _ => exact Or.inl (List.mem_of_getElem? (i := 334) rfl)
  | j + 14, hj => exact absurd hj (by omega)
set_option maxRecDepth 100000 in
theorem ks_n10 : ∀ j, j < 14 → 10 ≠ j → (Cond.not (Cond.eq (.string "ClapBank$Reader" (stK.getD 10 0)) (.string "ClapBank$Reader" (stK.getD j 0))) ∈ flatC (Jvm.Cond.and given_1 narrow_1) ∨ Cond.not (Cond.eq (.string "ClapBank$Reader" (stK.getD j 0)) (.string "ClapBank$Reader" (stK.getD 10 0))) ∈ flatC (Jvm.Cond.and given_1 narrow_1)) := by
  intro j hj h
  match j, hj with
  | 0, _ => exact Or.inr (List.mem_of_getElem? (i := 264) rfl)
  | 1, _ => exact Or.inr (List.mem_of_getElem? (i := 265) rfl)
  | 2, _ => exact Or.inr (List.mem_of_getElem? (i := 266) rfl)
  | 3, _ => exact Or.inr (List.mem_of_getElem? (i := 267) rfl)
  | 4, _ => exact Or.inr (List.mem_of_getElem? (i := 268) rfl)
  | 5, _ => exact Or.inr (List.mem_of_getElem? (i := 269) rfl)
  | 6, _ => exact Or.inr (List.mem_of_getElem? (i := 270) rfl)
  | 7, _ => exact Or.inr (List.mem_of_getElem? (i := 271) rfl)
  | 8, _ => exact Or.inr (List.mem_of_getElem? (i := 272) rfl)
  | 9, _ => exact Or.inr (List.mem_of_getElem? (i := 273) rfl)
  | 10, _ => exact absurd rfl h
  | 11, _ => exact Or.inl (List.mem_of_getElem? (i := 294) rfl)
  | 12, _ => exact Or.inl (List.mem_of_getElem? (i := 314) rfl)
  | 13, _ => exact Or.inl (List.mem_of_getElem? (i := 335) rfl)
  | j + 14, hj => exact absurd hj (by omega)
set_option maxRecDepth 100000 in
theorem ks_n11 : ∀ j, j < 14 → 11 ≠ j → (Cond.not (Cond.eq (.string "ClapBank$Reader" (stK.getD 11 0)) (.string "ClapBank$Reader" (stK.getD j 0))) ∈ flatC (Jvm.Cond.and given_1 narrow_1) ∨ Cond.not (Cond.eq (.string "ClapBank$Reader" (stK.getD j 0)) (.string "ClapBank$Reader" (stK.getD 11 0))) ∈ flatC (Jvm.Cond.and given_1 narrow_1)) := by
  intro j hj h
  match j, hj with
  | 0, _ => exact Or.inr (List.mem_of_getElem? (i := 284) rfl)
  | 1, _ => exact Or.inr (List.mem_of_getElem? (i := 285) rfl)
  | 2, _ => exact Or.inr (List.mem_of_getElem? (i := 286) rfl)
  | 3, _ => exact Or.inr (List.mem_of_getElem? (i := 287) rfl)
  | 4, _ => exact Or.inr (List.mem_of_getElem? (i := 288) rfl)
  | 5, _ => exact Or.inr (List.mem_of_getElem? (i := 289) rfl)
  | 6, _ => exact Or.inr (List.mem_of_getElem? (i := 290) rfl)
  | 7, _ => exact Or.inr (List.mem_of_getElem? (i := 291) rfl)
  | 8, _ => exact Or.inr (List.mem_of_getElem? (i := 292) rfl)
  | 9, _ => exact Or.inr (List.mem_of_getElem? (i := 293) rfl)
  | 10, _ => exact Or.inr (List.mem_of_getElem? (i := 294) rfl)
  | 11, _ => exact absurd rfl h
  | 12, _ => exact Or.inl (List.mem_of_getElem? (i := 315) rfl)
  | 13, _ => exact Or.inl (List.mem_of_getElem? (i := 336) rfl)
  | j + 14, hj => exact absurd hj (by omega)
set_option maxRecDepth 100000 in
theorem ks_n12 : ∀ j, j < 14 → 12 ≠ j → (Cond.not (Cond.eq (.string "ClapBank$Reader" (stK.getD 12 0)) (.string "ClapBank$Reader" (stK.getD j 0))) ∈ flatC (Jvm.Cond.and given_1 narrow_1) ∨ Cond.not (Cond.eq (.string "ClapBank$Reader" (stK.getD j 0)) (.string "ClapBank$Reader" (stK.getD 12 0))) ∈ flatC (Jvm.Cond.and given_1 narrow_1)) := by
  intro j hj h
  match j, hj with
  | 0, _ => exact Or.inr (List.mem_of_getElem? (i := 304) rfl)
  | 1, _ => exact Or.inr (List.mem_of_getElem? (i := 305) rfl)
  | 2, _ => exact Or.inr (List.mem_of_getElem? (i := 306) rfl)
  | 3, _ => exact Or.inr (List.mem_of_getElem? (i := 307) rfl)
  | 4, _ => exact Or.inr (List.mem_of_getElem? (i := 308) rfl)
  | 5, _ => exact Or.inr (List.mem_of_getElem? (i := 309) rfl)
  | 6, _ => exact Or.inr (List.mem_of_getElem? (i := 310) rfl)
  | 7, _ => exact Or.inr (List.mem_of_getElem? (i := 311) rfl)
  | 8, _ => exact Or.inr (List.mem_of_getElem? (i := 312) rfl)
  | 9, _ => exact Or.inr (List.mem_of_getElem? (i := 313) rfl)
  | 10, _ => exact Or.inr (List.mem_of_getElem? (i := 314) rfl)
  | 11, _ => exact Or.inr (List.mem_of_getElem? (i := 315) rfl)
  | 12, _ => exact absurd rfl h
  | 13, _ => exact Or.inl (List.mem_of_getElem? (i := 337) rfl)
  | j + 14, hj => exact absurd hj (by omega)
set_option maxRecDepth 100000 in
theorem ks_n13 : ∀ j, j < 14 → 13 ≠ j → (Cond.not (Cond.eq (.string "ClapBank$Reader" (stK.getD 13 0)) (.string "ClapBank$Reader" (stK.getD j 0))) ∈ flatC (Jvm.Cond.and given_1 narrow_1) ∨ Cond.not (Cond.eq (.string "ClapBank$Reader" (stK.getD j 0)) (.string "ClapBank$Reader" (stK.getD 13 0))) ∈ flatC (Jvm.Cond.and given_1 narrow_1)) := by
  intro j hj h
  match j, hj with
  | 0, _ => exact Or.inr (List.mem_of_getElem? (i := 325) rfl)
  | 1, _ => exact Or.inr (List.mem_of_getElem? (i := 326) rfl)
  | 2, _ => exact Or.inr (List.mem_of_getElem? (i := 327) rfl)
  | 3, _ => exact Or.inr (List.mem_of_getElem? (i := 328) rfl)
  | 4, _ => exact Or.inr (List.mem_of_getElem? (i := 329) rfl)
  | 5, _ => exact Or.inr (List.mem_of_getElem? (i := 330) rfl)
  | 6, _ => exact Or.inr (List.mem_of_getElem? (i := 331) rfl)
  | 7, _ => exact Or.inr (List.mem_of_getElem? (i := 332) rfl)
  | 8, _ => exact Or.inr (List.mem_of_getElem? (i := 333) rfl)
  | 9, _ => exact Or.inr (List.mem_of_getElem? (i := 334) rfl)
  | 10, _ => exact Or.inr (List.mem_of_getElem? (i := 335) rfl)
  | 11, _ => exact Or.inr (List.mem_of_getElem? (i := 336) rfl)
  | 12, _ => exact Or.inr (List.mem_of_getElem? (i := 337) rfl)
  | 13, _ => exact absurd rfl h
  | j + 14, hj => exact absurd hj (by omega)
theorem ks_n : ∀ i, i < 14 → ∀ j, j < 14 → i ≠ j → (Cond.not (Cond.eq (.string "ClapBank$Reader" (stK.getD i 0)) (.string "ClapBank$Reader" (stK.getD j 0))) ∈ flatC (Jvm.Cond.and given_1 narrow_1) ∨ Cond.not (Cond.eq (.string "ClapBank$Reader" (stK.getD j 0)) (.string "ClapBank$Reader" (stK.getD i 0))) ∈ flatC (Jvm.Cond.and given_1 narrow_1)) := by
  intro i hi
  match i, hi with
  | 0, _ => exact ks_n0
  | 1, _ => exact ks_n1
  | 2, _ => exact ks_n2
  | 3, _ => exact ks_n3
  | 4, _ => exact ks_n4
  | 5, _ => exact ks_n5
  | 6, _ => exact ks_n6
  | 7, _ => exact ks_n7
  | 8, _ => exact ks_n8
  | 9, _ => exact ks_n9
  | 10, _ => exact ks_n10
  | 11, _ => exact ks_n11
  | 12, _ => exact ks_n12
  | 13, _ => exact ks_n13
  | i + 14, hi => exact absurd hi (by omega)
set_option maxRecDepth 100000 in
theorem ke_cs : Cond.eq (.static "java/lang/String" "COMPACT_STRINGS" "Z") (.int 1) ∈ flatC (Jvm.Cond.and given_1 narrow_1) := (List.mem_of_getElem? (i := 11) rfl)
set_option maxRecDepth 100000 in
theorem ke_sf : Cond.isRef (.static "jdk/internal/util/Preconditions" "SIOOBE_FORMATTER" "Ljava/util/function/BiFunction;") ∈ flatC (Jvm.Cond.and given_1 narrow_1) := (List.mem_of_getElem? (i := 12) rfl)
set_option maxHeartbeats 4000000 in
set_option maxRecDepth 100000 in
theorem known_E {args : Array Value} {s : State} (hts : ∀ w ∈ lw_tbl, w.before args s = true) (hgv : (Jvm.Cond.and given_1 narrow_1).before args s = true) {A : Nat → Prop} (hA : ∀ a : Nat, a < s.heap.size → ¬ A a) : ∃ tz adK adV : Nat → Nat, EE tz adK adV A s s.heap := by
  have hs := flat_of_before _ hgv
  obtain ⟨t0, ht0, hT0⟩ := va_Tof (tm := .static "ClapBank$Reader" "FIRST_LINE" "[I") (ty := .int) (N := 4) (f := fun j => .int (fl_.getD j 0)) (A := A) (by decide) (hs _ ke_fl_a) (va_eqt (hs _ ke_fl_l)) (fun j hj => va_eqt (hs _ (ke_fl_e j hj))) hA
  obtain ⟨t1, ht1, hT1⟩ := va_Tof (tm := .static "ClapBank$Reader" "NUMBERS" "[I") (ty := .int) (N := 14) (f := fun j => .int (nu_.getD j 0)) (A := A) (by decide) (hs _ ke_nu_a) (va_eqt (hs _ ke_nu_l)) (fun j hj => va_eqt (hs _ (ke_nu_e j hj))) hA
  obtain ⟨t2, ht2, hT2⟩ := va_Tof (tm := .static "ClapBank$Reader" "LEAST" "[I") (ty := .int) (N := 42) (f := fun j => .int (le_.getD j 0)) (A := A) (by decide) (hs _ ke_le_a) (va_eqt (hs _ ke_le_l)) (fun j hj => va_eqt (hs _ (ke_le_e j hj))) hA
  obtain ⟨t3, ht3, hT3⟩ := va_Tof (tm := .static "ClapBank$Reader" "HIGHEST" "[I") (ty := .int) (N := 42) (f := fun j => .int (hi_.getD j 0)) (A := A) (by decide) (hs _ ke_hi_a) (va_eqt (hs _ ke_hi_l)) (fun j hj => va_eqt (hs _ (ke_hi_e j hj))) hA
  obtain ⟨adK, adV, hS, hev⟩ := vk_Sof (N := 14) (tm := fun i => .string "ClapBank$Reader" (stK.getD i 0)) (len := stL) (byt := stB) (A := A) (fun i _ => Nat.lt_of_le_of_lt (st_len i) (by decide)) (fun i hi => hs _ (ks_x i hi)) (fun i hi => hs _ (ks_c i hi)) (fun i hi => hs _ (ks_r i hi)) (fun i hi => hs _ (ks_l i hi)) (fun i hi j hj => hs _ (ks_e i hi j hj)) (fun i j hi hj hij => (ks_n i hi j hj hij).imp (fun q => hs _ q) (fun q => hs _ q)) hA
  refine ⟨fun k => [t0, t1, t2, t3].getD k 0, adK, adV, ⟨va_Zref (hts (.laysStatic "ClapBank$Reader" "FIRST_LINE" "[I") (tb_2 (List.mem_of_getElem? (i := 206) rfl))) (hts (.initialized RX5) (tb_1 (List.mem_of_getElem? (i := 6) rfl))) ht0 hA, hT0⟩, ⟨va_Zref (hts (.laysStatic "ClapBank$Reader" "NUMBERS" "[I") (tb_3 (List.mem_of_getElem? (i := 52) rfl))) (hts (.initialized RX5) (tb_1 (List.mem_of_getElem? (i := 6) rfl))) ht1 hA, hT1⟩, ⟨va_Zref (hts (.laysStatic "ClapBank$Reader" "LEAST" "[I") (tb_3 (List.mem_of_getElem? (i := 58) rfl))) (hts (.initialized RX5) (tb_1 (List.mem_of_getElem? (i := 6) rfl))) ht2 hA, hT2⟩, ⟨va_Zref (hts (.laysStatic "ClapBank$Reader" "HIGHEST" "[I") (tb_3 (List.mem_of_getElem? (i := 60) rfl))) (hts (.initialized RX5) (tb_1 (List.mem_of_getElem? (i := 6) rfl))) ht3 hA, hT3⟩, va_Zof (hts (.laysStatic "java/lang/String" "COMPACT_STRINGS" "Z") (tb_2 (List.mem_of_getElem? (i := 237) rfl))) (hts (.initialized "java/lang/String") (tb_1 (List.mem_of_getElem? (i := 13) rfl))) (va_eqi (hs _ ke_cs)) hA, va_Zqof (hts (.laysStatic "jdk/internal/util/Preconditions" "SIOOBE_FORMATTER" "Ljava/util/function/BiFunction;") (tb_3 (List.mem_of_getElem? (i := 13) rfl))) (hts (.initialized "jdk/internal/util/Preconditions") (tb_1 (List.mem_of_getElem? (i := 15) rfl))) (hs _ ke_sf) hA, hS, ?_⟩
  intro i hi
  match i, hi with
  | 0, hi => exact vk_R.of (hts (.stringRef "ClapBank$Reader" 138 "palm") (tb_2 (List.mem_of_getElem? (i := 210) rfl))) (hev 0 hi)
  | 1, hi => exact vk_R.of (hts (.stringRef "ClapBank$Reader" 140 "actor") (tb_2 (List.mem_of_getElem? (i := 211) rfl))) (hev 1 hi)
  | 2, hi => exact vk_R.of (hts (.stringRef "ClapBank$Reader" 142 "usurer") (tb_2 (List.mem_of_getElem? (i := 212) rfl))) (hev 2 hi)
  | 3, hi => exact vk_R.of (hts (.stringRef "ClapBank$Reader" 144 "rate") (tb_2 (List.mem_of_getElem? (i := 213) rfl))) (hev 3 hi)
  | 4, hi => exact vk_R.of (hts (.stringRef "ClapBank$Reader" 146 "chest") (tb_2 (List.mem_of_getElem? (i := 214) rfl))) (hev 4 hi)
  | 5, hi => exact vk_R.of (hts (.stringRef "ClapBank$Reader" 148 "borrow") (tb_2 (List.mem_of_getElem? (i := 215) rfl))) (hev 5 hi)
  | 6, hi => exact vk_R.of (hts (.stringRef "ClapBank$Reader" 150 "clap") (tb_2 (List.mem_of_getElem? (i := 216) rfl))) (hev 6 hi)
  | 7, hi => exact vk_R.of (hts (.stringRef "ClapBank$Reader" 152 "lend") (tb_2 (List.mem_of_getElem? (i := 217) rfl))) (hev 7 hi)
  | 8, hi => exact vk_R.of (hts (.stringRef "ClapBank$Reader" 154 "repay") (tb_2 (List.mem_of_getElem? (i := 218) rfl))) (hev 8 hi)
  | 9, hi => exact vk_R.of (hts (.stringRef "ClapBank$Reader" 156 "hush") (tb_2 (List.mem_of_getElem? (i := 219) rfl))) (hev 9 hi)
  | 10, hi => exact vk_R.of (hts (.stringRef "ClapBank$Reader" 158 "storm") (tb_2 (List.mem_of_getElem? (i := 220) rfl))) (hev 10 hi)
  | 11, hi => exact vk_R.of (hts (.stringRef "ClapBank$Reader" 160 "encore") (tb_2 (List.mem_of_getElem? (i := 221) rfl))) (hev 11 hi)
  | 12, hi => exact vk_R.of (hts (.stringRef "ClapBank$Reader" 162 "night") (tb_2 (List.mem_of_getElem? (i := 222) rfl))) (hev 12 hi)
  | 13, hi => exact vk_R.of (hts (.stringRef "ClapBank$Reader" 164 "heard") (tb_2 (List.mem_of_getElem? (i := 223) rfl))) (hev 13 hi)
  | i + 14, hi => exact absurd hi (by omega)
/-! THE CLAIM OUT OF ONE WALK OF THE LAW'S BODY. Your part is whole_start (and what it stands on); all else here is the same for every law, but numbers. -/
def R_law : String := "ClapBankLaw"
def lw_P (b : Addr) (xs : List Int32) (args : Array Value) (s : State) : Prop := args = #[.ref b] ∧ s.IntsAt b xs ∧ xs.length ≤ 3072 ∧ (Jvm.Cond.and given_1 narrow_1).before args s = true
def lw_Q (_ : Array Value) (s : State) (o : Outcome) (t : State) : Prop := o = .returned (some (.int 1)) ∧ Framed s o t [] 600000 7302250
def lw_Z (below : List Frame) (a : Array Value) (s : State) : State → Prop := fun t => ∃ o, t.status = .running ∧ Ended t below o ∧ lw_Q a s o t
/-- the law's own end, with 1 on the stack, nothing written that was there before, its room as the claim has it -/
theorem lw_ret {p : Program} {l : Launch} {e : Env} {s : State} {m : MethodId} {below : List Frame} {meth : Method} {c : Code} {b : Nat} (hx : p.tables.exec = Jvm.exec) (hb : c.code = code) (hr : meth.sig.returnType = ret) (hlocks : meth.locks = false) {pc : Nat} {H : Heap} {ls : Array Slot} (hdg : decode code pc = .ok (.ireturn, 1)) : W p l e room_1 s m #[Value.ref b] below meth c H [] 600000 7302250 (lw_Z below #[Value.ref b] s) (F0 m pc ls [.int 1]) := by
  intro T hT X
  obtain ⟨fs, hret, hrun, hended, hW, hframe⟩ := X.leave (v := some (.int 1)) (hlocks := hlocks) (fun h => by rw [hr] at h; cases h)
  have hmeth' : T.vm.method? m = some meth := X.method'
  refine ⟨T.setFrames fs, ?_, .returned (some (.int 1)), hrun, hended, rfl, ⟨_, rfl⟩, hW, hframe⟩
  jvm_step X.here [X.here.top, hx, hb, hdg, hmeth', hr, ret, narrow_b1]
  (try refine ⟨rfl, ?_⟩); (try refine ⟨rfl, ?_⟩)
  first | (intro acts; rw [hret _ acts rfl rfl rfl]) | rw [hret _ _ rfl rfl rfl]
  exact Steps.refl _
/-- what holds at the law's entry: the machine, the code, the tables' words (any of lw_tbl by 'hts w (by decide +kernel)'), the script of L ints xs at the cell b, what the Statement gives of the start (any of its parts by flat_of_before) -/
def lw_At (p : Program) (s : State) (m : MethodId) (meth : Method) (c : Code) (b L : Nat) (xs : Nat → Int32) : Prop :=
  p.tables.exec = Jvm.exec ∧ c.code = code ∧ meth.sig.returnType = ret ∧ c.maxLocals = 4 ∧ s.vm.findClass R_law = some m.cls ∧ (∀ w ∈ lw_tbl, w.before #[Value.ref b] s = true) ∧ va_X b L xs s s.heap ∧ b < s.heap.size ∧ meth.locks = false ∧ (Jvm.Cond.and given_1 narrow_1).before #[Value.ref b] s = true
