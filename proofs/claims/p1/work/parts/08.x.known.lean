theorem arr_known {ty : FieldType} {args : Array Value} {s : State} (h : (Cond.arrayClass ty).before args s = true) (hp : ∀ C : String, ty ≠ .object C) : ∃ cA : ClassId, ArrOfT s cA ty ∧ va_RA s cA ty := by
  obtain ⟨c, k, comp, h1, h2, h3⟩ := Cond.arrayClass_spec h
  refine ⟨c, fun n z => ⟨fun k h => (by cases h), k, h2, comp, h3⟩, ?_⟩
  cases ty <;> first | exact h1 | exact absurd rfl (hp _)
theorem ref_known {C : String} {args : Array Value} {s : State} (h : (Cond.arrayOver (.object C)).before args s = true) : ∃ cA : ClassId, ArrOfT s cA (.object C) ∧ va_RA s cA (.object C) := by
  obtain ⟨comp, c, k, h1, -, h2, h3, h4⟩ := Cond.arrayOver_spec h
  exact ⟨c, fun n z => ⟨fun k h => (by cases h), k, h2, comp, h3⟩, k, comp, h2, h3, h1, h4⟩
set_option maxRecDepth 100000 in
theorem nzl_in : ∀ w ∈ nzl, w ∈ lw_tbl := (List.forall_mem_cons.mpr ⟨(tb_1 (List.mem_of_getElem? (i := 41) rfl)), (List.forall_mem_cons.mpr ⟨(tb_1 (List.mem_of_getElem? (i := 42) rfl)), (List.forall_mem_cons.mpr ⟨(tb_1 (List.mem_of_getElem? (i := 43) rfl)), (List.forall_mem_cons.mpr ⟨(tb_1 (List.mem_of_getElem? (i := 44) rfl)), (List.forall_mem_cons.mpr ⟨(tb_1 (List.mem_of_getElem? (i := 45) rfl)), (List.forall_mem_cons.mpr ⟨(tb_1 (List.mem_of_getElem? (i := 47) rfl)), (List.forall_mem_cons.mpr ⟨(tb_1 (List.mem_of_getElem? (i := 48) rfl)), (List.forall_mem_cons.mpr ⟨(tb_1 (List.mem_of_getElem? (i := 50) rfl)), (List.forall_mem_cons.mpr ⟨(tb_1 (List.mem_of_getElem? (i := 51) rfl)), (List.forall_mem_cons.mpr ⟨(tb_1 (List.mem_of_getElem? (i := 52) rfl)), (List.forall_mem_cons.mpr ⟨(tb_1 (List.mem_of_getElem? (i := 54) rfl)), (List.forall_mem_cons.mpr ⟨(tb_1 (List.mem_of_getElem? (i := 55) rfl)), (List.forall_mem_cons.mpr ⟨(tb_1 (List.mem_of_getElem? (i := 56) rfl)), (List.forall_mem_cons.mpr ⟨(tb_1 (List.mem_of_getElem? (i := 58) rfl)), (List.forall_mem_cons.mpr ⟨(tb_1 (List.mem_of_getElem? (i := 60) rfl)), (List.forall_mem_cons.mpr ⟨(tb_1 (List.mem_of_getElem? (i := 61) rfl)), (List.forall_mem_cons.mpr ⟨(tb_1 (List.mem_of_getElem? (i := 63) rfl)), (List.forall_mem_cons.mpr ⟨(tb_1 (List.mem_of_getElem? (i := 64) rfl)), (List.forall_mem_cons.mpr ⟨(tb_1 (List.mem_of_getElem? (i := 66) rfl)), (List.forall_mem_cons.mpr ⟨(tb_1 (List.mem_of_getElem? (i := 68) rfl)), (List.forall_mem_cons.mpr ⟨(tb_1 (List.mem_of_getElem? (i := 70) rfl)), (List.forall_mem_cons.mpr ⟨(tb_1 (List.mem_of_getElem? (i := 71) rfl)), (List.forall_mem_cons.mpr ⟨(tb_1 (List.mem_of_getElem? (i := 73) rfl)), (List.forall_mem_cons.mpr ⟨(tb_1 (List.mem_of_getElem? (i := 74) rfl)), (List.forall_mem_cons.mpr ⟨(tb_1 (List.mem_of_getElem? (i := 75) rfl)), (List.forall_mem_cons.mpr ⟨(tb_1 (List.mem_of_getElem? (i := 77) rfl)), (List.forall_mem_cons.mpr ⟨(tb_1 (List.mem_of_getElem? (i := 112) rfl)), (List.forall_mem_cons.mpr ⟨(tb_1 (List.mem_of_getElem? (i := 113) rfl)), (List.forall_mem_cons.mpr ⟨(tb_1 (List.mem_of_getElem? (i := 114) rfl)), (List.forall_mem_cons.mpr ⟨(tb_1 (List.mem_of_getElem? (i := 128) rfl)), (List.forall_mem_cons.mpr ⟨(tb_1 (List.mem_of_getElem? (i := 129) rfl)), (List.forall_mem_cons.mpr ⟨(tb_1 (List.mem_of_getElem? (i := 130) rfl)), (List.forall_mem_cons.mpr ⟨(tb_1 (List.mem_of_getElem? (i := 132) rfl)), (List.forall_mem_cons.mpr ⟨(tb_1 (List.mem_of_getElem? (i := 133) rfl)), (List.forall_mem_cons.mpr ⟨(tb_1 (List.mem_of_getElem? (i := 140) rfl)), (List.forall_mem_cons.mpr ⟨(tb_1 (List.mem_of_getElem? (i := 141) rfl)), (List.forall_mem_cons.mpr ⟨(tb_1 (List.mem_of_getElem? (i := 143) rfl)), (List.forall_mem_cons.mpr ⟨(tb_1 (List.mem_of_getElem? (i := 146) rfl)), (List.forall_mem_cons.mpr ⟨(tb_1 (List.mem_of_getElem? (i := 197) rfl)), (List.forall_mem_cons.mpr ⟨(tb_1 (List.mem_of_getElem? (i := 199) rfl)), (List.forall_mem_cons.mpr ⟨(tb_1 (List.mem_of_getElem? (i := 201) rfl)), (List.forall_mem_cons.mpr ⟨(tb_1 (List.mem_of_getElem? (i := 204) rfl)), (List.forall_mem_cons.mpr ⟨(tb_1 (List.mem_of_getElem? (i := 206) rfl)), (List.forall_mem_cons.mpr ⟨(tb_2 (List.mem_of_getElem? (i := 1) rfl)), (List.forall_mem_cons.mpr ⟨(tb_2 (List.mem_of_getElem? (i := 3) rfl)), (List.forall_mem_cons.mpr ⟨(tb_2 (List.mem_of_getElem? (i := 7) rfl)), (List.forall_mem_cons.mpr ⟨(tb_2 (List.mem_of_getElem? (i := 12) rfl)), (List.forall_mem_cons.mpr ⟨(tb_2 (List.mem_of_getElem? (i := 72) rfl)), (List.forall_mem_cons.mpr ⟨(tb_2 (List.mem_of_getElem? (i := 74) rfl)), (List.forall_mem_cons.mpr ⟨(tb_2 (List.mem_of_getElem? (i := 77) rfl)), (List.forall_mem_cons.mpr ⟨(tb_2 (List.mem_of_getElem? (i := 112) rfl)), (List.forall_mem_cons.mpr ⟨(tb_2 (List.mem_of_getElem? (i := 114) rfl)), (List.forall_mem_cons.mpr ⟨(tb_1 (List.mem_of_getElem? (i := 30) rfl)), (List.forall_mem_cons.mpr ⟨(tb_1 (List.mem_of_getElem? (i := 36) rfl)), (List.forall_mem_cons.mpr ⟨(tb_1 (List.mem_of_getElem? (i := 107) rfl)), (List.forall_mem_cons.mpr ⟨(tb_1 (List.mem_of_getElem? (i := 123) rfl)), (List.forall_mem_cons.mpr ⟨(tb_1 (List.mem_of_getElem? (i := 186) rfl)), (List.forall_mem_cons.mpr ⟨(tb_1 (List.mem_of_getElem? (i := 191) rfl)), (List.forall_mem_cons.mpr ⟨(tb_1 (List.mem_of_getElem? (i := 193) rfl)), (List.forall_mem_cons.mpr ⟨(tb_1 (List.mem_of_getElem? (i := 195) rfl)), (List.forall_mem_cons.mpr ⟨(tb_1 (List.mem_of_getElem? (i := 234) rfl)), (List.forall_mem_cons.mpr ⟨(tb_1 (List.mem_of_getElem? (i := 239) rfl)), (List.forall_mem_cons.mpr ⟨(tb_2 (List.mem_of_getElem? (i := 49) rfl)), (List.forall_mem_cons.mpr ⟨(tb_2 (List.mem_of_getElem? (i := 65) rfl)), (List.forall_mem_cons.mpr ⟨(tb_2 (List.mem_of_getElem? (i := 96) rfl)), (List.forall_mem_cons.mpr ⟨(tb_2 (List.mem_of_getElem? (i := 101) rfl)), (List.forall_mem_cons.mpr ⟨(tb_2 (List.mem_of_getElem? (i := 103) rfl)), (fun _ h => absurd h List.not_mem_nil)⟩)⟩)⟩)⟩)⟩)⟩)⟩)⟩)⟩)⟩)⟩)⟩)⟩)⟩)⟩)⟩)⟩)⟩)⟩)⟩)⟩)⟩)⟩)⟩)⟩)⟩)⟩)⟩)⟩)⟩)⟩)⟩)⟩)⟩)⟩)⟩)⟩)⟩)⟩)⟩)⟩)⟩)⟩)⟩)⟩)⟩)⟩)⟩)⟩)⟩)⟩)⟩)⟩)⟩)⟩)⟩)⟩)⟩)⟩)⟩)⟩)⟩)⟩)⟩)⟩)⟩)⟩)
set_option maxHeartbeats 4000000 in
set_option maxRecDepth 100000 in
theorem known_all {args : Array Value} {s : State} (hts : ∀ w ∈ lw_tbl, w.before args s = true) : ∃ (D : va_G) (cI cB cJ cZ cT : ClassId), KK D (tyL cI cB cJ cZ cT) s := by
  obtain ⟨c0, iS0, hKn0⟩ := u_known (C := RX0) (T := TX0) (N := 2) (n := 2) hts inX0 (hts (.instantiable RX0 2) (tb_1 (List.mem_of_getElem? (i := 106) rfl)))
  obtain ⟨c1, iS1, hKn1⟩ := u_known (C := RX1) (T := TX1) (N := 2) (n := 2) hts inX1 (hts (.instantiable RX1 2) (tb_1 (List.mem_of_getElem? (i := 122) rfl)))
  obtain ⟨c2, iS2, hKn2⟩ := u_known (C := RX2) (T := TX2) (N := 14) (n := 14) hts inX2 (hts (.instantiable RX2 14) (tb_1 (List.mem_of_getElem? (i := 233) rfl)))
  obtain ⟨c3, iS3, hKn3⟩ := u_known (C := RX3) (T := TX3) (N := 3) (n := 3) hts inX3 (hts (.instantiable RX3 3) (tb_2 (List.mem_of_getElem? (i := 48) rfl)))
  obtain ⟨c4, iS4, hKn4⟩ := u_known (C := RX4) (T := TX4) (N := 9) (n := 9) hts inX4 (hts (.instantiable RX4 9) (tb_2 (List.mem_of_getElem? (i := 95) rfl)))
  obtain ⟨c5, iS5, hKn5⟩ := u_known (C := RX5) (T := TX5) (N := 10) (n := 10) hts inX5 (hts (.instantiable RX5 10) (tb_1 (List.mem_of_getElem? (i := 185) rfl)))
  obtain ⟨c6, iS6, hKn6⟩ := u_known (C := RX6) (T := TX6) (N := 7) (n := 7) hts inX6 (hts (.instantiable RX6 7) (tb_2 (List.mem_of_getElem? (i := 64) rfl)))
  obtain ⟨c7, iS7, hKn7⟩ := u_known (C := RX7) (T := TX7) (N := 12) (n := 12) hts inX7 (hts (.instantiable RX7 12) (tb_1 (List.mem_of_getElem? (i := 35) rfl)))
  obtain ⟨c8, iS8, hKn8⟩ := u_known (C := RX8) (T := TX8) (N := 13) (n := 13) hts inX8 (hts (.instantiable RX8 13) (tb_1 (List.mem_of_getElem? (i := 29) rfl)))
  obtain ⟨c9, iS9, hKn9⟩ := u_known (C := RX9) (T := TX9) (N := 7) (n := 7) hts inX9 (hts (.instantiable RX9 7) (tb_1 (List.mem_of_getElem? (i := 21) rfl)))
  obtain ⟨c10, iS10, hKn10⟩ := u_known (C := RX10) (T := TX10) (N := 50) (n := 50) hts inX10 (hts (.instantiable RX10 50) (tb_5 (List.mem_of_getElem? (i := 21) rfl)))
  obtain ⟨cI, aI, bI⟩ := arr_known (hts (.arrayClass .int) (tb_1 (List.mem_of_getElem? (i := 104) rfl))) (fun C h => by cases h)
  obtain ⟨cB, aB, bB⟩ := arr_known (hts (.arrayClass .byte) (tb_1 (List.mem_of_getElem? (i := 103) rfl))) (fun C h => by cases h)
  obtain ⟨cJ, aJ, bJ⟩ := arr_known (hts (.arrayClass .long) (tb_5 (List.mem_of_getElem? (i := 178) rfl))) (fun C h => by cases h)
  obtain ⟨cZ, aZ, bZ⟩ := arr_known (hts (.arrayClass .boolean) (tb_5 (List.mem_of_getElem? (i := 179) rfl))) (fun C h => by cases h)
  have hao : (Cond.arrayOver (.object RX8)).before args s = true := hts _ (tb_1 (List.mem_of_getElem? (i := 183) rfl))
  obtain ⟨cT, aT, bT⟩ := ref_known hao
  refine ⟨(fun k => if k = 0 then c0 else if k = 1 then c1 else if k = 2 then c2 else if k = 3 then c3 else if k = 4 then c4 else if k = 5 then c5 else if k = 6 then c6 else if k = 7 then c7 else if k = 8 then c8 else if k = 9 then c9 else c10, fun k => if k = 0 then iS0 else if k = 1 then iS1 else if k = 2 then iS2 else if k = 3 then iS3 else if k = 4 then iS4 else if k = 5 then iS5 else if k = 6 then iS6 else if k = 7 then iS7 else if k = 8 then iS8 else if k = 9 then iS9 else iS10), cI, cB, cJ, cZ, cT, ⟨?_, ?_⟩, ?_, va_AO.of hao⟩
  · intro k q hq
    match k, hq with
    | 0, hq => cases hq; exact hKn0
    | 1, hq => cases hq; exact hKn1
    | 2, hq => cases hq; exact hKn2
    | 3, hq => cases hq; exact hKn3
    | 4, hq => cases hq; exact hKn4
    | 5, hq => cases hq; exact hKn5
    | 6, hq => cases hq; exact hKn6
    | 7, hq => cases hq; exact hKn7
    | 8, hq => cases hq; exact hKn8
    | 9, hq => cases hq; exact hKn9
    | 10, hq => cases hq; exact hKn10
    | k + 11, hq => simp [vwCl] at hq
  · intro k q hq
    match k, hq with
    | 0, hq => cases hq; exact ⟨aI, bI⟩
    | 1, hq => cases hq; exact ⟨aB, bB⟩
    | 2, hq => cases hq; exact ⟨aJ, bJ⟩
    | 3, hq => cases hq; exact ⟨aZ, bZ⟩
    | 4, hq => cases hq; exact ⟨aT, bT⟩
    | k + 5, hq => simp [tyL] at hq
  · intro w hw
    exact va_Nw.of (nz_tab (List.all_eq_true.mp nz_all w hw)) (hts w (nzl_in w hw))
/-! THE CLAIM OUT OF ONE WALK OF THE LAW'S BODY. Your part is whole_start (and what it stands on); all else here is the same for every law, but numbers. -/
def R_law : String := "ClapBankLaw"
def lw_P (b : Addr) (xs : List Int32) (args : Array Value) (s : State) : Prop := args = #[.ref b] ∧ s.IntsAt b xs ∧ xs.length ≤ 6 ∧ (Jvm.Cond.and given_1 narrow_1).before args s = true
def lw_Q (_ : Array Value) (s : State) (o : Outcome) (t : State) : Prop := o = .returned (some (.int 1)) ∧ Framed s o t [] 600000 7302250
def lw_Z (below : List Frame) (a : Array Value) (s : State) : State → Prop := fun t => ∃ o, t.status = .running ∧ Ended t below o ∧ lw_Q a s o t
/-- the law's own end, with 1 on the stack, nothing written that was there before, its room as the claim has it -/
theorem lw_ret {p : Program} {l : Launch} {e : Env} {s : State} {m : MethodId} {below : List Frame} {meth : Method} {c : Code} {b : Nat} (hx : p.tables.exec = Jvm.exec) (hb : c.code = code) (hr : meth.sig.returnType = ret) (hlocks : meth.locks = false) {pc : Nat} {H : Heap} {ls : Array Slot} (hdg : decode code pc = .ok (.ireturn, 1)) : W p l e room_1 s m #[Value.ref b] below meth c H [] 600000 7302250 (lw_Z below #[Value.ref b] s) (F0 m pc ls [.int 1]) := by
  intro T hT X
  obtain ⟨fs, hret, hrun, hended, hW, hframe⟩ := X.leave (v := some (.int 1)) (hlocks := hlocks) (fun h => by rw [hr] at h; cases h)
  have hmeth' : T.vm.method? m = some meth := X.method'
  refine ⟨T.setFrames fs, ?_, .returned (some (.int 1)), hrun, hended, rfl, ⟨_, rfl⟩, hW, hframe⟩
  jvm_step X.here [X.here.top, hx, hb, hdg, hmeth', hr, ret, narrow_b1]
  (try refine ⟨rfl, ?_⟩); (try refine ⟨rfl, ?_⟩)
  first | (intro acts; rw [hret _ acts rfl rfl rfl]) | rw [hret _ _ rfl rfl rfl]
  exact Steps.refl _
/-- what holds at the law's entry: the machine, the code, the tables' words (any of lw_tbl by 'hts w (by decide +kernel)'), the script of L ints xs at the cell b, what the Statement gives of the start (any of its parts by flat_of_before) -/
def lw_At (p : Program) (s : State) (m : MethodId) (meth : Method) (c : Code) (b L : Nat) (xs : Nat → Int32) : Prop :=
  p.tables.exec = Jvm.exec ∧ c.code = code ∧ meth.sig.returnType = ret ∧ c.maxLocals = 4 ∧ s.vm.findClass R_law = some m.cls ∧ (∀ w ∈ lw_tbl, w.before #[Value.ref b] s = true) ∧ va_X b L xs s s.heap ∧ b < s.heap.size ∧ meth.locks = false ∧ (Jvm.Cond.and given_1 narrow_1).before #[Value.ref b] s = true
