/-! what the reader stands on: static rows and String constants that nobody writes -/
def stK : List Nat := [138, 140, 142, 144, 146, 148, 150, 152, 154, 156, 158, 160, 162, 164]
def stT : List String := ["palm", "actor", "usurer", "rate", "chest", "borrow", "clap", "lend", "repay", "hush", "storm", "encore", "night", "heard"]
def EE (tz adK adV : Nat → Nat) (A : Nat → Prop) (U : State) (H : Heap) : Prop := (va_Z RX5 "FIRST_LINE" "[I" (.ref (tz 0)) A U H ∧ va_T .int (tz 0) 4 (fun j => .int (fl_.getD j 0)) A U H) ∧ (va_Z RX5 "NUMBERS" "[I" (.ref (tz 1)) A U H ∧ va_T .int (tz 1) 14 (fun j => .int (nu_.getD j 0)) A U H) ∧ (va_Z RX5 "LEAST" "[I" (.ref (tz 2)) A U H ∧ va_T .int (tz 2) 42 (fun j => .int (le_.getD j 0)) A U H) ∧ (va_Z RX5 "HIGHEST" "[I" (.ref (tz 3)) A U H ∧ va_T .int (tz 3) 42 (fun j => .int (hi_.getD j 0)) A U H) ∧ va_Z "java/lang/String" "COMPACT_STRINGS" "Z" (.int 1) A U H ∧ va_Zq "jdk/internal/util/Preconditions" "SIOOBE_FORMATTER" "Ljava/util/function/BiFunction;" A U H ∧ vk_S 14 stL stB adK adV A U H ∧ (∀ i : Nat, i < 14 → vk_R RX5 (stK.getD i 0) (stT.getD i "") (adK i) U)
theorem EE.warm {tz adK adV : Nat → Nat} {A : Nat → Prop} {s U : State} {H : Heap} (hW : s.WarmedH U.vm) (h : EE tz adK adV A s H) : EE tz adK adV A U H := by
  obtain ⟨⟨a1, b1⟩, ⟨a2, b2⟩, ⟨a3, b3⟩, ⟨a4, b4⟩, h5, h6, h7, h8⟩ := h
  exact ⟨⟨va_Z.moved hW.alike a1, va_T.moved hW.alike b1⟩, ⟨va_Z.moved hW.alike a2, va_T.moved hW.alike b2⟩, ⟨va_Z.moved hW.alike a3, va_T.moved hW.alike b3⟩, ⟨va_Z.moved hW.alike a4, va_T.moved hW.alike b4⟩, va_Z.moved hW.alike h5, va_Zq.moved hW.alike h6, vk_S.moved hW.alike h7, fun i hi => vk_R.warm hW (h8 i hi)⟩
theorem EE.same {tz adK adV : Nat → Nat} {A : Nat → Prop} {u U : State} {H : Heap} (hv : U.vm = u.vm) (h : EE tz adK adV A u H) : EE tz adK adV A U H := by
  have hW : u.vm.Alike U.vm := by rw [hv]; exact Vm.Alike.refl _
  obtain ⟨⟨a1, b1⟩, ⟨a2, b2⟩, ⟨a3, b3⟩, ⟨a4, b4⟩, h5, h6, h7, h8⟩ := h
  exact ⟨⟨va_Z.moved hW a1, va_T.moved hW b1⟩, ⟨va_Z.moved hW a2, va_T.moved hW b2⟩, ⟨va_Z.moved hW a3, va_T.moved hW b3⟩, ⟨va_Z.moved hW a4, va_T.moved hW b4⟩, va_Z.moved hW h5, va_Zq.moved hW h6, vk_S.moved hW h7, fun i hi => vk_R.same hv (h8 i hi)⟩
theorem EE.kept {tz adK adV : Nat → Nat} {A : Nat → Prop} {U : State} {H H1 : Heap} (h : EE tz adK adV A U H) (hq : ∀ a : Nat, a < H.size → ¬ A a → H1[a]? = H[a]?) : EE tz adK adV A U H1 := by
  obtain ⟨⟨a1, b1⟩, ⟨a2, b2⟩, ⟨a3, b3⟩, ⟨a4, b4⟩, h5, h6, h7, h8⟩ := h
  exact ⟨⟨a1.kept hq, b1.kept hq⟩, ⟨a2.kept hq, b2.kept hq⟩, ⟨a3.kept hq, b3.kept hq⟩, ⟨a4.kept hq, b4.kept hq⟩, h5.kept hq, h6.kept hq, h7.kept hq, h8⟩
theorem EE.narrow {tz adK adV : Nat → Nat} {A B : Nat → Prop} {U : State} {H : Heap} (h : EE tz adK adV A U H) (hAB : ∀ q, B q → A q) : EE tz adK adV B U H := by
  obtain ⟨⟨a1, b1⟩, ⟨a2, b2⟩, ⟨a3, b3⟩, ⟨a4, b4⟩, h5, h6, h7, h8⟩ := h
  exact ⟨⟨a1.narrow hAB, b1.narrow hAB⟩, ⟨a2.narrow hAB, b2.narrow hAB⟩, ⟨a3.narrow hAB, b3.narrow hAB⟩, ⟨a4.narrow hAB, b4.narrow hAB⟩, h5.narrow hAB, h6.narrow hAB, h7.narrow hAB, h8⟩
def PreE (D : va_G) (ty : List (ClassId × FieldType)) (tz adK adV : Nat → Nat) (W0 : va_W) (sz : Nat) : State → Prop := fun U => PreW D ty W0 sz U ∧ EE tz adK adV (va_A W0 sz) U U.heap
/-- a contract that stands on the static rows and the String constants too -/
def CoE {S : Type} (l : Launch) (y : MethodName) (ws : List Cond) (rm : Room) (D : va_G) (ty : List (ClassId × FieldType)) (tz adK adV : Nat → Nat) (av : List Value) (W0 : va_W) (o : S → Option Value) (post : S → Prop) (w1 : S → va_W) (mc ms : Nat) : Prop :=
  ∀ sz : Nat, Met l y ws rm (va_Pc av (PreE D ty tz adK adV W0 sz)) (Qo o post (BW D (va_A W0 sz) w1) (va_A W0 sz)) mc ms (va_A W0 sz)
theorem preE_blind {av : List Value} {D : va_G} {ty : List (ClassId × FieldType)} {tz adK adV : Nat → Nat} {W0 : va_W} {sz : Nat} : FrameBlind (va_Pc av (PreE D ty tz adK adV W0 sz)) := fun a U g mk q => ⟨q.1, ⟨q.2.1.1, q.2.1.2.1, KK.call q.2.1.2.2.1, q.2.1.2.2.2⟩, EE.same (u := U) rfl q.2.2⟩
theorem entryE {S : Type} {l : Launch} {y : MethodName} {ws ws' : List Cond} {rm : Room} {D : va_G} {ty : List (ClassId × FieldType)} {tz adK adV : Nat → Nat} {av : List Value} {W0 : va_W} {o : S → Option Value} {post : S → Prop} {w1 : S → va_W} {mc ms : Nat} {cc : ByteArray} {maxL : Nat} {ret : Option FieldType} (hy : plainName y.cls = true) (hw : ws = Cond.code y cc maxL ret :: ws') (hn : (lg_sl av).length ≤ maxL)
    (body : ∀ (p : Program) (e : Env) (s : State) (m : MethodId) (below : List Frame) (meth : Method) (c : Code) (A : Nat → Prop) (ls : Array Slot), p.tables.exec = Jvm.exec → c.code = cc → meth.sig.returnType = ret → c.maxLocals = maxL → (∀ w ∈ ws, w.before av.toArray s = true) → s.vm.findClass y.cls = some m.cls → meth.locks = false → meth.name = y.name → KK D ty s → va_P D vwCl W0 s.heap → va_D A W0 → va_S A s.heap s.heap [] → (∀ q : Nat, s.heap.size ≤ q → A q) → lv_has ls maxL (lv_args 0 av) → EE tz adK adV A s s.heap → W p l e rm s m av.toArray below meth c s.heap [] 0 0 (MQ below (Qo o post (BW D A w1) A) av.toArray s mc ms A) (F0 m 0 ls [])) : CoE l y ws rm D ty tz adK adV av W0 o post w1 mc ms := by
  intro sz
  refine Met.ofW (cc := cc) (maxL := maxL) (ret := ret) hy hw ?_
  intro p e s m args below meth c s₁ B hml hv
  obtain ⟨rfl, ⟨hsz, hP, hK, hD0⟩, hE⟩ := hv
  subst hsz
  have hl := lv_entry av (n := maxL) hn
  rw [lg_entry_eq]
  exact body p e s m below meth c _ _ B.exec B.bytes B.returns hml (atoms_spec (ws := ws) B.pre) (findClass_of_methodNamed B.named) B.notSynchronized (name_of_methodNamed B.named B.method).1 hK hP hD0.self va_S.rf (fun q h => Or.inr h) hl hE
section BE
variable {p : Program} {l : Launch} {e : Env} {R : Room} {s : State} {m : MethodId} {args : Array Value} {below : List Frame} {meth : Method} {c : Code} {H : Heap} {locs : List Loc} {cells slots : Nat} {Q : State → Prop}
variable {cc : ByteArray} {pc : Nat} {ls : Array Slot} {rest : List Value}
variable {S : Type} {o : S → Option Value} {post : S → Prop} {w1 : S → va_W} {D : va_G} {A : Nat → Prop}
variable {st0 : List Value} {a : Array Value} {A0 A1 : Nat → Prop} {H0 : Heap} {mc ms : Nat} {free : Addr → Prop} {B : S → State → Prop}
variable {y : MethodName} {bytes : ByteArray} {maxL nL n index : Nat} {ret : Option FieldType} {wsc ws' : List Cond} {rm : Room} {Ts : List Cond} {own C host : String} {T : u_T} {N : Nat} {b : Addr} {As : List Value} {ty : List (ClassId × FieldType)}
variable {tz adK adV : Nat → Nat}
theorem preE_at {ws wc : va_W} {av : List Value} (hK : KK D ty s) (hE : EE tz adK adV A0 s s.heap) (hP : va_P D vwCl ws H) (hD : va_D A0 ws) (hS : va_S A0 s.heap H locs) (hA : ∀ q, s.heap.size ≤ q → A0 q) (isC : List Nat) (hC : isC.map (fun i => ws[i]?) = wc.map some) (hnC : va_nd isC = true) : ∀ U : State, U.heap = H → s.WarmedH U.vm → va_Pc av (PreE D ty tz adK adV wc H.size) av.toArray U :=
  fun U hU hW => ⟨rfl, (pre_at (av := av) hK hP hD isC hC hnC U hU hW).2, by rw [hU]; exact ((hE.kept hS.2.1).narrow (va_free (wc := wc) hD hS hA isC hC)).warm hW⟩
theorem doVE (hx : p.tables.exec = Jvm.exec) (hb : c.code = cc) (hml : c.maxLocals = nL) (hown : s.vm.findClass own = some m.cls) (hts : ∀ w ∈ Ts, w.before args s = true) (hK : KK D ty s)
    {ws wc wr : va_W} (hP : va_P D vwCl ws H) (hD : va_D A0 ws) (hS : va_S A0 s.heap H locs) (hA : ∀ q, s.heap.size ≤ q → A0 q) (isC isR : List Nat) (hC : isC.map (fun i => ws[i]?) = wc.map some) (hR : isR.map (fun i => ws[i]?) = wr.map some) (hnC : va_nd isC = true) (hn : va_nd isR = true) (hdis : ∀ i ∈ isR, i ∉ isC)
    (q0 : Nat) {ci : Nat} {fs : List Value} (he : ws[q0]? = some (b, .inr (ci, fs))) (hc : vwCl[ci]? = some (C, T, N))
    (hE : EE tz adK adV A0 s s.heap) (hM : CoE l y wsc rm D ty tz adK adV (.ref b :: As) wc o post w1 mc ms) (hG : GoodIn Ts (wsV own index C y wsc)) (hw : wsc = Cond.code y bytes maxL ret :: ws') (hrc : rm.cells = mc) (hrs : rm.slots = ms)
    (hd : y.cls = C ∧ y.cls ≠ "java/lang/invoke/MethodHandle" ∧ y.cls ≠ "java/lang/invoke/VarHandle" ∧ (parseMethodDescriptor y.desc).map (fun d => d.parameters.length) = some n) (hrm : rm.frames + 1 ≤ R.frames ∧ 8 + (maxL + 11) + rm.locals ≤ R.locals)
    (hl : ls.size = nL) (hst : st0 = As.reverse ++ .ref b :: rest) (hAs : As.length = n) (hroom : (rest.map fun v => v.category).sum ≤ 8) (hdg : decode cc pc = .ok (.invokevirtual index, 3)) (hf : cells + mc ≤ R.cells ∧ slots + ms ≤ R.slots)
    (kk : ∀ (u : S) (H1 : Heap) (locs1 : List Loc), post u → va_P D vwCl (wr ++ w1 u) H1 → va_D A0 (wr ++ w1 u) → va_S A0 s.heap H1 locs1 → W p l e R s m args below meth c H1 locs1 (cells + mc) (slots + ms) Q (F0 m (pc + 3) ls ((o u).toList ++ rest))) : W p l e R s m args below meth c H locs cells slots Q (F0 m pc ls st0) :=
  callW hP hD hS hA isC isR hC hR hn hdis (va_runV (As := As) (rest := rest) ⟨hx, hb, hml, hown, hts⟩ (hM H.size) (cwV n hts hG hw hrc hrs hd hrm) ⟨preE_blind, va_recv hK.1 hP hc he, preE_at hK hE hP hD hS hA isC hC hnC⟩ rfl hAs hl hst (lv_room hroom) hdg hf) kk
theorem doSE (hx : p.tables.exec = Jvm.exec) (hb : c.code = cc) (hml : c.maxLocals = nL) (hown : s.vm.findClass own = some m.cls) (hts : ∀ w ∈ Ts, w.before args s = true) (hK : KK D ty s)
    {ws wc wr : va_W} (hP : va_P D vwCl ws H) (hD : va_D A0 ws) (hS : va_S A0 s.heap H locs) (hA : ∀ q, s.heap.size ≤ q → A0 q) (isC isR : List Nat) (hC : isC.map (fun i => ws[i]?) = wc.map some) (hR : isR.map (fun i => ws[i]?) = wr.map some) (hnC : va_nd isC = true) (hn : va_nd isR = true) (hdis : ∀ i ∈ isR, i ∉ isC)
    (hE : EE tz adK adV A0 s s.heap) (hM : CoE l y wsc rm D ty tz adK adV As wc o post w1 mc ms) (hG : GoodIn Ts (va_wsS own index y wsc)) (hw : wsc = Cond.code y bytes maxL ret :: ws') (hrc : rm.cells = mc) (hrs : rm.slots = ms)
    (hd : y.cls ≠ "java/lang/invoke/MethodHandle" ∧ y.cls ≠ "java/lang/invoke/VarHandle" ∧ (parseMethodDescriptor y.desc).map (fun d => d.parameters.length) = some n) (hrm : rm.frames + 1 ≤ R.frames ∧ 8 + (maxL + 11) + rm.locals ≤ R.locals)
    (hl : ls.size = nL) (hst : st0 = As.reverse ++ rest) (hAs : As.length = n) (hroom : (rest.map fun v => v.category).sum ≤ 8) (hdg : decode cc pc = .ok (.invokestatic index, 3)) (hf : cells + mc ≤ R.cells ∧ slots + ms ≤ R.slots)
    (kk : ∀ (u : S) (H1 : Heap) (locs1 : List Loc), post u → va_P D vwCl (wr ++ w1 u) H1 → va_D A0 (wr ++ w1 u) → va_S A0 s.heap H1 locs1 → W p l e R s m args below meth c H1 locs1 (cells + mc) (slots + ms) Q (F0 m (pc + 3) ls ((o u).toList ++ rest))) : W p l e R s m args below meth c H locs cells slots Q (F0 m pc ls st0) :=
  callW hP hD hS hA isC isR hC hR hn hdis (va_runS (As := As) (rest := rest) ⟨hx, hb, hml, hown, hts⟩ (hM H.size) (va_cwS n hts hG hw hrc hrs hd hrm) ⟨preE_blind, preE_at hK hE hP hD hS hA isC hC hnC⟩ rfl hAs hl hst (lv_room hroom) hdg hf) kk
theorem doVS (hx : p.tables.exec = Jvm.exec) (hb : c.code = cc) (hml : c.maxLocals = nL) (hown : s.vm.findClass own = some m.cls) (hts : ∀ w ∈ Ts, w.before args s = true) (hK : KK D ty s)
    {ws wc wr : va_W} (hP : va_P D vwCl ws H) (hD : va_D A0 ws) (hS : va_S A0 s.heap H locs) (hA : ∀ q, s.heap.size ≤ q → A0 q) (isC isR : List Nat) (hC : isC.map (fun i => ws[i]?) = wc.map some) (hR : isR.map (fun i => ws[i]?) = wr.map some) (hnC : va_nd isC = true) (hn : va_nd isR = true) (hdis : ∀ i ∈ isR, i ∉ isC)
    {i : Nat} (hi : i < 14)
    (hE : EE tz adK adV A0 s s.heap) (hM : CoE l y wsc rm D ty tz adK adV (.ref (adK i) :: As) wc o post w1 mc ms) (hG : GoodIn Ts (wsV own index "java/lang/String" y wsc)) (hw : wsc = Cond.code y bytes maxL ret :: ws') (hrc : rm.cells = mc) (hrs : rm.slots = ms)
    (hd : y.cls = "java/lang/String" ∧ y.cls ≠ "java/lang/invoke/MethodHandle" ∧ y.cls ≠ "java/lang/invoke/VarHandle" ∧ (parseMethodDescriptor y.desc).map (fun d => d.parameters.length) = some n) (hrm : rm.frames + 1 ≤ R.frames ∧ 8 + (maxL + 11) + rm.locals ≤ R.locals)
    (hl : ls.size = nL) (hst : st0 = As.reverse ++ .ref (adK i) :: rest) (hAs : As.length = n) (hroom : (rest.map fun v => v.category).sum ≤ 8) (hdg : decode cc pc = .ok (.invokevirtual index, 3)) (hf : cells + mc ≤ R.cells ∧ slots + ms ≤ R.slots)
    (kk : ∀ (u : S) (H1 : Heap) (locs1 : List Loc), post u → va_P D vwCl (wr ++ w1 u) H1 → va_D A0 (wr ++ w1 u) → va_S A0 s.heap H1 locs1 → W p l e R s m args below meth c H1 locs1 (cells + mc) (slots + ms) Q (F0 m (pc + 3) ls ((o u).toList ++ rest))) : W p l e R s m args below meth c H locs cells slots Q (F0 m pc ls st0) :=
  callW hP hD hS hA isC isR hC hR hn hdis (va_runV (As := As) (rest := rest) ⟨hx, hb, hml, hown, hts⟩ (hM H.size) (cwV n hts hG hw hrc hrs hd hrm) ⟨preE_blind, vk_recv hE.2.2.2.2.2.2.1 hi hS, preE_at hK hE hP hD hS hA isC hC hnC⟩ rfl hAs hl hst (lv_room hroom) hdg hf) kk
theorem ro_n {v : Int32} {ty : FieldType} (hx : p.tables.exec = Jvm.exec) (hb : c.code = cc) (hr : meth.sig.returnType = some ty) (hn : narrow ty (.int v) = .int v) (hlocks : meth.locks = false) (u : S) (ho : o u = some (.int v)) (hp : post u) (hP : va_P D vwCl (w1 u) H) (hD : va_D A (w1 u)) (hS : va_S A s.heap H locs) (hdg : decode cc pc = .ok (.ireturn, 1)) : W p l e R s m args below meth c H locs cells slots (MQ below (Qo o post (BW D A w1) A) args s cells slots A) (F0 m pc ls [.int v]) :=
  W.zret hx hb hr hn (fun t ht _ => ⟨⟨u, by rw [ho], hp, by rw [ht]; exact hP, hD⟩, hS.F ht⟩) hS.2.2 hdg hlocks
end BE
theorem getD_rng {l : List Int32} {lo hi : Int} (h : ∀ v ∈ l, lo ≤ v.toInt ∧ v.toInt ≤ hi) (h0 : lo ≤ 0 ∧ 0 ≤ hi) (j : Nat) : lo ≤ (l.getD j 0).toInt ∧ (l.getD j 0).toInt ≤ hi := by
  rw [List.getD_eq_getElem?_getD]
  cases e : l[j]? with
  | none => exact h0
  | some v => exact h v (List.mem_of_getElem? e)
theorem fl_rng (j : Nat) : 0 ≤ (fl_.getD j 0).toInt ∧ (fl_.getD j 0).toInt ≤ 14 := getD_rng (by decide) (by decide) j
theorem st_len (i : Nat) : stL.getD i 0 ≤ 6 := by
  rw [List.getD_eq_getElem?_getD]
  cases e : stL[i]? with
  | none => decide
  | some v => exact (by decide : ∀ v ∈ stL, v ≤ 6) v (List.mem_of_getElem? e)
theorem len_int {n : Nat} (h : n ≤ 6) : (Int32.ofNat n).toInt = (n : Int) := Int32.toInt_ofNat_of_lt (by omega)
theorem shr0 (x : Int32) : x >>> ((0 : Int32) &&& 31) = x := by
  rw [show ((0 : Int32) &&& 31) = 0 from by decide]
  exact Int32.shiftRight_zero
theorem Zq_or {C n d : String} {A : Nat → Prop} {U : State} {H : Heap} (h : va_Zq C n d A U H) : va_Z C n d .null A U H ∨ ∃ t : Nat, va_Z C n d (.ref t) A U H := h
