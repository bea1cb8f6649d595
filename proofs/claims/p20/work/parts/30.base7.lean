/-! contracts widened, framed, said of worlds whose shape alone is known -/
theorem MF_imp {l : Launch} {x : MethodName} {S : Spec} {P P' : Array Value → State → Prop} {K : Program → Env → List Frame → State → Array Value → Prop} {Q Q' : Array Value → State → Outcome → State → Prop} (h : MetFree l x S P K Q) (hP : ∀ a s, P' a s → P a s) (hQ : ∀ a s o t, P' a s → Q a s o t → Q' a s o t) : MetFree l x S P' K Q' := by
  intro p e a1 a2 a3 s m args below hf hS hp hk
  obtain ⟨n, o, h1, h2, h3, h4⟩ := h p e a1 a2 a3 s m args below hf hS (hP _ _ hp) hk
  exact ⟨n, o, h1, h2, h3, hQ _ _ _ _ hp h4⟩
theorem va_A_sub {W0 W' : va_W} {sz : Nat} (isC : List Nat) (hC : isC.map (fun i => W'[i]?) = W0.map some) : ∀ q, va_A W0 sz q → va_A W' sz q := by
  intro q h
  rcases h with ⟨k, e, h⟩ | h
  · have hz : (isC.map (fun i => W'[i]?))[k]? = some (some (q, e)) := by rw [hC, List.getElem?_map, h]; rfl
    rw [List.getElem?_map] at hz
    obtain ⟨i, -, hi⟩ := Option.map_eq_some_iff.mp hz
    exact Or.inl ⟨i, e, hi⟩
  · exact Or.inr h
theorem va_A_mem {W0 W' : va_W} {sz : Nat} (h : ∀ q ∈ W0, q ∈ W') : ∀ q, va_A W0 sz q → va_A W' sz q := by
  intro q hq
  rcases hq with ⟨k, e, hk⟩ | hq
  · obtain ⟨i, hi⟩ := List.mem_iff_getElem?.mp (h _ (List.mem_of_getElem? hk))
    exact Or.inl ⟨i, e, hi⟩
  · exact Or.inr hq
theorem va_P_perm {D : va_G} {cl : List vw_C} {ws ws' : va_W} {H : Heap} (h : va_P D cl ws H) (p : ws.Perm ws') : va_P D cl ws' H := fun k q hq => by
  obtain ⟨i, hi⟩ := List.mem_iff_getElem?.mp (p.mem_iff.mpr (List.mem_of_getElem? hq))
  exact h i q hi
theorem va_D_iff {A : Nat → Prop} {ws : va_W} : va_D A ws ↔ (ws.map Prod.fst).Nodup ∧ ∀ q ∈ ws, A q.1 := by
  constructor
  · intro h
    refine ⟨?_, fun q hq => ?_⟩
    · rw [List.Nodup, List.pairwise_map, List.pairwise_iff_getElem]
      intro i j hi hj hij e
      have := h.1 i j ws[i] ws[j] (List.getElem?_eq_getElem hi) (List.getElem?_eq_getElem hj) e
      omega
    · obtain ⟨i, hi⟩ := List.mem_iff_getElem?.mp hq
      exact h.2 i q hi
  · intro h
    refine ⟨fun i j p q hp hq e => ?_, fun k q hq => h.2 q (List.mem_of_getElem? hq)⟩
    have hd := h.1
    rw [List.Nodup, List.pairwise_map, List.pairwise_iff_getElem] at hd
    obtain ⟨hi, ei⟩ := List.getElem?_eq_some_iff.mp hp
    obtain ⟨hj, ej⟩ := List.getElem?_eq_some_iff.mp hq
    rcases Nat.lt_trichotomy i j with q1 | q1 | q1
    · exact absurd (by rw [ei, ej]; exact e) (hd i j hi hj q1)
    · exact q1
    · exact absurd (by rw [ei, ej]; exact e.symm) (hd j i hj hi q1)
theorem va_D_perm {A : Nat → Prop} {ws ws' : va_W} (h : va_D A ws) (p : ws.Perm ws') : va_D A ws' := by
  rw [va_D_iff] at *
  exact ⟨(p.map Prod.fst).nodup_iff.mp h.1, fun q hq => h.2 q (p.mem_iff.mpr hq)⟩
theorem va_nd_iff : ∀ {l : List Nat}, va_nd l = true ↔ l.Nodup
  | [] => by simp [va_nd]
  | a :: l => by
    have ih := va_nd_iff (l := l)
    simp [va_nd, ih]
theorem rng_map {wc wr : va_W} : (List.range wc.length).map (fun i => (wc ++ wr)[i]?) = wc.map some := by
  apply List.ext_getElem?
  intro k
  rw [List.getElem?_map, List.getElem?_map]
  by_cases hk : k < wc.length
  · rw [List.getElem?_range hk, List.getElem?_eq_getElem hk]
    simp [List.getElem?_append_left hk]
  · rw [List.getElem?_eq_none (by simpa using hk), List.getElem?_eq_none (by simpa using hk)]; rfl
theorem rng_map2 {wc wr : va_W} : ((List.range wr.length).map (fun i => i + wc.length)).map (fun i => (wc ++ wr)[i]?) = wr.map some := by
  apply List.ext_getElem?
  intro k
  rw [List.map_map, List.getElem?_map, List.getElem?_map]
  by_cases hk : k < wr.length
  · rw [List.getElem?_range hk, List.getElem?_eq_getElem hk]
    simp [List.getElem?_append_right]
  · rw [List.getElem?_eq_none (by simpa using hk), List.getElem?_eq_none (by simpa using hk)]; rfl
theorem rng_nd (n : Nat) : va_nd (List.range n) = true := va_nd_iff.mpr List.nodup_range
theorem rng_nd2 (n m : Nat) : va_nd ((List.range n).map (fun i => i + m)) = true := by
  rw [va_nd_iff, List.Nodup, List.pairwise_map]
  have h := List.nodup_range (n := n)
  exact List.Pairwise.imp (fun {a b} q e => q (by omega)) h
theorem rng_dis {n m : Nat} : ∀ i ∈ (List.range n).map (fun i => i + m), i ∉ List.range m := by
  intro i hi hj
  obtain ⟨k, -, rfl⟩ := List.mem_map.mp hi
  have := List.mem_range.mp hj
  omega
section WIDE
variable {S S' : Type} {l : Launch} {y : MethodName} {ws : List Cond} {rm : Room} {D : va_G} {ty : List (ClassId × FieldType)} {tz adK adV : Nat → Nat} {av : List Value} {W0 W' : va_W} {o : S → Option Value} {post : S → Prop} {w1 : S → va_W} {mc ms : Nat} {o' : S' → Option Value} {post' : S' → Prop} {w1' : S' → va_W}
theorem Qo_wide {sz : Nat} {a : Array Value} {U t : State} {oc : Outcome} (isC isR : List Nat) (hC : isC.map (fun i => W'[i]?) = W0.map some) (hR : isR.map (fun i => W'[i]?) = (isR.filterMap (fun i => W'[i]?)).map some) (hn : va_nd isR = true) (hdis : ∀ i ∈ isR, i ∉ isC)
    (f : ∀ u, post u → ∃ u', o u = o' u' ∧ post' u' ∧ ∃ is : List Nat, va_nd is = true ∧ is.map (fun i => (isR.filterMap (fun i => W'[i]?) ++ w1 u)[i]?) = (w1' u').map some)
    (hp : PreW D ty W' sz U) (hq : Qo o post (BW D (va_A W0 sz) w1) (va_A W0 sz) a U oc t ∧ ∃ L, FrameEnd U oc t L mc ms ∧ ∀ q ∈ L, va_A W0 sz q.base) : Qo o' post' (BW D (va_A W' sz) w1') (va_A W' sz) a U oc t ∧ ∃ L, FrameEnd U oc t L mc ms ∧ ∀ q ∈ L, va_A W' sz q.base := by
  obtain ⟨hsz, hP, hK, hD⟩ := hp
  obtain ⟨⟨⟨u, hu, hpu, hP1, hD1⟩, hF⟩, L, hL, hfree⟩ := hq
  subst hsz
  have hs := va_A_sub (sz := U.heap.size) isC hC
  obtain ⟨hP2, hD2⟩ := va_join (A0 := va_A W' U.heap.size) hP hD.self isC isR hC hR hn hdis hF.2 hs hP1 hD1
  obtain ⟨u', e2, hp', is, hnd, his⟩ := f u hpu
  exact ⟨⟨⟨u', by rw [hu, e2], hp', wP_of hP2 is his, hD2.sub is hnd his⟩, hF.1, fun q h1 h2 => hF.2 q h1 (fun z => h2 (hs q z))⟩, L, hL, fun q hq => hs _ (hfree q hq)⟩
theorem Co.wide (h : Co (S := S) l y ws rm D ty av W0 o post w1 mc ms) (isC isR : List Nat) (hC : isC.map (fun i => W'[i]?) = W0.map some) (hR : isR.map (fun i => W'[i]?) = (isR.filterMap (fun i => W'[i]?)).map some) (hnC : va_nd isC = true) (hn : va_nd isR = true) (hdis : ∀ i ∈ isR, i ∉ isC)
    (f : ∀ u, post u → ∃ u', o u = o' u' ∧ post' u' ∧ ∃ is : List Nat, va_nd is = true ∧ is.map (fun i => (isR.filterMap (fun i => W'[i]?) ++ w1 u)[i]?) = (w1' u').map some) : Co (S := S') l y ws rm D ty av W' o' post' w1' mc ms := by
  intro sz
  refine MF_imp (h sz) ?_ ?_
  · intro a U hp
    obtain ⟨e1, hsz, hP, hK, hD⟩ := hp
    exact ⟨e1, hsz, wP_of hP isC hC, hK, (hD.sub isC hnC hC).weaken (fun _ _ _ _ => trivial)⟩
  · intro a U oc t hp hq
    exact Qo_wide isC isR hC hR hn hdis f hp.2 hq
theorem CoE.wide (h : CoE (S := S) l y ws rm D ty tz adK adV av W0 o post w1 mc ms) (isC isR : List Nat) (hC : isC.map (fun i => W'[i]?) = W0.map some) (hR : isR.map (fun i => W'[i]?) = (isR.filterMap (fun i => W'[i]?)).map some) (hnC : va_nd isC = true) (hn : va_nd isR = true) (hdis : ∀ i ∈ isR, i ∉ isC)
    (f : ∀ u, post u → ∃ u', o u = o' u' ∧ post' u' ∧ ∃ is : List Nat, va_nd is = true ∧ is.map (fun i => (isR.filterMap (fun i => W'[i]?) ++ w1 u)[i]?) = (w1' u').map some) : CoE (S := S') l y ws rm D ty tz adK adV av W' o' post' w1' mc ms := by
  intro sz
  refine MF_imp (h sz) ?_ ?_
  · intro a U hp
    obtain ⟨e1, ⟨hsz, hP, hK, hD⟩, hE⟩ := hp
    exact ⟨e1, ⟨hsz, wP_of hP isC hC, hK, (hD.sub isC hnC hC).weaken (fun _ _ _ _ => trivial)⟩, hE.narrow (va_A_sub isC hC)⟩
  · intro a U oc t hp hq
    exact Qo_wide isC isR hC hR hn hdis f hp.2.1 hq
theorem Co.toE (h : Co (S := S) l y ws rm D ty av W0 o post w1 mc ms) : CoE (S := S) l y ws rm D ty tz adK adV av W0 o post w1 mc ms := fun sz => MF_imp (h sz) (fun a U hp => ⟨hp.1, hp.2.1⟩) (fun a U oc t _ hq => hq)
/-- a contract's world in another order; its end said otherwise -/
theorem Co.perm (h : Co (S := S) l y ws rm D ty av W0 o post w1 mc ms) (p : W0.Perm W') (f : ∀ u, post u → ∃ u', o u = o' u' ∧ post' u' ∧ (w1 u).Perm (w1' u')) : Co (S := S') l y ws rm D ty av W' o' post' w1' mc ms := by
  intro sz
  refine MF_imp (h sz) ?_ ?_
  · intro a U hp
    obtain ⟨e1, hsz, hP, hK, hD⟩ := hp
    exact ⟨e1, hsz, va_P_perm hP p.symm, hK, va_D_perm hD p.symm⟩
  · intro a U oc t hp hq
    obtain ⟨⟨⟨u, hu, hpu, hP1, hD1⟩, hF⟩, L, hL, hfree⟩ := hq
    obtain ⟨u', e2, hp', pw⟩ := f u hpu
    have hs : ∀ q, va_A W0 sz q → va_A W' sz q := va_A_mem (fun q hq => p.mem_iff.mp hq)
    exact ⟨⟨⟨u', by rw [hu, e2], hp', va_P_perm hP1 pw, (va_D_perm hD1 pw).weaken (fun k q _ hq => hs q.1 hq)⟩, hF.1, fun q h1 h2 => hF.2 q h1 (fun z => h2 (hs q z))⟩, L, hL, fun q hq => hs _ (hfree q hq)⟩
/-- the frame rule -/
theorem Co.frame (h : Co (S := S) l y ws rm D ty av W0 o post w1 mc ms) (R : va_W) : Co (S := S) l y ws rm D ty av (W0 ++ R) o post (fun u => R ++ w1 u) mc ms := by
  have e : ((List.range R.length).map (fun i => i + W0.length)).filterMap (fun i => (W0 ++ R)[i]?) = R := by
    have h2 := rng_map2 (wc := W0) (wr := R)
    have h3 : ∀ (is : List Nat) (f : Nat → Option (Nat × va_E)) (l : va_W), is.map f = l.map some → is.filterMap f = l := by
      intro is f
      induction is with
      | nil => intro l hl; cases l with
        | nil => rfl
        | cons a t => simp at hl
      | cons a t ih => intro l hl; cases l with
        | nil => simp at hl
        | cons b t2 =>
          simp only [List.map_cons, List.cons.injEq] at hl
          rw [List.filterMap_cons, hl.1]
          simp only [ih t2 hl.2]
    exact h3 _ _ _ h2
  refine Co.wide (W' := W0 ++ R) h (List.range W0.length) ((List.range R.length).map (fun i => i + W0.length)) rng_map ?_ (rng_nd _) (rng_nd2 _ _) rng_dis ?_
  · rw [e]; exact rng_map2
  · intro u hu
    refine ⟨u, rfl, hu, List.range (R ++ w1 u).length, rng_nd _, ?_⟩
    rw [e]
    have := rng_map (wc := R ++ w1 u) (wr := [])
    rw [List.append_nil] at this
    exact this
end WIDE
section CALLA
variable {S : Type} {p : Program} {l : Launch} {e : Env} {R : Room} {s : State} {m : MethodId} {args : Array Value} {below : List Frame} {meth : Method} {c : Code} {H : Heap} {locs : List Loc} {cells slots : Nat} {Q : State → Prop} {cc : ByteArray} {pc : Nat} {ls : Array Slot} {rest : List Value} {D : va_G} {A0 : Nat → Prop} {st0 : List Value} {mc ms : Nat} {o : S → Option Value} {post : S → Prop} {w1 : S → va_W}
variable {y : MethodName} {bytes : ByteArray} {maxL nL n index : Nat} {ret : Option FieldType} {wsc ws' : List Cond} {rm : Room} {Ts : List Cond} {own C : String} {T : u_T} {N : Nat} {b : Addr} {As : List Value} {ty : List (ClassId × FieldType)} {tz adK adV : Nat → Nat}
/-- a call on the first part of a world -/
theorem doVA (hx : p.tables.exec = Jvm.exec) (hb : c.code = cc) (hml : c.maxLocals = nL) (hown : s.vm.findClass own = some m.cls) (hts : ∀ w ∈ Ts, w.before args s = true) (hK : KK D ty s)
    {wc wr : va_W} (hP : va_P D vwCl (wc ++ wr) H) (hD : va_D A0 (wc ++ wr)) (hS : va_S A0 s.heap H locs) (hA : ∀ q, s.heap.size ≤ q → A0 q)
    {ci : Nat} {fs : List Value} (he : (wc ++ wr)[0]? = some (b, .inr (ci, fs))) (hc : vwCl[ci]? = some (C, T, N)) (hE : EE tz adK adV A0 s s.heap)
    (hM : CoE l y wsc rm D ty tz adK adV (.ref b :: As) wc o post w1 mc ms) (hG : GoodIn Ts (wsV own index C y wsc)) (hw : wsc = Cond.code y bytes maxL ret :: ws') (hrc : rm.cells = mc) (hrs : rm.slots = ms)
    (hd : y.cls = C ∧ y.cls ≠ "java/lang/invoke/MethodHandle" ∧ y.cls ≠ "java/lang/invoke/VarHandle" ∧ (parseMethodDescriptor y.desc).map (fun d => d.parameters.length) = some n) (hrm : rm.frames + 1 ≤ R.frames ∧ 8 + (maxL + 11) + rm.locals ≤ R.locals)
    (hl : ls.size = nL) (hst : st0 = As.reverse ++ .ref b :: rest) (hAs : As.length = n) (hroom : (rest.map fun v => v.category).sum ≤ 8) (hdg : decode cc pc = .ok (.invokevirtual index, 3)) (hf : cells + mc ≤ R.cells ∧ slots + ms ≤ R.slots)
    (kk : ∀ (u : S) (H1 : Heap) (locs1 : List Loc), post u → va_P D vwCl (wr ++ w1 u) H1 → va_D A0 (wr ++ w1 u) → va_S A0 s.heap H1 locs1 → W p l e R s m args below meth c H1 locs1 (cells + mc) (slots + ms) Q (F0 m (pc + 3) ls ((o u).toList ++ rest))) : W p l e R s m args below meth c H locs cells slots Q (F0 m pc ls st0) :=
  doVE hx hb hml hown hts hK hP hD hS hA (List.range wc.length) ((List.range wr.length).map (fun i => i + wc.length)) rng_map rng_map2 (rng_nd _) (rng_nd2 _ _) rng_dis 0 he hc hE hM hG hw hrc hrs hd hrm hl hst hAs hroom hdg hf kk
end CALLA
