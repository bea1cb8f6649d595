/-! contracts widened by a mask over the world -/
def mk_pick : va_W → List Bool → va_W
  | [], _ => []
  | _ :: _, [] => []
  | x :: W, true :: m => x :: mk_pick W m
  | _ :: W, false :: m => mk_pick W m
def mk_rest : va_W → List Bool → va_W
  | [], _ => []
  | _ :: _, [] => []
  | _ :: W, true :: m => mk_rest W m
  | x :: W, false :: m => x :: mk_rest W m
def mk_put : va_W → List Bool → va_W → va_W
  | [], _, c => c
  | _ :: _, [], c => c
  | _ :: W, true :: m, c :: cs => c :: mk_put W m cs
  | _ :: _, true :: _, [] => []
  | x :: W, false :: m, c => x :: mk_put W m c
def mk_T : Nat → List Bool → List Nat
  | _, [] => []
  | k, true :: m => k :: mk_T (k + 1) m
  | k, false :: m => mk_T (k + 1) m
def mk_F : Nat → List Bool → List Nat
  | _, [] => []
  | k, true :: m => mk_F (k + 1) m
  | k, false :: m => k :: mk_F (k + 1) m
theorem mk_perm : ∀ (W : va_W) (m : List Bool) (c : va_W), m.length = W.length → (mk_pick W m).length ≤ c.length → (mk_rest W m ++ c).Perm (mk_put W m c)
  | [], _, c, _, _ => by simp only [mk_rest, mk_put, List.nil_append]; exact List.Perm.refl _
  | _ :: _, [], _, h, _ => by simp at h
  | x :: W, true :: m, [], h, h2 => by simp [mk_pick] at h2
  | x :: W, true :: m, c :: cs, h, h2 => by
    simp only [mk_rest, mk_put]
    exact List.perm_middle.trans (List.Perm.cons _ (mk_perm W m cs (by simpa using h) (by simpa [mk_pick] using h2)))
  | x :: W, false :: m, c, h, h2 => by
    simp only [mk_rest, mk_put, List.cons_append]
    exact List.Perm.cons _ (mk_perm W m c (by simpa using h) (by simpa [mk_pick] using h2))
theorem mk_Tm : ∀ (m : List Bool) (W L : va_W) (k : Nat), m.length = W.length → (∀ i, L[k + i]? = W[i]?) → (mk_T k m).map (fun i => L[i]?) = (mk_pick W m).map some
  | [], [], L, k, _, _ => rfl
  | [], _ :: _, _, _, h, _ => by simp at h
  | _ :: _, [], _, _, h, _ => by simp at h
  | true :: m, x :: W, L, k, h, e => by
    have e0 : L[k]? = some x := by have q := e 0; simpa using q
    simp only [mk_T, mk_pick, List.map_cons, e0]
    rw [mk_Tm m W L (k + 1) (by simpa using h) (fun i => by have q := e (i + 1); rw [show k + 1 + i = k + (i + 1) from by omega, q]; simp)]
  | false :: m, x :: W, L, k, h, e => by
    simp only [mk_T, mk_pick]
    exact mk_Tm m W L (k + 1) (by simpa using h) (fun i => by have q := e (i + 1); rw [show k + 1 + i = k + (i + 1) from by omega, q]; simp)
theorem mk_Fm : ∀ (m : List Bool) (W L : va_W) (k : Nat), m.length = W.length → (∀ i, L[k + i]? = W[i]?) → (mk_F k m).map (fun i => L[i]?) = (mk_rest W m).map some
  | [], [], L, k, _, _ => rfl
  | [], _ :: _, _, _, h, _ => by simp at h
  | _ :: _, [], _, _, h, _ => by simp at h
  | false :: m, x :: W, L, k, h, e => by
    have e0 : L[k]? = some x := by have q := e 0; simpa using q
    simp only [mk_F, mk_rest, List.map_cons, e0]
    rw [mk_Fm m W L (k + 1) (by simpa using h) (fun i => by have q := e (i + 1); rw [show k + 1 + i = k + (i + 1) from by omega, q]; simp)]
  | true :: m, x :: W, L, k, h, e => by
    simp only [mk_F, mk_rest]
    exact mk_Fm m W L (k + 1) (by simpa using h) (fun i => by have q := e (i + 1); rw [show k + 1 + i = k + (i + 1) from by omega, q]; simp)
theorem mk_Tk : ∀ (m : List Bool) (k : Nat), (mk_T k m).Nodup ∧ ∀ i ∈ mk_T k m, k ≤ i
  | [], _ => ⟨List.nodup_nil, fun i hi => by simp [mk_T] at hi⟩
  | true :: m, k => by
    obtain ⟨h1, h2⟩ := mk_Tk m (k + 1)
    simp only [mk_T]
    refine ⟨List.nodup_cons.mpr ⟨fun hk => by have := h2 k hk; omega, h1⟩, fun i hi => ?_⟩
    rcases List.mem_cons.mp hi with e | e
    · omega
    · have := h2 i e; omega
  | false :: m, k => by
    obtain ⟨h1, h2⟩ := mk_Tk m (k + 1)
    simp only [mk_T]
    exact ⟨h1, fun i hi => by have := h2 i hi; omega⟩
theorem mk_Fk : ∀ (m : List Bool) (k : Nat), (mk_F k m).Nodup ∧ ∀ i ∈ mk_F k m, k ≤ i
  | [], _ => ⟨List.nodup_nil, fun i hi => by simp [mk_F] at hi⟩
  | false :: m, k => by
    obtain ⟨h1, h2⟩ := mk_Fk m (k + 1)
    simp only [mk_F]
    refine ⟨List.nodup_cons.mpr ⟨fun hk => by have := h2 k hk; omega, h1⟩, fun i hi => ?_⟩
    rcases List.mem_cons.mp hi with e | e
    · omega
    · have := h2 i e; omega
  | true :: m, k => by
    obtain ⟨h1, h2⟩ := mk_Fk m (k + 1)
    simp only [mk_F]
    exact ⟨h1, fun i hi => by have := h2 i hi; omega⟩
theorem mk_dis : ∀ (m : List Bool) (k : Nat), ∀ i ∈ mk_F k m, i ∉ mk_T k m
  | [], _ => fun i hi => by simp [mk_F] at hi
  | false :: m, k => by
    intro i hi hj
    simp only [mk_F, mk_T] at hi hj
    rcases List.mem_cons.mp hi with e | e
    · have := (mk_Tk m (k + 1)).2 i hj; omega
    · exact mk_dis m (k + 1) i e hj
  | true :: m, k => by
    intro i hi hj
    simp only [mk_F, mk_T] at hi hj
    rcases List.mem_cons.mp hj with e | e
    · have := (mk_Fk m (k + 1)).2 i hi; omega
    · exact mk_dis m (k + 1) i hi e
section MASK
variable {S S' : Type} {l : Launch} {y : MethodName} {ws : List Cond} {rm : Room} {D : va_G} {ty : List (ClassId × FieldType)} {tz adK adV : Nat → Nat} {av : List Value} {W0 W' : va_W} {o : S → Option Value} {post : S → Prop} {w1 : S → va_W} {mc ms : Nat} {o' : S' → Option Value} {post' : S' → Prop} {w1' : S' → va_W}
theorem Qo_mask {sz : Nat} {a : Array Value} {U t : State} {oc : Outcome} (m : List Bool) (hm : m.length = W'.length) (hC : mk_pick W' m = W0)
    (f : ∀ u, post u → ∃ u', o u = o' u' ∧ post' u' ∧ W0.length ≤ (w1 u).length ∧ mk_put W' m (w1 u) = w1' u')
    (hp : PreW D ty W' sz U) (hq : Qo o post (BW D (va_A W0 sz) w1) (va_A W0 sz) a U oc t ∧ ∃ L, FrameEnd U oc t L mc ms ∧ ∀ q ∈ L, va_A W0 sz q.base) : Qo o' post' (BW D (va_A W' sz) w1') (va_A W' sz) a U oc t ∧ ∃ L, FrameEnd U oc t L mc ms ∧ ∀ q ∈ L, va_A W' sz q.base := by
  obtain ⟨hsz, hP, hK, hD⟩ := hp
  obtain ⟨⟨⟨u, hu, hpu, hP1, hD1⟩, hF⟩, L, hL, hfree⟩ := hq
  subst hsz
  subst hC
  have hTm := mk_Tm m W' W' 0 hm (fun i => by rw [Nat.zero_add])
  have hFm := mk_Fm m W' W' 0 hm (fun i => by rw [Nat.zero_add])
  have hs := va_A_sub (sz := U.heap.size) (mk_T 0 m) hTm
  obtain ⟨hP2, hD2⟩ := va_join (A0 := va_A W' U.heap.size) hP hD.self (mk_T 0 m) (mk_F 0 m) hTm hFm (va_nd_iff.mpr (mk_Fk m 0).1) (mk_dis m 0) hF.2 hs hP1 hD1
  obtain ⟨u', e2, hp', hlen, hput⟩ := f u hpu
  have pw : (mk_rest W' m ++ w1 u).Perm (w1' u') := by rw [← hput]; exact mk_perm W' m (w1 u) hm hlen
  exact ⟨⟨⟨u', by rw [hu, e2], hp', va_P_perm hP2 pw, va_D_perm hD2 pw⟩, hF.1, fun q h1 h2 => hF.2 q h1 (fun z => h2 (hs q z))⟩, L, hL, fun q hq => hs _ (hfree q hq)⟩
theorem Co.mask (h : Co (S := S) l y ws rm D ty av W0 o post w1 mc ms) (m : List Bool) (hm : m.length = W'.length) (hC : mk_pick W' m = W0)
    (f : ∀ u, post u → ∃ u', o u = o' u' ∧ post' u' ∧ W0.length ≤ (w1 u).length ∧ mk_put W' m (w1 u) = w1' u') : Co (S := S') l y ws rm D ty av W' o' post' w1' mc ms := by
  have hTm := mk_Tm m W' W' 0 hm (fun i => by rw [Nat.zero_add])
  rw [hC] at hTm
  intro sz
  refine MF_imp (h sz) ?_ ?_
  · intro a U hp
    obtain ⟨e1, hsz, hP, hK, hD⟩ := hp
    exact ⟨e1, hsz, wP_of hP (mk_T 0 m) hTm, hK, (hD.sub (mk_T 0 m) (va_nd_iff.mpr (mk_Tk m 0).1) hTm).weaken (fun _ _ _ _ => trivial)⟩
  · intro a U oc t hp hq
    exact Qo_mask m hm hC f hp.2 hq
theorem CoE.mask (h : CoE (S := S) l y ws rm D ty tz adK adV av W0 o post w1 mc ms) (m : List Bool) (hm : m.length = W'.length) (hC : mk_pick W' m = W0)
    (f : ∀ u, post u → ∃ u', o u = o' u' ∧ post' u' ∧ W0.length ≤ (w1 u).length ∧ mk_put W' m (w1 u) = w1' u') : CoE (S := S') l y ws rm D ty tz adK adV av W' o' post' w1' mc ms := by
  have hTm := mk_Tm m W' W' 0 hm (fun i => by rw [Nat.zero_add])
  rw [hC] at hTm
  intro sz
  refine MF_imp (h sz) ?_ ?_
  · intro a U hp
    obtain ⟨e1, ⟨hsz, hP, hK, hD⟩, hE⟩ := hp
    exact ⟨e1, ⟨hsz, wP_of hP (mk_T 0 m) hTm, hK, (hD.sub (mk_T 0 m) (va_nd_iff.mpr (mk_Tk m 0).1) hTm).weaken (fun _ _ _ _ => trivial)⟩, hE.narrow (va_A_sub (mk_T 0 m) hTm)⟩
  · intro a U oc t hp hq
    exact Qo_mask m hm hC f hp.2.1 hq
end MASK
