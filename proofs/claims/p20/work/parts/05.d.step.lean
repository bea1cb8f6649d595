/-! lines: the two readers go on in step -/
/-- faults noted so far: the class's, the reference's; all ahead of p -/
def FR (fa pl lf lp : Int32) (p : Int) : Prop := (fa = 0 ∧ pl = -1 ∧ lf = 0) ∨ ((fa = 2 ∨ fa = 3) ∧ lf = fa ∧ lp = pl ∧ pl.toInt < p)
theorem FR_mono {fa pl lf lp : Int32} {p q : Int} (h : FR fa pl lf lp p) (hpq : p ≤ q) : FR fa pl lf lp q := by
  rcases h with h | ⟨a, b, c, d⟩
  · exact Or.inl h
  · exact Or.inr ⟨a, b, c, by omega⟩
theorem FR_note {fa pl lf lp a fr bg u0 u1 v0 v1 : Int32} {p q : Int} (h : FR fa pl lf lp p) (ha : a = 2 ∨ a = 3) (hp : p ≤ fr.toInt) (hq : fr.toInt < q) (eb : bg = fr) (hn : R_k_note fa pl a fr u0 u1) (hl : R_j_later lf a bg lp v0 v1) : FR u0 u1 v0 v1 q := by
  subst eb
  have z2 : (2 : Int32).toInt = 2 := by decide
  have z3 : (3 : Int32).toInt = 3 := by decide
  have z0 : (0 : Int32).toInt = 0 := by decide
  rcases h with ⟨h1, h2, h3⟩ | ⟨h1, h2, h3, h4⟩
  · subst h1; subst h3
    rcases hn with ⟨c, -⟩ | ⟨-, e0, e1⟩
    · exact absurd z0 c
    · rcases hl with ⟨-, d0, d1⟩ | ⟨c, -⟩
      · subst e0; subst e1; subst d0; subst d1
        exact Or.inr ⟨ha, rfl, rfl, hq⟩
      · exact absurd z0 c
  · have hfa : fa.toInt ≠ 0 := by rcases h1 with e | e <;> rw [e] <;> decide
    rcases hn with ⟨-, e0, e1⟩ | ⟨c, -⟩
    · subst h2; subst h3
      rcases hl with ⟨c, -⟩ | ⟨-, ⟨c, -⟩ | ⟨-, ⟨-, d0, d1⟩ | ⟨c, -⟩⟩⟩
      · exact absurd c hfa
      · omega
      · rw [e0, e1, d0, d1]; exact Or.inr ⟨h1, rfl, rfl, by omega⟩
      · omega
    · exact absurd c hfa
/-- two tapes alike up to n -/
def Ag_ (t s : Nat → Int32) (n : Int) : Prop := ∀ j : Int, 0 ≤ j → j < n → tq s j = tq t j
theorem run_c {Q : Int → Prop} {t s : Nat → Int32} {n a b : Int} (hs : Ag_ t s n) (ha : 0 ≤ a) (h : run_ Q s n a b) : run_ Q t n a b := by
  obtain ⟨h1, h2, h3, h4⟩ := h
  exact ⟨h1, h2, fun j q1 q2 => by rw [← hs j (by omega) (by omega)]; exact h3 j q1 q2, fun q => by rw [← hs b (by omega) q]; exact h4 q⟩
theorem nv_c {t s : Nat → Int32} {f : Int} : ∀ k : Nat, (∀ j : Int, f ≤ j → j < f + k → tq s j = tq t j) → nv s f k = nv t f k := by
  intro k
  induction k with
  | zero => intro _; rfl
  | succ k ih =>
    intro h
    show 10 * nv s f k + (tq s (f + k) - 48) = 10 * nv t f k + (tq t (f + k) - 48)
    rw [ih (fun j q1 q2 => h j q1 (by omega)), h (f + k) (by omega) (by omega)]
theorem pk_c {t s : Nat → Int32} {f : Int} : ∀ k : Nat, (∀ j : Int, f ≤ j → j < f + k → tq s j = tq t j) → pk s f k = pk t f k := by
  intro k
  induction k with
  | zero => intro _; rfl
  | succ k ih =>
    intro h
    show 256 * pk s f k + tq s (f + k) = 256 * pk t f k + tq t (f + k)
    rw [ih (fun j q1 q2 => h j q1 (by omega)), h (f + k) (by omega) (by omega)]
theorem Tk_c {t s : Nat → Int32} {n a k f e v : Int} (hs : Ag_ t s n) (ha : 0 ≤ a) (h : Tk s n a k f e v) : Tk t n a k f e v := by
  have go := Tk_go h
  obtain ⟨hb, h⟩ := h
  refine ⟨run_c hs ha hb, ?_⟩
  rcases h with h | ⟨c1, c2, c3, c4⟩ | ⟨c1, c2, c3, c4⟩ | ⟨c1, c2, c3, c4, c5⟩
  · exact Or.inl h
  · exact Or.inr (Or.inl ⟨c1, by rw [← hs f (by omega) c1]; exact c2, c3, run_c hs (by omega) c4⟩)
  · refine Or.inr (Or.inr (Or.inl ⟨c1, by rw [← hs f (by omega) c1]; exact c2, run_c hs (by omega) c3, ?_⟩))
    rcases c4 with ⟨q1, q2, q3⟩ | q
    · exact Or.inl ⟨q1, q2, by rw [q3]; exact nv_c _ (fun j q1 q2 => hs j (by omega) (by omega))⟩
    · exact Or.inr q
  · refine Or.inr (Or.inr (Or.inr ⟨c1, by rw [← hs f (by omega) c1]; exact c2, by rw [← hs f (by omega) c1]; exact c3, c4, ?_⟩))
    rw [← hs f (by omega) c1]; exact c5
theorem Tk_v {t : Nat → Int32} {n a f e v : Int} (h : Tk t n a 2 f e v) : 0 ≤ v ∧ v ≤ 999 := by
  obtain ⟨hb, h⟩ := h
  rcases h with ⟨c1, c2, c3⟩ | ⟨c1, c2, c3, c4⟩ | ⟨c1, c2, c3, c4⟩ | ⟨c1, c2, c3, c4, c5⟩
  · omega
  · omega
  · rcases c4 with ⟨q1, q2, q3⟩ | ⟨q1, q2⟩
    · have h1 := c3.1
      have := nv_rng (t := t) (f := f) (e - f).toNat (fun j h1 h2 => c3.2.2.1 j h1 (by omega)) (by omega)
      rw [q3]; omega
    · omega
  · omega
/-- the reference's token now, the one behind p -/
def CT (t : Nat → Int32) (n p : Int) (rc bg so va : Int32) (wo : Int64) : Prop := ∃ k : Int, Tk t n p k bg.toInt rc.toInt va.toInt ∧ Sc k so.toInt ∧ (k = 1 → Wd t bg.toInt rc.toInt wo)
theorem tok_ct {n a w : Int32} {t s : Nat → Int32} {u0 u1 u2 u3 : Int32} {u4 : Int64} (hb : By s) (hs : Ag_ t s n.toInt) (hn : 0 ≤ n.toInt ∧ n.toInt ≤ 600) (ha : 0 ≤ a.toInt ∧ a.toInt ≤ n.toInt) (h : R_j_token n s w a u0 u1 u2 u3 u4) : CT t n.toInt a.toInt u0 u1 u2 u3 u4 := by
  obtain ⟨k, h1, h2, h3⟩ := tok_sp hb hn ha h
  refine ⟨k, Tk_c hs ha.1 h1, h2, fun q => ?_⟩
  have go := Tk_go h1
  obtain ⟨p1, p2⟩ := h3 q
  exact ⟨fun q2 => by rw [p1 q2]; exact pk_c _ (fun j q1 q3 => hs j (by omega) (by omega)), p2⟩
section LINE
variable {n pa ac us ra ch bo de mi : Int32} {t cl ha hu sa ak fl pr hv : Nat → Int32}
variable {u0 : Int32} {u1 : Int32} {u2 : Int32} {u3 : Int32} {u4 : Int32} {u5 : Int32} {u6 : Int32} {u7 : Int32} {u8 : Int32} {u9 : Int32} {u10 : Int32} {u11 : Int32} {u12 : Int32} {u13 : Nat → Int32} {u14 : Nat → Int32} {u15 : Nat → Int32} {u16 : Nat → Int32} {u17 : Nat → Int32} {u18 : Nat → Int32} {u19 : Int32} {u20 : Nat → Int32} {u21 : Int32} {u22 : Nat → Int32} {u23 : Nat → Int32}
theorem c_num {k i fa pl tk fr to va : Int32} {nm : Nat → Int32} {N : Nat} {m : Int} (hm : (nu_.getD (Int32.toNatClampNeg k) 0).toInt = m) (hi : i.toInt < m) (hi3 : i.toInt < 3) (h : fx (T_k_readLine_56 k n t pa cl ha ac us ra ch bo hu sa ak fl de pr mi hv u0 u1 u2 u3 u4 u5 u6 u7 u8 u9 u10 u11 u12 u13 u14 u15 u16 u17 u18 u19 u20 u21 u22 u23) (N + 1) (i, fa, pl, tk, fr, to, va, nm)) : ∃ tk' fr' to' va' : Int32, R_k_step n t va to tk' fr' to' va' ∧ ((tk'.toInt ≠ 2 ∧ u0 = 0 ∧ u1 = 1 ∧ u2 = fr') ∨ (tk'.toInt = 2 ∧ ∃ c fa' pl' : Int32, R_k_cannotBe (upd nm (Int32.toNatClampNeg i) va') i k c ∧ ((c.toInt = 0 ∧ fa' = fa ∧ pl' = pl) ∨ (c.toInt ≠ 0 ∧ R_k_note fa pl 2 fr' fa' pl')) ∧ fx (T_k_readLine_56 k n t pa cl ha ac us ra ch bo hu sa ak fl de pr mi hv u0 u1 u2 u3 u4 u5 u6 u7 u8 u9 u10 u11 u12 u13 u14 u15 u16 u17 u18 u19 u20 u21 u22 u23) N (i + 1, fa', pl', tk', fr', to', va', upd nm (Int32.toNatClampNeg i) va'))) := by
  have h := fx_o h
  dsimp only [T_k_readLine_56] at h
  obtain ⟨b0, e0, h⟩ := h
  have hb : b0.toInt = m := by rw [e0]; exact hm
  rcases h with ⟨c, -⟩ | ⟨c, ⟨c2, -⟩ | ⟨c2, tk', fr', to', va', hs, h⟩⟩
  · omega
  · omega
  · refine ⟨tk', fr', to', va', hs, ?_⟩
    rcases h with ⟨q, nm', en, c', hc, h⟩ | ⟨q, -, e0, e1, e2, -⟩
    · subst en
      rcases h with ⟨q2, i', ei, h⟩ | ⟨q2, fa', pl', hn, i', ei, h⟩
      · exact Or.inr ⟨q, c', fa, pl, hc, Or.inl ⟨q2, rfl, rfl⟩, by rw [← ei]; exact h⟩
      · exact Or.inr ⟨q, c', fa', pl', hc, Or.inr ⟨q2, hn⟩, by rw [← ei]; exact h⟩
    · exact Or.inl ⟨q, e0, e1, e2⟩
theorem c_end {k i fa pl tk fr to va : Int32} {nm : Nat → Int32} {N : Nat} {m : Int} (hm : (nu_.getD (Int32.toNatClampNeg k) 0).toInt = m) (hi : m ≤ i.toInt) (h : fx (T_k_readLine_56 k n t pa cl ha ac us ra ch bo hu sa ak fl de pr mi hv u0 u1 u2 u3 u4 u5 u6 u7 u8 u9 u10 u11 u12 u13 u14 u15 u16 u17 u18 u19 u20 u21 u22 u23) (N + 1) (i, fa, pl, tk, fr, to, va, nm)) : ∃ tk' fr' to' va' : Int32, R_k_step n t va to tk' fr' to' va' ∧ ((tk'.toInt ≠ 3 ∧ u0 = 0 ∧ u1 = 1 ∧ u2 = fr') ∨ (tk'.toInt = 3 ∧ u0 = 1 ∧ u1 = fa ∧ u2 = pl ∧ u5 = to' ∧ R_k_keepLine k nm pa cl ha ac us ra ch bo hu sa ak fl de pr mi hv u7 u8 u9 u10 u11 u12 u13 u14 u15 u16 u17 u18 u19 u20 u21 u22)) := by
  have h := fx_o h
  dsimp only [T_k_readLine_56] at h
  obtain ⟨b0, e0, h⟩ := h
  have hb : b0.toInt = m := by rw [e0]; exact hm
  rcases h with ⟨c, tk', fr', to', va', hs, h⟩ | ⟨c, -⟩
  · refine ⟨tk', fr', to', va', hs, ?_⟩
    rcases h with ⟨q, b1, b2, b3, b4, b5, b6, b7, b8, b9, b10, b11, b12, b13, b14, b15, b16, hk, e0, e1, e2, e3, e4, e5, e6, rfl, rfl, rfl, rfl, rfl, rfl, rfl, rfl, rfl, rfl, rfl, rfl, rfl, rfl, rfl, rfl, e23⟩ | ⟨q, -, e0, e1, e2, -⟩
    · exact Or.inr ⟨q, e0, e1, e2, e5, hk⟩
    · exact Or.inl ⟨q, e0, e1, e2⟩
  · omega
/-- one number more, in step -/
theorem jn {k i fa pl tk fr to va : Int32} {nm rd s : Nat → Int32} {N : Nat} {m : Int} {rc bg so vr wa lf lp idx lo hi but r rc' bg' so' vr' wa' lf' lp' : Int32} {wo wo' : Int64} {rd' : Nat → Int32} (hm : (nu_.getD (Int32.toNatClampNeg k) 0).toInt = m) (hi_ : i.toInt < m) (hi3 : i.toInt < 3) (hn : 0 ≤ n.toInt ∧ n.toInt ≤ 600) (hby : By s) (hag : Ag_ t s n.toInt) (hto : 0 ≤ to.toInt ∧ to.toInt ≤ n.toInt) (hC : CT t n.toInt to.toInt rc bg so vr wo) (hF : FR fa pl lf lp to.toInt)
    (hbad : ∀ v c : Int32, 0 ≤ v.toInt → R_k_cannotBe (upd nm (Int32.toNatClampNeg i) v) i k c → (c.toInt ≠ 0 ∧ (v.toInt < lo.toInt ∨ hi.toInt < v.toInt ∨ v.toInt = but.toInt)) ∨ (c.toInt = 0 ∧ lo.toInt ≤ v.toInt ∧ v.toInt ≤ hi.toInt ∧ v.toInt ≠ but.toInt))
    (h : fx (T_k_readLine_56 k n t pa cl ha ac us ra ch bo hu sa ak fl de pr mi hv u0 u1 u2 u3 u4 u5 u6 u7 u8 u9 u10 u11 u12 u13 u14 u15 u16 u17 u18 u19 u20 u21 u22 u23) (N + 1) (i, fa, pl, tk, fr, to, va, nm)) (hr : R_j_takeBut so rd idx vr lo hi but n s rc wa lf lp bg wo r rc' bg' so' vr' wo' wa' lf' lp' rd') :
    (u0 = 0 ∧ u1 = 1 ∧ r = 0 ∧ wa' = u2) ∨ (r = 1 ∧ ∃ fa' pl' tk2 fr2 to2 va2 : Int32, wa' = wa ∧ rd' = upd rd (Int32.toNatClampNeg idx) va2 ∧ to.toInt < to2.toInt ∧ to2.toInt ≤ n.toInt ∧ CT t n.toInt to2.toInt rc' bg' so' vr' wo' ∧ FR fa' pl' lf' lp' to2.toInt ∧ fx (T_k_readLine_56 k n t pa cl ha ac us ra ch bo hu sa ak fl de pr mi hv u0 u1 u2 u3 u4 u5 u6 u7 u8 u9 u10 u11 u12 u13 u14 u15 u16 u17 u18 u19 u20 u21 u22 u23) N (i + 1, fa', pl', tk2, fr2, to2, va2, upd nm (Int32.toNatClampNeg i) va2)) := by
  obtain ⟨tk2, fr2, to2, va2, hs, h⟩ := c_num hm hi_ hi3 h
  have hT := step_sp hn hto hs
  obtain ⟨kk, hT', hsc, hwd⟩ := hC
  obtain ⟨ek, ef, ee, ev⟩ := Tk_u hT hT'
  have go := Tk_go hT
  unfold Sc at hsc
  rcases hr with ⟨q, rdn, ern, b1, hin, hr⟩ | ⟨q, -, e0, e1, e2, e3, e4, e5, e6, -⟩
  · have hk2 : tk2.toInt = 2 := by omega
    have o2 : fr2.toInt < to2.toInt := by omega
    have o3 : to.toInt < to2.toInt := by omega
    have o4 : to.toInt ≤ to2.toInt := by omega
    rcases h with ⟨q2, -⟩ | ⟨-, c, fa', pl', hc, hnote, h⟩
    · exact absurd hk2 q2
    · have evv : va2 = vr := mi_eq (ev hk2)
      rw [hk2] at hT
      have hv := Tk_v hT
      have hb := hbad va2 c hv.1 hc
      have hin := in_sp hin
      have hrc : rc.toInt = to2.toInt := by omega
      have hbg : bg = fr2 := mi_eq (by omega)
      have ct : ∀ {w b2 b3 b4 b5 : Int32} {b6 : Int64}, R_j_token n s w rc b2 b3 b4 b5 b6 → CT t n.toInt to2.toInt b2 b3 b4 b5 b6 := by
        intro w b2 b3 b4 b5 b6 hh
        rw [← hrc]; exact tok_ct hby hag hn (by omega) hh
      have z10 : ((1 : Int32) = 0) → False := by decide
      subst evv
      rcases hr with ⟨e1, ⟨q3, b2, b3, b4, b5, b6, htok, f0, f1, f2, f3, f4, f5, f6, f7, f8, f9⟩ | ⟨q3, l1, l2, hlat, b2, b3, b4, b5, b6, htok, f0, f1, f2, f3, f4, f5, f6, f7, f8, f9⟩⟩ | ⟨e1, l1, l2, hlat, b2, b3, b4, b5, b6, htok, f0, f1, f2, f3, f4, f5, f6, f7, f8, f9⟩
      · have hc0 : c.toInt = 0 := by
          rcases hin with ⟨-, p1, p2⟩ | ⟨p, -⟩
          · omega
          · rw [e1] at p; exact absurd p z10
        rcases hnote with ⟨-, g1, g2⟩ | ⟨g, -⟩
        · refine Or.inr ⟨f0, fa', pl', tk2, fr2, to2, va2, f6, by rw [f9, ← ern], o3, go.2.2.1, ?_, ?_, h⟩
          · rw [f1, f2, f3, f4, f5]; exact ct htok
          · rw [g1, g2, f7, f8]; exact FR_mono hF o4
        · exact absurd hc0 g
      · have hc0 : c.toInt ≠ 0 := by omega
        rcases hnote with ⟨g, -⟩ | ⟨-, g⟩
        · exact absurd g hc0
        · refine Or.inr ⟨f0, fa', pl', tk2, fr2, to2, va2, f6, by rw [f9, ← ern], o3, go.2.2.1, ?_, ?_, h⟩
          · rw [f1, f2, f3, f4, f5]; exact ct htok
          · rw [f7, f8]; exact FR_note hF (Or.inl rfl) go.1 o2 hbg g hlat
      · have hc0 : c.toInt ≠ 0 := by
          rcases hin with ⟨p, -⟩ | ⟨-, p⟩
          · rw [e1] at p; exact absurd p.symm z10
          · omega
        rcases hnote with ⟨g, -⟩ | ⟨-, g⟩
        · exact absurd g hc0
        · refine Or.inr ⟨f0, fa', pl', tk2, fr2, to2, va2, f6, by rw [f9, ← ern], o3, go.2.2.1, ?_, ?_, h⟩
          · rw [f1, f2, f3, f4, f5]; exact ct htok
          · rw [f7, f8]; exact FR_note hF (Or.inl rfl) go.1 o2 hbg g hlat
  · have hk2 : tk2.toInt ≠ 2 := by omega
    rcases h with ⟨-, g0, g1, g2⟩ | ⟨q2, -⟩
    · exact Or.inl ⟨g0, g1, e0, by rw [e6, g2]; exact mi_eq (by omega)⟩
    · exact absurd q2 hk2
end LINE
theorem cb_0_0 {r : Nat → Int32} {c : Int32} (h : R_k_cannotBe r 0 0 c) : (c.toInt ≠ 0 ∧ ((r 0).toInt < 0 ∨ 99 < (r 0).toInt)) ∨ (c.toInt = 0 ∧ ¬ ((r 0).toInt < 0 ∨ 99 < (r 0).toInt)) := by
  obtain ⟨z1, e1, z2, e2, z3, e3, z4, e4, h⟩ := h
  have h1 : z1 = r 0 := e1
  have h3 : z3 = 0 := by rw [e3, e2]; decide
  have h4 : z4.toInt = 0 := by rw [e4, h3]; decide
  have kk : (0 : Int32).toInt = 0 := by decide
  have ii : (0 : Int32).toInt = 0 := by decide
  rw [← h1]
  rcases h with ⟨c1, e⟩ | ⟨c1, z8, e8, z9, e9, z10, e10, h⟩
  · exact Or.inl ⟨by rw [e]; decide, by omega⟩
  · have h9 : z9 = 0 := by rw [e9, e8]; decide
    have h10 : z10.toInt = 99 := by rw [e10, h9]; decide
    rcases h with ⟨c2, h⟩ | ⟨c2, e⟩
    · rcases h with ⟨c3, h⟩ | ⟨c3, e⟩
      · omega
      · exact Or.inr ⟨by rw [e]; decide, by omega⟩
    · exact Or.inl ⟨by rw [e]; decide, by omega⟩
theorem cb_0_1 {r : Nat → Int32} {c : Int32} (h : R_k_cannotBe r 1 0 c) : (c.toInt ≠ 0 ∧ ((r 1).toInt < 1 ∨ 2 < (r 1).toInt)) ∨ (c.toInt = 0 ∧ ¬ ((r 1).toInt < 1 ∨ 2 < (r 1).toInt)) := by
  obtain ⟨z1, e1, z2, e2, z3, e3, z4, e4, h⟩ := h
  have h1 : z1 = r 1 := e1
  have h3 : z3 = 1 := by rw [e3, e2]; decide
  have h4 : z4.toInt = 1 := by rw [e4, h3]; decide
  have kk : (0 : Int32).toInt = 0 := by decide
  have ii : (1 : Int32).toInt = 1 := by decide
  rw [← h1]
  rcases h with ⟨c1, e⟩ | ⟨c1, z8, e8, z9, e9, z10, e10, h⟩
  · exact Or.inl ⟨by rw [e]; decide, by omega⟩
  · have h9 : z9 = 1 := by rw [e9, e8]; decide
    have h10 : z10.toInt = 2 := by rw [e10, h9]; decide
    rcases h with ⟨c2, h⟩ | ⟨c2, e⟩
    · rcases h with ⟨c3, h⟩ | ⟨c3, e⟩
      · rcases h with ⟨c4, h⟩ | ⟨c4, z29, e29, h⟩
        · rcases h with ⟨c5, z18, e18, h⟩ | ⟨c5, h⟩
          · omega
          · rcases h with ⟨c6, e⟩ | ⟨c6, z25, e25, h⟩
            · exact Or.inr ⟨by rw [e]; decide, by omega⟩
            · omega
        · omega
      · omega
    · exact Or.inl ⟨by rw [e]; decide, by omega⟩
theorem cb_1_0 {r : Nat → Int32} {c : Int32} (h : R_k_cannotBe r 0 1 c) : (c.toInt ≠ 0 ∧ ((r 0).toInt < 0 ∨ 40 < (r 0).toInt)) ∨ (c.toInt = 0 ∧ ¬ ((r 0).toInt < 0 ∨ 40 < (r 0).toInt)) := by
  obtain ⟨z1, e1, z2, e2, z3, e3, z4, e4, h⟩ := h
  have h1 : z1 = r 0 := e1
  have h3 : z3 = 3 := by rw [e3, e2]; decide
  have h4 : z4.toInt = 0 := by rw [e4, h3]; decide
  have kk : (1 : Int32).toInt = 1 := by decide
  have ii : (0 : Int32).toInt = 0 := by decide
  rw [← h1]
  rcases h with ⟨c1, e⟩ | ⟨c1, z8, e8, z9, e9, z10, e10, h⟩
  · exact Or.inl ⟨by rw [e]; decide, by omega⟩
  · have h9 : z9 = 3 := by rw [e9, e8]; decide
    have h10 : z10.toInt = 40 := by rw [e10, h9]; decide
    rcases h with ⟨c2, h⟩ | ⟨c2, e⟩
    · rcases h with ⟨c3, h⟩ | ⟨c3, e⟩
      · omega
      · exact Or.inr ⟨by rw [e]; decide, by omega⟩
    · exact Or.inl ⟨by rw [e]; decide, by omega⟩
theorem cb_1_1 {r : Nat → Int32} {c : Int32} (h : R_k_cannotBe r 1 1 c) : (c.toInt ≠ 0 ∧ ((r 1).toInt < 0 ∨ 400 < (r 1).toInt)) ∨ (c.toInt = 0 ∧ ¬ ((r 1).toInt < 0 ∨ 400 < (r 1).toInt)) := by
  obtain ⟨z1, e1, z2, e2, z3, e3, z4, e4, h⟩ := h
  have h1 : z1 = r 1 := e1
  have h3 : z3 = 4 := by rw [e3, e2]; decide
  have h4 : z4.toInt = 0 := by rw [e4, h3]; decide
  have kk : (1 : Int32).toInt = 1 := by decide
  have ii : (1 : Int32).toInt = 1 := by decide
  rw [← h1]
  rcases h with ⟨c1, e⟩ | ⟨c1, z8, e8, z9, e9, z10, e10, h⟩
  · exact Or.inl ⟨by rw [e]; decide, by omega⟩
  · have h9 : z9 = 4 := by rw [e9, e8]; decide
    have h10 : z10.toInt = 400 := by rw [e10, h9]; decide
    rcases h with ⟨c2, h⟩ | ⟨c2, e⟩
    · rcases h with ⟨c3, h⟩ | ⟨c3, e⟩
      · rcases h with ⟨c4, h⟩ | ⟨c4, z29, e29, h⟩
        · rcases h with ⟨c5, z18, e18, h⟩ | ⟨c5, h⟩
          · omega
          · rcases h with ⟨c6, e⟩ | ⟨c6, z25, e25, h⟩
            · exact Or.inr ⟨by rw [e]; decide, by omega⟩
            · omega
        · omega
      · omega
    · exact Or.inl ⟨by rw [e]; decide, by omega⟩
theorem cb_2_0 {r : Nat → Int32} {c : Int32} (h : R_k_cannotBe r 0 2 c) : (c.toInt ≠ 0 ∧ ((r 0).toInt < 0 ∨ 30 < (r 0).toInt)) ∨ (c.toInt = 0 ∧ ¬ ((r 0).toInt < 0 ∨ 30 < (r 0).toInt)) := by
  obtain ⟨z1, e1, z2, e2, z3, e3, z4, e4, h⟩ := h
  have h1 : z1 = r 0 := e1
  have h3 : z3 = 6 := by rw [e3, e2]; decide
  have h4 : z4.toInt = 0 := by rw [e4, h3]; decide
  have kk : (2 : Int32).toInt = 2 := by decide
  have ii : (0 : Int32).toInt = 0 := by decide
  rw [← h1]
  rcases h with ⟨c1, e⟩ | ⟨c1, z8, e8, z9, e9, z10, e10, h⟩
  · exact Or.inl ⟨by rw [e]; decide, by omega⟩
  · have h9 : z9 = 6 := by rw [e9, e8]; decide
    have h10 : z10.toInt = 30 := by rw [e10, h9]; decide
    rcases h with ⟨c2, h⟩ | ⟨c2, e⟩
    · rcases h with ⟨c3, h⟩ | ⟨c3, e⟩
      · omega
      · exact Or.inr ⟨by rw [e]; decide, by omega⟩
    · exact Or.inl ⟨by rw [e]; decide, by omega⟩
theorem cb_2_1 {r : Nat → Int32} {c : Int32} (h : R_k_cannotBe r 1 2 c) : (c.toInt ≠ 0 ∧ ((r 1).toInt < 0 ∨ 30 < (r 1).toInt ∨ (r 0).toInt < (r 1).toInt)) ∨ (c.toInt = 0 ∧ ¬ ((r 1).toInt < 0 ∨ 30 < (r 1).toInt ∨ (r 0).toInt < (r 1).toInt)) := by
  obtain ⟨z1, e1, z2, e2, z3, e3, z4, e4, h⟩ := h
  have h1 : z1 = r 1 := e1
  have h3 : z3 = 7 := by rw [e3, e2]; decide
  have h4 : z4.toInt = 0 := by rw [e4, h3]; decide
  have kk : (2 : Int32).toInt = 2 := by decide
  have ii : (1 : Int32).toInt = 1 := by decide
  rw [← h1]
  rcases h with ⟨c1, e⟩ | ⟨c1, z8, e8, z9, e9, z10, e10, h⟩
  · exact Or.inl ⟨by rw [e]; decide, by omega⟩
  · have h9 : z9 = 7 := by rw [e9, e8]; decide
    have h10 : z10.toInt = 30 := by rw [e10, h9]; decide
    rcases h with ⟨c2, h⟩ | ⟨c2, e⟩
    · rcases h with ⟨c3, h⟩ | ⟨c3, e⟩
      · rcases h with ⟨c4, h⟩ | ⟨c4, z29, e29, h⟩
        · omega
        · have h29 : z29 = r 0 := e29
          rw [← h29]
          rcases h with ⟨c5, e⟩ | ⟨c5, e⟩
          · exact Or.inr ⟨by rw [e]; decide, by omega⟩
          · exact Or.inl ⟨by rw [e]; decide, by omega⟩
      · omega
    · exact Or.inl ⟨by rw [e]; decide, by omega⟩
theorem cb_3_0 {r : Nat → Int32} {c : Int32} (h : R_k_cannotBe r 0 3 c) : (c.toInt ≠ 0 ∧ ((r 0).toInt < 0 ∨ 50 < (r 0).toInt)) ∨ (c.toInt = 0 ∧ ¬ ((r 0).toInt < 0 ∨ 50 < (r 0).toInt)) := by
  obtain ⟨z1, e1, z2, e2, z3, e3, z4, e4, h⟩ := h
  have h1 : z1 = r 0 := e1
  have h3 : z3 = 9 := by rw [e3, e2]; decide
  have h4 : z4.toInt = 0 := by rw [e4, h3]; decide
  have kk : (3 : Int32).toInt = 3 := by decide
  have ii : (0 : Int32).toInt = 0 := by decide
  rw [← h1]
  rcases h with ⟨c1, e⟩ | ⟨c1, z8, e8, z9, e9, z10, e10, h⟩
  · exact Or.inl ⟨by rw [e]; decide, by omega⟩
  · have h9 : z9 = 9 := by rw [e9, e8]; decide
    have h10 : z10.toInt = 50 := by rw [e10, h9]; decide
    rcases h with ⟨c2, h⟩ | ⟨c2, e⟩
    · rcases h with ⟨c3, h⟩ | ⟨c3, e⟩
      · omega
      · exact Or.inr ⟨by rw [e]; decide, by omega⟩
    · exact Or.inl ⟨by rw [e]; decide, by omega⟩
theorem cb_4_0 {r : Nat → Int32} {c : Int32} (h : R_k_cannotBe r 0 4 c) : (c.toInt ≠ 0 ∧ ((r 0).toInt < 0 ∨ 999 < (r 0).toInt)) ∨ (c.toInt = 0 ∧ ¬ ((r 0).toInt < 0 ∨ 999 < (r 0).toInt)) := by
  obtain ⟨z1, e1, z2, e2, z3, e3, z4, e4, h⟩ := h
  have h1 : z1 = r 0 := e1
  have h3 : z3 = 12 := by rw [e3, e2]; decide
  have h4 : z4.toInt = 0 := by rw [e4, h3]; decide
  have kk : (4 : Int32).toInt = 4 := by decide
  have ii : (0 : Int32).toInt = 0 := by decide
  rw [← h1]
  rcases h with ⟨c1, e⟩ | ⟨c1, z8, e8, z9, e9, z10, e10, h⟩
  · exact Or.inl ⟨by rw [e]; decide, by omega⟩
  · have h9 : z9 = 12 := by rw [e9, e8]; decide
    have h10 : z10.toInt = 999 := by rw [e10, h9]; decide
    rcases h with ⟨c2, h⟩ | ⟨c2, e⟩
    · rcases h with ⟨c3, h⟩ | ⟨c3, e⟩
      · omega
      · exact Or.inr ⟨by rw [e]; decide, by omega⟩
    · exact Or.inl ⟨by rw [e]; decide, by omega⟩
theorem cb_5_0 {r : Nat → Int32} {c : Int32} (h : R_k_cannotBe r 0 5 c) : (c.toInt ≠ 0 ∧ ((r 0).toInt < 0 ∨ 20 < (r 0).toInt)) ∨ (c.toInt = 0 ∧ ¬ ((r 0).toInt < 0 ∨ 20 < (r 0).toInt)) := by
  obtain ⟨z1, e1, z2, e2, z3, e3, z4, e4, h⟩ := h
  have h1 : z1 = r 0 := e1
  have h3 : z3 = 15 := by rw [e3, e2]; decide
  have h4 : z4.toInt = 0 := by rw [e4, h3]; decide
  have kk : (5 : Int32).toInt = 5 := by decide
  have ii : (0 : Int32).toInt = 0 := by decide
  rw [← h1]
  rcases h with ⟨c1, e⟩ | ⟨c1, z8, e8, z9, e9, z10, e10, h⟩
  · exact Or.inl ⟨by rw [e]; decide, by omega⟩
  · have h9 : z9 = 15 := by rw [e9, e8]; decide
    have h10 : z10.toInt = 20 := by rw [e10, h9]; decide
    rcases h with ⟨c2, h⟩ | ⟨c2, e⟩
    · rcases h with ⟨c3, h⟩ | ⟨c3, e⟩
      · omega
      · exact Or.inr ⟨by rw [e]; decide, by omega⟩
    · exact Or.inl ⟨by rw [e]; decide, by omega⟩
theorem cb_6_0 {r : Nat → Int32} {c : Int32} (h : R_k_cannotBe r 0 6 c) : (c.toInt ≠ 0 ∧ ((r 0).toInt < 0 ∨ 4 < (r 0).toInt)) ∨ (c.toInt = 0 ∧ ¬ ((r 0).toInt < 0 ∨ 4 < (r 0).toInt)) := by
  obtain ⟨z1, e1, z2, e2, z3, e3, z4, e4, h⟩ := h
  have h1 : z1 = r 0 := e1
  have h3 : z3 = 18 := by rw [e3, e2]; decide
  have h4 : z4.toInt = 0 := by rw [e4, h3]; decide
  have kk : (6 : Int32).toInt = 6 := by decide
  have ii : (0 : Int32).toInt = 0 := by decide
  rw [← h1]
  rcases h with ⟨c1, e⟩ | ⟨c1, z8, e8, z9, e9, z10, e10, h⟩
  · exact Or.inl ⟨by rw [e]; decide, by omega⟩
  · have h9 : z9 = 18 := by rw [e9, e8]; decide
    have h10 : z10.toInt = 4 := by rw [e10, h9]; decide
    rcases h with ⟨c2, h⟩ | ⟨c2, e⟩
    · rcases h with ⟨c3, h⟩ | ⟨c3, e⟩
      · omega
      · exact Or.inr ⟨by rw [e]; decide, by omega⟩
    · exact Or.inl ⟨by rw [e]; decide, by omega⟩
theorem cb_6_1 {r : Nat → Int32} {c : Int32} (h : R_k_cannotBe r 1 6 c) : (c.toInt ≠ 0 ∧ ((r 1).toInt < 0 ∨ 5 < (r 1).toInt)) ∨ (c.toInt = 0 ∧ ¬ ((r 1).toInt < 0 ∨ 5 < (r 1).toInt)) := by
  obtain ⟨z1, e1, z2, e2, z3, e3, z4, e4, h⟩ := h
  have h1 : z1 = r 1 := e1
  have h3 : z3 = 19 := by rw [e3, e2]; decide
  have h4 : z4.toInt = 0 := by rw [e4, h3]; decide
  have kk : (6 : Int32).toInt = 6 := by decide
  have ii : (1 : Int32).toInt = 1 := by decide
  rw [← h1]
  rcases h with ⟨c1, e⟩ | ⟨c1, z8, e8, z9, e9, z10, e10, h⟩
  · exact Or.inl ⟨by rw [e]; decide, by omega⟩
  · have h9 : z9 = 19 := by rw [e9, e8]; decide
    have h10 : z10.toInt = 5 := by rw [e10, h9]; decide
    rcases h with ⟨c2, h⟩ | ⟨c2, e⟩
    · rcases h with ⟨c3, h⟩ | ⟨c3, e⟩
      · rcases h with ⟨c4, h⟩ | ⟨c4, z29, e29, h⟩
        · rcases h with ⟨c5, z18, e18, h⟩ | ⟨c5, h⟩
          · omega
          · rcases h with ⟨c6, e⟩ | ⟨c6, z25, e25, h⟩
            · exact Or.inr ⟨by rw [e]; decide, by omega⟩
            · omega
        · omega
      · omega
    · exact Or.inl ⟨by rw [e]; decide, by omega⟩
theorem cb_6_2 {r : Nat → Int32} {c : Int32} (h : R_k_cannotBe r 2 6 c) : (c.toInt ≠ 0 ∧ ((r 2).toInt < 1 ∨ 99 < (r 2).toInt)) ∨ (c.toInt = 0 ∧ ¬ ((r 2).toInt < 1 ∨ 99 < (r 2).toInt)) := by
  obtain ⟨z1, e1, z2, e2, z3, e3, z4, e4, h⟩ := h
  have h1 : z1 = r 2 := e1
  have h3 : z3 = 20 := by rw [e3, e2]; decide
  have h4 : z4.toInt = 1 := by rw [e4, h3]; decide
  have kk : (6 : Int32).toInt = 6 := by decide
  have ii : (2 : Int32).toInt = 2 := by decide
  rw [← h1]
  rcases h with ⟨c1, e⟩ | ⟨c1, z8, e8, z9, e9, z10, e10, h⟩
  · exact Or.inl ⟨by rw [e]; decide, by omega⟩
  · have h9 : z9 = 20 := by rw [e9, e8]; decide
    have h10 : z10.toInt = 99 := by rw [e10, h9]; decide
    rcases h with ⟨c2, h⟩ | ⟨c2, e⟩
    · rcases h with ⟨c3, h⟩ | ⟨c3, e⟩
      · omega
      · exact Or.inr ⟨by rw [e]; decide, by omega⟩
    · exact Or.inl ⟨by rw [e]; decide, by omega⟩
theorem cb_7_0 {r : Nat → Int32} {c : Int32} (h : R_k_cannotBe r 0 7 c) : (c.toInt ≠ 0 ∧ ((r 0).toInt < 0 ∨ 4 < (r 0).toInt)) ∨ (c.toInt = 0 ∧ ¬ ((r 0).toInt < 0 ∨ 4 < (r 0).toInt)) := by
  obtain ⟨z1, e1, z2, e2, z3, e3, z4, e4, h⟩ := h
  have h1 : z1 = r 0 := e1
  have h3 : z3 = 21 := by rw [e3, e2]; decide
  have h4 : z4.toInt = 0 := by rw [e4, h3]; decide
  have kk : (7 : Int32).toInt = 7 := by decide
  have ii : (0 : Int32).toInt = 0 := by decide
  rw [← h1]
  rcases h with ⟨c1, e⟩ | ⟨c1, z8, e8, z9, e9, z10, e10, h⟩
  · exact Or.inl ⟨by rw [e]; decide, by omega⟩
  · have h9 : z9 = 21 := by rw [e9, e8]; decide
    have h10 : z10.toInt = 4 := by rw [e10, h9]; decide
    rcases h with ⟨c2, h⟩ | ⟨c2, e⟩
    · rcases h with ⟨c3, h⟩ | ⟨c3, e⟩
      · omega
      · exact Or.inr ⟨by rw [e]; decide, by omega⟩
    · exact Or.inl ⟨by rw [e]; decide, by omega⟩
theorem cb_7_1 {r : Nat → Int32} {c : Int32} (h : R_k_cannotBe r 1 7 c) : (c.toInt ≠ 0 ∧ ((r 1).toInt < 0 ∨ 4 < (r 1).toInt ∨ (r 1).toInt = (r 0).toInt)) ∨ (c.toInt = 0 ∧ ¬ ((r 1).toInt < 0 ∨ 4 < (r 1).toInt ∨ (r 1).toInt = (r 0).toInt)) := by
  obtain ⟨z1, e1, z2, e2, z3, e3, z4, e4, h⟩ := h
  have h1 : z1 = r 1 := e1
  have h3 : z3 = 22 := by rw [e3, e2]; decide
  have h4 : z4.toInt = 0 := by rw [e4, h3]; decide
  have kk : (7 : Int32).toInt = 7 := by decide
  have ii : (1 : Int32).toInt = 1 := by decide
  rw [← h1]
  rcases h with ⟨c1, e⟩ | ⟨c1, z8, e8, z9, e9, z10, e10, h⟩
  · exact Or.inl ⟨by rw [e]; decide, by omega⟩
  · have h9 : z9 = 22 := by rw [e9, e8]; decide
    have h10 : z10.toInt = 4 := by rw [e10, h9]; decide
    rcases h with ⟨c2, h⟩ | ⟨c2, e⟩
    · rcases h with ⟨c3, h⟩ | ⟨c3, e⟩
      · rcases h with ⟨c4, h⟩ | ⟨c4, z29, e29, h⟩
        · rcases h with ⟨c5, z18, e18, h⟩ | ⟨c5, h⟩
          · have h18 : z18 = r 0 := e18
            rw [← h18]
            rcases h with ⟨c6, e⟩ | ⟨c6, e⟩
            · exact Or.inr ⟨by rw [e]; decide, by omega⟩
            · exact Or.inl ⟨by rw [e]; decide, by omega⟩
          · omega
        · omega
      · omega
    · exact Or.inl ⟨by rw [e]; decide, by omega⟩
theorem cb_7_2 {r : Nat → Int32} {c : Int32} (h : R_k_cannotBe r 2 7 c) : (c.toInt ≠ 0 ∧ ((r 2).toInt < 1 ∨ 99 < (r 2).toInt)) ∨ (c.toInt = 0 ∧ ¬ ((r 2).toInt < 1 ∨ 99 < (r 2).toInt)) := by
  obtain ⟨z1, e1, z2, e2, z3, e3, z4, e4, h⟩ := h
  have h1 : z1 = r 2 := e1
  have h3 : z3 = 23 := by rw [e3, e2]; decide
  have h4 : z4.toInt = 1 := by rw [e4, h3]; decide
  have kk : (7 : Int32).toInt = 7 := by decide
  have ii : (2 : Int32).toInt = 2 := by decide
  rw [← h1]
  rcases h with ⟨c1, e⟩ | ⟨c1, z8, e8, z9, e9, z10, e10, h⟩
  · exact Or.inl ⟨by rw [e]; decide, by omega⟩
  · have h9 : z9 = 23 := by rw [e9, e8]; decide
    have h10 : z10.toInt = 99 := by rw [e10, h9]; decide
    rcases h with ⟨c2, h⟩ | ⟨c2, e⟩
    · rcases h with ⟨c3, h⟩ | ⟨c3, e⟩
      · omega
      · exact Or.inr ⟨by rw [e]; decide, by omega⟩
    · exact Or.inl ⟨by rw [e]; decide, by omega⟩
theorem cb_8_0 {r : Nat → Int32} {c : Int32} (h : R_k_cannotBe r 0 8 c) : (c.toInt ≠ 0 ∧ ((r 0).toInt < 0 ∨ 4 < (r 0).toInt)) ∨ (c.toInt = 0 ∧ ¬ ((r 0).toInt < 0 ∨ 4 < (r 0).toInt)) := by
  obtain ⟨z1, e1, z2, e2, z3, e3, z4, e4, h⟩ := h
  have h1 : z1 = r 0 := e1
  have h3 : z3 = 24 := by rw [e3, e2]; decide
  have h4 : z4.toInt = 0 := by rw [e4, h3]; decide
  have kk : (8 : Int32).toInt = 8 := by decide
  have ii : (0 : Int32).toInt = 0 := by decide
  rw [← h1]
  rcases h with ⟨c1, e⟩ | ⟨c1, z8, e8, z9, e9, z10, e10, h⟩
  · exact Or.inl ⟨by rw [e]; decide, by omega⟩
  · have h9 : z9 = 24 := by rw [e9, e8]; decide
    have h10 : z10.toInt = 4 := by rw [e10, h9]; decide
    rcases h with ⟨c2, h⟩ | ⟨c2, e⟩
    · rcases h with ⟨c3, h⟩ | ⟨c3, e⟩
      · omega
      · exact Or.inr ⟨by rw [e]; decide, by omega⟩
    · exact Or.inl ⟨by rw [e]; decide, by omega⟩
theorem cb_8_1 {r : Nat → Int32} {c : Int32} (h : R_k_cannotBe r 1 8 c) : (c.toInt ≠ 0 ∧ ((r 1).toInt < 0 ∨ 4 < (r 1).toInt ∨ (r 1).toInt = (r 0).toInt)) ∨ (c.toInt = 0 ∧ ¬ ((r 1).toInt < 0 ∨ 4 < (r 1).toInt ∨ (r 1).toInt = (r 0).toInt)) := by
  obtain ⟨z1, e1, z2, e2, z3, e3, z4, e4, h⟩ := h
  have h1 : z1 = r 1 := e1
  have h3 : z3 = 25 := by rw [e3, e2]; decide
  have h4 : z4.toInt = 0 := by rw [e4, h3]; decide
  have kk : (8 : Int32).toInt = 8 := by decide
  have ii : (1 : Int32).toInt = 1 := by decide
  rw [← h1]
  rcases h with ⟨c1, e⟩ | ⟨c1, z8, e8, z9, e9, z10, e10, h⟩
  · exact Or.inl ⟨by rw [e]; decide, by omega⟩
  · have h9 : z9 = 25 := by rw [e9, e8]; decide
    have h10 : z10.toInt = 4 := by rw [e10, h9]; decide
    rcases h with ⟨c2, h⟩ | ⟨c2, e⟩
    · rcases h with ⟨c3, h⟩ | ⟨c3, e⟩
      · rcases h with ⟨c4, h⟩ | ⟨c4, z29, e29, h⟩
        · rcases h with ⟨c5, z18, e18, h⟩ | ⟨c5, h⟩
          · omega
          · rcases h with ⟨c6, e⟩ | ⟨c6, z25, e25, h⟩
            · omega
            · have h25 : z25 = r 0 := e25
              rw [← h25]
              rcases h with ⟨c7, e⟩ | ⟨c7, e⟩
              · exact Or.inr ⟨by rw [e]; decide, by omega⟩
              · exact Or.inl ⟨by rw [e]; decide, by omega⟩
        · omega
      · omega
    · exact Or.inl ⟨by rw [e]; decide, by omega⟩
theorem cb_8_2 {r : Nat → Int32} {c : Int32} (h : R_k_cannotBe r 2 8 c) : (c.toInt ≠ 0 ∧ ((r 2).toInt < 1 ∨ 99 < (r 2).toInt)) ∨ (c.toInt = 0 ∧ ¬ ((r 2).toInt < 1 ∨ 99 < (r 2).toInt)) := by
  obtain ⟨z1, e1, z2, e2, z3, e3, z4, e4, h⟩ := h
  have h1 : z1 = r 2 := e1
  have h3 : z3 = 26 := by rw [e3, e2]; decide
  have h4 : z4.toInt = 1 := by rw [e4, h3]; decide
  have kk : (8 : Int32).toInt = 8 := by decide
  have ii : (2 : Int32).toInt = 2 := by decide
  rw [← h1]
  rcases h with ⟨c1, e⟩ | ⟨c1, z8, e8, z9, e9, z10, e10, h⟩
  · exact Or.inl ⟨by rw [e]; decide, by omega⟩
  · have h9 : z9 = 26 := by rw [e9, e8]; decide
    have h10 : z10.toInt = 99 := by rw [e10, h9]; decide
    rcases h with ⟨c2, h⟩ | ⟨c2, e⟩
    · rcases h with ⟨c3, h⟩ | ⟨c3, e⟩
      · omega
      · exact Or.inr ⟨by rw [e]; decide, by omega⟩
    · exact Or.inl ⟨by rw [e]; decide, by omega⟩
theorem cb_9_0 {r : Nat → Int32} {c : Int32} (h : R_k_cannotBe r 0 9 c) : (c.toInt ≠ 0 ∧ ((r 0).toInt < 0 ∨ 5 < (r 0).toInt)) ∨ (c.toInt = 0 ∧ ¬ ((r 0).toInt < 0 ∨ 5 < (r 0).toInt)) := by
  obtain ⟨z1, e1, z2, e2, z3, e3, z4, e4, h⟩ := h
  have h1 : z1 = r 0 := e1
  have h3 : z3 = 27 := by rw [e3, e2]; decide
  have h4 : z4.toInt = 0 := by rw [e4, h3]; decide
  have kk : (9 : Int32).toInt = 9 := by decide
  have ii : (0 : Int32).toInt = 0 := by decide
  rw [← h1]
  rcases h with ⟨c1, e⟩ | ⟨c1, z8, e8, z9, e9, z10, e10, h⟩
  · exact Or.inl ⟨by rw [e]; decide, by omega⟩
  · have h9 : z9 = 27 := by rw [e9, e8]; decide
    have h10 : z10.toInt = 5 := by rw [e10, h9]; decide
    rcases h with ⟨c2, h⟩ | ⟨c2, e⟩
    · rcases h with ⟨c3, h⟩ | ⟨c3, e⟩
      · omega
      · exact Or.inr ⟨by rw [e]; decide, by omega⟩
    · exact Or.inl ⟨by rw [e]; decide, by omega⟩
theorem cb_9_1 {r : Nat → Int32} {c : Int32} (h : R_k_cannotBe r 1 9 c) : (c.toInt ≠ 0 ∧ ((r 1).toInt < 0 ∨ 4 < (r 1).toInt)) ∨ (c.toInt = 0 ∧ ¬ ((r 1).toInt < 0 ∨ 4 < (r 1).toInt)) := by
  obtain ⟨z1, e1, z2, e2, z3, e3, z4, e4, h⟩ := h
  have h1 : z1 = r 1 := e1
  have h3 : z3 = 28 := by rw [e3, e2]; decide
  have h4 : z4.toInt = 0 := by rw [e4, h3]; decide
  have kk : (9 : Int32).toInt = 9 := by decide
  have ii : (1 : Int32).toInt = 1 := by decide
  rw [← h1]
  rcases h with ⟨c1, e⟩ | ⟨c1, z8, e8, z9, e9, z10, e10, h⟩
  · exact Or.inl ⟨by rw [e]; decide, by omega⟩
  · have h9 : z9 = 28 := by rw [e9, e8]; decide
    have h10 : z10.toInt = 4 := by rw [e10, h9]; decide
    rcases h with ⟨c2, h⟩ | ⟨c2, e⟩
    · rcases h with ⟨c3, h⟩ | ⟨c3, e⟩
      · rcases h with ⟨c4, h⟩ | ⟨c4, z29, e29, h⟩
        · rcases h with ⟨c5, z18, e18, h⟩ | ⟨c5, h⟩
          · omega
          · rcases h with ⟨c6, e⟩ | ⟨c6, z25, e25, h⟩
            · exact Or.inr ⟨by rw [e]; decide, by omega⟩
            · omega
        · omega
      · omega
    · exact Or.inl ⟨by rw [e]; decide, by omega⟩
theorem cb_9_2 {r : Nat → Int32} {c : Int32} (h : R_k_cannotBe r 2 9 c) : (c.toInt ≠ 0 ∧ ((r 2).toInt < 1 ∨ 99 < (r 2).toInt)) ∨ (c.toInt = 0 ∧ ¬ ((r 2).toInt < 1 ∨ 99 < (r 2).toInt)) := by
  obtain ⟨z1, e1, z2, e2, z3, e3, z4, e4, h⟩ := h
  have h1 : z1 = r 2 := e1
  have h3 : z3 = 29 := by rw [e3, e2]; decide
  have h4 : z4.toInt = 1 := by rw [e4, h3]; decide
  have kk : (9 : Int32).toInt = 9 := by decide
  have ii : (2 : Int32).toInt = 2 := by decide
  rw [← h1]
  rcases h with ⟨c1, e⟩ | ⟨c1, z8, e8, z9, e9, z10, e10, h⟩
  · exact Or.inl ⟨by rw [e]; decide, by omega⟩
  · have h9 : z9 = 29 := by rw [e9, e8]; decide
    have h10 : z10.toInt = 99 := by rw [e10, h9]; decide
    rcases h with ⟨c2, h⟩ | ⟨c2, e⟩
    · rcases h with ⟨c3, h⟩ | ⟨c3, e⟩
      · omega
      · exact Or.inr ⟨by rw [e]; decide, by omega⟩
    · exact Or.inl ⟨by rw [e]; decide, by omega⟩
theorem cb_10_0 {r : Nat → Int32} {c : Int32} (h : R_k_cannotBe r 0 10 c) : (c.toInt ≠ 0 ∧ ((r 0).toInt < 0 ∨ 5 < (r 0).toInt)) ∨ (c.toInt = 0 ∧ ¬ ((r 0).toInt < 0 ∨ 5 < (r 0).toInt)) := by
  obtain ⟨z1, e1, z2, e2, z3, e3, z4, e4, h⟩ := h
  have h1 : z1 = r 0 := e1
  have h3 : z3 = 30 := by rw [e3, e2]; decide
  have h4 : z4.toInt = 0 := by rw [e4, h3]; decide
  have kk : (10 : Int32).toInt = 10 := by decide
  have ii : (0 : Int32).toInt = 0 := by decide
  rw [← h1]
  rcases h with ⟨c1, e⟩ | ⟨c1, z8, e8, z9, e9, z10, e10, h⟩
  · exact Or.inl ⟨by rw [e]; decide, by omega⟩
  · have h9 : z9 = 30 := by rw [e9, e8]; decide
    have h10 : z10.toInt = 5 := by rw [e10, h9]; decide
    rcases h with ⟨c2, h⟩ | ⟨c2, e⟩
    · rcases h with ⟨c3, h⟩ | ⟨c3, e⟩
      · omega
      · exact Or.inr ⟨by rw [e]; decide, by omega⟩
    · exact Or.inl ⟨by rw [e]; decide, by omega⟩
theorem cb_10_1 {r : Nat → Int32} {c : Int32} (h : R_k_cannotBe r 1 10 c) : (c.toInt ≠ 0 ∧ ((r 1).toInt < 1 ∨ 99 < (r 1).toInt)) ∨ (c.toInt = 0 ∧ ¬ ((r 1).toInt < 1 ∨ 99 < (r 1).toInt)) := by
  obtain ⟨z1, e1, z2, e2, z3, e3, z4, e4, h⟩ := h
  have h1 : z1 = r 1 := e1
  have h3 : z3 = 31 := by rw [e3, e2]; decide
  have h4 : z4.toInt = 1 := by rw [e4, h3]; decide
  have kk : (10 : Int32).toInt = 10 := by decide
  have ii : (1 : Int32).toInt = 1 := by decide
  rw [← h1]
  rcases h with ⟨c1, e⟩ | ⟨c1, z8, e8, z9, e9, z10, e10, h⟩
  · exact Or.inl ⟨by rw [e]; decide, by omega⟩
  · have h9 : z9 = 31 := by rw [e9, e8]; decide
    have h10 : z10.toInt = 99 := by rw [e10, h9]; decide
    rcases h with ⟨c2, h⟩ | ⟨c2, e⟩
    · rcases h with ⟨c3, h⟩ | ⟨c3, e⟩
      · rcases h with ⟨c4, h⟩ | ⟨c4, z29, e29, h⟩
        · rcases h with ⟨c5, z18, e18, h⟩ | ⟨c5, h⟩
          · omega
          · rcases h with ⟨c6, e⟩ | ⟨c6, z25, e25, h⟩
            · exact Or.inr ⟨by rw [e]; decide, by omega⟩
            · omega
        · omega
      · omega
    · exact Or.inl ⟨by rw [e]; decide, by omega⟩
theorem cb_13_0 {r : Nat → Int32} {c : Int32} (h : R_k_cannotBe r 0 13 c) : (c.toInt ≠ 0 ∧ ((r 0).toInt < 0 ∨ 10 < (r 0).toInt)) ∨ (c.toInt = 0 ∧ ¬ ((r 0).toInt < 0 ∨ 10 < (r 0).toInt)) := by
  obtain ⟨z1, e1, z2, e2, z3, e3, z4, e4, h⟩ := h
  have h1 : z1 = r 0 := e1
  have h3 : z3 = 39 := by rw [e3, e2]; decide
  have h4 : z4.toInt = 0 := by rw [e4, h3]; decide
  have kk : (13 : Int32).toInt = 13 := by decide
  have ii : (0 : Int32).toInt = 0 := by decide
  rw [← h1]
  rcases h with ⟨c1, e⟩ | ⟨c1, z8, e8, z9, e9, z10, e10, h⟩
  · exact Or.inl ⟨by rw [e]; decide, by omega⟩
  · have h9 : z9 = 39 := by rw [e9, e8]; decide
    have h10 : z10.toInt = 10 := by rw [e10, h9]; decide
    rcases h with ⟨c2, h⟩ | ⟨c2, e⟩
    · rcases h with ⟨c3, h⟩ | ⟨c3, e⟩
      · omega
      · exact Or.inr ⟨by rw [e]; decide, by omega⟩
    · exact Or.inl ⟨by rw [e]; decide, by omega⟩
