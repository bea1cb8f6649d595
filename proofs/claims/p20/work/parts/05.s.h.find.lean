/-! the dark: findDark() -/
def Row (M : Nat) (f : Nat → Int64) (b : Int) (k : Nat) : Prop := k ≤ M → ∀ t : Nat, t < 16807 → 0 ≤ (f (16807 * k + t)).toInt ∧ (f (16807 * k + t)).toInt ≤ b
theorem p32_6 {r : Nat} (h : r ≤ 6) : 1 ≤ p32 r ∧ p32 r ≤ 1073741824 := by
  rcases (by omega : r = 0 ∨ r = 1 ∨ r = 2 ∨ r = 3 ∨ r = 4 ∨ r = 5 ∨ r = 6) with rfl | rfl | rfl | rfl | rfl | rfl | rfl <;> decide
theorem p32_s (r : Nat) : p32 (r + 1) = 32 * p32 r := rfl
theorem tb_rng {pa : Int32} {cl : Nat → Int32} {h : Nat → Int} {H : Int} {f g : Nat → Int} {s S : Nat} {B : Int} (hpa : 0 ≤ pa.toInt ∧ pa.toInt ≤ 5) (hS : S < 2 ^ pa.toInt.toNat) (hs : s < 7 ^ pa.toInt.toNat) (hB : 0 ≤ B) (hg : ∀ s : Nat, s < 7 ^ pa.toInt.toNat → 0 ≤ g s ∧ g s ≤ B) : 0 ≤ tbk pa cl h H f g s S ∧ tbk pa cl h H f g s S ≤ B := by
  by_cases y : hv5 h S = H ∧ f s ≠ 0 ∧ Val pa cl s S
  · rw [tb_y y]
    obtain ⟨-, lt7, -, -⟩ := Val_d hpa hS hs y.2.2
    exact hg _ lt7
  · rw [tb_n y]; exact ⟨Int.le_refl _, hB⟩
theorem tb_c {pa : Int32} {cl : Nat → Int32} {h : Nat → Int} {H : Int} {f f2 g g2 : Nat → Int} {s S : Nat} (hpa : 0 ≤ pa.toInt ∧ pa.toInt ≤ 5) (hS : S < 2 ^ pa.toInt.toNat) (hs : s < 7 ^ pa.toInt.toNat) (ef : f s = f2 s) (eg : ∀ s : Nat, s < 16807 → g s = g2 s) : tbk pa cl h H f g s S = tbk pa cl h H f2 g2 s S := by
  by_cases y : hv5 h S = H ∧ f s ≠ 0 ∧ Val pa cl s S
  · obtain ⟨-, -, lt, -⟩ := Val_d hpa hS hs y.2.2
    rw [tb_y y, tb_y ⟨y.1, by rw [← ef]; exact y.2.1, y.2.2⟩, eg _ lt]
  · rw [tb_n y, tb_n (fun q => y ⟨q.1, by rw [ef]; exact q.2.1, q.2.2⟩)]
theorem tk_c {pa : Int32} {cl : Nat → Int32} {h : Nat → Int} {H : Int} {f f2 : Nat → Int} {t S : Nat} (e : ∀ s : Nat, s < 7 ^ pa.toInt.toNat → f s = f2 s) : tk pa cl h H f t S = tk pa cl h H f2 t S := by
  unfold tk
  by_cases k : hv5 h S = H
  · rw [if_pos k, if_pos k]
    by_cases y : e7 (bt S) ≤ t ∧ t - e7 (bt S) < 7 ^ pa.toInt.toNat ∧ Val pa cl (t - e7 (bt S)) S
    · rw [tg_y y, tg_y y, e _ y.2.1]
    · rw [tg_n y, tg_n y]
  · rw [if_neg k, if_neg k]
/-- ahead: what it is -/
def AhP (pa : Int32) (cl : Nat → Int32) (h hl : Nat → Int) (A : Nat → Int64) (l : Nat) : Prop := (∀ t : Nat, t < 16807 → (A t).toInt = if t = 0 then 1 else 0) ∧ ∀ k : Nat, k < l → ∀ t : Nat, t < 16807 → (A (16807 * (k + 1) + t)).toInt = sm (2 ^ pa.toInt.toNat) (tk pa cl h (hl k) (fun i => (A (16807 * k + i)).toInt) t)
/-- behind: what it is -/
def BeP (pa : Int32) (cl : Nat → Int32) (h hl : Nat → Int) (A B : Nat → Int64) (M l : Nat) : Prop := (∀ s : Nat, s < 7 ^ pa.toInt.toNat → (B (16807 * M + s)).toInt = 1) ∧ ∀ k : Nat, l ≤ k → k < M → ∀ s : Nat, s < 7 ^ pa.toInt.toNat → (B (16807 * k + s)).toInt = sm (2 ^ pa.toInt.toNat) (tbk pa cl h (hl k) (fun i => (A (16807 * k + i)).toInt) (fun i => (B (16807 * (k + 1) + i)).toInt) s)
theorem AhP_rng {pa : Int32} {cl : Nat → Int32} {h hl : Nat → Int} {A : Nat → Int64} {l : Nat} (hpa : 0 ≤ pa.toInt ∧ pa.toInt ≤ 5) (hl6 : l ≤ 6) (H : AhP pa cl h hl A l) : ∀ k : Nat, k ≤ l → ∀ t : Nat, t < 16807 → 0 ≤ (A (16807 * k + t)).toInt ∧ (A (16807 * k + t)).toInt ≤ p32 k := by
  have l2 := tb_2p ⟨pa.toInt.toNat, by omega⟩
  have l2 : 1 ≤ 2 ^ pa.toInt.toNat ∧ 2 ^ pa.toInt.toNat ≤ 32 := l2
  have l7 := p7_le (P := pa.toInt.toNat) (by omega)
  intro k
  induction k with
  | zero =>
    intro _ t ht
    rw [Nat.mul_zero, Nat.zero_add, H.1 t ht]
    show 0 ≤ (if t = 0 then (1 : Int) else 0) ∧ (if t = 0 then (1 : Int) else 0) ≤ 1
    split
    · exact ⟨by decide, by decide⟩
    · exact ⟨by decide, by decide⟩
  | succ k ih =>
    intro hk t ht
    have i := ih (by omega)
    have pk := p32_6 (r := k) (by omega)
    rw [H.2 k (by omega) t ht, p32_s]
    have r := fun S : Nat => tk_rng (pa := pa) (cl := cl) (h := h) (H := hl k) (f := fun i => (A (16807 * k + i)).toInt) (t := t) (S := S) (B := p32 k) (by omega) (fun s hs => i s (by omega))
    have a := sm_nn (f := tk pa cl h (hl k) (fun i => (A (16807 * k + i)).toInt) t) (2 ^ pa.toInt.toNat) (fun S _ => (r S).1)
    have b := sm_bd (f := tk pa cl h (hl k) (fun i => (A (16807 * k + i)).toInt) t) (c := p32 k) (2 ^ pa.toInt.toNat) (fun S _ => (r S).2)
    have c : ((2 ^ pa.toInt.toNat : Nat) : Int) * p32 k ≤ 32 * p32 k := Int.mul_le_mul_of_nonneg_right (Int.ofNat_le.mpr l2.2) (by omega)
    exact ⟨a, Int.le_trans b c⟩
theorem BeP_rng {pa : Int32} {cl : Nat → Int32} {h hl : Nat → Int} {A B : Nat → Int64} {M l : Nat} (hpa : 0 ≤ pa.toInt ∧ pa.toInt ≤ 5) (hM : M ≤ 6) (H : BeP pa cl h hl A B M l) : ∀ r : Nat, r ≤ M → l ≤ M - r → ∀ s : Nat, s < 7 ^ pa.toInt.toNat → 0 ≤ (B (16807 * (M - r) + s)).toInt ∧ (B (16807 * (M - r) + s)).toInt ≤ p32 r := by
  have l2 := tb_2p ⟨pa.toInt.toNat, by omega⟩
  have l2 : 1 ≤ 2 ^ pa.toInt.toNat ∧ 2 ^ pa.toInt.toNat ≤ 32 := l2
  intro r
  induction r with
  | zero =>
    intro _ _ s hs
    rw [Nat.sub_zero, H.1 s hs]
    exact ⟨by decide, by decide⟩
  | succ r ih =>
    intro hr hlr s hs
    have i := ih (by omega) (by omega)
    have pk := p32_6 (r := r) (by omega)
    have e := H.2 (M - (r + 1)) hlr (by omega) s hs
    rw [show M - (r + 1) + 1 = M - r from by omega] at e
    rw [e, p32_s]
    have q := fun (S : Nat) (hS : S < 2 ^ pa.toInt.toNat) => tb_rng (cl := cl) (h := h) (H := hl (M - (r + 1))) (f := fun i => (A (16807 * (M - (r + 1)) + i)).toInt) (g := fun i => (B (16807 * (M - r) + i)).toInt) (B := p32 r) hpa hS hs (by omega) (fun s hs => i s hs)
    have a := sm_nn (f := tbk pa cl h (hl (M - (r + 1))) (fun i => (A (16807 * (M - (r + 1)) + i)).toInt) (fun i => (B (16807 * (M - r) + i)).toInt) s) (2 ^ pa.toInt.toNat) (fun S hS => (q S hS).1)
    have b := sm_bd (f := tbk pa cl h (hl (M - (r + 1))) (fun i => (A (16807 * (M - (r + 1)) + i)).toInt) (fun i => (B (16807 * (M - r) + i)).toInt) s) (c := p32 r) (2 ^ pa.toInt.toNat) (fun S hS => (q S hS).2)
    have c : ((2 ^ pa.toInt.toNat : Nat) : Int) * p32 r ≤ 32 * p32 r := Int.mul_le_mul_of_nonneg_right (Int.ofNat_le.mpr l2.2) (by omega)
    exact ⟨a, Int.le_trans b c⟩
theorem find_sp {mi pa xt xd : Int32} {un0 D Dk un cl ha hl : Nat → Int32} {A0 B0 A B : Nat → Int64} (hpa : 0 ≤ pa.toInt ∧ pa.toInt ≤ 5) (hX : 0 ≤ xt.toInt ∧ xt.toInt ≤ 1) (hC : ∀ p : Nat, (p : Int) < pa.toInt → D (36 * xt.toInt.toNat + (6 + 2 * p)) = cl p) (hH : ∀ p : Nat, (p : Int) < pa.toInt → D (36 * xt.toInt.toNat + (7 + 2 * p)) = ha p) (gH : ∀ p : Nat, (p : Int) < pa.toInt → 1 ≤ (ha p).toInt ∧ (ha p).toInt ≤ 2) (hd : 0 ≤ xd.toInt ∧ xd.toInt ≤ 1) (hmi : 0 ≤ mi.toInt ∧ mi.toInt ≤ 6) (hDk : ∀ k : Nat, (k : Int) < mi.toInt → Dk (7 * xd.toInt.toNat + (1 + k)) = hl k) (h : R_j_findDark un0 mi pa xt D xd Dk A0 B0 A B un) : Un7 un ∧ AhP pa cl (fun p => (ha p).toInt) (fun k => (hl k).toInt) A mi.toInt.toNat ∧ BeP pa cl (fun p => (ha p).toInt) (fun k => (hl k).toInt) A B mi.toInt.toNat 0 := by
  obtain ⟨g2, e2, g4, e4', g6, e6, g8, e8, g10, e10, h⟩ := h
  have c0 : (0 : Int32).toInt = 0 := by decide
  have c1 : (1 : Int64).toInt = 1 := by decide
  have l0 : (0 : Int64).toInt = 0 := by decide
  have m1 : (-1 : Int32).toInt = -1 := by decide
  have l7 := p7_le (P := pa.toInt.toNat) (by clear h; omega)
  have hun : Un7 g10 := by
    have k0 : Int32.toNatClampNeg (0 : Int32) = 0 := by decide
    have k1 : Int32.toNatClampNeg (1 : Int32) = 1 := by decide
    have k2 : Int32.toNatClampNeg (2 : Int32) = 2 := by decide
    have k3 : Int32.toNatClampNeg (3 : Int32) = 3 := by decide
    have k4 : Int32.toNatClampNeg (4 : Int32) = 4 := by decide
    rw [k0] at e2
    rw [k1] at e4'
    rw [k2] at e6
    rw [k3] at e8
    rw [k4] at e10
    refine p5 ?_ ?_ ?_ ?_ ?_
    · rw [← e10, pk_un (by decide), ← e8, pk_un (by decide), ← e6, pk_un (by decide), ← e4', pk_un (by decide), ← e2, pk_us]; decide
    · rw [← e10, pk_un (by decide), ← e8, pk_un (by decide), ← e6, pk_un (by decide), ← e4', pk_us]; decide
    · rw [← e10, pk_un (by decide), ← e8, pk_un (by decide), ← e6, pk_us]; decide
    · rw [← e10, pk_un (by decide), ← e8, pk_us]; decide
    · rw [← e10, pk_us]; decide
  clear e2 e4' e6 e8 e10
  have mm : ((mi.toInt.toNat : Nat) : Int) = mi.toInt := by clear h; omega
  -- the last loop: back
  have back : ∀ (A : Nat → Int64) (N : Nat) (l : Int32) (Bb u0 u1 : Nat → Int64) (u2 : Nat → Int32), AhP pa cl (fun p => (ha p).toInt) (fun k => (hl k).toInt) A mi.toInt.toNat → fx (T_j_findDark_130 A g10 pa xt D xd Dk u0 u1 u2) N (l, Bb) → (-1 ≤ l.toInt ∧ l.toInt < mi.toInt) → BeP pa cl (fun p => (ha p).toInt) (fun k => (hl k).toInt) A Bb mi.toInt.toNat (l.toInt + 1).toNat → (∀ k t : Nat, (k : Int) ≤ l.toInt → t < 16807 → (Bb (16807 * k + t)).toInt = 0) → u2 = g10 ∧ u0 = A ∧ BeP pa cl (fun p => (ha p).toInt) (fun k => (hl k).toInt) A u1 mi.toInt.toNat 0 := by
    clear h
    intro A N l Bb u0 u1 u2 hA hT hl' hBe hz
    refine fx_inv (P := fun s => (-1 ≤ s.1.toInt ∧ s.1.toInt < mi.toInt) ∧ BeP pa cl (fun p => (ha p).toInt) (fun k => (hl k).toInt) A s.2 mi.toInt.toNat (s.1.toInt + 1).toNat ∧ (∀ k t : Nat, (k : Int) ≤ s.1.toInt → t < 16807 → (s.2 (16807 * k + t)).toInt = 0)) (fun K s hP hT => ?_) N _ hT ⟨hl', hBe, hz⟩
    obtain ⟨l, Bb⟩ := s
    obtain ⟨h1, h2, h3⟩ := hP
    have h1 : -1 ≤ l.toInt ∧ l.toInt < mi.toInt := h1
    have h2 : BeP pa cl (fun p => (ha p).toInt) (fun k => (hl k).toInt) A Bb mi.toInt.toNat (l.toInt + 1).toNat := h2
    have h3 : ∀ k t : Nat, (k : Int) ≤ l.toInt → t < 16807 → (Bb (16807 * k + t)).toInt = 0 := h3
    dsimp only [T_j_findDark_130] at hT
    rcases hT with ⟨q, e0, e1, e2⟩ | ⟨q, b0, hb, b1, eb, hk⟩
    · refine Or.inl ⟨e2, e0, ?_⟩
      rw [e1]
      rw [show (l.toInt + 1).toNat = 0 from by omega] at h2
      exact h2
    · refine Or.inr ⟨(b1, b0), ?_, hk⟩
      clear hk
      have g : b1.toInt = l.toInt - 1 := by rw [eb, mi_add (by rw [m1]; clear hb; omega) (by rw [m1]; clear hb; omega), m1]; rfl
      have ll : ((l.toInt.toNat : Nat) : Int) = l.toInt := by clear hb; omega
      have bd := BeP_rng hpa (by clear hb; omega) h2 (mi.toInt.toNat - (l.toInt.toNat + 1)) (by clear hb; omega) (by clear hb; omega)
      have em : mi.toInt.toNat - (mi.toInt.toNat - (l.toInt.toNat + 1)) = l.toInt.toNat + 1 := by clear hb; omega
      rw [em] at bd
      have pk := p32_6 (r := mi.toInt.toNat - (l.toInt.toNat + 1)) (by clear hb; omega)
      have gb := goBack_sp (hl := hl) (Bd := p32 (mi.toInt.toNat - (l.toInt.toNat + 1))) hpa hun hX hC hH gH hd ⟨by clear hb; omega, by clear hb; omega⟩ (hDk _ (by clear hb; omega)) ⟨by clear hb; omega, pk.2⟩ bd (fun t ht => h3 _ t (by clear hb; omega) ht) hb
      clear hb
      obtain ⟨w1, w2⟩ := gb
      refine ⟨?_, ⟨fun s hs => ?_, fun k hk1 hk2 s hs => ?_⟩, fun k t hk ht => ?_⟩
      · show -1 ≤ b1.toInt ∧ b1.toInt < mi.toInt
        omega
      · show (b0 (16807 * mi.toInt.toNat + s)).toInt = 1
        rw [w1 _ s (by omega) (by omega)]; exact h2.1 s hs
      · have hk1 : (b1.toInt + 1).toNat ≤ k := hk1
        show (b0 (16807 * k + s)).toInt = sm _ (tbk _ _ _ _ _ (fun i => (b0 (16807 * (k + 1) + i)).toInt) s)
        have eg : ∀ i : Nat, i < 16807 → (fun i => (Bb (16807 * (k + 1) + i)).toInt) i = (fun i => (b0 (16807 * (k + 1) + i)).toInt) i := fun i hi => by
          show (Bb (16807 * (k + 1) + i)).toInt = (b0 (16807 * (k + 1) + i)).toInt
          rw [w1 (k + 1) i (by omega) hi]
        by_cases y : k = l.toInt.toNat
        · rw [y] at eg ⊢
          rw [w2 s hs]
          exact sm_c _ (fun S hS => tb_c hpa hS hs rfl eg)
        · rw [w1 k s y (by omega), h2.2 k (by omega) hk2 s hs]
          exact sm_c _ (fun S hS => tb_c hpa hS hs rfl eg)
      · have hk : (k : Int) ≤ b1.toInt := hk
        show (b0 (16807 * k + t)).toInt = 0
        rw [w1 k t (by omega) ht]; exact h3 k t (by omega) ht
  -- forward
  have forth : ∀ (Bb : Nat → Int64) (N : Nat) (l : Int32) (Aa u0 u1 : Nat → Int64) (u2 : Nat → Int32), (∀ s : Nat, s < 7 ^ pa.toInt.toNat → (Bb (16807 * mi.toInt.toNat + s)).toInt = 1) → (∀ k t : Nat, (k : Int) < mi.toInt → t < 16807 → (Bb (16807 * k + t)).toInt = 0) → fx (T_j_findDark_104 mi g10 pa xt D xd Dk Bb u0 u1 u2) N (l, Aa) → (0 ≤ l.toInt ∧ l.toInt ≤ mi.toInt) → AhP pa cl (fun p => (ha p).toInt) (fun k => (hl k).toInt) Aa l.toInt.toNat → (∀ k t : Nat, l.toInt < (k : Int) → (k : Int) ≤ mi.toInt → t < 16807 → (Aa (16807 * k + t)).toInt = 0) → u2 = g10 ∧ AhP pa cl (fun p => (ha p).toInt) (fun k => (hl k).toInt) u0 mi.toInt.toNat ∧ BeP pa cl (fun p => (ha p).toInt) (fun k => (hl k).toInt) u0 u1 mi.toInt.toNat 0 := by
    clear h
    intro Bb N l Aa u0 u1 u2 hb1 hb0 hT hl' hA hz
    refine fx_inv (P := fun s => (0 ≤ s.1.toInt ∧ s.1.toInt ≤ mi.toInt) ∧ AhP pa cl (fun p => (ha p).toInt) (fun k => (hl k).toInt) s.2 s.1.toInt.toNat ∧ (∀ k t : Nat, s.1.toInt < (k : Int) → (k : Int) ≤ mi.toInt → t < 16807 → (s.2 (16807 * k + t)).toInt = 0)) (fun K s hP hT => ?_) N _ hT ⟨hl', hA, hz⟩
    obtain ⟨l, Aa⟩ := s
    obtain ⟨h1, h2, h3⟩ := hP
    have h1 : 0 ≤ l.toInt ∧ l.toInt ≤ mi.toInt := h1
    have h2 : AhP pa cl (fun p => (ha p).toInt) (fun k => (hl k).toInt) Aa l.toInt.toNat := h2
    have h3 : ∀ k t : Nat, l.toInt < (k : Int) → (k : Int) ≤ mi.toInt → t < 16807 → (Aa (16807 * k + t)).toInt = 0 := h3
    dsimp only [T_j_findDark_104] at hT
    rcases hT with ⟨q, b0, e0, hT⟩ | ⟨q, b1, hg, z, ez, hk⟩
    · refine Or.inl ?_
      have el : l.toInt.toNat = mi.toInt.toNat := by clear hT; omega
      rw [el] at h2
      have g0 : b0.toInt = mi.toInt - 1 := by rw [e0]; exact mi_subc (by decide) (by clear hT; omega) (by clear hT; omega)
      have r := back Aa _ b0 Bb u0 u1 u2 h2 hT ⟨by clear hT; omega, by clear hT; omega⟩ ⟨hb1, fun k hk1 hk2 => absurd hk1 (by clear hT; omega)⟩ (fun k t hk ht => hb0 k t (by clear hT; omega) ht)
      obtain ⟨r1, r2, r3⟩ := r
      rw [r2]
      exact ⟨r1, h2, r3⟩
    · refine Or.inr ⟨(z, b1), ?_, hk⟩
      clear hk
      have g : z.toInt = l.toInt + 1 := by rw [ez]; exact mi_addc (by decide) (by clear hg; omega) (by clear hg; omega)
      have g2 : z.toInt.toNat = l.toInt.toNat + 1 := by clear hg; omega
      have bd := AhP_rng hpa (by clear hg; omega) h2 l.toInt.toNat (Nat.le_refl _)
      have pk := p32_6 (r := l.toInt.toNat) (by clear hg; omega)
      have go := goOn_sp (hl := hl) (B := p32 l.toInt.toNat) hpa hun hX hC hH gH hd ⟨h1.1, by clear hg; omega⟩ (hDk _ (by clear hg; omega)) ⟨by clear hg; omega, pk.2⟩ (fun s hs => bd s (by clear hg; omega)) (fun t ht => h3 _ t (by clear hg; omega) (by clear hg; omega) ht) hg
      clear hg
      obtain ⟨w1, w2⟩ := go
      refine ⟨?_, ⟨fun t ht => ?_, fun k hk t ht => ?_⟩, fun k t hk1 hk2 ht => ?_⟩
      · show 0 ≤ z.toInt ∧ z.toInt ≤ mi.toInt
        omega
      · show (b1 t).toInt = _
        have q := w1 0 t (by omega) ht
        rw [Nat.mul_zero, Nat.zero_add] at q
        rw [q]; exact h2.1 t ht
      · have hk : k < z.toInt.toNat := hk
        show (b1 (16807 * (k + 1) + t)).toInt = sm _ (tk _ _ _ _ (fun i => (b1 (16807 * k + i)).toInt) t)
        have ef : ∀ i : Nat, i < 7 ^ pa.toInt.toNat → (fun i => (Aa (16807 * k + i)).toInt) i = (fun i => (b1 (16807 * k + i)).toInt) i := fun i hi => by
          show (Aa (16807 * k + i)).toInt = (b1 (16807 * k + i)).toInt
          rw [w1 k i (by omega) (by omega)]
        by_cases y : k = l.toInt.toNat
        · rw [y] at ef ⊢
          rw [w2 t ht]
          exact sm_c _ (fun S _ => tk_c ef)
        · rw [w1 (k + 1) t (by omega) ht, h2.2 k (by omega) t ht]
          exact sm_c _ (fun S _ => tk_c ef)
      · have hk1 : z.toInt < (k : Int) := hk1
        show (b1 (16807 * k + t)).toInt = 0
        rw [w1 k t (by omega) ht]; exact h3 k t (by omega) hk2 ht
  -- ones behind the last minute
  have ones : ∀ (Ax : Nat → Int64) (N : Nat) (s : Int32) (Bb u0 u1 : Nat → Int64) (u2 : Nat → Int32), (∀ t : Nat, t < 16807 → (Ax t).toInt = if t = 0 then 1 else 0) → (∀ k t : Nat, 0 < k → (k : Int) ≤ mi.toInt → t < 16807 → (Ax (16807 * k + t)).toInt = 0) → fx (T_j_findDark_72 pa mi g10 xt D xd Dk Ax u0 u1 u2) N (s, Bb) → (0 ≤ s.toInt ∧ s.toInt.toNat ≤ 7 ^ pa.toInt.toNat) → (∀ i : Nat, (i : Int) < s.toInt → (Bb (16807 * mi.toInt.toNat + i)).toInt = 1) → (∀ k t : Nat, (k : Int) < mi.toInt → t < 16807 → (Bb (16807 * k + t)).toInt = 0) → u2 = g10 ∧ AhP pa cl (fun p => (ha p).toInt) (fun k => (hl k).toInt) u0 mi.toInt.toNat ∧ BeP pa cl (fun p => (ha p).toInt) (fun k => (hl k).toInt) u0 u1 mi.toInt.toNat 0 := by
    clear h
    intro Ax N s Bb u0 u1 u2 hA hA0 hT hs hb1 hb0
    refine fx_inv (P := fun s => (0 ≤ s.1.toInt ∧ s.1.toInt.toNat ≤ 7 ^ pa.toInt.toNat) ∧ (∀ i : Nat, (i : Int) < s.1.toInt → (s.2 (16807 * mi.toInt.toNat + i)).toInt = 1) ∧ (∀ k t : Nat, (k : Int) < mi.toInt → t < 16807 → (s.2 (16807 * k + t)).toInt = 0)) (fun K s hP hT => ?_) N _ hT ⟨hs, hb1, hb0⟩
    obtain ⟨s, Bb⟩ := s
    obtain ⟨h1, h2, h3⟩ := hP
    have h1 : 0 ≤ s.toInt ∧ s.toInt.toNat ≤ 7 ^ pa.toInt.toNat := h1
    have h2 : ∀ i : Nat, (i : Int) < s.toInt → (Bb (16807 * mi.toInt.toNat + i)).toInt = 1 := h2
    have h3 : ∀ k t : Nat, (k : Int) < mi.toInt → t < 16807 → (Bb (16807 * k + t)).toInt = 0 := h3
    dsimp only [T_j_findDark_72] at hT
    obtain ⟨b0, hb, hT⟩ := hT
    have hb := stat_sp hpa hb
    rw [hb] at hT
    rcases hT with ⟨q, hT⟩ | ⟨q, b1, e1, b2, e2, b3, e3, z, ez, hk⟩
    · refine Or.inl (forth Bb _ 0 Ax u0 u1 u2 (fun i hi => h2 i (by clear hT; omega)) h3 hT ⟨by decide, by rw [c0]; exact hmi.1⟩ ⟨hA, fun k hk => absurd hk (by rw [c0]; show ¬ k < 0; omega)⟩ (fun k t hk1 hk2 ht => hA0 k t (by rw [c0] at hk1; clear hT; omega) hk2 ht))
    · refine Or.inr ⟨(z, b3), ?_, hk⟩
      clear hk
      have g : z.toInt = s.toInt + 1 := by rw [ez]; exact mi_addc (by decide) (by omega) (by omega)
      have i2 := idx_sp (k := mi) (s := s) hmi ⟨h1.1, by omega⟩ e1 e2
      rw [i2] at e3
      refine ⟨?_, fun i hi => ?_, fun k t hk ht => ?_⟩
      · show 0 ≤ z.toInt ∧ z.toInt.toNat ≤ 7 ^ pa.toInt.toNat
        omega
      · have hi : (i : Int) < z.toInt := hi
        show (b3 (16807 * mi.toInt.toNat + i)).toInt = 1
        rw [← e3]
        by_cases k : i = s.toInt.toNat
        · rw [k, pl_us, c1]
        · rw [pl_un (by omega)]; exact h2 i (by omega)
      · show (b3 (16807 * k + t)).toInt = 0
        rw [← e3, pl_un (by omega)]; exact h3 k t hk ht
  -- all cleared first
  have fin : un = g10 ∧ AhP pa cl (fun p => (ha p).toInt) (fun k => (hl k).toInt) A mi.toInt.toNat ∧ BeP pa cl (fun p => (ha p).toInt) (fun k => (hl k).toInt) A B mi.toInt.toNat 0 := by
    refine fx_inv (P := fun s => (0 ≤ s.1.toInt ∧ s.1.toInt ≤ 16807 * (mi.toInt + 1)) ∧ (∀ i : Nat, (i : Int) < s.1.toInt → (s.2.1 i).toInt = 0 ∧ (s.2.2 i).toInt = 0)) (fun K s hP hT => ?_) _ _ h ⟨⟨by show 0 ≤ (0 : Int32).toInt; decide, by show (0 : Int32).toInt ≤ _; omega⟩, fun i hi => ?_⟩
    · obtain ⟨s, Aa, Bb⟩ := s
      obtain ⟨h1, h2⟩ := hP
      have h1 : 0 ≤ s.toInt ∧ s.toInt ≤ 16807 * (mi.toInt + 1) := h1
      have h2 : ∀ i : Nat, (i : Int) < s.toInt → (Aa i).toInt = 0 ∧ (Bb i).toInt = 0 := h2
      dsimp only [T_j_findDark_29] at hT
      obtain ⟨b0, e0, b1, e1, hT⟩ := hT
      have g0 : b0.toInt = mi.toInt + 1 := by rw [e0]; exact mi_addc (by decide) (by clear hT h; omega) (by clear hT h; omega)
      have g1 : b1.toInt = 16807 * (mi.toInt + 1) := by rw [e1, mi_cmul (C := 16807) (by decide) (by clear hT h; omega) (by clear hT h; omega), g0]
      rw [g1] at hT
      rcases hT with ⟨q, b2, e2, hT⟩ | ⟨q, b3, e3, b4, e4', z, ez, hk⟩
      · refine Or.inl ?_
        have k0 : Int32.toNatClampNeg (0 : Int32) = 0 := by decide
        rw [k0] at e2
        refine ones b2 _ 0 Bb A B un (fun t ht => ?_) (fun k t hk1 hk2 ht => ?_) hT ⟨by decide, by rw [c0]; exact Nat.zero_le _⟩ (fun i hi => absurd hi (by rw [c0]; clear hT h; omega)) (fun k t hk ht => (h2 _ (by clear hT h; omega)).2)
        · rw [← e2]
          by_cases y : t = 0
          · rw [y, pl_us, c1, if_pos rfl]
          · rw [pl_un y, if_neg y]; exact (h2 t (by clear hT h; omega)).1
        · rw [← e2, pl_un (by clear hT h; omega)]; exact (h2 _ (by clear hT h; omega)).1
      · have g : z.toInt = s.toInt + 1 := by rw [ez]; exact mi_addc (by decide) (by clear hk h; omega) (by clear hk h; omega)
        refine Or.inr ⟨(z, b3, b4), ⟨?_, fun i hi => ?_⟩, hk⟩
        · show 0 ≤ z.toInt ∧ z.toInt ≤ 16807 * (mi.toInt + 1)
          clear hk h; omega
        · have hi : (i : Int) < z.toInt := hi
          show (b3 i).toInt = 0 ∧ (b4 i).toInt = 0
          clear hk h
          rw [mi_cl] at e3 e4'
          rw [← e3, ← e4']
          by_cases y : i = s.toInt.toNat
          · rw [y, pl_us, pl_us]; exact ⟨l0, l0⟩
          · rw [pl_un y, pl_un y]; exact h2 i (by omega)
    · have hi : (i : Int) < (0 : Int32).toInt := hi
      rw [c0] at hi; omega
  obtain ⟨f1, f2, f3⟩ := fin
  rw [f1]
  exact ⟨hun, f2, f3⟩
