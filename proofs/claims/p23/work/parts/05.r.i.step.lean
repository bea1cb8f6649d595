/-! class and reference go on in step, deed by deed -/
def Sb : Nat → Int
  | 0 => 400
  | k + 1 => 3 * Sb k / 2 + 400
def Ob : Nat → Int
  | 0 => 0
  | k + 1 => 3 * Ob k / 2 + 100
set_option maxRecDepth 100000 in
theorem Sb_all : ∀ k : Fin 31, (400 ≤ Sb k.val ∧ Sb k.val ≤ 300000000) ∧ (0 ≤ Ob k.val ∧ Ob k.val ≤ 40000000) := by decide +kernel
theorem Sb_rng {k : Nat} (h : k ≤ 30) : (400 ≤ Sb k ∧ Sb k ≤ 300000000) ∧ (0 ≤ Ob k ∧ Ob k ≤ 40000000) := Sb_all ⟨k, by omega⟩
theorem Sb_s (k : Nat) : Sb (k + 1) = 3 * Sb k / 2 + 400 := rfl
theorem Ob_s (k : Nat) : Ob (k + 1) = 3 * Ob k / 2 + 100 := rfl
theorem mi_neg {x : Int32} (h : -2147483648 < x.toInt) : (-x).toInt = -x.toInt := by
  have := mi_rng x
  rw [Int32.toInt_neg]
  exact bm32 (by omega) (by omega)
theorem mi_addn {x y : Int32} (h0 : 0 ≤ y.toInt) (h1 : y.toInt ≤ x.toInt) : (x + -y).toInt = x.toInt - y.toInt := by
  have hx := mi_rng x
  have hy := mi_neg (x := y) (by omega)
  rw [mi_add (by omega) (by omega), hy]
  omega
/-- how large it may be behind k deeds -/
def Bnd (pa ac : Int32) (k : Nat) (ch en ni : Int32) (lf ow sv : Nat → Int32) : Prop := (0 ≤ en.toInt ∧ en.toInt ≤ (k : Int)) ∧ (0 ≤ ni.toInt ∧ ni.toInt ≤ (k : Int)) ∧ (0 ≤ ch.toInt ∧ ch.toInt ≤ 1000 + 400 * (k : Int)) ∧ (∀ a : Nat, (a : Int) < ac.toInt → 0 ≤ (sv a).toInt ∧ (sv a).toInt ≤ Sb k) ∧ (∀ j : Nat, j < 25 → 0 ≤ (ow j).toInt ∧ (ow j).toInt ≤ Ob k) ∧ (∀ p : Nat, (p : Int) < pa.toInt → 0 ≤ (lf p).toInt ∧ (lf p).toInt ≤ 99 + 99 * (k : Int))
def EvL (pa ac : Int32) (k : Nat) (ch en ni cp hs ec : Int32) (lf ow gt sv st so : Nat → Int32) (chj enj nij lij hsj cpj ecj : Int32) (lfj owj gtj svj soj stj : Nat → Int32) : Prop := (chj = ch ∧ enj = en ∧ nij = ni ∧ hsj = hs ∧ cpj = cp ∧ ecj = ec) ∧ ((∀ p : Nat, (p : Int) < pa.toInt → lfj p = lf p) ∧ (∀ j : Nat, j < 25 → owj j = ow j) ∧ (∀ j : Nat, j < 30 → gtj j = gt j) ∧ (∀ a : Nat, (a : Int) < ac.toInt → svj a = sv a) ∧ (∀ a : Nat, a < 6 → soj a = so a) ∧ (∀ a : Nat, a < 6 → stj a = st a)) ∧ Lvs ac lij st ∧ Bnd pa ac k ch en ni lf ow sv
theorem Bnd_s {pa ac : Int32} {k : Nat} {ch en ni : Int32} {lf ow sv : Nat → Int32} (hk : k ≤ 29) (h : Bnd pa ac k ch en ni lf ow sv) : Bnd pa ac (k + 1) ch en ni lf ow sv := by
  obtain ⟨a, b, c, d, e, f⟩ := h
  have s := Sb_s k
  have o := Ob_s k
  have r := Sb_rng (k := k) (by omega)
  refine ⟨by omega, by omega, by omega, fun i hi => ?_, fun i hi => ?_, fun i hi => ?_⟩
  · have := d i hi; omega
  · have := e i hi; omega
  · have := f i hi; omega
theorem EvL_s {pa ac : Int32} {k : Nat} {ch en ni cp hs ec : Int32} {lf ow gt sv st so : Nat → Int32} {chj enj nij lij hsj cpj ecj : Int32} {lfj owj gtj svj soj stj : Nat → Int32} (hk : k ≤ 29) (h : EvL pa ac k ch en ni cp hs ec lf ow gt sv st so chj enj nij lij hsj cpj ecj lfj owj gtj svj soj stj) : EvL pa ac (k + 1) ch en ni cp hs ec lf ow gt sv st so chj enj nij lij hsj cpj ecj lfj owj gtj svj soj stj := ⟨h.1, h.2.1, h.2.2.1, Bnd_s hk h.2.2.2⟩
theorem up_c {f g : Nat → Int32} {P : Nat → Prop} {k : Nat} {v w : Int32} (h : ∀ i : Nat, P i → f i = g i) (e : v = w) : ∀ i : Nat, P i → upd f k v i = upd g k w i := by
  intro i hi
  by_cases q : i = k
  · rw [q, up_eq, up_eq, e]
  · rw [up_ne q, up_ne q]; exact h i hi
theorem up_b {f : Nat → Int32} {P : Nat → Prop} {k : Nat} {v : Int32} {lo hi : Int} (h : ∀ i : Nat, P i → lo ≤ (f i).toInt ∧ (f i).toInt ≤ hi) (e : lo ≤ v.toInt ∧ v.toInt ≤ hi) : ∀ i : Nat, P i → lo ≤ (upd f k v i).toInt ∧ (upd f k v i).toInt ≤ hi := by
  intro i hi
  by_cases q : i = k
  · rw [q, up_eq]; exact e
  · rw [up_ne q]; exact h i hi
/-- behind a deed: what it did, and the echo -/
theorem nx_sp {BX a ac pa X ni ra cap en ch li cp hs ec de : Int32} {Bk D lf ow sv st gt so pr : Nat → Int32} {v0 v1 v2 v3 v4 v5 v6 v7 : Int32} {v8 v9 v10 v11 v12 v13 : Nat → Int32} (hB : 0 ≤ BX.toInt ∧ BX.toInt ≤ 1) (hR : RB (fun j => Bk (121 * BX.toInt.toNat + j)) de pr) (hA : 0 ≤ a.toInt ∧ a.toInt < de.toInt) (h : R_j_doesNext BX a Bk ac pa X D lf ni ra ow cap en ch li sv st cp gt so hs ec v0 v1 v2 v3 v4 v5 v6 v7 v8 v9 v10 v11 v12 v13) : ∃ r : Int32, R_j_does BX a Bk ac pa X D lf ni ra ow cap en ch li sv st cp gt so hs ec r v1 v2 v3 v4 v5 v6 v8 v9 v10 v11 v12 v13 ∧ ((r.toInt ≠ 0 ∧ v0 = 1 ∧ (((pr (4 * a.toInt.toNat)).toInt = 0 ∧ v7 = pr (4 * a.toInt.toNat + 2)) ∨ ((pr (4 * a.toInt.toNat)).toInt ≠ 0 ∧ v7 = -1))) ∨ (r.toInt = 0 ∧ v0 = 0 ∧ v7 = ec)) := by
  obtain ⟨r, n1, n2, n3, n4, n5, n6, g1, rst_⟩ := h
  obtain ⟨g2, g3, g4, g5, g6, hd, h⟩ := rst_
  rcases h with ⟨c, k, hk, ⟨c2, e0, e1, e2, e3, e4, e5, e6, e7, e8, e9, e10, e11, e12, e13⟩ | ⟨c2, y, hy, e0, e1, e2, e3, e4, e5, e6, e7, e8, e9, e10, e11, e12, e13⟩⟩ | ⟨c, e0, e1, e2, e3, e4, e5, e6, e7, e8, e9, e10, e11, e12, e13⟩
  · have hk := do_sp (B := 0) hB hR hA (by decide) (by decide) hk
    rw [Nat.add_zero] at hk
    subst e1; subst e2; subst e3; subst e4; subst e5; subst e6; subst e8; subst e9; subst e10; subst e11; subst e12; subst e13
    exact ⟨r, hd, Or.inl ⟨c, e0, Or.inr ⟨by rw [← hk]; exact c2, e7⟩⟩⟩
  · have hk := do_sp (B := 0) hB hR hA (by decide) (by decide) hk
    have hy := do_sp (B := 2) hB hR hA (by decide) (by decide) hy
    rw [Nat.add_zero] at hk
    subst e1; subst e2; subst e3; subst e4; subst e5; subst e6; subst e8; subst e9; subst e10; subst e11; subst e12; subst e13
    exact ⟨r, hd, Or.inl ⟨c, e0, Or.inl ⟨by rw [← hk]; exact c2, by rw [e7, hy]⟩⟩⟩
  · subst e1; subst e2; subst e3; subst e4; subst e5; subst e6; subst e8; subst e9; subst e10; subst e11; subst e12; subst e13
    exact ⟨r, hd, Or.inr ⟨c, e0, e7⟩⟩
theorem prc_rng {hu : Nat → Int32} {en : Int32} {a : Nat} (hh : 0 ≤ (hu a).toInt ∧ (hu a).toInt ≤ 40) (he : 0 ≤ en.toInt ∧ en.toInt ≤ 30) : 0 ≤ (prc hu en 0 a).toInt ∧ (prc hu en 0 a).toInt ≤ 160 := by
  unfold prc
  rw [Int32.add_zero]
  have h1 : 0 ≤ (hu a).toInt * en.toInt := Int.mul_nonneg hh.1 he.1
  have h2 : (hu a).toInt * en.toInt ≤ (hu a).toInt * 30 := Int.mul_le_mul_of_nonneg_left he.2 hh.1
  have g1 : (hu a * en).toInt = (hu a).toInt * en.toInt := mi_mul (by omega) (by omega)
  have g2 : (hu a * en / 10).toInt = (hu a).toInt * en.toInt / 10 := by
    rw [Int32.toInt_div_of_ne_right _ _ (by decide), g1, show (10 : Int32).toInt = 10 from by decide, Int.tdiv_eq_ediv_of_nonneg h1]
  rw [mi_add (by omega) (by omega), g2]
  omega
theorem eatb_c {hu : Nat → Int32} {en c : Int32} {sv st sv' st' : Nat → Int32} {a : Nat} (e1 : sv' a = sv a) (e2 : st' a = st a) : eatb hu en sv' st' c a = eatb hu en sv st c a := by
  unfold eatb
  rw [e1, e2]
theorem chs_c {hu : Nat → Int32} {en c : Int32} {sv st sv' st' : Nat → Int32} {n : Nat} (e1 : ∀ a : Nat, a < n → sv' a = sv a) (e2 : ∀ a : Nat, a < n → st' a = st a) : ∀ i : Nat, i ≤ n → chs hu en sv' st' c i = chs hu en sv st c i := by
  intro i
  induction i with
  | zero => intro _; rfl
  | succ i ih =>
    intro hi
    have q := ih (by omega)
    show (if eatb hu en sv' st' (chs hu en sv' st' c i) i = true then chs hu en sv' st' c i + -(prc hu en 0 i) else chs hu en sv' st' c i) = (if eatb hu en sv st (chs hu en sv st c i) i = true then chs hu en sv st c i + -(prc hu en 0 i) else chs hu en sv st c i)
    rw [q, eatb_c (e1 i (by omega)) (e2 i (by omega))]
theorem chs_rng {hu : Nat → Int32} {en c : Int32} {sv st : Nat → Int32} {n : Nat} (hp : ∀ a : Nat, a < n → 0 ≤ (prc hu en 0 a).toInt) (hc : 0 ≤ c.toInt) : ∀ i : Nat, i ≤ n → 0 ≤ (chs hu en sv st c i).toInt ∧ (chs hu en sv st c i).toInt ≤ c.toInt := by
  intro i
  induction i with
  | zero => intro _; exact ⟨hc, Int.le_refl _⟩
  | succ i ih =>
    intro hi
    have q := ih (by omega)
    have p := hp i (by omega)
    by_cases e : eatb hu en sv st (chs hu en sv st c i) i = true
    · rw [chs_y e]
      have w := (eatb_t.mp e).2.2
      rw [mi_addn p w]
      omega
    · rw [chs_n (Bool.eq_false_iff.mpr e)]; exact q
/-- a night, in step -/
theorem night_sim {pa ac X ra cap en ch ni li u0 u1 w0 w1 w2 : Int32} {D cl hu ow sv st owj svj stj lf lfj u2 u3 u4 u5 w3 w4 w5 w6 : Nat → Int32} {k : Nat} (hk : k ≤ 29) (hX : 0 ≤ X.toInt ∧ X.toInt ≤ 1) (hac : 0 ≤ ac.toInt ∧ ac.toInt ≤ 6) (hpa : 0 ≤ pa.toInt ∧ pa.toInt ≤ 5) (hC : ∀ i : Nat, (i : Int) < pa.toInt → D (36 * X.toInt.toNat + (6 + 2 * i)) = cl i) (hH : ∀ i : Nat, (i : Int) < ac.toInt → D (36 * X.toInt.toNat + (16 + 2 * i)) = hu i) (gC : ∀ i : Nat, (i : Int) < pa.toInt → 0 ≤ (cl i).toInt ∧ (cl i).toInt ≤ 99) (gH : ∀ i : Nat, (i : Int) < ac.toInt → 0 ≤ (hu i).toInt ∧ (hu i).toInt ≤ 40) (gR : 0 ≤ ra.toInt ∧ ra.toInt ≤ 50) (hcap : cap.toInt = 0) (eO : ∀ j : Nat, j < 25 → owj j = ow j) (eS : ∀ a : Nat, (a : Int) < ac.toInt → svj a = sv a) (eSt : ∀ a : Nat, a < 6 → stj a = st a) (hL : Lvs ac li st) (hBd : Bnd pa ac k ch en ni lf ow sv) (hc : R_k_passNight ac cl lf ni ra ow hu en ch sv st u0 u1 u2 u3 u4 u5) (hj : R_j_night ac pa X D lfj ni ra owj cap en ch li svj stj w0 w1 w2 w3 w4 w5 w6) : w0 = u0 ∧ w1 = u1 ∧ u1 = ni + 1 ∧ (∀ p : Nat, (p : Int) < pa.toInt → w3 p = u2 p) ∧ (∀ j : Nat, j < 25 → w4 j = u3 j) ∧ (∀ a : Nat, (a : Int) < ac.toInt → w5 a = u4 a) ∧ (∀ a : Nat, a < 6 → w6 a = u5 a) ∧ Lvs ac w2 u5 ∧ Bnd pa ac (k + 1) u0 en u1 u2 u3 u4 := by
  have hLj : Lvs ac li stj := ⟨hL.1, fun q hq => by rw [eSt q hq]; exact hL.2 q hq⟩
  obtain ⟨x0, x1, x2, x3, x4, x5⟩ := nc_sp hac hc
  obtain ⟨y0, y1, y2, y3, y4, y5, y6⟩ := nj_sp hac hX hpa hC hH hLj hj
  clear hc hj
  obtain ⟨bE, bN, bC, bS, bO, bL⟩ := hBd
  have rS := Sb_rng (k := k) (by omega)
  have sS := Sb_s k
  have sO := Ob_s k
  have pr0 : ∀ a : Nat, (a : Int) < ac.toInt → 0 ≤ (prc hu en 0 a).toInt ∧ (prc hu en 0 a).toInt ≤ 160 := fun a ha => prc_rng (gH a ha) (by omega)
  have cs : ∀ i : Nat, i ≤ ac.toInt.toNat → chs hu en svj stj ch i = chs hu en sv st ch i := chs_c (fun a ha => eS a (by omega)) (fun a ha => eSt a (by omega))
  have cr := chs_rng (hu := hu) (en := en) (c := ch) (sv := sv) (st := st) (n := ac.toInt.toNat) (fun a ha => (pr0 a (by omega)).1) bC.1
  have hn1 : u1.toInt = ni.toInt + 1 := by rw [x1]; exact mi_addc (by decide) (by omega) (by omega)
  have row : ∀ a : Nat, (a : Int) < ac.toInt → w5 a = u4 a ∧ w6 a = u5 a ∧ (0 ≤ (u4 a).toInt ∧ (u4 a).toInt ≤ Sb (k + 1)) ∧ ((u5 a).toInt = -1 ↔ eatb hu en sv st (chs hu en sv st ch a) a = true) := by
    intro a ha
    have p1 := x4 a ha
    obtain ⟨s, p2, p3⟩ := y5 a ha
    rw [cs a (by omega)] at p2 p3
    rw [eatb_c (eS a ha) (eSt a (by omega))] at p3
    have bs := bS a ha
    have pr1 := pr0 a ha
    unfold NtJ at p2
    rw [eatb_c (eS a ha) (eSt a (by omega)), eS a ha, eSt a (by omega)] at p2
    rcases p1 with ⟨t, g, e⟩ | ⟨t, q, e1, e2⟩ | ⟨t, q, e1, e2⟩
    · have w := eatb_t.mp t
      rcases p2 with ⟨-, d1, d2⟩ | ⟨f, -⟩ | ⟨f, -⟩
      · have vx := mi_addn pr1.1 w.2.1
        have hx0 : 0 ≤ (sv a + -(prc hu en 0 a)).toInt := by rw [vx]; omega
        have gc := gc_sp hx0 gR g
        obtain ⟨v, hv, hw⟩ := p3
        rcases hv with ⟨-, x, y, z, q, b, f1, f2, f3, f4, f5, f6⟩ | ⟨f, -⟩
        · rw [d1] at f1 f6
          have gj := gs_sp (a := sv a + -(prc hu en 0 a)) (r := ra) ⟨hx0, by rw [vx]; omega⟩ gR f1 f2 f3 f4 f5 f6
          have gb := grw_rng hx0 gR
          rw [vx] at gb gc gj
          have ew : w5 a = v := by
            rcases hw with ⟨-, e⟩ | ⟨n, -⟩
            · exact e
            · exact absurd hcap n
          refine ⟨?_, by rw [d2, e], ?_, ?_⟩
          · rw [ew]; apply mi_eq; rw [gj, gc]; omega
          · rw [gc]; omega
          · rw [e]; exact ⟨fun _ => t, fun _ => w.1⟩
        · rw [t] at f; exact absurd f (by decide)
      · rw [t] at f; exact absurd f (by decide)
      · rw [t] at f; exact absurd f (by decide)
    · rcases p2 with ⟨f, -⟩ | ⟨-, -, d1, d2⟩ | ⟨-, f, -⟩
      · rw [t] at f; exact absurd f (by decide)
      · obtain ⟨v, hv, hw⟩ := p3
        rcases hv with ⟨f, -⟩ | ⟨-, f⟩
        · rw [t] at f; exact absurd f (by decide)
        · have ew : w5 a = v := by
            rcases hw with ⟨-, e⟩ | ⟨n, -⟩
            · exact e
            · exact absurd hcap n
          refine ⟨by rw [ew, f, Int32.add_zero, d1, e1], by rw [d2, e2], by rw [e1]; omega, ?_⟩
          rw [e2, t]
          exact ⟨fun m => absurd m (by omega), fun m => absurd m (by decide)⟩
      · exact absurd q f
    · rcases p2 with ⟨f, -⟩ | ⟨-, f, -⟩ | ⟨-, -, d1, d2⟩
      · rw [t] at f; exact absurd f (by decide)
      · exact absurd f q
      · obtain ⟨v, hv, hw⟩ := p3
        rcases hv with ⟨f, -⟩ | ⟨-, f⟩
        · rw [t] at f; exact absurd f (by decide)
        · have ew : w5 a = v := by
            rcases hw with ⟨-, e⟩ | ⟨n, -⟩
            · exact e
            · exact absurd hcap n
          refine ⟨by rw [ew, f, Int32.add_zero, d1, e1], by rw [d2, e2], by rw [e1]; omega, ?_⟩
          rw [e2, t]
          exact ⟨fun m => absurd m q, fun m => absurd m (by decide)⟩
  have owe : ∀ j : Nat, j < 25 → w4 j = u3 j ∧ (0 ≤ (u3 j).toInt ∧ (u3 j).toInt ≤ Ob (k + 1)) := by
    intro j hj
    have bo := bO j hj
    have gc := gc_sp bo.1 gR (x3 j hj)
    obtain ⟨b, d, f1, f2, f3⟩ := y4 j hj
    rw [eO j hj] at f1 f3
    have gj := go_sp (a := ow j) (r := ra) ⟨bo.1, by omega⟩ gR f1 f2 f3
    have gb := grw_rng bo.1 gR
    refine ⟨?_, ?_⟩
    · apply mi_eq; rw [gj, gc]; omega
    · rw [gc]; omega
  have crn := cr ac.toInt.toNat (Nat.le_refl _)
  refine ⟨by rw [y0, x0, cs _ (Nat.le_refl _)], by rw [y1, x1], x1, fun p hp => by rw [y3 p hp, x2 p (by omega)], fun j hj => (owe j hj).1, fun a ha => (row a ha).1, fun a ha => ?_, ⟨y2.1, fun q hq => ?_⟩, ?_⟩
  · by_cases q : (a : Int) < ac.toInt
    · exact (row a q).2.1
    · rw [y6 a (by omega), (x5 a (by omega)).2, eSt a ha]
  · rw [y2.2 q hq]
    constructor
    · intro m
      have e := m.2
      rw [cs q (by omega), eatb_c (eS q m.1) (eSt q hq)] at e
      exact ⟨m.1, (row q m.1).2.2.2.mpr e⟩
    · intro m
      have e := (row q m.1).2.2.2.mp m.2
      refine ⟨m.1, ?_⟩
      rw [cs q (by omega), eatb_c (eS q m.1) (eSt q hq)]
      exact e
  · refine ⟨by omega, by omega, by rw [x0]; omega, fun a ha => (row a ha).2.2.1, fun j hj => (owe j hj).2, fun p hp => ?_⟩
    have := gC p hp
    rw [x2 p (by omega)]
    omega
