/-! evenings: Fridays to come, what an old star lives on -/
theorem ls2_sp {a b u : Int32} (h : R_j_lesser a b u) : u.toInt = min a.toInt b.toInt := by
  rcases h with ⟨c, e⟩ | ⟨c, e⟩ <;> rw [e] <;> omega
/-- savings alike, or on both sides enough for all that is to come -/
def Rch (l : Nat) (s t : Int32) : Prop := (0 ≤ s.toInt ∧ s.toInt ≤ 1000000000) ∧ (0 ≤ t.toInt ∧ t.toInt ≤ 300000000) ∧ (t.toInt = s.toInt ∨ (160 * (99 - (l : Int)) ≤ s.toInt ∧ 160 * (99 - (l : Int)) ≤ t.toInt))
theorem Rch_eat {l : Nat} {s t p ra s2 t2 : Int32} (hl : l ≤ 98) (hp : 0 ≤ p.toInt ∧ p.toInt ≤ 160) (hr : 0 ≤ ra.toInt ∧ ra.toInt ≤ 50) (h : Rch l s t) (h1 : p.toInt ≤ s.toInt) (h2 : p.toInt ≤ t.toInt) (e1 : s2.toInt = min (grw (s.toInt - p.toInt) ra.toInt) 1000000000) (e2 : t2.toInt = min (grw (t.toInt - p.toInt) ra.toInt) 1000000) : Rch (l + 1) s2 t2 := by
  obtain ⟨hs, ht, h⟩ := h
  have g1 := grw_rng (x := s.toInt - p.toInt) (r := ra.toInt) (by omega) hr
  have g2 := grw_rng (x := t.toInt - p.toInt) (r := ra.toInt) (by omega) hr
  have ge : t.toInt = s.toInt → grw (t.toInt - p.toInt) ra.toInt = grw (s.toInt - p.toInt) ra.toInt := fun e => by rw [e]
  refine ⟨by omega, by omega, ?_⟩
  rcases h with h | h
  · have := ge h
    omega
  · omega
theorem Rch_le {l : Nat} {s t p : Int32} (hl : l ≤ 98) (hp : 0 ≤ p.toInt ∧ p.toInt ≤ 160) (h : Rch l s t) : p.toInt ≤ t.toInt ↔ p.toInt ≤ s.toInt := by
  obtain ⟨hs, ht, h⟩ := h
  omega
def FrI (ac : Int32) (l : Nat) (ch ni : Int32) (sv st : Nat → Int32) (chj nij L : Int32) (svj stj : Nat → Int32) : Prop := chj = ch ∧ nij = ni ∧ (0 ≤ ni.toInt ∧ ni.toInt ≤ 30 + (l : Int)) ∧ Lvs ac L st ∧ (∀ a : Nat, a < 6 → stj a = st a) ∧ (∀ a : Nat, (a : Int) < ac.toInt → (st a).toInt = -1 → Rch l (sv a) (svj a))
theorem fr_eat {ac en c : Int32} {l : Nat} {hu sv st svj stj : Nat → Int32} {a : Nat} (hl : l ≤ 98) (ha : (a : Int) < ac.toInt) (ha6 : a < 6) (hp : 0 ≤ (prc hu en 0 a).toInt ∧ (prc hu en 0 a).toInt ≤ 160) (eT : ∀ a : Nat, a < 6 → stj a = st a) (hR : ∀ a : Nat, (a : Int) < ac.toInt → (st a).toInt = -1 → Rch l (sv a) (svj a)) : eatb hu en svj stj c a = eatb hu en sv st c a := by
  by_cases v : (st a).toInt = -1
  · have q := Rch_le hl hp (hR a ha v)
    by_cases k : eatb hu en sv st c a = true
    · have k2 := eatb_t.mp k
      rw [k]
      exact eatb_t.mpr ⟨by rw [eT a ha6]; exact v, q.mpr k2.2.1, k2.2.2⟩
    · have k3 : eatb hu en sv st c a = false := Bool.eq_false_iff.mpr k
      rw [k3]
      refine eatb_f (fun y => k (eatb_t.mpr ⟨v, q.mp y.2.1, y.2.2⟩))
  · rw [eatb_f (fun y => v y.1), eatb_f (fun y => v (by rw [← eT a ha6]; exact y.1))]
theorem fr_chs {ac en c : Int32} {l : Nat} {hu sv st svj stj : Nat → Int32} (hl : l ≤ 98) (hac : 0 ≤ ac.toInt ∧ ac.toInt ≤ 6) (hp : ∀ a : Nat, (a : Int) < ac.toInt → 0 ≤ (prc hu en 0 a).toInt ∧ (prc hu en 0 a).toInt ≤ 160) (eT : ∀ a : Nat, a < 6 → stj a = st a) (hR : ∀ a : Nat, (a : Int) < ac.toInt → (st a).toInt = -1 → Rch l (sv a) (svj a)) : ∀ n : Nat, (n : Int) ≤ ac.toInt → chs hu en svj stj c n = chs hu en sv st c n := by
  intro n
  induction n with
  | zero => intro _; rfl
  | succ n ih =>
    intro hn
    have e := ih (by omega)
    have q := fr_eat (c := chs hu en sv st c n) (stj := stj) hl (by omega : (n : Int) < ac.toInt) (by omega) (hp n (by omega)) eT hR
    show (if _ then _ else _) = (if _ then _ else _)
    rw [e, q]
theorem fr_night {pa ac X ra en ch ni li chj nij u0 u1 w0 w1 w2 : Int32} {D cl hu ow owj sv st svj stj lf lfj u2 u3 u4 u5 w3 w4 w5 w6 : Nat → Int32} {l : Nat} (hl : l ≤ 98) (hX : 0 ≤ X.toInt ∧ X.toInt ≤ 1) (hac : 0 ≤ ac.toInt ∧ ac.toInt ≤ 6) (hpa : 0 ≤ pa.toInt ∧ pa.toInt ≤ 5) (hC : ∀ i : Nat, (i : Int) < pa.toInt → D (36 * X.toInt.toNat + (6 + 2 * i)) = cl i) (hH : ∀ i : Nat, (i : Int) < ac.toInt → D (36 * X.toInt.toNat + (16 + 2 * i)) = hu i) (gH : ∀ i : Nat, (i : Int) < ac.toInt → 0 ≤ (hu i).toInt ∧ (hu i).toInt ≤ 40) (gR : 0 ≤ ra.toInt ∧ ra.toInt ≤ 50) (he : 0 ≤ en.toInt ∧ en.toInt ≤ 30) (hF : FrI ac l ch ni sv st chj nij li svj stj) (hc : R_k_passNight ac cl lf ni ra ow hu en ch sv st u0 u1 u2 u3 u4 u5) (hj : R_j_night ac pa X D lfj nij ra owj 1 en chj li svj stj w0 w1 w2 w3 w4 w5 w6) : FrI ac (l + 1) u0 u1 u4 u5 w0 w1 w2 w5 w6 := by
  obtain ⟨e1, e2, hn, hL, eT, hR⟩ := hF
  rw [e1, e2] at hj
  have hLj : Lvs ac li stj := ⟨hL.1, fun k hk => by rw [eT k hk]; exact hL.2 k hk⟩
  have hp : ∀ a : Nat, (a : Int) < ac.toInt → 0 ≤ (prc hu en 0 a).toInt ∧ (prc hu en 0 a).toInt ≤ 160 := fun a ha => prc_rng (gH a ha) he
  obtain ⟨c0, c1, -, -, c4, c5⟩ := nc_sp hac hc
  obtain ⟨j0, j1, j2, -, -, j5, j6⟩ := nj_sp hac hX hpa hC hH hLj hj
  clear hc hj
  have eC := fr_chs (c := ch) hl hac hp eT hR
  have eE : ∀ a : Nat, (a : Int) < ac.toInt → eatb hu en svj stj (chs hu en svj stj ch a) a = eatb hu en sv st (chs hu en sv st ch a) a := fun a ha => by
    rw [eC a (by omega)]; exact fr_eat hl ha (by omega) (hp a ha) eT hR
  have g1 : (ni + 1).toInt = ni.toInt + 1 := mi_addc (by decide) (by omega) (by omega)
  -- who lives on: just those who ate
  have live : ∀ a : Nat, (a : Int) < ac.toInt → ((u5 a).toInt = -1 ↔ eatb hu en sv st (chs hu en sv st ch a) a = true) := fun a ha => by
    rcases c4 a ha with ⟨k, -, t⟩ | ⟨k, v, -, t⟩ | ⟨k, v, -, t⟩
    · exact ⟨fun _ => k, fun _ => by rw [t]; exact (eatb_t.mp k).1⟩
    · exact ⟨fun y => by rw [t] at y; omega, fun y => by rw [k] at y; exact absurd y (by decide)⟩
    · exact ⟨fun y => by rw [t] at y; exact absurd y v, fun y => by rw [k] at y; exact absurd y (by decide)⟩
  refine ⟨?_, ?_, ?_, ?_, ?_, ?_⟩
  · rw [j0, c0]; exact eC _ (by omega)
  · rw [j1, c1]
  · rw [c1, g1]; omega
  · refine ⟨j2.1, fun k hk => ?_⟩
    rw [j2.2 k hk]
    constructor
    · rintro ⟨x, y⟩
      rw [eE k x] at y
      exact ⟨x, (live k x).mpr y⟩
    · rintro ⟨x, y⟩
      refine ⟨x, ?_⟩
      rw [eE k x]; exact (live k x).mp y
  · intro a ha6
    by_cases ha : (a : Int) < ac.toInt
    · obtain ⟨s, hs, -⟩ := j5 a ha
      rcases c4 a ha with ⟨k, -, t⟩ | ⟨k, v, -, t⟩ | ⟨k, v, -, t⟩
      · rcases hs with ⟨-, -, t2⟩ | ⟨k2, -⟩ | ⟨k2, -⟩
        · rw [t, t2, eT a ha6]
        · rw [eE a ha, k] at k2; exact absurd k2 (by decide)
        · rw [eE a ha, k] at k2; exact absurd k2 (by decide)
      · rcases hs with ⟨k2, -⟩ | ⟨-, -, -, t2⟩ | ⟨-, v2, -⟩
        · rw [eE a ha, k] at k2; exact absurd k2 (by decide)
        · rw [t, t2]
        · rw [eT a ha6] at v2; exact absurd v v2
      · rcases hs with ⟨k2, -⟩ | ⟨-, v2, -⟩ | ⟨-, -, -, t2⟩
        · rw [eE a ha, k] at k2; exact absurd k2 (by decide)
        · rw [eT a ha6] at v2; exact absurd v2 v
        · rw [t, t2, eT a ha6]
    · rw [(c5 a (by omega)).2, j6 a (by omega), eT a ha6]
  · intro a ha hv
    have k := (live a ha).mp hv
    have kt := eatb_t.mp k
    have r := hR a ha kt.1
    have p := hp a ha
    have q2 : (prc hu en 0 a).toInt ≤ (svj a).toInt := (Rch_le hl p r).mpr kt.2.1
    have rs1 := r.1
    have rt1 := r.2.1
    obtain ⟨s, hs, w, hw, hv2⟩ := j5 a ha
    have es : s = svj a + -(prc hu en 0 a) := by
      rcases hs with ⟨-, e, -⟩ | ⟨k2, -⟩ | ⟨k2, -⟩
      · exact e
      · rw [eE a ha, k] at k2; exact absurd k2 (by decide)
      · rw [eE a ha, k] at k2; exact absurd k2 (by decide)
    have gs : s.toInt = (svj a).toInt - (prc hu en 0 a).toInt := by rw [es]; exact mi_addn p.1 q2
    have gw : w.toInt = grw ((svj a).toInt - (prc hu en 0 a).toInt) ra.toInt := by
      rcases hw with ⟨-, x, y, z, q, b, f1, f2, f3, f4, f5, f6⟩ | ⟨k2, -⟩
      · rw [gs_sp (by omega) gR f1 f2 f3 f4 f5 f6, gs]
      · rw [eE a ha, k] at k2; exact absurd k2 (by decide)
    have gv : (w5 a).toInt = min (grw ((svj a).toInt - (prc hu en 0 a).toInt) ra.toInt) 1000000 := by
      rcases hv2 with ⟨y, -⟩ | ⟨-, y⟩
      · exact absurd y (by decide)
      · rw [ls2_sp y, gw, show (1000000 : Int32).toInt = 1000000 from by decide]; omega
    have gu : (u4 a).toInt = min (grw ((sv a).toInt - (prc hu en 0 a).toInt) ra.toInt) 1000000000 := by
      have gx : (sv a + -(prc hu en 0 a)).toInt = (sv a).toInt - (prc hu en 0 a).toInt := mi_addn p.1 kt.2.1
      rcases c4 a ha with ⟨-, hg, -⟩ | ⟨k2, -⟩ | ⟨k2, -⟩
      · rw [gc_sp (by rw [gx]; omega) gR hg, gx]
      · rw [k] at k2; exact absurd k2 (by decide)
      · rw [k] at k2; exact absurd k2 (by decide)
    exact Rch_eat hl p gR r kt.2.1 q2 gu gv
theorem fri_loop {pa ac X ra en a u0 u1 u2 u3 w0 w1 w2 w3 w4 : Int32} {D cl hu u4 u5 u6 u7 w5 w6 w7 w8 : Nat → Int32} (hX : 0 ≤ X.toInt ∧ X.toInt ≤ 1) (hac : 0 ≤ ac.toInt ∧ ac.toInt ≤ 6) (hpa : 0 ≤ pa.toInt ∧ pa.toInt ≤ 5) (hC : ∀ i : Nat, (i : Int) < pa.toInt → D (36 * X.toInt.toNat + (6 + 2 * i)) = cl i) (hH : ∀ i : Nat, (i : Int) < ac.toInt → D (36 * X.toInt.toNat + (16 + 2 * i)) = hu i) (gH : ∀ i : Nat, (i : Int) < ac.toInt → 0 ≤ (hu i).toInt ∧ (hu i).toInt ≤ 40) (gR : 0 ≤ ra.toInt ∧ ra.toInt ≤ 50) (he : 0 ≤ en.toInt ∧ en.toInt ≤ 30) (ha : 0 ≤ a.toInt ∧ a.toInt < ac.toInt) : ∀ (N M : Nat) (l : Int32) (ch ni hs : Int32) (lf ow sv st : Nat → Int32) (chj nij lij hsj : Int32) (lfj owj svj stj : Nat → Int32), fx (T_k_friday_12 ac cl ra hu en a u0 u1 u2 u3 u4 u5 u6 u7) N (l, ch, ni, hs, lf, ow, sv, st) → fx (T_j_friday_7 a ac pa X D ra en w0 w1 w2 w3 w4 w5 w6 w7 w8) (M + 1) (l, chj, nij, lij, hsj, lfj, owj, svj, stj) → N ≤ M → (0 ≤ l.toInt ∧ l.toInt ≤ 99) → FrI ac l.toInt.toNat ch ni sv st chj nij lij svj stj → (st a.toInt.toNat).toInt = -1 → u0 = w0 := by
  intro N
  induction N with
  | zero => intro M l ch ni hs lf ow sv st chj nij lij hsj lfj owj svj stj h; exact h.elim
  | succ N ih =>
    intro M l ch ni hs lf ow sv st chj nij lij hsj lfj owj svj stj h hj hNM hl hF hv
    have f1 : 99 ≤ l.toInt → l = 99 := fun _ => mi_eq (by rw [show (99 : Int32).toInt = 99 from by decide]; clear h hj; omega)
    have f2 : l.toInt < 99 → l.toInt.toNat ≤ 98 := fun _ => by clear h hj; omega
    have f3 : l.toInt < 99 → ∀ z : Int32, z = l + 1 → (0 ≤ z.toInt ∧ z.toInt ≤ 99) ∧ z.toInt.toNat = l.toInt.toNat + 1 := fun _ z ez => by
      have g : z.toInt = l.toInt + 1 := by rw [ez]; exact mi_addc (by decide) (by clear h hj; omega) (by clear h hj; omega)
      clear h hj
      omega
    obtain ⟨M2, eM⟩ : ∃ M2 : Nat, M = M2 + 1 := ⟨M - 1, by omega⟩
    replace h := fx_o h
    replace hj := fx_o hj
    rw [eM] at hj
    dsimp only [T_k_friday_12] at h
    dsimp only [T_j_friday_7, R_j_friday_s0] at hj
    rcases h with ⟨c, e, -⟩ | ⟨c, b0, b1, b2, b3, b4, b5, hn, b6, hb6, h⟩
    · rcases hj with ⟨-, e2, -⟩ | ⟨c2, -⟩
      · rw [e, e2, f1 c]
      · exact absurd c (Int.not_le.mpr c2)
    · rcases hj with ⟨c2, -⟩ | ⟨-, q, hq, hj⟩
      · exact absurd c2 (Int.not_le.mpr c)
      · have hq := jlv hac hF.2.2.2.1 ha hq
        rcases hj with ⟨q0, -⟩ | ⟨-, y1, y2, y3, y4, y5, y6, y7, hn2, y8, hy8, hj⟩
        · rcases hq with ⟨-, q1⟩ | ⟨nv, -⟩
          · rw [q1] at q0; exact absurd q0 (by decide)
          · exact absurd hv nv
        · have hF2 := fr_night (f2 c) hX hac hpa hC hH gH gR he hF hn hn2
          clear hn hn2
          have hb6 := lv_sp hb6
          have hy8 := jlv hac hF2.2.2.2.1 ha hy8
          rcases h with ⟨q6, z, ez, hk⟩ | ⟨q6, e, -⟩
          · have v5 : (b5 a.toInt.toNat).toInt = -1 := by
              rcases hb6 with ⟨y, -⟩ | ⟨-, y⟩
              · exact y.2
              · rw [q6] at y; exact absurd y (by decide)
            rcases hj with ⟨q8, -⟩ | ⟨-, z2, ez2, hk2⟩
            · rcases hy8 with ⟨-, y⟩ | ⟨y, -⟩
              · rw [y] at q8; exact absurd q8 (by decide)
              · exact absurd v5 y
            · have ezz : z2 = z := by rw [ez2, ez]
              rw [ezz] at hk2
              have g3 := f3 c z ez
              refine ih M2 z _ _ _ _ _ _ _ _ _ _ _ _ _ _ _ hk hk2 (by omega) g3.1 ?_ v5
              rw [g3.2]; exact hF2
          · have v5 : ¬ (b5 a.toInt.toNat).toInt = -1 := fun y => by
              rcases hb6 with ⟨-, y2⟩ | ⟨y2, -⟩
              · rw [q6] at y2; exact absurd y2 (by decide)
              · exact y2 ⟨ha, y⟩
            rcases hj with ⟨-, z2, ez2, hk2⟩ | ⟨q8, -⟩
            · have ezz : z2 = l := by rw [ez2]; exact Int32.add_zero l
              rw [ezz] at hk2
              replace hk2 := fx_o hk2
              dsimp only [T_j_friday_7, R_j_friday_s0] at hk2
              rcases hk2 with ⟨c2, -⟩ | ⟨-, q9, hq9, hk2⟩
              · exact absurd c2 (Int.not_le.mpr c)
              · have hq9 := jlv hac hF2.2.2.2.1 ha hq9
                rcases hk2 with ⟨-, e2, -⟩ | ⟨q10, -⟩
                · rw [e, e2]
                · rcases hq9 with ⟨y, -⟩ | ⟨-, y⟩
                  · exact absurd y v5
                  · rw [y] at q10; exact absurd (by decide) q10
            · rcases hy8 with ⟨y, -⟩ | ⟨-, y⟩
              · exact absurd y v5
              · rw [y] at q8; exact absurd (by decide) q8
theorem star_sim {p ra u w : Int32} (hp : 0 ≤ p.toInt ∧ p.toInt ≤ 160) (gR : 0 ≤ ra.toInt ∧ ra.toInt ≤ 50) : ∀ (N M : Nat) (l s t : Int32), fx (T_k_star_26 p ra u) N (l, s) → fx (T_j_star_23 p ra w) M (l, t) → (0 ≤ l.toInt ∧ l.toInt ≤ 99) → Rch l.toInt.toNat s t → t.toInt ≤ 1000000 → u = w := by
  intro N
  induction N with
  | zero => intro M l s t h; exact h.elim
  | succ N ih =>
    intro M l s t h hj hl hR ht
    cases M with
    | zero => exact hj.elim
    | succ M =>
      have f1 : 99 ≤ l.toInt → l = 99 := fun _ => mi_eq (by rw [show (99 : Int32).toInt = 99 from by decide]; clear h hj; omega)
      have f2 : l.toInt < 99 → l.toInt.toNat ≤ 98 := fun _ => by clear h hj; omega
      have f3 : l.toInt < 99 → ∀ z : Int32, z = l + 1 → (0 ≤ z.toInt ∧ z.toInt ≤ 99) ∧ z.toInt.toNat = l.toInt.toNat + 1 := fun _ z ez => by
        have g : z.toInt = l.toInt + 1 := by rw [ez]; exact mi_addc (by decide) (by clear h hj; omega) (by clear h hj; omega)
        clear h hj
        omega
      have rs1 := hR.1
      have rt1 := hR.2.1
      have hm : (1000000 : Int32).toInt = 1000000 := by decide
      replace h := fx_o h
      replace hj := fx_o hj
      dsimp only [T_k_star_26] at h
      dsimp only [T_j_star_23] at hj
      rcases h with ⟨c, e⟩ | ⟨c, h⟩
      · rcases hj with ⟨-, e2⟩ | ⟨c2, -⟩
        · rw [e, e2, f1 c]
        · exact absurd c (Int.not_le.mpr c2)
      · rcases hj with ⟨c2, -⟩ | ⟨-, hj⟩
        · exact absurd c2 (Int.not_le.mpr c)
        · have q := Rch_le (f2 c) hp hR
          rcases h with ⟨d, b0, e0, b1, hg, z, ez, hk⟩ | ⟨d, e⟩
          · rcases hj with ⟨d2, -⟩ | ⟨d2, c0, g0, c1, g1, c2, g2, c3, g3, c4, hl4, z2, ez2, hk2⟩
            · exact absurd (q.mpr d) (Int.not_le.mpr d2)
            · have ezz : z2 = z := by rw [ez2, ez]
              rw [ezz] at hk2
              have g5 := f3 c z ez
              have v0 : b0.toInt = s.toInt - p.toInt := by rw [e0]; exact mi_sub (by clear hk hk2; omega) (by clear hk hk2; omega)
              have x0 : c0.toInt = t.toInt - p.toInt := by rw [g0]; exact mi_sub (by clear hk hk2; omega) (by clear hk hk2; omega)
              have v1 : b1.toInt = min (grw (s.toInt - p.toInt) ra.toInt) 1000000000 := by rw [gc_sp (by rw [v0]; clear hk hk2; omega) gR hg, v0]
              have x3 : c3.toInt = grw (t.toInt - p.toInt) ra.toInt := by rw [go_sp (by rw [x0]; clear hk hk2; omega) gR g1 g2 g3, x0]
              have x4 : c4.toInt = min (grw (t.toInt - p.toInt) ra.toInt) 1000000 := by rw [ls2_sp hl4, x3, hm]
              refine ih M z b1 c4 hk hk2 g5.1 ?_ (by rw [x4]; clear hk hk2; omega)
              rw [g5.2]
              exact Rch_eat (f2 c) hp gR hR d d2 v1 x4
          · rcases hj with ⟨-, e2⟩ | ⟨d2, -⟩
            · rw [e, e2]
            · exact absurd (q.mp d2) (Int.not_le.mpr d)
theorem actor_core {a pa ac ra d : Int32} {D cl ha hu : Nat → Int32} {u1 u2 u3 u4 u5 u6 : Int32} {u7 u8 u9 u10 u11 u12 : Nat → Int32} {w1 w2 w3 w4 w5 w6 w7 w8 w9 w10 w11 : Int32} {w12 w13 w14 w15 w16 w17 : Nat → Int32} {c1 c2 c3 c4 c5 c6 c7 c8 c9 c10 c11 c12 : Int32} {c13 c14 c15 c16 c17 c18 : Nat → Int32} {v1 v2 v3 : Int32} {v4 v5 v6 v7 : Nat → Int32} {f g q r r2 cap : Int32} (hE : StE a pa ac ra d D cl ha hu u1 u2 u3 u4 u5 u6 u7 u8 u9 u10 u11 u12 w1 w2 w3 w4 w5 w6 w7 w8 w9 w10 w11 w12 w13 w14 w15 w16 w17) (hf : 0 ≤ f.toInt ∧ f.toInt < ac.toInt) (hx : R_k_tellActor g u1 u3 u5 u7 u8 u10 u11 f ac hu u2 cl ra u12 r v1 v2 v3 v4 v5 v6 v7) (hy : R_y_actor_s1 q w8 f g w1 w2 w3 w4 w5 w6 w7 w9 w10 w11 cap w12 w13 w14 w15 w16 w17 D r2 c10 c11 c12 c13 c14 c15 c16 c17 c18 c1 c2 c3 c4 c5 c6 c7 c8 c9) : r = r2 := by
  obtain ⟨hd, H, ⟨t1, t2, t3, t4⟩, ⟨s1, s2, s3, s4, s5, s6⟩, ⟨eL, eO, eG, eS, eSo, eSt⟩, hL, hB⟩ := hE
  obtain ⟨hX, hac, hpa, hC, hHa, hH, gC, gHa, gH, gR⟩ := H
  obtain ⟨bE, bN, bC, bS, bO, bL⟩ := hB
  have k30 : ((d.toInt.toNat : Nat) : Int) ≤ 30 := by clear hx hy; omega
  have kS := Sb_rng (k := d.toInt.toNat) (by clear hx hy; omega)
  have f6 : f.toInt.toNat < 6 := by clear hx hy; omega
  have fac : ((f.toInt.toNat : Nat) : Int) < ac.toInt := by clear hx hy; omega
  have eN : 0 ≤ u2.toInt ∧ u2.toInt ≤ 30 := ⟨bE.1, by clear hx hy; omega⟩
  have eSf := eS _ fac
  have hp : 0 ≤ (prc hu u2 0 f.toInt.toNat).toInt ∧ (prc hu u2 0 f.toInt.toNat).toInt ≤ 160 := prc_rng (gH _ fac) eN
  obtain ⟨-, b0, hb0, hy⟩ := hy
  have hb0 := jlv hac hL hf hb0
  have lx : ∀ {z : Int32}, R_k_lives f ac u11 z → (z = 1 ↔ (u11 f.toInt.toNat).toInt = -1) ∧ (z = 0 ↔ ¬ (u11 f.toInt.toNat).toInt = -1) := fun {z} hz => by
    rcases lv_sp hz with ⟨v, e⟩ | ⟨v, e⟩
    · rw [e]; exact ⟨⟨fun _ => v.2, fun _ => rfl⟩, ⟨fun y => absurd y (by decide), fun y => absurd v.2 y⟩⟩
    · rw [e]; exact ⟨⟨fun y => absurd y (by decide), fun y => absurd ⟨hf, y⟩ v⟩, ⟨fun _ y => v ⟨hf, y⟩, fun _ => rfl⟩⟩
  have b1 : b0.toInt ≠ 0 ↔ (u11 f.toInt.toNat).toInt = -1 := by
    rcases hb0 with ⟨v, e⟩ | ⟨v, e⟩
    · rw [e]; exact ⟨fun _ => v, fun _ => by decide⟩
    · rw [e]; exact ⟨fun y => absurd (by decide) y, fun y => absurd y v⟩
  rw [t1, t2, t3, t4, s1, s2, s3] at hy
  rcases hx with ⟨c, e, -⟩ | ⟨c, z, ez, e, -⟩ | ⟨c, z, hz, hx⟩ | ⟨c, z, hz, hx⟩ | ⟨c, z, hz, e, -⟩ | ⟨c, z, ez, e, -⟩ | ⟨c, z, n1, n2, n3, n4, n5, n6, n7, hz, e, -⟩ | ⟨c, z, hz, e, -⟩ | ⟨c, z, ez, e, -⟩
  · rcases hy with ⟨k, e2, -⟩ | ⟨k, y, ey, e2, -⟩ | ⟨k, hy⟩ | ⟨k, hy⟩ | ⟨k, y, hy, e2, -⟩ | ⟨k, y, ey, e2, -⟩ | ⟨k, hy⟩ | ⟨k, hy⟩ | ⟨k, y, ey, e2, -⟩
    · rw [e, e2]
    · rw [k] at c; exact absurd c (by decide)
    · rw [k] at c; exact absurd c (by decide)
    · rw [k] at c; exact absurd c (by decide)
    · rw [k] at c; exact absurd c (by decide)
    · rw [k] at c; exact absurd c (by decide)
    · rw [k] at c; exact absurd c (by decide)
    · rw [k] at c; exact absurd c (by decide)
    · rw [k] at c; exact absurd c (by decide)
  · rcases hy with ⟨k, e2, -⟩ | ⟨k, y, ey, e2, -⟩ | ⟨k, hy⟩ | ⟨k, hy⟩ | ⟨k, y, hy, e2, -⟩ | ⟨k, y, ey, e2, -⟩ | ⟨k, hy⟩ | ⟨k, hy⟩ | ⟨k, y, ey, e2, -⟩
    · rw [c] at k; exact absurd k (by decide)
    · rw [e, ez, e2, ey, mi_cl, eSf]
    · rw [c] at k; exact absurd k (by decide)
    · rw [c] at k; exact absurd k (by decide)
    · rw [c] at k; exact absurd k (by decide)
    · rw [c] at k; exact absurd k (by decide)
    · rw [c] at k; exact absurd k (by decide)
    · rw [c] at k; exact absurd k (by decide)
    · rw [c] at k; exact absurd k (by decide)
  · rcases hy with ⟨k, e2, -⟩ | ⟨k, y, ey, e2, -⟩ | ⟨k, hy⟩ | ⟨k, hy⟩ | ⟨k, y, hy, e2, -⟩ | ⟨k, y, ey, e2, -⟩ | ⟨k, hy⟩ | ⟨k, hy⟩ | ⟨k, y, ey, e2, -⟩
    · rw [c] at k; exact absurd k (by decide)
    · rw [c] at k; exact absurd k (by decide)
    · have lz := lx hz
      rcases hx with ⟨q1, e, -⟩ | ⟨q0, e, -⟩
      · rcases hy with ⟨k0, -⟩ | ⟨-, e2, -⟩
        · exact absurd k0 (b1.mpr (lz.1.mp q1))
        · rw [e, e2]
      · rcases hy with ⟨-, e2, -⟩ | ⟨k1, -⟩
        · rw [e, e2]
        · exact absurd (b1.mp k1) (lz.2.mp q0)
    · rw [c] at k; exact absurd k (by decide)
    · rw [c] at k; exact absurd k (by decide)
    · rw [c] at k; exact absurd k (by decide)
    · rw [c] at k; exact absurd k (by decide)
    · rw [c] at k; exact absurd k (by decide)
    · rw [c] at k; exact absurd k (by decide)
  · rcases hy with ⟨k, e2, -⟩ | ⟨k, y, ey, e2, -⟩ | ⟨k, hy⟩ | ⟨k, hy⟩ | ⟨k, y, hy, e2, -⟩ | ⟨k, y, ey, e2, -⟩ | ⟨k, hy⟩ | ⟨k, hy⟩ | ⟨k, y, ey, e2, -⟩
    · rw [c] at k; exact absurd k (by decide)
    · rw [c] at k; exact absurd k (by decide)
    · rw [c] at k; exact absurd k (by decide)
    · have lz := lx hz
      rcases hx with ⟨q1, p, hp2, e, -⟩ | ⟨q0, e, -⟩
      · rcases hy with ⟨k0, -⟩ | ⟨-, p2, hp3, e2, -⟩
        · exact absurd k0 (b1.mpr (lz.1.mp q1))
        · rw [e, e2, pr_sp hp2, ea_sp hX hac.2 hH hf hp3]
      · rcases hy with ⟨-, e2, -⟩ | ⟨k1, -⟩
        · rw [e, e2]
        · exact absurd (b1.mp k1) (lz.2.mp q0)
    · rw [c] at k; exact absurd k (by decide)
    · rw [c] at k; exact absurd k (by decide)
    · rw [c] at k; exact absurd k (by decide)
    · rw [c] at k; exact absurd k (by decide)
    · rw [c] at k; exact absurd k (by decide)
  · rcases hy with ⟨k, e2, -⟩ | ⟨k, y, ey, e2, -⟩ | ⟨k, hy⟩ | ⟨k, hy⟩ | ⟨k, y, hy, e2, -⟩ | ⟨k, y, ey, e2, -⟩ | ⟨k, hy⟩ | ⟨k, hy⟩ | ⟨k, y, ey, e2, -⟩
    · rw [c] at k; exact absurd k (by decide)
    · rw [c] at k; exact absurd k (by decide)
    · rw [c] at k; exact absurd k (by decide)
    · rw [c] at k; exact absurd k (by decide)
    · rw [e, e2, need_x hf hz, need_y hX hac hH hL hf hy, ndv_c eSf]
    · rw [c] at k; exact absurd k (by decide)
    · rw [c] at k; exact absurd k (by decide)
    · rw [c] at k; exact absurd k (by decide)
    · rw [c] at k; exact absurd k (by decide)
  · rcases hy with ⟨k, e2, -⟩ | ⟨k, y, ey, e2, -⟩ | ⟨k, hy⟩ | ⟨k, hy⟩ | ⟨k, y, hy, e2, -⟩ | ⟨k, y, ey, e2, -⟩ | ⟨k, hy⟩ | ⟨k, hy⟩ | ⟨k, y, ey, e2, -⟩
    · rw [c] at k; exact absurd k (by decide)
    · rw [c] at k; exact absurd k (by decide)
    · rw [c] at k; exact absurd k (by decide)
    · rw [c] at k; exact absurd k (by decide)
    · rw [c] at k; exact absurd k (by decide)
    · rw [e, ez, e2, ey, mi_cl, eSt _ f6]
    · rw [c] at k; exact absurd k (by decide)
    · rw [c] at k; exact absurd k (by decide)
    · rw [c] at k; exact absurd k (by decide)
  · rcases hy with ⟨k, e2, -⟩ | ⟨k, y, ey, e2, -⟩ | ⟨k, hy⟩ | ⟨k, hy⟩ | ⟨k, y, hy, e2, -⟩ | ⟨k, y, ey, e2, -⟩ | ⟨k, hy⟩ | ⟨k, hy⟩ | ⟨k, y, ey, e2, -⟩
    · rw [c] at k; exact absurd k (by decide)
    · rw [c] at k; exact absurd k (by decide)
    · rw [c] at k; exact absurd k (by decide)
    · rw [c] at k; exact absurd k (by decide)
    · rw [c] at k; exact absurd k (by decide)
    · rw [c] at k; exact absurd k (by decide)
    · obtain ⟨r1, hr1, hz⟩ := hz
      have lz := lx hr1
      rcases hz with ⟨q1, hz⟩ | ⟨q0, e0, -⟩
      · rcases hy with ⟨k0, -⟩ | ⟨-, y0, y1, y2, y3, y4, y5, y6, y7, y8, hy, e2, -⟩
        · exact absurd k0 (b1.mpr (lz.1.mp q1))
        · rw [e, e2]
          refine fri_loop hX hac hpa hC hH gH gR eN hf 101 200 _ _ _ _ _ _ _ _ _ _ _ _ _ _ _ _ hz hy (by decide) ⟨by decide, by decide⟩ ?_ (lz.1.mp q1)
          have z00 : (0 : Int32).toInt.toNat = 0 := by decide
          rw [z00]
          refine ⟨rfl, rfl, by clear hz hy hr1; omega, hL, eSt, fun b hb _ => ?_⟩
          have bs := bS b hb
          refine ⟨by clear hz hy hr1; omega, by rw [eS b hb]; clear hz hy hr1; omega, Or.inl (by rw [eS b hb])⟩
      · rcases hy with ⟨-, e2, -⟩ | ⟨k1, -⟩
        · rw [e, e0, e2]
        · exact absurd (b1.mp k1) (lz.2.mp q0)
    · rw [c] at k; exact absurd k (by decide)
    · rw [c] at k; exact absurd k (by decide)
  · rcases hy with ⟨k, e2, -⟩ | ⟨k, y, ey, e2, -⟩ | ⟨k, hy⟩ | ⟨k, hy⟩ | ⟨k, y, hy, e2, -⟩ | ⟨k, y, ey, e2, -⟩ | ⟨k, hy⟩ | ⟨k, hy⟩ | ⟨k, y, ey, e2, -⟩
    · rw [c] at k; exact absurd k (by decide)
    · rw [c] at k; exact absurd k (by decide)
    · rw [c] at k; exact absurd k (by decide)
    · rw [c] at k; exact absurd k (by decide)
    · rw [c] at k; exact absurd k (by decide)
    · rw [c] at k; exact absurd k (by decide)
    · rw [c] at k; exact absurd k (by decide)
    · obtain ⟨r1, hr1, hz⟩ := hz
      have lz := lx hr1
      rcases hz with ⟨q1, p, ep, p2, hp2, hz⟩ | ⟨q0, e0⟩
      · rcases hy with ⟨k0, -⟩ | ⟨-, y0, hy, e2, -⟩
        · exact absurd k0 (b1.mpr (lz.1.mp q1))
        · obtain ⟨y1, ey1, y2, hy2, y3, hy3, hy⟩ := hy
          have hp2 := pr_sp hp2
          have hy3 := ea_sp hX hac.2 hH hf hy3
          have hy2 := ls2_sp hy2
          rw [mi_cl] at ep ey1
          rw [eSf] at ey1
          rw [hp2] at hz
          rw [hy3] at hy
          rw [e, e2]
          have bs := bS _ fac
          have hm : (1000000 : Int32).toInt = 1000000 := by decide
          rw [ey1, hm] at hy2
          refine star_sim hp gR _ _ _ _ _ hz hy ⟨by decide, by decide⟩ ?_ (by clear hz hy hr1; omega)
          have z00 : (0 : Int32).toInt.toNat = 0 := by decide
          rw [z00, ep]
          refine ⟨by clear hz hy hr1; omega, by clear hz hy hr1; omega, ?_⟩
          clear hz hy hr1
          omega
      · rcases hy with ⟨-, e2, -⟩ | ⟨k1, -⟩
        · rw [e, e0, e2]
        · exact absurd (b1.mp k1) (lz.2.mp q0)
    · rw [c] at k; exact absurd k (by decide)
  · rcases hy with ⟨k, e2, -⟩ | ⟨k, y, ey, e2, -⟩ | ⟨k, hy⟩ | ⟨k, hy⟩ | ⟨k, y, hy, e2, -⟩ | ⟨k, y, ey, e2, -⟩ | ⟨k, hy⟩ | ⟨k, hy⟩ | ⟨k, y, ey, e2, -⟩
    · rw [c] at k; exact absurd k (by decide)
    · rw [c] at k; exact absurd k (by decide)
    · rw [c] at k; exact absurd k (by decide)
    · rw [c] at k; exact absurd k (by decide)
    · rw [c] at k; exact absurd k (by decide)
    · rw [c] at k; exact absurd k (by decide)
    · rw [c] at k; exact absurd k (by decide)
    · rw [c] at k; exact absurd k (by decide)
    · rw [e, ez, e2, ey, mi_cl, eSo _ f6]
theorem actor_sim {TN : Nat → Int32} {TF M : Nat → Nat → Int32} (h : TLg 0 TN TF M) (hr3 : 0 ≤ (TN 3).toInt ∧ (TN 3).toInt ≤ 2) (hr4 : 0 ≤ (TN 4).toInt ∧ (TN 4).toInt ≤ 2) {x0 x1 x2 x3 x4 r r2 : Int32} (hx : S_x_actor TN TF x0 x1 x2 x3 x4 r) (hy : S_y_actor M x0 x1 x2 x3 x4 r2) : r = r2 := by
  obtain ⟨_, _, _, _, _, _, _, _, _, _, _, _, _, _, _, _, _, _, _, _, _, _, _, _, hx⟩ := hx
  obtain ⟨_, _, _, _, _, _, _, _, _, _, _, _, _, _, _, _, _, _, _, _, _, _, _, _, _, _, _, _, _, _, _, _, _, _, _, _, hy, hc⟩ := hy
  obtain ⟨p, n0, n1, n2, n3, n4, n5, n6, n7, n8, n9, n10, n11, hk, hx⟩ := hx
  obtain ⟨q, m0, m1, m2, m3, m4, m5, m6, m7, m8, m9, m10, m11, m12, m13, m14, m15, m16, hl, hy⟩ := hy
  have hs := reach_sim h hr3 hr4 rfl rfl (by clear hk hl hx hy; omega) hk hl
  clear hk hl
  have z0 : ¬ ((0 : Int32).toInt ≠ 0) := by decide
  have z1 : ¬ ((1 : Int32).toInt = 0) := by decide
  rcases hs with ⟨p0, q0⟩ | ⟨p1, q1, hs⟩
  · have ex : r = -2 := by
      rcases hx with hx | hx | ⟨-, e, -⟩
      · rcases hx.2 with ⟨-, e, -⟩ | ⟨c, -⟩
        · exact e
        · rw [p0] at c; exact absurd c z0
      · rcases hx.2 with ⟨-, e, -⟩ | ⟨c, -⟩
        · exact e
        · rw [p0] at c; exact absurd c z0
      · exact e
    rcases hy with ⟨-, e, -⟩ | ⟨c, -⟩
    · rw [ex, e]
    · rw [q0] at c; exact absurd c z0
  · rcases hy with ⟨c, -⟩ | ⟨-, v, hv, hy⟩
    · rw [q1] at c; exact absurd c z1
    · rcases hs with ⟨ca, hs⟩ | ⟨ca, hs⟩
      · have hac := hs.2.1.2.1
        have e3 := hs.2.2.1.2.2.1
        rw [e3] at hv
        have hv := ja_sp hac hv
        rcases hx with hx | hx | ⟨c, -⟩
        · rcases hx.2 with ⟨c, -⟩ | ⟨-, b, hb, hx⟩
          · rw [p1] at c; exact absurd c z1
          · have hb := ka_sp hb
            rcases hx with ⟨b1, t, t2, t3, t4, t5, t6, t7, t8, ht, e, -⟩ | ⟨b0, e, -⟩
            · have hin : 0 ≤ x3.toInt ∧ x3.toInt < (TN 7).toInt := by
                rcases hb with ⟨y, -⟩ | ⟨-, y⟩
                · exact y
                · rw [b1] at y; exact absurd y (by decide)
              rcases hy with hy | ⟨v0, -⟩
              · rw [e]; exact actor_core hs hin ht hy
              · rcases hv with ⟨-, y⟩ | ⟨y, -⟩
                · rw [v0] at y; exact absurd y (by decide)
                · exact absurd hin y
            · rcases hy with hy | ⟨-, e2, -⟩
              · have v1 := hy.1
                rcases hv with ⟨y, -⟩ | ⟨-, y⟩
                · rcases hb with ⟨-, y2⟩ | ⟨y2, -⟩
                  · rw [b0] at y2; exact absurd y2 (by decide)
                  · exact absurd y y2
                · rw [v1] at y; exact absurd y (by decide)
              · rw [e, e2]
        · exact absurd ca hx.1
        · rw [p1] at c; exact absurd c z1
      · have hac := hs.2.1.2.1
        have e3 := hs.2.2.1.2.2.1
        rw [e3] at hv
        have hv := ja_sp hac hv
        rcases hx with hx | hx | ⟨c, -⟩
        · have cb := hx.1; rw [cb] at ca; exact absurd ca (by decide)
        · rcases hx.2 with ⟨c, -⟩ | ⟨-, b, hb, hx⟩
          · rw [p1] at c; exact absurd c z1
          · have hb := ka_sp hb
            rcases hx with ⟨b1, t, t2, t3, t4, t5, t6, t7, t8, ht, e, -⟩ | ⟨b0, e, -⟩
            · have hin : 0 ≤ x3.toInt ∧ x3.toInt < (TN 13).toInt := by
                rcases hb with ⟨y, -⟩ | ⟨-, y⟩
                · exact y
                · rw [b1] at y; exact absurd y (by decide)
              rcases hy with hy | ⟨v0, -⟩
              · rw [e]; exact actor_core hs hin ht hy
              · rcases hv with ⟨-, y⟩ | ⟨y, -⟩
                · rw [v0] at y; exact absurd y (by decide)
                · exact absurd hin y
            · rcases hy with hy | ⟨-, e2, -⟩
              · have v1 := hy.1
                rcases hv with ⟨y, -⟩ | ⟨-, y⟩
                · rcases hb with ⟨-, y2⟩ | ⟨y2, -⟩
                  · rw [b0] at y2; exact absurd y2 (by decide)
                  · exact absurd y y2
                · rw [v1] at y; exact absurd y (by decide)
              · rw [e, e2]
        · rw [p1] at c; exact absurd c z1
