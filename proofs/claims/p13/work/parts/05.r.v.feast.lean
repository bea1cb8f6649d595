/-! evenings: whom to clap -/
theorem ofn {i : Int32} (h : 0 ≤ i.toInt) : Int32.ofNat i.toInt.toNat = i := mi_eq (by
  have := mi_rng i
  rw [Int32.toInt_ofNat_of_lt (by show i.toInt.toNat < 2 ^ 31; omega)]
  omega)
/-- claps left of palms with so many hands who are not hushed -/
def lov (ha lf : Nat → Int32) (hs : Int32) (n : Int) (p : Nat) : Int32 := if (ha p).toInt = n ∧ ¬ ((hs >>> (Int32.ofNat p &&& 31)) &&& 1).toInt = 1 then lf p else 0
theorem lay_x {pa ac en hs u0 u1 u2 : Int32} {st hu sv ha lf : Nat → Int32} (hpa : 0 ≤ pa.toInt ∧ pa.toInt ≤ 5) (gHa : ∀ i : Nat, (i : Int) < pa.toInt → 1 ≤ (ha i).toInt ∧ (ha i).toInt ≤ 2) (h : R_k_lay pa ac st hu en sv hs ha lf u0 u1 u2) : ∃ L : Int32, R_k_living ac st L ∧ fx (T_k_lay_95 L (rs (lov ha lf hs 2) pa.toInt.toNat) (rs (lov ha lf hs 1) pa.toInt.toNat) ac st hu en sv u0 u1 u2) 65 ((1 : Int32), (0 : Int32), (0 : Int32), (0 : Int32)) := by
  have a0 : ∀ x : Int32, x + 0 = x := fun x => Int32.add_zero x
  obtain ⟨⟨one, two⟩, hs2, L, hL, hq⟩ := loopP (α := Int32 × Int32) (n := pa) (P := fun k s => s.1 = rs (lov ha lf hs 1) k ∧ s.2 = rs (lov ha lf hs 2) k) (Q := fun s => ∃ L : Int32, R_k_living ac st L ∧ fx (T_k_lay_95 L s.2 s.1 ac st hu en sv u0 u1 u2) 65 ((1 : Int32), (0 : Int32), (0 : Int32), (0 : Int32))) (by omega) (fun K i s hi hP hT => by
    obtain ⟨one, two⟩ := s
    have hP1 : one = rs (lov ha lf hs 1) i.toInt.toNat := hP.1
    have hP2 : two = rs (lov ha lf hs 2) i.toInt.toNat := hP.2
    have io := ofn hi.1
    have yes : ∀ n : Int, (ha i.toInt.toNat).toInt = n → ¬ hb hs i → lov ha lf hs n i.toInt.toNat = lf i.toInt.toNat := fun n e q => if_pos ⟨e, by rw [io]; exact q⟩
    have no1 : ∀ n : Int, (ha i.toInt.toNat).toInt ≠ n → lov ha lf hs n i.toInt.toNat = 0 := fun n e => if_neg (fun q => e q.1)
    have no2 : ∀ n : Int, hb hs i → lov ha lf hs n i.toInt.toNat = 0 := fun n e => if_neg (fun q => q.2 (by rw [io]; exact e))
    dsimp only [T_k_lay_7] at hT
    rcases hT with ⟨c, L, hL, h⟩ | ⟨c, b1, hb1, hT⟩
    · exact Or.inl ⟨c, L, hL, h⟩
    · have hb1 := ih_sp hb1
      have gh := gHa i.toInt.toNat (by clear hT; omega)
      refine Or.inr ⟨c, ?_⟩
      rcases hT with ⟨q, z, ez, hk⟩ | ⟨q, b3, e3, hT⟩
      · have hy : hb hs i := by
          rcases hb1 with ⟨y, -⟩ | ⟨-, y⟩
          · exact y
          · rw [y] at q; exact absurd (by decide) q
        refine ⟨z, (one, two), ez, ⟨?_, ?_⟩, hk⟩
        · show one = rs _ _ + lov ha lf hs 1 i.toInt.toNat
          rw [no2 1 hy, a0, hP1]
        · show two = rs _ _ + lov ha lf hs 2 i.toInt.toNat
          rw [no2 2 hy, a0, hP2]
      · have hy : ¬ hb hs i := by
          rcases hb1 with ⟨-, y⟩ | ⟨y, -⟩
          · rw [y] at q; exact absurd q (by decide)
          · exact y
        rw [mi_cl] at e3
        rw [e3] at hT
        rcases hT with ⟨d, b4, e4, b5, e5, z, ez, hk⟩ | ⟨d, b7, e7, b8, e8, z, ez, hk⟩
        · have h1 : (ha i.toInt.toNat).toInt = 1 := by clear hk; omega
          refine ⟨z, (b5, two), ez, ⟨?_, ?_⟩, hk⟩
          · show b5 = rs _ _ + lov ha lf hs 1 i.toInt.toNat
            rw [yes 1 h1 hy, e5, e4, mi_cl, hP1]
          · show two = rs _ _ + lov ha lf hs 2 i.toInt.toNat
            rw [no1 2 d, a0, hP2]
        · refine ⟨z, (one, b8), ez, ⟨?_, ?_⟩, hk⟩
          · show one = rs _ _ + lov ha lf hs 1 i.toInt.toNat
            rw [no1 1 (by rw [d]; decide), a0, hP1]
          · show b8 = rs _ _ + lov ha lf hs 2 i.toInt.toNat
            rw [yes 2 d hy, e8, e7, mi_cl, hP2]) ⟨rfl, rfl⟩ h
  have h1 : one = rs (lov ha lf hs 1) pa.toInt.toNat := hs2.1
  have h2 : two = rs (lov ha lf hs 2) pa.toInt.toNat := hs2.2
  have hq : fx (T_k_lay_95 L two one ac st hu en sv u0 u1 u2) 65 ((1 : Int32), (0 : Int32), (0 : Int32), (0 : Int32)) := hq
  rw [h1, h2] at hq
  exact ⟨L, hL, hq⟩
theorem left_y {pa X n hs u : Int32} {D ha lf : Nat → Int32} (hX : 0 ≤ X.toInt ∧ X.toInt ≤ 1) (hpa : 0 ≤ pa.toInt ∧ pa.toInt ≤ 5) (hHa : ∀ i : Nat, (i : Int) < pa.toInt → D (36 * X.toInt.toNat + (7 + 2 * i)) = ha i) (h : R_j_leftOf pa X D n hs lf u) : u = rs (lov ha lf hs n.toInt) pa.toInt.toNat := by
  have a0 : ∀ x : Int32, x + 0 = x := fun x => Int32.add_zero x
  obtain ⟨s, hs2, e⟩ := loopP (n := pa) (P := fun k s => s = rs (lov ha lf hs n.toInt) k) (Q := fun s => u = s) (by omega) (fun K i s hi hP hT => by
    have io := ofn hi.1
    dsimp only [T_j_leftOf_4] at hT
    rcases hT with ⟨c, e⟩ | ⟨c, b0, hb0, hT⟩
    · exact Or.inl ⟨c, e⟩
    · have hb0 := hd_sp hX hpa.2 hHa ⟨hi.1, c⟩ hb0
      rw [hb0] at hT
      refine Or.inr ⟨c, ?_⟩
      rcases hT with ⟨d, b1, e1, z, ez, hk⟩ | ⟨d, b3, hb3, hT⟩
      · refine ⟨z, b1, ez, ?_, hk⟩
        show b1 = rs _ _ + (if _ then _ else _)
        rw [if_neg (fun q => d q.1), e1, hP]
      · have hb3 := hs_sp hb3
        rcases hT with ⟨q, b4, e4, z, ez, hk⟩ | ⟨q, b6, e6, b7, e7, z, ez, hk⟩
        · refine ⟨z, b4, ez, ?_, hk⟩
          show b4 = rs _ _ + (if _ then _ else _)
          have hy : hb hs i := by
            rcases hb3 with ⟨y, -⟩ | ⟨-, y⟩
            · exact y
            · rw [y] at q; exact absurd (by decide) q
          rw [if_neg (fun q => q.2 (by rw [io]; exact hy)), e4, hP]
        · refine ⟨z, b7, ez, ?_, hk⟩
          show b7 = rs _ _ + (if _ then _ else _)
          have hy : ¬ hb hs i := by
            rcases hb3 with ⟨-, y⟩ | ⟨y, -⟩
            · rw [y] at q; exact absurd q (by decide)
            · exact y
          rw [if_pos ⟨d, by rw [io]; exact hy⟩, e7, e6, mi_cl, hP]) rfl h
  rw [e, hs2]
theorem lov_rng {ha lf : Nat → Int32} {hs : Int32} {n : Int} {p : Nat} {m : Int} (hm : 0 ≤ m) (h : 0 ≤ (lf p).toInt ∧ (lf p).toInt ≤ m) : 0 ≤ (lov ha lf hs n p).toInt ∧ (lov ha lf hs n p).toInt ≤ m := by
  have z : (0 : Int32).toInt = 0 := by decide
  unfold lov
  split <;> omega
theorem lov_c {ha lf lf2 : Nat → Int32} {hs : Int32} {n : Int} {p : Nat} (e : lf2 p = lf p) : lov ha lf2 hs n p = lov ha lf hs n p := by
  unfold lov
  rw [e]
/-- sums over a set -/
def sg (f : Nat → Int) (S : Int32) : Nat → Int
  | 0 => 0
  | k + 1 => sg f S k + if lvb S k = true then f k else 0
theorem sg_y {f : Nat → Int} {S : Int32} {k : Nat} (h : lvb S k = true) : sg f S (k + 1) = sg f S k + f k := by
  show sg f S k + (if _ then _ else _) = _
  rw [if_pos h]
theorem sg_n {f : Nat → Int} {S : Int32} {k : Nat} (h : ¬ lvb S k = true) : sg f S (k + 1) = sg f S k := by
  show sg f S k + (if _ then _ else _) = _
  rw [if_neg h]; omega
theorem sg_rng {f : Nat → Int} {S : Int32} {m : Int} (hm : 0 ≤ m) : ∀ n : Nat, (∀ a : Nat, a < n → lvb S a = true → 0 ≤ f a ∧ f a ≤ m) → 0 ≤ sg f S n ∧ sg f S n ≤ m * (n : Int) := by
  intro n
  induction n with
  | zero => intro _; exact ⟨Int.le_refl _, by show (0 : Int) ≤ m * 0; omega⟩
  | succ n ih =>
    intro h
    have i := ih (fun a ha => h a (by omega))
    have e : m * ((n + 1 : Nat) : Int) = m * (n : Int) + m := by rw [show ((n + 1 : Nat) : Int) = (n : Int) + 1 from rfl, Int.mul_add]; omega
    rw [e]
    by_cases y : lvb S n = true
    · have q := h n (by omega) y
      rw [sg_y y]; omega
    · rw [sg_n y]; omega
theorem sg_ac {f : Nat → Int} {S : Int32} {n : Nat} (h : ∀ b : Nat, b < 6 → lvb S b = true → b < n) : ∀ k : Nat, n ≤ k → k ≤ 6 → sg f S k = sg f S n := by
  intro k
  induction k with
  | zero => intro h0 _; rw [show n = 0 from by omega]
  | succ k ih =>
    intro h0 h6
    by_cases e : n = k + 1
    · rw [e]
    · rw [sg_n (fun y => by have := h k (by omega) y; omega)]
      exact ih (by omega) (by omega)
theorem sg_pair {f : Nat → Int} {S : Int32} : ∀ n : Nat, sg f S n = 2 * sg (fun a => f a / 2) S n + sg (fun a => f a % 2) S n := by
  intro n
  induction n with
  | zero => rfl
  | succ n ih =>
    by_cases y : lvb S n = true
    · rw [sg_y y, sg_y y, sg_y y]; omega
    · rw [sg_n y, sg_n y, sg_n y]; exact ih
def onv (p o T O : Int) : Int := if T < p then 2 * (p - T) + o else min o O
def twv (p o T O : Int) : Int := if T < p then T else p + o - min o O
def FzO (p o T O : Int) : Prop := onv p o T O ≤ O ∧ twv p o T O ≤ T
def Bet (S w : Int32) (two one tw on : Int) : Prop := pc w 6 < pc S 6 ∨ (pc w 6 = pc S 6 ∧ (tw + on < two + one ∨ (tw + on = two + one ∧ tw < two)))
theorem better_sp {S w two one tw on u : Int32} (hS : 0 ≤ S.toInt ∧ S.toInt ≤ 63) (hw : 0 ≤ w.toInt ∧ w.toInt ≤ 63) (h1 : 0 ≤ two.toInt ∧ two.toInt ≤ 100000) (h2 : 0 ≤ one.toInt ∧ one.toInt ≤ 100000) (h3 : 0 ≤ tw.toInt ∧ tw.toInt ≤ 100000) (h4 : 0 ≤ on.toInt ∧ on.toInt ≤ 100000) (h : R_k_isBetter S w two one tw on u) : (u.toInt ≠ 0 ∧ Bet S w two.toInt one.toInt tw.toInt on.toInt) ∨ (u.toInt = 0 ∧ ¬ Bet S w two.toInt one.toInt tw.toInt on.toInt) := by
  obtain ⟨r1, hr1, r3, hr3, z5, e5, h⟩ := h
  have hr1 := bc_sp hS hr1
  have hr3 := bc_sp hw hr3
  have p1 := pc_rng S 6
  have p2 := pc_rng w 6
  have g5 : z5.toInt = pc S 6 - pc w 6 := by rw [e5, mi_sub (by clear h; omega) (by clear h; omega), hr1, hr3]
  have one1 : (1 : Int32).toInt ≠ 0 := by decide
  have zer0 : (0 : Int32).toInt = 0 := by decide
  unfold Bet
  rcases h with ⟨q, z7, e7, z8, e8, z9, e9, h⟩ | ⟨q, h⟩
  · have g7 : z7.toInt = two.toInt + one.toInt := by rw [e7]; exact mi_add (by clear h; omega) (by clear h; omega)
    have g8 : z8.toInt = two.toInt + one.toInt - tw.toInt := by rw [e8, mi_sub (by clear h; omega) (by clear h; omega), g7]
    have g9 : z9.toInt = two.toInt + one.toInt - tw.toInt - on.toInt := by rw [e9, mi_sub (by clear h; omega) (by clear h; omega), g8]
    rcases h with ⟨q2, ⟨q3, e⟩ | ⟨q3, e⟩⟩ | ⟨q2, ⟨q3, e⟩ | ⟨q3, e⟩⟩
    · exact Or.inr ⟨by rw [e, zer0], by omega⟩
    · exact Or.inl ⟨by rw [e]; exact one1, by omega⟩
    · exact Or.inr ⟨by rw [e, zer0], by omega⟩
    · exact Or.inl ⟨by rw [e]; exact one1, by omega⟩
  · rcases h with ⟨q3, e⟩ | ⟨q3, e⟩
    · exact Or.inr ⟨by rw [e, zer0], by omega⟩
    · exact Or.inl ⟨by rw [e]; exact one1, by omega⟩
theorem try_x {T O w two one S ac en u0 u1 u2 : Int32} {st hu sv : Nat → Int32} (hac : 0 ≤ ac.toInt ∧ ac.toInt ≤ 6) (hS : 0 ≤ S.toInt ∧ S.toInt ≤ 63) (hw : 0 ≤ w.toInt ∧ w.toInt ≤ 63) (hT0 : 0 ≤ T.toInt ∧ T.toInt ≤ 50000) (hO0 : 0 ≤ O.toInt ∧ O.toInt ≤ 50000) (h1 : 0 ≤ two.toInt ∧ two.toInt ≤ 50000) (h2 : 0 ≤ one.toInt ∧ one.toInt ≤ 50000) (hsub : ∀ b : Nat, b < 6 → lvb S b = true → (b : Int) < ac.toInt) (hn : ∀ b : Nat, (b : Int) < ac.toInt → 0 ≤ (ndv hu en sv st b).toInt ∧ (ndv hu en sv st b).toInt ≤ 160) (h : R_k_tryGuests T O w two one S ac st hu en sv u0 u1 u2) : (FzO (sg (fun a => (ndv hu en sv st a).toInt / 2) S 6) (sg (fun a => (ndv hu en sv st a).toInt % 2) S 6) T.toInt O.toInt ∧ Bet S w two.toInt one.toInt (twv (sg (fun a => (ndv hu en sv st a).toInt / 2) S 6) (sg (fun a => (ndv hu en sv st a).toInt % 2) S 6) T.toInt O.toInt) (onv (sg (fun a => (ndv hu en sv st a).toInt / 2) S 6) (sg (fun a => (ndv hu en sv st a).toInt % 2) S 6) T.toInt O.toInt) ∧ u0 = S ∧ u1.toInt = twv (sg (fun a => (ndv hu en sv st a).toInt / 2) S 6) (sg (fun a => (ndv hu en sv st a).toInt % 2) S 6) T.toInt O.toInt ∧ u2.toInt = onv (sg (fun a => (ndv hu en sv st a).toInt / 2) S 6) (sg (fun a => (ndv hu en sv st a).toInt % 2) S 6) T.toInt O.toInt) ∨ (¬ (FzO (sg (fun a => (ndv hu en sv st a).toInt / 2) S 6) (sg (fun a => (ndv hu en sv st a).toInt % 2) S 6) T.toInt O.toInt ∧ Bet S w two.toInt one.toInt (twv (sg (fun a => (ndv hu en sv st a).toInt / 2) S 6) (sg (fun a => (ndv hu en sv st a).toInt % 2) S 6) T.toInt O.toInt) (onv (sg (fun a => (ndv hu en sv st a).toInt / 2) S 6) (sg (fun a => (ndv hu en sv st a).toInt % 2) S 6) T.toInt O.toInt)) ∧ u0 = w ∧ u1 = two ∧ u2 = one) := by
  have six : (6 : Int32).toInt = 6 := by decide
  have two2 : (2 : Int32).toInt = 2 := by decide
  have rp := fun k (hk : k ≤ 6) => sg_rng (f := fun a => (ndv hu en sv st a).toInt / 2) (S := S) (m := 80) (by decide) k (fun a ha y => by have := hn a (hsub a (by omega) y); exact ⟨by omega, by omega⟩)
  have ro := fun k (hk : k ≤ 6) => sg_rng (f := fun a => (ndv hu en sv st a).toInt % 2) (S := S) (m := 1) (by decide) k (fun a ha y => by have := hn a (hsub a (by omega) y); exact ⟨by omega, by omega⟩)
  obtain ⟨⟨od, pr⟩, hs, hq⟩ := loopP (α := Int32 × Int32) (n := (6 : Int32)) (P := fun k s => s.1.toInt = sg (fun a => (ndv hu en sv st a).toInt % 2) S k ∧ s.2.toInt = sg (fun a => (ndv hu en sv st a).toInt / 2) S k) (Q := fun s => (R_k_tryGuests_s0 s.2 T O s.1 w two one S u0 u1 u2) ∨ (R_k_tryGuests_s1 T s.2 s.1 O w two one S u0 u1 u2)) (by decide) (fun K i s hi hP hT => by
    obtain ⟨od, pr⟩ := s
    rw [six] at hi ⊢
    have hP1 : od.toInt = sg (fun a => (ndv hu en sv st a).toInt % 2) S i.toInt.toNat := hP.1
    have hP2 : pr.toInt = sg (fun a => (ndv hu en sv st a).toInt / 2) S i.toInt.toNat := hP.2
    have hb : ∀ {b0 b1 : Int32}, i.toInt < 6 → b0 = S >>> (i &&& (31 : Int32)) → b1 = b0 &&& 1 → b1.toInt = if lvb S i.toInt.toNat = true then 1 else 0 := fun {b0 b1} c e0 e1 => by
      rw [e1, e0]; exact bt_has hS (by clear hT; omega)
    have r1 := rp i.toInt.toNat (by clear hT; omega)
    have r2 := ro i.toInt.toNat (by clear hT; omega)
    dsimp only [T_k_tryGuests_9] at hT
    rcases hT with ⟨c, h⟩ | ⟨c, b0, e0, b1, e1, hT⟩
    · exact Or.inl ⟨c, h⟩
    · have hb := hb c e0 e1
      refine Or.inr ⟨c, ?_⟩
      rcases hT with ⟨q, z, ez, hk⟩ | ⟨q, b3, hb3, b4, e4, b5, e5, b6, hb6, b7, e7, b8, e8, z, ez, hk⟩
      · have ny : ¬ lvb S i.toInt.toNat = true := fun y => by rw [if_pos y] at hb; rw [hb] at q; exact absurd q (by decide)
        refine ⟨z, (od, pr), ez, ⟨?_, ?_⟩, hk⟩
        · show od.toInt = _
          rw [sg_n ny]; exact hP1
        · show pr.toInt = _
          rw [sg_n ny]; exact hP2
      · have y : lvb S i.toInt.toNat = true := by
          by_cases y : lvb S i.toInt.toNat = true
          · exact y
          · rw [if_neg y] at hb; exact absurd hb q
        have ia : (i.toInt.toNat : Int) < ac.toInt := hsub _ (by clear hk hb3 hb6; omega) y
        have ib : i.toInt < ac.toInt := by clear hk hb3 hb6; omega
        replace hb3 := need_x ⟨hi.1, ib⟩ hb3
        replace hb6 := need_x ⟨hi.1, ib⟩ hb6
        have nn := hn _ ia
        have g4 : b4.toInt = (ndv hu en sv st i.toInt.toNat).toInt / 2 := by
          rw [e4, hb3, Int32.toInt_div_of_ne_right _ _ (by decide), two2, Int.tdiv_eq_ediv_of_nonneg nn.1]
        have g7 : b7.toInt = (ndv hu en sv st i.toInt.toNat).toInt % 2 := by
          rw [hb6] at e7
          rw [rem_sp nn.1 (by rw [two2]; decide) e7, two2]
        have g5 : b5.toInt = pr.toInt + (ndv hu en sv st i.toInt.toNat).toInt / 2 := by rw [e5, mi_add (by clear hk; omega) (by clear hk; omega), g4]
        have g8 : b8.toInt = od.toInt + (ndv hu en sv st i.toInt.toNat).toInt % 2 := by rw [e8, mi_add (by clear hk; omega) (by clear hk; omega), g7]
        refine ⟨z, (b8, b5), ez, ⟨?_, ?_⟩, hk⟩
        · show b8.toInt = _
          rw [sg_y y, g8, hP1]
        · show b5.toInt = _
          rw [sg_y y, g5, hP2]) ⟨by show (0 : Int32).toInt = 0; decide, by show (0 : Int32).toInt = 0; decide⟩ h
  have ho : od.toInt = sg (fun a => (ndv hu en sv st a).toInt % 2) S 6 := hs.1
  have hp : pr.toInt = sg (fun a => (ndv hu en sv st a).toInt / 2) S 6 := hs.2
  have hq : (R_k_tryGuests_s0 pr T O od w two one S u0 u1 u2) ∨ (R_k_tryGuests_s1 T pr od O w two one S u0 u1 u2) := hq
  have r1 := rp 6 (by omega)
  have r2 := ro 6 (by omega)
  clear rp ro hs
  generalize sg (fun a => (ndv hu en sv st a).toInt % 2) S 6 = o at ho r2 ⊢
  generalize sg (fun a => (ndv hu en sv st a).toInt / 2) S 6 = p at hp r1 ⊢
  have fin : ∀ {tw on b : Int32}, tw.toInt = twv p o T.toInt O.toInt → on.toInt = onv p o T.toInt O.toInt → FzO p o T.toInt O.toInt → (0 ≤ tw.toInt ∧ tw.toInt ≤ 100000) → (0 ≤ on.toInt ∧ on.toInt ≤ 100000) → R_k_isBetter S w two one tw on b → (((b.toInt = 0) ∧ (u0 = w ∧ u1 = two ∧ u2 = one)) ∨ ((b.toInt ≠ 0) ∧ (u0 = S ∧ u1 = tw ∧ u2 = on))) → (FzO p o T.toInt O.toInt ∧ Bet S w two.toInt one.toInt (twv p o T.toInt O.toInt) (onv p o T.toInt O.toInt) ∧ u0 = S ∧ u1.toInt = twv p o T.toInt O.toInt ∧ u2.toInt = onv p o T.toInt O.toInt) ∨ (¬ (FzO p o T.toInt O.toInt ∧ Bet S w two.toInt one.toInt (twv p o T.toInt O.toInt) (onv p o T.toInt O.toInt)) ∧ u0 = w ∧ u1 = two ∧ u2 = one) := fun {tw on b} e1 e2 hF ht ho hbt hc => by
    clear hq
    have hbt := better_sp hS hw (by omega) (by omega) ht ho hbt
    rw [e1, e2] at hbt
    rcases hc with ⟨q, c⟩ | ⟨q, c0, c1, c2⟩
    · rcases hbt with ⟨y, -⟩ | ⟨-, y⟩
      · exact absurd q y
      · exact Or.inr ⟨fun k => y k.2, c⟩
    · rcases hbt with ⟨-, y⟩ | ⟨y, -⟩
      · exact Or.inl ⟨hF, y, c0, by rw [c1, e1], by rw [c2, e2]⟩
      · exact absurd y q
  have nof : ¬ FzO p o T.toInt O.toInt → (u0 = w ∧ u1 = two ∧ u2 = one) → (FzO p o T.toInt O.toInt ∧ Bet S w two.toInt one.toInt (twv p o T.toInt O.toInt) (onv p o T.toInt O.toInt) ∧ u0 = S ∧ u1.toInt = twv p o T.toInt O.toInt ∧ u2.toInt = onv p o T.toInt O.toInt) ∨ (¬ (FzO p o T.toInt O.toInt ∧ Bet S w two.toInt one.toInt (twv p o T.toInt O.toInt) (onv p o T.toInt O.toInt)) ∧ u0 = w ∧ u1 = two ∧ u2 = one) := fun y c => Or.inr ⟨fun k => y k.1, c⟩
  rcases hq with ⟨c, b0, e0, hq⟩ | ⟨c, b0, e0, b1, e1, b2, e2, hq⟩
  · have v1 : onv p o T.toInt O.toInt = min o O.toInt := if_neg (by clear hq; omega)
    have v2 : twv p o T.toInt O.toInt = p + o - min o O.toInt := if_neg (by clear hq; omega)
    have g0 : b0.toInt = min o O.toInt := by
      clear hq
      rw [e0]
      by_cases k : O < od
      · rw [if_pos k]; rw [mi_lt] at k; omega
      · rw [if_neg k]; rw [mi_lt] at k; omega
    rcases hq with ⟨-, b1, e1, b2, e2, hq⟩ | ⟨c2, -⟩
    · have g1 : b1.toInt = p + o := by rw [e1, mi_add (by clear hq; omega) (by clear hq; omega), hp, ho]
      have g2 : b2.toInt = p + o - min o O.toInt := by rw [e2, mi_sub (by clear hq; omega) (by clear hq; omega), g1, g0]
      rcases hq with ⟨q, -⟩ | ⟨-, ⟨q, c3⟩ | ⟨q, b3, hb3, hc⟩⟩
      · exact absurd q (by omega)
      · exact nof (fun k => by have := k.2; rw [v2] at this; omega) c3
      · exact fin (by rw [g2, v2]) (by rw [g0, v1]) ⟨by rw [v1]; clear hc hb3; omega, by rw [v2]; clear hc hb3; omega⟩ (by clear hc hb3; omega) (by clear hc hb3; omega) hb3 hc
    · exact absurd c2 (by clear fin nof; omega)
  · have v1 : onv p o T.toInt O.toInt = 2 * (p - T.toInt) + o := if_pos (by clear hq; omega)
    have v2 : twv p o T.toInt O.toInt = T.toInt := if_pos (by clear hq; omega)
    have g0 : b0.toInt = p - T.toInt := by rw [e0, mi_sub (by clear hq; omega) (by clear hq; omega), hp]
    have g1 : b1.toInt = 2 * (p - T.toInt) := by rw [e1, mi_cmul (C := 2) (by decide) (by clear hq; omega) (by clear hq; omega), g0]
    have g2 : b2.toInt = 2 * (p - T.toInt) + o := by rw [e2, mi_add (by clear hq; omega) (by clear hq; omega), g1, ho]
    rcases hq with ⟨c2, -⟩ | ⟨-, ⟨q, c3⟩ | ⟨q, ⟨q2, -⟩ | ⟨-, b6, hb6, hc⟩⟩⟩
    · exact absurd c2 (by clear fin nof; omega)
    · exact nof (fun k => by have := k.1; rw [v1] at this; omega) c3
    · exact absurd q2 (Int.lt_irrefl _)
    · exact fin (by rw [v2]) (by rw [g2, v1]) ⟨by rw [v1]; clear hc hb6; omega, by rw [v2]; exact Int.le_refl _⟩ (by clear hc hb6; omega) (by clear hc hb6; omega) hb6 hc
/-- feast -/
theorem feed_y {ac pa X hs S L en u0 u1 u2 : Int32} {D ha lf st hu sv : Nat → Int32} {T O : Int32} (hX : 0 ≤ X.toInt ∧ X.toInt ≤ 1) (hac : 0 ≤ ac.toInt ∧ ac.toInt ≤ 6) (hpa : 0 ≤ pa.toInt ∧ pa.toInt ≤ 5) (hHa : ∀ i : Nat, (i : Int) < pa.toInt → D (36 * X.toInt.toNat + (7 + 2 * i)) = ha i) (hH : ∀ i : Nat, (i : Int) < ac.toInt → D (36 * X.toInt.toNat + (16 + 2 * i)) = hu i) (hL : Lvs ac L st) (hS : 0 ≤ S.toInt ∧ S.toInt ≤ 63) (eT : T = rs (lov ha lf hs 2) pa.toInt.toNat) (eO : O = rs (lov ha lf hs 1) pa.toInt.toNat) (hT0 : 0 ≤ T.toInt ∧ T.toInt ≤ 50000) (hO0 : 0 ≤ O.toInt ∧ O.toInt ≤ 50000) (hsub : ∀ b : Nat, b < 6 → lvb S b = true → (b : Int) < ac.toInt) (hn : ∀ b : Nat, (b : Int) < ac.toInt → 0 ≤ (ndv hu en sv st b).toInt ∧ (ndv hu en sv st b).toInt ≤ 160) (h : R_j_canFeed ac pa X D hs lf S L en sv u0 u1 u2) : (u0.toInt ≠ 0 ∧ FzO (sg (fun a => (ndv hu en sv st a).toInt / 2) S 6) (sg (fun a => (ndv hu en sv st a).toInt % 2) S 6) T.toInt O.toInt ∧ u1.toInt = twv (sg (fun a => (ndv hu en sv st a).toInt / 2) S 6) (sg (fun a => (ndv hu en sv st a).toInt % 2) S 6) T.toInt O.toInt ∧ u2.toInt = onv (sg (fun a => (ndv hu en sv st a).toInt / 2) S 6) (sg (fun a => (ndv hu en sv st a).toInt % 2) S 6) T.toInt O.toInt) ∨ (u0.toInt = 0 ∧ ¬ FzO (sg (fun a => (ndv hu en sv st a).toInt / 2) S 6) (sg (fun a => (ndv hu en sv st a).toInt % 2) S 6) T.toInt O.toInt) := by
  have z0 : (0 : Int32).toInt = 0 := by decide
  have two2 : (2 : Int32).toInt = 2 := by decide
  have one1 : (1 : Int32).toInt = 1 := by decide
  have d0 : (0 : Int32) / 2 = 0 := by decide
  have r0 : (0 : Int32) - 0 / 2 * 2 = 0 := by decide
  have a0 : ∀ x : Int32, x + 0 = x := fun x => Int32.add_zero x
  have rp := fun k (hk : k ≤ 6) => sg_rng (f := fun a => (ndv hu en sv st a).toInt / 2) (S := S) (m := 80) (by decide) k (fun a ha y => by have := hn a (hsub a (by omega) y); exact ⟨by omega, by omega⟩)
  have ro := fun k (hk : k ≤ 6) => sg_rng (f := fun a => (ndv hu en sv st a).toInt % 2) (S := S) (m := 1) (by decide) k (fun a ha y => by have := hn a (hsub a (by omega) y); exact ⟨by omega, by omega⟩)
  have rn := fun k (hk : k ≤ 6) => sg_rng (f := fun a => (ndv hu en sv st a).toInt) (S := S) (m := 160) (by decide) k (fun a ha y => by have := hn a (hsub a (by omega) y); exact ⟨by omega, by omega⟩)
  obtain ⟨⟨od, pr, nd⟩, hs2, hq⟩ := loopP (α := Int32 × Int32 × Int32) (n := ac) (P := fun k s => s.1.toInt = sg (fun a => (ndv hu en sv st a).toInt % 2) S k ∧ s.2.1.toInt = sg (fun a => (ndv hu en sv st a).toInt / 2) S k ∧ s.2.2.toInt = sg (fun a => (ndv hu en sv st a).toInt) S k) (Q := fun s => ∃ (b0 : Int32), (R_j_leftOf pa X D 2 hs lf b0) ∧ ∃ (b1 : Int32), (R_j_leftOf pa X D 1 hs lf b1) ∧ ∃ (b2 : Int32), (R_j_lesser s.2.1 b0 b2) ∧ ∃ (b3 : Int32), (b3 = (2 : Int32) * b2) ∧ ∃ (b4 : Int32), (b4 = s.2.2 - b3) ∧ ∃ (b5 : Int32), (b5 = b4 - b1) ∧ ∃ (b6 : Int32), (R_j_greater 0 b5 b6) ∧ ∃ (b7 : Int32), (b7 = b2 + b6) ∧ ∃ (b8 : Int32), (b8 = (2 : Int32) * b2) ∧ ∃ (b9 : Int32), (b9 = s.2.2 - b8) ∧ ∃ (b10 : Int32), (b10 = b9 - b6) ∧ ∃ (b11 : Int32), (b11 = b0 - b2) ∧ ∃ (b12 : Int32), (R_j_lesser b11 s.1 b12) ∧ (((b12.toInt < b6.toInt) ∧ u0 = 0) ∨ ((b6.toInt ≤ b12.toInt) ∧ u0 = 1 ∧ u1 = b7 ∧ u2 = b10))) (by omega) (fun K i s hi hP hT => by
    obtain ⟨od, pr, nd⟩ := s
    have hP1 : od.toInt = sg (fun a => (ndv hu en sv st a).toInt % 2) S i.toInt.toNat := hP.1
    have hP2 : pr.toInt = sg (fun a => (ndv hu en sv st a).toInt / 2) S i.toInt.toNat := hP.2.1
    have hP3 : nd.toInt = sg (fun a => (ndv hu en sv st a).toInt) S i.toInt.toNat := hP.2.2
    have q1 := rp i.toInt.toNat (by clear hT; omega)
    have q2 := ro i.toInt.toNat (by clear hT; omega)
    have q3 := rn i.toInt.toNat (by clear hT; omega)
    dsimp only [T_j_canFeed_10] at hT
    rcases hT with ⟨c, b0, hb0, b1, hb1, b2, hb2, b3, e3, b4, e4, b5, e5, b6, hb6, b7, e7, b8, e8, b9, e9, b10, e10, b11, e11, b12, hb12, ⟨k, e, -⟩ | ⟨k, e, ea, eb⟩⟩ | ⟨c, b13, hb13, hT⟩
    · exact Or.inl ⟨c, b0, hb0, b1, hb1, b2, hb2, b3, e3, b4, e4, b5, e5, b6, hb6, b7, e7, b8, e8, b9, e9, b10, e10, b11, e11, b12, hb12, Or.inl ⟨k, e⟩⟩
    · exact Or.inl ⟨c, b0, hb0, b1, hb1, b2, hb2, b3, e3, b4, e4, b5, e5, b6, hb6, b7, e7, b8, e8, b9, e9, b10, e10, b11, e11, b12, hb12, Or.inr ⟨k, e, ea, eb⟩⟩
    · have hb13 := has_sp hS (by clear hT; omega) hb13
      refine Or.inr ⟨c, ?_⟩
      rcases hT with ⟨q, b14, e14, b15, e15, b16, e16, b17, e17, b18, e18, z, ez, hk⟩ | ⟨q, b20, hb20, b21, e21, b22, e22, b23, e23, b24, e24, b25, e25, z, ez, hk⟩
      · have ny : ¬ lvb S i.toInt.toNat = true := by
          rcases hb13 with ⟨-, y⟩ | ⟨y, -⟩
          · rw [y] at q; exact absurd q (by decide)
          · rw [y]; decide
        rw [a0] at e14
        rw [e15, d0, a0] at e16
        rw [e17, r0, a0] at e18
        refine ⟨z, (b18, b16, b14), ez, ⟨?_, ?_, ?_⟩, hk⟩
        · show b18.toInt = _
          rw [sg_n ny, e18]; exact hP1
        · show b16.toInt = _
          rw [sg_n ny, e16]; exact hP2
        · show b14.toInt = _
          rw [sg_n ny, e14]; exact hP3
      · have y : lvb S i.toInt.toNat = true := by
          rcases hb13 with ⟨y, -⟩ | ⟨-, y⟩
          · exact y
          · rw [y] at q; exact absurd (by decide) q
        have hb20 := need_y hX hac hH hL ⟨hi.1, c⟩ hb20
        have nn := hn i.toInt.toNat (by clear hk; omega)
        have g22 : b22.toInt = (ndv hu en sv st i.toInt.toNat).toInt / 2 := by
          rw [e22, hb20, Int32.toInt_div_of_ne_right _ _ (by decide), two2, Int.tdiv_eq_ediv_of_nonneg nn.1]
        have g24 : b24.toInt = (ndv hu en sv st i.toInt.toNat).toInt % 2 := by
          rw [hb20] at e24
          rw [rem_sp nn.1 (by rw [two2]; decide) e24, two2]
        have g21 : b21.toInt = nd.toInt + (ndv hu en sv st i.toInt.toNat).toInt := by rw [e21, hb20, mi_add (by clear hk; omega) (by clear hk; omega)]
        have g23 : b23.toInt = pr.toInt + (ndv hu en sv st i.toInt.toNat).toInt / 2 := by rw [e23, mi_add (by clear hk; omega) (by clear hk; omega), g22]
        have g25 : b25.toInt = od.toInt + (ndv hu en sv st i.toInt.toNat).toInt % 2 := by rw [e25, mi_add (by clear hk; omega) (by clear hk; omega), g24]
        refine ⟨z, (b25, b23, b21), ez, ⟨?_, ?_, ?_⟩, hk⟩
        · show b25.toInt = _
          rw [sg_y y, g25, hP1]
        · show b23.toInt = _
          rw [sg_y y, g23, hP2]
        · show b21.toInt = _
          rw [sg_y y, g21, hP3]) ⟨by show (0 : Int32).toInt = 0; decide, by show (0 : Int32).toInt = 0; decide, by show (0 : Int32).toInt = 0; decide⟩ h
  have nac : ∀ b : Nat, b < 6 → lvb S b = true → b < ac.toInt.toNat := fun b hb y => by have := hsub b hb y; omega
  have s6 := fun f => sg_ac (f := f) nac 6 (by omega) (by omega)
  have ho : od.toInt = sg (fun a => (ndv hu en sv st a).toInt % 2) S 6 := by rw [s6]; exact hs2.1
  have hp : pr.toInt = sg (fun a => (ndv hu en sv st a).toInt / 2) S 6 := by rw [s6]; exact hs2.2.1
  have hd : nd.toInt = sg (fun a => (ndv hu en sv st a).toInt) S 6 := by rw [s6]; exact hs2.2.2
  have r1 := rp 6 (by omega)
  have r2 := ro 6 (by omega)
  rw [sg_pair 6] at hd
  clear rp ro rn hs2 s6 nac
  generalize sg (fun a => (ndv hu en sv st a).toInt % 2) S 6 = o at ho hd r2 ⊢
  generalize sg (fun a => (ndv hu en sv st a).toInt / 2) S 6 = p at hp hd r1 ⊢
  obtain ⟨b0, hb0, b1, hb1, b2, hb2, b3, e3, b4, e4, b5, e5, b6, hb6, b7, e7, b8, e8, b9, e9, b10, e10, b11, e11, b12, hb12, hq⟩ := hq
  have e4 : b4 = nd - b3 := e4
  have e9 : b9 = nd - b8 := e9
  have hb0 := left_y hX hpa hHa hb0
  have hb1 := left_y hX hpa hHa hb1
  rw [two2, ← eT] at hb0
  rw [one1, ← eO] at hb1
  have hb2 : b2.toInt = min pr.toInt b0.toInt := ls2_sp hb2
  have hb12 : b12.toInt = min b11.toInt od.toInt := ls2_sp hb12
  have hb6 := gr2_sp hb6
  rw [z0] at hb6
  rw [hb0, hp] at hb2
  have g3 : b3.toInt = 2 * b2.toInt := by rw [e3]; exact mi_cmul (by decide) (by clear hq hb6; omega) (by clear hq hb6; omega)
  have g4 : b4.toInt = 2 * p + o - 2 * b2.toInt := by
    have q : nd.toInt = 2 * p + o := hd
    rw [e4, mi_sub (by clear hq hb6; omega) (by clear hq hb6; omega), g3, q]
  have g5 : b5.toInt = 2 * p + o - 2 * b2.toInt - O.toInt := by rw [e5, hb1, mi_sub (by clear hq hb6; omega) (by clear hq hb6; omega), g4]
  have g6 : b6.toInt = max 0 (2 * p + o - 2 * b2.toInt - O.toInt) := by
    by_cases k : 0 < b5.toInt
    · rw [hb6.2 k, g5]; clear hq hb6; omega
    · rw [hb6.1 (Int.not_lt.mp k), z0]; clear hq hb6; omega
  have g7 : b7.toInt = b2.toInt + b6.toInt := by rw [e7]; exact mi_add (by clear hq hb6; omega) (by clear hq hb6; omega)
  have g8 : b8.toInt = 2 * b2.toInt := by rw [e8]; exact mi_cmul (by decide) (by clear hq hb6; omega) (by clear hq hb6; omega)
  have g9 : b9.toInt = 2 * p + o - 2 * b2.toInt := by
    have q : nd.toInt = 2 * p + o := hd
    rw [e9, mi_sub (by clear hq hb6; omega) (by clear hq hb6; omega), g8, q]
  have g10 : b10.toInt = 2 * p + o - 2 * b2.toInt - b6.toInt := by rw [e10, mi_sub (by clear hq hb6; omega) (by clear hq hb6; omega), g9]
  have g11 : b11.toInt = T.toInt - b2.toInt := by rw [e11, hb0]; exact mi_sub (by clear hq hb6; omega) (by clear hq hb6; omega)
  rw [g11, ho] at hb12
  have ev : (onv p o T.toInt O.toInt = if T.toInt < p then 2 * (p - T.toInt) + o else min o O.toInt) ∧ (twv p o T.toInt O.toInt = if T.toInt < p then T.toInt else p + o - min o O.toInt) := ⟨rfl, rfl⟩
  unfold FzO
  rcases hq with ⟨k, e⟩ | ⟨k, e, ea, eb⟩
  · refine Or.inr ⟨by rw [e, z0], ?_⟩
    rw [ev.1, ev.2]
    split <;> (clear hb6; omega)
  · refine Or.inl ⟨by rw [e]; decide, ?_, ?_, ?_⟩
    · rw [ev.1, ev.2]
      split <;> (clear hb6; omega)
    · rw [ea, g7, ev.2]
      split <;> (clear hb6; omega)
    · rw [eb, g10, ev.1]
      split <;> (clear hb6; omega)
theorem sg_cong {f f2 : Nat → Int} {S : Int32} : ∀ n : Nat, (∀ a : Nat, a < n → lvb S a = true → f a = f2 a) → sg f S n = sg f2 S n := by
  intro n
  induction n with
  | zero => intro _; rfl
  | succ n ih =>
    intro h
    by_cases y : lvb S n = true
    · rw [sg_y y, sg_y y, ih (fun a ha ya => h a (by omega) ya), h n (by omega) y]
    · rw [sg_n y, sg_n y, ih (fun a ha ya => h a (by omega) ya)]
theorem dv_rng {x : Int} (h : 0 ≤ x ∧ x ≤ 160) : 0 ≤ x / 2 ∧ x / 2 ≤ 80 := ⟨by omega, by omega⟩
theorem md_rng {x : Int} (h : 0 ≤ x ∧ x ≤ 160) : 0 ≤ x % 2 ∧ x % 2 ≤ 1 := ⟨by omega, by omega⟩
theorem sub_y {ac L : Int32} {st : Nat → Int32} (hL : Lvs ac L st) : ∀ S b0 b1 : Int32, (0 ≤ S.toInt ∧ S.toInt ≤ 63) → b0 = L ^^^ (-1) → b1 = S &&& b0 → b1.toInt = 0 → ∀ b : Nat, b < 6 → lvb S b = true → (b : Int) < ac.toInt := by
  intro S b0 b1 h e0 e1 e b hb y
  have hA : Bts L (fun j => (j : Int) < ac.toInt ∧ (st j).toInt = -1) := ⟨hL.1, hL.2⟩
  have sub : b1.toInt = 0 ↔ ∀ j : Nat, j < 6 → ¬ (lvb S j = true ∧ ¬ ((j : Int) < ac.toInt ∧ (st j).toInt = -1)) := by
    rw [e1, e0]; exact Bts_z (Bts_andn (Bts_self h) hA)
  exact Classical.byContradiction (fun k => sub.mp e b hb ⟨y, fun q => k q.1⟩)
theorem feast_rest {ac L en v0 v1 v2 T O : Int32} {st hu sv : Nat → Int32} {hs : Int32} (hac : 0 ≤ ac.toInt ∧ ac.toInt ≤ 6) (hL : Lvs ac L st) : ∀ (N : Nat) (S who two one : Int32), fx (T_k_lay_95 L T O ac st hu en sv v0 v1 v2) N (S, who, two, one) → (((1 : Int32) <<< (ac &&& 31)).toInt ≤ S.toInt ∧ S.toInt ≤ 64) → v0 = who ∧ v1 = two ∧ v2 = one := by
  have pr := p2_rng hac
  intro N
  induction N with
  | zero => intro S who two one h; exact h.elim
  | succ N ih =>
    intro S who two one h hS
    have f3 : S.toInt < 64 → ∀ z : Int32, z = S + 1 → ((1 : Int32) <<< (ac &&& 31)).toInt ≤ z.toInt ∧ z.toInt ≤ 64 := fun _ z ez => by
      have g : z.toInt = S.toInt + 1 := by rw [ez]; exact mi_addc (by decide) (by clear h; omega) (by clear h; omega)
      clear h
      omega
    have f4 : S.toInt < 64 → 0 ≤ S.toInt ∧ S.toInt ≤ 63 := fun _ => by clear h; omega
    replace h := fx_o h
    dsimp only [T_k_lay_95] at h
    rcases h with ⟨c, e0, e1, e2⟩ | ⟨c, b0, e0, b1, e1, ⟨q, z, ez, hk⟩ | ⟨q, -⟩⟩
    · exact ⟨e0, e1, e2⟩
    · exact ih z who two one hk (f3 c z ez)
    · have y := sub_y hL S b0 b1 (f4 c) e0 e1 q
      have := (p2_lt hac (f4 c)).mpr y
      exact absurd hS.1 (Int.not_le.mpr this)
theorem bet_iff {S w two one tw on x2 x5 : Int32} (g2 : x2.toInt = pc S 6 - pc w 6) (g5 : x5.toInt = two.toInt + one.toInt - tw.toInt - on.toInt) : Bet S w two.toInt one.toInt tw.toInt on.toInt ↔ (0 < x2.toInt ∨ (x2.toInt = 0 ∧ (0 < x5.toInt ∨ (x5.toInt = 0 ∧ tw.toInt < two.toInt)))) := by
  unfold Bet
  omega
theorem pos_tw {p o T O : Int} (hp : 0 ≤ p) (ho : 0 ≤ o) (hT : 0 ≤ T) : 0 ≤ twv p o T O ∧ (0 ≤ O → 0 ≤ onv p o T O) := by
  unfold twv onv
  refine ⟨?_, fun hO => ?_⟩
  · split <;> omega
  · split <;> omega
