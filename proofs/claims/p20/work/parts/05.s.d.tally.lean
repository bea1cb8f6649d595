/-! the dark: halves of the minutes, sums below, room, the tally -/
def p32 : Nat → Int
  | 0 => 1
  | n + 1 => 32 * p32 n
theorem p32_3 {r : Nat} (h : r ≤ 3) : 1 ≤ p32 r ∧ p32 r ≤ 32768 := by
  rcases (by omega : r = 0 ∨ r = 1 ∨ r = 2 ∨ r = 3) with rfl | rfl | rfl | rfl <;> decide
theorem Vy_bd {N : Nat} {ok : Nat → Nat → Bool} {c : Nat → Nat} {G : Nat → Int} (hN : N ≤ 32) (hG : ∀ n : Nat, 0 ≤ G n ∧ G n ≤ 1) : ∀ (r k n : Nat), 0 ≤ Vy N ok c G r k n ∧ Vy N ok c G r k n ≤ p32 r := by
  intro r
  induction r with
  | zero => intro k n; exact hG n
  | succ r ih =>
    intro k n
    have p0 : 0 ≤ p32 r := Int.le_trans (ih 0 0).1 (ih 0 0).2
    rw [Vy_s]
    have a := sm_nn (f := fun S => if ok k S = true ∧ n + c S < 1024 then Vy N ok c G r (k + 1) (n + c S) else 0) N (fun S _ => by
      by_cases y : ok k S = true ∧ n + c S < 1024
      · rw [if_pos y]; exact (ih _ _).1
      · rw [if_neg y]; exact Int.le_refl _)
    have b := sm_bd (f := fun S => if ok k S = true ∧ n + c S < 1024 then Vy N ok c G r (k + 1) (n + c S) else 0) (c := p32 r) N (fun S _ => by
      by_cases y : ok k S = true ∧ n + c S < 1024
      · rw [if_pos y]; exact (ih _ _).2
      · rw [if_neg y]; exact p0)
    have d : (N : Int) * p32 r ≤ 32 * p32 r := Int.mul_le_mul_of_nonneg_right (by omega) p0
    show 0 ≤ _ ∧ _ ≤ 32 * p32 r
    omega
theorem fillr_sp {mf hl on hv u : Nat → Int32} {b d k gs j : Int32} {ok : Nat → Nat → Bool} {c : Nat → Nat} {N : Nat} (hb : 0 ≤ b.toInt ∧ b.toInt ≤ 3) (hd : d.toInt ≤ 6) (hbd : d.toInt - b.toInt ≤ 3) (hN : gs.toInt = (N : Int)) (hN2 : N ≤ 32) (hc : ∀ S : Nat, S < N → (on S).toInt = (c S : Int) ∧ c S < 1024) (hj : 0 ≤ j.toInt) (hok : ∀ m S : Nat, (m : Int) < d.toInt → S < N → (ok m S = true ↔ (hv S).toInt = (hl m).toInt ∧ ((m : Int) = k.toInt → j.toInt = (S : Int)))) (h : R_k_fill mf d hl k gs on hv j b u) : (∀ n : Nat, n < 1024 → 0 ≤ (u n).toInt) ∧ ∀ G : Nat → Int, pr u G = Vy N ok c G (d.toInt - b.toInt).toNat b.toInt.toNat 0 := by
  obtain ⟨f0, hf, g, eg, h⟩ := h
  have z0 := fill1k_sp hf
  have k0 : Int32.toNatClampNeg (0 : Int32) = 0 := by decide
  have c0 : (0 : Int32).toInt = 0 := by decide
  have c1 : (1 : Int32).toInt = 1 := by decide
  rw [k0] at eg
  clear hf
  have pz : ∀ G : Nat → Int, pr f0 G = 0 := fun G => sm_0 1024 (fun n hn => by rw [z0 n hn, c0, Int.zero_mul])
  refine fx_inv (P := fun s => (b.toInt ≤ s.1.toInt ∧ (s.1.toInt ≤ d.toInt ∨ s.1.toInt = b.toInt)) ∧ (∀ n : Nat, n < 1024 → 0 ≤ (s.2 n).toInt) ∧ ∀ G : Nat → Int, pr s.2 G = Vy N ok c G (s.1.toInt - b.toInt).toNat b.toInt.toNat 0) (fun K s hP hT => ?_) 8 _ h ⟨⟨Int.le_refl _, Or.inr rfl⟩, fun n hn => ?_, fun G => ?_⟩
  · obtain ⟨l, row⟩ := s
    obtain ⟨h1, h2, h3⟩ := hP
    have h1 : b.toInt ≤ l.toInt ∧ (l.toInt ≤ d.toInt ∨ l.toInt = b.toInt) := h1
    have h3 : ∀ G : Nat → Int, pr row G = Vy N ok c G (l.toInt - b.toInt).toNat b.toInt.toNat 0 := h3
    dsimp only [T_k_fill_12] at hT
    rcases hT with ⟨q, e⟩ | ⟨q, hT⟩
    · refine Or.inl ⟨by rw [e]; exact h2, fun G => ?_⟩
      rw [e, h3 G]
      rw [show (d.toInt - b.toInt).toNat = (l.toInt - b.toInt).toNat from by omega]
    · refine Or.inr ?_
      have li : ((l.toInt.toNat : Nat) : Int) = l.toInt := by clear hT; omega
      have bd : pr row (fun _ => 1) ≤ 1024 := by
        rw [h3]
        have r2 : (l.toInt - b.toInt).toNat ≤ 2 := by clear hT; omega
        have a := (Vy_bd (N := N) (ok := ok) (c := c) (G := fun _ => 1) hN2 (fun _ => ⟨by decide, by decide⟩) (l.toInt - b.toInt).toNat b.toInt.toNat 0).2
        have a2 : p32 (l.toInt - b.toInt).toNat ≤ 1024 := by
          clear hT a
          rcases (by omega : (l.toInt - b.toInt).toNat = 0 ∨ (l.toInt - b.toInt).toNat = 1 ∨ (l.toInt - b.toInt).toNat = 2) with e | e | e <;> rw [e] <;> decide
        exact Int.le_trans a a2
      obtain ⟨z, r1, ez, hk, n1, g1⟩ := fillm_sp (ok := ok) (c := c) (N := N) (kk := l) (r0 := row) ⟨by clear hT; omega, by clear hT; omega⟩ hN hN2 hc (fun _ => hj) (fun S hS => by
        have := hok l.toInt.toNat S (by clear hT; omega) hS
        rw [li] at this
        exact this) h2 bd hT
      clear hT
      have gz : z.toInt = l.toInt + 1 := by rw [ez]; exact mi_addc (by decide) (by clear hk; omega) (by clear hk; omega)
      refine ⟨(z, r1), ⟨?_, n1, fun G => ?_⟩, hk⟩
      · show b.toInt ≤ z.toInt ∧ (z.toInt ≤ d.toInt ∨ z.toInt = b.toInt)
        clear hk; omega
      · clear hk
        show pr r1 G = Vy N ok c G (z.toInt - b.toInt).toNat b.toInt.toNat 0
        rw [g1 G, h3, show (z.toInt - b.toInt).toNat = (l.toInt - b.toInt).toNat + 1 from by omega, Vy_snoc, show b.toInt.toNat + (l.toInt - b.toInt).toNat = l.toInt.toNat from by omega]
  · show 0 ≤ (g n).toInt
    rw [← eg]
    by_cases e : n = 0
    · rw [e, pk_us, c1]; decide
    · rw [pk_un e, z0 n hn, c0]; decide
  · show pr g G = Vy N ok c G (b.toInt - b.toInt).toNat b.toInt.toNat 0
    rw [show (b.toInt - b.toInt).toNat = 0 from by omega, ← eg, pr_up (by omega), pz, z0 0 (by omega), c0, c1]
    show 0 + (1 - 0) * G 0 = G 0
    omega
/-- addUp(): sums of all that is not above, digit by digit -/
def Qd (p w o : Nat) : Prop := ∀ q : Nat, q < 5 → (q < p → d4 w q ≤ d4 o q) ∧ (p ≤ q → d4 w q = d4 o q)
noncomputable def iq (p o w : Nat) : Int := @ite Int (Qd p w o) (Classical.propDecidable _) 1 0
theorem iq_y {p o w : Nat} (h : Qd p w o) : iq p o w = 1 := if_pos h
theorem iq_n {p o w : Nat} (h : ¬ Qd p w o) : iq p o w = 0 := if_neg h
theorem iq_rng (p o w : Nat) : 0 ≤ iq p o w ∧ iq p o w ≤ 1 := by
  by_cases h : Qd p w o
  · rw [iq_y h]; decide
  · rw [iq_n h]; decide
theorem d4_sub {o p : Nat} (ho : o < 1024) (hp : p < 5) (h : d4 o p ≠ 0) : 4 ^ p ≤ o ∧ ∀ q : Nat, q < 5 → d4 (o - 4 ^ p) q = if q = p then d4 o p - 1 else d4 o q := by
  have e : o = o / 1 % 4 + 4 * (o / 4 % 4) + 16 * (o / 16 % 4) + 64 * (o / 64 % 4) + 256 * (o / 256 % 4) := (e4_d ho).symm
  have w : ∀ v : Nat → Nat, (∀ q : Nat, q < 5 → v q ≤ 3) → o - 4 ^ p = e4 v → ∀ q : Nat, q < 5 → d4 (o - 4 ^ p) q = v q := fun v hv ev => by rw [ev]; exact d4_e hv
  have key : 4 ^ p ≤ o ∧ o - 4 ^ p = e4 (fun q => if q = p then d4 o p - 1 else d4 o q) := by
    revert h
    have k : ∀ p : Nat, p < 5 → d4 o p ≠ 0 → 4 ^ p ≤ o ∧ o - 4 ^ p = e4 (fun q => if q = p then d4 o p - 1 else d4 o q) := by
      refine p5 ?_ ?_ ?_ ?_ ?_
      · intro h
        have h : o / 1 % 4 ≠ 0 := h
        show 1 ≤ o ∧ o - 1 = (o / 1 % 4 - 1) + 4 * (o / 4 % 4) + 16 * (o / 16 % 4) + 64 * (o / 64 % 4) + 256 * (o / 256 % 4)
        omega
      · intro h
        have h : o / 4 % 4 ≠ 0 := h
        show 4 ≤ o ∧ o - 4 = o / 1 % 4 + 4 * (o / 4 % 4 - 1) + 16 * (o / 16 % 4) + 64 * (o / 64 % 4) + 256 * (o / 256 % 4)
        omega
      · intro h
        have h : o / 16 % 4 ≠ 0 := h
        show 16 ≤ o ∧ o - 16 = o / 1 % 4 + 4 * (o / 4 % 4) + 16 * (o / 16 % 4 - 1) + 64 * (o / 64 % 4) + 256 * (o / 256 % 4)
        omega
      · intro h
        have h : o / 64 % 4 ≠ 0 := h
        show 64 ≤ o ∧ o - 64 = o / 1 % 4 + 4 * (o / 4 % 4) + 16 * (o / 16 % 4) + 64 * (o / 64 % 4 - 1) + 256 * (o / 256 % 4)
        omega
      · intro h
        have h : o / 256 % 4 ≠ 0 := h
        show 256 ≤ o ∧ o - 256 = o / 1 % 4 + 4 * (o / 4 % 4) + 16 * (o / 16 % 4) + 64 * (o / 64 % 4) + 256 * (o / 256 % 4 - 1)
        omega
    exact k p hp
  refine ⟨key.1, fun q hq => ?_⟩
  refine w (fun q => if q = p then d4 o p - 1 else d4 o q) (fun q _ => ?_) key.2 q hq
  show (if q = p then d4 o p - 1 else d4 o q) ≤ 3
  have a := d4_lt o p
  have b := d4_lt o q
  split <;> omega
theorem Qd_0 {o w : Nat} (ho : o < 1024) (hw : w < 1024) : Qd 0 w o ↔ w = o := by
  constructor
  · intro h
    rw [← e4_d hw, ← e4_d ho]
    exact e4_c (fun p hp => (h p hp).2 (Nat.zero_le _))
  · intro h q hq
    subst h
    exact ⟨fun _ => Nat.le_refl _, fun _ => rfl⟩
theorem Qd_5 {o w : Nat} : Qd 5 w o ↔ Dle w o := by
  constructor
  · intro h q hq; exact (h q hq).1 hq
  · intro h q hq; exact ⟨fun _ => h q hq, fun k => absurd k (by omega)⟩
theorem Qd_z {p o w : Nat} (hp : p < 5) (z : d4 o p = 0) : Qd (p + 1) w o ↔ Qd p w o := by
  constructor
  · intro h q hq
    refine ⟨fun k => (h q hq).1 (by omega), fun k => ?_⟩
    by_cases e : q = p
    · subst e; have := (h q hq).1 (by omega); omega
    · exact (h q hq).2 (by omega)
  · intro h q hq
    refine ⟨fun k => ?_, fun k => (h q hq).2 (by omega)⟩
    by_cases e : q = p
    · subst e; have := (h q hq).2 (Nat.le_refl _); omega
    · exact (h q hq).1 (by omega)
theorem iq_s {p o w : Nat} (ho : o < 1024) (hp : p < 5) (z : d4 o p ≠ 0) : iq (p + 1) o w = iq p o w + iq (p + 1) (o - 4 ^ p) w := by
  obtain ⟨-, hd⟩ := d4_sub ho hp z
  have dp : d4 (o - 4 ^ p) p = d4 o p - 1 := by rw [hd p hp, if_pos rfl]
  have dq : ∀ q : Nat, q < 5 → q ≠ p → d4 (o - 4 ^ p) q = d4 o q := fun q hq e => by rw [hd q hq, if_neg e]
  by_cases h : Qd (p + 1) w o
  · rw [iq_y h]
    have hp1 := (h p hp).1 (by omega)
    by_cases e : d4 w p = d4 o p
    · have y : Qd p w o := fun q hq => ⟨fun k => (h q hq).1 (by omega), fun k => by
        by_cases e2 : q = p
        · rw [e2]; exact e
        · exact (h q hq).2 (by omega)⟩
      have n : ¬ Qd (p + 1) w (o - 4 ^ p) := fun y2 => by
        have := (y2 p hp).1 (by omega)
        rw [dp] at this; omega
      rw [iq_y y, iq_n n]; rfl
    · have n : ¬ Qd p w o := fun y => e ((y p hp).2 (Nat.le_refl _))
      have y : Qd (p + 1) w (o - 4 ^ p) := fun q hq => ⟨fun k => by
        by_cases e2 : q = p
        · rw [e2, dp]; omega
        · rw [dq q hq e2]; exact (h q hq).1 k, fun k => by
        rw [dq q hq (by omega)]; exact (h q hq).2 k⟩
      rw [iq_n n, iq_y y]; rfl
  · rw [iq_n h]
    have n1 : ¬ Qd p w o := fun y => h (fun q hq => ⟨fun k => by
      by_cases e2 : q = p
      · rw [e2]; exact Nat.le_of_eq ((y p hp).2 (Nat.le_refl _))
      · exact (y q hq).1 (by omega), fun k => (y q hq).2 (by omega)⟩)
    have n2 : ¬ Qd (p + 1) w (o - 4 ^ p) := fun y => h (fun q hq => ⟨fun k => by
      have := (y q hq).1 k
      by_cases e2 : q = p
      · rw [e2] at this ⊢; rw [dp] at this; omega
      · rw [dq q hq e2] at this; exact this, fun k => by
      have := (y q hq).2 k
      rw [dq q hq (by omega)] at this; exact this⟩)
    rw [iq_n n1, iq_n n2]; rfl
theorem pr_add {f : Nat → Int32} {G G2 : Nat → Int} : pr f (fun n => G n + G2 n) = pr f G + pr f G2 := by
  have e : pr f (fun n => G n + G2 n) = sm 1024 (fun n => (f n).toInt * G n + (f n).toInt * G2 n) := sm_c 1024 (fun n _ => Int.mul_add _ _ _)
  rw [e, sm_add]; rfl
theorem pr_d {f : Nat → Int32} {o : Nat} (ho : o < 1024) : pr f (iq 0 o) = (f o).toInt := by
  have e : pr f (iq 0 o) = sm 1024 (fun n => if n = o then (f o).toInt else (fun _ => (0 : Int)) n) := sm_c 1024 (fun n hn => by
    by_cases k : n = o
    · rw [if_pos k, iq_y ((Qd_0 ho hn).mpr k), k, Int.mul_one]
    · rw [if_neg k, iq_n (fun q => k ((Qd_0 ho hn).mp q)), Int.mul_zero])
  rw [e, sm_up, if_pos ho, sm_0 1024 (fun _ _ => rfl)]
  omega
theorem addUp_sp {mf u : Nat → Int32} (hm : ∀ n : Nat, n < 1024 → 0 ≤ (mf n).toInt) (hp : pr mf (fun _ => 1) ≤ 32768) (h : R_k_addUp mf u) : ∀ o : Nat, o < 1024 → (u o).toInt = pr mf (ind o) := by
  have c0 : (0 : Int32).toInt = 0 := by decide
  have bd : ∀ p o : Nat, 0 ≤ pr mf (iq p o) ∧ pr mf (iq p o) ≤ 32768 := fun p o => ⟨pr_nn hm (fun n _ => (iq_rng p o n).1), Int.le_trans (pr_le (G2 := fun _ => 1) hm (fun n _ => (iq_rng p o n).2)) hp⟩
  have key : ∀ o : Nat, o < 1024 → (u o).toInt = pr mf (iq 5 o) := by
    refine fx_inv (P := fun s => (0 ≤ s.1.toInt ∧ s.1.toInt ≤ 5) ∧ ∀ o : Nat, o < 1024 → (s.2 o).toInt = pr mf (iq s.1.toInt.toNat o)) (fun K s hP hT => ?_) 7 _ h ⟨⟨by show 0 ≤ (0 : Int32).toInt; decide, by show (0 : Int32).toInt ≤ 5; decide⟩, fun o ho => ?_⟩
    · obtain ⟨p, row⟩ := s
      obtain ⟨h1, h2⟩ := hP
      have h1 : 0 ≤ p.toInt ∧ p.toInt ≤ 5 := h1
      have h2 : ∀ o : Nat, o < 1024 → (row o).toInt = pr mf (iq p.toInt.toNat o) := h2
      dsimp only [T_k_addUp_2] at hT
      rcases hT with ⟨q, e⟩ | ⟨q, hT⟩
      · refine Or.inl (fun o ho => ?_)
        rw [e, h2 o ho, show p.toInt.toNat = 5 from by omega]
      · refine Or.inr ?_
        have hp4 : 0 ≤ p.toInt ∧ p.toInt ≤ 4 := by clear hT; omega
        have p5' : p.toInt.toNat < 5 := by clear hT; omega
        have l4 : 4 ^ p.toInt.toNat ≤ 256 := (by decide : ∀ p : Fin 5, 4 ^ p.val ≤ 256) ⟨p.toInt.toNat, p5'⟩
        refine fx_inv (P := fun s => (0 ≤ s.1.toInt ∧ s.1.toInt ≤ 1024) ∧ ∀ o : Nat, o < 1024 → (s.2 o).toInt = if (o : Int) < s.1.toInt then pr mf (iq (p.toInt.toNat + 1) o) else pr mf (iq p.toInt.toNat o)) (fun K2 s hP hT => ?_) 1026 _ hT ⟨⟨by show 0 ≤ (0 : Int32).toInt; decide, by show (0 : Int32).toInt ≤ 1024; decide⟩, fun o ho => ?_⟩
        · obtain ⟨i, r⟩ := s
          obtain ⟨g1, g2⟩ := hP
          have g1 : 0 ≤ i.toInt ∧ i.toInt ≤ 1024 := g1
          have g2 : ∀ o : Nat, o < 1024 → (r o).toInt = if (o : Int) < i.toInt then pr mf (iq (p.toInt.toNat + 1) o) else pr mf (iq p.toInt.toNat o) := g2
          dsimp only [T_k_addUp_9] at hT
          rcases hT with ⟨w, z, ez, hk⟩ | ⟨w, b1, e1, b2, e2, b3, e3, hT⟩
          · have gz : z.toInt = p.toInt + 1 := by rw [ez]; exact mi_addc (by decide) (by clear hk; omega) (by clear hk; omega)
            refine Or.inl ⟨(z, r), ⟨?_, fun o ho => ?_⟩, hk⟩
            · show 0 ≤ z.toInt ∧ z.toInt ≤ 5
              clear hk; omega
            · show (r o).toInt = pr mf (iq z.toInt.toNat o)
              rw [g2 o ho, if_pos (by clear hk; omega), show z.toInt.toNat = p.toInt.toNat + 1 from by clear hk; omega]
          · refine Or.inr ?_
            have dg := dg4 (o := i) ⟨g1.1, w⟩ hp4 e1 e2 e3
            have nx : ∀ z : Int32, z = i + 1 → z.toInt = i.toInt + 1 := fun z ez => by rw [ez]; exact mi_addc (by decide) (by clear hT; omega) (by clear hT; omega)
            have i1k : i.toInt.toNat < 1024 := by clear hT; omega
            rcases hT with ⟨d, z, ez, hk⟩ | ⟨d, b5, f5, b6, f6, b7, f7, b8, f8, b9, f9, b10, f10, b11, f11, z, ez, hk⟩
            · have gz := nx z ez
              refine ⟨(z, r), ⟨?_, fun o ho => ?_⟩, hk⟩
              · show 0 ≤ z.toInt ∧ z.toInt ≤ 1024
                clear hk; omega
              · show (r o).toInt = if (o : Int) < z.toInt then pr mf (iq (p.toInt.toNat + 1) o) else pr mf (iq p.toInt.toNat o)
                have d0 : d4 i.toInt.toNat p.toInt.toNat = 0 := by clear hk; omega
                clear hk
                rw [g2 o ho]
                by_cases k : (o : Int) < i.toInt
                · rw [if_pos k, if_pos (by omega)]
                · rw [if_neg k]
                  by_cases k2 : (o : Int) < z.toInt
                  · rw [if_pos k2]
                    have eo : o = i.toInt.toNat := by omega
                    subst eo
                    refine pr_cg (fun n _ => ?_)
                    by_cases y : Qd p.toInt.toNat n i.toInt.toNat
                    · rw [iq_y y, iq_y ((Qd_z p5' d0).mpr y)]
                    · rw [iq_n y, iq_n (fun q => y ((Qd_z p5' d0).mp q))]
                  · rw [if_neg k2]
            · have gz := nx z ez
              have d0 : d4 i.toInt.toNat p.toInt.toNat ≠ 0 := by clear hk; omega
              obtain ⟨s1, s2⟩ := d4_sub i1k p5' d0
              have g7 := sh4 hp4 f6 f7
              have p4 : 0 < 4 ^ p.toInt.toNat := Nat.pow_pos (by omega)
              have g8 : b8.toInt = i.toInt - ((4 ^ p.toInt.toNat : Nat) : Int) := by rw [f8, mi_sub (by rw [g7]; clear hk; omega) (by rw [g7]; clear hk; omega), g7]
              have i8 : Int32.toNatClampNeg b8 = i.toInt.toNat - 4 ^ p.toInt.toNat := by rw [mi_cl, g8]; clear hk; omega
              rw [mi_cl] at f5 f11
              rw [i8] at f9
              have v5 : b5.toInt = pr mf (iq p.toInt.toNat i.toInt.toNat) := by rw [f5, g2 _ i1k, if_neg (by clear hk; omega)]
              have v9 : b9.toInt = pr mf (iq (p.toInt.toNat + 1) (i.toInt.toNat - 4 ^ p.toInt.toNat)) := by rw [f9, g2 _ (by clear hk; omega), if_pos (by clear hk; omega)]
              have r5 := bd p.toInt.toNat i.toInt.toNat
              have r9 := bd (p.toInt.toNat + 1) (i.toInt.toNat - 4 ^ p.toInt.toNat)
              have v10 : b10.toInt = pr mf (iq (p.toInt.toNat + 1) i.toInt.toNat) := by
                rw [f10, mi_add (by clear hk; omega) (by clear hk; omega), v5, v9, ← pr_add]
                exact pr_cg (fun n _ => (iq_s i1k p5' d0).symm)
              refine ⟨(z, b11), ⟨?_, fun o ho => ?_⟩, hk⟩
              · show 0 ≤ z.toInt ∧ z.toInt ≤ 1024
                clear hk; omega
              · show (b11 o).toInt = if (o : Int) < z.toInt then pr mf (iq (p.toInt.toNat + 1) o) else pr mf (iq p.toInt.toNat o)
                clear hk
                rw [← f11]
                by_cases k : o = i.toInt.toNat
                · subst k
                  rw [pk_us, if_pos (by omega), v10]
                · rw [pk_un k, g2 o ho]
                  by_cases k2 : (o : Int) < i.toInt
                  · rw [if_pos k2, if_pos (by omega)]
                  · rw [if_neg k2, if_neg (by omega)]
        · show (row o).toInt = if (o : Int) < (0 : Int32).toInt then _ else _
          rw [if_neg (by rw [c0]; clear hT; omega)]
          exact h2 o ho
    · show (mf o).toInt = pr mf (iq (0 : Int32).toInt.toNat o)
      rw [c0]; exact (pr_d ho).symm
  intro o ho
  rw [key o ho]
  refine pr_cg (fun n _ => ?_)
  by_cases y : Dle n o
  · rw [idd_y y, iq_y (Qd_5.mpr y)]
  · rw [idd_n y, iq_n (fun q => y (Qd_5.mp q))]
/-- room behind what was clapped -/
theorem e4_set {w : Nat → Nat} {p m : Nat} (hp : p < 5) (h : w p = 0) : e4 (fun q => if q = p then m else w q) = e4 w + m * 4 ^ p := by
  revert h
  have k : ∀ p : Nat, p < 5 → w p = 0 → e4 (fun q => if q = p then m else w q) = e4 w + m * 4 ^ p := by
    refine p5 ?_ ?_ ?_ ?_ ?_
    · intro h; show m + 4 * w 1 + 16 * w 2 + 64 * w 3 + 256 * w 4 = w 0 + 4 * w 1 + 16 * w 2 + 64 * w 3 + 256 * w 4 + m * 1; omega
    · intro h; show w 0 + 4 * m + 16 * w 2 + 64 * w 3 + 256 * w 4 = w 0 + 4 * w 1 + 16 * w 2 + 64 * w 3 + 256 * w 4 + m * 4; omega
    · intro h; show w 0 + 4 * w 1 + 16 * m + 64 * w 3 + 256 * w 4 = w 0 + 4 * w 1 + 16 * w 2 + 64 * w 3 + 256 * w 4 + m * 16; omega
    · intro h; show w 0 + 4 * w 1 + 16 * w 2 + 64 * m + 256 * w 4 = w 0 + 4 * w 1 + 16 * w 2 + 64 * w 3 + 256 * w 4 + m * 64; omega
    · intro h; show w 0 + 4 * w 1 + 16 * w 2 + 64 * w 3 + 256 * m = w 0 + 4 * w 1 + 16 * w 2 + 64 * w 3 + 256 * w 4 + m * 256; omega
  exact k p hp
theorem room_sp {pa o u : Int32} {cl : Nat → Int32} (hpa : 0 ≤ pa.toInt ∧ pa.toInt ≤ 5) (ho : 0 ≤ o.toInt ∧ o.toInt < 1024) (hcl : ∀ p : Nat, (p : Int) < pa.toInt → 0 ≤ (cl p).toInt ∧ (cl p).toInt ≤ 99) (h : R_k_roomBehind pa cl o u) : (u.toInt = -1 ∧ ∃ p : Nat, (p : Int) < pa.toInt ∧ (cl p).toInt < (d4 o.toInt.toNat p : Int)) ∨ ((0 ≤ u.toInt ∧ u.toInt < 1024) ∧ (∀ p : Nat, (p : Int) < pa.toInt → (d4 o.toInt.toNat p : Int) ≤ (cl p).toInt) ∧ ∀ p : Nat, p < 5 → (d4 u.toInt.toNat p : Int) = if (p : Int) < pa.toInt then min 3 ((cl p).toInt - (d4 o.toInt.toNat p : Int)) else 0) := by
  have c0 : (0 : Int32).toInt = 0 := by decide
  have c3 : (3 : Int32).toInt = 3 := by decide
  have cm : (-1 : Int32).toInt = -1 := by decide
  refine fx_inv (P := fun s => (0 ≤ s.1.toInt ∧ s.1.toInt ≤ pa.toInt) ∧ (∀ p : Nat, (p : Int) < s.1.toInt → (d4 o.toInt.toNat p : Int) ≤ (cl p).toInt) ∧ ∃ w : Nat → Nat, s.2.toInt = ((e4 w : Nat) : Int) ∧ ∀ p : Nat, (w p : Int) = if (p : Int) < s.1.toInt then min 3 ((cl p).toInt - (d4 o.toInt.toNat p : Int)) else 0) (fun K s hP hT => ?_) 7 _ h ⟨⟨by show 0 ≤ (0 : Int32).toInt; decide, by show (0 : Int32).toInt ≤ _; rw [c0]; exact hpa.1⟩, fun p hp => ?_, (fun _ => 0), rfl, fun p => ?_⟩
  · obtain ⟨p, r⟩ := s
    obtain ⟨h1, h2, w, h3, h4⟩ := hP
    have h1 : 0 ≤ p.toInt ∧ p.toInt ≤ pa.toInt := h1
    have h2 : ∀ q : Nat, (q : Int) < p.toInt → (d4 o.toInt.toNat q : Int) ≤ (cl q).toInt := h2
    have h3 : r.toInt = ((e4 w : Nat) : Int) := h3
    have h4 : ∀ q : Nat, (w q : Int) = if (q : Int) < p.toInt then min 3 ((cl q).toInt - (d4 o.toInt.toNat q : Int)) else 0 := h4
    have w3 : ∀ q : Nat, w q ≤ 3 := fun q => by
      have := h4 q
      by_cases k : (q : Int) < p.toInt
      · rw [if_pos k] at this; omega
      · rw [if_neg k] at this; omega
    have lt := e4_lt (v := w) (fun q _ => w3 q)
    dsimp only [T_k_roomBehind_4] at hT
    rcases hT with ⟨q, e⟩ | ⟨q, b0, e0, b1, e1, b2, e2, b3, e3, b4, e4', hT⟩
    · refine Or.inl (Or.inr ⟨by rw [e, h3]; omega, fun t ht => h2 t (by omega), fun t ht => ?_⟩)
      rw [e, h3, show ((e4 w : Nat) : Int).toNat = e4 w from rfl, d4_e (fun q _ => w3 q) t ht, h4 t, show p.toInt = pa.toInt from by omega]
    · rw [mi_cl] at e0
      have hp4 : 0 ≤ p.toInt ∧ p.toInt ≤ 4 := by clear hT; omega
      have g3 := dg4 ho hp4 e1 e2 e3
      have dl := d4_lt o.toInt.toNat p.toInt.toNat
      have hc := hcl p.toInt.toNat (by clear hT; omega)
      have g4 : b4.toInt = (cl p.toInt.toNat).toInt - (d4 o.toInt.toNat p.toInt.toNat : Int) := by rw [e4', mi_sub (by rw [e0]; clear hT; omega) (by rw [e0]; clear hT; omega), g3, e0]
      rcases hT with ⟨c, b5, e5, b6, e6, b7, e7, b8, e8, z, ez, hk⟩ | ⟨c, e⟩
      · refine Or.inr ?_
        have g5 : b5.toInt = min 3 b4.toInt := by
          rw [e5]
          by_cases k : b4 < (3 : Int32)
          · rw [if_pos k]
            have k2 : b4.toInt < (3 : Int32).toInt := mi_lt.mp k
            rw [c3] at k2; clear hk; omega
          · rw [if_neg k]
            have k2 : ¬ b4.toInt < (3 : Int32).toInt := fun y => k (mi_lt.mpr y)
            rw [c3] at k2 ⊢; clear hk; omega
        have g7 := sh4m (m := b5) hp4 (by clear hk; omega) e6 e7
        have gz : z.toInt = p.toInt + 1 := by rw [ez]; exact mi_addc (by decide) (by clear hk; omega) (by clear hk; omega)
        have wp : w p.toInt.toNat = 0 := by
          have := h4 p.toInt.toNat
          rw [if_neg (by clear hk; omega)] at this; clear hk; omega
        have es := e4_set (w := w) (p := p.toInt.toNat) (m := b5.toInt.toNat) (by clear hk; omega) wp
        have w3' : ∀ q : Nat, (if q = p.toInt.toNat then b5.toInt.toNat else w q) ≤ 3 := fun q => by
          have := w3 q
          split
          · clear hk; omega
          · exact this
        have lt2 := e4_lt (v := fun q => if q = p.toInt.toNat then b5.toInt.toNat else w q) (fun q _ => w3' q)
        have g8 : b8.toInt = ((e4 (fun q => if q = p.toInt.toNat then b5.toInt.toNat else w q) : Nat) : Int) := by
          rw [e8, mi_add (by clear hk; omega) (by clear hk; omega), h3, g7, es]; rfl
        refine ⟨(z, b8), ⟨?_, fun t ht => ?_, (fun q => if q = p.toInt.toNat then b5.toInt.toNat else w q), g8, fun t => ?_⟩, hk⟩
        · show 0 ≤ z.toInt ∧ z.toInt ≤ pa.toInt
          clear hk; omega
        · have ht : (t : Int) < z.toInt := ht
          clear hk
          by_cases k : t = p.toInt.toNat
          · subst k; omega
          · exact h2 t (by omega)
        · show (((if t = p.toInt.toNat then b5.toInt.toNat else w t) : Nat) : Int) = if (t : Int) < z.toInt then min 3 ((cl t).toInt - (d4 o.toInt.toNat t : Int)) else 0
          clear hk
          by_cases k : t = p.toInt.toNat
          · subst k
            rw [if_pos rfl, if_pos (by omega)]; omega
          · rw [if_neg k, h4 t]
            by_cases k2 : (t : Int) < p.toInt
            · rw [if_pos k2, if_pos (by omega)]
            · rw [if_neg k2, if_neg (by omega)]
      · exact Or.inl (Or.inl ⟨by rw [e]; exact cm, p.toInt.toNat, by omega, by omega⟩)
  · have hp : (p : Int) < (0 : Int32).toInt := hp
    rw [c0] at hp; omega
  · show ((0 : Nat) : Int) = if (p : Int) < (0 : Int32).toInt then _ else 0
    rw [if_neg (by rw [c0]; omega)]; rfl
