/-! loops by an invariant; who lives; what all have saved -/
theorem loopP {α : Type} {T : ((Int32 × α) → Prop) → (Int32 × α) → Prop} {n : Int32} {P : Nat → α → Prop} {Q : α → Prop} {s0 : α} (hn : 0 ≤ n.toInt ∧ n.toInt ≤ 100000) (hT : ∀ (K : (Int32 × α) → Prop) (i : Int32) (s : α), (0 ≤ i.toInt ∧ i.toInt ≤ n.toInt) → P i.toInt.toNat s → T K (i, s) → (n.toInt ≤ i.toInt ∧ Q s) ∨ (i.toInt < n.toInt ∧ ∃ (z : Int32) (t : α), z = i + 1 ∧ P (i.toInt.toNat + 1) t ∧ K (z, t))) (h0 : P 0 s0) {N : Nat} (h : fx T N ((0 : Int32), s0)) : ∃ s : α, P n.toInt.toNat s ∧ Q s := by
  have key : ∀ (N : Nat) (i : Int32) (s : α), fx T N (i, s) → (0 ≤ i.toInt ∧ i.toInt ≤ n.toInt) → P i.toInt.toNat s → ∃ s : α, P n.toInt.toNat s ∧ Q s := by
    intro N
    induction N with
    | zero => intro i s h; exact h.elim
    | succ N ih =>
      intro i s h hi hP
      rcases hT (fx T N) i s hi hP (fx_o h) with ⟨c, q⟩ | ⟨c, z, t, ez, hp, hk⟩
      · have e : i.toInt.toNat = n.toInt.toNat := by omega
        rw [e] at hP
        exact ⟨s, hP, q⟩
      · have g : z.toInt = i.toInt + 1 := by rw [ez]; exact mi_addc (by decide) (by omega) (by omega)
        have g2 : z.toInt.toNat = i.toInt.toNat + 1 := by omega
        refine ih z t hk (by omega) ?_
        rw [g2]; exact hp
  exact key N _ _ h ⟨by decide, hn.1⟩ h0
theorem living_sp {ac u : Int32} {st : Nat → Int32} (hac : 0 ≤ ac.toInt ∧ ac.toInt ≤ 6) (h : R_k_living ac st u) : Lvs ac u st := by
  obtain ⟨s, ⟨hs, hb⟩, e⟩ := loopP (n := ac) (P := fun k s => (0 ≤ s.toInt ∧ s.toInt ≤ 63) ∧ ∀ j : Nat, j < 6 → (lvb s j = true ↔ j < k ∧ (st j).toInt = -1)) (Q := fun s => u = s) (by omega) (fun K i s hi hP hT => by
    dsimp only [T_k_living_4] at hT
    rcases hT with ⟨c, e⟩ | ⟨c, b0, hl, h⟩
    · exact Or.inl ⟨c, e⟩
    · have hl := lv_sp hl
      refine Or.inr ⟨c, ?_⟩
      obtain ⟨hr, hb⟩ := hP
      rcases h with ⟨q, b1, e1, b2, e2, b3, e3, hk⟩ | ⟨q, b4, e4, hk⟩
      · rcases hl with ⟨hl, -⟩ | ⟨-, q0⟩
        · refine ⟨b3, b2, e3, ?_, hk⟩
          clear hk
          have o := bt_or (L := s) (b := i) hr (by omega)
          rw [e2, e1]
          refine ⟨o.1, fun j hj => ?_⟩
          rw [o.2 j hj]
          have hbj := hb j hj
          by_cases ej : j = i.toInt.toNat
          · subst ej
            rw [decide_eq_true rfl, Bool.or_true]
            exact ⟨fun _ => ⟨Nat.lt_succ_self _, hl.2⟩, fun _ => rfl⟩
          · simp only [ej, decide_false, Bool.or_false]
            rw [hbj]
            constructor
            · rintro ⟨x, y⟩; exact ⟨by omega, y⟩
            · rintro ⟨x, y⟩; exact ⟨by omega, y⟩
        · rw [q] at q0; exact absurd q0 (by decide)
      · rcases hl with ⟨-, q1⟩ | ⟨hl, -⟩
        · rw [q] at q1; exact absurd q1 (by decide)
        · refine ⟨b4, s, e4, ⟨hr, fun j hj => ?_⟩, hk⟩
          clear hk
          rw [hb j hj]
          constructor
          · rintro ⟨x, y⟩; exact ⟨by omega, y⟩
          · rintro ⟨x, y⟩
            refine ⟨?_, y⟩
            by_cases ej : j = i.toInt.toNat
            · subst ej; exact absurd ⟨⟨hi.1, c⟩, y⟩ hl
            · omega) ⟨⟨by decide, by decide⟩, fun j hj => by
    constructor
    · intro q
      exfalso
      rcases (by omega : j = 0 ∨ j = 1 ∨ j = 2 ∨ j = 3 ∨ j = 4 ∨ j = 5) with rfl | rfl | rfl | rfl | rfl | rfl <;> exact absurd q (by decide)
    · rintro ⟨x, -⟩; omega⟩ h
  rw [e]
  refine ⟨hs, fun k hk => ?_⟩
  rw [hb k hk]
  constructor
  · rintro ⟨x, y⟩; exact ⟨by omega, y⟩
  · rintro ⟨x, y⟩; exact ⟨by omega, y⟩
theorem Lvs_eq {ac L M : Int32} {st : Nat → Int32} (h1 : Lvs ac L st) (h2 : Lvs ac M st) : L = M := by
  refine bt_eq h1.1 h2.1 (fun k hk => ?_)
  have a := h1.2 k hk
  have b := h2.2 k hk
  cases hL : lvb L k <;> cases hM : lvb M k
  · rfl
  · rw [hL] at a; rw [hM] at b; exact absurd (a.mpr (b.mp rfl)) (by decide)
  · rw [hL] at a; rw [hM] at b; exact absurd (b.mpr (a.mp rfl)) (by decide)
  · rfl
/-- a sum over those who live -/
def lsum (st f : Nat → Int32) : Nat → Int32
  | 0 => 0
  | k + 1 => if (st k).toInt = -1 then lsum st f k + f k else lsum st f k
theorem lsum_c {st f g : Nat → Int32} : ∀ n : Nat, (∀ a : Nat, a < n → f a = g a) → lsum st f n = lsum st g n := by
  intro n
  induction n with
  | zero => intro _; rfl
  | succ n ih =>
    intro h
    show (if _ then _ else _) = (if _ then _ else _)
    rw [ih (fun a ha => h a (by omega)), h n (by omega)]
theorem sav_x {ac u : Int32} {st sv : Nat → Int32} (hac : 0 ≤ ac.toInt ∧ ac.toInt ≤ 6) (h : R_k_allSaved ac st sv u) : u = lsum st sv ac.toInt.toNat := by
  obtain ⟨s, hs, e⟩ := loopP (n := ac) (P := fun k s => s = lsum st sv k) (Q := fun s => u = s) (by omega) (fun K i s hi hP hT => by
    dsimp only [T_k_allSaved_4] at hT
    rcases hT with ⟨c, e⟩ | ⟨c, b0, hl, h⟩
    · exact Or.inl ⟨c, e⟩
    · have hl := lv_sp hl
      refine Or.inr ⟨c, ?_⟩
      rcases h with ⟨q, b1, e1, b2, e2, b3, e3, hk⟩ | ⟨q, b4, e4, hk⟩
      · rcases hl with ⟨hl, -⟩ | ⟨-, q0⟩
        · refine ⟨b3, b2, e3, ?_, hk⟩
          show b2 = if _ then _ else _
          rw [if_pos hl.2, e2, e1, hP]; rfl
        · rw [q] at q0; exact absurd q0 (by decide)
      · rcases hl with ⟨-, q1⟩ | ⟨hl, -⟩
        · rw [q] at q1; exact absurd q1 (by decide)
        · refine ⟨b4, s, e4, ?_, hk⟩
          show s = if _ then _ else _
          rw [if_neg (fun y => hl ⟨⟨hi.1, c⟩, y⟩), hP]) rfl h
  rw [e, hs]
theorem jlv {ac L i u : Int32} {st : Nat → Int32} (hac : 0 ≤ ac.toInt ∧ ac.toInt ≤ 6) (hL : Lvs ac L st) (hi : 0 ≤ i.toInt ∧ i.toInt < ac.toInt) (h : R_j_has L i u) : ((st i.toInt.toNat).toInt = -1 ∧ u = 1) ∨ (¬ (st i.toInt.toNat).toInt = -1 ∧ u = 0) := by
  have q := has_sp hL.1 (by clear h; omega) h
  have z := hL.2 i.toInt.toNat (by clear h; omega)
  rcases q with ⟨b, e⟩ | ⟨b, e⟩
  · exact Or.inl ⟨(z.mp b).2, e⟩
  · refine Or.inr ⟨fun y => ?_, e⟩
    have w := z.mpr ⟨by clear h; omega, y⟩
    rw [b] at w; exact absurd w (by decide)
theorem sav_y {ac L u : Int32} {st sv : Nat → Int32} (hac : 0 ≤ ac.toInt ∧ ac.toInt ≤ 6) (hL : Lvs ac L st) (h : R_j_allSaved ac L sv u) : u = lsum st sv ac.toInt.toNat := by
  obtain ⟨s, hs, e⟩ := loopP (n := ac) (P := fun k s => s = lsum st sv k) (Q := fun s => u = s) (by omega) (fun K i s hi hP hT => by
    dsimp only [T_j_allSaved_4] at hT
    rcases hT with ⟨c, e⟩ | ⟨c, b0, hl, h⟩
    · exact Or.inl ⟨c, e⟩
    · have hl := jlv hac hL ⟨hi.1, c⟩ hl
      refine Or.inr ⟨c, ?_⟩
      rcases h with ⟨q, b1, e1, b2, e2, hk⟩ | ⟨q, b3, e3, b4, e4, b5, e5, hk⟩
      · rcases hl with ⟨-, q1⟩ | ⟨hl, -⟩
        · rw [q1] at q; exact absurd q (by decide)
        · refine ⟨b2, b1, e2, ?_, hk⟩
          show b1 = if _ then _ else _
          rw [if_neg hl, e1, hP]; exact Int32.add_zero _
      · rcases hl with ⟨hl, -⟩ | ⟨-, q0⟩
        · refine ⟨b5, b4, e5, ?_, hk⟩
          show b4 = if _ then _ else _
          rw [if_pos hl, e4, e3, hP]; rfl
        · rw [q0] at q; exact absurd (by decide) q) rfl h
  rw [e, hs]
