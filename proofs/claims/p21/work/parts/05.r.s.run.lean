/-! evenings: who is doomed, who may starve -/
def Bts (s : Int32) (p : Nat → Prop) : Prop := (0 ≤ s.toInt ∧ s.toInt ≤ 63) ∧ ∀ j : Nat, j < 6 → (lvb s j = true ↔ p j)
theorem Bts_eq {s t : Int32} {p q : Nat → Prop} (h1 : Bts s p) (h2 : Bts t q) (e : ∀ j : Nat, j < 6 → (p j ↔ q j)) : s = t := by
  refine bt_eq h1.1 h2.1 (fun k hk => ?_)
  have a := h1.2 k hk
  have b := h2.2 k hk
  have c := e k hk
  cases hL : lvb s k <;> cases hM : lvb t k
  · rfl
  · rw [hL] at a; rw [hM] at b; exact absurd (a.mpr (c.mpr (b.mp rfl))) (by decide)
  · rw [hL] at a; rw [hM] at b; exact absurd (b.mpr (c.mp (a.mp rfl))) (by decide)
  · rfl
theorem Bts_0 : Bts 0 (fun _ => False) := ⟨⟨by decide, by decide⟩, fun j hj => ⟨fun q => by
  rcases (by omega : j = 0 ∨ j = 1 ∨ j = 2 ∨ j = 3 ∨ j = 4 ∨ j = 5) with rfl | rfl | rfl | rfl | rfl | rfl <;> exact absurd q (by decide), fun q => q.elim⟩⟩
theorem Bts_c {s : Int32} {p q : Nat → Prop} (h : Bts s p) (e : ∀ j : Nat, j < 6 → (p j ↔ q j)) : Bts s q := ⟨h.1, fun j hj => (h.2 j hj).trans (e j hj)⟩
theorem Bts_or1 {s i : Int32} {p : Nat → Prop} (h : Bts s p) (hi : 0 ≤ i.toInt ∧ i.toInt ≤ 5) : Bts (s ||| (1 : Int32) <<< (i &&& 31)) (fun j => p j ∨ j = i.toInt.toNat) := by
  have o := bt_or (L := s) (b := i) h.1 hi
  refine ⟨o.1, fun j hj => ?_⟩
  rw [o.2 j hj, Bool.or_eq_true, h.2 j hj, decide_eq_true_iff]
set_option maxRecDepth 100000 in
theorem tb_andn : ∀ (x y : Fin 64), (0 ≤ (Int32.ofNat x.val &&& (Int32.ofNat y.val ^^^ (-1))).toInt ∧ (Int32.ofNat x.val &&& (Int32.ofNat y.val ^^^ (-1))).toInt ≤ 63) ∧ (∀ k : Fin 6, lvb (Int32.ofNat x.val &&& (Int32.ofNat y.val ^^^ (-1))) k.val = (lvb (Int32.ofNat x.val) k.val && !(lvb (Int32.ofNat y.val) k.val))) := by decide +kernel
set_option maxRecDepth 100000 in
theorem tb_and : ∀ (x y : Fin 64), (0 ≤ (Int32.ofNat x.val &&& Int32.ofNat y.val).toInt ∧ (Int32.ofNat x.val &&& Int32.ofNat y.val).toInt ≤ 63) ∧ (∀ k : Fin 6, lvb (Int32.ofNat x.val &&& Int32.ofNat y.val) k.val = (lvb (Int32.ofNat x.val) k.val && lvb (Int32.ofNat y.val) k.val)) := by decide +kernel
set_option maxRecDepth 100000 in
theorem tb_orr : ∀ (x y : Fin 64), (0 ≤ (Int32.ofNat x.val ||| Int32.ofNat y.val).toInt ∧ (Int32.ofNat x.val ||| Int32.ofNat y.val).toInt ≤ 63) ∧ (∀ k : Fin 6, lvb (Int32.ofNat x.val ||| Int32.ofNat y.val) k.val = (lvb (Int32.ofNat x.val) k.val || lvb (Int32.ofNat y.val) k.val)) := by decide +kernel
theorem Bts_andn {s t : Int32} {p q : Nat → Prop} (h1 : Bts s p) (h2 : Bts t q) : Bts (s &&& (t ^^^ (-1))) (fun j => p j ∧ ¬ q j) := by
  obtain ⟨x, ex⟩ := of64 h1.1
  obtain ⟨y, ey⟩ := of64 h2.1
  have t := tb_andn x y
  rw [← ex, ← ey] at t
  refine ⟨t.1, fun j hj => ?_⟩
  rw [t.2 ⟨j, hj⟩, Bool.and_eq_true, h1.2 j hj, Bool.not_eq_true']
  exact and_congr Iff.rfl (Bool.eq_false_iff.trans (not_congr (h2.2 j hj)))
theorem Bts_and {s t : Int32} {p q : Nat → Prop} (h1 : Bts s p) (h2 : Bts t q) : Bts (s &&& t) (fun j => p j ∧ q j) := by
  obtain ⟨x, ex⟩ := of64 h1.1
  obtain ⟨y, ey⟩ := of64 h2.1
  have t := tb_and x y
  rw [← ex, ← ey] at t
  refine ⟨t.1, fun j hj => ?_⟩
  rw [t.2 ⟨j, hj⟩, Bool.and_eq_true, h1.2 j hj, h2.2 j hj]
theorem Bts_or {s t : Int32} {p q : Nat → Prop} (h1 : Bts s p) (h2 : Bts t q) : Bts (s ||| t) (fun j => p j ∨ q j) := by
  obtain ⟨x, ex⟩ := of64 h1.1
  obtain ⟨y, ey⟩ := of64 h2.1
  have t := tb_orr x y
  rw [← ex, ← ey] at t
  refine ⟨t.1, fun j hj => ?_⟩
  rw [t.2 ⟨j, hj⟩, Bool.or_eq_true, h1.2 j hj, h2.2 j hj]
theorem Bts_self {s : Int32} (h : 0 ≤ s.toInt ∧ s.toInt ≤ 63) : Bts s (fun j => lvb s j = true) := ⟨h, fun _ _ => Iff.rfl⟩
theorem Bts_z {s : Int32} {p : Nat → Prop} (h : Bts s p) : s.toInt = 0 ↔ ∀ j : Nat, j < 6 → ¬ p j := by
  constructor
  · intro e j hj q
    have s0 : s = 0 := mi_eq (by rw [e]; decide)
    have w := (h.2 j hj).mpr q
    rw [s0] at w
    exact ((Bts_0.2 j hj).mp w).elim
  · intro hn
    have e : s = 0 := Bts_eq h Bts_0 (fun j hj => ⟨fun q => hn j hj q, fun q => q.elim⟩)
    rw [e]; decide
def DmO (hu : Nat → Int32) (en : Int32) (sv : Nat → Int32) (c : Int32) (a : Nat) : Prop := (sv a).toInt < (prc hu en 0 a).toInt ∨ c.toInt < (prc hu en 0 a).toInt
theorem doomed_x {ac en c u : Int32} {st sv hu : Nat → Int32} (hac : 0 ≤ ac.toInt ∧ ac.toInt ≤ 6) (h : R_k_doomed ac st sv hu en c u) : Bts u (fun j => (j : Int) < ac.toInt ∧ (st j).toInt = -1 ∧ DmO hu en sv c j) := by
  obtain ⟨s, hs, e⟩ := loopP (n := ac) (P := fun k s => Bts s (fun j => j < k ∧ (st j).toInt = -1 ∧ DmO hu en sv c j)) (Q := fun s => u = s) (by omega) (fun K i s hi hP hT => by
    have add : i.toInt < ac.toInt → (st i.toInt.toNat).toInt = -1 → DmO hu en sv c i.toInt.toNat → Bts (s ||| (1 : Int32) <<< (i &&& 31)) (fun j => j < i.toInt.toNat + 1 ∧ (st j).toInt = -1 ∧ DmO hu en sv c j) := fun ci v d => Bts_c (Bts_or1 hP (by clear hT; omega)) (fun j hj => by
      constructor
      · rintro (⟨x, y⟩ | rfl)
        · exact ⟨by omega, y⟩
        · exact ⟨by omega, v, d⟩
      · rintro ⟨x, y⟩
        by_cases ej : j = i.toInt.toNat
        · exact Or.inr ej
        · exact Or.inl ⟨by omega, y⟩)
    have skip : ¬ ((st i.toInt.toNat).toInt = -1 ∧ DmO hu en sv c i.toInt.toNat) → Bts s (fun j => j < i.toInt.toNat + 1 ∧ (st j).toInt = -1 ∧ DmO hu en sv c j) := fun nv => Bts_c hP (fun j hj => by
      constructor
      · rintro ⟨x, y⟩; exact ⟨by omega, y⟩
      · rintro ⟨x, y⟩
        by_cases ej : j = i.toInt.toNat
        · rw [ej] at y; exact absurd y nv
        · exact ⟨by omega, y⟩)
    dsimp only [T_k_doomed_4] at hT
    rcases hT with ⟨ci, e⟩ | ⟨ci, b0, hl, hT⟩
    · exact Or.inl ⟨ci, e⟩
    · have hl := lv_sp hl
      refine Or.inr ⟨ci, ?_⟩
      rcases hT with ⟨q, b1, e1, b2, hb2, hT⟩ | ⟨q, z, ez, hk⟩
      · have v : (st i.toInt.toNat).toInt = -1 := by
          rcases hl with ⟨hl, -⟩ | ⟨-, q0⟩
          · exact hl.2
          · rw [q] at q0; exact absurd q0 (by decide)
        have hb2 := pr_sp hb2
        rw [mi_cl] at e1
        rw [e1, hb2] at hT
        rcases hT with ⟨d, b3, e3, b4, e4, z, ez, hk⟩ | ⟨d, b6, hb6, hT⟩
        · refine ⟨z, b4, ez, ?_, hk⟩
          rw [e4, e3]; exact add ci v (Or.inl d)
        · have hb6 := pr_sp hb6
          rw [hb6] at hT
          rcases hT with ⟨d2, z, ez, hk⟩ | ⟨d2, b8, e8, b9, e9, z, ez, hk⟩
          · refine ⟨z, s, ez, skip (fun y => ?_), hk⟩
            rcases y.2 with y | y
            · exact absurd d (Int.not_le.mpr y)
            · exact absurd d2 (Int.not_le.mpr y)
          · refine ⟨z, b9, ez, ?_, hk⟩
            rw [e9, e8]; exact add ci v (Or.inr d2)
      · refine ⟨z, s, ez, skip (fun y => ?_), hk⟩
        rcases hl with ⟨-, q1⟩ | ⟨nv, -⟩
        · rw [q] at q1; exact absurd q1 (by decide)
        · exact nv ⟨⟨hi.1, ci⟩, y.1⟩) (Bts_c Bts_0 (fun j hj => ⟨fun q => q.elim, fun q => by omega⟩)) h
  rw [e]
  exact Bts_c hs (fun j hj => by
    constructor
    · rintro ⟨x, y⟩; exact ⟨by omega, y⟩
    · rintro ⟨x, y⟩; exact ⟨by omega, y⟩)
theorem dearer_x {ac en a u : Int32} {hu : Nat → Int32} (hac : 0 ≤ ac.toInt ∧ ac.toInt ≤ 6) (h : R_k_dearerThan ac hu en a u) : Bts u (fun j => (j : Int) < ac.toInt ∧ a.toInt < (prc hu en 0 j).toInt) := by
  obtain ⟨s, hs, e⟩ := loopP (n := ac) (P := fun k s => Bts s (fun j => j < k ∧ a.toInt < (prc hu en 0 j).toInt)) (Q := fun s => u = s) (by omega) (fun K i s hi hP hT => by
    dsimp only [T_k_dearerThan_4] at hT
    rcases hT with ⟨ci, e⟩ | ⟨ci, b0, hb0, hT⟩
    · exact Or.inl ⟨ci, e⟩
    · have hb0 := pr_sp hb0
      rw [hb0] at hT
      refine Or.inr ⟨ci, ?_⟩
      rcases hT with ⟨d, z, ez, hk⟩ | ⟨d, b2, e2, b3, e3, z, ez, hk⟩
      · refine ⟨z, s, ez, Bts_c hP (fun j hj => ?_), hk⟩
        clear hk
        constructor
        · rintro ⟨x, y⟩; exact ⟨by omega, y⟩
        · rintro ⟨x, y⟩
          by_cases ej : j = i.toInt.toNat
          · rw [ej] at y; exact absurd d (Int.not_le.mpr y)
          · exact ⟨by omega, y⟩
      · refine ⟨z, b3, ez, ?_, hk⟩
        clear hk
        rw [e3, e2]
        refine Bts_c (Bts_or1 hP (by omega)) (fun j hj => ?_)
        constructor
        · rintro (⟨x, y⟩ | rfl)
          · exact ⟨by omega, y⟩
          · exact ⟨by omega, d⟩
        · rintro ⟨x, y⟩
          by_cases ej : j = i.toInt.toNat
          · exact Or.inr ej
          · exact Or.inl ⟨by omega, y⟩) (Bts_c Bts_0 (fun j hj => ⟨fun q => q.elim, fun q => by omega⟩)) h
  rw [e]
  exact Bts_c hs (fun j hj => by
    constructor
    · rintro ⟨x, y⟩; exact ⟨by omega, y⟩
    · rintro ⟨x, y⟩; exact ⟨by omega, y⟩)
/-- what a set of actors eats -/
def psum (hu : Nat → Int32) (en S : Int32) : Nat → Int32 := rs (fun a => if lvb S a = true then prc hu en 0 a else 0)
theorem prices_x {ac en S u : Int32} {hu : Nat → Int32} (hac : 0 ≤ ac.toInt ∧ ac.toInt ≤ 6) (hS : 0 ≤ S.toInt ∧ S.toInt ≤ 63) (h : R_k_pricesOf ac S hu en u) : u = psum hu en S ac.toInt.toNat := by
  obtain ⟨s, hs, e⟩ := loopP (n := ac) (P := fun k s => s = psum hu en S k) (Q := fun s => u = s) (by omega) (fun K i s hi hP hT => by
    have hb : ∀ {b0 b1 : Int32}, i.toInt < ac.toInt → b0 = S >>> (i &&& (31 : Int32)) → b1 = b0 &&& 1 → b1.toInt = if lvb S i.toInt.toNat = true then 1 else 0 := fun {b0 b1} c e0 e1 => by
      rw [e1, e0]; exact bt_has hS (by clear hT; omega)
    dsimp only [T_k_pricesOf_4] at hT
    rcases hT with ⟨ci, e⟩ | ⟨ci, b0, e0, b1, e1, hT⟩
    · exact Or.inl ⟨ci, e⟩
    · have hb := hb ci e0 e1
      refine Or.inr ⟨ci, ?_⟩
      rcases hT with ⟨d, z, ez, hk⟩ | ⟨d, b3, hb3, b4, e4, z, ez, hk⟩
      · refine ⟨z, s, ez, ?_, hk⟩
        show s = rs _ _ + (if _ then _ else _)
        rw [if_neg (fun y => by rw [if_pos y] at hb; rw [hb] at d; exact absurd d (by decide)), Int32.add_zero, hP]; rfl
      · have hb3 := pr_sp hb3
        refine ⟨z, b4, ez, ?_, hk⟩
        show b4 = rs _ _ + (if _ then _ else _)
        have y : lvb S i.toInt.toNat = true := by
          by_cases y : lvb S i.toInt.toNat = true
          · exact y
          · rw [if_neg y] at hb; exact absurd hb d
        rw [if_pos y, e4, hb3, hP]; rfl) rfl h
  rw [e, hs]
def Abl (ac : Int32) (st : Nat → Int32) (hu : Nat → Int32) (en : Int32) (sv : Nat → Int32) (c : Int32) (j : Nat) : Prop := ((j : Int) < ac.toInt ∧ (st j).toInt = -1) ∧ ¬ DmO hu en sv c j
def OkSt (ac : Int32) (st : Nat → Int32) (hu : Nat → Int32) (en : Int32) (sv : Nat → Int32) (c S : Int32) (j : Nat) : Prop := (∀ b : Nat, b < 6 → lvb S b = true → Abl ac st hu en sv c b) ∧ 0 ≤ (c - psum hu en S ac.toInt.toNat).toInt ∧ Abl ac st hu en sv c j ∧ ¬ lvb S j = true ∧ ((j : Int) < ac.toInt ∧ (c - psum hu en S ac.toInt.toNat).toInt < (prc hu en 0 j).toInt)
theorem danger_x {ac en c u : Int32} {st sv hu : Nat → Int32} (hac : 0 ≤ ac.toInt ∧ ac.toInt ≤ 6) (h : R_k_danger ac st sv hu en c u) : Bts u (fun j => ((j : Int) < ac.toInt ∧ (st j).toInt = -1 ∧ DmO hu en sv c j) ∨ ∃ S : Int32, (0 ≤ S.toInt ∧ S.toInt < 64) ∧ OkSt ac st hu en sv c S j) := by
  obtain ⟨r1, h1, r3, h3, z5, e5, z6, e6, h⟩ := h
  have h1 := doomed_x hac h1
  have h3 := living_sp hac h3
  have hA : Bts z6 (Abl ac st hu en sv c) := by
    rw [e6, e5]
    refine Bts_c (Bts_andn ⟨h3.1, h3.2⟩ h1) (fun j hj => ?_)
    constructor
    · rintro ⟨x, y⟩; exact ⟨x, fun d => y ⟨x.1, x.2, d⟩⟩
    · rintro ⟨x, y⟩; exact ⟨x, fun d => y d.2.2⟩
  have n64 : (64 : Int32).toInt = 64 := by decide
  obtain ⟨s, hs, e⟩ := loopP (n := (64 : Int32)) (P := fun k s => Bts s (fun j => ((j : Int) < ac.toInt ∧ (st j).toInt = -1 ∧ DmO hu en sv c j) ∨ ∃ S : Int32, (0 ≤ S.toInt ∧ S.toInt < (k : Int)) ∧ OkSt ac st hu en sv c S j)) (Q := fun s => u = s) (by decide) (fun K i s hi hP hT => by
    rw [n64] at hi ⊢
    have skip : (∀ j : Nat, ¬ OkSt ac st hu en sv c i j) → Bts s (fun j => ((j : Int) < ac.toInt ∧ (st j).toInt = -1 ∧ DmO hu en sv c j) ∨ ∃ S : Int32, (0 ≤ S.toInt ∧ S.toInt < ((i.toInt.toNat + 1 : Nat) : Int)) ∧ OkSt ac st hu en sv c S j) := fun no => Bts_c hP (fun j hj => by
      clear hT
      constructor
      · rintro (x | ⟨S, hS, y⟩)
        · exact Or.inl x
        · exact Or.inr ⟨S, by omega, y⟩
      · rintro (x | ⟨S, hS, y⟩)
        · exact Or.inl x
        · by_cases eS : S.toInt = i.toInt
          · rw [mi_eq eS] at y; exact absurd y (no j)
          · exact Or.inr ⟨S, by omega, y⟩)
    dsimp only [T_k_danger_16] at hT
    rcases hT with ⟨ci, e⟩ | ⟨ci, b0, hb0, b1, e1, b2, e2, b3, e3, hT⟩
    · exact Or.inl ⟨ci, e⟩
    · have i63 : 0 ≤ i.toInt ∧ i.toInt ≤ 63 := by clear hT hb0; omega
      have hb0 := prices_x hac i63 hb0
      rw [hb0] at e1
      have hsub : b3.toInt = 0 ↔ ∀ j : Nat, j < 6 → ¬ (lvb i j = true ∧ ¬ Abl ac st hu en sv c j) := by
        rw [e3, e2]; exact Bts_z (Bts_andn (Bts_self i63) hA)
      refine Or.inr ⟨ci, ?_⟩
      rcases hT with ⟨d, z, ez, hk⟩ | ⟨d, hT⟩
      · refine ⟨z, s, ez, skip (fun j y => d (hsub.mpr (fun k hk2 q => q.2 (y.1 k hk2 q.1)))), hk⟩
      · rcases hT with ⟨d2, z, ez, hk⟩ | ⟨d2, b6, e6, b7, e7, b8, hb8, b9, e9, b10, e10, z, ez, hk⟩
        · refine ⟨z, s, ez, skip (fun j y => ?_), hk⟩
          rw [e1] at d2
          exact absurd y.2.1 (Int.not_le.mpr d2)
        · have hb8 := dearer_x hac hb8
          refine ⟨z, b10, ez, ?_, hk⟩
          clear hk
          rw [e10, e9, e7, e6]
          refine Bts_c (Bts_or hP (Bts_and (Bts_andn hA (Bts_self i63)) hb8)) (fun j hj => ?_)
          rw [e1] at d2 ⊢
          have hall : ∀ b : Nat, b < 6 → lvb i b = true → Abl ac st hu en sv c b := fun b hb q => Classical.byContradiction (fun nA => hsub.mp d b hb ⟨q, nA⟩)
          constructor
          · rintro ((x | ⟨S, hS, y⟩) | ⟨⟨x, y⟩, w⟩)
            · exact Or.inl x
            · exact Or.inr ⟨S, by omega, y⟩
            · exact Or.inr ⟨i, by omega, hall, d2, x, y, w⟩
          · rintro (x | ⟨S, hS, y⟩)
            · exact Or.inl (Or.inl x)
            · by_cases eS : S.toInt = i.toInt
              · rw [mi_eq eS] at y
                exact Or.inr ⟨⟨y.2.2.1, y.2.2.2.1⟩, y.2.2.2.2⟩
              · exact Or.inl (Or.inr ⟨S, by omega, y⟩)) (Bts_c h1 (fun j hj => ⟨fun q => Or.inl q, fun q => by
    rcases q with q | ⟨S, hS, -⟩
    · exact q
    · exact absurd hS (by omega)⟩)) h
  rw [e]
  refine Bts_c hs (fun j hj => ?_)
  rw [n64]
  exact Iff.rfl
set_option maxRecDepth 100000 in
theorem tb_p2 : ∀ n : Fin 7, 1 ≤ ((1 : Int32) <<< (Int32.ofNat n.val &&& 31)).toInt ∧ ((1 : Int32) <<< (Int32.ofNat n.val &&& 31)).toInt ≤ 64 := by decide +kernel
set_option maxRecDepth 100000 in
theorem tb_lt : ∀ (n : Fin 7) (x : Fin 64), (∀ k : Fin 6, lvb (Int32.ofNat x.val) k.val = true → k.val < n.val) → (Int32.ofNat x.val).toInt < ((1 : Int32) <<< (Int32.ofNat n.val &&& 31)).toInt := by decide +kernel
set_option maxRecDepth 100000 in
theorem tb_ge : ∀ (n : Fin 7) (x : Fin 64), (Int32.ofNat x.val).toInt < ((1 : Int32) <<< (Int32.ofNat n.val &&& 31)).toInt → ∀ k : Fin 6, lvb (Int32.ofNat x.val) k.val = true → k.val < n.val := by decide +kernel
theorem of7 {n : Int32} (h : 0 ≤ n.toInt ∧ n.toInt ≤ 6) : ∃ k : Fin 7, n = Int32.ofNat k.val ∧ (k.val : Int) = n.toInt := by
  have e : n = Int32.ofNat n.toInt.toNat := mi_eq (by
    rw [Int32.toInt_ofNat_of_lt (by show n.toInt.toNat < 2 ^ 31; omega)]
    omega)
  exact ⟨⟨n.toInt.toNat, by omega⟩, e, by show ((n.toInt.toNat : Nat) : Int) = n.toInt; omega⟩
theorem p2_rng {ac : Int32} (hac : 0 ≤ ac.toInt ∧ ac.toInt ≤ 6) : 1 ≤ ((1 : Int32) <<< (ac &&& 31)).toInt ∧ ((1 : Int32) <<< (ac &&& 31)).toInt ≤ 64 := by
  obtain ⟨k, e, -⟩ := of7 hac
  rw [e]; exact tb_p2 k
theorem p2_lt {ac S : Int32} (hac : 0 ≤ ac.toInt ∧ ac.toInt ≤ 6) (hS : 0 ≤ S.toInt ∧ S.toInt ≤ 63) : S.toInt < ((1 : Int32) <<< (ac &&& 31)).toInt ↔ ∀ b : Nat, b < 6 → lvb S b = true → (b : Int) < ac.toInt := by
  obtain ⟨k, e, ek⟩ := of7 hac
  obtain ⟨x, ex⟩ := of64 hS
  constructor
  · intro h b hb q
    have t := tb_ge k x (by rw [← e, ← ex]; exact h) ⟨b, hb⟩ (by rw [← ex]; exact q)
    have t : b < k.val := t
    omega
  · intro h
    rw [e, ex]
    refine tb_lt k x (fun b q => ?_)
    have := h b.val b.isLt (by rw [ex]; exact q)
    omega
def InS (ac : Int32) (st : Nat → Int32) (hu : Nat → Int32) (en : Int32) (sv : Nat → Int32) (c S : Int32) (a : Nat) : Prop := ¬ lvb S a = true ∧ (∀ b : Nat, (b : Int) < ac.toInt → lvb S b = true → (st b).toInt = -1 ∧ (prc hu en 0 b).toInt ≤ (sv b).toInt) ∧ (psum hu en S ac.toInt.toNat).toInt ≤ c.toInt ∧ (c - psum hu en S ac.toInt.toNat).toInt < (prc hu en 0 a).toInt
theorem ind_in {ac S a c X en L u : Int32} {D sv hu st : Nat → Int32} {Kp : Int32 → Prop} (hX : 0 ≤ X.toInt ∧ X.toInt ≤ 1) (hac : 0 ≤ ac.toInt ∧ ac.toInt ≤ 6) (hH : ∀ i : Nat, (i : Int) < ac.toInt → D (36 * X.toInt.toNat + (16 + 2 * i)) = hu i) (hL : Lvs ac L st) (ha : 0 ≤ a.toInt ∧ a.toInt < ac.toInt) (hS : 0 ≤ S.toInt ∧ S.toInt ≤ 63) {k0 : Int32} (hk0 : k0.toInt ≠ 0 ↔ ¬ lvb S a.toInt.toNat = true) {N : Nat} (h : fx (T_j_isInDanger_32 ac S c a X D en L sv Kp u) N ((0 : Int32), k0, (0 : Int32))) : (u = 1 ∧ InS ac st hu en sv c S a.toInt.toNat) ∨ (¬ InS ac st hu en sv c S a.toInt.toNat ∧ ∃ z : Int32, z = S + 1 ∧ Kp z) := by
  have s0 : ∀ x : Int32, x + 0 = x := fun x => Int32.add_zero x
  have z0 : (0 : Int32).toInt = 0 := by decide
  have z1 : (1 : Int32).toInt ≠ 0 := by decide
  obtain ⟨⟨k, t⟩, hs, hq⟩ := loopP (α := Int32 × Int32) (n := ac) (P := fun k s => s.2 = psum hu en S k ∧ (s.1.toInt ≠ 0 ↔ (¬ lvb S a.toInt.toNat = true ∧ ∀ b : Nat, b < k → lvb S b = true → (st b).toInt = -1 ∧ (prc hu en 0 b).toInt ≤ (sv b).toInt))) (Q := fun s => (s.1.toInt = 0 ∧ ∃ z : Int32, z = S + 1 ∧ Kp z) ∨ (s.1.toInt ≠ 0 ∧ ((c.toInt < s.2.toInt ∧ ∃ z : Int32, z = S + 1 ∧ Kp z) ∨ (s.2.toInt ≤ c.toInt ∧ (((prc hu en 0 a.toInt.toNat).toInt ≤ (c - s.2).toInt ∧ ∃ z : Int32, z = S + 1 ∧ Kp z) ∨ ((c - s.2).toInt < (prc hu en 0 a.toInt.toNat).toInt ∧ u = 1)))))) (by omega) (fun K i s hi hP hT => by
    obtain ⟨cn, tt⟩ := s
    have hP1 : tt = psum hu en S i.toInt.toNat := hP.1
    have hP2 : cn.toInt ≠ 0 ↔ (¬ lvb S a.toInt.toNat = true ∧ ∀ b : Nat, b < i.toInt.toNat → lvb S b = true → (st b).toInt = -1 ∧ (prc hu en 0 b).toInt ≤ (sv b).toInt) := hP.2
    have pz : ¬ lvb S i.toInt.toNat = true → tt = psum hu en S (i.toInt.toNat + 1) := fun nb => by
      show tt = rs _ _ + (if _ then _ else _)
      rw [if_neg nb, s0, hP1]; rfl
    have py : lvb S i.toInt.toNat = true → ∀ y x : Int32, y = prc hu en 0 i.toInt.toNat → x = tt + y → x = psum hu en S (i.toInt.toNat + 1) := fun b y x ey ex => by
      show x = rs _ _ + (if _ then _ else _)
      rw [if_pos b, ex, ey, hP1]; rfl
    have no : ∀ n : Int32, n.toInt = 0 → ¬ (¬ lvb S a.toInt.toNat = true ∧ ∀ b : Nat, b < i.toInt.toNat + 1 → lvb S b = true → (st b).toInt = -1 ∧ (prc hu en 0 b).toInt ≤ (sv b).toInt) → (n.toInt ≠ 0 ↔ (¬ lvb S a.toInt.toNat = true ∧ ∀ b : Nat, b < i.toInt.toNat + 1 → lvb S b = true → (st b).toInt = -1 ∧ (prc hu en 0 b).toInt ≤ (sv b).toInt)) := fun n e q => ⟨fun y => absurd e y, fun y => absurd y q⟩
    have cz : cn.toInt = 0 → ¬ (¬ lvb S a.toInt.toNat = true ∧ ∀ b : Nat, b < i.toInt.toNat + 1 → lvb S b = true → (st b).toInt = -1 ∧ (prc hu en 0 b).toInt ≤ (sv b).toInt) := fun e q => (hP2.mpr ⟨q.1, fun b hb => q.2 b (by omega)⟩) e
    have cy : cn.toInt ≠ 0 → (lvb S i.toInt.toNat = true → (st i.toInt.toNat).toInt = -1 ∧ (prc hu en 0 i.toInt.toNat).toInt ≤ (sv i.toInt.toNat).toInt) → ((1 : Int32).toInt ≠ 0 ↔ (¬ lvb S a.toInt.toNat = true ∧ ∀ b : Nat, b < i.toInt.toNat + 1 → lvb S b = true → (st b).toInt = -1 ∧ (prc hu en 0 b).toInt ≤ (sv b).toInt)) := fun e q => ⟨fun _ => ⟨(hP2.mp e).1, fun b hb y => by
      by_cases eb : b = i.toInt.toNat
      · rw [eb] at y ⊢; exact q y
      · exact (hP2.mp e).2 b (by omega) y⟩, fun _ => z1⟩
    dsimp only [T_j_isInDanger_32, R_j_isInDanger_s0] at hT
    rcases hT with ⟨ci, hT⟩ | ⟨ci, hT⟩
    · refine Or.inl ⟨ci, ?_⟩
      rcases hT with ⟨d, z, ez, hk⟩ | ⟨d, ⟨d2, z, ez, hk⟩ | ⟨d2, b2, e2, b3, hb3, ⟨d3, z, ez, hk⟩ | ⟨d3, e⟩⟩⟩
      · exact Or.inl ⟨d, z, ez, hk⟩
      · exact Or.inr ⟨d, Or.inl ⟨d2, z, ez, hk⟩⟩
      · have hb3 := ea_sp hX hac.2 hH ha hb3
        rw [hb3, e2] at d3
        exact Or.inr ⟨d, Or.inr ⟨d2, Or.inl ⟨d3, z, ez, hk⟩⟩⟩
      · have hb3 := ea_sp hX hac.2 hH ha hb3
        rw [hb3, e2] at d3
        exact Or.inr ⟨d, Or.inr ⟨d2, Or.inr ⟨d3, e⟩⟩⟩
    · refine Or.inr ⟨ci, ?_⟩
      have i5 : 0 ≤ i.toInt ∧ i.toInt ≤ 5 := by clear hT; omega
      have ii : 0 ≤ i.toInt ∧ i.toInt < ac.toInt := ⟨hi.1, ci⟩
      rcases hT with ⟨d, b5, hb5, hT⟩ | ⟨d, b11, hb11, hT⟩
      · have hb5 := has_sp hS i5 hb5
        rcases hT with ⟨q, b6, e6, z, ez, hk⟩ | ⟨q, b8, hb8, b9, e9, z, ez, hk⟩
        · rcases hb5 with ⟨-, y⟩ | ⟨y, -⟩
          · rw [y] at q; exact absurd q (by decide)
          · rw [s0] at e6
            exact ⟨z, (0, b6), ez, ⟨by show b6 = _; rw [e6]; exact pz (by rw [y]; decide), no 0 z0 (cz d)⟩, hk⟩
        · rcases hb5 with ⟨y, -⟩ | ⟨-, y⟩
          · have hb8 := ea_sp hX hac.2 hH ii hb8
            exact ⟨z, (0, b9), ez, ⟨py y b8 b9 hb8 e9, no 0 z0 (cz d)⟩, hk⟩
          · rw [y] at q; exact absurd (by decide) q
      · have hb11 := has_sp hS i5 hb11
        rcases hT with ⟨q, b12, hb12, b13, e13, z, ez, hk⟩ | ⟨q, b0, hb0, hT⟩
        · rcases hb11 with ⟨-, y⟩ | ⟨y, -⟩
          · rw [y] at q; exact absurd q (by decide)
          · rw [s0] at e13
            exact ⟨z, (1, b13), ez, ⟨by show b13 = _; rw [e13]; exact pz (by rw [y]; decide), cy d (fun y2 => by rw [y] at y2; exact absurd y2 (by decide))⟩, hk⟩
        · have yb : lvb S i.toInt.toNat = true := by
            rcases hb11 with ⟨y, -⟩ | ⟨-, y⟩
            · exact y
            · rw [y] at q; exact absurd (by decide) q
          have hb0 := jlv hac hL ii hb0
          rcases hT with ⟨q0, b1, hb1, b2, hb2, b3, e3, z, ez, hk⟩ | ⟨q0, b5, e5, b6, hb6, hT⟩
          · have hb2 := ea_sp hX hac.2 hH ii hb2
            refine ⟨z, (0, b3), ez, ⟨py yb b2 b3 hb2 e3, no 0 z0 (fun y => ?_)⟩, hk⟩
            rcases hb0 with ⟨-, w⟩ | ⟨nv, -⟩
            · rw [w] at q0; exact absurd q0 (by decide)
            · exact nv (y.2 _ (Nat.lt_succ_self _) yb).1
          · have hv : (st i.toInt.toNat).toInt = -1 := by
              rcases hb0 with ⟨v, -⟩ | ⟨-, w⟩
              · exact v
              · rw [w] at q0; exact absurd (by decide) q0
            have hb6 := ea_sp hX hac.2 hH ii hb6
            rw [mi_cl] at e5
            rw [e5, hb6] at hT
            rcases hT with ⟨d2, b7, hb7, b8, hb8, b9, e9, z, ez, hk⟩ | ⟨d2, b7, hb7, b8, hb8, b9, e9, z, ez, hk⟩
            · have hb8 := ea_sp hX hac.2 hH ii hb8
              refine ⟨z, (0, b9), ez, ⟨py yb b8 b9 hb8 e9, no 0 z0 (fun y => ?_)⟩, hk⟩
              exact absurd (y.2 _ (Nat.lt_succ_self _) yb).2 (Int.not_le.mpr d2)
            · have hb8 := ea_sp hX hac.2 hH ii hb8
              exact ⟨z, (1, b9), ez, ⟨py yb b8 b9 hb8 e9, cy d (fun _ => ⟨hv, d2⟩)⟩, hk⟩) ⟨rfl, ⟨fun q => ⟨hk0.mp q, fun b hb => by omega⟩, fun q => hk0.mpr q.1⟩⟩ h
  have hs1 : t = psum hu en S ac.toInt.toNat := hs.1
  have hs2 : k.toInt ≠ 0 ↔ (¬ lvb S a.toInt.toNat = true ∧ ∀ b : Nat, b < ac.toInt.toNat → lvb S b = true → (st b).toInt = -1 ∧ (prc hu en 0 b).toInt ≤ (sv b).toInt) := hs.2
  have hq : (k.toInt = 0 ∧ ∃ z : Int32, z = S + 1 ∧ Kp z) ∨ (k.toInt ≠ 0 ∧ ((c.toInt < t.toInt ∧ ∃ z : Int32, z = S + 1 ∧ Kp z) ∨ (t.toInt ≤ c.toInt ∧ (((prc hu en 0 a.toInt.toNat).toInt ≤ (c - t).toInt ∧ ∃ z : Int32, z = S + 1 ∧ Kp z) ∨ ((c - t).toInt < (prc hu en 0 a.toInt.toNat).toInt ∧ u = 1))))) := hq
  rw [hs1] at hq
  rcases hq with ⟨d, hz⟩ | ⟨d, ⟨d2, hz⟩ | ⟨d2, ⟨d3, hz⟩ | ⟨d3, e⟩⟩⟩
  · exact Or.inr ⟨fun y => (hs2.mpr ⟨y.1, fun b hb => y.2.1 b (by omega)⟩) d, hz⟩
  · exact Or.inr ⟨fun y => absurd y.2.2.1 (Int.not_le.mpr d2), hz⟩
  · exact Or.inr ⟨fun y => absurd d3 (Int.not_le.mpr y.2.2.2), hz⟩
  · exact Or.inl ⟨e, (hs2.mp d).1, fun b hb => (hs2.mp d).2 b (by omega), d2, d3⟩
theorem ind_y {ac a c X en L u : Int32} {D sv hu st : Nat → Int32} (hX : 0 ≤ X.toInt ∧ X.toInt ≤ 1) (hac : 0 ≤ ac.toInt ∧ ac.toInt ≤ 6) (hH : ∀ i : Nat, (i : Int) < ac.toInt → D (36 * X.toInt.toNat + (16 + 2 * i)) = hu i) (hL : Lvs ac L st) (ha : 0 ≤ a.toInt ∧ a.toInt < ac.toInt) (h : R_j_isInDanger ac a c X D en L sv u) : (u = 1 ∧ ∃ S : Int32, (0 ≤ S.toInt ∧ S.toInt < ((1 : Int32) <<< (ac &&& 31)).toInt) ∧ InS ac st hu en sv c S a.toInt.toNat) ∨ (u = 0 ∧ ¬ ∃ S : Int32, (0 ≤ S.toInt ∧ S.toInt < ((1 : Int32) <<< (ac &&& 31)).toInt) ∧ InS ac st hu en sv c S a.toInt.toNat) := by
  have pr := p2_rng hac
  have key : ∀ (N : Nat) (l : Int32), fx (T_j_isInDanger_2 ac a c X D en L sv u) N l → (0 ≤ l.toInt ∧ l.toInt ≤ ((1 : Int32) <<< (ac &&& 31)).toInt) → (∀ S : Int32, (0 ≤ S.toInt ∧ S.toInt < l.toInt) → ¬ InS ac st hu en sv c S a.toInt.toNat) → (u = 1 ∧ ∃ S : Int32, (0 ≤ S.toInt ∧ S.toInt < ((1 : Int32) <<< (ac &&& 31)).toInt) ∧ InS ac st hu en sv c S a.toInt.toNat) ∨ (u = 0 ∧ ¬ ∃ S : Int32, (0 ≤ S.toInt ∧ S.toInt < ((1 : Int32) <<< (ac &&& 31)).toInt) ∧ InS ac st hu en sv c S a.toInt.toNat) := by
    intro N
    induction N with
    | zero => intro l h; exact h.elim
    | succ N ih =>
      intro l h hl hN
      have f1 : l.toInt < ((1 : Int32) <<< (ac &&& 31)).toInt → 0 ≤ l.toInt ∧ l.toInt ≤ 63 := fun _ => by clear h; omega
      have f2 : l.toInt < ((1 : Int32) <<< (ac &&& 31)).toInt → ∀ z : Int32, z = l + 1 → (0 ≤ z.toInt ∧ z.toInt ≤ ((1 : Int32) <<< (ac &&& 31)).toInt) ∧ z.toInt = l.toInt + 1 := fun _ z ez => by
        have g : z.toInt = l.toInt + 1 := by rw [ez]; exact mi_addc (by decide) (by clear h; omega) (by clear h; omega)
        clear h
        omega
      have a5 : 0 ≤ a.toInt ∧ a.toInt ≤ 5 := by clear h; omega
      have f3 : l.toInt < ((1 : Int32) <<< (ac &&& 31)).toInt → ((u = 1 ∧ InS ac st hu en sv c l a.toInt.toNat) ∨ (¬ InS ac st hu en sv c l a.toInt.toNat ∧ ∃ z : Int32, z = l + 1 ∧ fx (T_j_isInDanger_2 ac a c X D en L sv u) N z)) → (u = 1 ∧ ∃ S : Int32, (0 ≤ S.toInt ∧ S.toInt < ((1 : Int32) <<< (ac &&& 31)).toInt) ∧ InS ac st hu en sv c S a.toInt.toNat) ∨ (u = 0 ∧ ¬ ∃ S : Int32, (0 ≤ S.toInt ∧ S.toInt < ((1 : Int32) <<< (ac &&& 31)).toInt) ∧ InS ac st hu en sv c S a.toInt.toNat) := fun cl hh => by
        rcases hh with ⟨e, y⟩ | ⟨ny, z, ez, hk⟩
        · exact Or.inl ⟨e, l, ⟨hl.1, cl⟩, y⟩
        · have g := f2 cl z ez
          refine ih z hk g.1 (fun S hS => ?_)
          by_cases eS : S.toInt = l.toInt
          · rw [mi_eq eS]; exact ny
          · exact hN S (by clear h hk; omega)
      replace h := fx_o h
      dsimp only [T_j_isInDanger_2] at h
      obtain ⟨b0, e0, h⟩ := h
      rw [e0] at h
      rcases h with ⟨cl, e⟩ | ⟨cl, b1, hb1, h⟩
      · refine Or.inr ⟨e, ?_⟩
        rintro ⟨S, hS, y⟩
        exact hN S ⟨hS.1, Int.lt_of_lt_of_le hS.2 cl⟩ y
      · have hb1 := has_sp (f1 cl) a5 hb1
        rcases h with ⟨q, h⟩ | ⟨q, h⟩
        · refine f3 cl (ind_in hX hac hH hL ha (f1 cl) (k0 := 0) ?_ h)
          rcases hb1 with ⟨y, -⟩ | ⟨-, y⟩
          · exact ⟨fun w => absurd (by decide) w, fun w => absurd y w⟩
          · rw [y] at q; exact absurd (by decide) q
        · refine f3 cl (ind_in hX hac hH hL ha (f1 cl) (k0 := 1) ?_ h)
          rcases hb1 with ⟨-, y⟩ | ⟨y, -⟩
          · rw [y] at q; exact absurd q (by decide)
          · exact ⟨fun _ => by rw [y]; decide, fun _ => by decide⟩
  exact key _ _ h ⟨by decide, by have z : (0 : Int32).toInt = 0 := (by decide); rw [z]; omega⟩ (fun S hS => by have z : (0 : Int32).toInt = 0 := (by decide); rw [z] at hS; omega)
/-- run -/
theorem psum_rng {hu : Nat → Int32} {en S : Int32} {ac : Int32} (hac : 0 ≤ ac.toInt ∧ ac.toInt ≤ 6) (hp : ∀ b : Nat, (b : Int) < ac.toInt → 0 ≤ (prc hu en 0 b).toInt ∧ (prc hu en 0 b).toInt ≤ 160) : 0 ≤ (psum hu en S ac.toInt.toNat).toInt ∧ (psum hu en S ac.toInt.toNat).toInt ≤ 960 := by
  have z : (0 : Int32).toInt = 0 := by decide
  have q := rs_rng (f := fun a => if lvb S a = true then prc hu en 0 a else 0) (m := 160) (by decide) ac.toInt.toNat (by omega) (fun b hb => by
    have := hp b (by omega)
    show 0 ≤ (if _ then _ else _ : Int32).toInt ∧ (if _ then _ else _ : Int32).toInt ≤ 160
    split <;> omega)
  exact ⟨q.1, by have := q.2.1; unfold psum; omega⟩
theorem psum_mem {hu : Nat → Int32} {en S : Int32} : ∀ n : Nat, n ≤ 6 → (∀ b : Nat, b < n → 0 ≤ (prc hu en 0 b).toInt ∧ (prc hu en 0 b).toInt ≤ 160) → ∀ b : Nat, b < n → lvb S b = true → (prc hu en 0 b).toInt ≤ (psum hu en S n).toInt := by
  intro n
  induction n with
  | zero => intro _ _ b hb; omega
  | succ n ih =>
    intro h6 hp b hb y
    have z : (0 : Int32).toInt = 0 := by decide
    have pn := hp n (by omega)
    have q := rs_rng (f := fun a => if lvb S a = true then prc hu en 0 a else 0) (m := 160) (by decide) n (by omega) (fun b hb => by
      have := hp b (by omega)
      show 0 ≤ (if _ then _ else _ : Int32).toInt ∧ (if _ then _ else _ : Int32).toInt ≤ 160
      split <;> omega)
    have q1 : 0 ≤ (psum hu en S n).toInt ∧ (psum hu en S n).toInt ≤ 960 := ⟨q.1, by have := q.2.1; unfold psum; omega⟩
    have e : psum hu en S (n + 1) = psum hu en S n + (if lvb S n = true then prc hu en 0 n else 0) := rfl
    have t : 0 ≤ (if lvb S n = true then prc hu en 0 n else 0 : Int32).toInt ∧ (if lvb S n = true then prc hu en 0 n else 0 : Int32).toInt ≤ 160 := by split <;> omega
    rw [e, mi_add (by omega) (by omega)]
    by_cases eb : b = n
    · subst eb; rw [if_pos y] at t ⊢; omega
    · have := ih (by omega) (fun b hb => hp b (by omega)) b (by omega) y
      omega
theorem run_eqv {ac en c : Int32} {st sv hu : Nat → Int32} {j : Nat} (hac : 0 ≤ ac.toInt ∧ ac.toInt ≤ 6) (hc : 0 ≤ c.toInt ∧ c.toInt ≤ 1000000) (hp : ∀ b : Nat, (b : Int) < ac.toInt → 0 ≤ (prc hu en 0 b).toInt ∧ (prc hu en 0 b).toInt ≤ 160) (hA : Abl ac st hu en sv c j) : (∃ S : Int32, (0 ≤ S.toInt ∧ S.toInt < 64) ∧ OkSt ac st hu en sv c S j) ↔ ∃ S : Int32, (0 ≤ S.toInt ∧ S.toInt < ((1 : Int32) <<< (ac &&& 31)).toInt) ∧ InS ac st hu en sv c S j := by
  have pr := p2_rng hac
  constructor
  · rintro ⟨S, hS, h1, h2, h3, h4, h5⟩
    have ps := psum_rng (S := S) hac hp
    have gs : (c - psum hu en S ac.toInt.toNat).toInt = c.toInt - (psum hu en S ac.toInt.toNat).toInt := mi_sub (by omega) (by omega)
    refine ⟨S, ⟨hS.1, (p2_lt hac (by omega)).mpr (fun b hb y => (h1 b hb y).1.1)⟩, h4, fun b hb y => ?_, by omega, h5.2⟩
    have q := h1 b (by omega) y
    refine ⟨q.1.2, ?_⟩
    by_cases k : (prc hu en 0 b).toInt ≤ (sv b).toInt
    · exact k
    · exact absurd (Or.inl (Int.not_le.mp k)) q.2
  · rintro ⟨S, hS, h1, h2, h3, h4⟩
    have ps := psum_rng (S := S) hac hp
    have gs : (c - psum hu en S ac.toInt.toNat).toInt = c.toInt - (psum hu en S ac.toInt.toNat).toInt := mi_sub (by omega) (by omega)
    have hb6 := (p2_lt (S := S) hac (by omega)).mp hS.2
    refine ⟨S, by omega, fun b hb y => ?_, by omega, hA, h1, hA.1.1, h4⟩
    have ba := hb6 b hb y
    have q := h2 b ba y
    refine ⟨⟨ba, q.1⟩, ?_⟩
    rintro (k | k)
    · exact absurd q.2 (Int.not_le.mpr k)
    · have m := psum_mem (S := S) (hu := hu) (en := en) ac.toInt.toNat (by omega) (fun b hb => hp b (by omega)) b (by omega) y
      exact absurd h3 (by omega)
theorem jdm_sp {a c X en u ac : Int32} {D sv hu : Nat → Int32} (hX : 0 ≤ X.toInt ∧ X.toInt ≤ 1) (hac : 0 ≤ ac.toInt ∧ ac.toInt ≤ 6) (hH : ∀ i : Nat, (i : Int) < ac.toInt → D (36 * X.toInt.toNat + (16 + 2 * i)) = hu i) (ha : 0 ≤ a.toInt ∧ a.toInt < ac.toInt) (h : R_j_isDoomed sv a X D en c u) : (u = 1 ∧ DmO hu en sv c a.toInt.toNat) ∨ (u = 0 ∧ ¬ DmO hu en sv c a.toInt.toNat) := by
  obtain ⟨z1, e1, r2, h2, h⟩ := h
  have h2 := ea_sp hX hac.2 hH ha h2
  rw [mi_cl] at e1
  rw [e1, h2] at h
  rcases h with ⟨d, e⟩ | ⟨d, r7, h7, h⟩
  · exact Or.inl ⟨e, Or.inl d⟩
  · have h7 := ea_sp hX hac.2 hH ha h7
    rw [h7] at h
    rcases h with ⟨d2, e⟩ | ⟨d2, e⟩
    · refine Or.inr ⟨e, ?_⟩
      rintro (k | k)
      · exact absurd d (Int.not_le.mpr k)
      · exact absurd d2 (Int.not_le.mpr k)
    · exact Or.inl ⟨e, Or.inr d2⟩
def RnO (ac : Int32) (st hu : Nat → Int32) (en : Int32) (sv : Nat → Int32) (c f : Int32) (j : Nat) : Prop := (st j).toInt = -1 ∧ (DmO hu en sv c j ∨ (f.toInt = 1 ∧ ∃ S : Int32, (0 ≤ S.toInt ∧ S.toInt < ((1 : Int32) <<< (ac &&& 31)).toInt) ∧ InS ac st hu en sv c S j))
theorem run_y {ac X en c L f u : Int32} {D sv hu st : Nat → Int32} {P : Prop} {T : ((Int32 × Int32) → Prop) → (Int32 × Int32) → Prop} (hX : 0 ≤ X.toInt ∧ X.toInt ≤ 1) (hac : 0 ≤ ac.toInt ∧ ac.toInt ≤ 6) (hH : ∀ i : Nat, (i : Int) < ac.toInt → D (36 * X.toInt.toNat + (16 + 2 * i)) = hu i) (hL : Lvs ac L st) (hT : ∀ K i s, T K (i, s) → ((ac.toInt ≤ i.toInt) ∧ (u = s ∧ P)) ∨ (R_y_run_s0 i ac L s sv X D en c f K)) {N : Nat} (h : fx T N ((0 : Int32), (0 : Int32))) : Bts u (fun j => (j : Int) < ac.toInt ∧ RnO ac st hu en sv c f j) := by
  have o0 : ∀ x : Int32, x ||| 0 = x := fun x => Int32.or_zero
  obtain ⟨s, hs, e⟩ := loopP (n := ac) (P := fun k s => Bts s (fun j => j < k ∧ RnO ac st hu en sv c f j)) (Q := fun s => u = s) (by omega) (fun K i s hi hP hT2 => by
    have add : i.toInt < ac.toInt → RnO ac st hu en sv c f i.toInt.toNat → Bts (s ||| (1 : Int32) <<< (i &&& 31)) (fun j => j < i.toInt.toNat + 1 ∧ RnO ac st hu en sv c f j) := fun ci v => Bts_c (Bts_or1 hP (by clear hT2; omega)) (fun j hj => by
      constructor
      · rintro (⟨x, y⟩ | rfl)
        · exact ⟨by omega, y⟩
        · exact ⟨by omega, v⟩
      · rintro ⟨x, y⟩
        by_cases ej : j = i.toInt.toNat
        · exact Or.inr ej
        · exact Or.inl ⟨by omega, y⟩)
    have skip : ¬ RnO ac st hu en sv c f i.toInt.toNat → Bts s (fun j => j < i.toInt.toNat + 1 ∧ RnO ac st hu en sv c f j) := fun nv => Bts_c hP (fun j hj => by
      constructor
      · rintro ⟨x, y⟩; exact ⟨by omega, y⟩
      · rintro ⟨x, y⟩
        by_cases ej : j = i.toInt.toNat
        · rw [ej] at y; exact absurd y nv
        · exact ⟨by omega, y⟩)
    replace hT2 := hT K i s hT2
    rcases hT2 with ⟨ci, e, -⟩ | hT2
    · exact Or.inl ⟨ci, e⟩
    · obtain ⟨ci, b0, hl, hT2⟩ := hT2
      have ii : 0 ≤ i.toInt ∧ i.toInt < ac.toInt := ⟨hi.1, ci⟩
      have hl := jlv hac hL ii hl
      refine Or.inr ⟨ci, ?_⟩
      rcases hT2 with ⟨q, b1, e1, z, ez, hk⟩ | ⟨q, b3, hb3, hT2⟩
      · rw [o0] at e1
        refine ⟨z, b1, ez, ?_, hk⟩
        rw [e1]
        refine skip (fun y => ?_)
        rcases hl with ⟨-, w⟩ | ⟨nv, -⟩
        · rw [w] at q; exact absurd q (by decide)
        · exact nv y.1
      · have v : (st i.toInt.toNat).toInt = -1 := by
          rcases hl with ⟨v, -⟩ | ⟨-, w⟩
          · exact v
          · rw [w] at q; exact absurd (by decide) q
        have hb3 := jdm_sp hX hac hH ii hb3
        rcases hT2 with ⟨q3, b4, e4, b5, e5, z, ez, hk⟩ | ⟨q3, hT2⟩
        · refine ⟨z, b5, ez, ?_, hk⟩
          rw [e5, e4]
          refine add ci ⟨v, Or.inl ?_⟩
          rcases hb3 with ⟨-, y⟩ | ⟨w, -⟩
          · exact y
          · rw [w] at q3; exact absurd (by decide) q3
        · have nd : ¬ DmO hu en sv c i.toInt.toNat := by
            rcases hb3 with ⟨w, -⟩ | ⟨-, y⟩
            · rw [w] at q3; exact absurd q3 (by decide)
            · exact y
          rcases hT2 with ⟨q4, b7, e7, z, ez, hk⟩ | ⟨q4, b9, hb9, hT2⟩
          · rw [o0] at e7
            refine ⟨z, b7, ez, ?_, hk⟩
            rw [e7]
            refine skip (fun y => ?_)
            rcases y.2 with y | y
            · exact nd y
            · exact q4 y.1
          · have hb9 := ind_y hX hac hH hL ii hb9
            rcases hT2 with ⟨q5, b10, e10, z, ez, hk⟩ | ⟨q5, b12, e12, b13, e13, z, ez, hk⟩
            · rw [o0] at e10
              refine ⟨z, b10, ez, ?_, hk⟩
              rw [e10]
              refine skip (fun y => ?_)
              rcases y.2 with y | y
              · exact nd y
              · rcases hb9 with ⟨w, -⟩ | ⟨-, w⟩
                · rw [w] at q5; exact absurd q5 (by decide)
                · exact w y.2
            · refine ⟨z, b13, ez, ?_, hk⟩
              rw [e13, e12]
              refine add ci ⟨v, Or.inr ⟨q4, ?_⟩⟩
              rcases hb9 with ⟨-, w⟩ | ⟨w, -⟩
              · exact w
              · rw [w] at q5; exact absurd (by decide) q5) (Bts_c Bts_0 (fun j hj => ⟨fun q => q.elim, fun q => by omega⟩)) h
  rw [e]
  exact Bts_c hs (fun j hj => by
    constructor
    · rintro ⟨x, y⟩; exact ⟨by omega, y⟩
    · rintro ⟨x, y⟩; exact ⟨by omega, y⟩)
theorem DmO_c {hu : Nat → Int32} {en : Int32} {sv sv2 : Nat → Int32} {c : Int32} {a : Nat} (e : sv2 a = sv a) : DmO hu en sv2 c a ↔ DmO hu en sv c a := by
  unfold DmO
  rw [e]
theorem InS_c {ac : Int32} {st hu : Nat → Int32} {en : Int32} {sv sv2 : Nat → Int32} {c S : Int32} {a : Nat} (e : ∀ b : Nat, (b : Int) < ac.toInt → sv2 b = sv b) : InS ac st hu en sv2 c S a ↔ InS ac st hu en sv c S a := by
  unfold InS
  constructor
  · rintro ⟨x, y, z⟩; exact ⟨x, fun b hb q => by rw [← e b hb]; exact y b hb q, z⟩
  · rintro ⟨x, y, z⟩; exact ⟨x, fun b hb q => by rw [e b hb]; exact y b hb q, z⟩
theorem RnO_c {ac : Int32} {st hu : Nat → Int32} {en : Int32} {sv sv2 : Nat → Int32} {c f : Int32} {a : Nat} (ha : (a : Int) < ac.toInt) (e : ∀ b : Nat, (b : Int) < ac.toInt → sv2 b = sv b) : RnO ac st hu en sv2 c f a ↔ RnO ac st hu en sv c f a := by
  unfold RnO
  rw [DmO_c (e a ha)]
  constructor
  · rintro ⟨x, y | ⟨y, S, hS, w⟩⟩
    · exact ⟨x, Or.inl y⟩
    · exact ⟨x, Or.inr ⟨y, S, hS, (InS_c e).mp w⟩⟩
  · rintro ⟨x, y | ⟨y, S, hS, w⟩⟩
    · exact ⟨x, Or.inl y⟩
    · exact ⟨x, Or.inr ⟨y, S, hS, (InS_c e).mpr w⟩⟩
theorem run_core {a pa ac ra d : Int32} {D cl ha hu : Nat → Int32} {u1 u2 u3 u4 u5 u6 : Int32} {u7 u8 u9 u10 u11 u12 : Nat → Int32} {w1 w2 w3 w4 w5 w6 w7 w8 w9 w10 w11 : Int32} {w12 w13 w14 w15 w16 w17 : Nat → Int32} {c1 c2 c3 c4 c5 c6 c7 c8 c9 c10 c11 : Int32} {c12 c13 c14 c15 c16 c17 : Nat → Int32} {f r r2 : Int32} {P1 P2 : Prop} (hE : StE a pa ac ra d D cl ha hu u1 u2 u3 u4 u5 u6 u7 u8 u9 u10 u11 u12 w1 w2 w3 w4 w5 w6 w7 w8 w9 w10 w11 w12 w13 w14 w15 w16 w17) (hf : 0 ≤ f.toInt ∧ f.toInt ≤ 1) (hx : ((f.toInt ≠ 0) ∧ (∃ (b0_ : Int32), (R_k_danger ac u11 u10 hu u2 u1 b0_) ∧ (r = b0_ ∧ P1))) ∨ ((f.toInt = 0) ∧ (∃ (b1_ : Int32), (R_k_doomed ac u11 u10 hu u2 u1 b1_) ∧ (r = b1_ ∧ P2)))) (hy : fx (T_y_run_34 w3 w1 w2 w4 w5 w6 w7 w8 w9 w10 w11 w12 w13 w14 w15 w16 w17 D f r2 c1 c2 c3 c4 c5 c6 c7 c8 c9 c10 c11 c12 c13 c14 c15 c16 c17) 8 ((0 : Int32), (0 : Int32))) : r = r2 := by
  obtain ⟨hd, H, ⟨t1, t2, t3, t4⟩, ⟨s1, s2, s3, s4, s5, s6⟩, ⟨eL, eO, eG, eS, eSo, eSt⟩, hL, hB⟩ := hE
  obtain ⟨hX, hac, hpa, hC, hHa, hH, gC, gHa, gH, gR⟩ := H
  obtain ⟨bE, bN, bC, bS, bO, bL⟩ := hB
  have k30 : ((d.toInt.toNat : Nat) : Int) ≤ 30 := by clear hx hy; omega
  rw [t1, t3, s1, s2] at hy
  have hp : ∀ b : Nat, (b : Int) < ac.toInt → 0 ≤ (prc hu u2 0 b).toInt ∧ (prc hu u2 0 b).toInt ≤ 160 := fun b hb => prc_rng (gH b hb) ⟨bE.1, by clear hx hy; omega⟩
  have hy := run_y hX hac hH hL (fun K i s q => q) hy
  have hy : Bts r2 (fun j => (j : Int) < ac.toInt ∧ RnO ac u11 hu u2 u10 u1 f j) := Bts_c hy (fun j hj => ⟨fun q => ⟨q.1, (RnO_c q.1 eS).mp q.2⟩, fun q => ⟨q.1, (RnO_c q.1 eS).mpr q.2⟩⟩)
  rcases hx with ⟨f0, v, hv, e, -⟩ | ⟨f0, v, hv, e, -⟩
  · have f1 : f.toInt = 1 := by clear hv; omega
    have hv := danger_x hac hv
    rw [e]
    refine Bts_eq hv hy (fun j hj => ?_)
    constructor
    · rintro (⟨x, y, z⟩ | ⟨S, hS, y⟩)
      · exact ⟨x, y, Or.inl z⟩
      · exact ⟨y.2.2.1.1.1, y.2.2.1.1.2, Or.inr ⟨f1, (run_eqv hac (by omega) hp y.2.2.1).mp ⟨S, hS, y⟩⟩⟩
    · rintro ⟨x, y, z⟩
      by_cases dm : DmO hu u2 u10 u1 j
      · exact Or.inl ⟨x, y, dm⟩
      · rcases z with z | ⟨-, z⟩
        · exact absurd z dm
        · exact Or.inr ((run_eqv hac (by omega) hp ⟨⟨x, y⟩, dm⟩).mpr z)
  · have hv := doomed_x hac hv
    rw [e]
    refine Bts_eq hv hy (fun j hj => ?_)
    constructor
    · rintro ⟨x, y, z⟩; exact ⟨x, y, Or.inl z⟩
    · rintro ⟨x, y, z⟩
      rcases z with z | ⟨z, -⟩
      · exact ⟨x, y, z⟩
      · rw [f0] at z; exact absurd z (by decide)
theorem run_sim {TN : Nat → Int32} {TF M : Nat → Nat → Int32} (h : TLg 0 TN TF M) (hr3 : 0 ≤ (TN 3).toInt ∧ (TN 3).toInt ≤ 2) (hr4 : 0 ≤ (TN 4).toInt ∧ (TN 4).toInt ≤ 2) {x0 x1 x2 x3 r r2 : Int32} (hx : S_x_run TN TF x0 x1 x2 x3 r) (hy : S_y_run M x0 x1 x2 x3 r2) : r = r2 := by
  obtain ⟨_, _, _, _, _, _, _, _, rst_⟩ := hx
  obtain ⟨_, _, _, _, _, _, _, _, rst_⟩ := rst_
  obtain ⟨_, _, _, _, _, _, _, _, hx⟩ := rst_
  obtain ⟨_, _, _, _, _, _, _, _, rst_⟩ := hy
  obtain ⟨_, _, _, _, _, _, _, _, rst_⟩ := rst_
  obtain ⟨_, _, _, _, _, _, _, _, rst_⟩ := rst_
  obtain ⟨_, _, _, _, _, _, _, _, rst_⟩ := rst_
  obtain ⟨_, _, _, hy, hc⟩ := rst_
  obtain ⟨q, m0, m1, m2, m3, m4, m5, m6, rst_⟩ := hy
  obtain ⟨m7, m8, m9, m10, m11, m12, m13, m14, rst_⟩ := rst_
  obtain ⟨m15, m16, hl, hy⟩ := rst_
  have z0 : ¬ ((0 : Int32).toInt ≠ 0) := by decide
  have z1 : ¬ ((1 : Int32).toInt = 0) := by decide
  have out : (x3.toInt < 0 ∨ 1 < x3.toInt) → r2 = -2 := fun ho => by
    clear hx hl
    rcases hy with ⟨-, e, -⟩ | ⟨-, v, hv, ⟨g, -⟩ | ⟨-, e, -⟩⟩
    · exact e
    · have hv := in_sp hv
      rcases hv with ⟨-, y⟩ | ⟨y, -⟩
      · exact absurd ho (by omega)
      · rw [g] at y; exact absurd y (by decide)
    · exact e
  rcases hx with ⟨c, e, -⟩ | ⟨c, ⟨c2, e, -⟩ | ⟨c2, hx⟩⟩
  · rw [e, out (Or.inl c)]
  · rw [e, out (Or.inr c2)]
  · obtain ⟨p, n0, n1, n2, n3, n4, n5, n6, rst_⟩ := hx
    obtain ⟨n7, n8, n9, n10, n11, hk, hx⟩ := rst_
    have hs := reach_sim h hr3 hr4 rfl rfl (by clear hk hl hx hy out; omega) hk hl
    clear hk hl
    rcases hs with ⟨p0, q0⟩ | ⟨p1, q1, hs⟩
    · have ex : r = -2 := by
        rcases hx with hx | hx | ⟨-, e, -⟩
        · rcases hx.2 with ⟨c, -⟩ | ⟨-, e, -⟩
          · rw [p0] at c; exact absurd c z0
          · exact e
        · rcases hx.2 with ⟨c, -⟩ | ⟨-, e, -⟩
          · rw [p0] at c; exact absurd c z0
          · exact e
        · exact e
      rcases hy with ⟨-, e, -⟩ | ⟨c, -⟩
      · rw [ex, e]
      · rw [q0] at c; exact absurd c z0
    · rcases hy with ⟨c, -⟩ | ⟨-, v, hv, hy⟩
      · rw [q1] at c; exact absurd c z1
      · have hv := in_sp hv
        rcases hy with ⟨-, hy⟩ | ⟨g, -⟩
        · rcases hs with ⟨ca, hs⟩ | ⟨ca, hs⟩
          · rcases hx with hx | hx | ⟨c, -⟩
            · rcases hx.2 with ⟨-, hx⟩ | ⟨c, -⟩
              · exact run_core hs ⟨c, c2⟩ hx hy
              · rw [p1] at c; exact absurd c z1
            · exact absurd ca hx.1
            · rw [p1] at c; exact absurd c z1
          · rcases hx with hx | hx | ⟨c, -⟩
            · have cb := hx.1; rw [cb] at ca; exact absurd ca (by decide)
            · rcases hx.2 with ⟨-, hx⟩ | ⟨c, -⟩
              · exact run_core hs ⟨c, c2⟩ hx hy
              · rw [p1] at c; exact absurd c z1
            · rw [p1] at c; exact absurd c z1
        · rcases hv with ⟨y, -⟩ | ⟨-, y⟩
          · rw [g] at y; exact absurd y (by decide)
          · rcases y with y | y
            · exact absurd c (Int.not_le.mpr y)
            · exact absurd c2 (Int.not_le.mpr y)
