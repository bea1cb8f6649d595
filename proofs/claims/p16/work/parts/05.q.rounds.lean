/-! rounds of the usurers (DRAFT: never compiled) -/
def chz (a : Nat → Int32) : Nat → Nat
  | 0 => 0
  | n + 1 => if n = 0 then 0 else if (a n).toInt < (a (chz a n)).toInt then n else chz a n
theorem chz_1 (a : Nat → Int32) : chz a 1 = 0 := if_pos rfl
theorem chz_s (a : Nat → Int32) {n : Nat} (h : n ≠ 0) : chz a (n + 1) = if (a n).toInt < (a (chz a n)).toInt then n else chz a n := if_neg h
theorem chz_lt (a : Nat → Int32) : ∀ n : Nat, 1 ≤ n → chz a n < n := by
  intro n
  induction n with
  | zero => intro h; omega
  | succ n ih =>
    intro _
    by_cases h : n = 0
    · subst h; rw [chz_1]; omega
    · rw [chz_s a h]
      have := ih (by omega)
      split <;> omega
theorem chz_c {a b : Nat → Int32} : ∀ n : Nat, (∀ u : Nat, u < n → a u = b u) → chz a n = chz b n := by
  intro n
  induction n with
  | zero => intro _; rfl
  | succ n ih =>
    intro h
    by_cases h0 : n = 0
    · subst h0; rw [chz_1, chz_1]
    · have e := ih (fun u hu => h u (by omega))
      have l := chz_lt b n (by omega)
      rw [chz_s a h0, chz_s b h0, e, h n (by omega), h (chz b n) (by omega)]
def nxt (us : Nat) (bo : Int32) (fl a : Nat → Int32) (u : Nat) : Int32 := if 0 < bo.toInt ∧ u = chz a us then (if a u + 1 < 30 then a u + 1 else 30) else (if fl u < a u - 1 then a u - 1 else fl u)
def itr (us : Nat) (bo : Int32) (fl a : Nat → Int32) : Nat → Nat → Int32
  | 0 => a
  | k + 1 => nxt us bo fl (itr us bo fl a k)
def gnx (us : Nat) (bo : Int32) (a g : Nat → Int32) (u : Nat) : Int32 := if 0 < bo.toInt ∧ u = chz a us then g u + bo * a u else g u
def gnr (us : Nat) (bo : Int32) (fl a : Nat → Int32) : Nat → Nat → Int32
  | 0 => fun _ => 0
  | k + 1 => gnx us bo (itr us bo fl a k) (gnr us bo fl a k)
theorem nxt_c {us : Nat} {bo : Int32} {fl fl2 a b : Nat → Int32} (h : ∀ u : Nat, u < us → a u = b u) (hf : ∀ u : Nat, u < us → fl u = fl2 u) {u : Nat} (hu : u < us) : nxt us bo fl a u = nxt us bo fl2 b u := by
  unfold nxt
  rw [chz_c us h, h u hu, hf u hu]
theorem gnx_c {us : Nat} {bo : Int32} {a b g k : Nat → Int32} (h : ∀ u : Nat, u < us → a u = b u) (hg : ∀ u : Nat, u < us → g u = k u) {u : Nat} (hu : u < us) : gnx us bo a g u = gnx us bo b k u := by
  unfold gnx
  rw [chz_c us h, h u hu, hg u hu]
theorem itr_c {us : Nat} {bo : Int32} {fl fl2 a b : Nat → Int32} (h : ∀ u : Nat, u < us → a u = b u) (hf : ∀ u : Nat, u < us → fl u = fl2 u) : ∀ k u : Nat, u < us → itr us bo fl a k u = itr us bo fl2 b k u := by
  intro k
  induction k with
  | zero => exact h
  | succ k ih => intro u hu; exact nxt_c ih hf hu
theorem gnr_c {us : Nat} {bo : Int32} {fl fl2 a b : Nat → Int32} (h : ∀ u : Nat, u < us → a u = b u) (hf : ∀ u : Nat, u < us → fl u = fl2 u) : ∀ k u : Nat, u < us → gnr us bo fl a k u = gnr us bo fl2 b k u := by
  intro k
  induction k with
  | zero => intro u _; rfl
  | succ k ih => intro u hu; exact gnx_c (itr_c h hf k) ih hu
/-! the class -/
theorem cheap_sp {us r : Int32} {a : Nat → Int32} (hu : 0 ≤ us.toInt ∧ us.toInt ≤ 4) (h : R_k_cheapest us a r) : r.toInt = chz a us.toInt.toNat := by
  have key : ∀ (N : Nat) (l c : Int32), fx (T_k_cheapest_4 us a r) N (l, c) → 1 ≤ l.toInt → (l.toInt ≤ us.toInt ∨ l.toInt = 1) → c.toInt = chz a l.toInt.toNat → r.toInt = chz a us.toInt.toNat := by
    intro N
    induction N with
    | zero => intro l c h; exact h.elim
    | succ N ih =>
      intro l c h h1 h2 hc
      replace h := fx_o h
      dsimp only [T_k_cheapest_4] at h
      rcases h with ⟨c1, e⟩ | ⟨c1, b0, e0, b1, e1, h⟩
      · rw [e, hc]
        by_cases q : us.toInt = 0
        · rw [q, show l.toInt.toNat = 1 from by omega, chz_1]; rfl
        · rw [show l.toInt.toNat = us.toInt.toNat from by omega]
      · have il : Int32.toNatClampNeg l = l.toInt.toNat := mi_cl l
        have ic : Int32.toNatClampNeg c = chz a l.toInt.toNat := by rw [mi_cl, hc]; rfl
        have es := chz_s a (n := l.toInt.toNat) (by omega)
        rw [il] at e0
        rw [ic] at e1
        rcases h with ⟨c2, b2, e2, h⟩ | ⟨c2, b2, e2, h⟩
        · have g2 : b2.toInt = l.toInt + 1 := by rw [e2]; exact mi_addc (by decide) (by omega) (by omega)
          refine ih b2 c h (by omega) (by omega) ?_
          rw [g2, show (l.toInt + 1).toNat = l.toInt.toNat + 1 from by omega, es, if_neg (by rw [← e0, ← e1]; omega), hc]
        · have g2 : b2.toInt = l.toInt + 1 := by rw [e2]; exact mi_addc (by decide) (by omega) (by omega)
          refine ih b2 l h (by omega) (by omega) ?_
          rw [g2, show (l.toInt + 1).toNat = l.toInt.toNat + 1 from by omega, es, if_pos (by rw [← e0, ← e1]; omega)]
          omega
  exact key _ _ _ h (by decide) (Or.inr (by decide)) (by rw [show (1 : Int32).toInt.toNat = 1 from by decide, chz_1]; decide)
theorem goRound_sp {bo us : Int32} {fl a g u0 u1 : Nat → Int32} (hu : 0 ≤ us.toInt ∧ us.toInt ≤ 4) (h : R_k_goRound bo us fl a g u0 u1) : ∀ u : Nat, u < us.toInt.toNat → u0 u = nxt us.toInt.toNat bo fl a u ∧ u1 u = gnx us.toInt.toNat bo a g u := by
  rcases h with ⟨cb, h⟩ | ⟨cb, q, hq, h⟩
  · have key : ∀ (N : Nat) (l : Int32) (A G : Nat → Int32), fx (T_k_goRound_18 us fl u0 u1) N (l, A, G) → (0 ≤ l.toInt ∧ l.toInt ≤ us.toInt) → (∀ u : Nat, (u : Int) < l.toInt → A u = nxt us.toInt.toNat bo fl a u) → (∀ u : Nat, l.toInt ≤ u → A u = a u) → G = g → ∀ u : Nat, u < us.toInt.toNat → u0 u = nxt us.toInt.toNat bo fl a u ∧ u1 u = gnx us.toInt.toNat bo a g u := by
      intro N
      induction N with
      | zero => intro l A G h; exact h.elim
      | succ N ih =>
        intro l A G h hl hA hB hG
        replace h := fx_o h
        dsimp only [T_k_goRound_18] at h
        rcases h with ⟨c, e, e'⟩ | ⟨c, b0, e0, b1, e1, b2, e2, b3, e3, b4, e4, b5, e5, h⟩
        · intro u hu2
          refine ⟨by rw [e]; exact hA u (by omega), ?_⟩
          rw [e', hG]; unfold gnx; rw [if_neg (by omega)]
        · have g5 : b5.toInt = l.toInt + 1 := by rw [e5]; exact mi_addc (by decide) (by omega) (by omega)
          refine ih b5 b4 G h (by omega) (fun u hu2 => ?_) (fun u hu2 => ?_) hG
          · rw [← e4, mi_cl]
            by_cases k : u = l.toInt.toNat
            · rw [k, up_eq, e3, e2, e1, e0, mi_cl, hB _ (by omega)]; unfold nxt; rw [if_neg (show ¬ (0 < bo.toInt ∧ l.toInt.toNat = chz a us.toInt.toNat) from by omega)]
            · rw [up_ne k]; exact hA u (by omega)
          · rw [← e4, mi_cl, up_ne (by omega)]; exact hB u (by omega)
    exact key _ _ _ _ h ⟨by decide, hu.1⟩ (fun u hu2 => absurd hu2 (by have : (0 : Int32).toInt = 0 := (by decide); omega)) (fun _ _ => rfl) rfl
  · have hq := cheap_sp hu hq
    have key : ∀ (N : Nat) (l : Int32) (A G : Nat → Int32), fx (T_k_goRound_18b us q fl bo u0 u1) N (l, A, G) → (0 ≤ l.toInt ∧ l.toInt ≤ us.toInt) → (∀ u : Nat, (u : Int) < l.toInt → A u = nxt us.toInt.toNat bo fl a u ∧ G u = gnx us.toInt.toNat bo a g u) → (∀ u : Nat, l.toInt ≤ u → A u = a u ∧ G u = g u) → ∀ u : Nat, u < us.toInt.toNat → u0 u = nxt us.toInt.toNat bo fl a u ∧ u1 u = gnx us.toInt.toNat bo a g u := by
      intro N
      induction N with
      | zero => intro l A G h; exact h.elim
      | succ N ih =>
        intro l A G h hl hA hB
        replace h := fx_o h
        dsimp only [T_k_goRound_18b] at h
        rcases h with ⟨c, e, e'⟩ | ⟨c, ⟨c2, b0, e0, b1, e1, b2, e2, b3, e3, b4, e4, b5, e5, h⟩ | ⟨c2, b6, e6, b7, e7, b8, e8, b9, e9, b10, e10, b11, e11, b12, e12, b13, e13, b14, e14, b15, e15, h⟩⟩
        · intro u hu2
          rw [e, e']; exact hA u (by omega)
        · have g5 : b5.toInt = l.toInt + 1 := by rw [e5]; exact mi_addc (by decide) (by omega) (by omega)
          refine ih b5 b4 G h (by omega) (fun u hu2 => ?_) (fun u hu2 => ?_)
          · rw [← e4, mi_cl]
            by_cases k : u = l.toInt.toNat
            · have hn : ¬ (0 < bo.toInt ∧ l.toInt.toNat = chz a us.toInt.toNat) := by omega
              have hb := hB l.toInt.toNat (by omega)
              rw [k, up_eq, e3, e2, e1, e0, mi_cl, hb.1, hb.2]; unfold nxt gnx; rw [if_neg hn, if_neg hn]; exact ⟨rfl, rfl⟩
            · rw [up_ne k]; exact hA u (by omega)
          · rw [← e4, mi_cl, up_ne (by omega)]; exact hB u (by omega)
        · have g5 : b15.toInt = l.toInt + 1 := by rw [e15]; exact mi_addc (by decide) (by omega) (by omega)
          refine ih b15 b14 b10 h (by omega) (fun u hu2 => ?_) (fun u hu2 => ?_)
          · rw [← e14, ← e10, mi_cl]
            by_cases k : u = l.toInt.toNat
            · have hn : 0 < bo.toInt ∧ l.toInt.toNat = chz a us.toInt.toNat := by omega
              have hb := hB l.toInt.toNat (by omega)
              rw [k, up_eq, up_eq, e13, e12, e11, e9, e8, e7, e6, mi_cl, hb.1, hb.2]; unfold nxt gnx; rw [if_pos hn, if_pos hn]; exact ⟨rfl, rfl⟩
            · rw [up_ne k, up_ne k]; exact hA u (by omega)
          · rw [← e14, ← e10, mi_cl, up_ne (by omega), up_ne (by omega)]; exact hB u (by omega)
    exact key _ _ _ _ h ⟨by decide, hu.1⟩ (fun u hu2 => absurd hu2 (by have : (0 : Int32).toInt = 0 := (by decide); omega)) (fun _ _ => ⟨rfl, rfl⟩)
theorem lend_sp {d us bo r r1 r2 : Int32} {fl fl0 a a0 g0 u3 u4 u5 : Nat → Int32} (hu : 0 ≤ us.toInt ∧ us.toInt ≤ 4) (hd : 0 ≤ d.toInt ∧ d.toInt ≤ 200) (ha : ∀ u : Nat, u < 4 → a u = a0 u) (hf : ∀ u : Nat, u < 4 → fl u = fl0 u) (hg : ∀ u : Nat, u < 4 → g0 u = 0) {N : Nat} (h : fx (T_k_lendFor_53 d us bo fl r r1 r2 u3 u4 u5) N ((0 : Int32), a, g0)) : r = 1 ∧ ∀ u : Nat, u < us.toInt.toNat → u3 u = itr us.toInt.toNat bo fl0 a0 d.toInt.toNat u ∧ u5 u = gnr us.toInt.toNat bo fl0 a0 d.toInt.toNat u := by
  have key : ∀ (N : Nat) (l : Int32) (A G : Nat → Int32), fx (T_k_lendFor_53 d us bo fl r r1 r2 u3 u4 u5) N (l, A, G) → (0 ≤ l.toInt ∧ l.toInt ≤ d.toInt) → (∀ u : Nat, u < us.toInt.toNat → A u = itr us.toInt.toNat bo fl0 a0 l.toInt.toNat u ∧ G u = gnr us.toInt.toNat bo fl0 a0 l.toInt.toNat u) → r = 1 ∧ ∀ u : Nat, u < us.toInt.toNat → u3 u = itr us.toInt.toNat bo fl0 a0 d.toInt.toNat u ∧ u5 u = gnr us.toInt.toNat bo fl0 a0 d.toInt.toNat u := by
    intro N
    induction N with
    | zero => intro l A G h; exact h.elim
    | succ N ih =>
      intro l A G h hl hA
      replace h := fx_o h
      dsimp only [T_k_lendFor_53] at h
      rcases h with ⟨c, e, -, -, e3, -, e5⟩ | ⟨c, b0, b1, hr, b2, e2, h⟩
      · refine ⟨e, fun u hu2 => ?_⟩
        rw [e3, e5, show d.toInt.toNat = l.toInt.toNat from by omega]
        exact hA u hu2
      · have g2 : b2.toInt = l.toInt + 1 := by rw [e2]; exact mi_addc (by decide) (by omega) (by omega)
        have hr := goRound_sp hu hr
        refine ih b2 b0 b1 h (by omega) (fun u hu2 => ?_)
        rw [g2, show (l.toInt + 1).toNat = l.toInt.toNat + 1 from by omega]
        refine ⟨(hr u hu2).1.trans ?_, (hr u hu2).2.trans ?_⟩
        · exact nxt_c (fun u hu3 => (hA u hu3).1) (fun u hu3 => hf u (by omega)) hu2
        · exact gnx_c (fun u hu3 => (hA u hu3).1) (fun u hu3 => (hA u hu3).2) hu2
  have z0 : (0 : Int32).toInt.toNat = 0 := by decide
  refine key N _ _ _ h ⟨by decide, hd.1⟩ (fun u hu2 => ?_)
  rw [z0]
  exact ⟨ha u (by omega), hg u (by omega)⟩
theorem fill4_sp {v : Int32} {f g : Nat → Int32} (h : R_fill_4 v f g) : ∀ j : Nat, j < 4 → g j = v := by
  have key : ∀ (N : Nat) (l : Int32) (a : Nat → Int32), fx (T_fill_4_5 v g) N (l, a) → (0 ≤ l.toInt ∧ l.toInt ≤ 4) → (∀ j : Nat, (j : Int) < l.toInt → a j = v) → ∀ j : Nat, j < 4 → g j = v := by
    intro N
    induction N with
    | zero => intro l a h; exact h.elim
    | succ N ih =>
      intro l a h hl hA
      replace h := fx_o h
      dsimp only [T_fill_4_5] at h
      rcases h with ⟨c, e⟩ | ⟨c, b, eb, y, ey, h⟩
      · intro j hj; rw [e]; exact hA j (by omega)
      · have hy : y.toInt = l.toInt + 1 := by rw [ey]; exact mi_addc (by decide) (by omega) (by omega)
        refine ih y b h (by omega) (fun j hj => ?_)
        rw [← eb, mi_cl]
        by_cases hk : j = l.toInt.toNat
        · rw [hk, up_eq]
        · rw [up_ne hk]; exact hA j (by omega)
  exact key _ _ _ h ⟨by decide, by decide⟩ (fun j hj => absurd hj (by have : (0 : Int32).toInt = 0 := (by decide); omega))
/-! the reference -/
def wnt (us : Nat) (bo : Int32) (fl a : Nat → Int32) (k : Nat) (w : Int32) : Prop := (bo.toInt ≤ 0 ∧ w.toInt = -1) ∨ (0 < bo.toInt ∧ w.toInt = chz (itr us bo fl a k) us)
theorem gr_sp {a b u : Int32} (h : R_j_greater a b u) : u = if a < b then b else a := by
  rcases h with ⟨c, e⟩ | ⟨c, e⟩
  · by_cases q : a < b
    · rw [if_pos q, e]
    · have q2 : ¬ a.toInt < b.toInt := fun k => q (mi_lt.mpr k)
      rw [if_neg q, e]; exact mi_eq (by omega)
  · rw [if_neg (fun k => by have := mi_lt.mp k; omega), e]
theorem ls_sp {b a u : Int32} (h : R_j_lesser b a u) : u = if b < a then b else a := by
  rcases h with ⟨c, e⟩ | ⟨c, e⟩
  · by_cases q : b < a
    · rw [if_pos q, e]
    · have q2 : ¬ b.toInt < a.toInt := fun k => q (mi_lt.mpr k)
      rw [if_neg q, e]; exact mi_eq (by omega)
  · rw [if_neg (fun k => by have := mi_lt.mp k; omega), e]
theorem us_sp {X b us : Int32} {D : Nat → Int32} (hX : 0 ≤ X.toInt ∧ X.toInt ≤ 1) (hus : D (36 * X.toInt.toNat + 4) = us) (h : R_j_usurers X D b) : b = us := by
  obtain ⟨r1, h1, e⟩ := h
  rw [e, of_sp hX (by decide) h1]
  exact hus
theorem fa_row {X us bo l : Int32} {D W A0 fl u0 u1 : Nat → Int32} {Kp : (Int32 × (Nat → Int32) × (Nat → Int32)) → Prop} (hX : 0 ≤ X.toInt ∧ X.toInt ≤ 1) (hl : 0 ≤ l.toInt ∧ l.toInt ≤ 199) (hu4 : 0 ≤ us.toInt ∧ us.toInt ≤ 4) (hus : D (36 * X.toInt.toNat + 4) = us) (hfl : ∀ u : Nat, u < us.toInt.toNat → D (36 * X.toInt.toNat + (29 + 2 * u)) = fl u) (hw : (bo.toInt ≤ 0 ∧ (W l.toInt.toNat).toInt = -1) ∨ (0 < bo.toInt ∧ (W l.toInt.toNat).toInt = chz (fun v => A0 (4 * l.toInt.toNat + v)) us.toInt.toNat)) : ∀ (N : Nat) (c : Int32) (A : Nat → Int32), fx (T_j_findAsks_109 X D l W Kp u0 u1) N (c, A) → (0 ≤ c.toInt ∧ c.toInt ≤ us.toInt) → (∀ u : Nat, (u : Int) < c.toInt → A (4 * (l.toInt.toNat + 1) + u) = nxt us.toInt.toNat bo fl (fun v => A0 (4 * l.toInt.toNat + v)) u) → (∀ j : Nat, j < 4 * (l.toInt.toNat + 1) → A j = A0 j) → ∃ (b : Int32) (A2 : Nat → Int32), b.toInt = l.toInt + 1 ∧ (∀ u : Nat, u < us.toInt.toNat → A2 (4 * (l.toInt.toNat + 1) + u) = nxt us.toInt.toNat bo fl (fun v => A0 (4 * l.toInt.toNat + v)) u) ∧ (∀ j : Nat, j < 4 * (l.toInt.toNat + 1) → A2 j = A0 j) ∧ Kp (b, A2, W) := by
  intro N
  induction N with
  | zero => intro c A h; exact h.elim
  | succ N ih =>
    intro c A h hc hA hB
    replace h := fx_o h
    dsimp only [T_j_findAsks_109] at h
    obtain ⟨b0, hb0, h⟩ := h
    have hb0 := us_sp hX hus hb0
    subst hb0
    rcases h with ⟨c1, b1, e1, h⟩ | ⟨c1, z0, f0, z1, f1, z2, f2, z3, f3, z4, f4, z5, f5, z6, f6, h⟩
    · exact ⟨b1, A, by rw [e1]; exact mi_addc (by decide) (by omega) (by omega), fun u hu => hA u (by omega), hB, h⟩
    · have g0 : z0.toInt = 4 * l.toInt := by rw [f0]; exact mi_cmul (by decide) (by omega) (by omega)
      have g1 : z1.toInt = 4 * l.toInt + c.toInt := by rw [f1, mi_add (by omega) (by omega), g0]
      have g3 : z3.toInt = l.toInt + 1 := by rw [f3]; exact mi_addc (by decide) (by omega) (by omega)
      have g4 : z4.toInt = 4 * (l.toInt + 1) := by rw [f4, mi_cmul (C := 4) (by decide) (by omega) (by omega), g3]
      have g5 : z5.toInt = 4 * (l.toInt + 1) + c.toInt := by rw [f5, mi_add (by omega) (by omega), g4]
      have i1 : Int32.toNatClampNeg z1 = 4 * l.toInt.toNat + c.toInt.toNat := by rw [mi_cl, g1]; omega
      have i5 : Int32.toNatClampNeg z5 = 4 * (l.toInt.toNat + 1) + c.toInt.toNat := by rw [mi_cl, g5]; omega
      have v2 : z2 = A0 (4 * l.toInt.toNat + c.toInt.toNat) := by rw [f2, i1]; exact hB _ (by omega)
      have v6 : z6 = W l.toInt.toNat := by rw [f6, mi_cl]
      rcases h with ⟨c2, z7, f7, z8, f8, z9, f9, z10, h10, z11, f11, z12, h12, z13, f13, z14, f14, h⟩ | ⟨c2, z15, f15, z16, h16, z17, f17, z18, f18, h⟩
      · have g7 : z7.toInt = 2 * c.toInt := by rw [f7]; exact mi_cmul (by decide) (by omega) (by omega)
        have g8 : z8.toInt = 28 + 2 * c.toInt := by rw [f8, mi_add (by rw [show (28 : Int32).toInt = 28 from by decide]; omega) (by rw [show (28 : Int32).toInt = 28 from by decide]; omega), g7]; rfl
        have g9 : z9.toInt = 29 + 2 * c.toInt := by rw [f9, mi_addc (C := 1) (by decide) (by omega) (by omega), g8]; omega
        have g14 : z14.toInt = c.toInt + 1 := by rw [f14]; exact mi_addc (by decide) (by omega) (by omega)
        have v10 : z10 = fl c.toInt.toNat := by
          rw [of_sp hX (by omega) h10, show z9.toInt.toNat = 29 + 2 * c.toInt.toNat from by omega]
          exact hfl _ (by omega)
        have v12 := gr_sp h12
        have hn : ¬ (0 < bo.toInt ∧ c.toInt.toNat = chz (fun v => A0 (4 * l.toInt.toNat + v)) b0.toInt.toNat) := by
          rw [v6] at c2; omega
        refine ih z14 z13 h (by omega) (fun u hu => ?_) (fun j hj => ?_)
        · rw [← f13, i5]
          by_cases k : u = c.toInt.toNat
          · rw [k, up_eq, v12, v10, f11, v2]; unfold nxt; rw [if_neg hn]
          · rw [up_ne (by omega)]; exact hA u (by omega)
        · rw [← f13, i5, up_ne (by omega)]; exact hB j hj
      · have g18 : z18.toInt = c.toInt + 1 := by rw [f18]; exact mi_addc (by decide) (by omega) (by omega)
        have v16 := ls_sp h16
        have hp : 0 < bo.toInt ∧ c.toInt.toNat = chz (fun v => A0 (4 * l.toInt.toNat + v)) b0.toInt.toNat := by
          rw [v6] at c2; omega
        refine ih z18 z17 h (by omega) (fun u hu => ?_) (fun j hj => ?_)
        · rw [← f17, i5]
          by_cases k : u = c.toInt.toNat
          · rw [k, up_eq, v16, f15, v2]; unfold nxt; rw [if_pos hp]
          · rw [up_ne (by omega)]; exact hA u (by omega)
        · rw [← f17, i5, up_ne (by omega)]; exact hB j hj
theorem fa_one {X us bo l : Int32} {D W0 A0 fl u0 u1 : Nat → Int32} {Kp : (Int32 × (Nat → Int32) × (Nat → Int32)) → Prop} (hX : 0 ≤ X.toInt ∧ X.toInt ≤ 1) (hl : 0 ≤ l.toInt ∧ l.toInt ≤ 199) (hu4 : 0 ≤ us.toInt ∧ us.toInt ≤ 4) (hus : D (36 * X.toInt.toNat + 4) = us) (hbo : D (36 * X.toInt.toNat + 5) = bo) (hfl : ∀ u : Nat, u < us.toInt.toNat → D (36 * X.toInt.toNat + (29 + 2 * u)) = fl u) : ∀ (N : Nat) (c q : Int32), fx (T_j_findAsks_45 X D W0 l A0 Kp u0 u1) N (c, q) → 1 ≤ c.toInt → (c.toInt ≤ us.toInt ∨ c.toInt = 1) → q.toInt = chz (fun v => A0 (4 * l.toInt.toNat + v)) c.toInt.toNat → ∃ (b : Int32) (A2 W2 : Nat → Int32), b.toInt = l.toInt + 1 ∧ (∀ u : Nat, u < us.toInt.toNat → A2 (4 * (l.toInt.toNat + 1) + u) = nxt us.toInt.toNat bo fl (fun v => A0 (4 * l.toInt.toNat + v)) u) ∧ (∀ j : Nat, j < 4 * (l.toInt.toNat + 1) → A2 j = A0 j) ∧ ((bo.toInt ≤ 0 ∧ (W2 l.toInt.toNat).toInt = -1) ∨ (0 < bo.toInt ∧ (W2 l.toInt.toNat).toInt = chz (fun v => A0 (4 * l.toInt.toNat + v)) us.toInt.toNat)) ∧ (∀ j : Nat, j ≠ l.toInt.toNat → W2 j = W0 j) ∧ Kp (b, A2, W2) := by
  intro N
  induction N with
  | zero => intro c q h; exact h.elim
  | succ N ih =>
    intro c q h h1 h2 hq
    replace h := fx_o h
    dsimp only [T_j_findAsks_45] at h
    obtain ⟨b0, hb0, h⟩ := h
    have hb0 := us_sp hX hus hb0
    subst hb0
    have z0 : (0 : Int32).toInt = 0 := by decide
    rcases h with ⟨c1, b1, hb1, ⟨c2, b2, e2, h⟩ | ⟨c2, b3, e3, h⟩⟩ | ⟨c1, z4, f4, z5, f5, z6, f6, z7, f7, z8, f8, z9, f9, h⟩
    · have v1 : b1 = bo := (of_sp hX (by decide) hb1).trans hbo
      rw [v1] at c2
      have hw : (b2 l.toInt.toNat).toInt = -1 := by rw [← e2, mi_cl, up_eq]; decide
      obtain ⟨b, A2, p1, p2, p3, p4⟩ := fa_row (bo := bo) (A0 := A0) (u0 := u0) (u1 := u1) hX hl hu4 hus hfl (Or.inl ⟨c2, hw⟩) 6 0 A0 h ⟨by decide, hu4.1⟩ (fun u hu => absurd hu (by omega)) (fun _ _ => rfl)
      exact ⟨b, A2, b2, p1, p2, p3, Or.inl ⟨c2, hw⟩, fun j hj => by rw [← e2, mi_cl, up_ne hj], p4⟩
    · have v1 : b1 = bo := (of_sp hX (by decide) hb1).trans hbo
      rw [v1] at c2
      have hw : (b3 l.toInt.toNat).toInt = chz (fun v => A0 (4 * l.toInt.toNat + v)) b0.toInt.toNat := by
        rw [← e3, mi_cl, up_eq, hq]
        by_cases k : b0.toInt = 0
        · rw [k, show c.toInt.toNat = 1 from by omega, chz_1]; rfl
        · rw [show c.toInt.toNat = b0.toInt.toNat from by omega]
      obtain ⟨b, A2, p1, p2, p3, p4⟩ := fa_row (bo := bo) (A0 := A0) (u0 := u0) (u1 := u1) hX hl hu4 hus hfl (Or.inr ⟨c2, hw⟩) 6 0 A0 h ⟨by decide, hu4.1⟩ (fun u hu => absurd hu (by omega)) (fun _ _ => rfl)
      exact ⟨b, A2, b3, p1, p2, p3, Or.inr ⟨c2, hw⟩, fun j hj => by rw [← e3, mi_cl, up_ne hj], p4⟩
    · have lt := chz_lt (fun v => A0 (4 * l.toInt.toNat + v)) c.toInt.toNat (by omega)
      have g4 : z4.toInt = 4 * l.toInt := by rw [f4]; exact mi_cmul (by decide) (by omega) (by omega)
      have g5 : z5.toInt = 4 * l.toInt + c.toInt := by rw [f5, mi_add (by omega) (by omega), g4]
      have g7 : z7.toInt = 4 * l.toInt := by rw [f7]; exact mi_cmul (by decide) (by omega) (by omega)
      have g8 : z8.toInt = 4 * l.toInt + q.toInt := by rw [f8, mi_add (by omega) (by omega), g7]
      have i5 : Int32.toNatClampNeg z5 = 4 * l.toInt.toNat + c.toInt.toNat := by rw [mi_cl, g5]; omega
      have i8 : Int32.toNatClampNeg z8 = 4 * l.toInt.toNat + chz (fun v => A0 (4 * l.toInt.toNat + v)) c.toInt.toNat := by rw [mi_cl, g8]; omega
      rw [i5] at f6
      rw [i8] at f9
      have es := chz_s (fun v => A0 (4 * l.toInt.toNat + v)) (n := c.toInt.toNat) (by omega)
      rcases h with ⟨c2, z10, f10, h⟩ | ⟨c2, z10, f10, h⟩
      · have g10 : z10.toInt = c.toInt + 1 := by rw [f10]; exact mi_addc (by decide) (by omega) (by omega)
        refine ih z10 q h (by omega) (by omega) ?_
        rw [g10, show (c.toInt + 1).toNat = c.toInt.toNat + 1 from by omega, es, if_neg (by rw [← f6, ← f9]; omega), hq]
      · have g10 : z10.toInt = c.toInt + 1 := by rw [f10]; exact mi_addc (by decide) (by omega) (by omega)
        refine ih z10 c h (by omega) (by omega) ?_
        rw [g10, show (c.toInt + 1).toNat = c.toInt.toNat + 1 from by omega, es, if_pos (by rw [← f6, ← f9]; omega)]
        omega
theorem fa_all {X us bo : Int32} {D fl ak W0 A0 u0 u1 : Nat → Int32} (hX : 0 ≤ X.toInt ∧ X.toInt ≤ 1) (hu4 : 0 ≤ us.toInt ∧ us.toInt ≤ 4) (hus : D (36 * X.toInt.toNat + 4) = us) (hbo : D (36 * X.toInt.toNat + 5) = bo) (hak : ∀ u : Nat, u < us.toInt.toNat → D (36 * X.toInt.toNat + (28 + 2 * u)) = ak u) (hfl : ∀ u : Nat, u < us.toInt.toNat → D (36 * X.toInt.toNat + (29 + 2 * u)) = fl u) (h : R_j_findAsks X D W0 A0 u0 u1) : (∀ k u : Nat, k ≤ 200 → u < us.toInt.toNat → u0 (4 * k + u) = itr us.toInt.toNat bo fl ak k u) ∧ (∀ k : Nat, k < 200 → wnt us.toInt.toNat bo fl ak k (u1 k)) := by
  have z0 : (0 : Int32).toInt = 0 := by decide
  have rounds : ∀ (N : Nat) (l : Int32) (A W : Nat → Int32), fx (T_j_findAsks_34 X D u0 u1) N (l, A, W) → (0 ≤ l.toInt ∧ l.toInt ≤ 200) → (∀ k u : Nat, (k : Int) ≤ l.toInt → u < us.toInt.toNat → A (4 * k + u) = itr us.toInt.toNat bo fl ak k u) → (∀ k : Nat, (k : Int) < l.toInt → wnt us.toInt.toNat bo fl ak k (W k)) → (∀ k u : Nat, k ≤ 200 → u < us.toInt.toNat → u0 (4 * k + u) = itr us.toInt.toNat bo fl ak k u) ∧ (∀ k : Nat, k < 200 → wnt us.toInt.toNat bo fl ak k (u1 k)) := by
    intro N
    induction N with
    | zero => intro l A W h; exact h.elim
    | succ N ih =>
      intro l A W h hl hA hW
      replace h := fx_o h
      dsimp only [T_j_findAsks_34] at h
      rcases h with ⟨c, e, e'⟩ | ⟨c, h⟩
      · rw [e, e']
        exact ⟨fun k u hk hu => hA k u (by omega) hu, fun k hk => hW k (by omega)⟩
      · obtain ⟨b, A2, W2, p1, p2, p3, p4, p5, p6⟩ := fa_one (u0 := u0) (u1 := u1) hX (by omega) hu4 hus hbo hfl 5 1 0 h (by decide) (Or.inr (by decide)) (by rw [show (1 : Int32).toInt.toNat = 1 from by decide, chz_1]; decide)
        have same : ∀ v : Nat, v < us.toInt.toNat → (fun v => A (4 * l.toInt.toNat + v)) v = itr us.toInt.toNat bo fl ak l.toInt.toNat v := fun v hv => hA _ v (by omega) hv
        refine ih b A2 W2 p6 (by omega) (fun k u hk hu => ?_) (fun k hk => ?_)
        · by_cases q : k = l.toInt.toNat + 1
          · rw [q, p2 u hu]
            exact nxt_c same (fun _ _ => rfl) hu
          · rw [p3 _ (by omega)]; exact hA k u (by omega) hu
        · by_cases q : k = l.toInt.toNat
          · rw [q]
            rcases p4 with p4 | p4
            · exact Or.inl p4
            · exact Or.inr ⟨p4.1, by rw [p4.2, chz_c _ same]⟩
          · rw [p5 k q]; exact hW k (by omega)
  have first : ∀ (N : Nat) (l : Int32) (A : Nat → Int32), fx (T_j_findAsks_2 X D W0 u0 u1) N (l, A) → (0 ≤ l.toInt ∧ l.toInt ≤ us.toInt) → (∀ u : Nat, (u : Int) < l.toInt → A u = ak u) → (∀ k u : Nat, k ≤ 200 → u < us.toInt.toNat → u0 (4 * k + u) = itr us.toInt.toNat bo fl ak k u) ∧ (∀ k : Nat, k < 200 → wnt us.toInt.toNat bo fl ak k (u1 k)) := by
    intro N
    induction N with
    | zero => intro l A h; exact h.elim
    | succ N ih =>
      intro l A h hl hA
      replace h := fx_o h
      dsimp only [T_j_findAsks_2] at h
      obtain ⟨b0, hb0, h⟩ := h
      have hb0 := us_sp hX hus hb0
      subst hb0
      rcases h with ⟨c, h⟩ | ⟨c, z1, f1, z2, f2, z3, h3, z4, f4, z5, f5, h⟩
      · refine rounds _ _ _ _ h ⟨by decide, by decide⟩ (fun k u hk hu => ?_) (fun k hk => absurd hk (by omega))
        rw [show k = 0 from by omega, show 4 * 0 + u = u from by omega]
        exact hA u (by omega)
      · have g1 : z1.toInt = 2 * l.toInt := by rw [f1]; exact mi_cmul (by decide) (by omega) (by omega)
        have g2 : z2.toInt = 28 + 2 * l.toInt := by rw [f2, mi_add (by rw [show (28 : Int32).toInt = 28 from by decide]; omega) (by rw [show (28 : Int32).toInt = 28 from by decide]; omega), g1]; rfl
        have g5 : z5.toInt = l.toInt + 1 := by rw [f5]; exact mi_addc (by decide) (by omega) (by omega)
        have v3 : z3 = ak l.toInt.toNat := by
          rw [of_sp hX (by omega) h3, show z2.toInt.toNat = 28 + 2 * l.toInt.toNat from by omega]
          exact hak _ (by omega)
        refine ih z5 z4 h (by omega) (fun u hu => ?_)
        rw [← f4, mi_cl]
        by_cases k : u = l.toInt.toNat
        · rw [k, up_eq, v3]
        · rw [up_ne k]; exact hA u (by omega)
  exact first _ _ _ h ⟨by decide, hu4.1⟩ (fun u hu => absurd hu (by omega))
theorem tk_sp {X us bo b d r n2 n3 n4 u1 u2 u3 u4 : Int32} {D A W fl ak u5 u6 : Nat → Int32} (hX : 0 ≤ X.toInt ∧ X.toInt ≤ 1) (hu4 : 0 ≤ us.toInt ∧ us.toInt ≤ 4) (hb : 0 ≤ b.toInt ∧ b.toInt < us.toInt) (hd : 0 ≤ d.toInt ∧ d.toInt ≤ 200) (hbo : D (36 * X.toInt.toNat + 5) = bo) (hA : ∀ k u : Nat, k ≤ 200 → u < us.toInt.toNat → A (4 * k + u) = itr us.toInt.toNat bo fl ak k u) (hW : ∀ k : Nat, k < 200 → wnt us.toInt.toNat bo fl ak k (W k)) {N : Nat} (h : fx (T_y_taken_23 d X n2 n3 n4 A W b D r u1 u2 u3 u4 u5 u6) N ((0 : Int32), (0 : Int32))) : r = gnr us.toInt.toNat bo fl ak d.toInt.toNat b.toInt.toNat := by
  have key : ∀ (N : Nat) (l s : Int32), fx (T_y_taken_23 d X n2 n3 n4 A W b D r u1 u2 u3 u4 u5 u6) N (l, s) → (0 ≤ l.toInt ∧ l.toInt ≤ d.toInt) → s = gnr us.toInt.toNat bo fl ak l.toInt.toNat b.toInt.toNat → r = gnr us.toInt.toNat bo fl ak d.toInt.toNat b.toInt.toNat := by
    intro N
    induction N with
    | zero => intro l s h; exact h.elim
    | succ N ih =>
      intro l s h hl hs
      replace h := fx_o h
      dsimp only [T_y_taken_23] at h
      rcases h with ⟨c, e, -⟩ | ⟨c, w, ew, h⟩
      · rw [e, hs, show l.toInt.toNat = d.toInt.toNat from by omega]
      · have hw := hW l.toInt.toNat (by omega)
        rw [mi_cl] at ew
        rw [← ew] at hw
        rcases h with ⟨c2, b1, e1, b2, e2, h⟩ | ⟨c2, b3, h3, b4, e4, b5, e5, b6, e6, b7, e7, b8, e8, b9, e9, h⟩
        · have g2 : b2.toInt = l.toInt + 1 := by rw [e2]; exact mi_addc (by decide) (by omega) (by omega)
          refine ih b2 b1 h (by omega) ?_
          have hn : ¬ (0 < bo.toInt ∧ b.toInt.toNat = chz (itr us.toInt.toNat bo fl ak l.toInt.toNat) us.toInt.toNat) := by
            rcases hw with hw | hw <;> omega
          rw [g2, show (l.toInt + 1).toNat = l.toInt.toNat + 1 from by omega, e1, hs]
          show _ = gnx us.toInt.toNat bo (itr us.toInt.toNat bo fl ak l.toInt.toNat) (gnr us.toInt.toNat bo fl ak l.toInt.toNat) b.toInt.toNat
          unfold gnx
          rw [if_neg hn, Int32.add_zero]
        · have g9 : b9.toInt = l.toInt + 1 := by rw [e9]; exact mi_addc (by decide) (by omega) (by omega)
          have g4 : b4.toInt = 4 * l.toInt := by rw [e4]; exact mi_cmul (by decide) (by omega) (by omega)
          have g5 : b5.toInt = 4 * l.toInt + b.toInt := by rw [e5, mi_add (by omega) (by omega), g4]
          have i5 : Int32.toNatClampNeg b5 = 4 * l.toInt.toNat + b.toInt.toNat := by rw [mi_cl, g5]; omega
          have v3 : b3 = bo := (of_sp hX (by decide) h3).trans hbo
          have v6 : b6 = itr us.toInt.toNat bo fl ak l.toInt.toNat b.toInt.toNat := by rw [e6, i5]; exact hA _ _ (by omega) (by omega)
          refine ih b9 b8 h (by omega) ?_
          have hp : 0 < bo.toInt ∧ b.toInt.toNat = chz (itr us.toInt.toNat bo fl ak l.toInt.toNat) us.toInt.toNat := by
            rcases hw with hw | hw <;> omega
          rw [g9, show (l.toInt + 1).toNat = l.toInt.toNat + 1 from by omega, e8, e7, v3, v6, hs]
          show _ = gnx us.toInt.toNat bo (itr us.toInt.toNat bo fl ak l.toInt.toNat) (gnr us.toInt.toNat bo fl ak l.toInt.toNat) b.toInt.toNat
          unfold gnx
          rw [if_pos hp]
  exact key N _ _ h ⟨by decide, hd.1⟩ (by rw [show (0 : Int32).toInt.toNat = 0 from by decide]; rfl)
theorem cpy_q {f g : Nat → Int32} {n j : Nat} (h : j < n) : va_cpy f g 0 0 n j = f j := by
  unfold va_cpy
  rw [if_pos ⟨Nat.zero_le _, by omega⟩, Nat.sub_zero, Nat.zero_add]
theorem half_sp {b d us bo r r1 r2 x3 x4 : Int32} {x5 x6 x7 ak fl u3 u4 u5 : Nat → Int32} (hu4 : 0 ≤ us.toInt ∧ us.toInt ≤ 4) (h : ((b.toInt < 0) ∧ (r = (0 : Int32) ∧ r1 = x3 ∧ r2 = x4 ∧ u3 = x5 ∧ u4 = x6 ∧ u5 = x7)) ∨ ((0 ≤ b.toInt) ∧ (((us.toInt ≤ b.toInt) ∧ (r = (0 : Int32) ∧ r1 = x3 ∧ r2 = x4 ∧ u3 = x5 ∧ u4 = x6 ∧ u5 = x7)) ∨ ((b.toInt < us.toInt) ∧ (((d.toInt < 0) ∧ (r = (0 : Int32) ∧ r1 = x3 ∧ r2 = x4 ∧ u3 = x5 ∧ u4 = x6 ∧ u5 = x7)) ∨ ((0 ≤ d.toInt) ∧ (((d.toInt ≤ 200) ∧ (∃ (b0_ : Nat → Int32) (b1_ : Nat → Int32) (b2_ : Nat → Int32), (R_k_rbegin ak x5 fl x6 x7 b0_ b1_ b2_) ∧ (fx (T_k_lendFor_53 d us bo b1_ r r1 r2 u3 u4 u5) 202 ((0 : Int32), (b0_), (b2_))))) ∨ ((200 < d.toInt) ∧ (r = (0 : Int32) ∧ r1 = x3 ∧ r2 = x4 ∧ u3 = x5 ∧ u4 = x6 ∧ u5 = x7))))))))) : (r = 1 ∧ ((0 ≤ b.toInt ∧ b.toInt < us.toInt) ∧ (0 ≤ d.toInt ∧ d.toInt ≤ 200)) ∧ u3 b.toInt.toNat = itr us.toInt.toNat bo fl ak d.toInt.toNat b.toInt.toNat ∧ u5 b.toInt.toNat = gnr us.toInt.toNat bo fl ak d.toInt.toNat b.toInt.toNat) ∨ (r = 0 ∧ ¬ ((0 ≤ b.toInt ∧ b.toInt < us.toInt) ∧ (0 ≤ d.toInt ∧ d.toInt ≤ 200))) := by
  rcases h with ⟨c1, e, -⟩ | ⟨c1, ⟨c2, e, -⟩ | ⟨c2, ⟨c3, e, -⟩ | ⟨c3, ⟨c4, p0, p1, p2, hb, h⟩ | ⟨c4, e, -⟩⟩⟩⟩
  · exact Or.inr ⟨e, by omega⟩
  · exact Or.inr ⟨e, by omega⟩
  · exact Or.inr ⟨e, by omega⟩
  · obtain ⟨q1, f1, q2, f2, q3, f3, w1, w2, w3⟩ := hb
    have k0 : Int32.toNatClampNeg (0 : Int32) = 0 := by decide
    have k4 : Int32.toNatClampNeg (4 : Int32) = 4 := by decide
    rw [k0, k4] at f1 f2
    have z3 := fill4_sp f3
    have hl := lend_sp (a0 := ak) (fl0 := fl) hu4 ⟨c3, c4⟩ (fun u hu => by rw [w1, ← f1]; exact cpy_q hu) (fun u hu => by rw [w2, ← f2]; exact cpy_q hu) (fun u hu => by rw [w3]; exact z3 u hu) h
    have hq := hl.2 b.toInt.toNat (by omega)
    exact Or.inl ⟨hl.1, ⟨⟨c1, c2⟩, c3, c4⟩, hq.1, hq.2⟩
  · exact Or.inr ⟨e, by omega⟩
theorem lay_no {mn D A0 W0 u5 u6 : Nat → Int32} {a b d xt xp xa xr r n1 n2 n3 n4 : Int32} (h : R_j_layUsurer mn a D xt xp xa xr A0 W0 b d r n1 n2 n3 n4 u5 u6) (hn : a.toInt < 0 ∨ (mn 0).toInt ≤ a.toInt) : r = 0 := by
  obtain ⟨q, m1, m2, m3, m4, ⟨q1, hi, hd⟩, h⟩ := h
  replace hi := is_sp hi
  have k0 : Int32.toNatClampNeg (0 : Int32) = 0 := by decide
  rw [k0] at hi
  rcases hd with ⟨c1, -⟩ | ⟨c1, e1, -⟩
  · rcases hi with ⟨-, p⟩ | ⟨p, -⟩
    · clear h; exact absurd p (by omega)
    · rw [c1] at p; exact absurd p (by decide)
  · rcases h with ⟨-, e, -⟩ | ⟨c2, -⟩
    · exact e
    · rw [e1] at c2; exact absurd c2 (by decide)
theorem lay_yes {mn D A0 W0 u5 u6 cl ha hu sa ak fl : Nat → Int32} {a b d xt xp xa xr r n1 n2 n3 n4 pa ac us ra ch bo : Int32} (h : R_j_layUsurer mn a D xt xp xa xr A0 W0 b d r n1 n2 n3 n4 u5 u6) (hy : 0 ≤ a.toInt ∧ a.toInt < (mn 0).toInt) (hX : 0 ≤ a.toInt ∧ a.toInt ≤ 1) (hR : RT (fun j => D (36 * a.toInt.toNat + j)) pa ac us ra ch bo cl ha hu sa ak fl) : (r = 1 ∧ ((0 ≤ b.toInt ∧ b.toInt < us.toInt) ∧ (0 ≤ d.toInt ∧ d.toInt ≤ 200)) ∧ n1 = a ∧ (∀ k u : Nat, k ≤ 200 → u < us.toInt.toNat → u5 (4 * k + u) = itr us.toInt.toNat bo fl ak k u) ∧ (∀ k : Nat, k < 200 → wnt us.toInt.toNat bo fl ak k (u6 k))) ∨ (r = 0 ∧ ¬ ((0 ≤ b.toInt ∧ b.toInt < us.toInt) ∧ (0 ≤ d.toInt ∧ d.toInt ≤ 200))) := by
  obtain ⟨c0, d1, d2, d3, d4, d5, TA, TB, TC, rA, rB, rC⟩ := hR
  have d4 : D (36 * a.toInt.toNat + 4) = us := d4
  have d5 : D (36 * a.toInt.toNat + 5) = bo := d5
  obtain ⟨q, m1, m2, m3, m4, ⟨q1, hi, hd⟩, h⟩ := h
  replace hi := is_sp hi
  have k0 : Int32.toNatClampNeg (0 : Int32) = 0 := by decide
  rw [k0] at hi
  rcases hd with ⟨c1, r5, -, r8, -, r11, -, e1, e2, e3, e4, e5⟩ | ⟨c1, -⟩
  · rcases h with ⟨c2, -⟩ | ⟨-, v8, h8, z10, -, v11, h11, h⟩
    · rw [e1] at c2; exact absurd c2 (by decide)
    · rw [e2] at h8 h
      have h8 := us_sp hX d4 h8
      subst h8
      have h11 := in_sp h11
      rcases h with ⟨p11, v15, h15, h⟩ | ⟨p11, e, -⟩
      · have h15 := in_sp h15
        rcases h11 with ⟨-, g11⟩ | ⟨g11, -⟩
        · rcases h with ⟨p15, g2, g3, hf, e, f1, -, -, -, f5, f6⟩ | ⟨p15, e, -⟩
          · rcases h15 with ⟨-, g15⟩ | ⟨g15, -⟩
            · have hf := fa_all (ak := ak) (fl := fl) hX rC d4 d5 (fun u hu => (TC u (by omega)).1) (fun u hu => (TC u (by omega)).2) hf
              rw [← f5, ← f6] at hf
              exact Or.inl ⟨e, by omega, f1, hf.1, hf.2⟩
            · rw [p15] at g15; exact absurd g15 (by decide)
          · rcases h15 with ⟨g15, -⟩ | ⟨-, g15⟩
            · rw [p15] at g15; exact absurd g15 (by decide)
            · exact Or.inr ⟨e, by omega⟩
        · rw [p11] at g11; exact absurd g11 (by decide)
      · rcases h11 with ⟨g11, -⟩ | ⟨-, g11⟩
        · rw [p11] at g11; exact absurd g11 (by decide)
        · exact Or.inr ⟨e, by omega⟩
  · rcases hi with ⟨p, -⟩ | ⟨-, p⟩
    · rw [c1] at p; exact absurd p (by decide)
    · exact absurd hy (by omega)
theorem ask_R {TN : Nat → Int32} {TF M : Nat → Nat → Int32} {a b d r r' : Int32} {ru rb : Int32} {ra rf rg : Nat → Int32} {v1 v2 : Int32} {v3 v4 v5 : Nat → Int32} {mt : Nat → Int32} {xt xp xa xr : Int32} {A0 W0 : Nat → Int32} {w1 w2 w3 w4 : Int32} {w5 w6 : Nat → Int32} (hT : TLk 0 TN TF M) (hr : 0 ≤ (TN 3).toInt ∧ (TN 3).toInt ≤ 2) (em : mt = M 5)
    (hx : R_x_ask a (TN 3) ru rb ra rf rg b (TN 14) d (TF 11) (TF 12) (TN 17) (TN 8) (TF 5) (TF 6) (TN 11) r v1 v2 v3 v4 v5)
    (hy : R_y_ask (M 4) a mt xt xp xa xr A0 W0 b d r' w1 w2 w3 w4 w5 w6) : r = r' := by
  subst em
  have h6 : M 4 0 = TN 3 := hT.2.2.2.1
  have hD0 := hT.2.2.2.2.2.2.2.1
  have hD1 := hT.2.2.2.2.2.2.2.2.1
  obtain ⟨q, n1, n2, n3, n4, g5, g6, hl, hy⟩ := hy
  obtain ⟨p, m1, m2, f3, f4, f5, hk, hx⟩ := hx
  have fin : ∀ {us bo : Int32} {ak fl : Nat → Int32}, ((p = 1 ∧ ((0 ≤ b.toInt ∧ b.toInt < us.toInt) ∧ (0 ≤ d.toInt ∧ d.toInt ≤ 200)) ∧ f3 b.toInt.toNat = itr us.toInt.toNat bo fl ak d.toInt.toNat b.toInt.toNat ∧ f5 b.toInt.toNat = gnr us.toInt.toNat bo fl ak d.toInt.toNat b.toInt.toNat) ∨ (p = 0 ∧ ¬ ((0 ≤ b.toInt ∧ b.toInt < us.toInt) ∧ (0 ≤ d.toInt ∧ d.toInt ≤ 200)))) → ((q = 1 ∧ ((0 ≤ b.toInt ∧ b.toInt < us.toInt) ∧ (0 ≤ d.toInt ∧ d.toInt ≤ 200)) ∧ n1 = a ∧ (∀ k u : Nat, k ≤ 200 → u < us.toInt.toNat → g5 (4 * k + u) = itr us.toInt.toNat bo fl ak k u) ∧ (∀ k : Nat, k < 200 → wnt us.toInt.toNat bo fl ak k (g6 k))) ∨ (q = 0 ∧ ¬ ((0 ≤ b.toInt ∧ b.toInt < us.toInt) ∧ (0 ≤ d.toInt ∧ d.toInt ≤ 200)))) → (us.toInt ≤ 4) → r = r' := by
    clear hk hl
    intro us bo ak fl h1 h2 h4
    rcases hx with ⟨c1, z, ez, e, -⟩ | ⟨c1, e, -⟩
    · rcases h1 with ⟨-, hg, hi, -⟩ | ⟨h1, -⟩
      · rcases hy with ⟨c2, y1, ey1, y2, ey2, y3, ey3, e', -⟩ | ⟨c2, e', -⟩
        · rcases h2 with ⟨-, -, -, hA, -⟩ | ⟨h2, -⟩
          · have g1 : y1.toInt = 4 * d.toInt := by rw [ey1]; exact mi_cmul (by decide) (by omega) (by omega)
            have g2 : y2.toInt = 4 * d.toInt + b.toInt := by rw [ey2, mi_add (by omega) (by omega), g1]
            have i2 : Int32.toNatClampNeg y2 = 4 * d.toInt.toNat + b.toInt.toNat := by rw [mi_cl, g2]; omega
            rw [e, ez, mi_cl, hi, e', ey3, i2, hA _ _ (by omega) (by omega)]
          · rw [c2] at h2; exact absurd h2 (by decide)
        · rcases h2 with ⟨h2, -⟩ | ⟨-, h2⟩
          · rw [c2] at h2; exact absurd h2 (by decide)
          · exact absurd hg h2
      · rw [c1] at h1; exact absurd h1 (by decide)
    · rcases h1 with ⟨h1, -⟩ | ⟨-, h1⟩
      · rw [c1] at h1; exact absurd h1 (by decide)
      · rcases hy with ⟨c2, y1, ey1, y2, ey2, y3, ey3, e', -⟩ | ⟨c2, e', -⟩
        · rcases h2 with ⟨-, hg, -⟩ | ⟨h2, -⟩
          · exact absurd hg h1
          · rw [c2] at h2; exact absurd h2 (by decide)
        · rw [e, e']
  rcases hk with ⟨c, e0, -⟩ | ⟨c, hk⟩ | ⟨c, hk⟩
  · replace c := ata_0 c
    have hl := lay_no hl (by rw [h6]; exact c)
    rcases hx with ⟨c1, -⟩ | ⟨-, e, -⟩
    · rw [e0] at c1; exact absurd c1 (by decide)
    · rcases hy with ⟨c2, -⟩ | ⟨-, e', -⟩
      · rw [hl] at c2; exact absurd c2 (by decide)
      · rw [e, e']
  · replace c := ata_1 c
    have hk := half_sp hD1.2.2.2.2.2.2.2.2.2.2.2 hk
    have hR := RT_c (td2 := fun j => M 5 (36 * a.toInt.toNat + j)) (fun j _ => by show M 5 (36 * a.toInt.toNat + j) = M 5 (72 * 0 + 36 + j); rw [show 36 * a.toInt.toNat + j = 72 * 0 + 36 + j from by omega]) hD1
    exact fin hk (lay_yes hl (by rw [h6]; omega) (by omega) hR) hD1.2.2.2.2.2.2.2.2.2.2.2.2
  · replace c := ata_2 c
    have hk := half_sp hD0.2.2.2.2.2.2.2.2.2.2.2 hk
    have hR := RT_c (td2 := fun j => M 5 (36 * a.toInt.toNat + j)) (fun j _ => by show M 5 (36 * a.toInt.toNat + j) = M 5 (72 * 0 + j); rw [show 36 * a.toInt.toNat + j = 72 * 0 + j from by omega]) hD0
    exact fin hk (lay_yes hl (by rw [h6]; omega) (by omega) hR) hD0.2.2.2.2.2.2.2.2.2.2.2.2
theorem taken_R {TN : Nat → Int32} {TF M : Nat → Nat → Int32} {a b d r r' : Int32} {ru rb : Int32} {ra rf rg : Nat → Int32} {v1 v2 : Int32} {v3 v4 v5 : Nat → Int32} {mt : Nat → Int32} {xt xp xa xr : Int32} {A0 W0 : Nat → Int32} {w1 w2 w3 w4 : Int32} {w5 w6 : Nat → Int32} (hT : TLk 0 TN TF M) (hr : 0 ≤ (TN 3).toInt ∧ (TN 3).toInt ≤ 2) (em : mt = M 5)
    (hx : R_x_taken a (TN 3) ru rb ra rf rg b (TN 14) d (TF 11) (TF 12) (TN 17) (TN 8) (TF 5) (TF 6) (TN 11) r v1 v2 v3 v4 v5)
    (hy : R_y_taken (M 4) a mt xt xp xa xr A0 W0 b d r' w1 w2 w3 w4 w5 w6) : r = r' := by
  subst em
  have h6 : M 4 0 = TN 3 := hT.2.2.2.1
  have hD0 := hT.2.2.2.2.2.2.2.1
  have hD1 := hT.2.2.2.2.2.2.2.2.1
  obtain ⟨q, n1, n2, n3, n4, g5, g6, hl, hy⟩ := hy
  obtain ⟨p, m1, m2, f3, f4, f5, hk, hx⟩ := hx
  have fin : ∀ {us bo : Int32} {ak fl : Nat → Int32}, ((p = 1 ∧ ((0 ≤ b.toInt ∧ b.toInt < us.toInt) ∧ (0 ≤ d.toInt ∧ d.toInt ≤ 200)) ∧ f3 b.toInt.toNat = itr us.toInt.toNat bo fl ak d.toInt.toNat b.toInt.toNat ∧ f5 b.toInt.toNat = gnr us.toInt.toNat bo fl ak d.toInt.toNat b.toInt.toNat) ∨ (p = 0 ∧ ¬ ((0 ≤ b.toInt ∧ b.toInt < us.toInt) ∧ (0 ≤ d.toInt ∧ d.toInt ≤ 200)))) → ((q = 1 ∧ ((0 ≤ b.toInt ∧ b.toInt < us.toInt) ∧ (0 ≤ d.toInt ∧ d.toInt ≤ 200)) ∧ n1 = a ∧ (∀ k u : Nat, k ≤ 200 → u < us.toInt.toNat → g5 (4 * k + u) = itr us.toInt.toNat bo fl ak k u) ∧ (∀ k : Nat, k < 200 → wnt us.toInt.toNat bo fl ak k (g6 k))) ∨ (q = 0 ∧ ¬ ((0 ≤ b.toInt ∧ b.toInt < us.toInt) ∧ (0 ≤ d.toInt ∧ d.toInt ≤ 200)))) → (0 ≤ us.toInt ∧ us.toInt ≤ 4) → (0 ≤ a.toInt ∧ a.toInt ≤ 1) → M 5 (36 * a.toInt.toNat + 5) = bo → r = r' := by
    clear hk hl
    intro us bo ak fl h1 h2 h4 hX hbo
    rcases hx with ⟨c1, z, ez, e, -⟩ | ⟨c1, e, -⟩
    · rcases h1 with ⟨-, hg, -, hi⟩ | ⟨h1, -⟩
      · rcases hy with ⟨c2, hf⟩ | ⟨c2, e', -⟩
        · rcases h2 with ⟨-, -, en, hA, hW⟩ | ⟨h2, -⟩
          · subst en
            have hf := tk_sp hX h4 hg.1 hg.2 hbo hA hW hf
            rw [e, ez, mi_cl, hi, hf]
          · rw [c2] at h2; exact absurd h2 (by decide)
        · rcases h2 with ⟨h2, -⟩ | ⟨-, h2⟩
          · rw [c2] at h2; exact absurd h2 (by decide)
          · exact absurd hg h2
      · rw [c1] at h1; exact absurd h1 (by decide)
    · rcases h1 with ⟨h1, -⟩ | ⟨-, h1⟩
      · rw [c1] at h1; exact absurd h1 (by decide)
      · rcases hy with ⟨c2, -⟩ | ⟨c2, e', -⟩
        · rcases h2 with ⟨-, hg, -⟩ | ⟨h2, -⟩
          · exact absurd hg h1
          · rw [c2] at h2; exact absurd h2 (by decide)
        · rw [e, e']
  rcases hk with ⟨c, e0, -⟩ | ⟨c, hk⟩ | ⟨c, hk⟩
  · replace c := ata_0 c
    have hl := lay_no hl (by rw [h6]; exact c)
    rcases hx with ⟨c1, -⟩ | ⟨-, e, -⟩
    · rw [e0] at c1; exact absurd c1 (by decide)
    · rcases hy with ⟨c2, -⟩ | ⟨-, e', -⟩
      · rw [hl] at c2; exact absurd c2 (by decide)
      · rw [e, e']
  · replace c := ata_1 c
    have hk := half_sp hD1.2.2.2.2.2.2.2.2.2.2.2 hk
    have hR := RT_c (td2 := fun j => M 5 (36 * a.toInt.toNat + j)) (fun j _ => by show M 5 (36 * a.toInt.toNat + j) = M 5 (72 * 0 + 36 + j); rw [show 36 * a.toInt.toNat + j = 72 * 0 + 36 + j from by omega]) hD1
    exact fin hk (lay_yes hl (by rw [h6]; omega) (by omega) hR) hD1.2.2.2.2.2.2.2.2.2.2.2 (by omega) hR.2.2.2.2.2.1
  · replace c := ata_2 c
    have hk := half_sp hD0.2.2.2.2.2.2.2.2.2.2.2 hk
    have hR := RT_c (td2 := fun j => M 5 (36 * a.toInt.toNat + j)) (fun j _ => by show M 5 (36 * a.toInt.toNat + j) = M 5 (72 * 0 + j); rw [show 36 * a.toInt.toNat + j = 72 * 0 + j from by omega]) hD0
    exact fin hk (lay_yes hl (by rw [h6]; omega) (by omega) hR) hD0.2.2.2.2.2.2.2.2.2.2.2 (by omega) hR.2.2.2.2.2.1
theorem ask_sim {TN : Nat → Int32} {TF M : Nat → Nat → Int32} {x0 x1 x2 r r' : Int32} (h : TLk 0 TN TF M) (hr : 0 ≤ (TN 3).toInt ∧ (TN 3).toInt ≤ 2) (hx : S_x_ask TN TF x0 x1 x2 r) (hy : S_y_ask M x0 x1 x2 r') : r = r' := by
  obtain ⟨_, _, _, _, _, _, _, _, _, _, hx⟩ := hx
  obtain ⟨_, _, _, _, _, _, _, _, _, _, _, _, hy⟩ := hy
  exact ask_R h hr rfl hx hy
theorem taken_sim {TN : Nat → Int32} {TF M : Nat → Nat → Int32} {x0 x1 x2 r r' : Int32} (h : TLk 0 TN TF M) (hr : 0 ≤ (TN 3).toInt ∧ (TN 3).toInt ≤ 2) (hx : S_x_taken TN TF x0 x1 x2 r) (hy : S_y_taken M x0 x1 x2 r') : r = r' := by
  obtain ⟨_, _, _, _, _, _, _, _, _, _, hx⟩ := hx
  obtain ⟨_, _, _, _, _, _, _, _, _, _, _, _, hy⟩ := hy
  exact taken_R h hr rfl hx hy
