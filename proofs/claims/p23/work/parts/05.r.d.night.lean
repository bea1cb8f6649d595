/-! a night: who eats, told by rows -/
def eatb (hu : Nat → Int32) (en : Int32) (sv st : Nat → Int32) (c : Int32) (a : Nat) : Bool := decide ((st a).toInt = -1) && (decide ((prc hu en 0 a).toInt ≤ (sv a).toInt) && decide ((prc hu en 0 a).toInt ≤ c.toInt))
theorem eatb_t {hu : Nat → Int32} {en : Int32} {sv st : Nat → Int32} {c : Int32} {a : Nat} : eatb hu en sv st c a = true ↔ (st a).toInt = -1 ∧ (prc hu en 0 a).toInt ≤ (sv a).toInt ∧ (prc hu en 0 a).toInt ≤ c.toInt := by
  unfold eatb
  simp only [Bool.and_eq_true, decide_eq_true_eq]
theorem eatb_f {hu : Nat → Int32} {en : Int32} {sv st : Nat → Int32} {c : Int32} {a : Nat} (h : ¬ ((st a).toInt = -1 ∧ (prc hu en 0 a).toInt ≤ (sv a).toInt ∧ (prc hu en 0 a).toInt ≤ c.toInt)) : eatb hu en sv st c a = false := Bool.eq_false_iff.mpr (fun k => h (eatb_t.mp k))
/-- the chest before actor a comes to it -/
def chs (hu : Nat → Int32) (en : Int32) (sv st : Nat → Int32) (c : Int32) : Nat → Int32
  | 0 => c
  | a + 1 => if eatb hu en sv st (chs hu en sv st c a) a = true then chs hu en sv st c a + -(prc hu en 0 a) else chs hu en sv st c a
theorem chs_y {hu : Nat → Int32} {en : Int32} {sv st : Nat → Int32} {c : Int32} {a : Nat} (h : eatb hu en sv st (chs hu en sv st c a) a = true) : chs hu en sv st c (a + 1) = chs hu en sv st c a + -(prc hu en 0 a) := if_pos h
theorem chs_n {hu : Nat → Int32} {en : Int32} {sv st : Nat → Int32} {c : Int32} {a : Nat} (h : eatb hu en sv st (chs hu en sv st c a) a = false) : chs hu en sv st c (a + 1) = chs hu en sv st c a := if_neg (by rw [h]; decide)
/-- the class: what he has, when he starved -/
def NtC (hu : Nat → Int32) (en ra ni : Int32) (sv st : Nat → Int32) (c : Int32) (a : Nat) (s t : Int32) : Prop := (eatb hu en sv st c a = true ∧ R_k_grown (sv a + -(prc hu en 0 a)) ra s ∧ t = st a) ∨ (eatb hu en sv st c a = false ∧ (st a).toInt = -1 ∧ s = sv a ∧ t = ni) ∨ (eatb hu en sv st c a = false ∧ (st a).toInt ≠ -1 ∧ s = sv a ∧ t = st a)
theorem nc_owes {cl lf S T : Nat → Int32} {ni f ra u0 u1 : Int32} {ow u2 u3 u4 u5 : Nat → Int32} : ∀ (N : Nat) (l : Int32) (A : Nat → Int32), fx (T_k_passNight_34 cl lf ni f S T ra u0 u1 u2 u3 u4 u5) N (l, A) → (0 ≤ l.toInt ∧ l.toInt ≤ 25) → (∀ j : Nat, (j : Int) < l.toInt → R_k_grown (ow j) ra (A j)) → (∀ j : Nat, l.toInt ≤ (j : Int) → A j = ow j) → u0 = f ∧ u1 = ni + 1 ∧ (∀ p : Nat, p < 5 → u2 p = cl p) ∧ (∀ j : Nat, j < 25 → R_k_grown (ow j) ra (u3 j)) ∧ u4 = S ∧ u5 = T := by
  intro N
  induction N with
  | zero => intro l A h; exact h.elim
  | succ N ih =>
    intro l A h hl hA hB
    replace h := fx_o h
    dsimp only [T_k_passNight_34] at h
    rcases h with ⟨c, b0, e0, b1, e1, d0, d1, d2, d3, d4, d5⟩ | ⟨c, b2, e2, b3, h3, b4, e4, b5, e5, h⟩
    · have k0 : Int32.toNatClampNeg (0 : Int32) = 0 := by decide
      have k5 : Int32.toNatClampNeg (5 : Int32) = 5 := by decide
      rw [k0, k5] at e0
      refine ⟨d0, by rw [d1, e1], fun p hp => ?_, fun j hj => ?_, d4, d5⟩
      · rw [d2, ← e0]; exact cpy_at hp
      · rw [d3]; exact hA j (by omega)
    · have g5 : b5.toInt = l.toInt + 1 := by rw [e5]; exact mi_addc (by decide) (by omega) (by omega)
      rw [mi_cl, hB _ (by omega)] at e2
      rw [e2] at h3
      refine ih b5 b4 h (by omega) (fun j hj => ?_) (fun j hj => ?_)
      · rw [← e4, mi_cl]
        by_cases q : j = l.toInt.toNat
        · rw [q, up_eq]; exact h3
        · rw [up_ne q]; exact hA j (by omega)
      · rw [← e4, mi_cl, up_ne (by omega)]; exact hB j (by omega)
theorem dine_sp {hu : Nat → Int32} {l en ni c ra b1 : Int32} {S T b2 b3 sv st : Nat → Int32} (h0 : 0 ≤ l.toInt) (hS : S l.toInt.toNat = sv l.toInt.toNat) (hT : T l.toInt.toNat = st l.toInt.toNat) (hst : (st l.toInt.toNat).toInt = -1) (h : R_k_dine hu l en S T ni c ra b1 b2 b3) : (b1 = if eatb hu en sv st c l.toInt.toNat = true then c + -(prc hu en 0 l.toInt.toNat) else c) ∧ NtC hu en ra ni sv st c l.toInt.toNat (b2 l.toInt.toNat) (b3 l.toInt.toNat) ∧ (∀ j : Nat, j ≠ l.toInt.toNat → b2 j = S j ∧ b3 j = T j) := by
  obtain ⟨r1, h1, z3, e3, h⟩ := h
  have h1 := pr_sp h1
  rw [mi_cl, hS] at e3
  rcases h with ⟨c1, g7, f7, d1, d2, d3⟩ | ⟨c1, ⟨c2, z11, f11, n8, g4, ⟨y1, k1, y2, k2, y3, k3, y4, k4, k5, k6⟩, z15, f15, r16, h16, g18, f18, d1, d2, d3⟩ | ⟨c2, g19, f19, d1, d2, d3⟩⟩
  · have ef : eatb hu en sv st c l.toInt.toNat = false := eatb_f (fun k => by rw [h1, e3] at c1; omega)
    rw [ef, if_neg (by decide)]
    refine ⟨d1, Or.inr (Or.inl ⟨ef, hst, by rw [d2, hS], by rw [d3, ← f7, mi_cl, up_eq]⟩), fun j hj => ⟨by rw [d2], by rw [d3, ← f7, mi_cl, up_ne hj]⟩⟩
  · have et : eatb hu en sv st c l.toInt.toNat = true := eatb_t.mpr ⟨hst, by rw [h1, e3] at c1; exact c1, by rw [h1] at c2; exact c2⟩
    rw [if_pos et]
    have v : g4 l.toInt.toNat = sv l.toInt.toNat + -(prc hu en 0 l.toInt.toNat) := by
      rw [k6, ← k3, mi_cl, up_eq, k2, k1, mi_cl, hS, f11, h1]
    rw [mi_cl, v] at f15
    rw [f15] at h16
    refine ⟨by rw [d1, k5, k4, f11, h1], Or.inl ⟨et, by rw [d2, ← f18, mi_cl, up_eq]; exact h16, by rw [d3, hT]⟩, fun j hj => ⟨?_, by rw [d3]⟩⟩
    rw [d2, ← f18, mi_cl, up_ne hj, k6, ← k3, mi_cl, up_ne hj]
  · have ef : eatb hu en sv st c l.toInt.toNat = false := eatb_f (fun k => by rw [h1] at c2; omega)
    rw [ef, if_neg (by decide)]
    refine ⟨d1, Or.inr (Or.inl ⟨ef, hst, by rw [d2, hS], by rw [d3, ← f19, mi_cl, up_eq]⟩), fun j hj => ⟨by rw [d2], by rw [d3, ← f19, mi_cl, up_ne hj]⟩⟩
theorem nc_sp {ac ni ra en ch u0 u1 : Int32} {cl lf ow hu sv st u2 u3 u4 u5 : Nat → Int32} (hac : 0 ≤ ac.toInt ∧ ac.toInt ≤ 6) (h : R_k_passNight ac cl lf ni ra ow hu en ch sv st u0 u1 u2 u3 u4 u5) : u0 = chs hu en sv st ch ac.toInt.toNat ∧ u1 = ni + 1 ∧ (∀ p : Nat, p < 5 → u2 p = cl p) ∧ (∀ j : Nat, j < 25 → R_k_grown (ow j) ra (u3 j)) ∧ (∀ a : Nat, (a : Int) < ac.toInt → NtC hu en ra ni sv st (chs hu en sv st ch a) a (u4 a) (u5 a)) ∧ (∀ a : Nat, ac.toInt ≤ (a : Int) → u4 a = sv a ∧ u5 a = st a) := by
  have z0 : (0 : Int32).toInt = 0 := by decide
  have key : ∀ (N : Nat) (l c : Int32) (S T : Nat → Int32), fx (T_k_passNight_2 ac cl lf ni ra ow hu en u0 u1 u2 u3 u4 u5) N (l, c, S, T) → (0 ≤ l.toInt ∧ l.toInt ≤ ac.toInt) → c = chs hu en sv st ch l.toInt.toNat → (∀ a : Nat, (a : Int) < l.toInt → NtC hu en ra ni sv st (chs hu en sv st ch a) a (S a) (T a)) → (∀ a : Nat, l.toInt ≤ (a : Int) → S a = sv a ∧ T a = st a) → u0 = chs hu en sv st ch ac.toInt.toNat ∧ u1 = ni + 1 ∧ (∀ p : Nat, p < 5 → u2 p = cl p) ∧ (∀ j : Nat, j < 25 → R_k_grown (ow j) ra (u3 j)) ∧ (∀ a : Nat, (a : Int) < ac.toInt → NtC hu en ra ni sv st (chs hu en sv st ch a) a (u4 a) (u5 a)) ∧ (∀ a : Nat, ac.toInt ≤ (a : Int) → u4 a = sv a ∧ u5 a = st a) := by
    intro N
    induction N with
    | zero => intro l c S T h; exact h.elim
    | succ N ih =>
      intro l c S T h hl hc hA hB
      replace h := fx_o h
      dsimp only [T_k_passNight_2] at h
      rcases h with ⟨c1, h⟩ | ⟨c1, b0, hb, h⟩
      · obtain ⟨d0, d1, d2, d3, d4, d5⟩ := nc_owes (ow := ow) _ _ _ h (by decide) (fun j hj => absurd hj (by omega)) (fun _ _ => rfl)
        have el : l.toInt = ac.toInt := by omega
        subst d4; subst d5
        rw [el] at hc hA hB
        exact ⟨by rw [d0, hc], d1, d2, d3, hA, hB⟩
      · have old := hB l.toInt.toNat (by omega)
        have hb := lv_sp hb
        rw [old.2] at hb
        rcases h with ⟨q, b1, b2, b3, hd, b4, e4, h⟩ | ⟨q, b5, e5, h⟩
        · have hst : (st l.toInt.toNat).toInt = -1 := by
            rcases hb with ⟨k, -⟩ | ⟨-, k⟩
            · exact k.2
            · rw [q] at k; exact absurd k (by decide)
          obtain ⟨x1, x2, x3⟩ := dine_sp hl.1 old.1 old.2 hst hd
          clear hd
          have g4 : b4.toInt = l.toInt + 1 := by rw [e4]; exact mi_addc (by decide) (by omega) (by omega)
          rw [hc] at x1 x2
          refine ih b4 b1 b2 b3 h (by omega) ?_ (fun a ha => ?_) (fun a ha => ?_)
          · rw [x1, g4, show (l.toInt + 1).toNat = l.toInt.toNat + 1 from by omega]; rfl
          · by_cases k : a = l.toInt.toNat
            · rw [k]; exact x2
            · rw [(x3 a k).1, (x3 a k).2]; exact hA a (by omega)
          · rw [(x3 a (by omega)).1, (x3 a (by omega)).2]; exact hB a (by omega)
        · have hst : (st l.toInt.toNat).toInt ≠ -1 := by
            rcases hb with ⟨-, k⟩ | ⟨k, -⟩
            · rw [q] at k; exact absurd k (by decide)
            · exact fun m => k ⟨⟨hl.1, c1⟩, m⟩
          have ef : eatb hu en sv st (chs hu en sv st ch l.toInt.toNat) l.toInt.toNat = false := eatb_f (fun k => hst k.1)
          have g5 : b5.toInt = l.toInt + 1 := by rw [e5]; exact mi_addc (by decide) (by omega) (by omega)
          refine ih b5 c S T h (by omega) ?_ (fun a ha => ?_) (fun a ha => hB a (by omega))
          · rw [g5, show (l.toInt + 1).toNat = l.toInt.toNat + 1 from by omega, chs_n ef]; exact hc
          · by_cases k : a = l.toInt.toNat
            · rw [k]; exact Or.inr (Or.inr ⟨ef, hst, old.1, old.2⟩)
            · exact hA a (by omega)
  exact key _ _ _ _ _ h ⟨by decide, by omega⟩ rfl (fun a ha => absurd ha (by omega)) (fun _ _ => ⟨rfl, rfl⟩)
/-! the reference -/
def NtJ (hu : Nat → Int32) (en ni : Int32) (sv st : Nat → Int32) (c : Int32) (a : Nat) (s t : Int32) : Prop := (eatb hu en sv st c a = true ∧ s = sv a + -(prc hu en 0 a) ∧ t = st a) ∨ (eatb hu en sv st c a = false ∧ (st a).toInt = -1 ∧ s = sv a ∧ t = ni) ∨ (eatb hu en sv st c a = false ∧ (st a).toInt ≠ -1 ∧ s = sv a ∧ t = st a)
def GrJ (cap ra : Int32) (g : Bool) (s v : Int32) : Prop := ∃ w : Int32, ((g = true ∧ ∃ (x y z q : Int64) (b : Int32), x = Int32.toInt64 s ∧ y = Int32.toInt64 ra ∧ z = x * y ∧ q = z / 100 ∧ b = Int64.toInt32 q ∧ w = s + b) ∨ (g = false ∧ w = s + 0)) ∧ ((cap.toInt = 0 ∧ v = w) ∨ (cap.toInt ≠ 0 ∧ R_j_lesser 1000000 w v))
def OwJ (ra o v : Int32) : Prop := ∃ b d : Int32, b = o * ra ∧ d = b / 100 ∧ v = o + d
theorem mo_sp {pa X : Int32} {D cl lf u : Nat → Int32} (hX : 0 ≤ X.toInt ∧ X.toInt ≤ 1) (hpa : 0 ≤ pa.toInt ∧ pa.toInt ≤ 5) (hC : ∀ i : Nat, (i : Int) < pa.toInt → D (36 * X.toInt.toNat + (6 + 2 * i)) = cl i) (h : R_j_morning pa X D lf u) : ∀ p : Nat, (p : Int) < pa.toInt → u p = cl p := by
  have z0 : (0 : Int32).toInt = 0 := by decide
  have key : ∀ (N : Nat) (l : Int32) (A : Nat → Int32), fx (T_j_morning_2 pa X D u) N (l, A) → (0 ≤ l.toInt ∧ l.toInt ≤ pa.toInt) → (∀ p : Nat, (p : Int) < l.toInt → A p = cl p) → ∀ p : Nat, (p : Int) < pa.toInt → u p = cl p := by
    intro N
    induction N with
    | zero => intro l A h; exact h.elim
    | succ N ih =>
      intro l A h hl hA
      replace h := fx_o h
      dsimp only [T_j_morning_2] at h
      rcases h with ⟨c, e⟩ | ⟨c, b0, e0, b1, e1, b2, h2, b3, e3, b4, e4, h⟩
      · intro p hp; rw [e]; exact hA p (by omega)
      · have g0 : b0.toInt = 2 * l.toInt := by rw [e0]; exact mi_cmul (by decide) (by omega) (by omega)
        have g1 : b1.toInt = 6 + 2 * l.toInt := by rw [e1, mi_add (by rw [show (6 : Int32).toInt = 6 from by decide]; omega) (by rw [show (6 : Int32).toInt = 6 from by decide]; omega), g0]; rfl
        have g4 : b4.toInt = l.toInt + 1 := by rw [e4]; exact mi_addc (by decide) (by omega) (by omega)
        have v2 : b2 = cl l.toInt.toNat := by
          rw [of_sp hX (by omega) h2, show b1.toInt.toNat = 6 + 2 * l.toInt.toNat from by omega]
          exact hC _ (by omega)
        clear h2
        refine ih b4 b3 h (by omega) (fun p hp => ?_)
        rw [← e3, mi_cl]
        by_cases q : p = l.toInt.toNat
        · rw [q, up_eq, v2]
        · rw [up_ne q]; exact hA p (by omega)
  exact key _ _ _ h ⟨by decide, by omega⟩ (fun p hp => absurd hp (by omega))
theorem nj_owes {pa X ni f L ra u0 u1 u2 : Int32} {D lf S T ow cl u3 u4 u5 u6 : Nat → Int32} (hX : 0 ≤ X.toInt ∧ X.toInt ≤ 1) (hpa : 0 ≤ pa.toInt ∧ pa.toInt ≤ 5) (hC : ∀ i : Nat, (i : Int) < pa.toInt → D (36 * X.toInt.toNat + (6 + 2 * i)) = cl i) : ∀ (N : Nat) (l : Int32) (A : Nat → Int32), fx (T_j_night_153 pa X D lf ni f L S T ra u0 u1 u2 u3 u4 u5 u6) N (l, A) → (0 ≤ l.toInt ∧ l.toInt ≤ 25) → (∀ j : Nat, (j : Int) < l.toInt → OwJ ra (ow j) (A j)) → (∀ j : Nat, l.toInt ≤ (j : Int) → A j = ow j) → u0 = f ∧ u1 = ni + 1 ∧ u2 = L ∧ (∀ p : Nat, (p : Int) < pa.toInt → u3 p = cl p) ∧ (∀ j : Nat, j < 25 → OwJ ra (ow j) (u4 j)) ∧ u5 = S ∧ u6 = T := by
  intro N
  induction N with
  | zero => intro l A h; exact h.elim
  | succ N ih =>
    intro l A h hl hA hB
    replace h := fx_o h
    dsimp only [T_j_night_153] at h
    rcases h with ⟨c, b0, h0, b1, e1, d0, d1, d2, d3, d4, d5, d6⟩ | ⟨c, b2, e2, b3, e3, b4, e4, b5, e5, b6, e6, b7, e7, h⟩
    · refine ⟨d0, by rw [d1, e1], d2, fun p hp => ?_, fun j hj => ?_, d5, d6⟩
      · rw [d3]; exact mo_sp hX hpa hC h0 p hp
      · rw [d4]; exact hA j (by omega)
    · have g7 : b7.toInt = l.toInt + 1 := by rw [e7]; exact mi_addc (by decide) (by omega) (by omega)
      rw [mi_cl, hB _ (by omega)] at e2
      refine ih b7 b6 h (by omega) (fun j hj => ?_) (fun j hj => ?_)
      · rw [← e6, mi_cl]
        by_cases q : j = l.toInt.toNat
        · rw [q, up_eq]; exact ⟨b3, b4, by rw [e3, e2], e4, by rw [e5, e2]⟩
        · rw [up_ne q]; exact hA j (by omega)
      · rw [← e6, mi_cl, up_ne (by omega)]; exact hB j (by omega)
theorem nj_grow {ac pa X ni f L ra cap u0 u1 u2 : Int32} {D lf T ow cl S0 u3 u4 u5 u6 : Nat → Int32} (hac : 0 ≤ ac.toInt ∧ ac.toInt ≤ 6) (hX : 0 ≤ X.toInt ∧ X.toInt ≤ 1) (hpa : 0 ≤ pa.toInt ∧ pa.toInt ≤ 5) (hC : ∀ i : Nat, (i : Int) < pa.toInt → D (36 * X.toInt.toNat + (6 + 2 * i)) = cl i) (hL : 0 ≤ L.toInt ∧ L.toInt ≤ 63) : ∀ (N : Nat) (l : Int32) (S : Nat → Int32), fx (T_j_night_61 ac pa X D lf ni f L T ra ow cap u0 u1 u2 u3 u4 u5 u6) N (l, S) → (0 ≤ l.toInt ∧ l.toInt ≤ ac.toInt) → (∀ a : Nat, (a : Int) < l.toInt → GrJ cap ra (lvb L a) (S0 a) (S a)) → (∀ a : Nat, l.toInt ≤ (a : Int) → S a = S0 a) → u0 = f ∧ u1 = ni + 1 ∧ u2 = L ∧ (∀ p : Nat, (p : Int) < pa.toInt → u3 p = cl p) ∧ (∀ j : Nat, j < 25 → OwJ ra (ow j) (u4 j)) ∧ (∀ a : Nat, (a : Int) < ac.toInt → GrJ cap ra (lvb L a) (S0 a) (u5 a)) ∧ u6 = T := by
  have z0 : (0 : Int32).toInt = 0 := by decide
  intro N
  induction N with
  | zero => intro l S h; exact h.elim
  | succ N ih =>
    intro l S h hl hA hB
    replace h := fx_o h
    dsimp only [T_j_night_61] at h
    rcases h with ⟨c, h⟩ | ⟨c, b0, e0, b1, h1, h⟩
    · obtain ⟨d0, d1, d2, d3, d4, d5, d6⟩ := nj_owes (ow := ow) hX hpa hC _ _ _ h (by decide) (fun j hj => absurd hj (by omega)) (fun _ _ => rfl)
      exact ⟨d0, d1, d2, d3, d4, fun a ha => by rw [d5]; exact hA a (by omega), d6⟩
    · have h1 := has_sp hL (by omega) h1
      rw [mi_cl, hB _ (by omega)] at e0
      have fin : ∀ (w v n : Int32) (B : Nat → Int32), B l.toInt.toNat = v → (∀ j : Nat, j ≠ l.toInt.toNat → B j = S j) → GrJ cap ra (lvb L l.toInt.toNat) (S0 l.toInt.toNat) v → n = l + 1 → fx (T_j_night_61 ac pa X D lf ni f L T ra ow cap u0 u1 u2 u3 u4 u5 u6) N (n, B) → u0 = f ∧ u1 = ni + 1 ∧ u2 = L ∧ (∀ p : Nat, (p : Int) < pa.toInt → u3 p = cl p) ∧ (∀ j : Nat, j < 25 → OwJ ra (ow j) (u4 j)) ∧ (∀ a : Nat, (a : Int) < ac.toInt → GrJ cap ra (lvb L a) (S0 a) (u5 a)) ∧ u6 = T := by
        clear h
        intro w v n B hv ho hg en h
        have gn : n.toInt = l.toInt + 1 := by rw [en]; exact mi_addc (by decide) (by omega) (by omega)
        refine ih n B h (by omega) (fun a ha => ?_) (fun a ha => ?_)
        · by_cases q : a = l.toInt.toNat
          · rw [q, hv]; exact hg
          · rw [ho a q]; exact hA a (by omega)
        · rw [ho a (by omega)]; exact hB a (by omega)
      rcases h with ⟨q, b2, e2, b3, e3, ⟨q2, b4, e4, b5, e5, b6, e6, h⟩ | ⟨q2, b7, e7, b8, h8, b9, e9, b10, e10, h⟩⟩ | ⟨q, b11, e11, b12, e12, b13, e13, b14, e14, b15, e15, b16, e16, b17, e17, ⟨q2, b18, e18, b19, e19, b20, e20, h⟩ | ⟨q2, b21, e21, b22, h22, b23, e23, b24, e24, h⟩⟩
      · have hf : lvb L l.toInt.toNat = false := by
          rcases h1 with ⟨-, k⟩ | ⟨k, -⟩
          · rw [k] at q; exact absurd q (by decide)
          · exact k
        have v3 : b3 l.toInt.toNat = b2 := by rw [← e3, mi_cl, up_eq]
        rw [mi_cl, v3] at e4
        refine fin b2 b2 b6 b5 (by rw [← e5, mi_cl, up_eq, e4]) (fun j hj => by rw [← e5, mi_cl, up_ne hj, ← e3, mi_cl, up_ne hj]) ?_ e6 h
        rw [hf]
        exact ⟨b2, Or.inr ⟨rfl, by rw [e2, e0]⟩, Or.inl ⟨q2, rfl⟩⟩
      · have hf : lvb L l.toInt.toNat = false := by
          rcases h1 with ⟨-, k⟩ | ⟨k, -⟩
          · rw [k] at q; exact absurd q (by decide)
          · exact k
        have v3 : b3 l.toInt.toNat = b2 := by rw [← e3, mi_cl, up_eq]
        rw [mi_cl, v3] at e7
        rw [e7] at h8
        refine fin b2 b8 b10 b9 (by rw [← e9, mi_cl, up_eq]) (fun j hj => by rw [← e9, mi_cl, up_ne hj, ← e3, mi_cl, up_ne hj]) ?_ e10 h
        rw [hf]
        exact ⟨b2, Or.inr ⟨rfl, by rw [e2, e0]⟩, Or.inr ⟨q2, h8⟩⟩
      · have hf : lvb L l.toInt.toNat = true := by
          rcases h1 with ⟨k, -⟩ | ⟨-, k⟩
          · exact k
          · rw [k] at q; exact absurd (by decide) q
        have v17 : b17 l.toInt.toNat = b16 := by rw [← e17, mi_cl, up_eq]
        rw [mi_cl, v17] at e18
        refine fin b16 b16 b20 b19 (by rw [← e19, mi_cl, up_eq, e18]) (fun j hj => by rw [← e19, mi_cl, up_ne hj, ← e17, mi_cl, up_ne hj]) ?_ e20 h
        rw [hf, ← e0]
        exact ⟨b16, Or.inl ⟨rfl, b11, b12, b13, b14, b15, e11, e12, e13, e14, e15, e16⟩, Or.inl ⟨q2, rfl⟩⟩
      · have hf : lvb L l.toInt.toNat = true := by
          rcases h1 with ⟨k, -⟩ | ⟨-, k⟩
          · exact k
          · rw [k] at q; exact absurd (by decide) q
        have v17 : b17 l.toInt.toNat = b16 := by rw [← e17, mi_cl, up_eq]
        rw [mi_cl, v17] at e21
        rw [e21] at h22
        refine fin b16 b22 b24 b23 (by rw [← e23, mi_cl, up_eq]) (fun j hj => by rw [← e23, mi_cl, up_ne hj, ← e17, mi_cl, up_ne hj]) ?_ e24 h
        rw [hf, ← e0]
        exact ⟨b16, Or.inl ⟨rfl, b11, b12, b13, b14, b15, e11, e12, e13, e14, e15, e16⟩, Or.inr ⟨q2, h22⟩⟩
theorem en_sp {l X en c ac b2 b3 : Int32} {D S b4 hu sv st : Nat → Int32} (hX : 0 ≤ X.toInt ∧ X.toInt ≤ 1) (hac : ac.toInt ≤ 6) (hH : ∀ i : Nat, (i : Int) < ac.toInt → D (36 * X.toInt.toNat + (16 + 2 * i)) = hu i) (hl : 0 ≤ l.toInt ∧ l.toInt < ac.toInt) (hS : S l.toInt.toNat = sv l.toInt.toNat) (hst : (st l.toInt.toNat).toInt = -1) (h : R_j_eatsNow l X D en S c b2 b3 b4) : (eatb hu en sv st c l.toInt.toNat = true ∧ b2 = 1 ∧ b3 = c + -(prc hu en 0 l.toInt.toNat) ∧ b4 l.toInt.toNat = sv l.toInt.toNat + -(prc hu en 0 l.toInt.toNat) ∧ ∀ j : Nat, j ≠ l.toInt.toNat → b4 j = S j) ∨ (eatb hu en sv st c l.toInt.toNat = false ∧ b2 = 0 ∧ b3 = c ∧ b4 = S) := by
  obtain ⟨r1, h1, z3, e3, h⟩ := h
  have h1 := ea_sp hX hac hH hl h1
  rw [mi_cl, hS] at e3
  rcases h with ⟨c1, d1, d2, d3⟩ | ⟨c1, ⟨c2, z10, f10, n, g, ⟨y1, k1, y2, k2, y3, k3, y4, k4, k5, k6⟩, d1, d2, d3⟩ | ⟨c2, d1, d2, d3⟩⟩
  · exact Or.inr ⟨eatb_f (fun k => by rw [h1, e3] at c1; omega), d1, d2, d3⟩
  · have et : eatb hu en sv st c l.toInt.toNat = true := eatb_t.mpr ⟨hst, by rw [h1, e3] at c1; exact c1, by rw [h1] at c2; exact c2⟩
    refine Or.inl ⟨et, d1, by rw [d2, k5, k4, f10, h1], ?_, fun j hj => ?_⟩
    · rw [d3, k6, ← k3, mi_cl, up_eq, k2, k1, mi_cl, hS, f10, h1]
    · rw [d3, k6, ← k3, mi_cl, up_ne hj]
  · exact Or.inr ⟨eatb_f (fun k => by rw [h1] at c2; omega), d1, d2, d3⟩
theorem nj_sp {ac pa X ni ra cap en ch L u0 u1 u2 : Int32} {D lf ow hu cl sv st u3 u4 u5 u6 : Nat → Int32} (hac : 0 ≤ ac.toInt ∧ ac.toInt ≤ 6) (hX : 0 ≤ X.toInt ∧ X.toInt ≤ 1) (hpa : 0 ≤ pa.toInt ∧ pa.toInt ≤ 5) (hC : ∀ i : Nat, (i : Int) < pa.toInt → D (36 * X.toInt.toNat + (6 + 2 * i)) = cl i) (hH : ∀ i : Nat, (i : Int) < ac.toInt → D (36 * X.toInt.toNat + (16 + 2 * i)) = hu i) (hL : Lvs ac L st) (h : R_j_night ac pa X D lf ni ra ow cap en ch L sv st u0 u1 u2 u3 u4 u5 u6) : u0 = chs hu en sv st ch ac.toInt.toNat ∧ u1 = ni + 1 ∧ ((0 ≤ u2.toInt ∧ u2.toInt ≤ 63) ∧ ∀ k : Nat, k < 6 → (lvb u2 k = true ↔ (k : Int) < ac.toInt ∧ eatb hu en sv st (chs hu en sv st ch k) k = true)) ∧ (∀ p : Nat, (p : Int) < pa.toInt → u3 p = cl p) ∧ (∀ j : Nat, j < 25 → OwJ ra (ow j) (u4 j)) ∧ (∀ a : Nat, (a : Int) < ac.toInt → ∃ s : Int32, NtJ hu en ni sv st (chs hu en sv st ch a) a s (u6 a) ∧ GrJ cap ra (eatb hu en sv st (chs hu en sv st ch a) a) s (u5 a)) ∧ (∀ a : Nat, ac.toInt ≤ (a : Int) → u6 a = st a) := by
  have z0 : (0 : Int32).toInt = 0 := by decide
  have key : ∀ (N : Nat) (l c M : Int32) (S T : Nat → Int32), fx (T_j_night_2 ac pa X D lf ni ra ow cap en u0 u1 u2 u3 u4 u5 u6) N (l, c, M, S, T) → (0 ≤ l.toInt ∧ l.toInt ≤ ac.toInt) → c = chs hu en sv st ch l.toInt.toNat → ((0 ≤ M.toInt ∧ M.toInt ≤ 63) ∧ ∀ k : Nat, k < 6 → (lvb M k = true ↔ ((k : Int) < ac.toInt ∧ (st k).toInt = -1) ∧ ((k : Int) < l.toInt → eatb hu en sv st (chs hu en sv st ch k) k = true))) → (∀ a : Nat, (a : Int) < l.toInt → NtJ hu en ni sv st (chs hu en sv st ch a) a (S a) (T a)) → (∀ a : Nat, l.toInt ≤ (a : Int) → S a = sv a ∧ T a = st a) → u0 = chs hu en sv st ch ac.toInt.toNat ∧ u1 = ni + 1 ∧ ((0 ≤ u2.toInt ∧ u2.toInt ≤ 63) ∧ ∀ k : Nat, k < 6 → (lvb u2 k = true ↔ (k : Int) < ac.toInt ∧ eatb hu en sv st (chs hu en sv st ch k) k = true)) ∧ (∀ p : Nat, (p : Int) < pa.toInt → u3 p = cl p) ∧ (∀ j : Nat, j < 25 → OwJ ra (ow j) (u4 j)) ∧ (∀ a : Nat, (a : Int) < ac.toInt → ∃ s : Int32, NtJ hu en ni sv st (chs hu en sv st ch a) a s (u6 a) ∧ GrJ cap ra (eatb hu en sv st (chs hu en sv st ch a) a) s (u5 a)) ∧ (∀ a : Nat, ac.toInt ≤ (a : Int) → u6 a = st a) := by
    intro N
    induction N with
    | zero => intro l c M S T h; exact h.elim
    | succ N ih =>
      intro l c M S T h hl hc hM hA hB
      replace h := fx_o h
      dsimp only [T_j_night_2] at h
      rcases h with ⟨c1, h⟩ | ⟨c1, b0, hb, h⟩
      · have el : l.toInt = ac.toInt := by omega
        rw [el] at hc hA hB hM
        obtain ⟨d0, d1, d2, d3, d4, d5, d6⟩ := nj_grow (S0 := S) hac hX hpa hC hM.1 _ _ _ h ⟨by decide, by omega⟩ (fun a ha => absurd ha (by omega)) (fun _ _ => rfl)
        have same : ∀ k : Nat, k < 6 → (lvb M k = true ↔ (k : Int) < ac.toInt ∧ eatb hu en sv st (chs hu en sv st ch k) k = true) := by
          intro k hk
          constructor
          · intro q
            have := (hM.2 k hk).mp q
            exact ⟨this.1.1, this.2 this.1.1⟩
          · intro q
            exact (hM.2 k hk).mpr ⟨⟨q.1, (eatb_t.mp q.2).1⟩, fun _ => q.2⟩
        refine ⟨by rw [d0, hc], d1, by rw [d2]; exact ⟨hM.1, same⟩, d3, d4, fun a ha => ⟨S a, by rw [d6]; exact hA a ha, ?_⟩, fun a ha => by rw [d6]; exact (hB a ha).2⟩
        have q := d5 a ha
        have e : lvb M a = eatb hu en sv st (chs hu en sv st ch a) a := by
          rw [Bool.eq_iff_iff]
          constructor
          · intro k; exact ((same a (by omega)).mp k).2
          · intro k; exact (same a (by omega)).mpr ⟨ha, k⟩
        rw [e] at q
        exact q
      · have old := hB l.toInt.toNat (by omega)
        have hb := has_sp hM.1 (by omega) hb
        have ql := hM.2 l.toInt.toNat (by omega)
        rcases h with ⟨q, b1, e1, h⟩ | ⟨q, b2, b3, b4, h4, h⟩
        · have hst : (st l.toInt.toNat).toInt ≠ -1 := by
            rcases hb with ⟨-, k⟩ | ⟨k, -⟩
            · rw [k] at q; exact absurd q (by decide)
            · intro m
              rw [ql.mpr ⟨⟨by omega, m⟩, fun w => absurd w (by omega)⟩] at k
              exact absurd k (by decide)
          have ef : eatb hu en sv st (chs hu en sv st ch l.toInt.toNat) l.toInt.toNat = false := eatb_f (fun k => hst k.1)
          have g1 : b1.toInt = l.toInt + 1 := by rw [e1]; exact mi_addc (by decide) (by omega) (by omega)
          refine ih b1 c M S T h (by omega) ?_ ⟨hM.1, fun k hk => ?_⟩ (fun a ha => ?_) (fun a ha => hB a (by omega))
          · rw [g1, show (l.toInt + 1).toNat = l.toInt.toNat + 1 from by omega, chs_n ef]; exact hc
          · refine (hM.2 k hk).trans ⟨fun w => ⟨w.1, fun y => ?_⟩, fun w => ⟨w.1, fun y => w.2 (by omega)⟩⟩
            by_cases m : k = l.toInt.toNat
            · rw [m] at w; exact absurd w.1.2 hst
            · exact w.2 (by omega)
          · by_cases k : a = l.toInt.toNat
            · rw [k]; exact Or.inr (Or.inr ⟨ef, hst, old.1, old.2⟩)
            · exact hA a (by omega)
        · have hst : (st l.toInt.toNat).toInt = -1 := by
            rcases hb with ⟨k, -⟩ | ⟨-, k⟩
            · exact (ql.mp k).1.2
            · rw [k] at q; exact absurd (by decide) q
          have h4 := en_sp (st := st) hX hac.2 hH ⟨hl.1, c1⟩ old.1 hst h4
          rw [hc] at h4
          rcases h with ⟨q2, b5, e5, h⟩ | ⟨q2, b6, e6, b7, e7, b8, e8, b9, e9, b10, e10, h⟩
          · rcases h4 with ⟨et, -, x3, x4, x5⟩ | ⟨-, k, -⟩
            · have g5 : b5.toInt = l.toInt + 1 := by rw [e5]; exact mi_addc (by decide) (by omega) (by omega)
              refine ih b5 b3 M b4 T h (by omega) ?_ ⟨hM.1, fun k hk => ?_⟩ (fun a ha => ?_) (fun a ha => ?_)
              · rw [g5, show (l.toInt + 1).toNat = l.toInt.toNat + 1 from by omega, chs_y et]; exact x3
              · refine (hM.2 k hk).trans ⟨fun w => ⟨w.1, fun y => ?_⟩, fun w => ⟨w.1, fun y => w.2 (by omega)⟩⟩
                by_cases m : k = l.toInt.toNat
                · rw [m]; exact et
                · exact w.2 (by omega)
              · by_cases k : a = l.toInt.toNat
                · rw [k]; exact Or.inl ⟨et, x4, old.2⟩
                · rw [x5 a k]; exact hA a (by omega)
              · rw [x5 a (by omega)]; exact hB a (by omega)
            · rw [k] at q2; exact absurd (by decide) q2
          · rcases h4 with ⟨-, k, -⟩ | ⟨ef, -, x3, x4⟩
            · rw [k] at q2; exact absurd q2 (by decide)
            · have g10 : b10.toInt = l.toInt + 1 := by rw [e10]; exact mi_addc (by decide) (by omega) (by omega)
              have off := bt_off hM.1 (b := l) (by omega)
              have v8 : b8 = M &&& ((1 : Int32) <<< (l &&& 31) ^^^ -1) := by rw [e8, e7, e6]
              refine ih b10 b3 b8 b4 b9 h (by omega) ?_ ⟨by rw [v8]; exact off.1, fun k hk => ?_⟩ (fun a ha => ?_) (fun a ha => ?_)
              · rw [g10, show (l.toInt + 1).toNat = l.toInt.toNat + 1 from by omega, chs_n ef]; exact x3
              · rw [v8, off.2 k hk, Bool.and_eq_true, decide_eq_true_eq]
                constructor
                · intro w
                  have w1 := (hM.2 k hk).mp w.1
                  exact ⟨w1.1, fun y => w1.2 (by omega)⟩
                · intro w
                  have ne : k ≠ l.toInt.toNat := by
                    intro m
                    have := w.2 (by omega)
                    rw [m, ef] at this
                    exact absurd this (by decide)
                  exact ⟨(hM.2 k hk).mpr ⟨w.1, fun y => w.2 (by omega)⟩, ne⟩
              · by_cases k : a = l.toInt.toNat
                · rw [k]; exact Or.inr (Or.inl ⟨ef, hst, by rw [x4]; exact old.1, by rw [← e9, mi_cl, up_eq]⟩)
                · rw [x4, ← e9, mi_cl, up_ne k]; exact hA a (by omega)
              · rw [x4, ← e9, mi_cl, up_ne (by omega)]; exact hB a (by omega)
  refine key _ _ _ _ _ _ h ⟨by decide, by omega⟩ rfl ⟨hL.1, fun k hk => ?_⟩ (fun a ha => absurd ha (by omega)) (fun _ _ => ⟨rfl, rfl⟩)
  exact (hL.2 k hk).trans ⟨fun w => ⟨w, fun y => absurd y (by omega)⟩, fun w => w.1⟩
