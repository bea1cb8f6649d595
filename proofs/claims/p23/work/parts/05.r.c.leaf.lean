/-! evenings: prices, who lives, what grows -/
def prc (hu : Nat → Int32) (en mo : Int32) (a : Nat) : Int32 := hu a + hu a * (en + mo) / 10
theorem pb_sp {hu : Nat → Int32} {a en b u : Int32} (h : R_k_priceBehind hu a en b u) : u = prc hu en b a.toInt.toNat := by
  obtain ⟨z1, e1, z2, e2, z3, e3, z4, e4, z5, e5, z6, e6, e⟩ := h
  rw [e, e6, e5, e4, e3, e2, e1, mi_cl]; rfl
theorem pr_sp {hu : Nat → Int32} {a en u : Int32} (h : R_k_price hu a en u) : u = prc hu en 0 a.toInt.toNat := by
  obtain ⟨r, h, e⟩ := h
  rw [e]; exact pb_sp h
theorem hg_sp {a X u : Int32} {D hu : Nat → Int32} {ac : Int32} (hX : 0 ≤ X.toInt ∧ X.toInt ≤ 1) (hac : ac.toInt ≤ 6) (hD : ∀ i : Nat, (i : Int) < ac.toInt → D (36 * X.toInt.toNat + (16 + 2 * i)) = hu i) (ha : 0 ≤ a.toInt ∧ a.toInt < ac.toInt) (h : R_j_hungerOf a X D u) : u = hu a.toInt.toNat := by
  obtain ⟨z1, e1, z2, e2, r, h, e⟩ := h
  have g1 : z1.toInt = 2 * a.toInt := by rw [e1]; exact mi_cmul (by decide) (by omega) (by omega)
  have g2 : z2.toInt = 16 + 2 * a.toInt := by rw [e2, mi_add (by rw [show (16 : Int32).toInt = 16 from by decide]; omega) (by rw [show (16 : Int32).toInt = 16 from by decide]; omega), g1]; rfl
  rw [e, of_sp hX (by omega) h, show z2.toInt.toNat = 16 + 2 * a.toInt.toNat from by omega]
  exact hD _ (by omega)
theorem hd_sp {a X u : Int32} {D ha : Nat → Int32} {pa : Int32} (hX : 0 ≤ X.toInt ∧ X.toInt ≤ 1) (hpa : pa.toInt ≤ 5) (hD : ∀ i : Nat, (i : Int) < pa.toInt → D (36 * X.toInt.toNat + (7 + 2 * i)) = ha i) (hp : 0 ≤ a.toInt ∧ a.toInt < pa.toInt) (h : R_j_handsOf a X D u) : u = ha a.toInt.toNat := by
  obtain ⟨z1, e1, z2, e2, z3, e3, r, h, e⟩ := h
  have g1 : z1.toInt = 2 * a.toInt := by rw [e1]; exact mi_cmul (by decide) (by omega) (by omega)
  have g2 : z2.toInt = 6 + 2 * a.toInt := by rw [e2, mi_add (by rw [show (6 : Int32).toInt = 6 from by decide]; omega) (by rw [show (6 : Int32).toInt = 6 from by decide]; omega), g1]; rfl
  have g3 : z3.toInt = 7 + 2 * a.toInt := by rw [e3, mi_addc (C := 1) (by decide) (by omega) (by omega), g2]; omega
  rw [e, of_sp hX (by omega) h, show z3.toInt.toNat = 7 + 2 * a.toInt.toNat from by omega]
  exact hD _ (by omega)
theorem ea_sp {a X en b u : Int32} {D hu : Nat → Int32} {ac : Int32} (hX : 0 ≤ X.toInt ∧ X.toInt ≤ 1) (hac : ac.toInt ≤ 6) (hD : ∀ i : Nat, (i : Int) < ac.toInt → D (36 * X.toInt.toNat + (16 + 2 * i)) = hu i) (ha : 0 ≤ a.toInt ∧ a.toInt < ac.toInt) (h : R_j_eats a X D en b u) : u = prc hu en b a.toInt.toNat := by
  obtain ⟨r1, h1, r3, h3, z5, e5, z6, e6, z7, e7, z8, e8, e⟩ := h
  rw [e, e8, e7, e6, e5, hg_sp hX hac hD ha h1, hg_sp hX hac hD ha h3]; rfl
theorem ka_sp {a n u : Int32} (h : R_k_hasActor a n u) : ((0 ≤ a.toInt ∧ a.toInt < n.toInt) ∧ u = 1) ∨ (¬ (0 ≤ a.toInt ∧ a.toInt < n.toInt) ∧ u = 0) := by
  rcases h with ⟨c, e⟩ | ⟨c, ⟨c2, e⟩ | ⟨c2, e⟩⟩
  · exact Or.inr ⟨by omega, e⟩
  · exact Or.inr ⟨by omega, e⟩
  · exact Or.inl ⟨by omega, e⟩
theorem kp_sp {a n u : Int32} (h : R_k_hasPalm a n u) : ((0 ≤ a.toInt ∧ a.toInt < n.toInt) ∧ u = 1) ∨ (¬ (0 ≤ a.toInt ∧ a.toInt < n.toInt) ∧ u = 0) := by
  rcases h with ⟨c, e⟩ | ⟨c, ⟨c2, e⟩ | ⟨c2, e⟩⟩
  · exact Or.inr ⟨by omega, e⟩
  · exact Or.inr ⟨by omega, e⟩
  · exact Or.inl ⟨by omega, e⟩
/-- lives(): he is there and has not starved -/
theorem lv_sp {a n u : Int32} {st : Nat → Int32} (h : R_k_lives a n st u) : (((0 ≤ a.toInt ∧ a.toInt < n.toInt) ∧ (st a.toInt.toNat).toInt = -1) ∧ u = 1) ∨ (¬ ((0 ≤ a.toInt ∧ a.toInt < n.toInt) ∧ (st a.toInt.toNat).toInt = -1) ∧ u = 0) := by
  obtain ⟨r, h1, h⟩ := h
  have h1 := ka_sp h1
  rcases h with ⟨c, z, ez, h⟩ | ⟨c, e⟩
  · rw [c] at h1
    rw [mi_cl] at ez
    rw [ez] at h
    rcases h1 with ⟨p, -⟩ | ⟨-, p⟩
    · rcases h with ⟨d, e⟩ | ⟨d, e⟩
      · exact Or.inr ⟨fun q => d q.2, e⟩
      · exact Or.inl ⟨⟨p, d⟩, e⟩
    · exact absurd p (by decide)
  · rw [c] at h1
    rcases h1 with ⟨-, p⟩ | ⟨p, -⟩
    · exact absurd p (by decide)
    · exact Or.inr ⟨fun q => p q.1, e⟩
theorem ja_sp {n a u : Int32} (hn : 0 ≤ n.toInt ∧ n.toInt ≤ 6) (h : R_j_isActor n a u) : ((0 ≤ a.toInt ∧ a.toInt < n.toInt) ∧ u = 1) ∨ (¬ (0 ≤ a.toInt ∧ a.toInt < n.toInt) ∧ u = 0) := by
  obtain ⟨z, ez, r, h, h2⟩ := h
  have g : z.toInt = n.toInt - 1 := by rw [ez]; exact mi_subc (by decide) (by omega) (by omega)
  have h := in_sp h
  rcases h2 with ⟨c, e⟩ | ⟨c, e⟩
  · rcases h with ⟨-, p⟩ | ⟨p, -⟩
    · exact Or.inl ⟨by omega, e⟩
    · rw [c] at p; exact absurd p (by decide)
  · rcases h with ⟨p, -⟩ | ⟨-, p⟩
    · rw [c] at p; exact absurd p (by decide)
    · exact Or.inr ⟨by omega, e⟩
theorem jp_sp {n a u : Int32} (hn : 0 ≤ n.toInt ∧ n.toInt ≤ 5) (h : R_j_isPalm n a u) : ((0 ≤ a.toInt ∧ a.toInt < n.toInt) ∧ u = 1) ∨ (¬ (0 ≤ a.toInt ∧ a.toInt < n.toInt) ∧ u = 0) := by
  obtain ⟨z, ez, r, h, h2⟩ := h
  have g : z.toInt = n.toInt - 1 := by rw [ez]; exact mi_subc (by decide) (by omega) (by omega)
  have h := in_sp h
  rcases h2 with ⟨c, e⟩ | ⟨c, e⟩
  · rcases h with ⟨-, p⟩ | ⟨p, -⟩
    · exact Or.inl ⟨by omega, e⟩
    · rw [c] at p; exact absurd p (by decide)
  · rcases h with ⟨p, -⟩ | ⟨-, p⟩
    · rw [c] at p; exact absurd p (by decide)
    · exact Or.inr ⟨by omega, e⟩
/-- who lives, as bits and as a row -/
def Lvs (ac L : Int32) (st : Nat → Int32) : Prop := (0 ≤ L.toInt ∧ L.toInt ≤ 63) ∧ ∀ k : Nat, k < 6 → (lvb L k = true ↔ (k : Int) < ac.toInt ∧ (st k).toInt = -1)
theorem jl_sp {n a L u : Int32} {st : Nat → Int32} (hn : 0 ≤ n.toInt ∧ n.toInt ≤ 6) (hL : Lvs n L st) (h : R_j_isLiving n a L u) : (((0 ≤ a.toInt ∧ a.toInt < n.toInt) ∧ (st a.toInt.toNat).toInt = -1) ∧ u = 1) ∨ (¬ ((0 ≤ a.toInt ∧ a.toInt < n.toInt) ∧ (st a.toInt.toNat).toInt = -1) ∧ u = 0) := by
  obtain ⟨r, h1, h⟩ := h
  have h1 := ja_sp hn h1
  rcases h with ⟨c, r5, h5, h⟩ | ⟨c, e⟩
  · rw [c] at h1
    rcases h1 with ⟨p, -⟩ | ⟨-, p⟩
    · have h5 := has_sp hL.1 (by omega) h5
      have q := hL.2 a.toInt.toNat (by omega)
      rcases h with ⟨d, e⟩ | ⟨d, e⟩
      · rcases h5 with ⟨-, k⟩ | ⟨k, -⟩
        · rw [k] at d; exact absurd d (by decide)
        · exact Or.inr ⟨fun m => by rw [q.mpr ⟨by omega, m.2⟩] at k; exact absurd k (by decide), e⟩
      · rcases h5 with ⟨k, -⟩ | ⟨-, k⟩
        · exact Or.inl ⟨⟨p, (q.mp k).2⟩, e⟩
        · rw [k] at d; exact absurd (by decide) d
    · exact absurd p (by decide)
  · rw [c] at h1
    rcases h1 with ⟨-, p⟩ | ⟨p, -⟩
    · exact absurd p (by decide)
    · exact Or.inr ⟨fun q => p q.1, e⟩
/-- what grows -/
def grw (x r : Int) : Int := x + x * r / 100
theorem grw_rng {x r : Int} (hx : 0 ≤ x) (hr : 0 ≤ r ∧ r ≤ 50) : x ≤ grw x r ∧ 2 * grw x r ≤ 3 * x := by
  unfold grw
  have h1 : 0 ≤ x * r := Int.mul_nonneg hx hr.1
  have h2 : x * r ≤ x * 50 := Int.mul_le_mul_of_nonneg_left hr.2 hx
  omega
theorem grw_mono {x y r : Int} (hx : 0 ≤ x) (hy : x ≤ y) (hr : 0 ≤ r ∧ r ≤ 50) : grw x r ≤ grw y r := by
  unfold grw
  have h1 : x * r ≤ y * r := Int.mul_le_mul_of_nonneg_right hy hr.1
  omega
theorem bm64 {n : Int} (h1 : -9223372036854775808 ≤ n) (h2 : n < 9223372036854775808) : n.bmod (2 ^ 64) = n := Int.bmod_eq_of_le (by simpa using h1) (by simpa using h2)
theorem bm32 {n : Int} (h1 : -2147483648 ≤ n) (h2 : n < 2147483648) : n.bmod (2 ^ 32) = n := Int.bmod_eq_of_le (by simpa using h1) (by simpa using h2)
theorem gl_sp {a r : Int32} (ha : 0 ≤ a.toInt) (hr : 0 ≤ r.toInt ∧ r.toInt ≤ 50) : (Int32.toInt64 a * Int32.toInt64 r / 100).toInt = a.toInt * r.toInt / 100 := by
  have ra := mi_rng a
  have h1 : 0 ≤ a.toInt * r.toInt := Int.mul_nonneg ha hr.1
  have h2 : a.toInt * r.toInt ≤ a.toInt * 50 := Int.mul_le_mul_of_nonneg_left hr.2 ha
  have m : (Int32.toInt64 a * Int32.toInt64 r).toInt = a.toInt * r.toInt := by
    rw [Int64.toInt_mul, Int32.toInt_toInt64, Int32.toInt_toInt64]
    exact bm64 (by omega) (by omega)
  rw [Int64.toInt_div_of_ne_right _ _ (by decide), m, show (100 : Int64).toInt = 100 from by decide, Int.tdiv_eq_ediv_of_nonneg h1]
/-- grown(): of the class -/
theorem gc_sp {a r u : Int32} (ha : 0 ≤ a.toInt) (hr : 0 ≤ r.toInt ∧ r.toInt ≤ 50) (h : R_k_grown a r u) : u.toInt = min (grw a.toInt r.toInt) 1000000000 := by
  obtain ⟨z1, e1, z2, e2, z3, e3, z4, e4, rst_⟩ := h
  obtain ⟨z5, e5, z6, e6, z7, e7, z8, e8, e⟩ := rst_
  have ra := mi_rng a
  have gr := grw_rng ha hr
  have g5 : z5.toInt = a.toInt * r.toInt / 100 := by rw [e5, e4, e2, e3]; exact gl_sp ha hr
  have g6 : z6.toInt = grw a.toInt r.toInt := by
    rw [e6, Int64.toInt_add, e1, Int32.toInt_toInt64, g5]
    unfold grw at gr ⊢
    exact bm64 (by omega) (by omega)
  have k : (1000000000 : Int64).toInt = 1000000000 := by decide
  have g7 : z7.toInt = min (grw a.toInt r.toInt) 1000000000 := by
    rw [e7]
    by_cases q : z6 < 1000000000
    · rw [if_pos q, g6]
      have q := Int64.lt_iff_toInt_lt.mp q
      rw [k, g6] at q
      omega
    · rw [if_neg q, k]
      have q : ¬ z6.toInt < (1000000000 : Int64).toInt := fun p => q (Int64.lt_iff_toInt_lt.mpr p)
      rw [k, g6] at q
      omega
  rw [e, e8, Int64.toInt_toInt32, g7]
  exact bm32 (by omega) (by omega)
/-- the same of the reference: what is saved -/
theorem gs_sp {a r b v : Int32} {x y z w : Int64} (ha : 0 ≤ a.toInt ∧ a.toInt ≤ 1400000000) (hr : 0 ≤ r.toInt ∧ r.toInt ≤ 50) (e1 : x = Int32.toInt64 a) (e2 : y = Int32.toInt64 r) (e3 : z = x * y) (e4 : w = z / 100) (e5 : b = Int64.toInt32 w) (e6 : v = a + b) : v.toInt = grw a.toInt r.toInt := by
  have gr := grw_rng ha.1 hr
  have g4 : w.toInt = a.toInt * r.toInt / 100 := by rw [e4, e3, e1, e2]; exact gl_sp ha.1 hr
  unfold grw at gr ⊢
  have g5 : b.toInt = a.toInt * r.toInt / 100 := by
    rw [e5, Int64.toInt_toInt32, g4]
    exact bm32 (by omega) (by omega)
  rw [e6, mi_add (by omega) (by omega), g5]
/-- .. and what is owed -/
theorem go_sp {a r b d v : Int32} (ha : 0 ≤ a.toInt ∧ a.toInt ≤ 42000000) (hr : 0 ≤ r.toInt ∧ r.toInt ≤ 50) (e1 : b = a * r) (e2 : d = b / 100) (e3 : v = a + d) : v.toInt = grw a.toInt r.toInt := by
  have gr := grw_rng ha.1 hr
  have h1 : 0 ≤ a.toInt * r.toInt := Int.mul_nonneg ha.1 hr.1
  have h2 : a.toInt * r.toInt ≤ a.toInt * 50 := Int.mul_le_mul_of_nonneg_left hr.2 ha.1
  have g1 : b.toInt = a.toInt * r.toInt := by rw [e1]; exact mi_mul (by omega) (by omega)
  have g2 : d.toInt = a.toInt * r.toInt / 100 := by
    rw [e2, Int32.toInt_div_of_ne_right _ _ (by decide), g1, show (100 : Int32).toInt = 100 from by decide, Int.tdiv_eq_ediv_of_nonneg h1]
  unfold grw at gr ⊢
  rw [e3, mi_add (by omega) (by omega), g2]
