/-! the dark: leaves of the reference -/
theorem tb_hb : ∀ (S : Fin 32) (p : Fin 5), ((Int32.ofNat S.val >>> (Int32.ofNat p.val &&& (31 : Int32))) &&& 1).toInt = ((bt S.val p.val : Nat) : Int) := by decide +kernel
theorem hasb_sp {b p u : Int32} (hb : 0 ≤ b.toInt ∧ b.toInt < 32) (hp : 0 ≤ p.toInt ∧ p.toInt ≤ 4) (h : R_j_has b p u) : (u.toInt ≠ 0 ∧ bt b.toInt.toNat p.toInt.toNat = 1) ∨ (u.toInt = 0 ∧ bt b.toInt.toNat p.toInt.toNat = 0) := by
  obtain ⟨z1, e1, z2, e2, h⟩ := h
  have eb : b = Int32.ofNat b.toInt.toNat := mi_eq (by rw [Int32.toInt_ofNat_of_lt (by clear h; omega)]; clear h; omega)
  have ep : p = Int32.ofNat p.toInt.toNat := mi_eq (by rw [Int32.toInt_ofNat_of_lt (by clear h; omega)]; clear h; omega)
  have g : z2.toInt = ((bt b.toInt.toNat p.toInt.toNat : Nat) : Int) := by
    have t := tb_hb ⟨b.toInt.toNat, by clear h; omega⟩ ⟨p.toInt.toNat, by clear h; omega⟩
    have t : ((Int32.ofNat b.toInt.toNat >>> (Int32.ofNat p.toInt.toNat &&& (31 : Int32))) &&& 1).toInt = ((bt b.toInt.toNat p.toInt.toNat : Nat) : Int) := t
    rw [← eb, ← ep] at t
    rw [e2, e1]; exact t
  have le := bt_le b.toInt.toNat p.toInt.toNat
  rcases h with ⟨c, e⟩ | ⟨c, e⟩
  · exact Or.inr ⟨by rw [e]; decide, by omega⟩
  · exact Or.inl ⟨by rw [e]; decide, by omega⟩
theorem dg7 {a u q m : Int32} (ha : 0 ≤ a.toInt) (hu : 1 ≤ u.toInt) (eq : q = a / u) (em : m = q - q / 7 * 7) : m.toInt = a.toInt / u.toInt % 7 := by
  have t7 : (7 : Int32).toInt = 7 := by decide
  have ra := mi_rng a
  have m1 : (-1 : Int32).toInt = -1 := by decide
  have g : q.toInt = a.toInt / u.toInt := by
    rw [eq, Int32.toInt_div_of_ne_right _ _ (fun k => by rw [k, m1] at hu; omega), Int.tdiv_eq_ediv_of_nonneg ha]
  have q0 : 0 ≤ q.toInt := by rw [g]; exact Int.ediv_nonneg ha (by omega)
  have rq := mi_rng q
  have g7 : (q / 7).toInt = q.toInt / 7 := by
    rw [Int32.toInt_div_of_ne_right _ _ (by decide), t7, Int.tdiv_eq_ediv_of_nonneg q0]
  have gm : (q / 7 * 7).toInt = q.toInt / 7 * 7 := by rw [mi_mulc t7 (by rw [g7]; omega) (by rw [g7]; omega), g7]
  rw [em, mi_sub (by rw [gm]; omega) (by rw [gm]; omega), gm, ← g]
  omega
theorem ls6_sp {b a u : Int32} (h : R_j_lesser6 b 6 a u) (ea : a.toInt = 6) : u.toInt = min 6 b.toInt := by
  rcases h with ⟨c, e⟩ | ⟨c, e⟩
  · rw [e]; omega
  · rw [e]; omega
theorem at6 {p b5 b6 : Int32} (hp : 0 ≤ p.toInt ∧ p.toInt ≤ 4) (e5 : b5 = (2 : Int32) * p) (e6 : b6 = (6 : Int32) + b5) : b6.toInt = 6 + 2 * p.toInt := by
  have s6 : (6 : Int32).toInt = 6 := by decide
  have g0 : b5.toInt = 2 * p.toInt := by rw [e5]; exact mi_cmul (by decide) (by omega) (by omega)
  rw [e6, mi_add (by rw [s6]; omega) (by rw [s6]; omega), s6, g0]
def Val (pa : Int32) (cl : Nat → Int32) (s S : Nat) : Prop := ∀ p : Nat, (p : Int) < pa.toInt → bt S p = 1 → (d7 s p : Int) < min 6 (cl p).toInt
theorem e7_set {w : Nat → Nat} {p m : Nat} (hp : p < 5) (h : w p = 0) : e7 (fun q => if q = p then m else w q) = e7 w + m * 7 ^ p := by
  revert h
  have k : ∀ p : Nat, p < 5 → w p = 0 → e7 (fun q => if q = p then m else w q) = e7 w + m * 7 ^ p := by
    refine p5 ?_ ?_ ?_ ?_ ?_
    · intro h; show m + 7 * w 1 + 49 * w 2 + 343 * w 3 + 2401 * w 4 = w 0 + 7 * w 1 + 49 * w 2 + 343 * w 3 + 2401 * w 4 + m * 1; omega
    · intro h; show w 0 + 7 * m + 49 * w 2 + 343 * w 3 + 2401 * w 4 = w 0 + 7 * w 1 + 49 * w 2 + 343 * w 3 + 2401 * w 4 + m * 7; omega
    · intro h; show w 0 + 7 * w 1 + 49 * m + 343 * w 3 + 2401 * w 4 = w 0 + 7 * w 1 + 49 * w 2 + 343 * w 3 + 2401 * w 4 + m * 49; omega
    · intro h; show w 0 + 7 * w 1 + 49 * w 2 + 343 * m + 2401 * w 4 = w 0 + 7 * w 1 + 49 * w 2 + 343 * w 3 + 2401 * w 4 + m * 343; omega
    · intro h; show w 0 + 7 * w 1 + 49 * w 2 + 343 * w 3 + 2401 * m = w 0 + 7 * w 1 + 49 * w 2 + 343 * w 3 + 2401 * w 4 + m * 2401; omega
  exact k p hp
theorem e7_lt {v : Nat → Nat} (h : ∀ p : Nat, p < 5 → v p ≤ 6) : e7 v < 16807 := by
  have h0 := h 0 (by omega)
  have h1 := h 1 (by omega)
  have h2 := h 2 (by omega)
  have h3 := h 3 (by omega)
  have h4 := h 4 (by omega)
  unfold e7; omega
theorem e7_bt (S : Nat) : e7 (bt S) ≤ 2801 := by
  have h0 := bt_le S 0
  have h1 := bt_le S 1
  have h2 := bt_le S 2
  have h3 := bt_le S 3
  have h4 := bt_le S 4
  unfold e7; omega
def Un7 (un : Nat → Int32) : Prop := ∀ p : Nat, p < 5 → (un p).toInt = ((7 ^ p : Nat) : Int)
theorem after_sp {pa b a xt u : Int32} {un D cl : Nat → Int32} (hpa : 0 ≤ pa.toInt ∧ pa.toInt ≤ 5) (hun : Un7 un) (hX : 0 ≤ xt.toInt ∧ xt.toInt ≤ 1) (hC : ∀ p : Nat, (p : Int) < pa.toInt → D (36 * xt.toInt.toNat + (6 + 2 * p)) = cl p) (hb : 0 ≤ b.toInt ∧ b.toInt.toNat < 2 ^ pa.toInt.toNat) (ha : 0 ≤ a.toInt ∧ a.toInt < 16807) (h : R_j_after pa b un a xt D u) : (u.toInt = -1 ∧ ¬ Val pa cl a.toInt.toNat b.toInt.toNat) ∨ (u.toInt = a.toInt + ((e7 (bt b.toInt.toNat) : Nat) : Int) ∧ Val pa cl a.toInt.toNat b.toInt.toNat) := by
  have c0 : (0 : Int32).toInt = 0 := by decide
  have s6 : (6 : Int32).toInt = 6 := by decide
  have b32 : b.toInt.toNat < 32 := Nat.lt_of_lt_of_le hb.2 (tb_2p ⟨pa.toInt.toNat, by clear h; omega⟩).2
  refine fx_inv (P := fun s => (0 ≤ s.1.toInt ∧ s.1.toInt ≤ pa.toInt) ∧ (∀ p : Nat, (p : Int) < s.1.toInt → bt b.toInt.toNat p = 1 → (d7 a.toInt.toNat p : Int) < min 6 (cl p).toInt) ∧ s.2.toInt = a.toInt + ((e7 (fun q => if (q : Int) < s.1.toInt then bt b.toInt.toNat q else 0) : Nat) : Int)) (fun K s hP hT => ?_) 7 _ h ⟨⟨by show 0 ≤ (0 : Int32).toInt; decide, by show (0 : Int32).toInt ≤ _; rw [c0]; exact hpa.1⟩, fun p hp => ?_, ?_⟩
  · obtain ⟨p, t⟩ := s
    obtain ⟨h1, h2, h3⟩ := hP
    have h1 : 0 ≤ p.toInt ∧ p.toInt ≤ pa.toInt := h1
    have h2 : ∀ q : Nat, (q : Int) < p.toInt → bt b.toInt.toNat q = 1 → (d7 a.toInt.toNat q : Int) < min 6 (cl q).toInt := h2
    have h3 : t.toInt = a.toInt + ((e7 (fun q => if (q : Int) < p.toInt then bt b.toInt.toNat q else 0) : Nat) : Int) := h3
    dsimp only [T_j_after_5] at hT
    rcases hT with ⟨q, e⟩ | ⟨q, b0, hb0, hT⟩
    · refine Or.inl (Or.inr ⟨?_, fun s hs => h2 s (by omega)⟩)
      rw [e, h3]
      have ee : e7 (fun q => if (q : Int) < p.toInt then bt b.toInt.toNat q else 0) = e7 (bt b.toInt.toNat) := e7_c (fun s hs => by
        by_cases k : (s : Int) < p.toInt
        · rw [if_pos k]
        · rw [if_neg k, bt_out (by omega) hb.2 (by omega)])
      rw [ee]
    · have p4 : 0 ≤ p.toInt ∧ p.toInt ≤ 4 := by clear hT hb0; omega
      have hb0 := hasb_sp ⟨hb.1, by clear hT hb0; omega⟩ p4 hb0
      have nx : ∀ z : Int32, z = p + 1 → z.toInt = p.toInt + 1 := fun z ez => by rw [ez]; exact mi_addc (by decide) (by clear hT; omega) (by clear hT; omega)
      have up : ∀ z : Int32, z = p + 1 → e7 (fun q => if (q : Int) < z.toInt then bt b.toInt.toNat q else 0) = e7 (fun q => if (q : Int) < p.toInt then bt b.toInt.toNat q else 0) + bt b.toInt.toNat p.toInt.toNat * 7 ^ p.toInt.toNat := fun z ez => by
        have gz := nx z ez
        rw [← e7_set (w := fun q => if (q : Int) < p.toInt then bt b.toInt.toNat q else 0) (by clear hT; omega) (by show (if ((p.toInt.toNat : Nat) : Int) < p.toInt then _ else 0) = 0; rw [if_neg (by clear hT; omega)])]
        refine e7_c (fun s _ => ?_)
        by_cases k : s = p.toInt.toNat
        · subst k; rw [if_pos rfl, if_pos (by clear hT; omega)]
        · rw [if_neg k]
          by_cases k2 : (s : Int) < p.toInt
          · rw [if_pos k2, if_pos (by clear hT; omega)]
          · rw [if_neg k2, if_neg (by clear hT; omega)]
      rcases hT with ⟨v, z, ez, hk⟩ | ⟨v, b2, e2, b3, e3, b4, e4', b5, e5, b6, e6, b7, h7, b8, h8, hT⟩
      · have gz := nx z ez
        have z0 : bt b.toInt.toNat p.toInt.toNat = 0 := by
          rcases hb0 with ⟨y, -⟩ | ⟨-, y⟩
          · exact absurd v y
          · exact y
        refine Or.inr ⟨(z, t), ⟨?_, fun s hs => ?_, ?_⟩, hk⟩
        · show 0 ≤ z.toInt ∧ z.toInt ≤ pa.toInt
          clear hk; omega
        · have hs : (s : Int) < z.toInt := hs
          intro y
          by_cases k : s = p.toInt.toNat
          · subst k; rw [z0] at y; exact absurd y (by decide)
          · exact h2 s (by clear hk; omega) y
        · show t.toInt = a.toInt + ((e7 (fun q => if (q : Int) < z.toInt then bt b.toInt.toNat q else 0) : Nat) : Int)
          rw [up z ez, z0, Nat.zero_mul, Nat.add_zero]; exact h3
      · have z1 : bt b.toInt.toNat p.toInt.toNat = 1 := by
          rcases hb0 with ⟨-, y⟩ | ⟨y, -⟩
          · exact y
          · exact absurd y v
        rw [mi_cl] at e2
        have u7 := hun p.toInt.toNat (by clear hT h7 h8; omega)
        have p7 : 1 ≤ 7 ^ p.toInt.toNat ∧ 7 ^ p.toInt.toNat ≤ 2401 := (by decide : ∀ p : Fin 5, 1 ≤ 7 ^ p.val ∧ 7 ^ p.val ≤ 2401) ⟨p.toInt.toNat, by clear hT h7 h8; omega⟩
        have g2 : b2.toInt = ((7 ^ p.toInt.toNat : Nat) : Int) := by rw [e2]; exact u7
        have g2r : 1 ≤ b2.toInt ∧ b2.toInt ≤ 2401 := by rw [g2]; exact ⟨Int.ofNat_le.mpr p7.1, Int.ofNat_le.mpr p7.2⟩
        have g4 : b4.toInt = (d7 a.toInt.toNat p.toInt.toNat : Int) := by
          rw [dg7 ha.1 g2r.1 e3 e4', g2]
          show a.toInt / ((7 ^ p.toInt.toNat : Nat) : Int) % 7 = ((a.toInt.toNat / 7 ^ p.toInt.toNat % 7 : Nat) : Int)
          rw [Int.natCast_emod, Int.natCast_ediv, show ((a.toInt.toNat : Nat) : Int) = a.toInt from by clear hT h7 h8; omega]
          rfl
        have g6 := at6 p4 e5 e6
        have h7 := of_sp hX ⟨by rw [g6]; clear hT h7 h8; omega, by rw [g6]; clear hT h7 h8; omega⟩ h7
        rw [g6, show (6 + 2 * p.toInt).toNat = 6 + 2 * p.toInt.toNat from by clear hT h8; omega, hC _ (by clear hT h8; omega)] at h7
        have g8 := ls6_sp h8 s6
        clear h8
        rw [h7] at g8
        rcases hT with ⟨w, b9, e9, z, ez, hk⟩ | ⟨w, e⟩
        · have gz := nx z ez
          have tr : 0 ≤ t.toInt ∧ t.toInt ≤ 20000 := by
            have a1 := e7_lt (v := fun q => if (q : Int) < p.toInt then bt b.toInt.toNat q else 0) (fun s _ => by
              have := bt_le b.toInt.toNat s
              split
              · omega
              · omega)
            have a2 : e7 (fun q => if (q : Int) < p.toInt then bt b.toInt.toNat q else 0) ≤ 2801 := by
              have q0 : ∀ s : Nat, (if (s : Int) < p.toInt then bt b.toInt.toNat s else 0) ≤ 1 := fun s => by
                have := bt_le b.toInt.toNat s
                split
                · exact this
                · omega
              have h0 := q0 0
              have h1 := q0 1
              have h2 := q0 2
              have h3 := q0 3
              have h4 := q0 4
              show (if ((0 : Nat) : Int) < p.toInt then bt b.toInt.toNat 0 else 0) + 7 * (if ((1 : Nat) : Int) < p.toInt then bt b.toInt.toNat 1 else 0) + 49 * (if ((2 : Nat) : Int) < p.toInt then bt b.toInt.toNat 2 else 0) + 343 * (if ((3 : Nat) : Int) < p.toInt then bt b.toInt.toNat 3 else 0) + 2401 * (if ((4 : Nat) : Int) < p.toInt then bt b.toInt.toNat 4 else 0) ≤ 2801
              clear hk
              omega
            clear hk; omega
          have g9 : b9.toInt = t.toInt + b2.toInt := by rw [e9]; exact mi_add (by clear hk; omega) (by clear hk; omega)
          refine Or.inr ⟨(z, b9), ⟨?_, fun s hs => ?_, ?_⟩, hk⟩
          · show 0 ≤ z.toInt ∧ z.toInt ≤ pa.toInt
            clear hk; omega
          · have hs : (s : Int) < z.toInt := hs
            intro y
            by_cases k : s = p.toInt.toNat
            · subst k; rw [← g8, ← g4]; exact w
            · exact h2 s (by clear hk; omega) y
          · show b9.toInt = a.toInt + ((e7 (fun q => if (q : Int) < z.toInt then bt b.toInt.toNat q else 0) : Nat) : Int)
            rw [up z ez, z1, Nat.one_mul, g9, h3, g2, Int.natCast_add]
            exact Int.add_assoc _ _ _
        · refine Or.inl (Or.inl ⟨by rw [e]; decide, fun y => ?_⟩)
          have y := y p.toInt.toNat (by omega) z1
          rw [← g8, ← g4] at y
          exact absurd w (Int.not_le.mpr y)
  · have hp : (p : Int) < (0 : Int32).toInt := hp
    rw [c0] at hp; omega
  · show a.toInt = a.toInt + ((e7 (fun q => if (q : Int) < (0 : Int32).toInt then bt b.toInt.toNat q else 0) : Nat) : Int)
    have e : e7 (fun q => if (q : Int) < (0 : Int32).toInt then bt b.toInt.toNat q else 0) = e7 (fun _ => 0) := e7_c (fun s _ => by rw [if_neg (by rw [c0]; omega)])
    rw [e]
    show a.toInt = a.toInt + ((0 : Nat) : Int)
    omega
theorem sm_tail {f : Nat → Int} {n : Nat} : ∀ m : Nat, n ≤ m → (∀ i : Nat, n ≤ i → i < m → f i = 0) → sm m f = sm n f := by
  intro m
  induction m with
  | zero => intro h _; rw [show n = 0 from by omega]
  | succ m ih =>
    intro h z
    by_cases e : n = m + 1
    · rw [e]
    · rw [sm_s, ih (by omega) (fun i h1 h2 => z i h1 (by omega)), z m (by omega) (by omega), Int.add_zero]
theorem hdo_sp {p xt u : Int32} {D ha : Nat → Int32} {pa : Int32} (hpa : 0 ≤ pa.toInt ∧ pa.toInt ≤ 5) (hX : 0 ≤ xt.toInt ∧ xt.toInt ≤ 1) (hH : ∀ p : Nat, (p : Int) < pa.toInt → D (36 * xt.toInt.toNat + (7 + 2 * p)) = ha p) (hp : 0 ≤ p.toInt ∧ p.toInt < pa.toInt) (h : R_j_handsOf p xt D u) : u = ha p.toInt.toNat := by
  obtain ⟨z1, e1, z2, e2, z3, e3, r4, h4, e⟩ := h
  have g := at6 (p := p) ⟨hp.1, by clear h4; omega⟩ e1 e2
  have g3 : z3.toInt = 7 + 2 * p.toInt := by rw [e3, mi_addc (C := 1) (by decide) (by rw [g]; clear h4; omega) (by rw [g]; clear h4; omega), g]; omega
  have h4 := of_sp hX ⟨by rw [g3]; clear h4; omega, by rw [g3]; clear h4; omega⟩ h4
  rw [e, h4, g3, show (7 + 2 * p.toInt).toNat = 7 + 2 * p.toInt.toNat from by omega]
  exact hH _ (by omega)
theorem halv_sp {pa b xt u : Int32} {D ha : Nat → Int32} (hpa : 0 ≤ pa.toInt ∧ pa.toInt ≤ 5) (hX : 0 ≤ xt.toInt ∧ xt.toInt ≤ 1) (hH : ∀ p : Nat, (p : Int) < pa.toInt → D (36 * xt.toInt.toNat + (7 + 2 * p)) = ha p) (gH : ∀ p : Nat, (p : Int) < pa.toInt → 1 ≤ (ha p).toInt ∧ (ha p).toInt ≤ 2) (hb : 0 ≤ b.toInt ∧ b.toInt.toNat < 2 ^ pa.toInt.toNat) (h : R_j_halvesOf pa b xt D u) : u.toInt = hv5 (fun p => (ha p).toInt) b.toInt.toNat := by
  have c0 : (0 : Int32).toInt = 0 := by decide
  have b32 : b.toInt.toNat < 32 := Nat.lt_of_lt_of_le hb.2 (tb_2p ⟨pa.toInt.toNat, by clear h; omega⟩).2
  have key : u.toInt = sm pa.toInt.toNat (fun q => if bt b.toInt.toNat q = 1 then (ha q).toInt else 0) := by
    refine fx_inv (P := fun s => (0 ≤ s.1.toInt ∧ s.1.toInt ≤ pa.toInt) ∧ s.2.toInt = sm s.1.toInt.toNat (fun q => if bt b.toInt.toNat q = 1 then (ha q).toInt else 0)) (fun K s hP hT => ?_) 7 _ h ⟨⟨by show 0 ≤ (0 : Int32).toInt; decide, by show (0 : Int32).toInt ≤ _; rw [c0]; exact hpa.1⟩, ?_⟩
    · obtain ⟨p, t⟩ := s
      obtain ⟨h1, h2⟩ := hP
      have h1 : 0 ≤ p.toInt ∧ p.toInt ≤ pa.toInt := h1
      have h2 : t.toInt = sm p.toInt.toNat (fun q => if bt b.toInt.toNat q = 1 then (ha q).toInt else 0) := h2
      dsimp only [T_j_halvesOf_4] at hT
      rcases hT with ⟨q, e⟩ | ⟨q, b0, hb0, hT⟩
      · refine Or.inl ?_
        rw [e, h2, show p.toInt.toNat = pa.toInt.toNat from by omega]
      · refine Or.inr ?_
        have hb0 := hasb_sp ⟨hb.1, by clear hT hb0; omega⟩ ⟨h1.1, by clear hT hb0; omega⟩ hb0
        have nx : ∀ z : Int32, z = p + 1 → (0 ≤ z.toInt ∧ z.toInt ≤ pa.toInt) ∧ z.toInt.toNat = p.toInt.toNat + 1 := fun z ez => by
          have g : z.toInt = p.toInt + 1 := by rw [ez]; exact mi_addc (by decide) (by clear hT; omega) (by clear hT; omega)
          clear hT; omega
        rcases hT with ⟨v, b1, e1, z, ez, hk⟩ | ⟨v, b3, h3, b4, e4', z, ez, hk⟩
        · obtain ⟨a1, a2⟩ := nx z ez
          have z0 : ¬ bt b.toInt.toNat p.toInt.toNat = 1 := by
            rcases hb0 with ⟨y, -⟩ | ⟨-, y⟩
            · exact absurd v y
            · rw [y]; decide
          refine ⟨(z, b1), ⟨a1, ?_⟩, hk⟩
          show b1.toInt = sm z.toInt.toNat _
          rw [a2, sm_s, if_neg z0, Int.add_zero, e1, show t + 0 = t from Int32.add_zero t]
          exact h2
        · obtain ⟨a1, a2⟩ := nx z ez
          have z1 : bt b.toInt.toNat p.toInt.toNat = 1 := by
            rcases hb0 with ⟨-, y⟩ | ⟨y, -⟩
            · exact y
            · exact absurd y v
          have h3 := hdo_sp hpa hX hH ⟨h1.1, q⟩ h3
          have gp := gH p.toInt.toNat (by clear hk; omega)
          have b1 := sm_nn (f := fun q => if bt b.toInt.toNat q = 1 then (ha q).toInt else 0) p.toInt.toNat (fun s hs => by
            show 0 ≤ (if bt b.toInt.toNat s = 1 then (ha s).toInt else 0)
            have := gH s (by clear hk; omega)
            split <;> omega)
          have b2 := sm_bd (f := fun q => if bt b.toInt.toNat q = 1 then (ha q).toInt else 0) (c := 2) p.toInt.toNat (fun s hs => by
            show (if bt b.toInt.toNat s = 1 then (ha s).toInt else 0) ≤ 2
            have := gH s (by clear hk; omega)
            split <;> omega)
          refine ⟨(z, b4), ⟨a1, ?_⟩, hk⟩
          show b4.toInt = sm z.toInt.toNat _
          rw [a2, sm_s, if_pos z1, e4', h3, mi_add (by clear hk; omega) (by clear hk; omega), h2]
    · show (0 : Int32).toInt = sm (0 : Int32).toInt.toNat _
      rw [c0]; rfl
  rw [key]
  unfold hv5
  exact (sm_tail 5 (by clear h; omega) (fun i h1 h2 => by rw [if_neg (by rw [bt_out (by clear h; omega) hb.2 h1]; decide)])).symm
theorem stat_sp {pa u : Int32} (hpa : 0 ≤ pa.toInt ∧ pa.toInt ≤ 5) (h : R_j_states pa u) : u.toInt = ((7 ^ pa.toInt.toNat : Nat) : Int) := by
  have c0 : (0 : Int32).toInt = 0 := by decide
  have c1 : (1 : Int32).toInt = 1 := by decide
  refine fx_inv (P := fun s => (0 ≤ s.1.toInt ∧ s.1.toInt ≤ pa.toInt) ∧ s.2.toInt = ((7 ^ s.1.toInt.toNat : Nat) : Int)) (fun K s hP hT => ?_) 7 _ h ⟨⟨by show 0 ≤ (0 : Int32).toInt; decide, by show (0 : Int32).toInt ≤ _; rw [c0]; exact hpa.1⟩, ?_⟩
  · obtain ⟨p, t⟩ := s
    obtain ⟨h1, h2⟩ := hP
    have h1 : 0 ≤ p.toInt ∧ p.toInt ≤ pa.toInt := h1
    have h2 : t.toInt = ((7 ^ p.toInt.toNat : Nat) : Int) := h2
    dsimp only [T_j_states_4] at hT
    rcases hT with ⟨q, e⟩ | ⟨q, b0, e0, z, ez, hk⟩
    · refine Or.inl ?_
      rw [e, h2, show p.toInt.toNat = pa.toInt.toNat from by omega]
    · have g : z.toInt = p.toInt + 1 := by rw [ez]; exact mi_addc (by decide) (by clear hk; omega) (by clear hk; omega)
      have p7 : 7 ^ p.toInt.toNat ≤ 2401 := (by decide : ∀ p : Fin 5, 7 ^ p.val ≤ 2401) ⟨p.toInt.toNat, by clear hk; omega⟩
      have tr : 0 ≤ t.toInt ∧ t.toInt ≤ 2401 := by rw [h2]; exact ⟨Int.natCast_nonneg _, Int.ofNat_le.mpr p7⟩
      refine Or.inr ⟨(z, b0), ⟨?_, ?_⟩, hk⟩
      · show 0 ≤ z.toInt ∧ z.toInt ≤ pa.toInt
        clear hk; omega
      · show b0.toInt = ((7 ^ z.toInt.toNat : Nat) : Int)
        rw [e0, mi_mulc (C := 7) (by decide) (by clear hk; omega) (by clear hk; omega), h2, show z.toInt.toNat = p.toInt.toNat + 1 from by clear hk; omega, Nat.pow_succ]
        rfl
  · show (1 : Int32).toInt = ((7 ^ (0 : Int32).toInt.toNat : Nat) : Int)
    rw [c0, c1]; rfl
theorem hdof_sp {xd k u : Int32} {Dk : Nat → Int32} (hd : 0 ≤ xd.toInt ∧ xd.toInt ≤ 1) (hk : 0 ≤ k.toInt ∧ k.toInt ≤ 5) (h : R_j_heardOf xd k Dk u) : u = Dk (7 * xd.toInt.toNat + (1 + k.toInt.toNat)) := by
  obtain ⟨z1, e1, z2, e2, z3, e3, z4, e4', e⟩ := h
  have f1 : z1.toInt = 7 * xd.toInt := by rw [e1]; exact mi_cmul (by decide) (by omega) (by omega)
  have f2 : z2.toInt = 7 * xd.toInt + 1 := by rw [e2, mi_addc (C := 1) (by decide) (by omega) (by omega), f1]
  have f3 : z3.toInt = 7 * xd.toInt + 1 + k.toInt := by rw [e3, mi_add (by omega) (by omega), f2]
  rw [e, e4', mi_cl, f3, show (7 * xd.toInt + 1 + k.toInt).toNat = 7 * xd.toInt.toNat + (1 + k.toInt.toNat) from by omega]
/-- a step that can be -/
theorem d7_0 {P s p : Nat} (hP : P ≤ 5) (hs : s < 7 ^ P) (hp : P ≤ p) : d7 s p = 0 := by
  have h6 : 7 ^ P ≤ 7 ^ p := Nat.pow_le_pow_right (by omega) hp
  unfold d7
  rw [Nat.div_eq_of_lt (by omega)]
theorem p7_le {P : Nat} (hP : P ≤ 5) : 1 ≤ 7 ^ P ∧ 7 ^ P ≤ 16807 := (by decide : ∀ p : Fin 6, 1 ≤ 7 ^ p.val ∧ 7 ^ p.val ≤ 16807) ⟨P, by omega⟩
theorem e7_ltP {v : Nat → Nat} {P : Nat} (hP : P ≤ 5) (h6 : ∀ p : Nat, p < 5 → v p ≤ 6) (h0 : ∀ p : Nat, p < 5 → P ≤ p → v p = 0) : e7 v < 7 ^ P := by
  have a0 := h6 0 (by omega)
  have a1 := h6 1 (by omega)
  have a2 := h6 2 (by omega)
  have a3 := h6 3 (by omega)
  have a4 := h6 4 (by omega)
  have b0 := h0 0 (by omega)
  have b1 := h0 1 (by omega)
  have b2 := h0 2 (by omega)
  have b3 := h0 3 (by omega)
  have b4 := h0 4 (by omega)
  rcases (by omega : P = 0 ∨ P = 1 ∨ P = 2 ∨ P = 3 ∨ P = 4 ∨ P = 5) with rfl | rfl | rfl | rfl | rfl | rfl
  · show v 0 + 7 * v 1 + 49 * v 2 + 343 * v 3 + 2401 * v 4 < 1; omega
  · show v 0 + 7 * v 1 + 49 * v 2 + 343 * v 3 + 2401 * v 4 < 7; omega
  · show v 0 + 7 * v 1 + 49 * v 2 + 343 * v 3 + 2401 * v 4 < 49; omega
  · show v 0 + 7 * v 1 + 49 * v 2 + 343 * v 3 + 2401 * v 4 < 343; omega
  · show v 0 + 7 * v 1 + 49 * v 2 + 343 * v 3 + 2401 * v 4 < 2401; omega
  · show v 0 + 7 * v 1 + 49 * v 2 + 343 * v 3 + 2401 * v 4 < 16807; omega
theorem Val_d {pa : Int32} {cl : Nat → Int32} {s S : Nat} (hpa : 0 ≤ pa.toInt ∧ pa.toInt ≤ 5) (hS : S < 2 ^ pa.toInt.toNat) (hs : s < 7 ^ pa.toInt.toNat) (h : Val pa cl s S) : s + e7 (bt S) = e7 (va (d7 s) S) ∧ s + e7 (bt S) < 7 ^ pa.toInt.toNat ∧ s + e7 (bt S) < 16807 ∧ ∀ p : Nat, p < 5 → d7 (s + e7 (bt S)) p = d7 s p + bt S p := by
  have l7 := p7_le (P := pa.toInt.toNat) (by omega)
  have e : s + e7 (bt S) = e7 (va (d7 s) S) := by rw [e7_va, e7_d (by omega)]
  have v6 : ∀ p : Nat, p < 5 → va (d7 s) S p ≤ 6 := fun p hp => by
    show d7 s p + bt S p ≤ 6
    have a := d7_lt s p
    have b := bt_le S p
    by_cases k : bt S p = 1
    · by_cases k2 : (p : Int) < pa.toInt
      · have := h p k2 k
        omega
      · have := bt_out (P := pa.toInt.toNat) (by omega) hS (show pa.toInt.toNat ≤ p from by omega)
        omega
    · omega
  have v0 : ∀ p : Nat, p < 5 → pa.toInt.toNat ≤ p → va (d7 s) S p = 0 := fun p _ hp => by
    show d7 s p + bt S p = 0
    rw [d7_0 (by omega) hs hp, bt_out (by omega) hS hp]
  have lt := e7_ltP (by omega) v6 v0
  rw [e]
  exact ⟨rfl, lt, by omega, fun p hp => d7_e v6 p hp⟩
