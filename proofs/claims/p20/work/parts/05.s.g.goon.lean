/-! the dark: one minute forward, one back -/
theorem pl_us {f : Nat → Int64} {k : Nat} {x : Int64} : vp_updL f k x k = x := if_pos rfl
theorem pl_un {f : Nat → Int64} {k j : Nat} {x : Int64} (h : j ≠ k) : vp_updL f k x j = f j := if_neg h
theorem lcmp0 {x : Int64} {b : Int32} (e : b = lg_cmp x 0) : (b.toInt = 0 ↔ x.toInt = 0) ∧ (0 < b.toInt ↔ 0 < x.toInt) := by
  have c0 : (0 : Int32).toInt = 0 := by decide
  have l0 : (0 : Int64).toInt = 0 := by decide
  subst e
  refine ⟨⟨fun h => ?_, fun h => ?_⟩, ⟨fun h => ?_, fun h => ?_⟩⟩
  · have : lg_cmp x 0 = 0 := mi_eq (by rw [h, c0])
    rw [(lg_cmp_eq x 0).mp this, l0]
  · have : x = 0 := ml_eq (by rw [h, l0])
    rw [(lg_cmp_eq x 0).mpr this, c0]
  · have := (lg_cmp_gt x 0).mp (mi_lt.mpr (by rw [c0]; exact h))
    have g := Int64.lt_iff_toInt_lt.mp this
    rw [l0] at g; exact g
  · have := (lg_cmp_gt x 0).mpr (Int64.lt_iff_toInt_lt.mpr (by rw [l0]; exact h))
    have g := mi_lt.mp this
    rw [c0] at g; exact g
/-- what a set puts on a place of the next minute -/
noncomputable def tg (pa : Int32) (cl : Nat → Int32) (n : Nat) (f : Nat → Int) (S t : Nat) : Int := @ite Int (e7 (bt S) ≤ t ∧ t - e7 (bt S) < n ∧ Val pa cl (t - e7 (bt S)) S) (Classical.propDecidable _) (f (t - e7 (bt S))) 0
theorem tg_y {pa : Int32} {cl : Nat → Int32} {n : Nat} {f : Nat → Int} {S t : Nat} (h : e7 (bt S) ≤ t ∧ t - e7 (bt S) < n ∧ Val pa cl (t - e7 (bt S)) S) : tg pa cl n f S t = f (t - e7 (bt S)) := if_pos h
theorem tg_n {pa : Int32} {cl : Nat → Int32} {n : Nat} {f : Nat → Int} {S t : Nat} (h : ¬ (e7 (bt S) ≤ t ∧ t - e7 (bt S) < n ∧ Val pa cl (t - e7 (bt S)) S)) : tg pa cl n f S t = 0 := if_neg h
theorem tg_rng {pa : Int32} {cl : Nat → Int32} {n : Nat} {f : Nat → Int} {S t : Nat} {B : Int} (hB : 0 ≤ B) (hf : ∀ s : Nat, s < n → 0 ≤ f s ∧ f s ≤ B) : 0 ≤ tg pa cl n f S t ∧ tg pa cl n f S t ≤ B := by
  by_cases h : e7 (bt S) ≤ t ∧ t - e7 (bt S) < n ∧ Val pa cl (t - e7 (bt S)) S
  · rw [tg_y h]; exact hf _ h.2.1
  · rw [tg_n h]; exact ⟨Int.le_refl _, hB⟩
/-- the place s is put on: all places but s + .. stay -/
theorem tg_up {pa : Int32} {cl : Nat → Int32} {n : Nat} {f : Nat → Int} {S t : Nat} (h : t ≠ n + e7 (bt S) ∨ ¬ Val pa cl n S ∨ f n = 0) : tg pa cl (n + 1) f S t = tg pa cl n f S t := by
  by_cases k : e7 (bt S) ≤ t ∧ t - e7 (bt S) < n ∧ Val pa cl (t - e7 (bt S)) S
  · rw [tg_y k, tg_y ⟨k.1, by omega, k.2.2⟩]
  · rw [tg_n k]
    by_cases k2 : e7 (bt S) ≤ t ∧ t - e7 (bt S) < n + 1 ∧ Val pa cl (t - e7 (bt S)) S
    · have e : t - e7 (bt S) = n := Classical.byContradiction (fun q => k ⟨k2.1, by omega, k2.2.2⟩)
      rw [tg_y k2, e]
      rw [e] at k2
      rcases h with h | h | h
      · exact absurd (by omega) h
      · exact absurd k2.2.2 h
      · exact h
    · rw [tg_n k2]
theorem tg_at {pa : Int32} {cl : Nat → Int32} {n : Nat} {f : Nat → Int} {S : Nat} (h : Val pa cl n S) : tg pa cl (n + 1) f S (n + e7 (bt S)) = f n ∧ tg pa cl n f S (n + e7 (bt S)) = 0 := by
  have e : n + e7 (bt S) - e7 (bt S) = n := by omega
  refine ⟨?_, tg_n (fun k => by have := k.2.1; omega)⟩
  rw [tg_y ⟨by omega, by omega, by rw [e]; exact h⟩, e]
theorem idx_sp {k s b0 b1 : Int32} (hk : 0 ≤ k.toInt ∧ k.toInt ≤ 6) (hs : 0 ≤ s.toInt ∧ s.toInt < 16807) (e0 : b0 = (16807 : Int32) * k) (e1 : b1 = b0 + s) : Int32.toNatClampNeg b1 = 16807 * k.toInt.toNat + s.toInt.toNat := by
  have g0 : b0.toInt = 16807 * k.toInt := by rw [e0]; exact mi_cmul (by decide) (by omega) (by omega)
  have g1 : b1.toInt = 16807 * k.toInt + s.toInt := by rw [e1, mi_add (by omega) (by omega), g0]
  rw [mi_cl, g1]; omega
/-- the invariant of a set's round: from base row A0 -/
def GoI (pa : Int32) (cl : Nat → Int32) (k S : Nat) (A0 : Nat → Int64) (n7 : Int) (s : Int32 × (Nat → Int64)) : Prop := (0 ≤ s.1.toInt ∧ s.1.toInt ≤ n7) ∧ (∀ j x : Nat, j ≠ k + 1 → x < 16807 → s.2 (16807 * j + x) = A0 (16807 * j + x)) ∧ ∀ t : Nat, t < 16807 → (s.2 (16807 * (k + 1) + t)).toInt = (A0 (16807 * (k + 1) + t)).toInt + tg pa cl s.1.toInt.toNat (fun i => (A0 (16807 * k + i)).toInt) S t
theorem goset_sp {pa st S a xt : Int32} {un D cl : Nat → Int32} {A0 u : Nat → Int64} {Kp : (Int32 × (Nat → Int64)) → Prop} {B : Int} {M : Nat} (hpa : 0 ≤ pa.toInt ∧ pa.toInt ≤ 5) (hun : Un7 un) (hX : 0 ≤ xt.toInt ∧ xt.toInt ≤ 1) (hC : ∀ p : Nat, (p : Int) < pa.toInt → D (36 * xt.toInt.toNat + (6 + 2 * p)) = cl p) (hS : 0 ≤ S.toInt ∧ S.toInt.toNat < 2 ^ pa.toInt.toNat) (ha : 0 ≤ a.toInt ∧ a.toInt ≤ 5) (hst : st.toInt = ((7 ^ pa.toInt.toNat : Nat) : Int)) (hB : 0 ≤ B ∧ B ≤ 1073741824) (hA : ∀ s : Nat, s < 7 ^ pa.toInt.toNat → 0 ≤ (A0 (16807 * a.toInt.toNat + s)).toInt ∧ (A0 (16807 * a.toInt.toNat + s)).toInt ≤ B) (hA1 : ∀ t : Nat, t < 16807 → 0 ≤ (A0 (16807 * (a.toInt.toNat + 1) + t)).toInt ∧ (A0 (16807 * (a.toInt.toNat + 1) + t)).toInt ≤ 34359738368) (h : fx (T_j_goOn_37b st S a pa un xt D Kp u) M ((0 : Int32), A0)) : ∃ (z : Int32) (A1 : Nat → Int64), z = S + 1 ∧ Kp (z, A1) ∧ (∀ j x : Nat, j ≠ a.toInt.toNat + 1 → x < 16807 → A1 (16807 * j + x) = A0 (16807 * j + x)) ∧ ∀ t : Nat, t < 16807 → (A1 (16807 * (a.toInt.toNat + 1) + t)).toInt = (A0 (16807 * (a.toInt.toNat + 1) + t)).toInt + tg pa cl (7 ^ pa.toInt.toNat) (fun i => (A0 (16807 * a.toInt.toNat + i)).toInt) S.toInt.toNat t := by
  have c0 : (0 : Int32).toInt = 0 := by decide
  have l7 := p7_le (P := pa.toInt.toNat) (by clear h; omega)
  have l7i : 1 ≤ ((7 ^ pa.toInt.toNat : Nat) : Int) ∧ ((7 ^ pa.toInt.toNat : Nat) : Int) ≤ 16807 := ⟨Int.ofNat_le.mpr l7.1, Int.ofNat_le.mpr l7.2⟩
  refine fx_inv (P := GoI pa cl a.toInt.toNat S.toInt.toNat A0 ((7 ^ pa.toInt.toNat : Nat) : Int)) (fun K s hP hT => ?_) M _ h ⟨⟨by show 0 ≤ (0 : Int32).toInt; decide, by show (0 : Int32).toInt ≤ _; omega⟩, fun j x _ _ => rfl, fun t _ => ?_⟩
  · obtain ⟨s, A⟩ := s
    obtain ⟨h1, h2, h3⟩ := hP
    have h1 : 0 ≤ s.toInt ∧ s.toInt ≤ ((7 ^ pa.toInt.toNat : Nat) : Int) := h1
    have h2 : ∀ j x : Nat, j ≠ a.toInt.toNat + 1 → x < 16807 → A (16807 * j + x) = A0 (16807 * j + x) := h2
    have h3 : ∀ t : Nat, t < 16807 → (A (16807 * (a.toInt.toNat + 1) + t)).toInt = (A0 (16807 * (a.toInt.toNat + 1) + t)).toInt + tg pa cl s.toInt.toNat (fun i => (A0 (16807 * a.toInt.toNat + i)).toInt) S.toInt.toNat t := h3
    dsimp only [T_j_goOn_37b, R_j_goOn_s0] at hT
    rcases hT with ⟨q, z, ez, hk⟩ | ⟨q, b0, e0, b1, e1, b2, e2, b3, e3, hT⟩
    · refine Or.inl ⟨z, A, ez, hk, h2, fun t ht => ?_⟩
      clear hk
      have es : s.toInt.toNat = 7 ^ pa.toInt.toNat := by omega
      rw [h3 t ht, es]
    · rw [hst] at q
      have s7 : s.toInt.toNat < 7 ^ pa.toInt.toNat := by clear hT; omega
      have s1 : 0 ≤ s.toInt ∧ s.toInt < 16807 := by clear hT; omega
      have i1 := idx_sp (k := a) ⟨ha.1, by clear hT; omega⟩ s1 e0 e1
      rw [i1, h2 a.toInt.toNat s.toInt.toNat (by omega) (by clear hT; omega)] at e2
      have lc := lcmp0 e3
      have nx : ∀ z : Int32, z = s + 1 → (0 ≤ z.toInt ∧ z.toInt ≤ ((7 ^ pa.toInt.toNat : Nat) : Int)) ∧ z.toInt.toNat = s.toInt.toNat + 1 := fun z ez => by
        have g : z.toInt = s.toInt + 1 := by rw [ez]; exact mi_addc (by decide) (by clear hT; omega) (by clear hT; omega)
        clear hT; omega
      have stay : ∀ z : Int32, z = s + 1 → (¬ Val pa cl s.toInt.toNat S.toInt.toNat ∨ (A0 (16807 * a.toInt.toNat + s.toInt.toNat)).toInt = 0) → GoI pa cl a.toInt.toNat S.toInt.toNat A0 ((7 ^ pa.toInt.toNat : Nat) : Int) (z, A) := fun z ez w => by
        obtain ⟨a1, a2⟩ := nx z ez
        refine ⟨a1, h2, fun t ht => ?_⟩
        show (A (16807 * (a.toInt.toNat + 1) + t)).toInt = _ + tg pa cl z.toInt.toNat _ _ t
        rw [a2, tg_up (Or.inr w)]
        exact h3 t ht
      refine Or.inr ?_
      rcases hT with ⟨v, b4, h4, hT⟩ | ⟨v, z, ez, hk⟩
      · have h4 := after_sp hpa hun hX hC hS s1 h4
        rcases hT with ⟨w, z, ez, hk⟩ | ⟨w, b6, e6, b7, e7', b8, e8, b9, e9, b10, e10, b11, e11, b12, e12, b13, e13, b14, e14, z, ez, hk⟩
        · refine ⟨(z, A), stay z ez (Or.inl ?_), hk⟩
          rcases h4 with ⟨-, y⟩ | ⟨y, -⟩
          · exact y
          · exact absurd w (by clear hk; omega)
        · obtain ⟨a1, a2⟩ := nx z ez
          refine ⟨(z, b14), ?_, hk⟩
          clear hk
          rcases h4 with ⟨y, -⟩ | ⟨y, yv⟩
          · exact absurd y w
          · obtain ⟨-, -, lt, -⟩ := Val_d hpa hS.2 s7 yv
            have g4 : b4.toInt.toNat = s.toInt.toNat + e7 (bt S.toInt.toNat) := by rw [y]; omega
            have r4 : 0 ≤ b4.toInt ∧ b4.toInt < 16807 := by omega
            have k6 : b6.toInt = a.toInt + 1 := by rw [e6]; exact mi_addc (by decide) (by omega) (by omega)
            have i8 := idx_sp (k := b6) (s := b4) ⟨by omega, by omega⟩ r4 e7' e8
            have i11 := idx_sp (k := a) ⟨ha.1, by omega⟩ s1 e10 e11
            rw [show b6.toInt.toNat = a.toInt.toNat + 1 from by omega, g4] at i8
            rw [i11, h2 a.toInt.toNat s.toInt.toNat (by omega) (by omega)] at e12
            rw [i8] at e9 e14
            have v9 := h3 (s.toInt.toNat + e7 (bt S.toInt.toNat)) lt
            rw [← e9, (tg_at yv).2, Int.add_zero] at v9
            have q1 := hA1 (s.toInt.toNat + e7 (bt S.toInt.toNat)) lt
            have q2 := hA s.toInt.toNat s7
            have v13 : b13.toInt = (A0 (16807 * (a.toInt.toNat + 1) + (s.toInt.toNat + e7 (bt S.toInt.toNat)))).toInt + (A0 (16807 * a.toInt.toNat + s.toInt.toNat)).toInt := by
              rw [e13, ml_add (by rw [v9, e12]; omega) (by rw [v9, e12]; omega), v9, e12]
            refine ⟨a1, fun j x hj hx => ?_, fun t ht => ?_⟩
            · show b14 (16807 * j + x) = _
              rw [← e14, pl_un (by omega)]
              exact h2 j x hj hx
            · show (b14 (16807 * (a.toInt.toNat + 1) + t)).toInt = _ + tg pa cl z.toInt.toNat _ _ t
              rw [← e14, a2]
              by_cases k : t = s.toInt.toNat + e7 (bt S.toInt.toNat)
              · subst k
                rw [pl_us, (tg_at yv).1, v13]
              · rw [pl_un (by omega), tg_up (Or.inl k)]
                exact h3 t ht
      · refine ⟨(z, A), stay z ez (Or.inr ?_), hk⟩
        rw [← e2]; exact lc.1.mp v
  · show (A0 (16807 * (a.toInt.toNat + 1) + t)).toInt = _ + tg pa cl (0 : Int32).toInt.toNat _ _ t
    rw [c0, tg_n (fun k => absurd k.2.1 (by show ¬ _ < 0; omega)), Int.add_zero]
/-- goOn() -/
noncomputable def tk (pa : Int32) (cl : Nat → Int32) (h : Nat → Int) (H : Int) (f : Nat → Int) (t S : Nat) : Int := if hv5 h S = H then tg pa cl (7 ^ pa.toInt.toNat) f S t else 0
theorem tk_rng {pa : Int32} {cl : Nat → Int32} {h : Nat → Int} {H : Int} {f : Nat → Int} {t S : Nat} {B : Int} (hB : 0 ≤ B) (hf : ∀ s : Nat, s < 7 ^ pa.toInt.toNat → 0 ≤ f s ∧ f s ≤ B) : 0 ≤ tk pa cl h H f t S ∧ tk pa cl h H f t S ≤ B := by
  unfold tk
  by_cases k : hv5 h S = H
  · rw [if_pos k]; exact tg_rng hB hf
  · rw [if_neg k]; exact ⟨Int.le_refl _, hB⟩
theorem p2_sp {pa b : Int32} (hpa : 0 ≤ pa.toInt ∧ pa.toInt ≤ 5) (e : b = (1 : Int32) <<< (pa &&& (31 : Int32))) : b.toInt = ((2 ^ pa.toInt.toNat : Nat) : Int) := by
  have t : ∀ p : Fin 6, ((1 : Int32) <<< (Int32.ofNat p.val &&& (31 : Int32))).toInt = ((2 ^ p.val : Nat) : Int) := by decide +kernel
  have ep : pa = Int32.ofNat pa.toInt.toNat := mi_eq (by rw [Int32.toInt_ofNat_of_lt (by omega)]; omega)
  have q := t ⟨pa.toInt.toNat, by omega⟩
  have q : ((1 : Int32) <<< (Int32.ofNat pa.toInt.toNat &&& (31 : Int32))).toInt = ((2 ^ pa.toInt.toNat : Nat) : Int) := q
  rw [← ep] at q
  rw [e]; exact q
theorem goOn_sp {pa a xt xd : Int32} {un D cl ha Dk hl : Nat → Int32} {A0 u : Nat → Int64} {B : Int} (hpa : 0 ≤ pa.toInt ∧ pa.toInt ≤ 5) (hun : Un7 un) (hX : 0 ≤ xt.toInt ∧ xt.toInt ≤ 1) (hC : ∀ p : Nat, (p : Int) < pa.toInt → D (36 * xt.toInt.toNat + (6 + 2 * p)) = cl p) (hH : ∀ p : Nat, (p : Int) < pa.toInt → D (36 * xt.toInt.toNat + (7 + 2 * p)) = ha p) (gH : ∀ p : Nat, (p : Int) < pa.toInt → 1 ≤ (ha p).toInt ∧ (ha p).toInt ≤ 2) (hd : 0 ≤ xd.toInt ∧ xd.toInt ≤ 1) (ha5 : 0 ≤ a.toInt ∧ a.toInt ≤ 5) (hDk : Dk (7 * xd.toInt.toNat + (1 + a.toInt.toNat)) = hl a.toInt.toNat) (hB : 0 ≤ B ∧ B ≤ 1073741824) (hA : ∀ s : Nat, s < 7 ^ pa.toInt.toNat → 0 ≤ (A0 (16807 * a.toInt.toNat + s)).toInt ∧ (A0 (16807 * a.toInt.toNat + s)).toInt ≤ B) (hA1 : ∀ t : Nat, t < 16807 → (A0 (16807 * (a.toInt.toNat + 1) + t)).toInt = 0) (h : R_j_goOn pa xt D xd a Dk un A0 u) : (∀ j x : Nat, j ≠ a.toInt.toNat + 1 → x < 16807 → u (16807 * j + x) = A0 (16807 * j + x)) ∧ ∀ t : Nat, t < 16807 → (u (16807 * (a.toInt.toNat + 1) + t)).toInt = sm (2 ^ pa.toInt.toNat) (tk pa cl (fun p => (ha p).toInt) (hl a.toInt.toNat).toInt (fun i => (A0 (16807 * a.toInt.toNat + i)).toInt) t) := by
  have c0 : (0 : Int32).toInt = 0 := by decide
  have l2 := tb_2p ⟨pa.toInt.toNat, by clear h; omega⟩
  have l2 : 1 ≤ 2 ^ pa.toInt.toNat ∧ 2 ^ pa.toInt.toNat ≤ 32 := l2
  have l7 := p7_le (P := pa.toInt.toNat) (by clear h; omega)
  refine fx_inv (P := fun s => (0 ≤ s.1.toInt ∧ s.1.toInt.toNat ≤ 2 ^ pa.toInt.toNat) ∧ (∀ j x : Nat, j ≠ a.toInt.toNat + 1 → x < 16807 → s.2 (16807 * j + x) = A0 (16807 * j + x)) ∧ ∀ t : Nat, t < 16807 → (s.2 (16807 * (a.toInt.toNat + 1) + t)).toInt = sm s.1.toInt.toNat (tk pa cl (fun p => (ha p).toInt) (hl a.toInt.toNat).toInt (fun i => (A0 (16807 * a.toInt.toNat + i)).toInt) t)) (fun K s hP hT => ?_) 66 _ h ⟨⟨by show 0 ≤ (0 : Int32).toInt; decide, by show (0 : Int32).toInt.toNat ≤ _; rw [c0]; exact Nat.zero_le _⟩, fun j x _ _ => rfl, fun t ht => ?_⟩
  · obtain ⟨S, A⟩ := s
    obtain ⟨h1, h2, h3⟩ := hP
    have h1 : 0 ≤ S.toInt ∧ S.toInt.toNat ≤ 2 ^ pa.toInt.toNat := h1
    have h2 : ∀ j x : Nat, j ≠ a.toInt.toNat + 1 → x < 16807 → A (16807 * j + x) = A0 (16807 * j + x) := h2
    have h3 : ∀ t : Nat, t < 16807 → (A (16807 * (a.toInt.toNat + 1) + t)).toInt = sm S.toInt.toNat (tk pa cl (fun p => (ha p).toInt) (hl a.toInt.toNat).toInt (fun i => (A0 (16807 * a.toInt.toNat + i)).toInt) t) := h3
    dsimp only [T_j_goOn_2] at hT
    obtain ⟨b0, e0, hT⟩ := hT
    have g0 := p2_sp hpa e0
    rw [g0] at hT
    rcases hT with ⟨q, e⟩ | ⟨q, b1, hb1, b2, hb2, hT⟩
    · refine Or.inl ?_
      have es : S.toInt.toNat = 2 ^ pa.toInt.toNat := by omega
      rw [e, ← es]; exact ⟨h2, h3⟩
    · refine Or.inr ?_
      have hS : 0 ≤ S.toInt ∧ S.toInt.toNat < 2 ^ pa.toInt.toNat := by clear hT hb1 hb2; omega
      have hb1 := halv_sp hpa hX hH gH hS hb1
      have hb2 := hdof_sp hd ha5 hb2
      rw [hDk] at hb2
      have nx : ∀ z : Int32, z = S + 1 → (0 ≤ z.toInt ∧ z.toInt.toNat ≤ 2 ^ pa.toInt.toNat) ∧ z.toInt.toNat = S.toInt.toNat + 1 := fun z ez => by
        have g : z.toInt = S.toInt + 1 := by rw [ez]; exact mi_addc (by decide) (by clear hT; omega) (by clear hT; omega)
        clear hT; omega
      rcases hT with ⟨w, hT⟩ | ⟨w, b3, hb3, hT⟩
      · have nh : ¬ hv5 (fun p => (ha p).toInt) S.toInt.toNat = (hl a.toInt.toNat).toInt := by rw [← hb1, ← hb2]; exact w
        replace hT := fx_o (n := 16808) hT
        dsimp only [T_j_goOn_37] at hT
        obtain ⟨z, ez, hk⟩ := hT
        obtain ⟨a1, a2⟩ := nx z ez
        refine ⟨(z, A), ⟨a1, h2, fun t ht => ?_⟩, hk⟩
        show (A (16807 * (a.toInt.toNat + 1) + t)).toInt = sm z.toInt.toNat _
        rw [a2, sm_s, h3 t ht]
        show _ = _ + (if _ then _ else _)
        rw [if_neg nh, Int.add_zero]
      · have yh : hv5 (fun p => (ha p).toInt) S.toInt.toNat = (hl a.toInt.toNat).toInt := by rw [← hb1, ← hb2]; exact w
        have hb3 := stat_sp hpa hb3
        have ea : ∀ s : Nat, s < 16807 → A (16807 * a.toInt.toNat + s) = A0 (16807 * a.toInt.toNat + s) := fun s hs => h2 a.toInt.toNat s (by omega) hs
        have tot : ∀ t : Nat, t < 16807 → 0 ≤ (A (16807 * (a.toInt.toNat + 1) + t)).toInt ∧ (A (16807 * (a.toInt.toNat + 1) + t)).toInt ≤ 34359738368 := fun t ht => by
          rw [h3 t ht]
          have q1 := sm_nn (f := tk pa cl (fun p => (ha p).toInt) (hl a.toInt.toNat).toInt (fun i => (A0 (16807 * a.toInt.toNat + i)).toInt) t) S.toInt.toNat (fun i _ => (tk_rng hB.1 hA).1)
          have q2 := sm_bd (f := tk pa cl (fun p => (ha p).toInt) (hl a.toInt.toNat).toInt (fun i => (A0 (16807 * a.toInt.toNat + i)).toInt) t) (c := 1073741824) S.toInt.toNat (fun i _ => Int.le_trans (tk_rng hB.1 hA).2 hB.2)
          clear hT
          omega
        obtain ⟨z, A1, ez, hk, w1, w2⟩ := goset_sp (A0 := A) hpa hun hX hC hS ha5 hb3 hB (fun s hs => by rw [ea s (by clear hT; omega)]; exact hA s hs) tot hT
        clear hT
        have g : z.toInt = S.toInt + 1 := by rw [ez]; exact mi_addc (by decide) (by clear hk; omega) (by clear hk; omega)
        have a2 : z.toInt.toNat = S.toInt.toNat + 1 := by clear hk; omega
        refine ⟨(z, A1), ⟨?_, fun j x hj hx => ?_, fun t ht => ?_⟩, hk⟩
        · show 0 ≤ z.toInt ∧ z.toInt.toNat ≤ 2 ^ pa.toInt.toNat
          clear hk; omega
        · show A1 (16807 * j + x) = _
          rw [w1 j x hj hx]; exact h2 j x hj hx
        · show (A1 (16807 * (a.toInt.toNat + 1) + t)).toInt = sm z.toInt.toNat _
          clear hk
          rw [a2, sm_s, w2 t ht, h3 t ht]
          show _ = _ + (if _ then _ else _)
          rw [if_pos yh]
          have e : tg pa cl (7 ^ pa.toInt.toNat) (fun i => (A (16807 * a.toInt.toNat + i)).toInt) S.toInt.toNat t = tg pa cl (7 ^ pa.toInt.toNat) (fun i => (A0 (16807 * a.toInt.toNat + i)).toInt) S.toInt.toNat t := by
            by_cases k : e7 (bt S.toInt.toNat) ≤ t ∧ t - e7 (bt S.toInt.toNat) < 7 ^ pa.toInt.toNat ∧ Val pa cl (t - e7 (bt S.toInt.toNat)) S.toInt.toNat
            · rw [tg_y k, tg_y k, ea _ (by omega)]
            · rw [tg_n k, tg_n k]
          rw [e]
  · show (A0 (16807 * (a.toInt.toNat + 1) + t)).toInt = sm (0 : Int32).toInt.toNat _
    rw [c0, hA1 t ht]; rfl
/-- goBack() -/
noncomputable def tbk (pa : Int32) (cl : Nat → Int32) (h : Nat → Int) (H : Int) (f g : Nat → Int) (s S : Nat) : Int := @ite Int (hv5 h S = H ∧ f s ≠ 0 ∧ Val pa cl s S) (Classical.propDecidable _) (g (s + e7 (bt S))) 0
theorem tb_y {pa : Int32} {cl : Nat → Int32} {h : Nat → Int} {H : Int} {f g : Nat → Int} {s S : Nat} (y : hv5 h S = H ∧ f s ≠ 0 ∧ Val pa cl s S) : tbk pa cl h H f g s S = g (s + e7 (bt S)) := if_pos y
theorem tb_n {pa : Int32} {cl : Nat → Int32} {h : Nat → Int} {H : Int} {f g : Nat → Int} {s S : Nat} (y : ¬ (hv5 h S = H ∧ f s ≠ 0 ∧ Val pa cl s S)) : tbk pa cl h H f g s S = 0 := if_neg y
theorem backset_sp {pa st S a xt : Int32} {un D cl : Nat → Int32} {A B0 u : Nat → Int64} {Kp : (Int32 × (Nat → Int64)) → Prop} {h : Nat → Int} {H : Int} {M : Nat} (hpa : 0 ≤ pa.toInt ∧ pa.toInt ≤ 5) (hun : Un7 un) (hX : 0 ≤ xt.toInt ∧ xt.toInt ≤ 1) (hC : ∀ p : Nat, (p : Int) < pa.toInt → D (36 * xt.toInt.toNat + (6 + 2 * p)) = cl p) (hS : 0 ≤ S.toInt ∧ S.toInt.toNat < 2 ^ pa.toInt.toNat) (ha : 0 ≤ a.toInt ∧ a.toInt ≤ 5) (hst : st.toInt = ((7 ^ pa.toInt.toNat : Nat) : Int)) (hH : hv5 h S.toInt.toNat = H) (hb1 : ∀ s : Nat, s < 7 ^ pa.toInt.toNat → 0 ≤ (B0 (16807 * (a.toInt.toNat + 1) + s)).toInt ∧ (B0 (16807 * (a.toInt.toNat + 1) + s)).toInt ≤ 1073741824) (hb0 : ∀ t : Nat, t < 16807 → 0 ≤ (B0 (16807 * a.toInt.toNat + t)).toInt ∧ (B0 (16807 * a.toInt.toNat + t)).toInt ≤ 34359738368) (hx : fx (T_j_goBack_37b st S a A pa un xt D Kp u) M ((0 : Int32), B0)) : ∃ (z : Int32) (B1 : Nat → Int64), z = S + 1 ∧ Kp (z, B1) ∧ (∀ j x : Nat, j ≠ a.toInt.toNat → x < 16807 → B1 (16807 * j + x) = B0 (16807 * j + x)) ∧ (∀ t : Nat, t < 7 ^ pa.toInt.toNat → (B1 (16807 * a.toInt.toNat + t)).toInt = (B0 (16807 * a.toInt.toNat + t)).toInt + tbk pa cl h H (fun s => (A (16807 * a.toInt.toNat + s)).toInt) (fun s => (B0 (16807 * (a.toInt.toNat + 1) + s)).toInt) t S.toInt.toNat) ∧ (∀ t : Nat, 7 ^ pa.toInt.toNat ≤ t → t < 16807 → B1 (16807 * a.toInt.toNat + t) = B0 (16807 * a.toInt.toNat + t)) := by
  have c0 : (0 : Int32).toInt = 0 := by decide
  have l7 := p7_le (P := pa.toInt.toNat) (by clear hx; omega)
  have l7i : 1 ≤ ((7 ^ pa.toInt.toNat : Nat) : Int) ∧ ((7 ^ pa.toInt.toNat : Nat) : Int) ≤ 16807 := ⟨Int.ofNat_le.mpr l7.1, Int.ofNat_le.mpr l7.2⟩
  refine fx_inv (P := fun s => (0 ≤ s.1.toInt ∧ s.1.toInt ≤ ((7 ^ pa.toInt.toNat : Nat) : Int)) ∧ (∀ j x : Nat, j ≠ a.toInt.toNat → x < 16807 → s.2 (16807 * j + x) = B0 (16807 * j + x)) ∧ (∀ t : Nat, (t : Int) < s.1.toInt → (s.2 (16807 * a.toInt.toNat + t)).toInt = (B0 (16807 * a.toInt.toNat + t)).toInt + tbk pa cl h H (fun s => (A (16807 * a.toInt.toNat + s)).toInt) (fun s => (B0 (16807 * (a.toInt.toNat + 1) + s)).toInt) t S.toInt.toNat) ∧ (∀ t : Nat, s.1.toInt ≤ (t : Int) → t < 16807 → s.2 (16807 * a.toInt.toNat + t) = B0 (16807 * a.toInt.toNat + t))) (fun K s hP hT => ?_) M _ hx ⟨⟨by show 0 ≤ (0 : Int32).toInt; decide, by show (0 : Int32).toInt ≤ _; omega⟩, fun j x _ _ => rfl, fun t ht => ?_, fun t _ _ => rfl⟩
  · obtain ⟨s, Bb⟩ := s
    obtain ⟨h1, h2, h3, h4⟩ := hP
    have h1 : 0 ≤ s.toInt ∧ s.toInt ≤ ((7 ^ pa.toInt.toNat : Nat) : Int) := h1
    have h2 : ∀ j x : Nat, j ≠ a.toInt.toNat → x < 16807 → Bb (16807 * j + x) = B0 (16807 * j + x) := h2
    have h3 : ∀ t : Nat, (t : Int) < s.toInt → (Bb (16807 * a.toInt.toNat + t)).toInt = (B0 (16807 * a.toInt.toNat + t)).toInt + tbk pa cl h H (fun s => (A (16807 * a.toInt.toNat + s)).toInt) (fun s => (B0 (16807 * (a.toInt.toNat + 1) + s)).toInt) t S.toInt.toNat := h3
    have h4 : ∀ t : Nat, s.toInt ≤ (t : Int) → t < 16807 → Bb (16807 * a.toInt.toNat + t) = B0 (16807 * a.toInt.toNat + t) := h4
    dsimp only [T_j_goBack_37b, R_j_goBack_s0] at hT
    rcases hT with ⟨q, z, ez, hk⟩ | ⟨q, b0, e0, b1, e1, b2, e2, b3, e3, hT⟩
    · refine Or.inl ⟨z, Bb, ez, hk, h2, fun t ht => ?_, fun t h7 ht => ?_⟩
      · clear hk; exact h3 t (by omega)
      · clear hk; exact h4 t (by omega) ht
    · rw [hst] at q
      have s7 : s.toInt.toNat < 7 ^ pa.toInt.toNat := by clear hT; omega
      have s1 : 0 ≤ s.toInt ∧ s.toInt < 16807 := by clear hT; omega
      have i1 := idx_sp (k := a) ⟨ha.1, by clear hT; omega⟩ s1 e0 e1
      rw [i1] at e2
      have lc := lcmp0 e3
      have g : ∀ z : Int32, z = s + 1 → z.toInt = s.toInt + 1 := fun z ez => by rw [ez]; exact mi_addc (by decide) (by clear hT; omega) (by clear hT; omega)
      have stay : ∀ z : Int32, z = s + 1 → (¬ Val pa cl s.toInt.toNat S.toInt.toNat ∨ (A (16807 * a.toInt.toNat + s.toInt.toNat)).toInt = 0) → (0 ≤ z.toInt ∧ z.toInt ≤ ((7 ^ pa.toInt.toNat : Nat) : Int)) ∧ (∀ j x : Nat, j ≠ a.toInt.toNat → x < 16807 → Bb (16807 * j + x) = B0 (16807 * j + x)) ∧ (∀ t : Nat, (t : Int) < z.toInt → (Bb (16807 * a.toInt.toNat + t)).toInt = (B0 (16807 * a.toInt.toNat + t)).toInt + tbk pa cl h H (fun s => (A (16807 * a.toInt.toNat + s)).toInt) (fun s => (B0 (16807 * (a.toInt.toNat + 1) + s)).toInt) t S.toInt.toNat) ∧ (∀ t : Nat, z.toInt ≤ (t : Int) → t < 16807 → Bb (16807 * a.toInt.toNat + t) = B0 (16807 * a.toInt.toNat + t)) := fun z ez w => by
        have gz := g z ez
        refine ⟨by clear hT; omega, h2, fun t ht => ?_, fun t ht1 ht2 => h4 t (by clear hT; omega) ht2⟩
        by_cases k : t = s.toInt.toNat
        · subst k
          rw [h4 _ (by clear hT; omega) (by clear hT; omega), tb_n (fun y => by
            rcases w with w | w
            · exact w y.2.2
            · exact y.2.1 w), Int.add_zero]
        · exact h3 t (by clear hT; omega)
      refine Or.inr ?_
      rcases hT with ⟨v, b4, h4', hT⟩ | ⟨v, z, ez, hk⟩
      · have h4' := after_sp hpa hun hX hC hS s1 h4'
        rcases hT with ⟨w, z, ez, hk⟩ | ⟨w, b6, e6, b7, e7', b8, e8, b9, e9, b10, e10, b11, e11, b12, e12, b13, e13, b14, e14, z, ez, hk⟩
        · refine ⟨(z, Bb), stay z ez (Or.inl ?_), hk⟩
          rcases h4' with ⟨-, y⟩ | ⟨y, -⟩
          · exact y
          · exact absurd w (by clear hk; omega)
        · have gz := g z ez
          refine ⟨(z, b14), ?_, hk⟩
          clear hk
          rcases h4' with ⟨y, -⟩ | ⟨y, yv⟩
          · exact absurd y w
          · obtain ⟨-, lt7, lt, -⟩ := Val_d hpa hS.2 s7 yv
            have g4 : b4.toInt.toNat = s.toInt.toNat + e7 (bt S.toInt.toNat) := by rw [y]; omega
            have r4 : 0 ≤ b4.toInt ∧ b4.toInt < 16807 := by omega
            have k9 : b9.toInt = a.toInt + 1 := by rw [e9]; exact mi_addc (by decide) (by omega) (by omega)
            have i7 := idx_sp (k := a) ⟨ha.1, by omega⟩ s1 e6 e7'
            have i11 := idx_sp (k := b9) (s := b4) ⟨by omega, by omega⟩ r4 e10 e11
            rw [show b9.toInt.toNat = a.toInt.toNat + 1 from by omega, g4] at i11
            rw [i7, h4 _ (by omega) (by omega)] at e8
            rw [i11, h2 _ _ (by omega) lt] at e12
            rw [i7] at e14
            have q1 := hb1 (s.toInt.toNat + e7 (bt S.toInt.toNat)) lt7
            have q2 := hb0 s.toInt.toNat (by omega)
            have v13 : b13.toInt = (B0 (16807 * a.toInt.toNat + s.toInt.toNat)).toInt + (B0 (16807 * (a.toInt.toNat + 1) + (s.toInt.toNat + e7 (bt S.toInt.toNat)))).toInt := by
              rw [e13, ml_add (by rw [e8, e12]; omega) (by rw [e8, e12]; omega), e8, e12]
            have nz : (A (16807 * a.toInt.toNat + s.toInt.toNat)).toInt ≠ 0 := fun k => v (lc.1.mpr (by rw [e2]; exact k))
            refine ⟨?_, fun j x hj hx => ?_, fun t ht => ?_, fun t ht1 ht2 => ?_⟩
            · show 0 ≤ z.toInt ∧ z.toInt ≤ _
              omega
            · show b14 (16807 * j + x) = _
              rw [← e14, pl_un (by omega)]
              exact h2 j x hj hx
            · have ht : (t : Int) < z.toInt := ht
              show (b14 (16807 * a.toInt.toNat + t)).toInt = _
              rw [← e14]
              by_cases k : t = s.toInt.toNat
              · subst k
                rw [pl_us, v13, tb_y ⟨hH, nz, yv⟩]
              · rw [pl_un (by omega)]
                exact h3 t (by omega)
            · have ht1 : z.toInt ≤ (t : Int) := ht1
              show b14 (16807 * a.toInt.toNat + t) = _
              rw [← e14, pl_un (by omega)]
              exact h4 t (by omega) ht2
      · refine ⟨(z, Bb), stay z ez (Or.inr ?_), hk⟩
        rw [← e2]; exact lc.1.mp v
  · have ht : (t : Int) < (0 : Int32).toInt := ht
    rw [c0] at ht; omega
theorem goBack_sp {pa a xt xd : Int32} {un D cl ha Dk hl : Nat → Int32} {A B0 u : Nat → Int64} {Bd : Int} (hpa : 0 ≤ pa.toInt ∧ pa.toInt ≤ 5) (hun : Un7 un) (hX : 0 ≤ xt.toInt ∧ xt.toInt ≤ 1) (hC : ∀ p : Nat, (p : Int) < pa.toInt → D (36 * xt.toInt.toNat + (6 + 2 * p)) = cl p) (hH : ∀ p : Nat, (p : Int) < pa.toInt → D (36 * xt.toInt.toNat + (7 + 2 * p)) = ha p) (gH : ∀ p : Nat, (p : Int) < pa.toInt → 1 ≤ (ha p).toInt ∧ (ha p).toInt ≤ 2) (hd : 0 ≤ xd.toInt ∧ xd.toInt ≤ 1) (ha5 : 0 ≤ a.toInt ∧ a.toInt ≤ 5) (hDk : Dk (7 * xd.toInt.toNat + (1 + a.toInt.toNat)) = hl a.toInt.toNat) (hB : 0 ≤ Bd ∧ Bd ≤ 1073741824) (hb1 : ∀ s : Nat, s < 7 ^ pa.toInt.toNat → 0 ≤ (B0 (16807 * (a.toInt.toNat + 1) + s)).toInt ∧ (B0 (16807 * (a.toInt.toNat + 1) + s)).toInt ≤ Bd) (hb0 : ∀ t : Nat, t < 16807 → (B0 (16807 * a.toInt.toNat + t)).toInt = 0) (h : R_j_goBack pa xt D xd a Dk A un B0 u) : (∀ j x : Nat, j ≠ a.toInt.toNat → x < 16807 → u (16807 * j + x) = B0 (16807 * j + x)) ∧ ∀ s : Nat, s < 7 ^ pa.toInt.toNat → (u (16807 * a.toInt.toNat + s)).toInt = sm (2 ^ pa.toInt.toNat) (tbk pa cl (fun p => (ha p).toInt) (hl a.toInt.toNat).toInt (fun s => (A (16807 * a.toInt.toNat + s)).toInt) (fun s => (B0 (16807 * (a.toInt.toNat + 1) + s)).toInt) s) := by
  have c0 : (0 : Int32).toInt = 0 := by decide
  have l2 := tb_2p ⟨pa.toInt.toNat, by clear h; omega⟩
  have l2 : 1 ≤ 2 ^ pa.toInt.toNat ∧ 2 ^ pa.toInt.toNat ≤ 32 := l2
  have l7 := p7_le (P := pa.toInt.toNat) (by clear h; omega)
  have tr : ∀ s S : Nat, S < 2 ^ pa.toInt.toNat → s < 7 ^ pa.toInt.toNat → 0 ≤ tbk pa cl (fun p => (ha p).toInt) (hl a.toInt.toNat).toInt (fun s => (A (16807 * a.toInt.toNat + s)).toInt) (fun s => (B0 (16807 * (a.toInt.toNat + 1) + s)).toInt) s S ∧ tbk pa cl (fun p => (ha p).toInt) (hl a.toInt.toNat).toInt (fun s => (A (16807 * a.toInt.toNat + s)).toInt) (fun s => (B0 (16807 * (a.toInt.toNat + 1) + s)).toInt) s S ≤ 1073741824 := fun s S hS hs => by
    by_cases y : hv5 (fun p => (ha p).toInt) S = (hl a.toInt.toNat).toInt ∧ (fun s => (A (16807 * a.toInt.toNat + s)).toInt) s ≠ 0 ∧ Val pa cl s S
    · rw [tb_y y]
      obtain ⟨-, lt7, -, -⟩ := Val_d hpa hS hs y.2.2
      have := hb1 _ lt7
      exact ⟨this.1, Int.le_trans this.2 hB.2⟩
    · rw [tb_n y]; exact ⟨Int.le_refl _, by decide⟩
  refine fx_inv (P := fun s => (0 ≤ s.1.toInt ∧ s.1.toInt.toNat ≤ 2 ^ pa.toInt.toNat) ∧ (∀ j x : Nat, j ≠ a.toInt.toNat → x < 16807 → s.2 (16807 * j + x) = B0 (16807 * j + x)) ∧ (∀ t : Nat, t < 7 ^ pa.toInt.toNat → (s.2 (16807 * a.toInt.toNat + t)).toInt = sm s.1.toInt.toNat (tbk pa cl (fun p => (ha p).toInt) (hl a.toInt.toNat).toInt (fun s => (A (16807 * a.toInt.toNat + s)).toInt) (fun s => (B0 (16807 * (a.toInt.toNat + 1) + s)).toInt) t)) ∧ (∀ t : Nat, 7 ^ pa.toInt.toNat ≤ t → t < 16807 → s.2 (16807 * a.toInt.toNat + t) = B0 (16807 * a.toInt.toNat + t))) (fun K s hP hT => ?_) 66 _ h ⟨⟨by show 0 ≤ (0 : Int32).toInt; decide, by show (0 : Int32).toInt.toNat ≤ _; rw [c0]; exact Nat.zero_le _⟩, fun j x _ _ => rfl, fun t ht => ?_, fun t _ _ => rfl⟩
  · obtain ⟨S, Bb⟩ := s
    obtain ⟨h1, h2, h3, h4⟩ := hP
    have h1 : 0 ≤ S.toInt ∧ S.toInt.toNat ≤ 2 ^ pa.toInt.toNat := h1
    have h2 : ∀ j x : Nat, j ≠ a.toInt.toNat → x < 16807 → Bb (16807 * j + x) = B0 (16807 * j + x) := h2
    have h3 : ∀ t : Nat, t < 7 ^ pa.toInt.toNat → (Bb (16807 * a.toInt.toNat + t)).toInt = sm S.toInt.toNat (tbk pa cl (fun p => (ha p).toInt) (hl a.toInt.toNat).toInt (fun s => (A (16807 * a.toInt.toNat + s)).toInt) (fun s => (B0 (16807 * (a.toInt.toNat + 1) + s)).toInt) t) := h3
    have h4 : ∀ t : Nat, 7 ^ pa.toInt.toNat ≤ t → t < 16807 → Bb (16807 * a.toInt.toNat + t) = B0 (16807 * a.toInt.toNat + t) := h4
    dsimp only [T_j_goBack_2] at hT
    obtain ⟨b0, e0, hT⟩ := hT
    have g0 := p2_sp hpa e0
    rw [g0] at hT
    rcases hT with ⟨q, e⟩ | ⟨q, b1, hb1', b2, hb2, hT⟩
    · refine Or.inl ?_
      have es : S.toInt.toNat = 2 ^ pa.toInt.toNat := by omega
      rw [e, ← es]; exact ⟨h2, h3⟩
    · refine Or.inr ?_
      have hS : 0 ≤ S.toInt ∧ S.toInt.toNat < 2 ^ pa.toInt.toNat := by clear hT hb1' hb2; omega
      have hb1' := halv_sp hpa hX hH gH hS hb1'
      have hb2 := hdof_sp hd ha5 hb2
      rw [hDk] at hb2
      have nx : ∀ z : Int32, z = S + 1 → (0 ≤ z.toInt ∧ z.toInt.toNat ≤ 2 ^ pa.toInt.toNat) ∧ z.toInt.toNat = S.toInt.toNat + 1 := fun z ez => by
        have g : z.toInt = S.toInt + 1 := by rw [ez]; exact mi_addc (by decide) (by clear hT; omega) (by clear hT; omega)
        clear hT; omega
      rcases hT with ⟨w, hT⟩ | ⟨w, b3, hb3, hT⟩
      · have nh : ¬ hv5 (fun p => (ha p).toInt) S.toInt.toNat = (hl a.toInt.toNat).toInt := by rw [← hb1', ← hb2]; exact w
        replace hT := fx_o (n := 16808) hT
        dsimp only [T_j_goBack_37] at hT
        obtain ⟨z, ez, hk⟩ := hT
        obtain ⟨a1, a2⟩ := nx z ez
        refine ⟨(z, Bb), ⟨a1, h2, fun t ht => ?_, h4⟩, hk⟩
        show (Bb (16807 * a.toInt.toNat + t)).toInt = sm z.toInt.toNat _
        rw [a2, sm_s, tb_n (fun y => nh y.1), Int.add_zero]
        exact h3 t ht
      · have yh : hv5 (fun p => (ha p).toInt) S.toInt.toNat = (hl a.toInt.toNat).toInt := by rw [← hb1', ← hb2]; exact w
        have hb3 := stat_sp hpa hb3
        have ea : ∀ s : Nat, s < 16807 → Bb (16807 * (a.toInt.toNat + 1) + s) = B0 (16807 * (a.toInt.toNat + 1) + s) := fun s hs => h2 (a.toInt.toNat + 1) s (by omega) hs
        have tot : ∀ t : Nat, t < 16807 → 0 ≤ (Bb (16807 * a.toInt.toNat + t)).toInt ∧ (Bb (16807 * a.toInt.toNat + t)).toInt ≤ 34359738368 := fun t ht => by
          clear hT
          by_cases k : t < 7 ^ pa.toInt.toNat
          · rw [h3 t k]
            have q1 := sm_nn (f := tbk pa cl (fun p => (ha p).toInt) (hl a.toInt.toNat).toInt (fun s => (A (16807 * a.toInt.toNat + s)).toInt) (fun s => (B0 (16807 * (a.toInt.toNat + 1) + s)).toInt) t) S.toInt.toNat (fun i hi => (tr t i (by omega) k).1)
            have q2 := sm_bd (f := tbk pa cl (fun p => (ha p).toInt) (hl a.toInt.toNat).toInt (fun s => (A (16807 * a.toInt.toNat + s)).toInt) (fun s => (B0 (16807 * (a.toInt.toNat + 1) + s)).toInt) t) (c := 1073741824) S.toInt.toNat (fun i hi => (tr t i (by omega) k).2)
            omega
          · rw [h4 t (by omega) ht, hb0 t ht]; exact ⟨by decide, by decide⟩
        obtain ⟨z, B1, ez, hk, w1, w2, w3⟩ := backset_sp (B0 := Bb) (h := fun p => (ha p).toInt) (H := (hl a.toInt.toNat).toInt) hpa hun hX hC hS ha5 hb3 yh (fun s hs => by
          rw [ea s (by clear hT; omega)]
          have := hb1 s hs
          exact ⟨this.1, Int.le_trans this.2 hB.2⟩) tot hT
        clear hT
        have g : z.toInt = S.toInt + 1 := by rw [ez]; exact mi_addc (by decide) (by clear hk; omega) (by clear hk; omega)
        have a2 : z.toInt.toNat = S.toInt.toNat + 1 := by clear hk; omega
        refine ⟨(z, B1), ⟨?_, fun j x hj hx => ?_, fun t ht => ?_, fun t ht1 ht2 => ?_⟩, hk⟩
        · show 0 ≤ z.toInt ∧ z.toInt.toNat ≤ 2 ^ pa.toInt.toNat
          clear hk; omega
        · show B1 (16807 * j + x) = _
          rw [w1 j x hj hx]; exact h2 j x hj hx
        · show (B1 (16807 * a.toInt.toNat + t)).toInt = sm z.toInt.toNat _
          clear hk
          rw [a2, sm_s, w2 t ht, h3 t ht]
          have e : tbk pa cl (fun p => (ha p).toInt) (hl a.toInt.toNat).toInt (fun s => (A (16807 * a.toInt.toNat + s)).toInt) (fun s => (Bb (16807 * (a.toInt.toNat + 1) + s)).toInt) t S.toInt.toNat = tbk pa cl (fun p => (ha p).toInt) (hl a.toInt.toNat).toInt (fun s => (A (16807 * a.toInt.toNat + s)).toInt) (fun s => (B0 (16807 * (a.toInt.toNat + 1) + s)).toInt) t S.toInt.toNat := by
            by_cases k : hv5 (fun p => (ha p).toInt) S.toInt.toNat = (hl a.toInt.toNat).toInt ∧ (fun s => (A (16807 * a.toInt.toNat + s)).toInt) t ≠ 0 ∧ Val pa cl t S.toInt.toNat
            · obtain ⟨-, -, lt, -⟩ := Val_d hpa hS.2 ht k.2.2
              rw [tb_y k, tb_y k, ea _ lt]
            · rw [tb_n k, tb_n k]
          rw [e]
        · show B1 (16807 * a.toInt.toNat + t) = _
          rw [w3 t ht1 ht2]; exact h4 t ht1 ht2
  · show (B0 (16807 * a.toInt.toNat + t)).toInt = sm (0 : Int32).toInt.toNat _
    rw [c0, hb0 t (by clear h; omega)]; rfl
