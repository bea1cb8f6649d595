/-! the dark: the reference's ways are the ways -/
theorem Fc_c {cp : Nat → Int} {v w : Nat → Nat} (h : ∀ p : Nat, p < 5 → v p = w p) : Fc cp v = Fc cp w := by
  have iff : Cq cp v ↔ Cq cp w := by
    rw [Cq_at, Cq_at]
    constructor
    · intro q p hp; rw [← h p hp]; exact q p hp
    · intro q p hp; rw [h p hp]; exact q p hp
  by_cases k : Cq cp v
  · rw [Fc_y k, Fc_y (iff.mp k)]
  · rw [Fc_n k, Fc_n (fun q => k (iff.mpr q))]
theorem Wy_v {N : Nat} {ok : Nat → Nat → Bool} {cp : Nat → Int} : ∀ (r k : Nat) (v w : Nat → Nat), (∀ p : Nat, p < 5 → v p = w p) → Wy N ok (Fc cp) r k v = Wy N ok (Fc cp) r k w := by
  intro r
  induction r with
  | zero => intro k v w h; exact Fc_c h
  | succ r ih =>
    intro k v w h
    rw [Wy_s, Wy_s]
    refine sm_c N (fun S _ => ?_)
    rw [ih (k + 1) (va v S) (va w S) (fun p hp => by show v p + bt S p = w p + bt S p; rw [h p hp])]
theorem Wy_in {N : Nat} {ok : Nat → Nat → Bool} {cp : Nat → Int} {r k : Nat} {v : Nat → Nat} (h : 0 < Wy N ok (Fc cp) r k v) : Cq cp v := Classical.byContradiction (fun n => by
  rw [Wc_out n] at h; exact absurd h (by decide))
/-- a place that is reached -/
def Rch (P k : Nat) (cp : Nat → Int) (s : Nat) : Prop := s < 7 ^ P ∧ ∀ p : Nat, p < 5 → d7 s p ≤ k ∧ (d7 s p : Int) ≤ cp p
theorem cpv_nn {pa : Int32} {cl : Nat → Int32} (gC : ∀ p : Nat, (p : Int) < pa.toInt → 0 ≤ (cl p).toInt ∧ (cl p).toInt ≤ 99) (p : Nat) : 0 ≤ cpv pa cl p := by
  unfold cpv
  split
  · exact (gC p (by assumption)).1
  · exact Int.le_refl _
theorem AhP_r {pa : Int32} {cl : Nat → Int32} {h hl : Nat → Int} {A : Nat → Int64} {l : Nat} (hpa : 0 ≤ pa.toInt ∧ pa.toInt ≤ 5) (gC : ∀ p : Nat, (p : Int) < pa.toInt → 0 ≤ (cl p).toInt ∧ (cl p).toInt ≤ 99) (hl6 : l ≤ 6) (H : AhP pa cl h hl A l) : ∀ k : Nat, k ≤ l → ∀ s : Nat, s < 16807 → (A (16807 * k + s)).toInt ≠ 0 → Rch pa.toInt.toNat k (cpv pa cl) s := by
  have l7 := p7_le (P := pa.toInt.toNat) (by omega)
  intro k
  induction k with
  | zero =>
    intro _ s hs hn
    rw [Nat.mul_zero, Nat.zero_add, H.1 s hs] at hn
    have e : s = 0 := Classical.byContradiction (fun q => hn (if_neg q))
    subst e
    refine ⟨by omega, fun p hp => ?_⟩
    have e0 : d7 0 p = 0 := by unfold d7; rw [Nat.zero_div]
    rw [e0]
    exact ⟨Nat.le_refl _, cpv_nn gC p⟩
  | succ k ih =>
    intro hk t ht hn
    have bd := AhP_rng hpa hl6 H k (by omega)
    have e := H.2 k (by omega) t ht
    have pos : 0 < sm (2 ^ pa.toInt.toNat) (tk pa cl h (hl k) (fun i => (A (16807 * k + i)).toInt) t) := by
      have q := (AhP_rng hpa hl6 H (k + 1) hk t ht).1
      rw [← e]; omega
    have tr := fun S : Nat => tk_rng (pa := pa) (cl := cl) (h := h) (H := hl k) (f := fun i => (A (16807 * k + i)).toInt) (t := t) (S := S) (B := p32 k) (Int.le_trans (by decide) (p32_6 (r := k) (by omega)).1) (fun s hs => bd s (by omega))
    obtain ⟨S, hS, hp⟩ := (sm_pos (2 ^ pa.toInt.toNat) (fun S _ => (tr S).1)).mp pos
    unfold tk at hp
    by_cases y : hv5 h S = hl k
    · rw [if_pos y] at hp
      by_cases w : e7 (bt S) ≤ t ∧ t - e7 (bt S) < 7 ^ pa.toInt.toNat ∧ Val pa cl (t - e7 (bt S)) S
      · rw [tg_y w] at hp
        have hp : 0 < (A (16807 * k + (t - e7 (bt S)))).toInt := hp
        obtain ⟨w1, w2, w3⟩ := w
        have r := ih (by omega) (t - e7 (bt S)) (by omega) (by omega)
        obtain ⟨-, d2, -, d4'⟩ := Val_d hpa hS w2 w3
        rw [show t - e7 (bt S) + e7 (bt S) = t from by omega] at d2 d4'
        refine ⟨d2, fun p hp5 => ?_⟩
        rw [d4' p hp5]
        have rp := r.2 p hp5
        have b := bt_le S p
        refine ⟨by omega, ?_⟩
        by_cases z : bt S p = 1
        · have pp : (p : Int) < pa.toInt := Classical.byContradiction (fun q => by
            have := bt_out (P := pa.toInt.toNat) (by omega) hS (show pa.toInt.toNat ≤ p from by omega)
            omega)
          have v := w3 p pp z
          unfold cpv
          rw [if_pos pp, z]
          omega
        · rw [show bt S p = 0 from by omega]; exact rp.2
      · rw [tg_n w] at hp; exact absurd hp (by decide)
    · rw [if_neg y] at hp; exact absurd hp (by decide)
/-- a step within the claps told can be -/
theorem Val_of {pa : Int32} {cl : Nat → Int32} {k s S : Nat} (hk : k ≤ 5) (hpa : 0 ≤ pa.toInt ∧ pa.toInt ≤ 5) (r : Rch pa.toInt.toNat k (cpv pa cl) s) (h : Cq (cpv pa cl) (va (d7 s) S)) : Val pa cl s S := by
  intro p hp hb
  rw [Cq_at] at h
  have q := h p (by omega)
  have rp := r.2 p (by omega)
  have e : ((va (d7 s) S p : Nat) : Int) = (d7 s p : Int) + (bt S p : Int) := rfl
  unfold cpv at q
  rw [if_pos hp, e, hb] at q
  omega
theorem Cq_of {pa : Int32} {cl : Nat → Int32} {k s S : Nat} (hpa : 0 ≤ pa.toInt ∧ pa.toInt ≤ 5) (hS : S < 2 ^ pa.toInt.toNat) (r : Rch pa.toInt.toNat k (cpv pa cl) s) (h : Val pa cl s S) : Cq (cpv pa cl) (va (d7 s) S) := by
  rw [Cq_at]
  intro p hp
  have rp := r.2 p hp
  have e : ((va (d7 s) S p : Nat) : Int) = (d7 s p : Int) + (bt S p : Int) := rfl
  have b := bt_le S p
  rw [e]
  by_cases z : bt S p = 1
  · have pp : (p : Int) < pa.toInt := Classical.byContradiction (fun q => by
      have := bt_out (P := pa.toInt.toNat) (by omega) hS (show pa.toInt.toNat ≤ p from by omega)
      omega)
    have v := h p pp z
    unfold cpv
    rw [if_pos pp, z]
    omega
  · rw [show bt S p = 0 from by omega]; have := rp.2; omega
/-- a step forward keeps what is reached -/
theorem AhP_go {pa : Int32} {cl : Nat → Int32} {h hl : Nat → Int} {A : Nat → Int64} {l k s S : Nat} (hpa : 0 ≤ pa.toInt ∧ pa.toInt ≤ 5) (hl6 : l ≤ 6) (H : AhP pa cl h hl A l) (hk : k < l) (hS : S < 2 ^ pa.toInt.toNat) (ho : hv5 h S = hl k) (hs : s < 7 ^ pa.toInt.toNat) (hn : (A (16807 * k + s)).toInt ≠ 0) (hv : Val pa cl s S) : (A (16807 * (k + 1) + (s + e7 (bt S)))).toInt ≠ 0 := by
  have l7 := p7_le (P := pa.toInt.toNat) (by omega)
  obtain ⟨-, -, lt, -⟩ := Val_d hpa hS hs hv
  have bd := AhP_rng hpa hl6 H k (by omega)
  have tr := fun S' : Nat => tk_rng (pa := pa) (cl := cl) (h := h) (H := hl k) (f := fun i => (A (16807 * k + i)).toInt) (t := s + e7 (bt S)) (S := S') (B := p32 k) (Int.le_trans (by decide) (p32_6 (r := k) (by omega)).1) (fun s hs => bd s (by omega))
  have m := sm_mem (f := tk pa cl h (hl k) (fun i => (A (16807 * k + i)).toInt) (s + e7 (bt S))) (2 ^ pa.toInt.toNat) hS (fun i _ => (tr i).1)
  rw [H.2 k hk _ lt]
  have e : s + e7 (bt S) - e7 (bt S) = s := by omega
  have v : tk pa cl h (hl k) (fun i => (A (16807 * k + i)).toInt) (s + e7 (bt S)) S = (A (16807 * k + s)).toInt := by
    unfold tk
    rw [if_pos ho, tg_y ⟨by omega, by rw [e]; exact hs, by rw [e]; exact hv⟩, e]
  have b := (bd s (by omega)).1
  omega
theorem AhP_back {pa : Int32} {cl : Nat → Int32} {h hl : Nat → Int} {A : Nat → Int64} {l k t : Nat} (hpa : 0 ≤ pa.toInt ∧ pa.toInt ≤ 5) (hl6 : l ≤ 6) (H : AhP pa cl h hl A l) (hk : k < l) (ht : t < 16807) (hn : (A (16807 * (k + 1) + t)).toInt ≠ 0) : ∃ s S : Nat, S < 2 ^ pa.toInt.toNat ∧ hv5 h S = hl k ∧ s < 7 ^ pa.toInt.toNat ∧ (A (16807 * k + s)).toInt ≠ 0 ∧ Val pa cl s S ∧ t = s + e7 (bt S) := by
  have l7 := p7_le (P := pa.toInt.toNat) (by omega)
  have bd := AhP_rng hpa hl6 H k (by omega)
  have e := H.2 k hk t ht
  have pos : 0 < sm (2 ^ pa.toInt.toNat) (tk pa cl h (hl k) (fun i => (A (16807 * k + i)).toInt) t) := by
    have q := (AhP_rng hpa hl6 H (k + 1) (by omega) t ht).1
    rw [← e]; omega
  have tr := fun S : Nat => tk_rng (pa := pa) (cl := cl) (h := h) (H := hl k) (f := fun i => (A (16807 * k + i)).toInt) (t := t) (S := S) (B := p32 k) (Int.le_trans (by decide) (p32_6 (r := k) (by omega)).1) (fun s hs => bd s (by omega))
  obtain ⟨S, hS, hp⟩ := (sm_pos (2 ^ pa.toInt.toNat) (fun S _ => (tr S).1)).mp pos
  unfold tk at hp
  by_cases y : hv5 h S = hl k
  · rw [if_pos y] at hp
    by_cases w : e7 (bt S) ≤ t ∧ t - e7 (bt S) < 7 ^ pa.toInt.toNat ∧ Val pa cl (t - e7 (bt S)) S
    · rw [tg_y w] at hp
      have hp : 0 < (A (16807 * k + (t - e7 (bt S)))).toInt := hp
      exact ⟨t - e7 (bt S), S, hS, y, w.2.1, by omega, w.2.2, by omega⟩
    · rw [tg_n w] at hp; exact absurd hp (by decide)
  · rw [if_neg y] at hp; exact absurd hp (by decide)
/-- what is behind a place that is reached -/
theorem BeP_W {pa : Int32} {cl : Nat → Int32} {h hl : Nat → Int} {A B : Nat → Int64} {M : Nat} {ok : Nat → Nat → Bool} (hpa : 0 ≤ pa.toInt ∧ pa.toInt ≤ 5) (gC : ∀ p : Nat, (p : Int) < pa.toInt → 0 ≤ (cl p).toInt ∧ (cl p).toInt ≤ 99) (hM : M ≤ 6) (HA : AhP pa cl h hl A M) (HB : BeP pa cl h hl A B M 0) (hok : ∀ k S : Nat, k < M → S < 2 ^ pa.toInt.toNat → (ok k S = true ↔ hv5 h S = hl k)) : ∀ r : Nat, r ≤ M → ∀ s : Nat, s < 7 ^ pa.toInt.toNat → (A (16807 * (M - r) + s)).toInt ≠ 0 → (B (16807 * (M - r) + s)).toInt = Wy (2 ^ pa.toInt.toNat) ok (Fc (cpv pa cl)) r (M - r) (d7 s) := by
  have l7 := p7_le (P := pa.toInt.toNat) (by omega)
  intro r
  induction r with
  | zero =>
    intro _ s hs hn
    rw [Nat.sub_zero] at hn ⊢
    have R := AhP_r hpa gC hM HA M (Nat.le_refl _) s (by omega) hn
    rw [HB.1 s hs]
    show (1 : Int) = Fc (cpv pa cl) (d7 s)
    rw [Fc_y (Cq_at.mpr (fun p hp => (R.2 p hp).2))]
  | succ r ih =>
    intro hr s hs hn
    have R := AhP_r hpa gC hM HA (M - (r + 1)) (by omega) s (by omega) hn
    rw [HB.2 (M - (r + 1)) (Nat.zero_le _) (by omega) s hs, Wy_s, show M - (r + 1) + 1 = M - r from by omega]
    refine sm_c _ (fun S hS => ?_)
    have o := hok (M - (r + 1)) S (by omega) hS
    by_cases y : hv5 h S = hl (M - (r + 1))
    · rw [if_pos (o.mpr y)]
      by_cases v : Val pa cl s S
      · obtain ⟨-, lt7, -, dd⟩ := Val_d hpa hS hs v
        rw [tb_y ⟨y, hn, v⟩]
        have nz := AhP_go hpa hM HA (k := M - (r + 1)) (by omega) hS y hs hn v
        rw [show M - (r + 1) + 1 = M - r from by omega] at nz
        show (B (16807 * (M - r) + (s + e7 (bt S)))).toInt = _
        rw [ih (by omega) _ lt7 nz]
        exact Wy_v _ _ _ _ (fun p hp => dd p hp)
      · rw [tb_n (fun q => v q.2.2), Wc_out (fun q => v (Val_of (k := M - (r + 1)) (by omega) hpa R q))]
    · rw [if_neg (fun q => y (o.mp q)), tb_n (fun q => y q.1)]
/-- from the first minute to a later one, and back -/
theorem path_f {pa : Int32} {cl : Nat → Int32} {h hl : Nat → Int} {A : Nat → Int64} {M : Nat} {ok : Nat → Nat → Bool} (hpa : 0 ≤ pa.toInt ∧ pa.toInt ≤ 5) (gC : ∀ p : Nat, (p : Int) < pa.toInt → 0 ≤ (cl p).toInt ∧ (cl p).toInt ≤ 99) (hM : M ≤ 6) (HA : AhP pa cl h hl A M) (hp : 0 < Wy (2 ^ pa.toInt.toNat) ok (Fc (cpv pa cl)) M 0 (fun _ => 0)) : ∀ k : Nat, k ≤ M → (∀ j S : Nat, j < k → S < 2 ^ pa.toInt.toNat → ok j S = true → hv5 h S = hl j) → ∃ s : Nat, s < 7 ^ pa.toInt.toNat ∧ (A (16807 * k + s)).toInt ≠ 0 ∧ 0 < Wy (2 ^ pa.toInt.toNat) ok (Fc (cpv pa cl)) (M - k) k (d7 s) := by
  have l7 := p7_le (P := pa.toInt.toNat) (by omega)
  intro k
  induction k with
  | zero =>
    intro _ _
    refine ⟨0, by omega, ?_, ?_⟩
    · rw [Nat.mul_zero, HA.1 0 (by omega), if_pos rfl]; decide
    · rw [Nat.sub_zero, Wy_v M 0 (d7 0) (fun _ => 0) (fun p _ => by unfold d7; rw [Nat.zero_div])]
      exact hp
  | succ k ih =>
    intro hk hok
    obtain ⟨s, hs, hn, hw⟩ := ih (by omega) (fun j S hj hS o => hok j S (by omega) hS o)
    rw [show M - k = (M - (k + 1)) + 1 from by omega] at hw
    obtain ⟨S, hS, o, hw⟩ := (Wy_pos (Fc_nn _)).mp hw
    have R := AhP_r hpa gC hM HA k (by omega) s (by omega) hn
    have v := Val_of (k := k) (by omega) hpa R (Wy_in hw)
    obtain ⟨-, lt7, -, dd⟩ := Val_d hpa hS hs v
    refine ⟨s + e7 (bt S), lt7, AhP_go hpa hM HA (by omega) hS (hok k S (by omega) hS o) hs hn v, ?_⟩
    rw [Wy_v _ _ _ (va (d7 s) S) (fun p hp => dd p hp)]
    exact hw
theorem path_b {pa : Int32} {cl : Nat → Int32} {h hl : Nat → Int} {A : Nat → Int64} {M : Nat} {ok : Nat → Nat → Bool} (hpa : 0 ≤ pa.toInt ∧ pa.toInt ≤ 5) (hM : M ≤ 6) (HA : AhP pa cl h hl A M) : ∀ k : Nat, k ≤ M → (∀ j S : Nat, j < k → S < 2 ^ pa.toInt.toNat → hv5 h S = hl j → ok j S = true) → ∀ s : Nat, s < 7 ^ pa.toInt.toNat → (A (16807 * k + s)).toInt ≠ 0 → 0 < Wy (2 ^ pa.toInt.toNat) ok (Fc (cpv pa cl)) (M - k) k (d7 s) → 0 < Wy (2 ^ pa.toInt.toNat) ok (Fc (cpv pa cl)) M 0 (fun _ => 0) := by
  have l7 := p7_le (P := pa.toInt.toNat) (by omega)
  intro k
  induction k with
  | zero =>
    intro _ _ s hs hn hw
    rw [Nat.mul_zero, Nat.zero_add, HA.1 s (by omega)] at hn
    have e : s = 0 := Classical.byContradiction (fun q => hn (if_neg q))
    rw [e, Nat.sub_zero, Wy_v M 0 (d7 0) (fun _ => 0) (fun p _ => by unfold d7; rw [Nat.zero_div])] at hw
    exact hw
  | succ k ih =>
    intro hk hok t ht hn hw
    obtain ⟨s, S, hS, ho, hs, hn2, v, e⟩ := AhP_back hpa hM HA (by omega) (by omega) hn
    refine ih (by omega) (fun j S hj hS o => hok j S (by omega) hS o) s hs hn2 ?_
    rw [show M - k = (M - (k + 1)) + 1 from by omega]
    refine (Wy_pos (Fc_nn _)).mpr ⟨S, hS, hok k S (by omega) hS ho, ?_⟩
    obtain ⟨-, -, -, dd⟩ := Val_d hpa hS hs v
    rw [e, Wy_v _ _ _ (va (d7 s) S) (fun p hp => dd p hp)] at hw
    exact hw
/-- mayBe() -/
theorem may_iff {pa : Int32} {cl : Nat → Int32} {h hl : Nat → Int} {A B : Nat → Int64} {M k S : Nat} (hpa : 0 ≤ pa.toInt ∧ pa.toInt ≤ 5) (gC : ∀ p : Nat, (p : Int) < pa.toInt → 0 ≤ (cl p).toInt ∧ (cl p).toInt ≤ 99) (hM : M ≤ 6) (hk : k < M) (hS : S < 2 ^ pa.toInt.toNat) (HA : AhP pa cl h hl A M) (HB : BeP pa cl h hl A B M 0) : May (2 ^ pa.toInt.toNat) hl h (cpv pa cl) M k S ↔ (hv5 h S = hl k ∧ ∃ s : Nat, s < 7 ^ pa.toInt.toNat ∧ (A (16807 * k + s)).toInt ≠ 0 ∧ Val pa cl s S ∧ 0 < (B (16807 * (k + 1) + (s + e7 (bt S)))).toInt) := by
  have l7 := p7_le (P := pa.toInt.toNat) (by omega)
  have W := BeP_W (ok := okd hl h (-1) 0) hpa gC hM HA HB (fun k S _ _ => by
    rw [okd_y]; exact ⟨fun y => y.1, fun y => ⟨y, fun q => absurd q (by omega)⟩⟩) (M - (k + 1)) (by omega)
  rw [show M - (M - (k + 1)) = k + 1 from by omega] at W
  have same : ∀ v : Nat → Nat, Wy (2 ^ pa.toInt.toNat) (okd hl h (k : Int) (S : Int)) (Fc (cpv pa cl)) (M - (k + 1)) (k + 1) v = Wy (2 ^ pa.toInt.toNat) (okd hl h (-1) 0) (Fc (cpv pa cl)) (M - (k + 1)) (k + 1) v := fun v => Wy_ok _ _ _ (fun j T hj _ => by
    have a : okd hl h (k : Int) (S : Int) j T = true ↔ okd hl h (-1) 0 j T = true := by
      rw [okd_y, okd_y]
      exact ⟨fun y => ⟨y.1, fun q => absurd q (by omega)⟩, fun y => ⟨y.1, fun q => absurd q (by omega)⟩⟩
    cases e1 : okd hl h (k : Int) (S : Int) j T <;> cases e2 : okd hl h (-1) 0 j T
    · rfl
    · rw [e1, e2] at a; exact absurd (a.mpr rfl) (by decide)
    · rw [e1, e2] at a; exact absurd (a.mp rfl) (by decide)
    · rfl)
  constructor
  · rintro ⟨y, hw⟩
    refine ⟨y, ?_⟩
    obtain ⟨s, hs, hn, hw⟩ := path_f hpa gC hM HA hw k (by omega) (fun j T _ _ o => (okd_y.mp o).1)
    rw [show M - k = (M - (k + 1)) + 1 from by omega] at hw
    obtain ⟨T, hT, o, hw⟩ := (Wy_pos (Fc_nn _)).mp hw
    have eT : T = S := by
      have := (okd_y.mp o).2 rfl
      omega
    subst eT
    have R := AhP_r hpa gC hM HA k (by omega) s (by omega) hn
    have v := Val_of (k := k) (by omega) hpa R (Wy_in hw)
    obtain ⟨-, lt7, -, dd⟩ := Val_d hpa hS hs v
    have nz := AhP_go hpa hM HA hk hS y hs hn v
    refine ⟨s, hs, hn, v, ?_⟩
    rw [W _ lt7 nz, Wy_v _ _ _ (va (d7 s) T) (fun p hp => dd p hp), ← same]
    exact hw
  · rintro ⟨y, s, hs, hn, v, hb⟩
    refine ⟨y, ?_⟩
    obtain ⟨-, lt7, -, dd⟩ := Val_d hpa hS hs v
    have nz := AhP_go hpa hM HA hk hS y hs hn v
    rw [W _ lt7 nz, Wy_v _ _ _ (va (d7 s) S) (fun p hp => dd p hp), ← same] at hb
    refine path_b hpa hM HA k (by omega) (fun j T hj _ o => okd_y.mpr ⟨o, fun q => absurd q (by omega)⟩) s hs hn ?_
    rw [show M - k = (M - (k + 1)) + 1 from by omega]
    exact (Wy_pos (Fc_nn _)).mpr ⟨S, hS, okd_y.mpr ⟨y, fun _ => rfl⟩, hb⟩
/-- ways there are iff a set can be in the minute -/
theorem Wy_mono {N : Nat} {ok ok2 : Nat → Nat → Bool} {cp : Nat → Int} (h : ∀ j S : Nat, ok j S = true → ok2 j S = true) : ∀ (r k : Nat) (v : Nat → Nat), 0 < Wy N ok (Fc cp) r k v → 0 < Wy N ok2 (Fc cp) r k v := by
  intro r
  induction r with
  | zero => intro k v q; exact q
  | succ r ih =>
    intro k v q
    obtain ⟨S, hS, o, w⟩ := (Wy_pos (Fc_nn _)).mp q
    exact (Wy_pos (Fc_nn _)).mpr ⟨S, hS, h k S o, ih _ _ w⟩
theorem Wy_split {N k : Nat} {hl h cp : Nat → Int} : ∀ (r j : Nat) (v : Nat → Nat), j ≤ k → k < j + r → 0 < Wy N (okd hl h (-1) 0) (Fc cp) r j v → ∃ S : Nat, S < N ∧ hv5 h S = hl k ∧ 0 < Wy N (okd hl h (k : Int) (S : Int)) (Fc cp) r j v := by
  intro r
  induction r with
  | zero => intro j v h1 h2 _; omega
  | succ r ih =>
    intro j v h1 h2 q
    obtain ⟨T, hT, o, w⟩ := (Wy_pos (Fc_nn _)).mp q
    have ho := (okd_y.mp o).1
    by_cases e : j = k
    · subst e
      refine ⟨T, hT, ho, (Wy_pos (Fc_nn _)).mpr ⟨T, hT, okd_y.mpr ⟨ho, fun _ => rfl⟩, ?_⟩⟩
      rw [Wy_ok (ok2 := okd hl h (-1) 0) r (j + 1) (va v T) (fun i U hi _ => by
        have a : okd hl h (j : Int) (T : Int) i U = true ↔ okd hl h (-1) 0 i U = true := by
          rw [okd_y, okd_y]
          exact ⟨fun y => ⟨y.1, fun q => absurd q (by omega)⟩, fun y => ⟨y.1, fun q => absurd q (by omega)⟩⟩
        cases e1 : okd hl h (j : Int) (T : Int) i U <;> cases e2 : okd hl h (-1) 0 i U
        · rfl
        · rw [e1, e2] at a; exact absurd (a.mpr rfl) (by decide)
        · rw [e1, e2] at a; exact absurd (a.mp rfl) (by decide)
        · rfl)]
      exact w
    · obtain ⟨S, hS, hs, w2⟩ := ih (j + 1) (va v T) (by omega) (by omega) w
      exact ⟨S, hS, hs, (Wy_pos (Fc_nn _)).mpr ⟨T, hT, okd_y.mpr ⟨ho, fun q => absurd q (by omega)⟩, w2⟩⟩
theorem ways_may {N M k : Nat} {hl h cp : Nat → Int} (hk : k < M) : 0 < Wy N (okd hl h (-1) 0) (Fc cp) M 0 (fun _ => 0) ↔ ∃ S : Nat, S < N ∧ May N hl h cp M k S := by
  constructor
  · intro q
    obtain ⟨S, hS, hs, w⟩ := Wy_split (k := k) M 0 (fun _ => 0) (Nat.zero_le _) (by omega) q
    exact ⟨S, hS, hs, w⟩
  · rintro ⟨S, -, -, w⟩
    exact Wy_mono (fun j T o => okd_y.mpr ⟨(okd_y.mp o).1, fun q => absurd q (by omega)⟩) _ _ _ w
