/-! the dark: the tally, a minute compared -/
theorem ml_add {x y : Int64} (h1 : -9223372036854775808 ≤ x.toInt + y.toInt) (h2 : x.toInt + y.toInt < 9223372036854775808) : (x + y).toInt = x.toInt + y.toInt := by
  rw [Int64.toInt_add]
  exact Int.bmod_eq_of_le (by simpa using h1) (by simpa using h2)
theorem ml_mul {x y : Int64} (h1 : -9223372036854775808 ≤ x.toInt * y.toInt) (h2 : x.toInt * y.toInt < 9223372036854775808) : (x * y).toInt = x.toInt * y.toInt := by
  rw [Int64.toInt_mul]
  exact Int.bmod_eq_of_le (by simpa using h1) (by simpa using h2)
theorem ml_eq {x y : Int64} (h : x.toInt = y.toInt) : x = y := Int64.toInt_inj.mp h
def cpv (pa : Int32) (cl : Nat → Int32) (p : Nat) : Int := if (p : Int) < pa.toInt then (cl p).toInt else 0
def rmv (pa : Int32) (cl : Nat → Int32) (o : Nat) : Nat := e4 (fun p => if (p : Int) < pa.toInt then (min 3 ((cl p).toInt - (d4 o p : Int))).toNat else 0)
def Fit (pa : Int32) (cl : Nat → Int32) (o : Nat) : Prop := ∀ p : Nat, (p : Int) < pa.toInt → (d4 o p : Int) ≤ (cl p).toInt
noncomputable def Gt (pa : Int32) (cl L : Nat → Int32) (o : Nat) : Int := @ite Int (Fit pa cl o) (Classical.propDecidable _) (pr L (ind (rmv pa cl o))) 0
theorem Gt_y {pa : Int32} {cl L : Nat → Int32} {o : Nat} (h : Fit pa cl o) : Gt pa cl L o = pr L (ind (rmv pa cl o)) := if_pos h
theorem Gt_n {pa : Int32} {cl L : Nat → Int32} {o : Nat} (h : ¬ Fit pa cl o) : Gt pa cl L o = 0 := if_neg h
theorem rmv_d {pa : Int32} {cl : Nat → Int32} {o : Nat} (h : Fit pa cl o) : rmv pa cl o < 1024 ∧ ∀ p : Nat, p < 5 → (d4 (rmv pa cl o) p : Int) = if (p : Int) < pa.toInt then min 3 ((cl p).toInt - (d4 o p : Int)) else 0 := by
  have w3 : ∀ p : Nat, p < 5 → (if (p : Int) < pa.toInt then (min 3 ((cl p).toInt - (d4 o p : Int))).toNat else 0) ≤ 3 := fun p _ => by
    split
    · omega
    · omega
  refine ⟨e4_lt w3, fun p hp => ?_⟩
  unfold rmv
  rw [d4_e w3 p hp]
  by_cases k : (p : Int) < pa.toInt
  · rw [if_pos k, if_pos k]
    have := h p k
    omega
  · rw [if_neg k, if_neg k]; rfl
theorem tally_sp {nmin a gs b pa : Int32} {ge hl go gh gl cl u1 u2 : Nat → Int32} {u0 : Int64} {ok : Nat → Nat → Bool} {N : Nat} (hmin : 0 ≤ nmin.toInt ∧ nmin.toInt ≤ 6) (hpa : 0 ≤ pa.toInt ∧ pa.toInt ≤ 5) (hcl : ∀ p : Nat, (p : Int) < pa.toInt → 0 ≤ (cl p).toInt ∧ (cl p).toInt ≤ 99) (hN : gs.toInt = (N : Int)) (hN2 : N = 2 ^ pa.toInt.toNat) (hc : ∀ S : Nat, S < N → (go S).toInt = ((e4 (bt S) : Nat) : Int)) (hb : 0 ≤ b.toInt) (hok : ∀ m S : Nat, (m : Int) < nmin.toInt → S < N → (ok m S = true ↔ (gh S).toInt = (hl m).toInt ∧ ((m : Int) = a.toInt → b.toInt = (S : Int)))) (h : R_k_tally nmin ge hl a gs go gh b gl pa cl u0 u1 u2) : u0.toInt = Wy N ok (Fc (cpv pa cl)) nmin.toInt.toNat 0 (fun _ => 0) := by
  obtain ⟨z1, e1, E, hE, L, hL, A, hA, h⟩ := h
  have c0 : (0 : Int32).toInt = 0 := by decide
  have c3 : (3 : Int32).toInt = 3 := by decide
  have N32 : N ≤ 32 := by
    rw [hN2]; exact (tb_2p ⟨pa.toInt.toNat, by omega⟩).2
  have g1 : z1.toInt = min nmin.toInt 3 := by
    rw [e1]
    by_cases k : nmin < (3 : Int32)
    · rw [if_pos k]
      have k2 : nmin.toInt < (3 : Int32).toInt := mi_lt.mp k
      rw [c3] at k2; clear h hE hL hA; omega
    · rw [if_neg k]
      have k2 : ¬ nmin.toInt < (3 : Int32).toInt := fun y => k (mi_lt.mpr y)
      rw [c3] at k2 ⊢; clear h hE hL hA; omega
  have hc2 : ∀ S : Nat, S < N → (go S).toInt = (((fun S => e4 (bt S)) S : Nat) : Int) ∧ (fun S => e4 (bt S)) S < 1024 := fun S hS => ⟨hc S hS, e4_bt S⟩
  have fE := fillr_sp (ok := ok) (c := fun S => e4 (bt S)) (N := N) ⟨by rw [c0]; decide, by rw [c0]; decide⟩ (by clear h hE hL hA; omega) (by rw [c0]; clear h hE hL hA; omega) hN N32 hc2 hb (fun m S hm hS => hok m S (by clear h hE hL hA; omega) hS) hE
  have fL := fillr_sp (ok := ok) (c := fun S => e4 (bt S)) (N := N) ⟨by rw [c3]; decide, by rw [c3]; decide⟩ hmin.2 (by rw [c3]; clear h hE hL hA; omega) hN N32 hc2 hb hok hL
  clear hE hL
  rw [c0] at fE
  rw [c3] at fL
  obtain ⟨nE, pE⟩ := fE
  obtain ⟨nL, pL⟩ := fL
  have one : ∀ n : Nat, 0 ≤ (fun _ : Nat => (1 : Int)) n ∧ (fun _ : Nat => (1 : Int)) n ≤ 1 := fun n => ⟨by show (0 : Int) ≤ 1; decide, Int.le_refl _⟩
  have bE : pr E (fun _ => 1) ≤ 32768 := by
    rw [pE]
    exact Int.le_trans (Vy_bd N32 one _ _ _).2 (p32_3 (by clear h hA; omega)).2
  have bL : pr L (fun _ => 1) ≤ 32768 := by
    rw [pL]
    exact Int.le_trans (Vy_bd N32 one _ _ _).2 (p32_3 (by clear h hA; omega)).2
  have hA := addUp_sp nL bL hA
  have rG : ∀ o : Nat, 0 ≤ Gt pa cl L o ∧ Gt pa cl L o ≤ 32768 := fun o => by
    by_cases k : Fit pa cl o
    · rw [Gt_y k]
      exact ⟨pr_nn nL (fun n _ => (ind_rng _ n).1), Int.le_trans (pr_le (G2 := fun _ => 1) nL (fun n _ => (ind_rng _ n).2)) bL⟩
    · rw [Gt_n k]; exact ⟨by decide, by decide⟩
  have tot : ∀ i : Nat, i ≤ 1024 → 0 ≤ sm i (fun o => (E o).toInt * Gt pa cl L o) ∧ sm i (fun o => (E o).toInt * Gt pa cl L o) ≤ 1073741824 := fun i hi => by
    have a1 := sm_nn (f := fun o => (E o).toInt * Gt pa cl L o) i (fun o ho => Int.mul_nonneg (nE o (by omega)) (rG o).1)
    have a2 : sm i (fun o => (E o).toInt * Gt pa cl L o) ≤ sm 1024 (fun o => (E o).toInt * Gt pa cl L o) := sm_mono 1024 hi (fun o ho => Int.mul_nonneg (nE o ho) (rG o).1)
    have a3 : sm 1024 (fun o => (E o).toInt * Gt pa cl L o) ≤ pr E (fun _ => 32768) := pr_le nE (fun o _ => (rG o).2)
    rw [pr_mul] at a3
    clear h
    omega
  have fin : u0.toInt = pr E (Gt pa cl L) := by
    refine fx_inv (P := fun s => (0 ≤ s.1.toInt ∧ s.1.toInt ≤ 1024) ∧ s.2.toInt = sm s.1.toInt.toNat (fun o => (E o).toInt * Gt pa cl L o)) (fun K s hP hT => ?_) 1026 _ h ⟨⟨by show 0 ≤ (0 : Int32).toInt; decide, by show (0 : Int32).toInt ≤ 1024; decide⟩, ?_⟩
    · obtain ⟨i, s⟩ := s
      obtain ⟨h1, h2⟩ := hP
      have h1 : 0 ≤ i.toInt ∧ i.toInt ≤ 1024 := h1
      have h2 : s.toInt = sm i.toInt.toNat (fun o => (E o).toInt * Gt pa cl L o) := h2
      dsimp only [T_k_tally_52] at hT
      rcases hT with ⟨q, e, -⟩ | ⟨q, b0, f0, hT⟩
      · refine Or.inl ?_
        rw [e, h2, show i.toInt.toNat = 1024 from by omega]; rfl
      · refine Or.inr ?_
        rw [mi_cl] at f0
        have nx : ∀ z : Int32, z = i + 1 → (0 ≤ z.toInt ∧ z.toInt ≤ 1024) ∧ z.toInt.toNat = i.toInt.toNat + 1 := fun z ez => by
          have g : z.toInt = i.toInt + 1 := by rw [ez]; exact mi_addc (by decide) (by clear hT h; omega) (by clear hT h; omega)
          clear hT h; omega
        have skip : ∀ z : Int32, z = i + 1 → (E i.toInt.toNat).toInt * Gt pa cl L i.toInt.toNat = 0 → (0 ≤ z.toInt ∧ z.toInt ≤ 1024) ∧ s.toInt = sm z.toInt.toNat (fun o => (E o).toInt * Gt pa cl L o) := fun z ez e0 => by
          obtain ⟨a1, a2⟩ := nx z ez
          refine ⟨a1, ?_⟩
          rw [a2, sm_s, h2]
          show _ = _ + (E i.toInt.toNat).toInt * Gt pa cl L i.toInt.toNat
          rw [e0, Int.add_zero]
        rcases hT with ⟨w, b1, hr, hT⟩ | ⟨w, z, ez, hk⟩
        · have hr := room_sp hpa ⟨h1.1, q⟩ hcl hr
          rcases hT with ⟨v, z, ez, hk⟩ | ⟨v, b3, f3, b4, f4, b5, f5, b6, f6, b7, f7, z, ez, hk⟩
          · refine ⟨(z, s), skip z ez ?_, hk⟩
            rcases hr with ⟨-, p, hp, lt⟩ | ⟨r0, -⟩
            · rw [Gt_n (fun y => by have := y p hp; clear hk h; omega), Int.mul_zero]
            · exact absurd v (by clear hk h; omega)
          · obtain ⟨a1, a2⟩ := nx z ez
            refine ⟨(z, b7), ⟨a1, ?_⟩, hk⟩
            clear hk h
            rcases hr with ⟨r0, -⟩ | ⟨r0, rf, rd⟩
            · exact absurd r0 v
            · have rf : Fit pa cl i.toInt.toNat := rf
              obtain ⟨d1, d2⟩ := rmv_d rf
              have eb : b1.toInt.toNat = rmv pa cl i.toInt.toNat := by
                rw [← e4_d (n := b1.toInt.toNat) (by omega), ← e4_d d1]
                refine e4_c (fun p hp => ?_)
                have x := rd p hp
                have y := d2 p hp
                omega
              rw [mi_cl] at f4
              have g4 : b4.toInt = Gt pa cl L i.toInt.toNat := by rw [f4, hA _ (by omega), eb, Gt_y rf]
              have g3 : b3.toInt = (E i.toInt.toNat).toInt := by rw [f3, f0]; exact Int32.toInt_toInt64 _
              have g5 : b5.toInt = Gt pa cl L i.toInt.toNat := by rw [f5, Int32.toInt_toInt64, g4]
              have t1 := tot i.toInt.toNat (by omega)
              have t2 := tot (i.toInt.toNat + 1) (by omega)
              rw [sm_s] at t2
              have t2 : 0 ≤ sm i.toInt.toNat (fun o => (E o).toInt * Gt pa cl L o) + (E i.toInt.toNat).toInt * Gt pa cl L i.toInt.toNat ∧ sm i.toInt.toNat (fun o => (E o).toInt * Gt pa cl L o) + (E i.toInt.toNat).toInt * Gt pa cl L i.toInt.toNat ≤ 1073741824 := t2
              have g6 : b6.toInt = (E i.toInt.toNat).toInt * Gt pa cl L i.toInt.toNat := by
                rw [f6, ml_mul (by rw [g3, g5]; omega) (by rw [g3, g5]; omega), g3, g5]
              show b7.toInt = sm z.toInt.toNat (fun o => (E o).toInt * Gt pa cl L o)
              rw [a2, sm_s, f7, ml_add (by rw [h2, g6]; omega) (by rw [h2, g6]; omega), h2, g6]
        · refine ⟨(z, s), skip z ez ?_, hk⟩
          rw [← f0, w, Int.zero_mul]
    · show (0 : Int64).toInt = sm (0 : Int32).toInt.toNat _
      rw [c0]
      show (0 : Int64).toInt = (0 : Int)
      decide
  rw [fin, pE]
  have hP : ∀ S p : Nat, S < N → pa.toInt.toNat ≤ p → bt S p = 0 := fun S p hS hp => bt_out (by clear h; omega) (by rw [← hN2]; exact hS) hp
  have e := halves_all (N := N) (P := pa.toInt.toNat) (ok := ok) (c := fun S => e4 (bt S)) (cp := cpv pa cl) (G := Gt pa cl L) (a := (z1.toInt - 0).toNat) (b := (nmin.toInt - 3).toNat) (room := rmv pa cl) hP (fun S _ => rfl) (by clear h; omega) (by clear h; omega) (by clear h; omega) (fun p _ hp => by unfold cpv; rw [if_neg (by clear h; omega)]) (fun u hu hu0 => by
    clear h
    have du := d4_e hu
    have iff : Fit pa cl (e4 u) ↔ Cq (cpv pa cl) u := by
      rw [Cq_at]
      constructor
      · intro y p hp
        unfold cpv
        by_cases k : (p : Int) < pa.toInt
        · rw [if_pos k]; have := y p k; rw [du p hp] at this; exact this
        · rw [if_neg k, hu0 p (by omega)]; decide
      · intro y p hp
        have := y p (by omega)
        unfold cpv at this
        rw [if_pos hp] at this
        rw [du p (by omega)]; exact this
    refine ⟨fun n => Gt_n (fun y => n (iff.mp y)), fun y => ?_⟩
    have yf := iff.mpr y
    obtain ⟨d1, d2⟩ := rmv_d yf
    refine ⟨fun p hp => ?_, ?_⟩
    · rw [d2 p hp, du p hp]
      unfold cpv
      by_cases k : (p : Int) < pa.toInt
      · rw [if_pos k, if_pos k]
      · rw [if_neg k, if_neg k, hu0 p (by omega)]; decide
    · rw [Gt_y yf, pL]; rfl)
  have c00 : (0 : Int).toNat = 0 := rfl
  rw [c00, e, show (z1.toInt - 0).toNat + (nmin.toInt - 3).toNat = nmin.toInt.toNat from by clear h; omega]
/-- sets put together -/
noncomputable def anyF (m : Nat → Prop) : Nat → Int32
  | 0 => 0
  | n + 1 => @ite Int32 (m n) (Classical.propDecidable _) (anyF m n ||| Int32.ofNat n) (anyF m n)
noncomputable def allF (m : Nat → Prop) (s : Int32) : Nat → Int32
  | 0 => s
  | n + 1 => @ite Int32 (m n) (Classical.propDecidable _) (allF m s n &&& Int32.ofNat n) (allF m s n)
theorem anyF_y {m : Nat → Prop} {n : Nat} (h : m n) : anyF m (n + 1) = anyF m n ||| Int32.ofNat n := if_pos h
theorem anyF_n {m : Nat → Prop} {n : Nat} (h : ¬ m n) : anyF m (n + 1) = anyF m n := if_neg h
theorem allF_y {m : Nat → Prop} {s : Int32} {n : Nat} (h : m n) : allF m s (n + 1) = allF m s n &&& Int32.ofNat n := if_pos h
theorem allF_n {m : Nat → Prop} {s : Int32} {n : Nat} (h : ¬ m n) : allF m s (n + 1) = allF m s n := if_neg h
theorem anyF_c {m m2 : Nat → Prop} : ∀ n : Nat, (∀ i : Nat, i < n → (m i ↔ m2 i)) → anyF m n = anyF m2 n := by
  intro n
  induction n with
  | zero => intro _; rfl
  | succ n ih =>
    intro h
    have e := ih (fun i hi => h i (by omega))
    have k := h n (by omega)
    by_cases y : m n
    · rw [anyF_y y, anyF_y (k.mp y), e]
    · rw [anyF_n y, anyF_n (fun q => y (k.mpr q)), e]
theorem allF_c {m m2 : Nat → Prop} {s : Int32} : ∀ n : Nat, (∀ i : Nat, i < n → (m i ↔ m2 i)) → allF m s n = allF m2 s n := by
  intro n
  induction n with
  | zero => intro _; rfl
  | succ n ih =>
    intro h
    have e := ih (fun i hi => h i (by omega))
    have k := h n (by omega)
    by_cases y : m n
    · rw [allF_y y, allF_y (k.mp y), e]
    · rw [allF_n y, allF_n (fun q => y (k.mpr q)), e]
theorem tb_full2 : ∀ (p : Fin 6) (n : Fin 32), n.val < 2 ^ p.val → ((((1 : Int32) <<< (Int32.ofNat p.val &&& (31 : Int32))) - 1) &&& Int32.ofNat n.val = Int32.ofNat n.val) ∧ ((-1 : Int32) &&& Int32.ofNat n.val = Int32.ofNat n.val) := by decide +kernel
theorem allF_eq {m : Nat → Prop} {s t : Int32} {N : Nat} (hs : ∀ n : Nat, n < N → s &&& Int32.ofNat n = Int32.ofNat n) (ht : ∀ n : Nat, n < N → t &&& Int32.ofNat n = Int32.ofNat n) : ((∀ i : Nat, i < N → ¬ m i) ∧ allF m s N = s) ∨ ((∃ i : Nat, i < N ∧ m i) ∧ allF m s N = allF m t N) := by
  have key : ∀ n : Nat, n ≤ N → ((∀ i : Nat, i < n → ¬ m i) ∧ allF m s n = s ∧ allF m t n = t) ∨ ((∃ i : Nat, i < n ∧ m i) ∧ allF m s n = allF m t n) := by
    intro n
    induction n with
    | zero => intro _; exact Or.inl ⟨fun i hi => absurd hi (by omega), rfl, rfl⟩
    | succ n ih =>
      intro h
      by_cases y : m n
      · right
        refine ⟨⟨n, by omega, y⟩, ?_⟩
        rw [allF_y y, allF_y y]
        rcases ih (by omega) with ⟨-, a, b⟩ | ⟨-, a⟩
        · rw [a, b, hs n (by omega), ht n (by omega)]
        · rw [a]
      · rw [allF_n y, allF_n y]
        rcases ih (by omega) with ⟨k, a, b⟩ | ⟨⟨i, hi, k⟩, a⟩
        · refine Or.inl ⟨fun i hi => ?_, a, b⟩
          by_cases e : i = n
          · rw [e]; exact y
          · exact k i (by omega)
        · exact Or.inr ⟨⟨i, by omega, k⟩, a⟩
  rcases key N (Nat.le_refl _) with ⟨k, a, -⟩ | ⟨k, a⟩
  · exact Or.inl ⟨k, a⟩
  · exact Or.inr ⟨k, a⟩
/-- which sets can be in a minute -/
def okd (hl : Nat → Int) (h : Nat → Int) (kf sf : Int) (m S : Nat) : Bool := decide (hv5 h S = hl m ∧ ((m : Int) = kf → sf = (S : Int)))
theorem okd_y {hl h : Nat → Int} {kf sf : Int} {m S : Nat} : okd hl h kf sf m S = true ↔ hv5 h S = hl m ∧ ((m : Int) = kf → sf = (S : Int)) := decide_eq_true_iff
def May (N : Nat) (hl h cp : Nat → Int) (M k S : Nat) : Prop := hv5 h S = hl k ∧ 0 < Wy N (okd hl h (k : Int) (S : Int)) (Fc cp) M 0 (fun _ => 0)
theorem cmp_sp {gs a nmin pa u0 u1 : Int32} {gh hl go cl ge gl u2 u3 : Nat → Int32} {h : Nat → Int} {N : Nat} (hmin : 0 ≤ nmin.toInt ∧ nmin.toInt ≤ 6) (ha : 0 ≤ a.toInt ∧ a.toInt < nmin.toInt) (hpa : 0 ≤ pa.toInt ∧ pa.toInt ≤ 5) (hcl : ∀ p : Nat, (p : Int) < pa.toInt → 0 ≤ (cl p).toInt ∧ (cl p).toInt ≤ 99) (hN : gs.toInt = (N : Int)) (hN2 : N = 2 ^ pa.toInt.toNat) (hc : ∀ S : Nat, S < N → (go S).toInt = ((e4 (bt S) : Nat) : Int)) (hh : ∀ S : Nat, S < N → (gh S).toInt = hv5 h S) (hx : R_k_compareMinute gs gh hl a nmin go pa cl ge gl u0 u1 u2 u3) : u0 = anyF (May N (fun m => (hl m).toInt) h (cpv pa cl) nmin.toInt.toNat a.toInt.toNat) N ∧ u1 = allF (May N (fun m => (hl m).toInt) h (cpv pa cl) nmin.toInt.toNat a.toInt.toNat) (-1) N := by
  have c0 : (0 : Int32).toInt = 0 := by decide
  have l0 : (0 : Int64).toInt = 0 := by decide
  have N32 : N ≤ 32 := by rw [hN2]; exact (tb_2p ⟨pa.toInt.toNat, by omega⟩).2
  have aa : ((a.toInt.toNat : Nat) : Int) = a.toInt := by clear hx; omega
  refine fx_inv (P := fun s => (0 ≤ s.1.toInt ∧ s.1.toInt ≤ (N : Int)) ∧ s.2.1 = anyF (May N (fun m => (hl m).toInt) h (cpv pa cl) nmin.toInt.toNat a.toInt.toNat) s.1.toInt.toNat ∧ s.2.2.1 = allF (May N (fun m => (hl m).toInt) h (cpv pa cl) nmin.toInt.toNat a.toInt.toNat) (-1) s.1.toInt.toNat) (fun K s hP hT => ?_) 34 _ hx ⟨⟨by show 0 ≤ (0 : Int32).toInt; decide, by show (0 : Int32).toInt ≤ _; omega⟩, by show (0 : Int32) = anyF _ (0 : Int32).toInt.toNat; rw [c0]; rfl, by show (-1 : Int32) = allF _ _ (0 : Int32).toInt.toNat; rw [c0]; rfl⟩
  obtain ⟨i, an, al, er, lr⟩ := s
  obtain ⟨h1, h2, h3⟩ := hP
  have h1 : 0 ≤ i.toInt ∧ i.toInt ≤ (N : Int) := h1
  have h2 : an = anyF (May N (fun m => (hl m).toInt) h (cpv pa cl) nmin.toInt.toNat a.toInt.toNat) i.toInt.toNat := h2
  have h3 : al = allF (May N (fun m => (hl m).toInt) h (cpv pa cl) nmin.toInt.toNat a.toInt.toNat) (-1) i.toInt.toNat := h3
  dsimp only [T_k_compareMinute_12] at hT
  rcases hT with ⟨q, e0, e1, -⟩ | ⟨q, b0, f0, b1, f1, hT⟩
  · refine Or.inl ?_
    rw [e0, e1, h2, h3, show i.toInt.toNat = N from by omega]
    exact ⟨rfl, rfl⟩
  · refine Or.inr ?_
    rw [hN] at q
    rw [mi_cl] at f0 f1
    have ii : ((i.toInt.toNat : Nat) : Int) = i.toInt := by clear hT; omega
    have hi := hh i.toInt.toNat (by clear hT; omega)
    have io : i = Int32.ofNat i.toInt.toNat := mi_eq (by rw [Int32.toInt_ofNat_of_lt (by clear hT; omega)]; exact ii.symm)
    have nx : ∀ z : Int32, z = i + 1 → (0 ≤ z.toInt ∧ z.toInt ≤ (N : Int)) ∧ z.toInt.toNat = i.toInt.toNat + 1 := fun z ez => by
      have g : z.toInt = i.toInt + 1 := by rw [ez]; exact mi_addc (by decide) (by clear hT; omega) (by clear hT; omega)
      clear hT; omega
    rcases hT with ⟨w, z, ez, hk⟩ | ⟨w, b3, b4, b5, ht, b6, f6, hT⟩
    · obtain ⟨a1, a2⟩ := nx z ez
      have nm : ¬ May N (fun m => (hl m).toInt) h (cpv pa cl) nmin.toInt.toNat a.toInt.toNat i.toInt.toNat := fun y => w (by rw [f0, hi, f1]; exact y.1)
      refine ⟨(z, an, al, er, lr), ⟨a1, ?_, ?_⟩, hk⟩
      · show an = anyF _ z.toInt.toNat
        rw [a2, anyF_n nm]; exact h2
      · show al = allF _ _ z.toInt.toNat
        rw [a2, allF_n nm]; exact h3
    · have we : hv5 h i.toInt.toNat = (hl a.toInt.toNat).toInt := by rw [← hi, ← f0, ← f1]; exact w
      have tl := tally_sp (ok := okd (fun m => (hl m).toInt) h ((a.toInt.toNat : Nat) : Int) ((i.toInt.toNat : Nat) : Int)) (N := N) hmin hpa hcl hN hN2 hc h1.1 (fun m S hm hS => by
        rw [okd_y, hh S hS, aa, ii]) ht
      clear ht
      have mi : May N (fun m => (hl m).toInt) h (cpv pa cl) nmin.toInt.toNat a.toInt.toNat i.toInt.toNat ↔ 0 < b3.toInt := by
        rw [tl]
        exact ⟨fun y => y.2, fun y => ⟨we, y⟩⟩
      rcases hT with ⟨v, z, ez, hk⟩ | ⟨v, b8, f8, b9, f9, z, ez, hk⟩
      · obtain ⟨a1, a2⟩ := nx z ez
        have nm : ¬ May N (fun m => (hl m).toInt) h (cpv pa cl) nmin.toInt.toNat a.toInt.toNat i.toInt.toNat := fun y => by
          have p := mi.mp y
          have lt : 0 < b3 := Int64.lt_iff_toInt_lt.mpr (by rw [l0]; exact p)
          have g := (lg_cmp_gt b3 0).mpr lt
          rw [← f6] at g
          have g2 : (0 : Int32).toInt < b6.toInt := mi_lt.mp g
          rw [c0] at g2
          exact absurd v (Int.not_le.mpr g2)
        refine ⟨(z, an, al, b4, b5), ⟨a1, ?_, ?_⟩, hk⟩
        · show an = anyF _ z.toInt.toNat
          rw [a2, anyF_n nm]; exact h2
        · show al = allF _ _ z.toInt.toNat
          rw [a2, allF_n nm]; exact h3
      · obtain ⟨a1, a2⟩ := nx z ez
        have ym : May N (fun m => (hl m).toInt) h (cpv pa cl) nmin.toInt.toNat a.toInt.toNat i.toInt.toNat := by
          refine mi.mpr ?_
          have g2 : (0 : Int32) < b6 := mi_lt.mpr (by rw [c0]; exact v)
          rw [f6] at g2
          have g3 := (lg_cmp_gt b3 0).mp g2
          have g4 := Int64.lt_iff_toInt_lt.mp g3
          rw [l0] at g4; exact g4
        refine ⟨(z, b8, b9, b4, b5), ⟨a1, ?_, ?_⟩, hk⟩
        · show b8 = anyF _ z.toInt.toNat
          rw [a2, anyF_y ym, f8, h2, ← io]
        · show b9 = allF _ _ z.toInt.toNat
          rw [a2, allF_y ym, f9, h3, ← io]
