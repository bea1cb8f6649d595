/-! the dark: rows of the class -/
theorem fill1k_sp {v : Int32} {f u : Nat → Int32} (h : R_fill_1024 v f u) : ∀ n : Nat, n < 1024 → u n = v := by
  have c0 : (0 : Int32).toInt = 0 := by decide
  refine fx_inv (P := fun s => (0 ≤ s.1.toInt ∧ s.1.toInt ≤ 1024) ∧ ∀ n : Nat, (n : Int) < s.1.toInt → s.2 n = v) (fun K s hP hT => ?_) _ _ h ⟨⟨by show 0 ≤ (0 : Int32).toInt; decide, by show (0 : Int32).toInt ≤ 1024; decide⟩, fun n hn => ?_⟩
  · obtain ⟨i, a⟩ := s
    obtain ⟨hi, ha⟩ := hP
    have hi : 0 ≤ i.toInt ∧ i.toInt ≤ 1024 := hi
    have ha : ∀ n : Nat, (n : Int) < i.toInt → a n = v := ha
    dsimp only [T_fill_1024_5] at hT
    rcases hT with ⟨c, e⟩ | ⟨c, b0, e0, z, ez, hk⟩
    · refine Or.inl (fun n hn => ?_)
      rw [e]; exact ha n (by omega)
    · have g : z.toInt = i.toInt + 1 := by rw [ez]; exact mi_addc (by decide) (by clear hk; omega) (by clear hk; omega)
      refine Or.inr ⟨(z, b0), ⟨?_, fun n hn => ?_⟩, hk⟩
      · show 0 ≤ z.toInt ∧ z.toInt ≤ 1024
        clear hk; omega
      · have hn : (n : Int) < z.toInt := hn
        show b0 n = v
        clear hk
        rw [← e0, mi_cl]
        by_cases k : n = i.toInt.toNat
        · rw [k, pk_us]
        · rw [pk_un k]; exact ha n (by omega)
  · have hn : (n : Int) < (0 : Int32).toInt := hn
    rw [c0] at hn; omega
/-- spread(): one place of the row put on -/
def SpI (mf : Nat → Int32) (ok : Nat → Bool) (c : Nat → Nat) (N B : Nat) (z : Int) (s : Int32 × (Nat → Int32)) : Prop := (0 ≤ s.1.toInt ∧ s.1.toInt ≤ (N : Int)) ∧ (∀ n : Nat, n < B → s.2 n = mf n) ∧ (∀ n : Nat, n < 1024 → 0 ≤ (s.2 n).toInt ∧ (s.2 n).toInt ≤ 1048576 * (1 + s.1.toInt)) ∧ ∀ G : Nat → Int, pr s.2 G = pr mf G - z * G B + z * sm s.1.toInt.toNat (fun S => if ok S = true ∧ B + c S < 1024 then G (B + c S) else 0)
theorem SpI_skip {mf row : Nat → Int32} {ok : Nat → Bool} {c : Nat → Nat} {N B : Nat} {z : Int} {i j : Int32} (hN : N ≤ 32) (hi : i.toInt < (N : Int)) (n : ¬ (ok i.toInt.toNat = true ∧ B + c i.toInt.toNat < 1024)) (ej : j = i + 1) (h : SpI mf ok c N B z (i, row)) : SpI mf ok c N B z (j, row) := by
  obtain ⟨h1, h2, h3, h4⟩ := h
  have h1 : 0 ≤ i.toInt ∧ i.toInt ≤ (N : Int) := h1
  have g : j.toInt = i.toInt + 1 := by rw [ej]; exact mi_addc (by decide) (by omega) (by omega)
  have g2 : j.toInt.toNat = i.toInt.toNat + 1 := by omega
  refine ⟨?_, h2, fun n hn => ?_, fun G => ?_⟩
  · show 0 ≤ j.toInt ∧ j.toInt ≤ (N : Int)
    omega
  · have q : 0 ≤ (row n).toInt ∧ (row n).toInt ≤ 1048576 * (1 + i.toInt) := h3 n hn
    show 0 ≤ (row n).toInt ∧ (row n).toInt ≤ 1048576 * (1 + j.toInt)
    omega
  · have q : pr row G = pr mf G - z * G B + z * sm i.toInt.toNat (fun S => if ok S = true ∧ B + c S < 1024 then G (B + c S) else 0) := h4 G
    show pr row G = pr mf G - z * G B + z * sm j.toInt.toNat (fun S => if ok S = true ∧ B + c S < 1024 then G (B + c S) else 0)
    rw [g2, sm_s, if_neg n, Int.add_zero]; exact q
theorem SpI_add {mf row b7 : Nat → Int32} {ok : Nat → Bool} {c : Nat → Nat} {N B : Nat} {i j z1 b1 b5 b6 : Int32} (hN : N ≤ 32) (hi : i.toInt < (N : Int)) (y : ok i.toInt.toNat = true ∧ B + c i.toInt.toNat < 1024) (hz : 0 ≤ z1.toInt ∧ z1.toInt ≤ 1048576) (e1 : b1.toInt = (B : Int) + (c i.toInt.toNat : Int)) (e5 : b5 = row (Int32.toNatClampNeg b1)) (e6 : b6 = b5 + z1) (e7 : upd row (Int32.toNatClampNeg b1) b6 = b7) (ej : j = i + 1) (h : SpI mf ok c N B z1.toInt (i, row)) : SpI mf ok c N B z1.toInt (j, b7) := by
  obtain ⟨h1, h2, h3, h4⟩ := h
  have h1 : 0 ≤ i.toInt ∧ i.toInt ≤ (N : Int) := h1
  have g : j.toInt = i.toInt + 1 := by rw [ej]; exact mi_addc (by decide) (by omega) (by omega)
  have g2 : j.toInt.toNat = i.toInt.toNat + 1 := by omega
  have i1 : Int32.toNatClampNeg b1 = B + c i.toInt.toNat := by rw [mi_cl, e1]; omega
  rw [i1] at e5 e7
  have q5 : 0 ≤ (row (B + c i.toInt.toNat)).toInt ∧ (row (B + c i.toInt.toNat)).toInt ≤ 1048576 * (1 + i.toInt) := h3 _ y.2
  have g6 : b6.toInt = (row (B + c i.toInt.toNat)).toInt + z1.toInt := by rw [e6, e5]; exact mi_add (by omega) (by omega)
  refine ⟨?_, fun n hn => ?_, fun n hn => ?_, fun G => ?_⟩
  · show 0 ≤ j.toInt ∧ j.toInt ≤ (N : Int)
    omega
  · show b7 n = mf n
    rw [← e7, pk_un (by omega)]; exact h2 n hn
  · show 0 ≤ (b7 n).toInt ∧ (b7 n).toInt ≤ 1048576 * (1 + j.toInt)
    rw [← e7]
    by_cases k : n = B + c i.toInt.toNat
    · rw [k, pk_us]; omega
    · rw [pk_un k]
      have q : 0 ≤ (row n).toInt ∧ (row n).toInt ≤ 1048576 * (1 + i.toInt) := h3 n hn
      omega
  · have q : pr row G = pr mf G - z1.toInt * G B + z1.toInt * sm i.toInt.toNat (fun S => if ok S = true ∧ B + c S < 1024 then G (B + c S) else 0) := h4 G
    show pr b7 G = pr mf G - z1.toInt * G B + z1.toInt * sm j.toInt.toNat (fun S => if ok S = true ∧ B + c S < 1024 then G (B + c S) else 0)
    rw [g2, sm_s, if_pos y, Int.mul_add, ← e7, pr_up y.2, g6, q]
    have e : (row (B + c i.toInt.toNat)).toInt + z1.toInt - (row (B + c i.toInt.toNat)).toInt = z1.toInt := by omega
    rw [e]; omega
theorem spread_sp {mf on hv u : Nat → Int32} {b gs d k : Int32} {ok : Nat → Bool} {c : Nat → Nat} {N B : Nat} (hB : b.toInt = (B : Int)) (hb : B < 1024) (hN : gs.toInt = (N : Int)) (hN2 : N ≤ 32) (hc : ∀ S : Nat, S < N → (on S).toInt = (c S : Int) ∧ c S < 1024) (hok : ∀ S : Nat, S < N → (ok S = true ↔ (hv S).toInt = d.toInt ∧ (k.toInt = -1 ∨ k.toInt = (S : Int)))) (hm : ∀ n : Nat, n < 1024 → 0 ≤ (mf n).toInt ∧ (mf n).toInt ≤ 1048576) (h : R_k_spread mf b gs on hv d k u) : (∀ n : Nat, n < B → u n = mf n) ∧ (∀ n : Nat, n < 1024 → 0 ≤ (u n).toInt) ∧ ∀ G : Nat → Int, pr u G = pr mf G - (mf B).toInt * G B + (mf B).toInt * sm N (fun S => if ok S = true ∧ B + c S < 1024 then G (B + c S) else 0) := by
  obtain ⟨z1, ez, g2, eg, h⟩ := h
  have iB : Int32.toNatClampNeg b = B := by rw [mi_cl, hB]; omega
  rw [iB] at ez eg
  have c0 : (0 : Int32).toInt = 0 := by decide
  have hz := hm B hb
  rw [← ez] at hz ⊢
  refine fx_inv (P := SpI mf ok c N B z1.toInt) (fun K s hP hT => ?_) 34 _ h ?_
  · obtain ⟨i, row⟩ := s
    have hi : 0 ≤ i.toInt ∧ i.toInt ≤ (N : Int) := hP.1
    dsimp only [T_k_spread_12, R_k_spread_s0] at hT
    rcases hT with ⟨q, e⟩ | ⟨q, b0, f0, b1, f1, b2, f2, hT⟩
    · refine Or.inl ?_
      have ei : i.toInt.toNat = N := by omega
      obtain ⟨-, h2, h3, h4⟩ := hP
      rw [e]
      refine ⟨h2, fun n hn => (h3 n hn).1, fun G => ?_⟩
      have q4 : pr row G = pr mf G - z1.toInt * G B + z1.toInt * sm i.toInt.toNat (fun S => if ok S = true ∧ B + c S < 1024 then G (B + c S) else 0) := h4 G
      rw [ei] at q4; exact q4
    · refine Or.inr ?_
      rw [hN] at q
      rw [mi_cl] at f0 f2
      have hci := hc i.toInt.toNat (by clear hT; omega)
      have hoi := hok i.toInt.toNat (by clear hT; omega)
      have e1 : b1.toInt = (B : Int) + (c i.toInt.toNat : Int) := by rw [f1, f0, mi_add (by clear hT; omega) (by clear hT; omega), hB, hci.1]
      rw [← f2] at hoi
      have ii : ((i.toInt.toNat : Nat) : Int) = i.toInt := by clear hT; omega
      rw [ii] at hoi
      rcases hT with ⟨n2, j, ej, hk⟩ | ⟨y2, ⟨k1, hT⟩ | ⟨k1, ⟨k2, j, ej, hk⟩ | ⟨k2, hT⟩⟩⟩
      · exact ⟨(j, row), SpI_skip hN2 q (fun y => n2 (hoi.mp y.1).1) ej hP, hk⟩
      · have y := hoi.mpr ⟨y2, Or.inl k1⟩
        rcases hT with ⟨w, j, ej, hk⟩ | ⟨w, b5, f5, b6, f6, b7, f7, j, ej, hk⟩
        · exact ⟨(j, row), SpI_skip hN2 q (fun y => by have := y.2; clear hk; omega) ej hP, hk⟩
        · exact ⟨(j, b7), SpI_add hN2 q ⟨y, by clear hk; omega⟩ hz e1 f5 f6 f7 ej hP, hk⟩
      · refine ⟨(j, row), SpI_skip hN2 q (fun y => ?_) ej hP, hk⟩
        rcases (hoi.mp y.1).2 with v | v
        · exact k1 v
        · exact k2 v
      · have y := hoi.mpr ⟨y2, Or.inr k2⟩
        rcases hT with ⟨w, j, ej, hk⟩ | ⟨w, b5, f5, b6, f6, b7, f7, j, ej, hk⟩
        · exact ⟨(j, row), SpI_skip hN2 q (fun y => by have := y.2; clear hk; omega) ej hP, hk⟩
        · exact ⟨(j, b7), SpI_add hN2 q ⟨y, by clear hk; omega⟩ hz e1 f5 f6 f7 ej hP, hk⟩
  · refine ⟨⟨by show 0 ≤ (0 : Int32).toInt; omega, by show (0 : Int32).toInt ≤ _; omega⟩, fun n hn => ?_, fun n hn => ?_, fun G => ?_⟩
    · show g2 n = mf n
      rw [← eg, pk_un (by omega)]
    · show 0 ≤ (g2 n).toInt ∧ (g2 n).toInt ≤ 1048576 * (1 + (0 : Int32).toInt)
      rw [← eg]
      by_cases k : n = B
      · rw [k, pk_us]; omega
      · rw [pk_un k]; have := hm n hn; omega
    · show pr g2 G = pr mf G - z1.toInt * G B + z1.toInt * sm (0 : Int32).toInt.toNat _
      have s0 : ∀ f : Nat → Int, sm (0 : Int32).toInt.toNat f = 0 := fun f => by rw [c0]; rfl
      rw [s0, Int.mul_zero, ← eg, pr_up hb, ← ez, c0, Int.sub_mul, Int.zero_mul]
      omega
/-- one minute of fill() -/
theorem sm_mono {f : Nat → Int} {o : Nat} : ∀ n : Nat, o ≤ n → (∀ i : Nat, i < n → 0 ≤ f i) → sm o f ≤ sm n f := by
  intro n
  induction n with
  | zero => intro h _; rw [show o = 0 from by omega]; exact Int.le_refl _
  | succ n ih =>
    intro h hf
    by_cases e : o = n + 1
    · rw [e]; exact Int.le_refl _
    · have a := ih (by omega) (fun i hi => hf i (by omega))
      have b := hf n (by omega)
      rw [sm_s]; omega
theorem V1_rng {N : Nat} {ok : Nat → Nat → Bool} {c : Nat → Nat} {k n : Nat} (hN : N ≤ 32) : 0 ≤ Vy N ok c (fun _ => 1) 1 k n ∧ Vy N ok c (fun _ => 1) 1 k n ≤ 32 := by
  rw [Vy_s]
  have a := sm_nn (f := fun S => if ok k S = true ∧ n + c S < 1024 then Vy N ok c (fun _ => 1) 0 (k + 1) (n + c S) else 0) N (fun S _ => by
    by_cases y : ok k S = true ∧ n + c S < 1024
    · rw [if_pos y]; show (0 : Int) ≤ 1; decide
    · rw [if_neg y]; exact Int.le_refl _)
  have b := sm_bd (f := fun S => if ok k S = true ∧ n + c S < 1024 then Vy N ok c (fun _ => 1) 0 (k + 1) (n + c S) else 0) (c := 1) N (fun S _ => by
    by_cases y : ok k S = true ∧ n + c S < 1024
    · rw [if_pos y]; exact Int.le_refl _
    · rw [if_neg y]; decide)
  omega
def FmI (r0 : Nat → Int32) (A : (Nat → Int) → Nat → Int) (s : Int32 × (Nat → Int32)) : Prop := (-1 ≤ s.1.toInt ∧ s.1.toInt ≤ 1023) ∧ (∀ n : Nat, (n : Int) ≤ s.1.toInt → s.2 n = r0 n) ∧ (∀ n : Nat, n < 1024 → 0 ≤ (s.2 n).toInt) ∧ ∀ G : Nat → Int, pr s.2 G = sm (s.1.toInt + 1).toNat (fun n => (r0 n).toInt * G n) + (sm 1024 (fun n => (r0 n).toInt * A G n) - sm (s.1.toInt + 1).toNat (fun n => (r0 n).toInt * A G n))
theorem FmI_bd {r0 row : Nat → Int32} {N kk : Nat} {ok : Nat → Nat → Bool} {c : Nat → Nat} {i : Int32} (hN : N ≤ 32) (h0 : ∀ n : Nat, n < 1024 → 0 ≤ (r0 n).toInt) (hp : pr r0 (fun _ => 1) ≤ 1024) (h : FmI r0 (fun G n => Vy N ok c G 1 kk n) (i, row)) : ∀ n : Nat, n < 1024 → 0 ≤ (row n).toInt ∧ (row n).toInt ≤ 1048576 := by
  obtain ⟨h1, h2, h3, h4⟩ := h
  have h1 : -1 ≤ i.toInt ∧ i.toInt ≤ 1023 := h1
  have h3 : ∀ n : Nat, n < 1024 → 0 ≤ (row n).toInt := h3
  have q : pr row (fun _ => 1) = sm (i.toInt + 1).toNat (fun n => (r0 n).toInt * 1) + (sm 1024 (fun n => (r0 n).toInt * Vy N ok c (fun _ => 1) 1 kk n) - sm (i.toInt + 1).toNat (fun n => (r0 n).toInt * Vy N ok c (fun _ => 1) 1 kk n)) := h4 (fun _ => 1)
  have a1 : sm (i.toInt + 1).toNat (fun n => (r0 n).toInt * 1) ≤ pr r0 (fun _ => 1) := sm_mono 1024 (by omega) (fun n hn => by have := h0 n hn; show 0 ≤ (r0 n).toInt * 1; omega)
  have a2 : sm 1024 (fun n => (r0 n).toInt * Vy N ok c (fun _ => 1) 1 kk n) ≤ pr r0 (fun _ => 32) := sm_le 1024 (fun n hn => Int.mul_le_mul_of_nonneg_left (V1_rng hN).2 (h0 n hn))
  have a3 : 0 ≤ sm (i.toInt + 1).toNat (fun n => (r0 n).toInt * Vy N ok c (fun _ => 1) 1 kk n) := sm_nn _ (fun n hn => Int.mul_nonneg (h0 n (by omega)) (V1_rng hN).1)
  rw [pr_mul] at a2
  intro n hn
  have b := pr_1 h3 hn
  exact ⟨h3 n hn, by omega⟩
theorem fillm_sp {hl on hv u r0 : Nat → Int32} {kk k gs j : Int32} {Kp : (Int32 × (Nat → Int32)) → Prop} {ok : Nat → Nat → Bool} {c : Nat → Nat} {N : Nat} {M : Nat} (hk5 : 0 ≤ kk.toInt ∧ kk.toInt ≤ 5) (hN : gs.toInt = (N : Int)) (hN2 : N ≤ 32) (hc : ∀ S : Nat, S < N → (on S).toInt = (c S : Int) ∧ c S < 1024) (hj : kk.toInt = k.toInt → 0 ≤ j.toInt) (hok : ∀ S : Nat, S < N → (ok kk.toInt.toNat S = true ↔ (hv S).toInt = (hl kk.toInt.toNat).toInt ∧ (kk.toInt = k.toInt → j.toInt = (S : Int)))) (h0 : ∀ n : Nat, n < 1024 → 0 ≤ (r0 n).toInt) (hp : pr r0 (fun _ => 1) ≤ 1024) (h : fx (T_k_fill_23 kk hl k gs on hv j Kp u) M ((1023 : Int32), r0)) : ∃ (z : Int32) (r1 : Nat → Int32), z = kk + 1 ∧ Kp (z, r1) ∧ (∀ n : Nat, n < 1024 → 0 ≤ (r1 n).toInt) ∧ ∀ G : Nat → Int, pr r1 G = pr r0 (fun n => Vy N ok c G 1 kk.toInt.toNat n) := by
  have c1 : (-1 : Int32).toInt = -1 := by decide
  have c23 : (1023 : Int32).toInt = 1023 := by decide
  refine fx_inv (P := FmI r0 (fun G n => Vy N ok c G 1 kk.toInt.toNat n)) (fun K s hP hT => ?_) M _ h ?_
  · obtain ⟨i, row⟩ := s
    have bd := FmI_bd hN2 h0 hp hP
    obtain ⟨h1, h2, h3, h4⟩ := hP
    have h1 : -1 ≤ i.toInt ∧ i.toInt ≤ 1023 := h1
    have h2 : ∀ n : Nat, (n : Int) ≤ i.toInt → row n = r0 n := h2
    have h4 : ∀ G : Nat → Int, pr row G = sm (i.toInt + 1).toNat (fun n => (r0 n).toInt * G n) + (sm 1024 (fun n => (r0 n).toInt * Vy N ok c G 1 kk.toInt.toNat n) - sm (i.toInt + 1).toNat (fun n => (r0 n).toInt * Vy N ok c G 1 kk.toInt.toNat n)) := h4
    dsimp only [T_k_fill_23] at hT
    rcases hT with ⟨q, z, ez, hk⟩ | ⟨q, b1, f1, hT⟩
    · refine Or.inl ⟨z, row, ez, hk, h3, fun G => ?_⟩
      clear hk
      have e := h4 G
      rw [show (i.toInt + 1).toNat = 0 from by omega] at e
      have s0 : ∀ f : Nat → Int, sm 0 f = 0 := fun _ => rfl
      rw [s0, s0] at e
      rw [e]; show 0 + (pr r0 (fun n => Vy N ok c G 1 kk.toInt.toNat n) - 0) = _
      omega
    · refine Or.inr ?_
      rw [mi_cl] at f1
      have e0 : b1 = r0 i.toInt.toNat := by rw [f1]; exact h2 _ (by clear hT; omega)
      have nx : ∀ z : Int32, z = i + (-1) → z.toInt = i.toInt - 1 := fun z ez => by
        rw [ez, mi_add (by rw [c1]; clear hT; omega) (by rw [c1]; clear hT; omega), c1]; rfl
      have s1 : ∀ f : Nat → Int, sm (i.toInt + 1).toNat f = sm i.toInt.toNat f + f i.toInt.toNat := fun f => by
        rw [show (i.toInt + 1).toNat = i.toInt.toNat + 1 from by clear hT; omega]; rfl
      have fin : ∀ (z : Int32) (row2 : Nat → Int32), z = i + (-1) → (∀ n : Nat, n < i.toInt.toNat → row2 n = row n) → (∀ n : Nat, n < 1024 → 0 ≤ (row2 n).toInt) → (∀ G : Nat → Int, pr row2 G = pr row G - b1.toInt * G i.toInt.toNat + b1.toInt * Vy N ok c G 1 kk.toInt.toNat i.toInt.toNat) → FmI r0 (fun G n => Vy N ok c G 1 kk.toInt.toNat n) (z, row2) := fun z row2 ez w1 w2 w3 => by
        have g := nx z ez
        clear hT
        refine ⟨?_, fun n hn => ?_, w2, fun G => ?_⟩
        · show -1 ≤ z.toInt ∧ z.toInt ≤ 1023
          omega
        · have hn : (n : Int) ≤ z.toInt := hn
          show row2 n = r0 n
          rw [w1 n (by omega)]; exact h2 n (by omega)
        · show pr row2 G = sm (z.toInt + 1).toNat (fun n => (r0 n).toInt * G n) + (sm 1024 (fun n => (r0 n).toInt * Vy N ok c G 1 kk.toInt.toNat n) - sm (z.toInt + 1).toNat (fun n => (r0 n).toInt * Vy N ok c G 1 kk.toInt.toNat n))
          rw [w3 G, h4 G, s1, s1, e0, show (z.toInt + 1).toNat = i.toInt.toNat from by omega]
          omega
      rcases hT with ⟨w, z, ez, hk⟩ | ⟨w, b3, f3, hT⟩
      · exact ⟨(z, row), fin z row ez (fun _ _ => rfl) h3 (fun G => by rw [w, Int.zero_mul, Int.zero_mul]; omega), hk⟩
      · rw [mi_cl] at f3
        have go : ∀ (kq : Int32) (row2 : Nat → Int32) (z : Int32), (∀ S : Nat, S < N → (ok kk.toInt.toNat S = true ↔ (hv S).toInt = b3.toInt ∧ (kq.toInt = -1 ∨ kq.toInt = (S : Int)))) → R_k_spread row i gs on hv b3 kq row2 → z = i + (-1) → FmI r0 (fun G n => Vy N ok c G 1 kk.toInt.toNat n) (z, row2) := fun kq row2 z hq hs ez => by
          have iB : i.toInt = ((i.toInt.toNat : Nat) : Int) := by clear hT hs; omega
          have sp := spread_sp (ok := fun S => ok kk.toInt.toNat S) iB (by clear hT hs; omega) hN hN2 hc hq bd hs
          clear hs hT
          refine fin z row2 ez sp.1 sp.2.1 (fun G => ?_)
          rw [sp.2.2 G, ← f1]; rfl
        rcases hT with ⟨w1, r2, hs, z, ez, hk⟩ | ⟨w1, r2, hs, z, ez, hk⟩
        · refine ⟨(z, r2), go (-1) r2 z (fun S hS => ?_) hs ez, hk⟩
          clear hk hs
          rw [hok S hS, f3]
          constructor
          · rintro ⟨a, -⟩; exact ⟨a, Or.inl c1⟩
          · rintro ⟨a, -⟩; exact ⟨a, fun y => absurd y w1⟩
        · refine ⟨(z, r2), go j r2 z (fun S hS => ?_) hs ez, hk⟩
          clear hk hs
          have j0 := hj w1
          rw [hok S hS, f3]
          constructor
          · rintro ⟨a, b⟩; exact ⟨a, Or.inr (b w1)⟩
          · rintro ⟨a, b⟩; exact ⟨a, fun _ => b.elim (fun b => absurd b (by omega)) (fun b => b)⟩
  · refine ⟨⟨by show -1 ≤ (1023 : Int32).toInt; omega, by show (1023 : Int32).toInt ≤ 1023; omega⟩, fun n _ => rfl, h0, fun G => ?_⟩
    show pr r0 G = sm ((1023 : Int32).toInt + 1).toNat _ + (_ - sm ((1023 : Int32).toInt + 1).toNat _)
    rw [c23, show ((1023 : Int) + 1).toNat = 1024 from rfl]
    show pr r0 G = pr r0 G + (sm 1024 _ - sm 1024 _)
    omega
