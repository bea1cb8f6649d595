/-! the dark: what the class does -/
theorem of5 {L : Int32} (h : 0 ≤ L.toInt ∧ L.toInt ≤ 4) : ∃ n : Fin 5, L = Int32.ofNat n.val := by
  refine ⟨⟨L.toInt.toNat, by omega⟩, mi_eq ?_⟩
  rw [Int32.toInt_ofNat_of_lt (by show L.toInt.toNat < 2 ^ 31; omega)]
  show L.toInt = ((L.toInt.toNat : Nat) : Int)
  omega
theorem of1k {L : Int32} (h : 0 ≤ L.toInt ∧ L.toInt < 1024) : ∃ n : Fin 1024, L = Int32.ofNat n.val := by
  refine ⟨⟨L.toInt.toNat, by omega⟩, mi_eq ?_⟩
  rw [Int32.toInt_ofNat_of_lt (by show L.toInt.toNat < 2 ^ 31; omega)]
  show L.toInt = ((L.toInt.toNat : Nat) : Int)
  omega
theorem of4 {L : Int32} (h : 0 ≤ L.toInt ∧ L.toInt ≤ 3) : ∃ n : Fin 4, L = Int32.ofNat n.val := by
  refine ⟨⟨L.toInt.toNat, by omega⟩, mi_eq ?_⟩
  rw [Int32.toInt_ofNat_of_lt (by show L.toInt.toNat < 2 ^ 31; omega)]
  show L.toInt = ((L.toInt.toNat : Nat) : Int)
  omega
set_option maxRecDepth 100000 in
theorem tb_d4 : ∀ (n : Fin 1024) (p : Fin 5), ((Int32.ofNat n.val >>> (((2 : Int32) * Int32.ofNat p.val) &&& (31 : Int32))) &&& 3).toInt = ((d4 n.val (Int32.ofNat p.val).toInt.toNat : Nat) : Int) := by decide +kernel
theorem tb_s4 : ∀ p : Fin 5, ((1 : Int32) <<< (((2 : Int32) * Int32.ofNat p.val) &&& (31 : Int32))).toInt = ((4 ^ (Int32.ofNat p.val).toInt.toNat : Nat) : Int) := by decide +kernel
theorem tb_m4 : ∀ (m : Fin 4) (p : Fin 5), (Int32.ofNat m.val <<< (((2 : Int32) * Int32.ofNat p.val) &&& (31 : Int32))).toInt = ((m.val * 4 ^ (Int32.ofNat p.val).toInt.toNat : Nat) : Int) := by decide +kernel
theorem dg4 {o p b1 b2 b3 : Int32} (ho : 0 ≤ o.toInt ∧ o.toInt < 1024) (hp : 0 ≤ p.toInt ∧ p.toInt ≤ 4) (e1 : b1 = (2 : Int32) * p) (e2 : b2 = o >>> (b1 &&& (31 : Int32))) (e3 : b3 = b2 &&& 3) : b3.toInt = ((d4 o.toInt.toNat p.toInt.toNat : Nat) : Int) := by
  obtain ⟨n, en⟩ := of1k ho
  obtain ⟨q, eq⟩ := of5 hp
  have hn : o.toInt.toNat = n.val := by
    rw [en, Int32.toInt_ofNat_of_lt (by have := n.isLt; omega)]; rfl
  rw [hn, e3, e2, e1, en, eq]
  exact tb_d4 n q
theorem sh4 {p b1 b2 : Int32} (hp : 0 ≤ p.toInt ∧ p.toInt ≤ 4) (e1 : b1 = (2 : Int32) * p) (e2 : b2 = (1 : Int32) <<< (b1 &&& (31 : Int32))) : b2.toInt = ((4 ^ p.toInt.toNat : Nat) : Int) := by
  obtain ⟨q, eq⟩ := of5 hp
  rw [e2, e1, eq]
  exact tb_s4 q
theorem sh4m {p m b1 b2 : Int32} (hp : 0 ≤ p.toInt ∧ p.toInt ≤ 4) (hm : 0 ≤ m.toInt ∧ m.toInt ≤ 3) (e1 : b1 = (2 : Int32) * p) (e2 : b2 = m <<< (b1 &&& (31 : Int32))) : b2.toInt = ((m.toInt.toNat * 4 ^ p.toInt.toNat : Nat) : Int) := by
  obtain ⟨q, eq⟩ := of5 hp
  obtain ⟨n, en⟩ := of4 hm
  have hn : m.toInt.toNat = n.val := by
    rw [en, Int32.toInt_ofNat_of_lt (by have := n.isLt; omega)]; rfl
  rw [hn, e2, e1, eq, en]
  exact tb_m4 n q
/-- halves of a set -/
def hv5 (h : Nat → Int) (S : Nat) : Int := sm 5 (fun q => if bt S q = 1 then h q else 0)
theorem tb_bt : ∀ (p : Fin 5) (S : Fin 32) (q : Fin 5), S.val < 2 ^ p.val → bt (S.val + 2 ^ p.val) q.val = if q.val = p.val then 1 else bt S.val q.val := by decide +kernel
theorem tb_b0 : ∀ (p : Fin 6) (S : Fin 32) (q : Fin 5), S.val < 2 ^ p.val → p.val ≤ q.val → bt S.val q.val = 0 := by decide +kernel
theorem tb_e4 : ∀ (p : Fin 5) (S : Fin 32), S.val < 2 ^ p.val → e4 (bt (S.val + 2 ^ p.val)) = e4 (bt S.val) + 4 ^ p.val := by decide +kernel
theorem tb_2p : ∀ p : Fin 6, 1 ≤ 2 ^ p.val ∧ 2 ^ p.val ≤ 32 := by decide +kernel
theorem bt_out {P S p : Nat} (hP : P ≤ 5) (hS : S < 2 ^ P) (hp : P ≤ p) : bt S p = 0 := by
  have h5 := (tb_2p ⟨P, by omega⟩).2
  have h5 : 2 ^ P ≤ 32 := h5
  have h6 : 2 ^ P ≤ 2 ^ p := Nat.pow_le_pow_right (by omega) hp
  unfold bt
  rw [Nat.div_eq_of_lt (by omega)]
theorem hv5_up {h : Nat → Int} {p S : Nat} (hp : p < 5) (hS : S < 2 ^ p) : hv5 h (S + 2 ^ p) = hv5 h S + h p := by
  have h5 : 2 ^ p ≤ 32 := (tb_2p ⟨p, by omega⟩).2
  have e : hv5 h (S + 2 ^ p) = sm 5 (fun q => if q = p then h p else if bt S q = 1 then h q else 0) := sm_c 5 (fun q hq => by
    have b : bt (S + 2 ^ p) q = if q = p then 1 else bt S q := tb_bt ⟨p, hp⟩ ⟨S, by omega⟩ ⟨q, hq⟩ hS
    rw [b]
    by_cases k : q = p
    · rw [if_pos k, if_pos k, if_pos rfl, k]
    · rw [if_neg k, if_neg k])
  have z : bt S p = 0 := tb_b0 ⟨p, by omega⟩ ⟨S, by omega⟩ ⟨p, hp⟩ hS (Nat.le_refl _)
  rw [e, sm_up, if_pos hp, if_neg (by omega : ¬ bt S p = 1)]
  unfold hv5
  omega
theorem hv5_rng {h : Nat → Int} {S : Nat} (hh : ∀ p : Nat, p < 5 → bt S p = 1 → 0 ≤ h p ∧ h p ≤ 2) : 0 ≤ hv5 h S ∧ hv5 h S ≤ 10 := by
  have a := sm_nn (f := fun q => if bt S q = 1 then h q else 0) 5 (fun q hq => by
    show 0 ≤ (if bt S q = 1 then h q else 0)
    by_cases k : bt S q = 1
    · rw [if_pos k]; exact (hh q hq k).1
    · rw [if_neg k]; exact Int.le_refl _)
  have b := sm_bd (f := fun q => if bt S q = 1 then h q else 0) (c := 2) 5 (fun q hq => by
    show (if bt S q = 1 then h q else 0) ≤ 2
    by_cases k : bt S q = 1
    · rw [if_pos k]; exact (hh q hq k).2
    · rw [if_neg k]; decide)
  unfold hv5
  omega
theorem e4_bt (S : Nat) : e4 (bt S) < 1024 := e4_lt (fun p _ => by have := bt_le S p; omega)
/-- listen(): what each set claps, and how it counts -/
theorem listen_sp {gh go hn u1 u2 : Nat → Int32} {pa u0 : Int32} (hpa : 0 ≤ pa.toInt ∧ pa.toInt ≤ 5) (hh : ∀ p : Nat, (p : Int) < pa.toInt → 1 ≤ (hn p).toInt ∧ (hn p).toInt ≤ 2) (h : R_k_listen gh go pa hn u0 u1 u2) : u0.toInt = ((2 ^ pa.toInt.toNat : Nat) : Int) ∧ ∀ S : Nat, S < 2 ^ pa.toInt.toNat → (u1 S).toInt = hv5 (fun p => (hn p).toInt) S ∧ (u2 S).toInt = ((e4 (bt S) : Nat) : Int) := by
  obtain ⟨g1, eg1, g2, eg2, h⟩ := h
  have k0 : Int32.toNatClampNeg (0 : Int32) = 0 := by decide
  have c0 : (0 : Int32).toInt = 0 := by decide
  have c1 : (1 : Int32).toInt = 1 := by decide
  have c2 : (2 : Int32).toInt = 2 := by decide
  rw [k0] at eg1 eg2
  refine fx_inv (P := fun s => (0 ≤ s.1.toInt ∧ s.1.toInt ≤ pa.toInt) ∧ s.2.1.toInt = ((2 ^ s.1.toInt.toNat : Nat) : Int) ∧ ∀ S : Nat, S < 2 ^ s.1.toInt.toNat → (s.2.2.1 S).toInt = hv5 (fun p => (hn p).toInt) S ∧ (s.2.2.2 S).toInt = ((e4 (bt S) : Nat) : Int)) (fun K s hP hT => ?_) 7 _ h ⟨⟨by show 0 ≤ (0 : Int32).toInt; omega, by show (0 : Int32).toInt ≤ _; omega⟩, by show (1 : Int32).toInt = _; rw [c1, c0]; rfl, fun S hS => ?_⟩
  · obtain ⟨p, n, ah, ao⟩ := s
    obtain ⟨hp, hn2, ha⟩ := hP
    have hp : 0 ≤ p.toInt ∧ p.toInt ≤ pa.toInt := hp
    have hn2 : n.toInt = ((2 ^ p.toInt.toNat : Nat) : Int) := hn2
    have ha : ∀ S : Nat, S < 2 ^ p.toInt.toNat → (ah S).toInt = hv5 (fun p => (hn p).toInt) S ∧ (ao S).toInt = ((e4 (bt S) : Nat) : Int) := ha
    dsimp only [T_k_listen_31] at hT
    rcases hT with ⟨c, e0, e1, e2⟩ | ⟨c, hT⟩
    · refine Or.inl ?_
      have e : p.toInt = pa.toInt := by omega
      rw [e0, e1, e2, ← e]
      exact ⟨hn2, ha⟩
    · refine Or.inr ?_
      have hp4 : p.toInt.toNat < 5 := by clear hT; omega
      have r32 : 2 ^ p.toInt.toNat ≤ 16 := by
        have := (by decide : ∀ p : Fin 5, 2 ^ p.val ≤ 16) ⟨p.toInt.toNat, hp4⟩
        exact this
      have hhp := hh p.toInt.toNat (by clear hT; omega)
      have h2s : 2 ^ (p.toInt.toNat + 1) = 2 ^ p.toInt.toNat + 2 ^ p.toInt.toNat := by rw [Nat.pow_succ]; omega
      generalize e2p : 2 ^ p.toInt.toNat = t at *
      have key := fx_inv (Q := ∃ b : Int32 × Int32 × (Nat → Int32) × (Nat → Int32), ((0 ≤ b.1.toInt ∧ b.1.toInt ≤ pa.toInt) ∧ b.2.1.toInt = ((2 ^ b.1.toInt.toNat : Nat) : Int) ∧ ∀ S : Nat, S < 2 ^ b.1.toInt.toNat → (b.2.2.1 S).toInt = hv5 (fun p => (hn p).toInt) S ∧ (b.2.2.2 S).toInt = ((e4 (bt S) : Nat) : Int)) ∧ K b) (P := fun s => (0 ≤ s.1.toInt ∧ s.1.toInt ≤ (t : Int)) ∧ (∀ S : Nat, (S : Int) < (t : Int) + s.1.toInt → (s.2.1 S).toInt = hv5 (fun p => (hn p).toInt) S ∧ (s.2.2 S).toInt = ((e4 (bt S) : Nat) : Int))) (T := T_k_listen_42 n p hn K u0 u1 u2) (fun K2 s hP hT => by
        obtain ⟨i, bh, bo⟩ := s
        obtain ⟨hi, hb⟩ := hP
        have hi : 0 ≤ i.toInt ∧ i.toInt ≤ (t : Int) := hi
        have hb : ∀ S : Nat, (S : Int) < (t : Int) + i.toInt → (bh S).toInt = hv5 (fun p => (hn p).toInt) S ∧ (bo S).toInt = ((e4 (bt S) : Nat) : Int) := hb
        dsimp only [T_k_listen_42] at hT
        rcases hT with ⟨c, b0, f0, b1, f1, hk⟩ | ⟨c, b2, f2, b3, f3, b4, f4, b5, f5, b6, f6, b7, f7, b8, f8, b9, f9, b10, f10, b11, f11, b12, f12, b13, f13, hk⟩
        · refine Or.inl ⟨(b1, b0, bh, bo), ⟨?_, ?_, fun S hS => ?_⟩, hk⟩
          · show 0 ≤ b1.toInt ∧ b1.toInt ≤ pa.toInt
            have g : b1.toInt = p.toInt + 1 := by rw [f1]; exact mi_addc (by decide) (by clear hk; omega) (by clear hk; omega)
            clear hk; omega
          · show b0.toInt = ((2 ^ b1.toInt.toNat : Nat) : Int)
            have g : b1.toInt = p.toInt + 1 := by rw [f1]; exact mi_addc (by decide) (by clear hk; omega) (by clear hk; omega)
            have g0 : b0.toInt = n.toInt * 2 := by rw [f0]; exact mi_mulc (by decide) (by clear hk; omega) (by clear hk; omega)
            rw [g, show (p.toInt + 1).toNat = p.toInt.toNat + 1 from by clear hk; omega, h2s, g0]
            clear hk; omega
          · have g : b1.toInt = p.toInt + 1 := by rw [f1]; exact mi_addc (by decide) (by clear hk; omega) (by clear hk; omega)
            have hS : S < 2 ^ b1.toInt.toNat := hS
            rw [g, show (p.toInt + 1).toNat = p.toInt.toNat + 1 from by clear hk hS; omega, h2s] at hS
            exact hb S (by clear hk; omega)
        · refine Or.inr ⟨(b13, b6, b12), ⟨?_, fun S hS => ?_⟩, hk⟩
          · show 0 ≤ b13.toInt ∧ b13.toInt ≤ (t : Int)
            have g : b13.toInt = i.toInt + 1 := by rw [f13]; exact mi_addc (by decide) (by clear hk; omega) (by clear hk; omega)
            clear hk; omega
          · have g : b13.toInt = i.toInt + 1 := by rw [f13]; exact mi_addc (by decide) (by clear hk; omega) (by clear hk; omega)
            have hS : (S : Int) < (t : Int) + b13.toInt := hS
            show (b6 S).toInt = _ ∧ (b12 S).toInt = _
            clear hk
            have g2 : b2.toInt = i.toInt + (t : Int) := by rw [f2, mi_add (by omega) (by omega), hn2]
            have g7 : b7.toInt = i.toInt + (t : Int) := by rw [f7, mi_add (by omega) (by omega), hn2]
            have i2 : Int32.toNatClampNeg b2 = i.toInt.toNat + t := by rw [mi_cl, g2]; omega
            have i7 : Int32.toNatClampNeg b7 = i.toInt.toNat + t := by rw [mi_cl, g7]; omega
            rw [← f6, ← f12, i2, i7]
            by_cases k : S = i.toInt.toNat + t
            · subst k
              rw [pk_us, pk_us]
              obtain ⟨a1, a2⟩ := hb i.toInt.toNat (by omega)
              have lt : i.toInt.toNat < 2 ^ p.toInt.toNat := by rw [e2p]; omega
              have u1 := hv5_up (h := fun p => (hn p).toInt) hp4 lt
              have u2 : e4 (bt (i.toInt.toNat + 2 ^ p.toInt.toNat)) = e4 (bt i.toInt.toNat) + 4 ^ p.toInt.toNat := tb_e4 ⟨p.toInt.toNat, hp4⟩ ⟨i.toInt.toNat, by omega⟩ lt
              rw [e2p] at u1 u2
              have hr := hv5_rng (h := fun p => (hn p).toInt) (S := i.toInt.toNat) (fun q hq y => by
                have hq2 : (q : Int) < pa.toInt := by
                  by_cases w : p.toInt.toNat ≤ q
                  · have z := bt_out (P := p.toInt.toNat) (by omega) lt w
                    omega
                  · omega
                have := hh q hq2
                exact ⟨by omega, this.2⟩)
              have lb := e4_bt i.toInt.toNat
              have g10 := sh4 (p := p) ⟨hp.1, by omega⟩ f9 f10
              have l4 : 4 ^ p.toInt.toNat ≤ 256 := (by decide : ∀ p : Fin 5, 4 ^ p.val ≤ 256) ⟨p.toInt.toNat, hp4⟩
              rw [u1, u2]
              refine ⟨?_, ?_⟩
              · have q3 : b3.toInt = hv5 (fun p => (hn p).toInt) i.toInt.toNat := by rw [f3, mi_cl]; exact a1
                have q4 : b4.toInt = (hn p.toInt.toNat).toInt := by rw [f4, mi_cl]
                rw [f5, mi_add (by omega) (by omega), q3, q4]
              · have q8 : b8.toInt = ((e4 (bt i.toInt.toNat) : Nat) : Int) := by rw [f8, mi_cl]; exact a2
                rw [f11, mi_add (by omega) (by omega), q8, g10]
                rfl
            · rw [pk_un k, pk_un k]
              exact hb S (by omega)) 18 _ hT ⟨⟨by show 0 ≤ (0 : Int32).toInt; omega, by show (0 : Int32).toInt ≤ _; omega⟩, fun S hS => ?_⟩
      · exact key
      · have hS : (S : Int) < (t : Int) + (0 : Int32).toInt := hS
        exact ha S (by rw [c0] at hS; clear hT; omega)
  · have hS : S < 2 ^ (0 : Int32).toInt.toNat := hS
    rw [c0] at hS
    have hS : S < 1 := hS
    have eS : S = 0 := by omega
    subst eS
    show (g1 0).toInt = _ ∧ (g2 0).toInt = _
    rw [← eg1, ← eg2, pk_us, pk_us]
    exact ⟨rfl, rfl⟩
