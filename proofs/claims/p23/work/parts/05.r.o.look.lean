/-! evenings: who owes most, the idol, tips, dear bread -/
theorem gr2_sp {a b u : Int32} (h : R_j_greater a b u) : (b.toInt ≤ a.toInt → u = a) ∧ (a.toInt < b.toInt → u = b) := by
  rcases h with ⟨c, e⟩ | ⟨c, e⟩
  · exact ⟨fun _ => by first | exact e | (rw [e]; exact mi_eq (by omega)), fun q => by first | exact e | exact absurd q (by omega)⟩
  · exact ⟨fun q => by first | exact e | exact absurd q (by omega), fun _ => by first | exact e | (rw [e]; exact mi_eq (by omega))⟩
/-- a sum of the first so many -/
def rs (f : Nat → Int32) : Nat → Int32
  | 0 => 0
  | k + 1 => rs f k + f k
theorem rs_c {f g : Nat → Int32} : ∀ n : Nat, (∀ a : Nat, a < n → f a = g a) → rs f n = rs g n := by
  intro n
  induction n with
  | zero => intro _; rfl
  | succ n ih =>
    intro h
    show rs f n + f n = rs g n + g n
    rw [ih (fun a ha => h a (by omega)), h n (by omega)]
theorem loan_x {pa mo p be u : Int32} {ow : Nat → Int32} {Kp : (Int32 × Int32 × Int32) → Prop} (hpa : 0 ≤ pa.toInt ∧ pa.toInt ≤ 5) (hp : 0 ≤ p.toInt ∧ p.toInt < 5) {N : Nat} (h : fx (T_k_loan_23 pa mo p be ow Kp u) N ((0 : Int32), (0 : Int32))) : ((rs (fun q => ow (5 * p.toInt.toNat + q)) pa.toInt.toNat).toInt ≤ mo.toInt ∧ ∃ z : Int32, z = p + 1 ∧ Kp (z, mo, be)) ∨ (mo.toInt < (rs (fun q => ow (5 * p.toInt.toNat + q)) pa.toInt.toNat).toInt ∧ ∃ z : Int32, z = p + 1 ∧ Kp (z, rs (fun q => ow (5 * p.toInt.toNat + q)) pa.toInt.toNat, p)) := by
  obtain ⟨s, hs, hq⟩ := loopP (n := pa) (P := fun k s => s = rs (fun q => ow (5 * p.toInt.toNat + q)) k) (Q := fun s => (s.toInt ≤ mo.toInt ∧ ∃ z : Int32, z = p + 1 ∧ Kp (z, mo, be)) ∨ (mo.toInt < s.toInt ∧ ∃ z : Int32, z = p + 1 ∧ Kp (z, s, p))) (by omega) (fun K i s hi hP hT => by
    have fi : ∀ {b2 b3 : Int32}, i.toInt < pa.toInt → b2 = p * 5 → b3 = b2 + i → Int32.toNatClampNeg b3 = 5 * p.toInt.toNat + i.toInt.toNat := fun {b2 b3} c e2 e3 => by
      clear hT
      have g2 : b2.toInt = p.toInt * 5 := by rw [e2]; exact mi_mulc (by decide) (by omega) (by omega)
      have g3 : b3.toInt = p.toInt * 5 + i.toInt := by rw [e3, mi_add (by omega) (by omega), g2]
      rw [mi_cl, g3]; omega
    dsimp only [T_k_loan_23] at hT
    rcases hT with ⟨c, ⟨d, z, ez, hk⟩ | ⟨d, z, ez, hk⟩⟩ | ⟨c, b2, e2, b3, e3, b4, e4, b5, e5, b6, e6, hk⟩
    · exact Or.inl ⟨c, Or.inl ⟨d, z, ez, hk⟩⟩
    · exact Or.inl ⟨c, Or.inr ⟨d, z, ez, hk⟩⟩
    · refine Or.inr ⟨c, b6, b5, e6, ?_, hk⟩
      show b5 = rs _ _ + _
      rw [e5, e4, fi c e2 e3, hP]) rfl h
  rw [hs] at hq
  exact hq
theorem loan_y {pa mo p be u : Int32} {ow : Nat → Int32} {Kp : (Int32 × Int32 × Int32) → Prop} (hpa : 0 ≤ pa.toInt ∧ pa.toInt ≤ 5) (hp : 0 ≤ p.toInt ∧ p.toInt < 5) {N : Nat} (h : fx (T_j_mostOwing_20 pa mo p be ow Kp u) N ((0 : Int32), (0 : Int32))) : ((rs (fun q => ow (5 * p.toInt.toNat + q)) pa.toInt.toNat).toInt ≤ mo.toInt ∧ ∃ z : Int32, z = p + 1 ∧ Kp (z, mo, be)) ∨ (mo.toInt < (rs (fun q => ow (5 * p.toInt.toNat + q)) pa.toInt.toNat).toInt ∧ ∃ z : Int32, z = p + 1 ∧ Kp (z, rs (fun q => ow (5 * p.toInt.toNat + q)) pa.toInt.toNat, p)) := by
  obtain ⟨s, hs, hq⟩ := loopP (n := pa) (P := fun k s => s = rs (fun q => ow (5 * p.toInt.toNat + q)) k) (Q := fun s => (s.toInt ≤ mo.toInt ∧ ∃ z : Int32, z = p + 1 ∧ Kp (z, mo, be)) ∨ (mo.toInt < s.toInt ∧ ∃ z : Int32, z = p + 1 ∧ Kp (z, s, p))) (by omega) (fun K i s hi hP hT => by
    have fi : ∀ {b2 b3 : Int32}, i.toInt < pa.toInt → b2 = (5 : Int32) * p → b3 = b2 + i → Int32.toNatClampNeg b3 = 5 * p.toInt.toNat + i.toInt.toNat := fun {b2 b3} c e2 e3 => by
      clear hT
      have g2 : b2.toInt = 5 * p.toInt := by rw [e2]; exact mi_cmul (by decide) (by omega) (by omega)
      have g3 : b3.toInt = 5 * p.toInt + i.toInt := by rw [e3, mi_add (by omega) (by omega), g2]
      rw [mi_cl, g3]; omega
    dsimp only [T_j_mostOwing_20] at hT
    rcases hT with ⟨c, ⟨d, b0, hg, z, ez, hk⟩ | ⟨d, b0, hg, z, ez, hk⟩⟩ | ⟨c, b2, e2, b3, e3, b4, e4, b5, e5, b6, e6, hk⟩
    · have hg := (gr2_sp hg).1 d
      rw [hg] at hk
      exact Or.inl ⟨c, Or.inl ⟨d, z, ez, hk⟩⟩
    · have hg := (gr2_sp hg).2 d
      rw [hg] at hk
      exact Or.inl ⟨c, Or.inr ⟨d, z, ez, hk⟩⟩
    · refine Or.inr ⟨c, b6, b5, e6, ?_, hk⟩
      show b5 = rs _ _ + _
      rw [e5, e4, fi c e2 e3, hP]) rfl h
  rw [hs] at hq
  exact hq
theorem loan_sim {pa u w : Int32} {ow owj : Nat → Int32} (hpa : 0 ≤ pa.toInt ∧ pa.toInt ≤ 5) (eO : ∀ j : Nat, j < 25 → owj j = ow j) (h : R_k_loan pa ow u) (hj : R_j_mostOwing pa owj w) : u = w := by
  have key : ∀ (N M : Nat) (p mo be : Int32), fx (T_k_loan_6 pa ow u) N (p, mo, be) → fx (T_j_mostOwing_6 pa owj w) M (p, mo, be) → (0 ≤ p.toInt ∧ p.toInt ≤ pa.toInt) → u = w := by
    intro N
    induction N with
    | zero => intro M p mo be h; exact h.elim
    | succ N ih =>
      intro M p mo be h hj hp
      cases M with
      | zero => exact hj.elim
      | succ M =>
        have f1 : p.toInt < pa.toInt → 0 ≤ p.toInt ∧ p.toInt < 5 := fun _ => by clear h hj; omega
        have f2 : ∀ z : Int32, p.toInt < pa.toInt → z = p + 1 → 0 ≤ z.toInt ∧ z.toInt ≤ pa.toInt := fun z _ ez => by
          have g : z.toInt = p.toInt + 1 := by rw [ez]; exact mi_addc (by decide) (by clear h hj; omega) (by clear h hj; omega)
          clear h hj
          omega
        have es : p.toInt < pa.toInt → rs (fun q => owj (5 * p.toInt.toNat + q)) pa.toInt.toNat = rs (fun q => ow (5 * p.toInt.toNat + q)) pa.toInt.toNat := fun _ => rs_c _ (fun q hq => eO _ (by clear h hj; omega))
        replace h := fx_o h
        replace hj := fx_o hj
        dsimp only [T_k_loan_6] at h
        dsimp only [T_j_mostOwing_6] at hj
        rcases h with ⟨c, e⟩ | ⟨c, h⟩
        · rcases hj with ⟨-, e2⟩ | ⟨c2, -⟩
          · rw [e, e2]
          · exact absurd c (Int.not_le.mpr c2)
        · rcases hj with ⟨c2, -⟩ | ⟨-, hj⟩
          · exact absurd c2 (Int.not_le.mpr c)
          · have h := loan_x hpa (f1 c) h
            have hj := loan_y hpa (f1 c) hj
            rw [es c] at hj
            rcases h with ⟨d, z, ez, hk⟩ | ⟨d, z, ez, hk⟩
            · rcases hj with ⟨-, z2, ez2, hk2⟩ | ⟨d2, -⟩
              · have ezz : z2 = z := by rw [ez2, ez]
                rw [ezz] at hk2
                exact ih M z _ _ hk hk2 (f2 z c ez)
              · exact absurd d (Int.not_le.mpr d2)
            · rcases hj with ⟨d2, -⟩ | ⟨-, z2, ez2, hk2⟩
              · exact absurd d2 (Int.not_le.mpr d)
              · have ezz : z2 = z := by rw [ez2, ez]
                rw [ezz] at hk2
                exact ih M z _ _ hk hk2 (f2 z c ez)
  exact key _ _ _ _ _ h hj ⟨by decide, hpa.1⟩
theorem idol_x {pa mo p be u : Int32} {ow : Nat → Int32} {Kp : (Int32 × Int32 × Int32) → Prop} (hpa : 0 ≤ pa.toInt ∧ pa.toInt ≤ 5) (hp : 0 ≤ p.toInt ∧ p.toInt < 6) {N : Nat} (h : fx (T_k_idol_23 pa mo p be ow Kp u) N ((0 : Int32), (0 : Int32))) : ((rs (fun q => ow (6 * q + p.toInt.toNat)) pa.toInt.toNat).toInt ≤ mo.toInt ∧ ∃ z : Int32, z = p + 1 ∧ Kp (z, mo, be)) ∨ (mo.toInt < (rs (fun q => ow (6 * q + p.toInt.toNat)) pa.toInt.toNat).toInt ∧ ∃ z : Int32, z = p + 1 ∧ Kp (z, rs (fun q => ow (6 * q + p.toInt.toNat)) pa.toInt.toNat, p)) := by
  obtain ⟨s, hs, hq⟩ := loopP (n := pa) (P := fun k s => s = rs (fun q => ow (6 * q + p.toInt.toNat)) k) (Q := fun s => (s.toInt ≤ mo.toInt ∧ ∃ z : Int32, z = p + 1 ∧ Kp (z, mo, be)) ∨ (mo.toInt < s.toInt ∧ ∃ z : Int32, z = p + 1 ∧ Kp (z, s, p))) (by omega) (fun K i s hi hP hT => by
    have fi : ∀ {b2 b3 : Int32}, i.toInt < pa.toInt → b2 = i * 6 → b3 = b2 + p → Int32.toNatClampNeg b3 = 6 * i.toInt.toNat + p.toInt.toNat := fun {b2 b3} c e2 e3 => by
      clear hT
      have g2 : b2.toInt = i.toInt * 6 := by rw [e2]; exact mi_mulc (by decide) (by omega) (by omega)
      have g3 : b3.toInt = i.toInt * 6 + p.toInt := by rw [e3, mi_add (by omega) (by omega), g2]
      rw [mi_cl, g3]; omega
    dsimp only [T_k_idol_23] at hT
    rcases hT with ⟨c, ⟨d, z, ez, hk⟩ | ⟨d, z, ez, hk⟩⟩ | ⟨c, b2, e2, b3, e3, b4, e4, b5, e5, b6, e6, hk⟩
    · exact Or.inl ⟨c, Or.inl ⟨d, z, ez, hk⟩⟩
    · exact Or.inl ⟨c, Or.inr ⟨d, z, ez, hk⟩⟩
    · refine Or.inr ⟨c, b6, b5, e6, ?_, hk⟩
      show b5 = rs _ _ + _
      rw [e5, e4, fi c e2 e3, hP]) rfl h
  rw [hs] at hq
  exact hq
theorem idol_y {pa mo p be u : Int32} {ow : Nat → Int32} {Kp : (Int32 × Int32 × Int32) → Prop} (hpa : 0 ≤ pa.toInt ∧ pa.toInt ≤ 5) (hp : 0 ≤ p.toInt ∧ p.toInt < 6) {N : Nat} (h : fx (T_j_idol_20 pa mo p be ow Kp u) N ((0 : Int32), (0 : Int32))) : ((rs (fun q => ow (6 * q + p.toInt.toNat)) pa.toInt.toNat).toInt ≤ mo.toInt ∧ ∃ z : Int32, z = p + 1 ∧ Kp (z, mo, be)) ∨ (mo.toInt < (rs (fun q => ow (6 * q + p.toInt.toNat)) pa.toInt.toNat).toInt ∧ ∃ z : Int32, z = p + 1 ∧ Kp (z, rs (fun q => ow (6 * q + p.toInt.toNat)) pa.toInt.toNat, p)) := by
  obtain ⟨s, hs, hq⟩ := loopP (n := pa) (P := fun k s => s = rs (fun q => ow (6 * q + p.toInt.toNat)) k) (Q := fun s => (s.toInt ≤ mo.toInt ∧ ∃ z : Int32, z = p + 1 ∧ Kp (z, mo, be)) ∨ (mo.toInt < s.toInt ∧ ∃ z : Int32, z = p + 1 ∧ Kp (z, s, p))) (by omega) (fun K i s hi hP hT => by
    have fi : ∀ {b2 b3 : Int32}, i.toInt < pa.toInt → b2 = (6 : Int32) * i → b3 = b2 + p → Int32.toNatClampNeg b3 = 6 * i.toInt.toNat + p.toInt.toNat := fun {b2 b3} c e2 e3 => by
      clear hT
      have g2 : b2.toInt = 6 * i.toInt := by rw [e2]; exact mi_cmul (by decide) (by omega) (by omega)
      have g3 : b3.toInt = 6 * i.toInt + p.toInt := by rw [e3, mi_add (by omega) (by omega), g2]
      rw [mi_cl, g3]; omega
    dsimp only [T_j_idol_20] at hT
    rcases hT with ⟨c, ⟨d, b0, hg, z, ez, hk⟩ | ⟨d, b0, hg, z, ez, hk⟩⟩ | ⟨c, b2, e2, b3, e3, b4, e4, b5, e5, b6, e6, hk⟩
    · have hg := (gr2_sp hg).1 d
      rw [hg] at hk
      exact Or.inl ⟨c, Or.inl ⟨d, z, ez, hk⟩⟩
    · have hg := (gr2_sp hg).2 d
      rw [hg] at hk
      exact Or.inl ⟨c, Or.inr ⟨d, z, ez, hk⟩⟩
    · refine Or.inr ⟨c, b6, b5, e6, ?_, hk⟩
      show b5 = rs _ _ + _
      rw [e5, e4, fi c e2 e3, hP]) rfl h
  rw [hs] at hq
  exact hq
theorem idol_sim {pa ac u w : Int32} {ow owj : Nat → Int32} (hpa : 0 ≤ pa.toInt ∧ pa.toInt ≤ 5) (hac : 0 ≤ ac.toInt ∧ ac.toInt ≤ 6) (eO : ∀ j : Nat, j < 30 → owj j = ow j) (h : R_k_idol ac pa ow u) (hj : R_j_idol ac pa owj w) : u = w := by
  have key : ∀ (N M : Nat) (p mo be : Int32), fx (T_k_idol_6 ac pa ow u) N (p, mo, be) → fx (T_j_idol_6 ac pa owj w) M (p, mo, be) → (0 ≤ p.toInt ∧ p.toInt ≤ ac.toInt) → u = w := by
    intro N
    induction N with
    | zero => intro M p mo be h; exact h.elim
    | succ N ih =>
      intro M p mo be h hj hp
      cases M with
      | zero => exact hj.elim
      | succ M =>
        have f1 : p.toInt < ac.toInt → 0 ≤ p.toInt ∧ p.toInt < 6 := fun _ => by clear h hj; omega
        have f2 : ∀ z : Int32, p.toInt < ac.toInt → z = p + 1 → 0 ≤ z.toInt ∧ z.toInt ≤ ac.toInt := fun z _ ez => by
          have g : z.toInt = p.toInt + 1 := by rw [ez]; exact mi_addc (by decide) (by clear h hj; omega) (by clear h hj; omega)
          clear h hj
          omega
        have es : p.toInt < ac.toInt → rs (fun q => owj (6 * q + p.toInt.toNat)) pa.toInt.toNat = rs (fun q => ow (6 * q + p.toInt.toNat)) pa.toInt.toNat := fun _ => rs_c _ (fun q hq => eO _ (by clear h hj; omega))
        replace h := fx_o h
        replace hj := fx_o hj
        dsimp only [T_k_idol_6] at h
        dsimp only [T_j_idol_6] at hj
        rcases h with ⟨c, e⟩ | ⟨c, h⟩
        · rcases hj with ⟨-, e2⟩ | ⟨c2, -⟩
          · rw [e, e2]
          · exact absurd c (Int.not_le.mpr c2)
        · rcases hj with ⟨c2, -⟩ | ⟨-, hj⟩
          · exact absurd c2 (Int.not_le.mpr c)
          · have h := idol_x hpa (f1 c) h
            have hj := idol_y hpa (f1 c) hj
            rw [es c] at hj
            rcases h with ⟨d, z, ez, hk⟩ | ⟨d, z, ez, hk⟩
            · rcases hj with ⟨-, z2, ez2, hk2⟩ | ⟨d2, -⟩
              · have ezz : z2 = z := by rw [ez2, ez]
                rw [ezz] at hk2
                exact ih M z _ _ hk hk2 (f2 z c ez)
              · exact absurd d (Int.not_le.mpr d2)
            · rcases hj with ⟨d2, -⟩ | ⟨-, z2, ez2, hk2⟩
              · exact absurd d2 (Int.not_le.mpr d)
              · have ezz : z2 = z := by rw [ez2, ez]
                rw [ezz] at hk2
                exact ih M z _ _ hk hk2 (f2 z c ez)
  exact key _ _ _ _ _ h hj ⟨by decide, hac.1⟩
/-- what is left at the chest behind those who stand ahead -/
def er (hu : Nat → Int32) (en : Int32) (sv st : Nat → Int32) (c : Int32) : Nat → Int32
  | 0 => c
  | k + 1 => if (st k).toInt = -1 ∧ (prc hu en 0 k).toInt ≤ (sv k).toInt ∧ (prc hu en 0 k).toInt ≤ (er hu en sv st c k).toInt then er hu en sv st c k - prc hu en 0 k else er hu en sv st c k
theorem er_c {hu : Nat → Int32} {en : Int32} {sv sv2 st : Nat → Int32} {c : Int32} : ∀ n : Nat, (∀ a : Nat, a < n → sv2 a = sv a) → er hu en sv2 st c n = er hu en sv st c n := by
  intro n
  induction n with
  | zero => intro _; rfl
  | succ n ih =>
    intro h
    show (if _ then _ else _) = (if _ then _ else _)
    rw [ih (fun a ha => h a (by omega)), h n (by omega)]
def EtO (hu : Nat → Int32) (en : Int32) (sv st : Nat → Int32) (c h : Int32) (a : Nat) : Prop := (prc hu en 0 a).toInt ≤ (sv a + h).toInt ∧ (prc hu en 0 a).toInt ≤ (er hu en sv st (c + h) a).toInt
theorem ew_sp {c h a en ac u : Int32} {sv hu st : Nat → Int32} (ha : 0 ≤ a.toInt ∧ a.toInt < ac.toInt) (hac : ac.toInt ≤ 6) (hh : R_k_eatsWith c h a sv hu en ac st u) : (u = 1 ∧ EtO hu en sv st c h a.toInt.toNat) ∨ (u = 0 ∧ ¬ EtO hu en sv st c h a.toInt.toNat) := by
  obtain ⟨z1, e1, hh⟩ := hh
  obtain ⟨s, hs, hq⟩ := loopP (n := a) (P := fun k s => s = er hu en sv st (c + h) k) (Q := fun s => (u = 1 ∧ (prc hu en 0 a.toInt.toNat).toInt ≤ (sv a.toInt.toNat + h).toInt ∧ (prc hu en 0 a.toInt.toNat).toInt ≤ s.toInt) ∨ (u = 0 ∧ ¬ ((prc hu en 0 a.toInt.toNat).toInt ≤ (sv a.toInt.toNat + h).toInt ∧ (prc hu en 0 a.toInt.toNat).toInt ≤ s.toInt))) (by clear hh; omega) (fun K i s hi hP hT => by
    dsimp only [T_k_eatsWith_10] at hT
    rcases hT with ⟨c1, b0, f0, b1, f1, b2, hb2, hT⟩ | ⟨c1, b4, hl, hT⟩
    · have hb2 := pr_sp hb2
      rw [mi_cl] at f0
      rw [f0] at f1
      rw [f1, hb2] at hT
      refine Or.inl ⟨c1, ?_⟩
      rcases hT with ⟨d, e⟩ | ⟨d, b3, hb3, hT⟩
      · exact Or.inr ⟨e, fun q => absurd q.1 (Int.not_le.mpr d)⟩
      · have hb3 := pr_sp hb3
        rw [hb3] at hT
        rcases hT with ⟨d2, e⟩ | ⟨d2, e⟩
        · exact Or.inr ⟨e, fun q => absurd q.2 (Int.not_le.mpr d2)⟩
        · exact Or.inl ⟨e, d, d2⟩
    · have hl := lv_sp hl
      refine Or.inr ⟨c1, ?_⟩
      rcases hT with ⟨q, b5, f5, b6, hb6, hT⟩ | ⟨q, z, ez, hk⟩
      · have hb6 := pr_sp hb6
        rw [mi_cl] at f5
        rw [f5, hb6] at hT
        have hv : (st i.toInt.toNat).toInt = -1 := by
          rcases hl with ⟨hl, -⟩ | ⟨-, q0⟩
          · exact hl.2
          · rw [q] at q0; exact absurd q0 (by decide)
        rcases hT with ⟨d, z, ez, hk⟩ | ⟨d, b8, hb8, hT⟩
        · refine ⟨z, s, ez, ?_, hk⟩
          show s = if _ then _ else _
          rw [if_neg (fun q => absurd q.2.1 (Int.not_le.mpr d)), hP]
        · have hb8 := pr_sp hb8
          rw [hb8] at hT
          rcases hT with ⟨d2, z, ez, hk⟩ | ⟨d2, b10, hb10, b11, f11, z, ez, hk⟩
          · refine ⟨z, s, ez, ?_, hk⟩
            show s = if _ then _ else _
            rw [hP] at d2
            rw [if_neg (fun q => absurd q.2.2 (Int.not_le.mpr d2)), hP]
          · have hb10 := pr_sp hb10
            refine ⟨z, b11, ez, ?_, hk⟩
            show b11 = if _ then _ else _
            rw [hP] at d2
            rw [if_pos ⟨hv, d, d2⟩, f11, hb10, hP]
      · refine ⟨z, s, ez, ?_, hk⟩
        show s = if _ then _ else _
        have hv : ¬ (st i.toInt.toNat).toInt = -1 := fun y => by
          rcases hl with ⟨-, q1⟩ | ⟨hl, -⟩
          · rw [q] at q1; exact absurd q1 (by decide)
          · exact hl ⟨⟨hi.1, by omega⟩, y⟩
        rw [if_neg (fun q => hv q.1), hP]) e1 hh
  rw [hs] at hq
  exact hq
theorem eb_sp {c h a en ac X L u : Int32} {D sv hu st : Nat → Int32} (hX : 0 ≤ X.toInt ∧ X.toInt ≤ 1) (hH : ∀ i : Nat, (i : Int) < ac.toInt → D (36 * X.toInt.toNat + (16 + 2 * i)) = hu i) (hL : Lvs ac L st) (ha : 0 ≤ a.toInt ∧ a.toInt < ac.toInt) (hac : 0 ≤ ac.toInt ∧ ac.toInt ≤ 6) (hh : R_j_eatsBy c h a sv X D en L u) : (u = 1 ∧ EtO hu en sv st c h a.toInt.toNat) ∨ (u = 0 ∧ ¬ EtO hu en sv st c h a.toInt.toNat) := by
  obtain ⟨z1, e1, hh⟩ := hh
  have s0 : ∀ x : Int32, x - 0 = x := fun x => Int32.sub_zero x
  obtain ⟨s, hs, hq⟩ := loopP (n := a) (P := fun k s => s = er hu en sv st (c + h) k) (Q := fun s => (u = 1 ∧ (prc hu en 0 a.toInt.toNat).toInt ≤ (sv a.toInt.toNat + h).toInt ∧ (prc hu en 0 a.toInt.toNat).toInt ≤ s.toInt) ∨ (u = 0 ∧ ¬ ((prc hu en 0 a.toInt.toNat).toInt ≤ (sv a.toInt.toNat + h).toInt ∧ (prc hu en 0 a.toInt.toNat).toInt ≤ s.toInt))) (by clear hh; omega) (fun K i s hi hP hT => by
    dsimp only [T_j_eatsBy_10, R_j_eatsBy_s0] at hT
    rcases hT with ⟨c1, b0, f0, b1, f1, b2, hb2, hT⟩ | ⟨c1, b4, hl, hT⟩
    · have hb2 := ea_sp hX hac.2 hH ha hb2
      rw [mi_cl] at f0
      rw [f0] at f1
      rw [f1, hb2] at hT
      refine Or.inl ⟨c1, ?_⟩
      rcases hT with ⟨d, e⟩ | ⟨d, b3, hb3, hT⟩
      · exact Or.inr ⟨e, fun q => absurd q.1 (Int.not_le.mpr d)⟩
      · have hb3 := ea_sp hX hac.2 hH ha hb3
        rw [hb3] at hT
        rcases hT with ⟨d2, e⟩ | ⟨d2, e⟩
        · exact Or.inr ⟨e, fun q => absurd q.2 (Int.not_le.mpr d2)⟩
        · exact Or.inl ⟨e, d, d2⟩
    · have hi2 : 0 ≤ i.toInt ∧ i.toInt < ac.toInt := by clear hl hT; omega
      have hl := jlv hac hL hi2 hl
      refine Or.inr ⟨c1, ?_⟩
      rcases hT with ⟨q, b1, f1, z, ez, hk⟩ | ⟨q, b5, f5, b6, hb6, hT⟩
      · rw [s0] at f1
        refine ⟨z, b1, ez, ?_, hk⟩
        show b1 = if _ then _ else _
        have hv : ¬ (st i.toInt.toNat).toInt = -1 := fun y => by
          rcases hl with ⟨-, q1⟩ | ⟨hl, -⟩
          · rw [q1] at q; exact absurd q (by decide)
          · exact hl y
        rw [if_neg (fun q => hv q.1), f1, hP]
      · have hb6 := ea_sp hX hac.2 hH hi2 hb6
        rw [mi_cl] at f5
        rw [f5, hb6] at hT
        have hv : (st i.toInt.toNat).toInt = -1 := by
          rcases hl with ⟨hl, -⟩ | ⟨-, q0⟩
          · exact hl
          · rw [q0] at q; exact absurd (by decide) q
        rcases hT with ⟨d, b7, f7, z, ez, hk⟩ | ⟨d, b8, hb8, hT⟩
        · rw [s0] at f7
          refine ⟨z, b7, ez, ?_, hk⟩
          show b7 = if _ then _ else _
          rw [if_neg (fun q => absurd q.2.1 (Int.not_le.mpr d)), f7, hP]
        · have hb8 := ea_sp hX hac.2 hH hi2 hb8
          rw [hb8] at hT
          rcases hT with ⟨d2, b9, f9, z, ez, hk⟩ | ⟨d2, b10, hb10, b11, f11, z, ez, hk⟩
          · rw [s0] at f9
            refine ⟨z, b9, ez, ?_, hk⟩
            show b9 = if _ then _ else _
            rw [hP] at d2
            rw [if_neg (fun q => absurd q.2.2 (Int.not_le.mpr d2)), f9, hP]
          · have hb10 := ea_sp hX hac.2 hH hi2 hb10
            refine ⟨z, b11, ez, ?_, hk⟩
            show b11 = if _ then _ else _
            rw [hP] at d2
            rw [if_pos ⟨hv, d, d2⟩, f11, hb10, hP]) e1 hh
  rw [hs] at hq
  exact hq
theorem EtO_c {hu : Nat → Int32} {en : Int32} {sv sv2 st : Nat → Int32} {c h : Int32} {a : Nat} (e : ∀ b : Nat, b ≤ a → sv2 b = sv b) : EtO hu en sv2 st c h a ↔ EtO hu en sv st c h a := by
  unfold EtO
  rw [er_c a (fun b hb => e b (by omega)), e a (Nat.le_refl a)]
theorem tip_sim {a ac c en X L u w : Int32} {D sv svj hu st : Nat → Int32} (hX : 0 ≤ X.toInt ∧ X.toInt ≤ 1) (hH : ∀ i : Nat, (i : Int) < ac.toInt → D (36 * X.toInt.toNat + (16 + 2 * i)) = hu i) (hL : Lvs ac L st) (ha : 0 ≤ a.toInt ∧ a.toInt < ac.toInt) (hac : 0 ≤ ac.toInt ∧ ac.toInt ≤ 6) (eS : ∀ b : Nat, (b : Int) < ac.toInt → svj b = sv b) (h : R_k_tip a ac st c sv hu en u) (hj : R_j_tip L a c svj X D en w) : u = w := by
  have eE : ∀ hv : Int32, (EtO hu en svj st c hv a.toInt.toNat ↔ EtO hu en sv st c hv a.toInt.toNat) := fun hv => EtO_c (fun b hb => eS b (by clear h hj; omega))
  have key : (st a.toInt.toNat).toInt = -1 → ∀ (N M : Nat) (l : Int32), fx (T_k_tip_12 c a sv hu en ac st u) N l → fx (T_j_tip_2 L a c svj X D en w) M l → (0 ≤ l.toInt ∧ l.toInt ≤ 100) → u = w := by
    intro hv N
    induction N with
    | zero => intro M l h; exact h.elim
    | succ N ih =>
      intro M l h hj hl
      cases M with
      | zero => exact hj.elim
      | succ M =>
        have f2 : ∀ z : Int32, l.toInt ≤ 99 → z = l + 1 → 0 ≤ z.toInt ∧ z.toInt ≤ 100 := fun z _ ez => by
          have g : z.toInt = l.toInt + 1 := by rw [ez]; exact mi_addc (by decide) (by clear h hj; omega) (by clear h hj; omega)
          clear h hj
          omega
        replace h := fx_o h
        replace hj := fx_o hj
        dsimp only [T_k_tip_12] at h
        dsimp only [T_j_tip_2] at hj
        rcases h with ⟨d, e⟩ | ⟨d, b0, e0, b1, hb1, h⟩
        · rcases hj with ⟨-, e2⟩ | ⟨d2, -⟩
          · rw [e, e2]
          · exact absurd d2 (Int.not_le.mpr d)
        · rcases hj with ⟨d2, -⟩ | ⟨-, q, hq, hj⟩
          · exact absurd d (Int.not_le.mpr d2)
          · have hb1 := ew_sp ha hac.2 hb1
            have hq := jlv hac hL ha hq
            rcases hj with ⟨q0, -⟩ | ⟨-, b2, e2, b3, hb3, hj⟩
            · rcases hq with ⟨-, q1⟩ | ⟨nv, -⟩
              · rw [q1] at q0; exact absurd q0 (by decide)
              · exact absurd hv nv
            · have hb3 := eb_sp hX hH hL ha hac hb3
              have e20 : b2 = b0 := by rw [e2, e0]
              rw [e20, eE] at hb3
              rcases h with ⟨q0, z, ez, hk⟩ | ⟨q0, e⟩
              · rcases hj with ⟨-, z2, ez2, hk2⟩ | ⟨q1, -⟩
                · have ezz : z2 = z := by rw [ez2, ez]
                  rw [ezz] at hk2
                  exact ih M z hk hk2 (f2 z d ez)
                · rcases hb1 with ⟨y, -⟩ | ⟨-, y⟩
                  · rw [y] at q0; exact absurd q0 (by decide)
                  · rcases hb3 with ⟨-, y2⟩ | ⟨y2, -⟩
                    · exact absurd y2 y
                    · rw [y2] at q1; exact absurd (by decide) q1
              · rcases hj with ⟨q1, -⟩ | ⟨-, e3⟩
                · rcases hb1 with ⟨-, y⟩ | ⟨y, -⟩
                  · rcases hb3 with ⟨y2, -⟩ | ⟨-, y2⟩
                    · rw [y2] at q1; exact absurd q1 (by decide)
                    · exact absurd y y2
                  · rw [y] at q0; exact absurd (by decide) q0
                · rw [e, e3]
  obtain ⟨q, hq, h⟩ := h
  have hq := lv_sp hq
  rcases h with ⟨q1, h⟩ | ⟨q0, e⟩
  · rcases hq with ⟨hv, -⟩ | ⟨-, q0⟩
    · exact key hv.2 _ _ _ h hj ⟨by decide, by decide⟩
    · rw [q1] at q0; exact absurd q0 (by decide)
  · rcases hq with ⟨-, q1⟩ | ⟨nv, -⟩
    · rw [q0] at q1; exact absurd q1 (by decide)
    · have hj : fx (T_j_tip_2 L a c svj X D en w) (101 + 1) (0 : Int32) := hj
      replace hj := fx_o hj
      dsimp only [T_j_tip_2] at hj
      rcases hj with ⟨d2, -⟩ | ⟨-, b, hb, hj⟩
      · exact absurd d2 (by decide)
      · have hb := jlv hac hL ha hb
        rcases hb with ⟨v, -⟩ | ⟨-, b0⟩
        · exact absurd ⟨ha, v⟩ nv
        · rcases hj with ⟨-, e2⟩ | ⟨y, -⟩
          · rw [e, e2]
          · rw [b0] at y; exact absurd (by decide) y
theorem dear_sim {a ac en X L u w : Int32} {D sv svj hu st : Nat → Int32} (hX : 0 ≤ X.toInt ∧ X.toInt ≤ 1) (hH : ∀ i : Nat, (i : Int) < ac.toInt → D (36 * X.toInt.toNat + (16 + 2 * i)) = hu i) (hL : Lvs ac L st) (ha : 0 ≤ a.toInt ∧ a.toInt < ac.toInt) (hac : 0 ≤ ac.toInt ∧ ac.toInt ≤ 6) (eS : ∀ b : Nat, (b : Int) < ac.toInt → svj b = sv b) (h : R_k_dear a ac st hu en sv u) (hj : R_j_dear L a svj X D en w) : u = w := by
  have eS2 : svj a.toInt.toNat = sv a.toInt.toNat := eS _ (by clear h hj; omega)
  have key : (st a.toInt.toNat).toInt = -1 → ∀ (N M : Nat) (l : Int32), fx (T_k_dear_12 hu a en sv u) N l → fx (T_j_dear_2 L a svj X D en w) M l → (0 ≤ l.toInt ∧ l.toInt ≤ 99) → u = w := by
    intro hv N
    induction N with
    | zero => intro M l h; exact h.elim
    | succ N ih =>
      intro M l h hj hl
      cases M with
      | zero => exact hj.elim
      | succ M =>
        have f1 : 99 ≤ l.toInt → l = 99 := fun _ => mi_eq (by rw [show (99 : Int32).toInt = 99 from by decide]; clear h hj; omega)
        have f2 : ∀ z : Int32, l.toInt < 99 → z = l + 1 → 0 ≤ z.toInt ∧ z.toInt ≤ 99 := fun z _ ez => by
          have g : z.toInt = l.toInt + 1 := by rw [ez]; exact mi_addc (by decide) (by clear h hj; omega) (by clear h hj; omega)
          clear h hj
          omega
        replace h := fx_o h
        replace hj := fx_o hj
        dsimp only [T_k_dear_12] at h
        dsimp only [T_j_dear_2] at hj
        rcases h with ⟨d, e⟩ | ⟨d, b0, hb0, b1, e1, h⟩
        · rcases hj with ⟨-, e2⟩ | ⟨d2, -⟩
          · rw [e, e2, f1 d]
          · exact absurd d (Int.not_le.mpr d2)
        · rcases hj with ⟨d2, -⟩ | ⟨-, q, hq, hj⟩
          · exact absurd d2 (Int.not_le.mpr d)
          · have hb0 := pb_sp hb0
            have hq := jlv hac hL ha hq
            rcases hj with ⟨q0, -⟩ | ⟨-, b2, e2, b3, hb3, hj⟩
            · rcases hq with ⟨-, q1⟩ | ⟨nv, -⟩
              · rw [q1] at q0; exact absurd q0 (by decide)
              · exact absurd hv nv
            · have hb3 := ea_sp hX hac.2 hH ha hb3
              rw [mi_cl] at e1 e2
              rw [eS2] at e2
              rw [hb0, e1] at h
              rw [hb3, e2] at hj
              rcases h with ⟨y, z, ez, hk⟩ | ⟨y, e⟩
              · rcases hj with ⟨y2, -⟩ | ⟨-, z2, ez2, hk2⟩
                · exact absurd y (Int.not_le.mpr y2)
                · have ezz : z2 = z := by rw [ez2, ez]
                  rw [ezz] at hk2
                  exact ih M z hk hk2 (f2 z d ez)
              · rcases hj with ⟨-, e3⟩ | ⟨y2, -⟩
                · rw [e, e3]
                · exact absurd y2 (Int.not_le.mpr y)
  obtain ⟨q, hq, h⟩ := h
  have hq := lv_sp hq
  rcases h with ⟨q1, h⟩ | ⟨q0, e⟩
  · rcases hq with ⟨hv, -⟩ | ⟨-, q0⟩
    · exact key hv.2 _ _ _ h hj ⟨by decide, by decide⟩
    · rw [q1] at q0; exact absurd q0 (by decide)
  · rcases hq with ⟨-, q1⟩ | ⟨nv, -⟩
    · rw [q0] at q1; exact absurd q1 (by decide)
    · have hj : fx (T_j_dear_2 L a svj X D en w) (100 + 1) (0 : Int32) := hj
      replace hj := fx_o hj
      dsimp only [T_j_dear_2] at hj
      rcases hj with ⟨d2, -⟩ | ⟨-, b, hb, hj⟩
      · exact absurd d2 (by decide)
      · have hb := jlv hac hL ha hb
        rcases hb with ⟨v, -⟩ | ⟨-, b0⟩
        · exact absurd ⟨ha, v⟩ nv
        · rcases hj with ⟨-, e2⟩ | ⟨y, -⟩
          · rw [e, e2]
          · rw [b0] at y; exact absurd (by decide) y
/-- look -/
theorem look_core {a pa ac ra d : Int32} {D cl ha hu : Nat → Int32} {u1 u2 u3 u4 u5 u6 : Int32} {u7 u8 u9 u10 u11 u12 : Nat → Int32} {w1 w2 w3 w4 w5 w6 w7 w8 w9 w10 w11 : Int32} {w12 w13 w14 w15 w16 w17 : Nat → Int32} {v1 v2 v3 v4 v5 v6 : Int32} {v7 v8 v9 v10 v11 v12 : Nat → Int32} {c1 c2 c3 c4 c5 c6 c7 c8 c9 c10 c11 : Int32} {c12 c13 c14 c15 c16 c17 : Nat → Int32} {f q r r2 : Int32} {P1 P2 : Prop} (hE : StE a pa ac ra d D cl ha hu u1 u2 u3 u4 u5 u6 u7 u8 u9 u10 u11 u12 w1 w2 w3 w4 w5 w6 w7 w8 w9 w10 w11 w12 w13 w14 w15 w16 w17) (hx : ((f.toInt ≠ 0) ∧ ((R_x_look_s1 f u1 u2 u3 u4 u5 u6 u7 u8 u9 u10 u11 u12 ac hu r v10 v11 v12 v1 v2 v3 v4 v5 v6 v7 v8 v9) ∨ ((f.toInt = 1) ∧ (∃ (b0_ : Int32), (R_k_idol ac pa u9 b0_) ∧ (r = b0_ ∧ P1))))) ∨ ((f.toInt = 0) ∧ (∃ (b1_ : Int32), (R_k_loan pa u8 b1_) ∧ (r = b1_ ∧ P2)))) (hy : R_y_look_s1 q w3 f w8 w5 w15 w1 D w6 w2 w4 w7 w9 w10 w11 w12 w13 w14 w16 w17 r2 c10 c11 c12 c13 c14 c15 c16 c17 c1 c2 c3 c4 c5 c6 c7 c8 c9) : r = r2 := by
  obtain ⟨hd, H, ⟨t1, t2, t3, t4⟩, ⟨s1, s2, s3, s4, s5, s6⟩, ⟨eL, eO, eG, eS, eSo, eSt⟩, hL, hB⟩ := hE
  obtain ⟨hX, hac, hpa, hC, hHa, hH, gC, gHa, gH, gR⟩ := H
  obtain ⟨-, b0, -, b1, hb1, hy⟩ := hy
  rw [t1, t3, s1, s2] at hy
  rw [t3] at hb1
  have hb1 := in_sp hb1
  have fr := mi_rng f
  have sub : ∀ {z : Int32} {c : Int32} {C : Int}, c.toInt = C → 0 ≤ C → C ≤ 30 → C ≤ f.toInt → z = f - c → z.toInt = f.toInt - C := fun {z c C} ec h0 h1 h2 ez => by
    rw [ez]; exact mi_subc ec (by clear hx hy; omega) (by clear hx hy; omega)
  have tenIn : b1 = 1 → 10 ≤ f.toInt ∧ f.toInt < ac.toInt + 10 := fun e => by
    rcases hb1 with ⟨-, g⟩ | ⟨g, -⟩
    · clear hx hy; omega
    · rw [e] at g; exact absurd g (by decide)
  have tenOut : b1 = 0 → f.toInt < 10 ∨ ac.toInt + 10 ≤ f.toInt := fun e => by
    rcases hb1 with ⟨g, -⟩ | ⟨-, g⟩
    · rw [e] at g; exact absurd g (by decide)
    · clear hx hy; omega
  rcases hx with ⟨f0, hx⟩ | ⟨f0, v, hv, e, -⟩
  · rcases hx with hx | ⟨f1, v, hv, e, -⟩
    · obtain ⟨f1, hx⟩ := hx
      rcases hx with ⟨c, e, -⟩ | ⟨c, z, ez, q1, hq1, hx⟩
      · -- below ten
        rcases hy with ⟨b, -⟩ | ⟨-, hy⟩
        · exact absurd (tenIn b).1 (Int.not_le.mpr c)
        · rcases hy with hy | ⟨g, -⟩
          · obtain ⟨-, hy⟩ := hy
            rcases hy with ⟨-, y0, -, y1, hy1, hy⟩ | ⟨g, -⟩
            · have hy1 := in_sp hy1
              rcases hy with ⟨q, -⟩ | ⟨-, e2, -⟩
              · rcases hy1 with ⟨-, g⟩ | ⟨g, -⟩
                · exact absurd g.1 (by omega)
                · rw [q] at g; exact absurd g (by decide)
              · rw [e, e2]
            · exact absurd g f1
          · exact absurd g f0
      · have gz := sub (by decide) (by decide) (by decide) c ez
        have hq1 := ka_sp hq1
        rw [gz] at hq1
        rcases hx with ⟨q, z2, ez2, v, hv, e, -⟩ | hx
        · -- a tip
          have hin : 0 ≤ f.toInt - 10 ∧ f.toInt - 10 < ac.toInt := by
            rcases hq1 with ⟨g, -⟩ | ⟨-, g⟩
            · exact g
            · rw [q] at g; exact absurd g (by decide)
          rcases hy with ⟨-, z3, ez3, v2, hv2, e2, -⟩ | ⟨b, -⟩
          · have ezz : z3 = z2 := by rw [ez3, ez2]
            rw [ezz] at hv2
            have gz2 := sub (by decide) (by decide) (by decide) c ez2
            rw [e, e2]
            exact tip_sim hX hH hL (by rw [gz2]; exact hin) hac eS hv hv2
          · exact absurd (tenOut b) (by clear hv; omega)
        · obtain ⟨q, hx⟩ := hx
          have hout : ¬ (0 ≤ f.toInt - 10 ∧ f.toInt - 10 < ac.toInt) := by
            rcases hq1 with ⟨-, g⟩ | ⟨g, -⟩
            · rw [q] at g; exact absurd g (by decide)
            · exact g
          rcases hy with ⟨b, -⟩ | ⟨-, hy⟩
          · exact absurd (tenIn b) (by clear hx; omega)
          · rcases hy with hy | ⟨g, -⟩
            · obtain ⟨-, hy⟩ := hy
              rcases hy with ⟨-, y0, -, y1, hy1, hy⟩ | ⟨g, -⟩
              · have hy1 := in_sp hy1
                rcases hx with ⟨c2, e, -⟩ | ⟨c2, z5, ez5, q5, hq5, hx⟩
                · rcases hy with ⟨q6, -⟩ | ⟨-, e2, -⟩
                  · rcases hy1 with ⟨-, g⟩ | ⟨g, -⟩
                    · exact absurd g.1 (by omega)
                    · rw [q6] at g; exact absurd g (by decide)
                  · rw [e, e2]
                · have gz5 := sub (by decide) (by decide) (by decide) c2 ez5
                  have hq5 := ka_sp hq5
                  rw [gz5] at hq5
                  rcases hx with ⟨q6, z6, ez6, v, hv, e, -⟩ | ⟨q6, e, -⟩
                  · have hin : 0 ≤ f.toInt - 20 ∧ f.toInt - 20 < ac.toInt := by
                      rcases hq5 with ⟨g, -⟩ | ⟨-, g⟩
                      · exact g
                      · rw [q6] at g; exact absurd g (by decide)
                    have gz6 := sub (by decide) (by decide) (by decide) c2 ez6
                    rcases hy with ⟨-, z7, ez7, v2, hv2, e2, -⟩ | ⟨q7, -⟩
                    · have ezz : z7 = z6 := by rw [ez7, ez6]
                      rw [ezz] at hv2
                      rw [e, e2]
                      exact dear_sim hX hH hL (by rw [gz6]; exact hin) hac eS hv hv2
                    · rcases hy1 with ⟨g, -⟩ | ⟨-, g⟩
                      · rw [q7] at g; exact absurd g (by decide)
                      · exact absurd g (by clear hv; omega)
                  · have hout2 : ¬ (0 ≤ f.toInt - 20 ∧ f.toInt - 20 < ac.toInt) := by
                      rcases hq5 with ⟨-, g⟩ | ⟨g, -⟩
                      · rw [q6] at g; exact absurd g (by decide)
                      · exact g
                    rcases hy with ⟨q7, -⟩ | ⟨-, e2, -⟩
                    · rcases hy1 with ⟨-, g⟩ | ⟨g, -⟩
                      · exact absurd g (by omega)
                      · rw [q7] at g; exact absurd g (by decide)
                    · rw [e, e2]
              · exact absurd g f1
            · exact absurd g f0
    · rcases hy with ⟨b, -⟩ | ⟨-, hy⟩
      · exact absurd (tenIn b).1 (by rw [f1]; decide)
      · rcases hy with hy | ⟨g, -⟩
        · obtain ⟨-, hy⟩ := hy
          rcases hy with ⟨g, -⟩ | ⟨-, v2, hv2, e2, -⟩
          · exact absurd f1 g
          · rw [t2] at hv2
            rw [e, e2]
            exact idol_sim hpa hac eG hv hv2
        · exact absurd g f0
  · rcases hy with ⟨b, -⟩ | ⟨-, hy⟩
    · exact absurd (tenIn b).1 (by rw [f0]; decide)
    · rcases hy with hy | ⟨-, v2, hv2, e2, -⟩
      · exact absurd f0 hy.1
      · rw [t2] at hv2
        rw [e, e2]
        exact loan_sim hpa eO hv hv2
theorem look_sim {TN : Nat → Int32} {TF M : Nat → Nat → Int32} (h : TLg 0 TN TF M) (hr3 : 0 ≤ (TN 3).toInt ∧ (TN 3).toInt ≤ 2) (hr4 : 0 ≤ (TN 4).toInt ∧ (TN 4).toInt ≤ 2) {x0 x1 x2 x3 r r2 : Int32} (hx : S_x_look TN TF x0 x1 x2 x3 r) (hy : S_y_look M x0 x1 x2 x3 r2) : r = r2 := by
  obtain ⟨_, _, _, _, _, _, _, _, rst_⟩ := hx
  obtain ⟨_, _, _, _, _, _, _, _, rst_⟩ := rst_
  obtain ⟨_, _, _, _, _, _, _, _, hx⟩ := rst_
  obtain ⟨_, _, _, _, _, _, _, _, rst_⟩ := hy
  obtain ⟨_, _, _, _, _, _, _, _, rst_⟩ := rst_
  obtain ⟨_, _, _, _, _, _, _, _, rst_⟩ := rst_
  obtain ⟨_, _, _, _, _, _, _, _, rst_⟩ := rst_
  obtain ⟨_, _, _, hy, hc⟩ := rst_
  obtain ⟨p, n0, n1, n2, n3, n4, n5, n6, rst_⟩ := hx
  obtain ⟨n7, n8, n9, n10, n11, hk, hx⟩ := rst_
  obtain ⟨q, m0, m1, m2, m3, m4, m5, m6, rst_⟩ := hy
  obtain ⟨m7, m8, m9, m10, m11, m12, m13, m14, rst_⟩ := rst_
  obtain ⟨m15, m16, hl, hy⟩ := rst_
  have hs := reach_sim h hr3 hr4 rfl rfl (by clear hk hl hx hy; omega) hk hl
  clear hk hl
  have z0 : ¬ ((0 : Int32).toInt ≠ 0) := by decide
  have z1 : ¬ ((1 : Int32).toInt = 0) := by decide
  rcases hs with ⟨p0, q0⟩ | ⟨p1, q1, hs⟩
  · have ex : r = -2 := by
      rcases hx with hx | hx | ⟨-, e, -⟩
      · rcases hx.2 with ⟨c, -⟩ | ⟨-, e, -⟩
        · rw [p0] at c; exact absurd c z0
        · exact e
      · rcases hx.2 with ⟨c, -⟩ | ⟨-, e, -⟩
        · rw [p0] at c; exact absurd c z0
        · exact e
      · exact e
    rcases hy with hy | ⟨-, e, -⟩
    · have c := hy.1; rw [q0] at c; exact absurd c z0
    · rw [ex, e]
  · rcases hy with hy | ⟨c, -⟩
    · rcases hs with ⟨ca, hs⟩ | ⟨ca, hs⟩
      · rcases hx with hx | hx | ⟨c, -⟩
        · rcases hx.2 with ⟨-, hx⟩ | ⟨c, -⟩
          · exact look_core hs hx hy
          · rw [p1] at c; exact absurd c z1
        · exact absurd ca hx.1
        · rw [p1] at c; exact absurd c z1
      · rcases hx with hx | hx | ⟨c, -⟩
        · have cb := hx.1; rw [cb] at ca; exact absurd ca (by decide)
        · rcases hx.2 with ⟨-, hx⟩ | ⟨c, -⟩
          · exact look_core hs hx hy
          · rw [p1] at c; exact absurd c z1
        · rw [p1] at c; exact absurd c z1
    · rw [q1] at c; exact absurd c z1
