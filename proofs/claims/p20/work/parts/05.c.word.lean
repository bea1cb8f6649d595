/-! words: as they are spelt and as the reference packs them -/
def Sp (t : Nat → Int32) (f e : Int) (i : Nat) : Prop := e - f = ((stL.getD i 0 : Nat) : Int) ∧ ∀ j : Nat, j < stL.getD i 0 → tq t (f + (j : Int)) = ((stB.getD i []).getD j 0).toInt
theorem lc_0 {w c : Int64} {z : Int32} (e : z = lg_cmp w c) : (z.toInt = 0 ∧ w = c) ∨ (z.toInt ≠ 0 ∧ w ≠ c) := by
  rw [e]; unfold lg_cmp
  by_cases h : w > c
  · rw [if_pos h]
    exact Or.inr ⟨by decide, fun q => by rw [q] at h; exact absurd (Int64.lt_iff_toInt_lt.mp h) (by omega)⟩
  · rw [if_neg h]
    by_cases h2 : w = c
    · rw [if_pos h2]; exact Or.inl ⟨by decide, h2⟩
    · rw [if_neg h2]; exact Or.inr ⟨by decide, h2⟩
theorem pk_1 {t : Nat → Int32} {f : Int} : pk t f 1 = 256 * 0 + tq t (f + ((0 : Nat) : Int)) := rfl
theorem pk_2 {t : Nat → Int32} {f : Int} : pk t f 2 = 256 * (256 * 0 + tq t (f + ((0 : Nat) : Int))) + tq t (f + ((1 : Nat) : Int)) := rfl
theorem pk_3 {t : Nat → Int32} {f : Int} : pk t f 3 = 256 * (256 * (256 * 0 + tq t (f + ((0 : Nat) : Int))) + tq t (f + ((1 : Nat) : Int))) + tq t (f + ((2 : Nat) : Int)) := rfl
theorem pk_4 {t : Nat → Int32} {f : Int} : pk t f 4 = 256 * (256 * (256 * (256 * 0 + tq t (f + ((0 : Nat) : Int))) + tq t (f + ((1 : Nat) : Int))) + tq t (f + ((2 : Nat) : Int))) + tq t (f + ((3 : Nat) : Int)) := rfl
theorem pk_5 {t : Nat → Int32} {f : Int} : pk t f 5 = 256 * (256 * (256 * (256 * (256 * 0 + tq t (f + ((0 : Nat) : Int))) + tq t (f + ((1 : Nat) : Int))) + tq t (f + ((2 : Nat) : Int))) + tq t (f + ((3 : Nat) : Int))) + tq t (f + ((4 : Nat) : Int)) := rfl
theorem pk_6 {t : Nat → Int32} {f : Int} : pk t f 6 = 256 * (256 * (256 * (256 * (256 * (256 * 0 + tq t (f + ((0 : Nat) : Int))) + tq t (f + ((1 : Nat) : Int))) + tq t (f + ((2 : Nat) : Int))) + tq t (f + ((3 : Nat) : Int))) + tq t (f + ((4 : Nat) : Int))) + tq t (f + ((5 : Nat) : Int)) := rfl
theorem pk_7 {t : Nat → Int32} {f : Int} : pk t f 7 = 256 * (256 * (256 * (256 * (256 * (256 * (256 * 0 + tq t (f + ((0 : Nat) : Int))) + tq t (f + ((1 : Nat) : Int))) + tq t (f + ((2 : Nat) : Int))) + tq t (f + ((3 : Nat) : Int))) + tq t (f + ((4 : Nat) : Int))) + tq t (f + ((5 : Nat) : Int))) + tq t (f + ((6 : Nat) : Int)) := rfl
theorem pk_8 {t : Nat → Int32} {f : Int} : pk t f 8 = 256 * (256 * (256 * (256 * (256 * (256 * (256 * (256 * 0 + tq t (f + ((0 : Nat) : Int))) + tq t (f + ((1 : Nat) : Int))) + tq t (f + ((2 : Nat) : Int))) + tq t (f + ((3 : Nat) : Int))) + tq t (f + ((4 : Nat) : Int))) + tq t (f + ((5 : Nat) : Int))) + tq t (f + ((6 : Nat) : Int))) + tq t (f + ((7 : Nat) : Int)) := rfl
theorem spw_0 {t : Nat → Int32} {f e : Int} {w : Int64} (hl : ∀ j : Int, f ≤ j → j < e → lt_ (tq t j)) (hfe : f < e) (hw : Wd t f e w) : (Sp t f e 0 ∧ w = 1885432941) ∨ (¬ Sp t f e 0 ∧ w ≠ 1885432941) := by
  by_cases h : Sp t f e 0
  · obtain ⟨h1, h2⟩ := id h
    have h1 : e - f = 4 := h1
    have a0 : tq t (f + ((0 : Nat) : Int)) = 112 := h2 0 (by decide)
    have a1 : tq t (f + ((1 : Nat) : Int)) = 97 := h2 1 (by decide)
    have a2 : tq t (f + ((2 : Nat) : Int)) = 108 := h2 2 (by decide)
    have a3 : tq t (f + ((3 : Nat) : Int)) = 109 := h2 3 (by decide)
    have hp := hw.1 (by omega)
    rw [show (e - f).toNat = 4 from by omega, pk_4, a0, a1, a2, a3] at hp
    exact Or.inl ⟨h, Int64.toInt_inj.mp (by rw [hp]; decide)⟩
  · refine Or.inr ⟨h, fun q => h ?_⟩
    have hv : w.toInt = 1885432941 := by rw [q]; decide
    have h8 : e - f ≤ 8 := by
      rcases Int.lt_or_le 8 (e - f) with z | z
      · have := hw.2 z; rw [this] at hv; exact absurd hv (by decide)
      · exact z
    have hp := hw.1 h8
    rw [hv] at hp
    have L : ∀ j : Nat, (j : Int) < e - f → 97 ≤ tq t (f + (j : Int)) ∧ tq t (f + (j : Int)) ≤ 122 := fun j hj => hl _ (by omega) (by omega)
    rcases (by omega : (e - f).toNat = 1 ∨ (e - f).toNat = 2 ∨ (e - f).toNat = 3 ∨ (e - f).toNat = 4 ∨ (e - f).toNat = 5 ∨ (e - f).toNat = 6 ∨ (e - f).toNat = 7 ∨ (e - f).toNat = 8) with k | k | k | k | k | k | k | k
    · rw [k, pk_1] at hp
      have l0 := L 0 (by omega)
      omega
    · rw [k, pk_2] at hp
      have l0 := L 0 (by omega)
      have l1 := L 1 (by omega)
      omega
    · rw [k, pk_3] at hp
      have l0 := L 0 (by omega)
      have l1 := L 1 (by omega)
      have l2 := L 2 (by omega)
      omega
    · rw [k, pk_4] at hp
      have l0 := L 0 (by omega)
      have l1 := L 1 (by omega)
      have l2 := L 2 (by omega)
      have l3 := L 3 (by omega)
      refine ⟨by show e - f = 4; omega, fun j hj => ?_⟩
      match j, hj with
      | 0, _ => show tq t (f + ((0 : Nat) : Int)) = 112; omega
      | 1, _ => show tq t (f + ((1 : Nat) : Int)) = 97; omega
      | 2, _ => show tq t (f + ((2 : Nat) : Int)) = 108; omega
      | 3, _ => show tq t (f + ((3 : Nat) : Int)) = 109; omega
      | j + 4, hj => exact absurd hj (by show ¬ j + 4 < 4; omega)
    · rw [k, pk_5] at hp
      have l0 := L 0 (by omega)
      have l1 := L 1 (by omega)
      have l2 := L 2 (by omega)
      have l3 := L 3 (by omega)
      have l4 := L 4 (by omega)
      omega
    · rw [k, pk_6] at hp
      have l0 := L 0 (by omega)
      have l1 := L 1 (by omega)
      have l2 := L 2 (by omega)
      have l3 := L 3 (by omega)
      have l4 := L 4 (by omega)
      have l5 := L 5 (by omega)
      omega
    · rw [k, pk_7] at hp
      have l0 := L 0 (by omega)
      have l1 := L 1 (by omega)
      have l2 := L 2 (by omega)
      have l3 := L 3 (by omega)
      have l4 := L 4 (by omega)
      have l5 := L 5 (by omega)
      have l6 := L 6 (by omega)
      omega
    · rw [k, pk_8] at hp
      have l0 := L 0 (by omega)
      have l1 := L 1 (by omega)
      have l2 := L 2 (by omega)
      have l3 := L 3 (by omega)
      have l4 := L 4 (by omega)
      have l5 := L 5 (by omega)
      have l6 := L 6 (by omega)
      have l7 := L 7 (by omega)
      omega
theorem spw_1 {t : Nat → Int32} {f e : Int} {w : Int64} (hl : ∀ j : Int, f ≤ j → j < e → lt_ (tq t j)) (hfe : f < e) (hw : Wd t f e w) : (Sp t f e 1 ∧ w = 418280402802) ∨ (¬ Sp t f e 1 ∧ w ≠ 418280402802) := by
  by_cases h : Sp t f e 1
  · obtain ⟨h1, h2⟩ := id h
    have h1 : e - f = 5 := h1
    have a0 : tq t (f + ((0 : Nat) : Int)) = 97 := h2 0 (by decide)
    have a1 : tq t (f + ((1 : Nat) : Int)) = 99 := h2 1 (by decide)
    have a2 : tq t (f + ((2 : Nat) : Int)) = 116 := h2 2 (by decide)
    have a3 : tq t (f + ((3 : Nat) : Int)) = 111 := h2 3 (by decide)
    have a4 : tq t (f + ((4 : Nat) : Int)) = 114 := h2 4 (by decide)
    have hp := hw.1 (by omega)
    rw [show (e - f).toNat = 5 from by omega, pk_5, a0, a1, a2, a3, a4] at hp
    exact Or.inl ⟨h, Int64.toInt_inj.mp (by rw [hp]; decide)⟩
  · refine Or.inr ⟨h, fun q => h ?_⟩
    have hv : w.toInt = 418280402802 := by rw [q]; decide
    have h8 : e - f ≤ 8 := by
      rcases Int.lt_or_le 8 (e - f) with z | z
      · have := hw.2 z; rw [this] at hv; exact absurd hv (by decide)
      · exact z
    have hp := hw.1 h8
    rw [hv] at hp
    have L : ∀ j : Nat, (j : Int) < e - f → 97 ≤ tq t (f + (j : Int)) ∧ tq t (f + (j : Int)) ≤ 122 := fun j hj => hl _ (by omega) (by omega)
    rcases (by omega : (e - f).toNat = 1 ∨ (e - f).toNat = 2 ∨ (e - f).toNat = 3 ∨ (e - f).toNat = 4 ∨ (e - f).toNat = 5 ∨ (e - f).toNat = 6 ∨ (e - f).toNat = 7 ∨ (e - f).toNat = 8) with k | k | k | k | k | k | k | k
    · rw [k, pk_1] at hp
      have l0 := L 0 (by omega)
      omega
    · rw [k, pk_2] at hp
      have l0 := L 0 (by omega)
      have l1 := L 1 (by omega)
      omega
    · rw [k, pk_3] at hp
      have l0 := L 0 (by omega)
      have l1 := L 1 (by omega)
      have l2 := L 2 (by omega)
      omega
    · rw [k, pk_4] at hp
      have l0 := L 0 (by omega)
      have l1 := L 1 (by omega)
      have l2 := L 2 (by omega)
      have l3 := L 3 (by omega)
      omega
    · rw [k, pk_5] at hp
      have l0 := L 0 (by omega)
      have l1 := L 1 (by omega)
      have l2 := L 2 (by omega)
      have l3 := L 3 (by omega)
      have l4 := L 4 (by omega)
      refine ⟨by show e - f = 5; omega, fun j hj => ?_⟩
      match j, hj with
      | 0, _ => show tq t (f + ((0 : Nat) : Int)) = 97; omega
      | 1, _ => show tq t (f + ((1 : Nat) : Int)) = 99; omega
      | 2, _ => show tq t (f + ((2 : Nat) : Int)) = 116; omega
      | 3, _ => show tq t (f + ((3 : Nat) : Int)) = 111; omega
      | 4, _ => show tq t (f + ((4 : Nat) : Int)) = 114; omega
      | j + 5, hj => exact absurd hj (by show ¬ j + 5 < 5; omega)
    · rw [k, pk_6] at hp
      have l0 := L 0 (by omega)
      have l1 := L 1 (by omega)
      have l2 := L 2 (by omega)
      have l3 := L 3 (by omega)
      have l4 := L 4 (by omega)
      have l5 := L 5 (by omega)
      omega
    · rw [k, pk_7] at hp
      have l0 := L 0 (by omega)
      have l1 := L 1 (by omega)
      have l2 := L 2 (by omega)
      have l3 := L 3 (by omega)
      have l4 := L 4 (by omega)
      have l5 := L 5 (by omega)
      have l6 := L 6 (by omega)
      omega
    · rw [k, pk_8] at hp
      have l0 := L 0 (by omega)
      have l1 := L 1 (by omega)
      have l2 := L 2 (by omega)
      have l3 := L 3 (by omega)
      have l4 := L 4 (by omega)
      have l5 := L 5 (by omega)
      have l6 := L 6 (by omega)
      have l7 := L 7 (by omega)
      omega
theorem spw_2 {t : Nat → Int32} {f e : Int} {w : Int64} (hl : ∀ j : Int, f ≤ j → j < e → lt_ (tq t j)) (hfe : f < e) (hw : Wd t f e w) : (Sp t f e 2 ∧ w = 129138752120178) ∨ (¬ Sp t f e 2 ∧ w ≠ 129138752120178) := by
  by_cases h : Sp t f e 2
  · obtain ⟨h1, h2⟩ := id h
    have h1 : e - f = 6 := h1
    have a0 : tq t (f + ((0 : Nat) : Int)) = 117 := h2 0 (by decide)
    have a1 : tq t (f + ((1 : Nat) : Int)) = 115 := h2 1 (by decide)
    have a2 : tq t (f + ((2 : Nat) : Int)) = 117 := h2 2 (by decide)
    have a3 : tq t (f + ((3 : Nat) : Int)) = 114 := h2 3 (by decide)
    have a4 : tq t (f + ((4 : Nat) : Int)) = 101 := h2 4 (by decide)
    have a5 : tq t (f + ((5 : Nat) : Int)) = 114 := h2 5 (by decide)
    have hp := hw.1 (by omega)
    rw [show (e - f).toNat = 6 from by omega, pk_6, a0, a1, a2, a3, a4, a5] at hp
    exact Or.inl ⟨h, Int64.toInt_inj.mp (by rw [hp]; decide)⟩
  · refine Or.inr ⟨h, fun q => h ?_⟩
    have hv : w.toInt = 129138752120178 := by rw [q]; decide
    have h8 : e - f ≤ 8 := by
      rcases Int.lt_or_le 8 (e - f) with z | z
      · have := hw.2 z; rw [this] at hv; exact absurd hv (by decide)
      · exact z
    have hp := hw.1 h8
    rw [hv] at hp
    have L : ∀ j : Nat, (j : Int) < e - f → 97 ≤ tq t (f + (j : Int)) ∧ tq t (f + (j : Int)) ≤ 122 := fun j hj => hl _ (by omega) (by omega)
    rcases (by omega : (e - f).toNat = 1 ∨ (e - f).toNat = 2 ∨ (e - f).toNat = 3 ∨ (e - f).toNat = 4 ∨ (e - f).toNat = 5 ∨ (e - f).toNat = 6 ∨ (e - f).toNat = 7 ∨ (e - f).toNat = 8) with k | k | k | k | k | k | k | k
    · rw [k, pk_1] at hp
      have l0 := L 0 (by omega)
      omega
    · rw [k, pk_2] at hp
      have l0 := L 0 (by omega)
      have l1 := L 1 (by omega)
      omega
    · rw [k, pk_3] at hp
      have l0 := L 0 (by omega)
      have l1 := L 1 (by omega)
      have l2 := L 2 (by omega)
      omega
    · rw [k, pk_4] at hp
      have l0 := L 0 (by omega)
      have l1 := L 1 (by omega)
      have l2 := L 2 (by omega)
      have l3 := L 3 (by omega)
      omega
    · rw [k, pk_5] at hp
      have l0 := L 0 (by omega)
      have l1 := L 1 (by omega)
      have l2 := L 2 (by omega)
      have l3 := L 3 (by omega)
      have l4 := L 4 (by omega)
      omega
    · rw [k, pk_6] at hp
      have l0 := L 0 (by omega)
      have l1 := L 1 (by omega)
      have l2 := L 2 (by omega)
      have l3 := L 3 (by omega)
      have l4 := L 4 (by omega)
      have l5 := L 5 (by omega)
      refine ⟨by show e - f = 6; omega, fun j hj => ?_⟩
      match j, hj with
      | 0, _ => show tq t (f + ((0 : Nat) : Int)) = 117; omega
      | 1, _ => show tq t (f + ((1 : Nat) : Int)) = 115; omega
      | 2, _ => show tq t (f + ((2 : Nat) : Int)) = 117; omega
      | 3, _ => show tq t (f + ((3 : Nat) : Int)) = 114; omega
      | 4, _ => show tq t (f + ((4 : Nat) : Int)) = 101; omega
      | 5, _ => show tq t (f + ((5 : Nat) : Int)) = 114; omega
      | j + 6, hj => exact absurd hj (by show ¬ j + 6 < 6; omega)
    · rw [k, pk_7] at hp
      have l0 := L 0 (by omega)
      have l1 := L 1 (by omega)
      have l2 := L 2 (by omega)
      have l3 := L 3 (by omega)
      have l4 := L 4 (by omega)
      have l5 := L 5 (by omega)
      have l6 := L 6 (by omega)
      omega
    · rw [k, pk_8] at hp
      have l0 := L 0 (by omega)
      have l1 := L 1 (by omega)
      have l2 := L 2 (by omega)
      have l3 := L 3 (by omega)
      have l4 := L 4 (by omega)
      have l5 := L 5 (by omega)
      have l6 := L 6 (by omega)
      have l7 := L 7 (by omega)
      omega
theorem spw_3 {t : Nat → Int32} {f e : Int} {w : Int64} (hl : ∀ j : Int, f ≤ j → j < e → lt_ (tq t j)) (hfe : f < e) (hw : Wd t f e w) : (Sp t f e 3 ∧ w = 1918989413) ∨ (¬ Sp t f e 3 ∧ w ≠ 1918989413) := by
  by_cases h : Sp t f e 3
  · obtain ⟨h1, h2⟩ := id h
    have h1 : e - f = 4 := h1
    have a0 : tq t (f + ((0 : Nat) : Int)) = 114 := h2 0 (by decide)
    have a1 : tq t (f + ((1 : Nat) : Int)) = 97 := h2 1 (by decide)
    have a2 : tq t (f + ((2 : Nat) : Int)) = 116 := h2 2 (by decide)
    have a3 : tq t (f + ((3 : Nat) : Int)) = 101 := h2 3 (by decide)
    have hp := hw.1 (by omega)
    rw [show (e - f).toNat = 4 from by omega, pk_4, a0, a1, a2, a3] at hp
    exact Or.inl ⟨h, Int64.toInt_inj.mp (by rw [hp]; decide)⟩
  · refine Or.inr ⟨h, fun q => h ?_⟩
    have hv : w.toInt = 1918989413 := by rw [q]; decide
    have h8 : e - f ≤ 8 := by
      rcases Int.lt_or_le 8 (e - f) with z | z
      · have := hw.2 z; rw [this] at hv; exact absurd hv (by decide)
      · exact z
    have hp := hw.1 h8
    rw [hv] at hp
    have L : ∀ j : Nat, (j : Int) < e - f → 97 ≤ tq t (f + (j : Int)) ∧ tq t (f + (j : Int)) ≤ 122 := fun j hj => hl _ (by omega) (by omega)
    rcases (by omega : (e - f).toNat = 1 ∨ (e - f).toNat = 2 ∨ (e - f).toNat = 3 ∨ (e - f).toNat = 4 ∨ (e - f).toNat = 5 ∨ (e - f).toNat = 6 ∨ (e - f).toNat = 7 ∨ (e - f).toNat = 8) with k | k | k | k | k | k | k | k
    · rw [k, pk_1] at hp
      have l0 := L 0 (by omega)
      omega
    · rw [k, pk_2] at hp
      have l0 := L 0 (by omega)
      have l1 := L 1 (by omega)
      omega
    · rw [k, pk_3] at hp
      have l0 := L 0 (by omega)
      have l1 := L 1 (by omega)
      have l2 := L 2 (by omega)
      omega
    · rw [k, pk_4] at hp
      have l0 := L 0 (by omega)
      have l1 := L 1 (by omega)
      have l2 := L 2 (by omega)
      have l3 := L 3 (by omega)
      refine ⟨by show e - f = 4; omega, fun j hj => ?_⟩
      match j, hj with
      | 0, _ => show tq t (f + ((0 : Nat) : Int)) = 114; omega
      | 1, _ => show tq t (f + ((1 : Nat) : Int)) = 97; omega
      | 2, _ => show tq t (f + ((2 : Nat) : Int)) = 116; omega
      | 3, _ => show tq t (f + ((3 : Nat) : Int)) = 101; omega
      | j + 4, hj => exact absurd hj (by show ¬ j + 4 < 4; omega)
    · rw [k, pk_5] at hp
      have l0 := L 0 (by omega)
      have l1 := L 1 (by omega)
      have l2 := L 2 (by omega)
      have l3 := L 3 (by omega)
      have l4 := L 4 (by omega)
      omega
    · rw [k, pk_6] at hp
      have l0 := L 0 (by omega)
      have l1 := L 1 (by omega)
      have l2 := L 2 (by omega)
      have l3 := L 3 (by omega)
      have l4 := L 4 (by omega)
      have l5 := L 5 (by omega)
      omega
    · rw [k, pk_7] at hp
      have l0 := L 0 (by omega)
      have l1 := L 1 (by omega)
      have l2 := L 2 (by omega)
      have l3 := L 3 (by omega)
      have l4 := L 4 (by omega)
      have l5 := L 5 (by omega)
      have l6 := L 6 (by omega)
      omega
    · rw [k, pk_8] at hp
      have l0 := L 0 (by omega)
      have l1 := L 1 (by omega)
      have l2 := L 2 (by omega)
      have l3 := L 3 (by omega)
      have l4 := L 4 (by omega)
      have l5 := L 5 (by omega)
      have l6 := L 6 (by omega)
      have l7 := L 7 (by omega)
      omega
theorem spw_4 {t : Nat → Int32} {f e : Int} {w : Int64} (hl : ∀ j : Int, f ≤ j → j < e → lt_ (tq t j)) (hfe : f < e) (hw : Wd t f e w) : (Sp t f e 4 ∧ w = 426953241460) ∨ (¬ Sp t f e 4 ∧ w ≠ 426953241460) := by
  by_cases h : Sp t f e 4
  · obtain ⟨h1, h2⟩ := id h
    have h1 : e - f = 5 := h1
    have a0 : tq t (f + ((0 : Nat) : Int)) = 99 := h2 0 (by decide)
    have a1 : tq t (f + ((1 : Nat) : Int)) = 104 := h2 1 (by decide)
    have a2 : tq t (f + ((2 : Nat) : Int)) = 101 := h2 2 (by decide)
    have a3 : tq t (f + ((3 : Nat) : Int)) = 115 := h2 3 (by decide)
    have a4 : tq t (f + ((4 : Nat) : Int)) = 116 := h2 4 (by decide)
    have hp := hw.1 (by omega)
    rw [show (e - f).toNat = 5 from by omega, pk_5, a0, a1, a2, a3, a4] at hp
    exact Or.inl ⟨h, Int64.toInt_inj.mp (by rw [hp]; decide)⟩
  · refine Or.inr ⟨h, fun q => h ?_⟩
    have hv : w.toInt = 426953241460 := by rw [q]; decide
    have h8 : e - f ≤ 8 := by
      rcases Int.lt_or_le 8 (e - f) with z | z
      · have := hw.2 z; rw [this] at hv; exact absurd hv (by decide)
      · exact z
    have hp := hw.1 h8
    rw [hv] at hp
    have L : ∀ j : Nat, (j : Int) < e - f → 97 ≤ tq t (f + (j : Int)) ∧ tq t (f + (j : Int)) ≤ 122 := fun j hj => hl _ (by omega) (by omega)
    rcases (by omega : (e - f).toNat = 1 ∨ (e - f).toNat = 2 ∨ (e - f).toNat = 3 ∨ (e - f).toNat = 4 ∨ (e - f).toNat = 5 ∨ (e - f).toNat = 6 ∨ (e - f).toNat = 7 ∨ (e - f).toNat = 8) with k | k | k | k | k | k | k | k
    · rw [k, pk_1] at hp
      have l0 := L 0 (by omega)
      omega
    · rw [k, pk_2] at hp
      have l0 := L 0 (by omega)
      have l1 := L 1 (by omega)
      omega
    · rw [k, pk_3] at hp
      have l0 := L 0 (by omega)
      have l1 := L 1 (by omega)
      have l2 := L 2 (by omega)
      omega
    · rw [k, pk_4] at hp
      have l0 := L 0 (by omega)
      have l1 := L 1 (by omega)
      have l2 := L 2 (by omega)
      have l3 := L 3 (by omega)
      omega
    · rw [k, pk_5] at hp
      have l0 := L 0 (by omega)
      have l1 := L 1 (by omega)
      have l2 := L 2 (by omega)
      have l3 := L 3 (by omega)
      have l4 := L 4 (by omega)
      refine ⟨by show e - f = 5; omega, fun j hj => ?_⟩
      match j, hj with
      | 0, _ => show tq t (f + ((0 : Nat) : Int)) = 99; omega
      | 1, _ => show tq t (f + ((1 : Nat) : Int)) = 104; omega
      | 2, _ => show tq t (f + ((2 : Nat) : Int)) = 101; omega
      | 3, _ => show tq t (f + ((3 : Nat) : Int)) = 115; omega
      | 4, _ => show tq t (f + ((4 : Nat) : Int)) = 116; omega
      | j + 5, hj => exact absurd hj (by show ¬ j + 5 < 5; omega)
    · rw [k, pk_6] at hp
      have l0 := L 0 (by omega)
      have l1 := L 1 (by omega)
      have l2 := L 2 (by omega)
      have l3 := L 3 (by omega)
      have l4 := L 4 (by omega)
      have l5 := L 5 (by omega)
      omega
    · rw [k, pk_7] at hp
      have l0 := L 0 (by omega)
      have l1 := L 1 (by omega)
      have l2 := L 2 (by omega)
      have l3 := L 3 (by omega)
      have l4 := L 4 (by omega)
      have l5 := L 5 (by omega)
      have l6 := L 6 (by omega)
      omega
    · rw [k, pk_8] at hp
      have l0 := L 0 (by omega)
      have l1 := L 1 (by omega)
      have l2 := L 2 (by omega)
      have l3 := L 3 (by omega)
      have l4 := L 4 (by omega)
      have l5 := L 5 (by omega)
      have l6 := L 6 (by omega)
      have l7 := L 7 (by omega)
      omega
theorem spw_5 {t : Nat → Int32} {f e : Int} {w : Int64} (hl : ∀ j : Int, f ≤ j → j < e → lt_ (tq t j)) (hfe : f < e) (hw : Wd t f e w) : (Sp t f e 5 ∧ w = 108230800994167) ∨ (¬ Sp t f e 5 ∧ w ≠ 108230800994167) := by
  by_cases h : Sp t f e 5
  · obtain ⟨h1, h2⟩ := id h
    have h1 : e - f = 6 := h1
    have a0 : tq t (f + ((0 : Nat) : Int)) = 98 := h2 0 (by decide)
    have a1 : tq t (f + ((1 : Nat) : Int)) = 111 := h2 1 (by decide)
    have a2 : tq t (f + ((2 : Nat) : Int)) = 114 := h2 2 (by decide)
    have a3 : tq t (f + ((3 : Nat) : Int)) = 114 := h2 3 (by decide)
    have a4 : tq t (f + ((4 : Nat) : Int)) = 111 := h2 4 (by decide)
    have a5 : tq t (f + ((5 : Nat) : Int)) = 119 := h2 5 (by decide)
    have hp := hw.1 (by omega)
    rw [show (e - f).toNat = 6 from by omega, pk_6, a0, a1, a2, a3, a4, a5] at hp
    exact Or.inl ⟨h, Int64.toInt_inj.mp (by rw [hp]; decide)⟩
  · refine Or.inr ⟨h, fun q => h ?_⟩
    have hv : w.toInt = 108230800994167 := by rw [q]; decide
    have h8 : e - f ≤ 8 := by
      rcases Int.lt_or_le 8 (e - f) with z | z
      · have := hw.2 z; rw [this] at hv; exact absurd hv (by decide)
      · exact z
    have hp := hw.1 h8
    rw [hv] at hp
    have L : ∀ j : Nat, (j : Int) < e - f → 97 ≤ tq t (f + (j : Int)) ∧ tq t (f + (j : Int)) ≤ 122 := fun j hj => hl _ (by omega) (by omega)
    rcases (by omega : (e - f).toNat = 1 ∨ (e - f).toNat = 2 ∨ (e - f).toNat = 3 ∨ (e - f).toNat = 4 ∨ (e - f).toNat = 5 ∨ (e - f).toNat = 6 ∨ (e - f).toNat = 7 ∨ (e - f).toNat = 8) with k | k | k | k | k | k | k | k
    · rw [k, pk_1] at hp
      have l0 := L 0 (by omega)
      omega
    · rw [k, pk_2] at hp
      have l0 := L 0 (by omega)
      have l1 := L 1 (by omega)
      omega
    · rw [k, pk_3] at hp
      have l0 := L 0 (by omega)
      have l1 := L 1 (by omega)
      have l2 := L 2 (by omega)
      omega
    · rw [k, pk_4] at hp
      have l0 := L 0 (by omega)
      have l1 := L 1 (by omega)
      have l2 := L 2 (by omega)
      have l3 := L 3 (by omega)
      omega
    · rw [k, pk_5] at hp
      have l0 := L 0 (by omega)
      have l1 := L 1 (by omega)
      have l2 := L 2 (by omega)
      have l3 := L 3 (by omega)
      have l4 := L 4 (by omega)
      omega
    · rw [k, pk_6] at hp
      have l0 := L 0 (by omega)
      have l1 := L 1 (by omega)
      have l2 := L 2 (by omega)
      have l3 := L 3 (by omega)
      have l4 := L 4 (by omega)
      have l5 := L 5 (by omega)
      refine ⟨by show e - f = 6; omega, fun j hj => ?_⟩
      match j, hj with
      | 0, _ => show tq t (f + ((0 : Nat) : Int)) = 98; omega
      | 1, _ => show tq t (f + ((1 : Nat) : Int)) = 111; omega
      | 2, _ => show tq t (f + ((2 : Nat) : Int)) = 114; omega
      | 3, _ => show tq t (f + ((3 : Nat) : Int)) = 114; omega
      | 4, _ => show tq t (f + ((4 : Nat) : Int)) = 111; omega
      | 5, _ => show tq t (f + ((5 : Nat) : Int)) = 119; omega
      | j + 6, hj => exact absurd hj (by show ¬ j + 6 < 6; omega)
    · rw [k, pk_7] at hp
      have l0 := L 0 (by omega)
      have l1 := L 1 (by omega)
      have l2 := L 2 (by omega)
      have l3 := L 3 (by omega)
      have l4 := L 4 (by omega)
      have l5 := L 5 (by omega)
      have l6 := L 6 (by omega)
      omega
    · rw [k, pk_8] at hp
      have l0 := L 0 (by omega)
      have l1 := L 1 (by omega)
      have l2 := L 2 (by omega)
      have l3 := L 3 (by omega)
      have l4 := L 4 (by omega)
      have l5 := L 5 (by omega)
      have l6 := L 6 (by omega)
      have l7 := L 7 (by omega)
      omega
theorem spw_6 {t : Nat → Int32} {f e : Int} {w : Int64} (hl : ∀ j : Int, f ≤ j → j < e → lt_ (tq t j)) (hfe : f < e) (hw : Wd t f e w) : (Sp t f e 6 ∧ w = 1668047216) ∨ (¬ Sp t f e 6 ∧ w ≠ 1668047216) := by
  by_cases h : Sp t f e 6
  · obtain ⟨h1, h2⟩ := id h
    have h1 : e - f = 4 := h1
    have a0 : tq t (f + ((0 : Nat) : Int)) = 99 := h2 0 (by decide)
    have a1 : tq t (f + ((1 : Nat) : Int)) = 108 := h2 1 (by decide)
    have a2 : tq t (f + ((2 : Nat) : Int)) = 97 := h2 2 (by decide)
    have a3 : tq t (f + ((3 : Nat) : Int)) = 112 := h2 3 (by decide)
    have hp := hw.1 (by omega)
    rw [show (e - f).toNat = 4 from by omega, pk_4, a0, a1, a2, a3] at hp
    exact Or.inl ⟨h, Int64.toInt_inj.mp (by rw [hp]; decide)⟩
  · refine Or.inr ⟨h, fun q => h ?_⟩
    have hv : w.toInt = 1668047216 := by rw [q]; decide
    have h8 : e - f ≤ 8 := by
      rcases Int.lt_or_le 8 (e - f) with z | z
      · have := hw.2 z; rw [this] at hv; exact absurd hv (by decide)
      · exact z
    have hp := hw.1 h8
    rw [hv] at hp
    have L : ∀ j : Nat, (j : Int) < e - f → 97 ≤ tq t (f + (j : Int)) ∧ tq t (f + (j : Int)) ≤ 122 := fun j hj => hl _ (by omega) (by omega)
    rcases (by omega : (e - f).toNat = 1 ∨ (e - f).toNat = 2 ∨ (e - f).toNat = 3 ∨ (e - f).toNat = 4 ∨ (e - f).toNat = 5 ∨ (e - f).toNat = 6 ∨ (e - f).toNat = 7 ∨ (e - f).toNat = 8) with k | k | k | k | k | k | k | k
    · rw [k, pk_1] at hp
      have l0 := L 0 (by omega)
      omega
    · rw [k, pk_2] at hp
      have l0 := L 0 (by omega)
      have l1 := L 1 (by omega)
      omega
    · rw [k, pk_3] at hp
      have l0 := L 0 (by omega)
      have l1 := L 1 (by omega)
      have l2 := L 2 (by omega)
      omega
    · rw [k, pk_4] at hp
      have l0 := L 0 (by omega)
      have l1 := L 1 (by omega)
      have l2 := L 2 (by omega)
      have l3 := L 3 (by omega)
      refine ⟨by show e - f = 4; omega, fun j hj => ?_⟩
      match j, hj with
      | 0, _ => show tq t (f + ((0 : Nat) : Int)) = 99; omega
      | 1, _ => show tq t (f + ((1 : Nat) : Int)) = 108; omega
      | 2, _ => show tq t (f + ((2 : Nat) : Int)) = 97; omega
      | 3, _ => show tq t (f + ((3 : Nat) : Int)) = 112; omega
      | j + 4, hj => exact absurd hj (by show ¬ j + 4 < 4; omega)
    · rw [k, pk_5] at hp
      have l0 := L 0 (by omega)
      have l1 := L 1 (by omega)
      have l2 := L 2 (by omega)
      have l3 := L 3 (by omega)
      have l4 := L 4 (by omega)
      omega
    · rw [k, pk_6] at hp
      have l0 := L 0 (by omega)
      have l1 := L 1 (by omega)
      have l2 := L 2 (by omega)
      have l3 := L 3 (by omega)
      have l4 := L 4 (by omega)
      have l5 := L 5 (by omega)
      omega
    · rw [k, pk_7] at hp
      have l0 := L 0 (by omega)
      have l1 := L 1 (by omega)
      have l2 := L 2 (by omega)
      have l3 := L 3 (by omega)
      have l4 := L 4 (by omega)
      have l5 := L 5 (by omega)
      have l6 := L 6 (by omega)
      omega
    · rw [k, pk_8] at hp
      have l0 := L 0 (by omega)
      have l1 := L 1 (by omega)
      have l2 := L 2 (by omega)
      have l3 := L 3 (by omega)
      have l4 := L 4 (by omega)
      have l5 := L 5 (by omega)
      have l6 := L 6 (by omega)
      have l7 := L 7 (by omega)
      omega
theorem spw_7 {t : Nat → Int32} {f e : Int} {w : Int64} (hl : ∀ j : Int, f ≤ j → j < e → lt_ (tq t j)) (hfe : f < e) (hw : Wd t f e w) : (Sp t f e 7 ∧ w = 1818586724) ∨ (¬ Sp t f e 7 ∧ w ≠ 1818586724) := by
  by_cases h : Sp t f e 7
  · obtain ⟨h1, h2⟩ := id h
    have h1 : e - f = 4 := h1
    have a0 : tq t (f + ((0 : Nat) : Int)) = 108 := h2 0 (by decide)
    have a1 : tq t (f + ((1 : Nat) : Int)) = 101 := h2 1 (by decide)
    have a2 : tq t (f + ((2 : Nat) : Int)) = 110 := h2 2 (by decide)
    have a3 : tq t (f + ((3 : Nat) : Int)) = 100 := h2 3 (by decide)
    have hp := hw.1 (by omega)
    rw [show (e - f).toNat = 4 from by omega, pk_4, a0, a1, a2, a3] at hp
    exact Or.inl ⟨h, Int64.toInt_inj.mp (by rw [hp]; decide)⟩
  · refine Or.inr ⟨h, fun q => h ?_⟩
    have hv : w.toInt = 1818586724 := by rw [q]; decide
    have h8 : e - f ≤ 8 := by
      rcases Int.lt_or_le 8 (e - f) with z | z
      · have := hw.2 z; rw [this] at hv; exact absurd hv (by decide)
      · exact z
    have hp := hw.1 h8
    rw [hv] at hp
    have L : ∀ j : Nat, (j : Int) < e - f → 97 ≤ tq t (f + (j : Int)) ∧ tq t (f + (j : Int)) ≤ 122 := fun j hj => hl _ (by omega) (by omega)
    rcases (by omega : (e - f).toNat = 1 ∨ (e - f).toNat = 2 ∨ (e - f).toNat = 3 ∨ (e - f).toNat = 4 ∨ (e - f).toNat = 5 ∨ (e - f).toNat = 6 ∨ (e - f).toNat = 7 ∨ (e - f).toNat = 8) with k | k | k | k | k | k | k | k
    · rw [k, pk_1] at hp
      have l0 := L 0 (by omega)
      omega
    · rw [k, pk_2] at hp
      have l0 := L 0 (by omega)
      have l1 := L 1 (by omega)
      omega
    · rw [k, pk_3] at hp
      have l0 := L 0 (by omega)
      have l1 := L 1 (by omega)
      have l2 := L 2 (by omega)
      omega
    · rw [k, pk_4] at hp
      have l0 := L 0 (by omega)
      have l1 := L 1 (by omega)
      have l2 := L 2 (by omega)
      have l3 := L 3 (by omega)
      refine ⟨by show e - f = 4; omega, fun j hj => ?_⟩
      match j, hj with
      | 0, _ => show tq t (f + ((0 : Nat) : Int)) = 108; omega
      | 1, _ => show tq t (f + ((1 : Nat) : Int)) = 101; omega
      | 2, _ => show tq t (f + ((2 : Nat) : Int)) = 110; omega
      | 3, _ => show tq t (f + ((3 : Nat) : Int)) = 100; omega
      | j + 4, hj => exact absurd hj (by show ¬ j + 4 < 4; omega)
    · rw [k, pk_5] at hp
      have l0 := L 0 (by omega)
      have l1 := L 1 (by omega)
      have l2 := L 2 (by omega)
      have l3 := L 3 (by omega)
      have l4 := L 4 (by omega)
      omega
    · rw [k, pk_6] at hp
      have l0 := L 0 (by omega)
      have l1 := L 1 (by omega)
      have l2 := L 2 (by omega)
      have l3 := L 3 (by omega)
      have l4 := L 4 (by omega)
      have l5 := L 5 (by omega)
      omega
    · rw [k, pk_7] at hp
      have l0 := L 0 (by omega)
      have l1 := L 1 (by omega)
      have l2 := L 2 (by omega)
      have l3 := L 3 (by omega)
      have l4 := L 4 (by omega)
      have l5 := L 5 (by omega)
      have l6 := L 6 (by omega)
      omega
    · rw [k, pk_8] at hp
      have l0 := L 0 (by omega)
      have l1 := L 1 (by omega)
      have l2 := L 2 (by omega)
      have l3 := L 3 (by omega)
      have l4 := L 4 (by omega)
      have l5 := L 5 (by omega)
      have l6 := L 6 (by omega)
      have l7 := L 7 (by omega)
      omega
theorem spw_8 {t : Nat → Int32} {f e : Int} {w : Int64} (hl : ∀ j : Int, f ≤ j → j < e → lt_ (tq t j)) (hfe : f < e) (hw : Wd t f e w) : (Sp t f e 8 ∧ w = 491328135545) ∨ (¬ Sp t f e 8 ∧ w ≠ 491328135545) := by
  by_cases h : Sp t f e 8
  · obtain ⟨h1, h2⟩ := id h
    have h1 : e - f = 5 := h1
    have a0 : tq t (f + ((0 : Nat) : Int)) = 114 := h2 0 (by decide)
    have a1 : tq t (f + ((1 : Nat) : Int)) = 101 := h2 1 (by decide)
    have a2 : tq t (f + ((2 : Nat) : Int)) = 112 := h2 2 (by decide)
    have a3 : tq t (f + ((3 : Nat) : Int)) = 97 := h2 3 (by decide)
    have a4 : tq t (f + ((4 : Nat) : Int)) = 121 := h2 4 (by decide)
    have hp := hw.1 (by omega)
    rw [show (e - f).toNat = 5 from by omega, pk_5, a0, a1, a2, a3, a4] at hp
    exact Or.inl ⟨h, Int64.toInt_inj.mp (by rw [hp]; decide)⟩
  · refine Or.inr ⟨h, fun q => h ?_⟩
    have hv : w.toInt = 491328135545 := by rw [q]; decide
    have h8 : e - f ≤ 8 := by
      rcases Int.lt_or_le 8 (e - f) with z | z
      · have := hw.2 z; rw [this] at hv; exact absurd hv (by decide)
      · exact z
    have hp := hw.1 h8
    rw [hv] at hp
    have L : ∀ j : Nat, (j : Int) < e - f → 97 ≤ tq t (f + (j : Int)) ∧ tq t (f + (j : Int)) ≤ 122 := fun j hj => hl _ (by omega) (by omega)
    rcases (by omega : (e - f).toNat = 1 ∨ (e - f).toNat = 2 ∨ (e - f).toNat = 3 ∨ (e - f).toNat = 4 ∨ (e - f).toNat = 5 ∨ (e - f).toNat = 6 ∨ (e - f).toNat = 7 ∨ (e - f).toNat = 8) with k | k | k | k | k | k | k | k
    · rw [k, pk_1] at hp
      have l0 := L 0 (by omega)
      omega
    · rw [k, pk_2] at hp
      have l0 := L 0 (by omega)
      have l1 := L 1 (by omega)
      omega
    · rw [k, pk_3] at hp
      have l0 := L 0 (by omega)
      have l1 := L 1 (by omega)
      have l2 := L 2 (by omega)
      omega
    · rw [k, pk_4] at hp
      have l0 := L 0 (by omega)
      have l1 := L 1 (by omega)
      have l2 := L 2 (by omega)
      have l3 := L 3 (by omega)
      omega
    · rw [k, pk_5] at hp
      have l0 := L 0 (by omega)
      have l1 := L 1 (by omega)
      have l2 := L 2 (by omega)
      have l3 := L 3 (by omega)
      have l4 := L 4 (by omega)
      refine ⟨by show e - f = 5; omega, fun j hj => ?_⟩
      match j, hj with
      | 0, _ => show tq t (f + ((0 : Nat) : Int)) = 114; omega
      | 1, _ => show tq t (f + ((1 : Nat) : Int)) = 101; omega
      | 2, _ => show tq t (f + ((2 : Nat) : Int)) = 112; omega
      | 3, _ => show tq t (f + ((3 : Nat) : Int)) = 97; omega
      | 4, _ => show tq t (f + ((4 : Nat) : Int)) = 121; omega
      | j + 5, hj => exact absurd hj (by show ¬ j + 5 < 5; omega)
    · rw [k, pk_6] at hp
      have l0 := L 0 (by omega)
      have l1 := L 1 (by omega)
      have l2 := L 2 (by omega)
      have l3 := L 3 (by omega)
      have l4 := L 4 (by omega)
      have l5 := L 5 (by omega)
      omega
    · rw [k, pk_7] at hp
      have l0 := L 0 (by omega)
      have l1 := L 1 (by omega)
      have l2 := L 2 (by omega)
      have l3 := L 3 (by omega)
      have l4 := L 4 (by omega)
      have l5 := L 5 (by omega)
      have l6 := L 6 (by omega)
      omega
    · rw [k, pk_8] at hp
      have l0 := L 0 (by omega)
      have l1 := L 1 (by omega)
      have l2 := L 2 (by omega)
      have l3 := L 3 (by omega)
      have l4 := L 4 (by omega)
      have l5 := L 5 (by omega)
      have l6 := L 6 (by omega)
      have l7 := L 7 (by omega)
      omega
theorem spw_9 {t : Nat → Int32} {f e : Int} {w : Int64} (hl : ∀ j : Int, f ≤ j → j < e → lt_ (tq t j)) (hfe : f < e) (hw : Wd t f e w) : (Sp t f e 9 ∧ w = 1752527720) ∨ (¬ Sp t f e 9 ∧ w ≠ 1752527720) := by
  by_cases h : Sp t f e 9
  · obtain ⟨h1, h2⟩ := id h
    have h1 : e - f = 4 := h1
    have a0 : tq t (f + ((0 : Nat) : Int)) = 104 := h2 0 (by decide)
    have a1 : tq t (f + ((1 : Nat) : Int)) = 117 := h2 1 (by decide)
    have a2 : tq t (f + ((2 : Nat) : Int)) = 115 := h2 2 (by decide)
    have a3 : tq t (f + ((3 : Nat) : Int)) = 104 := h2 3 (by decide)
    have hp := hw.1 (by omega)
    rw [show (e - f).toNat = 4 from by omega, pk_4, a0, a1, a2, a3] at hp
    exact Or.inl ⟨h, Int64.toInt_inj.mp (by rw [hp]; decide)⟩
  · refine Or.inr ⟨h, fun q => h ?_⟩
    have hv : w.toInt = 1752527720 := by rw [q]; decide
    have h8 : e - f ≤ 8 := by
      rcases Int.lt_or_le 8 (e - f) with z | z
      · have := hw.2 z; rw [this] at hv; exact absurd hv (by decide)
      · exact z
    have hp := hw.1 h8
    rw [hv] at hp
    have L : ∀ j : Nat, (j : Int) < e - f → 97 ≤ tq t (f + (j : Int)) ∧ tq t (f + (j : Int)) ≤ 122 := fun j hj => hl _ (by omega) (by omega)
    rcases (by omega : (e - f).toNat = 1 ∨ (e - f).toNat = 2 ∨ (e - f).toNat = 3 ∨ (e - f).toNat = 4 ∨ (e - f).toNat = 5 ∨ (e - f).toNat = 6 ∨ (e - f).toNat = 7 ∨ (e - f).toNat = 8) with k | k | k | k | k | k | k | k
    · rw [k, pk_1] at hp
      have l0 := L 0 (by omega)
      omega
    · rw [k, pk_2] at hp
      have l0 := L 0 (by omega)
      have l1 := L 1 (by omega)
      omega
    · rw [k, pk_3] at hp
      have l0 := L 0 (by omega)
      have l1 := L 1 (by omega)
      have l2 := L 2 (by omega)
      omega
    · rw [k, pk_4] at hp
      have l0 := L 0 (by omega)
      have l1 := L 1 (by omega)
      have l2 := L 2 (by omega)
      have l3 := L 3 (by omega)
      refine ⟨by show e - f = 4; omega, fun j hj => ?_⟩
      match j, hj with
      | 0, _ => show tq t (f + ((0 : Nat) : Int)) = 104; omega
      | 1, _ => show tq t (f + ((1 : Nat) : Int)) = 117; omega
      | 2, _ => show tq t (f + ((2 : Nat) : Int)) = 115; omega
      | 3, _ => show tq t (f + ((3 : Nat) : Int)) = 104; omega
      | j + 4, hj => exact absurd hj (by show ¬ j + 4 < 4; omega)
    · rw [k, pk_5] at hp
      have l0 := L 0 (by omega)
      have l1 := L 1 (by omega)
      have l2 := L 2 (by omega)
      have l3 := L 3 (by omega)
      have l4 := L 4 (by omega)
      omega
    · rw [k, pk_6] at hp
      have l0 := L 0 (by omega)
      have l1 := L 1 (by omega)
      have l2 := L 2 (by omega)
      have l3 := L 3 (by omega)
      have l4 := L 4 (by omega)
      have l5 := L 5 (by omega)
      omega
    · rw [k, pk_7] at hp
      have l0 := L 0 (by omega)
      have l1 := L 1 (by omega)
      have l2 := L 2 (by omega)
      have l3 := L 3 (by omega)
      have l4 := L 4 (by omega)
      have l5 := L 5 (by omega)
      have l6 := L 6 (by omega)
      omega
    · rw [k, pk_8] at hp
      have l0 := L 0 (by omega)
      have l1 := L 1 (by omega)
      have l2 := L 2 (by omega)
      have l3 := L 3 (by omega)
      have l4 := L 4 (by omega)
      have l5 := L 5 (by omega)
      have l6 := L 6 (by omega)
      have l7 := L 7 (by omega)
      omega
theorem spw_10 {t : Nat → Int32} {f e : Int} {w : Int64} (hl : ∀ j : Int, f ≤ j → j < e → lt_ (tq t j)) (hfe : f < e) (hw : Wd t f e w) : (Sp t f e 10 ∧ w = 495874699885) ∨ (¬ Sp t f e 10 ∧ w ≠ 495874699885) := by
  by_cases h : Sp t f e 10
  · obtain ⟨h1, h2⟩ := id h
    have h1 : e - f = 5 := h1
    have a0 : tq t (f + ((0 : Nat) : Int)) = 115 := h2 0 (by decide)
    have a1 : tq t (f + ((1 : Nat) : Int)) = 116 := h2 1 (by decide)
    have a2 : tq t (f + ((2 : Nat) : Int)) = 111 := h2 2 (by decide)
    have a3 : tq t (f + ((3 : Nat) : Int)) = 114 := h2 3 (by decide)
    have a4 : tq t (f + ((4 : Nat) : Int)) = 109 := h2 4 (by decide)
    have hp := hw.1 (by omega)
    rw [show (e - f).toNat = 5 from by omega, pk_5, a0, a1, a2, a3, a4] at hp
    exact Or.inl ⟨h, Int64.toInt_inj.mp (by rw [hp]; decide)⟩
  · refine Or.inr ⟨h, fun q => h ?_⟩
    have hv : w.toInt = 495874699885 := by rw [q]; decide
    have h8 : e - f ≤ 8 := by
      rcases Int.lt_or_le 8 (e - f) with z | z
      · have := hw.2 z; rw [this] at hv; exact absurd hv (by decide)
      · exact z
    have hp := hw.1 h8
    rw [hv] at hp
    have L : ∀ j : Nat, (j : Int) < e - f → 97 ≤ tq t (f + (j : Int)) ∧ tq t (f + (j : Int)) ≤ 122 := fun j hj => hl _ (by omega) (by omega)
    rcases (by omega : (e - f).toNat = 1 ∨ (e - f).toNat = 2 ∨ (e - f).toNat = 3 ∨ (e - f).toNat = 4 ∨ (e - f).toNat = 5 ∨ (e - f).toNat = 6 ∨ (e - f).toNat = 7 ∨ (e - f).toNat = 8) with k | k | k | k | k | k | k | k
    · rw [k, pk_1] at hp
      have l0 := L 0 (by omega)
      omega
    · rw [k, pk_2] at hp
      have l0 := L 0 (by omega)
      have l1 := L 1 (by omega)
      omega
    · rw [k, pk_3] at hp
      have l0 := L 0 (by omega)
      have l1 := L 1 (by omega)
      have l2 := L 2 (by omega)
      omega
    · rw [k, pk_4] at hp
      have l0 := L 0 (by omega)
      have l1 := L 1 (by omega)
      have l2 := L 2 (by omega)
      have l3 := L 3 (by omega)
      omega
    · rw [k, pk_5] at hp
      have l0 := L 0 (by omega)
      have l1 := L 1 (by omega)
      have l2 := L 2 (by omega)
      have l3 := L 3 (by omega)
      have l4 := L 4 (by omega)
      refine ⟨by show e - f = 5; omega, fun j hj => ?_⟩
      match j, hj with
      | 0, _ => show tq t (f + ((0 : Nat) : Int)) = 115; omega
      | 1, _ => show tq t (f + ((1 : Nat) : Int)) = 116; omega
      | 2, _ => show tq t (f + ((2 : Nat) : Int)) = 111; omega
      | 3, _ => show tq t (f + ((3 : Nat) : Int)) = 114; omega
      | 4, _ => show tq t (f + ((4 : Nat) : Int)) = 109; omega
      | j + 5, hj => exact absurd hj (by show ¬ j + 5 < 5; omega)
    · rw [k, pk_6] at hp
      have l0 := L 0 (by omega)
      have l1 := L 1 (by omega)
      have l2 := L 2 (by omega)
      have l3 := L 3 (by omega)
      have l4 := L 4 (by omega)
      have l5 := L 5 (by omega)
      omega
    · rw [k, pk_7] at hp
      have l0 := L 0 (by omega)
      have l1 := L 1 (by omega)
      have l2 := L 2 (by omega)
      have l3 := L 3 (by omega)
      have l4 := L 4 (by omega)
      have l5 := L 5 (by omega)
      have l6 := L 6 (by omega)
      omega
    · rw [k, pk_8] at hp
      have l0 := L 0 (by omega)
      have l1 := L 1 (by omega)
      have l2 := L 2 (by omega)
      have l3 := L 3 (by omega)
      have l4 := L 4 (by omega)
      have l5 := L 5 (by omega)
      have l6 := L 6 (by omega)
      have l7 := L 7 (by omega)
      omega
theorem spw_11 {t : Nat → Int32} {f e : Int} {w : Int64} (hl : ∀ j : Int, f ≤ j → j < e → lt_ (tq t j)) (hfe : f < e) (hw : Wd t f e w) : (Sp t f e 11 ∧ w = 111524789056101) ∨ (¬ Sp t f e 11 ∧ w ≠ 111524789056101) := by
  by_cases h : Sp t f e 11
  · obtain ⟨h1, h2⟩ := id h
    have h1 : e - f = 6 := h1
    have a0 : tq t (f + ((0 : Nat) : Int)) = 101 := h2 0 (by decide)
    have a1 : tq t (f + ((1 : Nat) : Int)) = 110 := h2 1 (by decide)
    have a2 : tq t (f + ((2 : Nat) : Int)) = 99 := h2 2 (by decide)
    have a3 : tq t (f + ((3 : Nat) : Int)) = 111 := h2 3 (by decide)
    have a4 : tq t (f + ((4 : Nat) : Int)) = 114 := h2 4 (by decide)
    have a5 : tq t (f + ((5 : Nat) : Int)) = 101 := h2 5 (by decide)
    have hp := hw.1 (by omega)
    rw [show (e - f).toNat = 6 from by omega, pk_6, a0, a1, a2, a3, a4, a5] at hp
    exact Or.inl ⟨h, Int64.toInt_inj.mp (by rw [hp]; decide)⟩
  · refine Or.inr ⟨h, fun q => h ?_⟩
    have hv : w.toInt = 111524789056101 := by rw [q]; decide
    have h8 : e - f ≤ 8 := by
      rcases Int.lt_or_le 8 (e - f) with z | z
      · have := hw.2 z; rw [this] at hv; exact absurd hv (by decide)
      · exact z
    have hp := hw.1 h8
    rw [hv] at hp
    have L : ∀ j : Nat, (j : Int) < e - f → 97 ≤ tq t (f + (j : Int)) ∧ tq t (f + (j : Int)) ≤ 122 := fun j hj => hl _ (by omega) (by omega)
    rcases (by omega : (e - f).toNat = 1 ∨ (e - f).toNat = 2 ∨ (e - f).toNat = 3 ∨ (e - f).toNat = 4 ∨ (e - f).toNat = 5 ∨ (e - f).toNat = 6 ∨ (e - f).toNat = 7 ∨ (e - f).toNat = 8) with k | k | k | k | k | k | k | k
    · rw [k, pk_1] at hp
      have l0 := L 0 (by omega)
      omega
    · rw [k, pk_2] at hp
      have l0 := L 0 (by omega)
      have l1 := L 1 (by omega)
      omega
    · rw [k, pk_3] at hp
      have l0 := L 0 (by omega)
      have l1 := L 1 (by omega)
      have l2 := L 2 (by omega)
      omega
    · rw [k, pk_4] at hp
      have l0 := L 0 (by omega)
      have l1 := L 1 (by omega)
      have l2 := L 2 (by omega)
      have l3 := L 3 (by omega)
      omega
    · rw [k, pk_5] at hp
      have l0 := L 0 (by omega)
      have l1 := L 1 (by omega)
      have l2 := L 2 (by omega)
      have l3 := L 3 (by omega)
      have l4 := L 4 (by omega)
      omega
    · rw [k, pk_6] at hp
      have l0 := L 0 (by omega)
      have l1 := L 1 (by omega)
      have l2 := L 2 (by omega)
      have l3 := L 3 (by omega)
      have l4 := L 4 (by omega)
      have l5 := L 5 (by omega)
      refine ⟨by show e - f = 6; omega, fun j hj => ?_⟩
      match j, hj with
      | 0, _ => show tq t (f + ((0 : Nat) : Int)) = 101; omega
      | 1, _ => show tq t (f + ((1 : Nat) : Int)) = 110; omega
      | 2, _ => show tq t (f + ((2 : Nat) : Int)) = 99; omega
      | 3, _ => show tq t (f + ((3 : Nat) : Int)) = 111; omega
      | 4, _ => show tq t (f + ((4 : Nat) : Int)) = 114; omega
      | 5, _ => show tq t (f + ((5 : Nat) : Int)) = 101; omega
      | j + 6, hj => exact absurd hj (by show ¬ j + 6 < 6; omega)
    · rw [k, pk_7] at hp
      have l0 := L 0 (by omega)
      have l1 := L 1 (by omega)
      have l2 := L 2 (by omega)
      have l3 := L 3 (by omega)
      have l4 := L 4 (by omega)
      have l5 := L 5 (by omega)
      have l6 := L 6 (by omega)
      omega
    · rw [k, pk_8] at hp
      have l0 := L 0 (by omega)
      have l1 := L 1 (by omega)
      have l2 := L 2 (by omega)
      have l3 := L 3 (by omega)
      have l4 := L 4 (by omega)
      have l5 := L 5 (by omega)
      have l6 := L 6 (by omega)
      have l7 := L 7 (by omega)
      omega
theorem spw_12 {t : Nat → Int32} {f e : Int} {w : Int64} (hl : ∀ j : Int, f ≤ j → j < e → lt_ (tq t j)) (hfe : f < e) (hw : Wd t f e w) : (Sp t f e 12 ∧ w = 474214787188) ∨ (¬ Sp t f e 12 ∧ w ≠ 474214787188) := by
  by_cases h : Sp t f e 12
  · obtain ⟨h1, h2⟩ := id h
    have h1 : e - f = 5 := h1
    have a0 : tq t (f + ((0 : Nat) : Int)) = 110 := h2 0 (by decide)
    have a1 : tq t (f + ((1 : Nat) : Int)) = 105 := h2 1 (by decide)
    have a2 : tq t (f + ((2 : Nat) : Int)) = 103 := h2 2 (by decide)
    have a3 : tq t (f + ((3 : Nat) : Int)) = 104 := h2 3 (by decide)
    have a4 : tq t (f + ((4 : Nat) : Int)) = 116 := h2 4 (by decide)
    have hp := hw.1 (by omega)
    rw [show (e - f).toNat = 5 from by omega, pk_5, a0, a1, a2, a3, a4] at hp
    exact Or.inl ⟨h, Int64.toInt_inj.mp (by rw [hp]; decide)⟩
  · refine Or.inr ⟨h, fun q => h ?_⟩
    have hv : w.toInt = 474214787188 := by rw [q]; decide
    have h8 : e - f ≤ 8 := by
      rcases Int.lt_or_le 8 (e - f) with z | z
      · have := hw.2 z; rw [this] at hv; exact absurd hv (by decide)
      · exact z
    have hp := hw.1 h8
    rw [hv] at hp
    have L : ∀ j : Nat, (j : Int) < e - f → 97 ≤ tq t (f + (j : Int)) ∧ tq t (f + (j : Int)) ≤ 122 := fun j hj => hl _ (by omega) (by omega)
    rcases (by omega : (e - f).toNat = 1 ∨ (e - f).toNat = 2 ∨ (e - f).toNat = 3 ∨ (e - f).toNat = 4 ∨ (e - f).toNat = 5 ∨ (e - f).toNat = 6 ∨ (e - f).toNat = 7 ∨ (e - f).toNat = 8) with k | k | k | k | k | k | k | k
    · rw [k, pk_1] at hp
      have l0 := L 0 (by omega)
      omega
    · rw [k, pk_2] at hp
      have l0 := L 0 (by omega)
      have l1 := L 1 (by omega)
      omega
    · rw [k, pk_3] at hp
      have l0 := L 0 (by omega)
      have l1 := L 1 (by omega)
      have l2 := L 2 (by omega)
      omega
    · rw [k, pk_4] at hp
      have l0 := L 0 (by omega)
      have l1 := L 1 (by omega)
      have l2 := L 2 (by omega)
      have l3 := L 3 (by omega)
      omega
    · rw [k, pk_5] at hp
      have l0 := L 0 (by omega)
      have l1 := L 1 (by omega)
      have l2 := L 2 (by omega)
      have l3 := L 3 (by omega)
      have l4 := L 4 (by omega)
      refine ⟨by show e - f = 5; omega, fun j hj => ?_⟩
      match j, hj with
      | 0, _ => show tq t (f + ((0 : Nat) : Int)) = 110; omega
      | 1, _ => show tq t (f + ((1 : Nat) : Int)) = 105; omega
      | 2, _ => show tq t (f + ((2 : Nat) : Int)) = 103; omega
      | 3, _ => show tq t (f + ((3 : Nat) : Int)) = 104; omega
      | 4, _ => show tq t (f + ((4 : Nat) : Int)) = 116; omega
      | j + 5, hj => exact absurd hj (by show ¬ j + 5 < 5; omega)
    · rw [k, pk_6] at hp
      have l0 := L 0 (by omega)
      have l1 := L 1 (by omega)
      have l2 := L 2 (by omega)
      have l3 := L 3 (by omega)
      have l4 := L 4 (by omega)
      have l5 := L 5 (by omega)
      omega
    · rw [k, pk_7] at hp
      have l0 := L 0 (by omega)
      have l1 := L 1 (by omega)
      have l2 := L 2 (by omega)
      have l3 := L 3 (by omega)
      have l4 := L 4 (by omega)
      have l5 := L 5 (by omega)
      have l6 := L 6 (by omega)
      omega
    · rw [k, pk_8] at hp
      have l0 := L 0 (by omega)
      have l1 := L 1 (by omega)
      have l2 := L 2 (by omega)
      have l3 := L 3 (by omega)
      have l4 := L 4 (by omega)
      have l5 := L 5 (by omega)
      have l6 := L 6 (by omega)
      have l7 := L 7 (by omega)
      omega
theorem spw_13 {t : Nat → Int32} {f e : Int} {w : Int64} (hl : ∀ j : Int, f ≤ j → j < e → lt_ (tq t j)) (hfe : f < e) (hw : Wd t f e w) : (Sp t f e 13 ∧ w = 448377483876) ∨ (¬ Sp t f e 13 ∧ w ≠ 448377483876) := by
  by_cases h : Sp t f e 13
  · obtain ⟨h1, h2⟩ := id h
    have h1 : e - f = 5 := h1
    have a0 : tq t (f + ((0 : Nat) : Int)) = 104 := h2 0 (by decide)
    have a1 : tq t (f + ((1 : Nat) : Int)) = 101 := h2 1 (by decide)
    have a2 : tq t (f + ((2 : Nat) : Int)) = 97 := h2 2 (by decide)
    have a3 : tq t (f + ((3 : Nat) : Int)) = 114 := h2 3 (by decide)
    have a4 : tq t (f + ((4 : Nat) : Int)) = 100 := h2 4 (by decide)
    have hp := hw.1 (by omega)
    rw [show (e - f).toNat = 5 from by omega, pk_5, a0, a1, a2, a3, a4] at hp
    exact Or.inl ⟨h, Int64.toInt_inj.mp (by rw [hp]; decide)⟩
  · refine Or.inr ⟨h, fun q => h ?_⟩
    have hv : w.toInt = 448377483876 := by rw [q]; decide
    have h8 : e - f ≤ 8 := by
      rcases Int.lt_or_le 8 (e - f) with z | z
      · have := hw.2 z; rw [this] at hv; exact absurd hv (by decide)
      · exact z
    have hp := hw.1 h8
    rw [hv] at hp
    have L : ∀ j : Nat, (j : Int) < e - f → 97 ≤ tq t (f + (j : Int)) ∧ tq t (f + (j : Int)) ≤ 122 := fun j hj => hl _ (by omega) (by omega)
    rcases (by omega : (e - f).toNat = 1 ∨ (e - f).toNat = 2 ∨ (e - f).toNat = 3 ∨ (e - f).toNat = 4 ∨ (e - f).toNat = 5 ∨ (e - f).toNat = 6 ∨ (e - f).toNat = 7 ∨ (e - f).toNat = 8) with k | k | k | k | k | k | k | k
    · rw [k, pk_1] at hp
      have l0 := L 0 (by omega)
      omega
    · rw [k, pk_2] at hp
      have l0 := L 0 (by omega)
      have l1 := L 1 (by omega)
      omega
    · rw [k, pk_3] at hp
      have l0 := L 0 (by omega)
      have l1 := L 1 (by omega)
      have l2 := L 2 (by omega)
      omega
    · rw [k, pk_4] at hp
      have l0 := L 0 (by omega)
      have l1 := L 1 (by omega)
      have l2 := L 2 (by omega)
      have l3 := L 3 (by omega)
      omega
    · rw [k, pk_5] at hp
      have l0 := L 0 (by omega)
      have l1 := L 1 (by omega)
      have l2 := L 2 (by omega)
      have l3 := L 3 (by omega)
      have l4 := L 4 (by omega)
      refine ⟨by show e - f = 5; omega, fun j hj => ?_⟩
      match j, hj with
      | 0, _ => show tq t (f + ((0 : Nat) : Int)) = 104; omega
      | 1, _ => show tq t (f + ((1 : Nat) : Int)) = 101; omega
      | 2, _ => show tq t (f + ((2 : Nat) : Int)) = 97; omega
      | 3, _ => show tq t (f + ((3 : Nat) : Int)) = 114; omega
      | 4, _ => show tq t (f + ((4 : Nat) : Int)) = 100; omega
      | j + 5, hj => exact absurd hj (by show ¬ j + 5 < 5; omega)
    · rw [k, pk_6] at hp
      have l0 := L 0 (by omega)
      have l1 := L 1 (by omega)
      have l2 := L 2 (by omega)
      have l3 := L 3 (by omega)
      have l4 := L 4 (by omega)
      have l5 := L 5 (by omega)
      omega
    · rw [k, pk_7] at hp
      have l0 := L 0 (by omega)
      have l1 := L 1 (by omega)
      have l2 := L 2 (by omega)
      have l3 := L 3 (by omega)
      have l4 := L 4 (by omega)
      have l5 := L 5 (by omega)
      have l6 := L 6 (by omega)
      omega
    · rw [k, pk_8] at hp
      have l0 := L 0 (by omega)
      have l1 := L 1 (by omega)
      have l2 := L 2 (by omega)
      have l3 := L 3 (by omega)
      have l4 := L 4 (by omega)
      have l5 := L 5 (by omega)
      have l6 := L 6 (by omega)
      have l7 := L 7 (by omega)
      omega
theorem len_sp {i : Nat} {u : Int32} (hi : i < 14) (h : R_s_length i u) : u.toInt = ((stL.getD i 0 : Nat) : Int) ∧ u.toInt ≤ 6 := by
  obtain ⟨z, ez, -, y, ey, e⟩ := h
  rw [e, ey, ez]
  have key : ∀ i, i < 14 → (Int32.ofNat (stL.getD i 0) >>> (0 &&& (31 : Int32))).toInt = ((stL.getD i 0 : Nat) : Int) ∧ (Int32.ofNat (stL.getD i 0) >>> (0 &&& (31 : Int32))).toInt ≤ 6 := by decide
  exact key i hi
theorem chr_sp {i : Nat} {a u : Int32} (hi : i < 14) (ha : 0 ≤ a.toInt ∧ a.toInt ≤ 5) (h : R_s_charAt i a u) : u = (stB.getD i []).getD a.toInt.toNat 0 := by
  obtain ⟨-, r, ⟨z, -, h⟩, e⟩ := h
  obtain ⟨z3, e3, z4, e4, z5, e5, e6⟩ := h
  rw [e, e6, e5, e4, e3, mi_cl]
  have key : ∀ i, i < 14 → ∀ j, j < 6 → UInt32.toInt32 (Int32.toUInt32 ((stB.getD i []).getD j 0 &&& 255) % 65536) = (stB.getD i []).getD j 0 := by decide
  exact key i hi a.toInt.toNat (by omega)
theorem spells_sp {t : Nat → Int32} {f e u : Int32} {i : Nat} (hi : i < 14) (hf : 0 ≤ f.toInt) (hfe : f.toInt ≤ e.toInt) (he : e.toInt ≤ 600) (h : R_k_spells e f i t u) : (u.toInt ≠ 0 ∧ Sp t f.toInt e.toInt i) ∨ (u.toInt = 0 ∧ ¬ Sp t f.toInt e.toInt i) := by
  obtain ⟨z, ez, r, hr, h⟩ := h
  have hz : z.toInt = e.toInt - f.toInt := by rw [ez]; exact mi_sub (by omega) (by omega)
  have hr := len_sp hi hr
  rcases h with ⟨q, h⟩ | ⟨q, h⟩
  · have key : ∀ (N : Nat) (l : Int32), fx (T_k_spells_20 i f t u) N l → (0 ≤ l.toInt ∧ l.toInt ≤ r.toInt ∧ (∀ j : Nat, (j : Int) < l.toInt → tq t (f.toInt + (j : Int)) = ((stB.getD i []).getD j 0).toInt)) → (u.toInt ≠ 0 ∧ Sp t f.toInt e.toInt i) ∨ (u.toInt = 0 ∧ ¬ Sp t f.toInt e.toInt i) := by
      refine fx_ind ?_
      rintro K l ih ⟨b0, h0, h⟩ ⟨i1, i2, i3⟩
      have h0 := len_sp hi h0
      rcases h with ⟨c, e1⟩ | ⟨c, b1, e1, b2, e2, b3, h3, h⟩
      · exact Or.inl ⟨by rw [e1]; decide, by omega, fun j hj => i3 j (by omega)⟩
      · have h1 : b1.toInt = f.toInt + l.toInt := by rw [e1]; exact mi_add (by omega) (by omega)
        have h2 := tq_at e2
        rw [h1] at h2
        have h3 := chr_sp hi (by omega) h3
        have hl : ((l.toInt.toNat : Nat) : Int) = l.toInt := by omega
        rcases h with ⟨c2, b4, e4, h⟩ | ⟨c2, e1⟩
        · have h4 : b4.toInt = l.toInt + 1 := by rw [e4]; exact mi_addc (by decide) (by omega) (by omega)
          refine ih b4 h ?_
          rw [h4]
          refine ⟨by omega, by omega, fun j hj => ?_⟩
          by_cases hjl : (j : Int) < l.toInt
          · exact i3 j hjl
          · have ej : j = l.toInt.toNat := by omega
            subst ej
            rw [hl, ← h2, ← h3]; exact c2
        · refine Or.inr ⟨by rw [e1]; decide, fun hs => c2 ?_⟩
          have := hs.2 l.toInt.toNat (by omega)
          rw [hl, ← h2, ← h3] at this
          exact this
    exact key _ _ h ⟨by decide, by have h00 : (0 : Int32).toInt = 0 := by decide
                                   rw [h00]; omega, fun j hj => absurd hj (by have h00 : (0 : Int32).toInt = 0 := by decide
                                                                              rw [h00]; omega)⟩
  · exact Or.inr ⟨by rw [h]; decide, fun hs => q (by rw [hz, hs.1, hr.1])⟩
theorem word_sp {a : Int32} {i : Nat} (ha : 0 ≤ a.toInt ∧ a.toInt ≤ 13) (h : R_k_wordOf a i) : i = a.toInt.toNat := by
  rcases h with ⟨c, e⟩ | ⟨c, e⟩ | ⟨c, e⟩ | ⟨c, e⟩ | ⟨c, e⟩ | ⟨c, e⟩ | ⟨c, e⟩ | ⟨c, e⟩ | ⟨c, e⟩ | ⟨c, e⟩ | ⟨c, e⟩ | ⟨c, e⟩ | ⟨c, e⟩ | ⟨c, e⟩ <;> omega
/-- the kind of a word among those from lo on to hi -/
def Kd (t : Nat → Int32) (f e lo hi k : Int) : Prop := (k = -1 ∧ ∀ i : Nat, lo ≤ (i : Int) → (i : Int) < hi → ¬ Sp t f e i) ∨ (lo ≤ k ∧ k < hi ∧ Sp t f e k.toNat)
theorem kind_sp {t : Nat → Int32} {a f e u : Int32} {lo hi : Int} (h0 : (fl_.getD (Int32.toNatClampNeg a) 0).toInt = lo) (h1 : (fl_.getD (Int32.toNatClampNeg (a + 1)) 0).toInt = hi) (hlo : 0 ≤ lo) (hlh : lo ≤ hi) (hhi : hi ≤ 14) (hf : 0 ≤ f.toInt) (hfe : f.toInt ≤ e.toInt) (he : e.toInt ≤ 600) (h : R_k_kindOf a e f t u) : Kd t f.toInt e.toInt lo hi u.toInt := by
  obtain ⟨z, -, y, ey, h⟩ := h
  have hy : y.toInt = lo := by rw [ey]; exact h0
  have key : ∀ (N : Nat) (l : Int32), fx (T_k_kindOf_22 a e f t u) N l → (lo ≤ l.toInt ∧ l.toInt ≤ hi ∧ (∀ i : Nat, lo ≤ (i : Int) → (i : Int) < l.toInt → ¬ Sp t f.toInt e.toInt i)) → Kd t f.toInt e.toInt lo hi u.toInt := by
    refine fx_ind ?_
    rintro K l ih ⟨b0, e0, b1, e1, h⟩ ⟨i1, i2, i3⟩
    have hb1 : b1.toInt = hi := by rw [e1, e0]; exact h1
    rcases h with ⟨c, eu⟩ | ⟨c, b2, h2, b3, h3, h⟩
    · exact Or.inl ⟨by rw [eu]; decide, fun i hi1 hi2 => i3 i hi1 (by omega)⟩
    · have h2 := word_sp (by omega) h2
      have h3 := spells_sp (by omega) hf hfe he h3
      have hl : ((l.toInt.toNat : Nat) : Int) = l.toInt := by omega
      rcases h with ⟨c2, b4, e4, h⟩ | ⟨c2, eu⟩
      · have h4 : b4.toInt = l.toInt + 1 := by rw [e4]; exact mi_addc (by decide) (by omega) (by omega)
        refine ih b4 h ?_
        rw [h4]
        refine ⟨by omega, by omega, fun i hi1 hi2 => ?_⟩
        by_cases hil : (i : Int) < l.toInt
        · exact i3 i hi1 hil
        · have ei : i = b2 := by omega
          rcases h3 with ⟨p, q⟩ | ⟨p, q⟩
          · exact absurd c2 p
          · rw [ei]; exact q
      · rcases h3 with ⟨p, q⟩ | ⟨p, q⟩
        · exact Or.inr ⟨by rw [eu]; omega, by rw [eu]; omega, by rw [eu, ← h2]; exact q⟩
        · exact absurd p c2
  exact key _ _ h ⟨by omega, by omega, fun i hi1 hi2 => absurd hi2 (by omega)⟩
