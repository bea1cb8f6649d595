/-! what the two tell: minutes heard, deeds -/
theorem is_sp {m : Nat → Int32} {k a r : Int32} (h : R_j_is m k a r) : (r = 1 ∧ 0 ≤ a.toInt ∧ a.toInt < (m (Int32.toNatClampNeg k)).toInt) ∨ (r = 0 ∧ (a.toInt < 0 ∨ (m (Int32.toNatClampNeg k)).toInt ≤ a.toInt)) := by
  obtain ⟨z, ez, z2, -, q, hq, h⟩ := h
  have hq := in_sp hq
  rw [ez] at hq
  rcases h with ⟨q1, e⟩ | ⟨q0, e⟩
  · rcases hq with ⟨-, p⟩ | ⟨p, -⟩
    · exact Or.inl ⟨e, by omega⟩
    · rw [q1] at p; exact absurd p (by decide)
  · rcases hq with ⟨p, -⟩ | ⟨-, p⟩
    · rw [q0] at p; exact absurd p (by decide)
    · exact Or.inr ⟨e, by omega⟩
theorem ata_0 {a t : Int} (h : ((a < 0) ∧ (True)) ∨ ((0 ≤ a) ∧ (((a < t) ∧ (((a ≠ 0) ∧ (False)) ∨ ((a = 0) ∧ (False)))) ∨ ((t ≤ a) ∧ (True))))) : a < 0 ∨ t ≤ a := by
  rcases h with ⟨c, -⟩ | ⟨c, ⟨-, ⟨-, f⟩ | ⟨-, f⟩⟩ | ⟨d, -⟩⟩
  · exact Or.inl c
  · exact f.elim
  · exact f.elim
  · exact Or.inr d
theorem ata_1 {a t : Int} (h : ((a < 0) ∧ (False)) ∨ ((0 ≤ a) ∧ (((a < t) ∧ (((a ≠ 0) ∧ (True)) ∨ ((a = 0) ∧ (False)))) ∨ ((t ≤ a) ∧ (False))))) : 1 ≤ a ∧ a < t := by
  rcases h with ⟨-, f⟩ | ⟨c, ⟨d, ⟨e, -⟩ | ⟨-, f⟩⟩ | ⟨-, f⟩⟩
  · exact f.elim
  · exact ⟨by omega, d⟩
  · exact f.elim
  · exact f.elim
theorem ata_2 {a t : Int} (h : ((a < 0) ∧ (False)) ∨ ((0 ≤ a) ∧ (((a < t) ∧ (((a ≠ 0) ∧ (False)) ∨ ((a = 0) ∧ (True)))) ∨ ((t ≤ a) ∧ (False))))) : a = 0 ∧ a < t := by
  rcases h with ⟨-, f⟩ | ⟨c, ⟨d, ⟨-, f⟩ | ⟨e, -⟩⟩ | ⟨-, f⟩⟩
  · exact f.elim
  · exact f.elim
  · exact ⟨e, d⟩
  · exact f.elim
theorem hasDark_sp {mn D : Nat → Int32} {a q n : Int32} (h : R_j_hasDark mn a D q n) (hm : (mn 2).toInt ≤ 2) : (q = 1 ∧ (0 ≤ a.toInt ∧ a.toInt < (mn 2).toInt) ∧ n = D (7 * a.toInt.toNat)) ∨ (q = 0 ∧ (a.toInt < 0 ∨ (mn 2).toInt ≤ a.toInt)) := by
  obtain ⟨r1, h1, h⟩ := h
  have h1 := is_sp h1
  have k2 : Int32.toNatClampNeg (2 : Int32) = 2 := by decide
  rw [k2] at h1
  rcases h with ⟨c, z5, e5, z6, e6, r7, h7, h⟩ | ⟨c, r7, h7, h⟩
  · rcases h1 with ⟨-, p⟩ | ⟨p, -⟩
    · have h7 := is_sp h7
      rw [k2] at h7
      have g5 : z5.toInt = 7 * a.toInt := by rw [e5]; exact mi_cmul (by decide) (by omega) (by omega)
      have i5 : Int32.toNatClampNeg z5 = 7 * a.toInt.toNat := by rw [mi_cl, g5]; omega
      rcases h with ⟨c7, e, en⟩ | ⟨c7, e, en⟩
      · exact Or.inl ⟨e, p, by rw [en, e6, i5]⟩
      · rcases h7 with ⟨p7, -⟩ | ⟨-, p7⟩
        · rw [c7] at p7; exact absurd p7 (by decide)
        · exact absurd p (by omega)
    · rw [c] at p; exact absurd p (by decide)
  · rcases h1 with ⟨p, -⟩ | ⟨-, p⟩
    · rw [c] at p; exact absurd p (by decide)
    · have h7 := is_sp h7
      rw [k2] at h7
      rcases h with ⟨c7, e, en⟩ | ⟨c7, e, en⟩
      · rcases h7 with ⟨-, p7⟩ | ⟨p7, -⟩
        · exact absurd p (by omega)
        · rw [c7] at p7; exact absurd p7 (by decide)
      · exact Or.inr ⟨e, p⟩
theorem dark_one {b n mi r r' u1 X : Int32} {D hv : Nat → Int32} (hX : 0 ≤ X.toInt ∧ X.toInt ≤ 1) (hR : RD (fun j => D (7 * X.toInt.toNat + j)) mi hv) (hn : n = D (7 * X.toInt.toNat))
    (hx : ((b.toInt ≠ -1) ∧ (∃ (r6 : Int32), (R_k_hasMinute b mi r6) ∧ (((r6 = 1) ∧ (∃ (z : Int32), (z = hv (Int32.toNatClampNeg b)) ∧ (r = z))) ∨ ((r6 = 0) ∧ (r = ((-2) : Int32)))))) ∨ ((b.toInt = -1) ∧ (r = mi)))
    (hy : ((b.toInt ≠ -1) ∧ (∃ (z8 : Int32), (z8 = n - 1) ∧ (∃ (r9 : Int32), (R_j_in ((b.toInt) : Int) ((0) : Int) ((n.toInt - 1) : Int) r9) ∧ (((r9 = 1) ∧ (∃ (r13 : Int32), (R_j_heardOf X b D r13) ∧ (r' = r13 ∧ u1 = n))) ∨ ((r9 = 0) ∧ (r' = ((-2) : Int32) ∧ u1 = n)))))) ∨ ((b.toInt = -1) ∧ (r' = n ∧ u1 = n))) : r = r' := by
  obtain ⟨c0, A, rA⟩ := hR
  have c0 : D (7 * X.toInt.toNat) = mi := c0
  have en : n = mi := hn.trans c0
  subst en
  rcases hx with ⟨cb, r6, h6, hx⟩ | ⟨cb, e⟩
  · rcases hy with ⟨-, z8, -, r9, h9, hy⟩ | ⟨cb2, -⟩
    · have h9 := in_sp h9
      have h6 : (r6 = 1 ∧ 0 ≤ b.toInt ∧ b.toInt < n.toInt) ∨ (r6 = 0 ∧ (b.toInt < 0 ∨ n.toInt ≤ b.toInt)) := by
        rcases h6 with ⟨c, e⟩ | ⟨c, ⟨d, e⟩ | ⟨d, e⟩⟩
        · exact Or.inr ⟨e, Or.inl c⟩
        · exact Or.inr ⟨e, Or.inr d⟩
        · exact Or.inl ⟨e, c, d⟩
      rcases hx with ⟨c6, z, ez, e⟩ | ⟨c6, e⟩
      · rcases h6 with ⟨-, p⟩ | ⟨p, -⟩
        · rcases hy with ⟨c9, r13, h13, e2, -⟩ | ⟨c9, e2, -⟩
          · obtain ⟨z1, e1, z2, g2, z3, e3, z4, e4, e5⟩ := h13
            have f1 : z1.toInt = 7 * X.toInt := by rw [e1]; exact mi_cmul (by decide) (by omega) (by omega)
            have f2 : z2.toInt = 7 * X.toInt + 1 := by rw [g2, mi_addc (C := 1) (by decide) (by omega) (by omega), f1]
            have f3 : z3.toInt = 7 * X.toInt + 1 + b.toInt := by rw [e3, mi_add (by omega) (by omega), f2]
            have i3 : Int32.toNatClampNeg z3 = 7 * X.toInt.toNat + (1 + b.toInt.toNat) := by rw [mi_cl, f3]; omega
            have := A b.toInt.toNat (by omega)
            have hA : D (7 * X.toInt.toNat + (1 + b.toInt.toNat)) = hv b.toInt.toNat := this
            rw [e, ez, e2, e5, e4, i3, hA, mi_cl]
          · rcases h9 with ⟨p9, -⟩ | ⟨-, p9⟩
            · rw [c9] at p9; exact absurd p9 (by decide)
            · exact absurd p (by omega)
        · rw [c6] at p; exact absurd p (by decide)
      · rcases h6 with ⟨p, -⟩ | ⟨-, p⟩
        · rw [c6] at p; exact absurd p (by decide)
        · rcases hy with ⟨c9, r13, h13, e2, -⟩ | ⟨c9, e2, -⟩
          · rcases h9 with ⟨-, p9⟩ | ⟨p9, -⟩
            · exact absurd p (by omega)
            · rw [c9] at p9; exact absurd p9 (by decide)
          · rw [e, e2]
    · exact absurd cb2 cb
  · rcases hy with ⟨cb2, -⟩ | ⟨-, e2, -⟩
    · exact absurd cb cb2
    · rw [e, e2]
theorem heard_sim {TN : Nat → Int32} {TF M : Nat → Nat → Int32} {x0 x1 r r' : Int32} (h : TLk 0 TN TF M) (hr : 0 ≤ (TN 5).toInt ∧ (TN 5).toInt ≤ 2) (hx : S_x_heard TN TF x0 x1 r) (hy : S_y_heard M x0 x1 r') : r = r' := by
  have h6 : M 4 2 = TN 5 := h.2.2.2.2.2.1
  have hD0 : RD (fun j => M 7 (14 * 0 + j)) (TN 20) (TF 15) := h.2.2.2.2.2.2.2.2.2.2.2.1
  have hD1 : RD (fun j => M 7 (14 * 0 + 7 + j)) (TN 21) (TF 16) := h.2.2.2.2.2.2.2.2.2.2.2.2
  obtain ⟨u1, q, n, hd, hy⟩ := hy
  have hd := hasDark_sp hd (by rw [h6]; omega)
  rw [h6] at hd
  rcases hx with ⟨c, e⟩ | ⟨c, hx⟩ | ⟨c, hx⟩
  · have c := ata_0 c
    rcases hd with ⟨-, p, -⟩ | ⟨q0, -⟩
    · exact absurd p (by omega)
    · rcases hy with ⟨q1, -⟩ | ⟨-, e2, -⟩
      · rw [q0] at q1; exact absurd q1 (by decide)
      · rw [e, e2]
  · have c := ata_1 c
    rcases hd with ⟨q1, p, en⟩ | ⟨-, p⟩
    · rcases hy with ⟨-, hy⟩ | ⟨q0, -⟩
      · refine dark_one (X := x0) (D := M 7) (by omega) (RD_c (fun j _ => ?_) hD1) en hx hy
        show M 7 (7 * x0.toInt.toNat + j) = M 7 (14 * 0 + 7 + j)
        rw [show 7 * x0.toInt.toNat + j = 14 * 0 + 7 + j from by omega]
      · rw [q1] at q0; exact absurd q0 (by decide)
    · exact absurd p (by omega)
  · have c := ata_2 c
    rcases hd with ⟨q1, p, en⟩ | ⟨-, p⟩
    · rcases hy with ⟨-, hy⟩ | ⟨q0, -⟩
      · refine dark_one (X := x0) (D := M 7) (by omega) (RD_c (fun j _ => ?_) hD0) en hx hy
        show M 7 (7 * x0.toInt.toNat + j) = M 7 (14 * 0 + j)
        rw [show 7 * x0.toInt.toNat + j = 14 * 0 + j from by omega]
      · rw [q1] at q0; exact absurd q0 (by decide)
    · exact absurd p (by omega)
def DSp (de : Int32) (pr : Nat → Int32) (b d : Int) (r : Int32) : Prop := ((0 ≤ b ∧ b < de.toInt ∧ 0 ≤ d ∧ d ≤ 3) ∧ r = pr (4 * b.toNat + d.toNat)) ∨ ((b = -1 ∧ d = 0) ∧ r = de) ∨ ((¬ (0 ≤ b ∧ b < de.toInt ∧ 0 ≤ d ∧ d ≤ 3) ∧ ¬ (b = -1 ∧ d = 0)) ∧ r = -2)
theorem DSp_eq {de : Int32} {pr : Nat → Int32} {b d : Int} {r r' : Int32} (h : DSp de pr b d r) (h' : DSp de pr b d r') : r = r' := by
  rcases h with ⟨c, e⟩ | ⟨c, e⟩ | ⟨c, e⟩ <;> rcases h' with ⟨c', e'⟩ | ⟨c', e'⟩ | ⟨c', e'⟩ <;> first | exact e.trans e'.symm | exact absurd c (by omega) | exact absurd c' (by omega)
theorem deed_x {de r b d : Int32} {pr : Nat → Int32} (hde : 0 ≤ de.toInt ∧ de.toInt ≤ 30) (h : (((d.toInt < 0) ∧ (r = ((-2) : Int32))) ∨ ((0 ≤ d.toInt) ∧ (((d.toInt ≤ 3) ∧ (((b.toInt ≠ -1) ∧ (((b.toInt < 0) ∧ (r = ((-2) : Int32))) ∨ ((0 ≤ b.toInt) ∧ (((de.toInt ≤ b.toInt) ∧ (r = ((-2) : Int32))) ∨ ((b.toInt < de.toInt) ∧ (∃ (r_12 : Int32), (R_k_partv b d pr r_12) ∧ (r = r_12))))))) ∨ ((b.toInt = -1) ∧ (((d.toInt ≠ 0) ∧ (r = ((-2) : Int32))) ∨ ((d.toInt = 0) ∧ (r = de)))))) ∨ ((3 < d.toInt) ∧ (r = ((-2) : Int32))))))) : DSp de pr b.toInt d.toInt r := by
  rcases h with ⟨c1, e⟩ | ⟨c1, ⟨c2, ⟨c3, ⟨c4, e⟩ | ⟨c4, ⟨c5, e⟩ | ⟨c5, r12, h12, e⟩⟩⟩ | ⟨c3, ⟨c4, e⟩ | ⟨c4, e⟩⟩⟩ | ⟨c2, e⟩⟩
  · exact Or.inr (Or.inr ⟨by omega, e⟩)
  · exact Or.inr (Or.inr ⟨by omega, e⟩)
  · exact Or.inr (Or.inr ⟨by omega, e⟩)
  · obtain ⟨z1, e1, z2, e2, z3, e3, e4⟩ := h12
    have f1 : z1.toInt = b.toInt * 4 := by rw [e1]; exact mi_mulc (by decide) (by omega) (by omega)
    have f2 : z2.toInt = b.toInt * 4 + d.toInt := by rw [e2, mi_add (by omega) (by omega), f1]
    have i2 : Int32.toNatClampNeg z2 = 4 * b.toInt.toNat + d.toInt.toNat := by rw [mi_cl, f2]; omega
    exact Or.inl ⟨by omega, by rw [e, e4, e3, i2]⟩
  · exact Or.inr (Or.inr ⟨by omega, e⟩)
  · exact Or.inr (Or.inl ⟨⟨c3, c4⟩, e⟩)
  · exact Or.inr (Or.inr ⟨by omega, e⟩)
theorem deeds_sp {X r : Int32} {D : Nat → Int32} (hX : 0 ≤ X.toInt ∧ X.toInt ≤ 1) (h : R_j_deeds X D r) : r = D (121 * X.toInt.toNat) := by
  obtain ⟨z1, e1, z2, e2, e⟩ := h
  have f1 : z1.toInt = 121 * X.toInt := by rw [e1]; exact mi_cmul (by decide) (by omega) (by omega)
  have i1 : Int32.toNatClampNeg z1 = 121 * X.toInt.toNat := by rw [mi_cl, f1]; omega
  rw [e, e2, i1]
theorem deed_y {X de r b d : Int32} {pr D : Nat → Int32} (hX : 0 ≤ X.toInt ∧ X.toInt ≤ 1) (hR : RB (fun j => D (121 * X.toInt.toNat + j)) de pr) (h : ((b.toInt ≠ -1) ∧ (∃ (r7 : Int32), (R_j_deeds X D r7) ∧ (∃ (z10 : Int32), (z10 = r7 - 1) ∧ (∃ (r11 : Int32), (R_j_in ((b.toInt) : Int) ((0) : Int) ((r7.toInt - 1) : Int) r11) ∧ (((r11 = 1) ∧ (∃ (r15 : Int32), (R_j_in ((d.toInt) : Int) ((0) : Int) ((3) : Int) r15) ∧ (((r15 = 1) ∧ (∃ (r19 : Int32), (R_j_deedOf X b d D r19) ∧ (r = r19))) ∨ ((r15 = 0) ∧ (r = ((-2) : Int32)))))) ∨ ((r11 = 0) ∧ (r = ((-2) : Int32)))))))) ∨ ((b.toInt = -1) ∧ (((d.toInt ≠ 0) ∧ (r = ((-2) : Int32))) ∨ ((d.toInt = 0) ∧ (∃ (r24 : Int32), (R_j_deeds X D r24) ∧ (r = r24)))))) : DSp de pr b.toInt d.toInt r := by
  obtain ⟨c0, A, rA⟩ := hR
  have c0 : D (121 * X.toInt.toNat) = de := c0
  rcases h with ⟨c1, r7, h7, z10, -, r11, h11, h⟩ | ⟨c1, ⟨c2, e⟩ | ⟨c2, r24, h24, e⟩⟩
  · have h7 := (deeds_sp hX h7).trans c0
    subst h7
    have h11 := in_sp h11
    rcases h with ⟨c2, r15, h15, h⟩ | ⟨c2, e⟩
    · have h15 := in_sp h15
      rcases h11 with ⟨-, p⟩ | ⟨p, -⟩
      · rcases h with ⟨c3, r19, h19, e⟩ | ⟨c3, e⟩
        · rcases h15 with ⟨-, p15⟩ | ⟨p15, -⟩
          · obtain ⟨z1, e1, z2, e2, z3, e3, z4, e4, z5, e5, z6, e6, e7⟩ := h19
            have f1 : z1.toInt = 121 * X.toInt := by rw [e1]; exact mi_cmul (by decide) (by omega) (by omega)
            have f2 : z2.toInt = 121 * X.toInt + 1 := by rw [e2, mi_addc (C := 1) (by decide) (by omega) (by omega), f1]
            have f3 : z3.toInt = 4 * b.toInt := by rw [e3]; exact mi_cmul (by decide) (by omega) (by omega)
            have f4 : z4.toInt = 121 * X.toInt + 1 + 4 * b.toInt := by rw [e4, mi_add (by omega) (by omega), f2, f3]
            have f5 : z5.toInt = 121 * X.toInt + 1 + 4 * b.toInt + d.toInt := by rw [e5, mi_add (by omega) (by omega), f4]
            have i5 : Int32.toNatClampNeg z5 = 121 * X.toInt.toNat + (1 + 4 * b.toInt.toNat + d.toInt.toNat) := by rw [mi_cl, f5]; omega
            have hA : D (121 * X.toInt.toNat + (1 + 4 * b.toInt.toNat + d.toInt.toNat)) = pr (4 * b.toInt.toNat + d.toInt.toNat) := A b.toInt.toNat (by omega) d.toInt.toNat (by omega)
            exact Or.inl ⟨by omega, by rw [e, e7, e6, i5, hA]⟩
          · rw [c3] at p15; exact absurd p15 (by decide)
        · rcases h15 with ⟨p15, -⟩ | ⟨-, p15⟩
          · rw [c3] at p15; exact absurd p15 (by decide)
          · exact Or.inr (Or.inr ⟨by omega, e⟩)
      · rw [c2] at p; exact absurd p (by decide)
    · rcases h11 with ⟨p, -⟩ | ⟨-, p⟩
      · rw [c2] at p; exact absurd p (by decide)
      · exact Or.inr (Or.inr ⟨by omega, e⟩)
  · exact Or.inr (Or.inr ⟨by omega, e⟩)
  · exact Or.inr (Or.inl ⟨⟨c1, c2⟩, by rw [e]; exact (deeds_sp hX h24).trans c0⟩)
theorem hasBook_sp {mn : Nat → Int32} {a q : Int32} (h : R_j_hasBook mn a q) : (q = 1 ∧ 0 ≤ a.toInt ∧ a.toInt < (mn 1).toInt) ∨ (q = 0 ∧ (a.toInt < 0 ∨ (mn 1).toInt ≤ a.toInt)) := by
  obtain ⟨r1, h1, h⟩ := h
  have h1 := is_sp h1
  have k1 : Int32.toNatClampNeg (1 : Int32) = 1 := by decide
  rw [k1] at h1
  rcases h with ⟨c, e⟩ | ⟨c, e⟩
  · rcases h1 with ⟨-, p⟩ | ⟨p, -⟩
    · exact Or.inl ⟨e, p⟩
    · rw [c] at p; exact absurd p (by decide)
  · rcases h1 with ⟨p, -⟩ | ⟨-, p⟩
    · rw [c] at p; exact absurd p (by decide)
    · exact Or.inr ⟨e, p⟩
theorem deed_sim {TN : Nat → Int32} {TF M : Nat → Nat → Int32} {x0 x1 x2 r r' : Int32} (h : TLk 0 TN TF M) (hr : 0 ≤ (TN 4).toInt ∧ (TN 4).toInt ≤ 2) (hx : S_x_deed TN TF x0 x1 x2 r) (hy : S_y_deed M x0 x1 x2 r') : r = r' := by
  have h6 : M 4 1 = TN 4 := h.2.2.2.2.1
  have hD0 : RB (fun j => M 6 (242 * 0 + j)) (TN 18) (TF 13) := h.2.2.2.2.2.2.2.2.2.1
  have hD1 : RB (fun j => M 6 (242 * 0 + 121 + j)) (TN 19) (TF 14) := h.2.2.2.2.2.2.2.2.2.2.1
  obtain ⟨q, hd, hy⟩ := hy
  have hd := hasBook_sp hd
  rw [h6] at hd
  rcases hx with ⟨c, e⟩ | ⟨c, hx⟩ | ⟨c, hx⟩
  · have c := ata_0 c
    rcases hd with ⟨-, p⟩ | ⟨q0, -⟩
    · exact absurd p (by omega)
    · rcases hy with ⟨q1, -⟩ | ⟨-, e2⟩
      · rw [q0] at q1; exact absurd q1 (by decide)
      · rw [e, e2]
  · have c := ata_1 c
    rcases hd with ⟨q1, p⟩ | ⟨-, p⟩
    · rcases hy with ⟨-, hy⟩ | ⟨q0, -⟩
      · refine DSp_eq (deed_x hD1.2.2 hx) (deed_y (X := x0) (D := M 6) (by omega) (RB_c (fun j _ => ?_) hD1) hy)
        show M 6 (121 * x0.toInt.toNat + j) = M 6 (242 * 0 + 121 + j)
        rw [show 121 * x0.toInt.toNat + j = 242 * 0 + 121 + j from by omega]
      · rw [q1] at q0; exact absurd q0 (by decide)
    · exact absurd p (by omega)
  · have c := ata_2 c
    rcases hd with ⟨q1, p⟩ | ⟨-, p⟩
    · rcases hy with ⟨-, hy⟩ | ⟨q0, -⟩
      · refine DSp_eq (deed_x hD0.2.2 hx) (deed_y (X := x0) (D := M 6) (by omega) (RB_c (fun j _ => ?_) hD0) hy)
        show M 6 (121 * x0.toInt.toNat + j) = M 6 (242 * 0 + j)
        rw [show 121 * x0.toInt.toNat + j = 242 * 0 + j from by omega]
      · rw [q1] at q0; exact absurd q0 (by decide)
    · exact absurd p (by omega)
