/-! evenings: without one palm -/
def pc (L : Int32) : Nat → Int
  | 0 => 0
  | k + 1 => pc L k + if lvb L k = true then 1 else 0
theorem pc_rng (L : Int32) : ∀ k : Nat, 0 ≤ pc L k ∧ pc L k ≤ (k : Int) := by
  intro k
  induction k with
  | zero => exact ⟨Int.le_refl _, Int.le_refl _⟩
  | succ k ih =>
    have e : pc L (k + 1) = pc L k + if lvb L k = true then 1 else 0 := rfl
    rw [e]
    split <;> omega
theorem ones_sp {L u : Int32} (hL : 0 ≤ L.toInt ∧ L.toInt ≤ 63) (h : R_j_ones L u) : u.toInt = pc L 6 := by
  have six : (6 : Int32).toInt = 6 := by decide
  obtain ⟨s, hs, e⟩ := loopP (n := (6 : Int32)) (P := fun k s => s.toInt = pc L k) (Q := fun s => u = s) (by decide) (fun K i s hi hP hT => by
    dsimp only [T_j_ones_4] at hT
    rw [six] at hi ⊢
    have r := pc_rng L i.toInt.toNat
    rcases hT with ⟨c, e⟩ | ⟨c, b0, hl, h⟩
    · exact Or.inl ⟨c, e⟩
    · have hl := has_sp hL (by clear h; omega) hl
      refine Or.inr ⟨c, ?_⟩
      rcases h with ⟨q, b1, e1, b2, e2, hk⟩ | ⟨q, b1, e1, b2, e2, hk⟩
      · refine ⟨b2, b1, e2, ?_, hk⟩
        clear hk
        show b1.toInt = pc L i.toInt.toNat + if _ then 1 else 0
        rcases hl with ⟨-, q1⟩ | ⟨b, -⟩
        · rw [q1] at q; exact absurd q (by decide)
        · rw [if_neg (by rw [b]; decide), e1, Int32.add_zero, hP]; omega
      · refine ⟨b2, b1, e2, ?_, hk⟩
        clear hk
        show b1.toInt = pc L i.toInt.toNat + if _ then 1 else 0
        rcases hl with ⟨b, -⟩ | ⟨-, q0⟩
        · rw [if_pos b, e1, mi_addc (C := 1) (by decide) (by omega) (by omega), hP]
        · rw [q0] at q; exact absurd (by decide) q) (by show (0 : Int32).toInt = 0; decide) h
  rw [e, hs]; rfl
def bce (a : Int32) : Int32 :=
  let z3 := a - (UInt32.toInt32 (Int32.toUInt32 a >>> (Int32.toUInt32 1 &&& Int32.toUInt32 31)) &&& 1431655765)
  let z7 := (z3 &&& 858993459) + (UInt32.toInt32 (Int32.toUInt32 z3 >>> (Int32.toUInt32 2 &&& Int32.toUInt32 31)) &&& 858993459)
  let z10 := (z7 + UInt32.toInt32 (Int32.toUInt32 z7 >>> (Int32.toUInt32 4 &&& Int32.toUInt32 31))) &&& 252645135
  let z12 := z10 + UInt32.toInt32 (Int32.toUInt32 z10 >>> (Int32.toUInt32 8 &&& Int32.toUInt32 31))
  (z12 + UInt32.toInt32 (Int32.toUInt32 z12 >>> (Int32.toUInt32 16 &&& Int32.toUInt32 31))) &&& 63
set_option maxRecDepth 100000 in
theorem bce_all : ∀ n : Fin 64, (bce (Int32.ofNat n.val)).toInt = pc (Int32.ofNat n.val) 6 := by decide +kernel
theorem bc_sp {L u : Int32} (hL : 0 ≤ L.toInt ∧ L.toInt ≤ 63) (h : R_k_bitCount L u) : u.toInt = pc L 6 := by
  obtain ⟨n, e⟩ := of64 hL
  obtain ⟨z1, e1, z2, e2, z3, e3, z4, e4, rst_⟩ := h
  obtain ⟨z5, e5, z6, e6, z7, e7, z8, e8, rst_⟩ := rst_
  obtain ⟨z9, e9, z10, e10, z11, e11, z12, e12, rst_⟩ := rst_
  obtain ⟨z13, e13, z14, e14, z15, e15, eu⟩ := rst_
  have ev : u = bce L := by
    rw [eu, e15, e14, e13, e12, e11, e10, e9, e8, e7, e6, e5, e4, e3, e2, e1]; rfl
  rw [ev, e]; exact bce_all n
theorem cnt_sim {ac L M u w b x : Int32} {st : Nat → Int32} (hac : 0 ≤ ac.toInt ∧ ac.toInt ≤ 6) (hL : Lvs ac M st) (h1 : R_k_living ac st L) (h2 : R_k_bitCount L b) (eu : u = ac - b) (h3 : R_j_ones M x) (ew : w = ac - x) : u = w := by
  have e := Lvs_eq (living_sp hac h1) hL
  rw [e] at h2
  have a1 := bc_sp hL.1 h2
  have a2 := ones_sp hL.1 h3
  have ebx : b = x := mi_eq (by rw [a1, a2])
  rw [eu, ew, ebx]
def NmO (k x y p : Int) : Prop := (k = 0 ∧ x = p) ∨ ((k = 1 ∨ k = 2) ∧ (x = p ∨ y = p))
theorem part_sp {a b u : Int32} {pr : Nat → Int32} {B : Nat} (ha : 0 ≤ a.toInt ∧ a.toInt ≤ 29) (hb : b.toInt = (B : Int)) (hB : B ≤ 3) (h : R_k_part a b pr u) : u = pr (4 * a.toInt.toNat + B) := by
  obtain ⟨z1, e1, z2, e2, z3, e3, e⟩ := h
  have g1 : z1.toInt = 4 * a.toInt := by
    rw [e1]
    first
      | exact mi_cmul (by decide) (by omega) (by omega)
      | (rw [mi_mulc (C := 4) (by decide) (by omega) (by omega)]; omega)
  have g2 : z2.toInt = 4 * a.toInt + (B : Int) := by rw [e2, mi_add (by omega) (by omega), g1, hb]
  have i2 : Int32.toNatClampNeg z2 = 4 * a.toInt.toNat + B := by rw [mi_cl, g2]; omega
  rw [e, e3, i2]
theorem isOf_sp {a p u : Int32} {pr : Nat → Int32} (ha : 0 ≤ a.toInt ∧ a.toInt ≤ 29) (h : R_k_isOf a pr p u) : (u = 1 ∧ NmO (pr (4 * a.toInt.toNat + 0)).toInt (pr (4 * a.toInt.toNat + 1)).toInt (pr (4 * a.toInt.toNat + 2)).toInt p.toInt) ∨ (u = 0 ∧ ¬ NmO (pr (4 * a.toInt.toNat + 0)).toInt (pr (4 * a.toInt.toNat + 1)).toInt (pr (4 * a.toInt.toNat + 2)).toInt p.toInt) := by
  have p0 : ∀ r : Int32, R_k_part a 0 pr r → r = pr (4 * a.toInt.toNat + 0) := fun r h => part_sp ha (by decide) (by decide) h
  have p1 : ∀ r : Int32, R_k_part a 1 pr r → r = pr (4 * a.toInt.toNat + 1) := fun r h => part_sp ha (by decide) (by decide) h
  have p2 : ∀ r : Int32, R_k_part a 2 pr r → r = pr (4 * a.toInt.toNat + 2) := fun r h => part_sp ha (by decide) (by decide) h
  obtain ⟨r, hr, h⟩ := h
  rw [p0 r hr] at h
  clear hr
  unfold NmO
  rcases h with ⟨c, x, hx, ⟨d, e⟩ | ⟨d, y, hy, ⟨d2, e⟩ | ⟨d2, e⟩⟩⟩ | ⟨c, ⟨c2, ⟨c3, e⟩ | ⟨c3, x, hx, ⟨d, e⟩ | ⟨d, e⟩⟩⟩ | ⟨c2, x, hx, ⟨d, e⟩ | ⟨d, y, hy, ⟨d2, e⟩ | ⟨d2, e⟩⟩⟩⟩
  · rw [p1 x hx] at d; clear hx p0 p1 p2; exact Or.inl ⟨e, by omega⟩
  · rw [p1 x hx] at d; rw [p2 y hy] at d2; clear hx hy p0 p1 p2; exact Or.inr ⟨e, by omega⟩
  · rw [p1 x hx] at d; rw [p2 y hy] at d2; clear hx hy p0 p1 p2; exact Or.inl ⟨e, by omega⟩
  · clear p0 p1 p2; exact Or.inr ⟨e, by omega⟩
  · rw [p1 x hx] at d; clear hx p0 p1 p2; exact Or.inl ⟨e, by omega⟩
  · rw [p1 x hx] at d; clear hx p0 p1 p2; exact Or.inr ⟨e, by omega⟩
  · rw [p1 x hx] at d; clear hx p0 p1 p2; exact Or.inl ⟨e, by omega⟩
  · rw [p1 x hx] at d; rw [p2 y hy] at d2; clear hx hy p0 p1 p2; exact Or.inr ⟨e, by omega⟩
  · rw [p1 x hx] at d; rw [p2 y hy] at d2; clear hx hy p0 p1 p2; exact Or.inl ⟨e, by omega⟩
theorem names_sp {BX a p u de : Int32} {Bk pr : Nat → Int32} (B : Bke BX de Bk pr) (ha : 0 ≤ a.toInt ∧ a.toInt < de.toInt) (h : R_j_names BX a Bk p u) : (u = 1 ∧ NmO (pr (4 * a.toInt.toNat + 0)).toInt (pr (4 * a.toInt.toNat + 1)).toInt (pr (4 * a.toInt.toNat + 2)).toInt p.toInt) ∨ (u = 0 ∧ ¬ NmO (pr (4 * a.toInt.toNat + 0)).toInt (pr (4 * a.toInt.toNat + 1)).toInt (pr (4 * a.toInt.toNat + 2)).toInt p.toInt) := by
  have p0 : ∀ r : Int32, R_j_deedOf BX a 0 Bk r → r = pr (4 * a.toInt.toNat + 0) := fun r h => do_sp B.1 B.2.1 ha (by decide) (by decide) h
  have p1 : ∀ r : Int32, R_j_deedOf BX a 1 Bk r → r = pr (4 * a.toInt.toNat + 1) := fun r h => do_sp B.1 B.2.1 ha (by decide) (by decide) h
  have p2 : ∀ r : Int32, R_j_deedOf BX a 2 Bk r → r = pr (4 * a.toInt.toNat + 2) := fun r h => do_sp B.1 B.2.1 ha (by decide) (by decide) h
  obtain ⟨r, hr, h⟩ := h
  rw [p0 r hr] at h
  clear hr
  unfold NmO
  rcases h with ⟨c0, ⟨c, x, hx, ⟨d, e⟩ | ⟨d, y, hy, ⟨d2, e⟩ | ⟨d2, e⟩⟩⟩ | ⟨c, ⟨c2, e⟩ | ⟨c2, x, hx, ⟨d, e⟩ | ⟨d, y, hy, ⟨d2, e⟩ | ⟨d2, e⟩⟩⟩⟩⟩ | ⟨c, x, hx, ⟨d, e⟩ | ⟨d, e⟩⟩
  · rw [p1 x hx] at d; clear hx p0 p1 p2; exact Or.inl ⟨e, by omega⟩
  · rw [p1 x hx] at d; rw [p2 y hy] at d2; clear hx hy p0 p1 p2; exact Or.inr ⟨e, by omega⟩
  · rw [p1 x hx] at d; rw [p2 y hy] at d2; clear hx hy p0 p1 p2; exact Or.inl ⟨e, by omega⟩
  · clear p0 p1 p2; exact Or.inr ⟨e, by omega⟩
  · rw [p1 x hx] at d; clear hx p0 p1 p2; exact Or.inl ⟨e, by omega⟩
  · rw [p1 x hx] at d; rw [p2 y hy] at d2; clear hx hy p0 p1 p2; exact Or.inr ⟨e, by omega⟩
  · rw [p1 x hx] at d; rw [p2 y hy] at d2; clear hx hy p0 p1 p2; exact Or.inl ⟨e, by omega⟩
  · rw [p1 x hx] at d; clear hx p0 p1 p2; exact Or.inl ⟨e, by omega⟩
  · rw [p1 x hx] at d; clear hx p0 p1 p2; exact Or.inr ⟨e, by omega⟩
theorem wo_loop {X pa ac ra BX de cap p : Int32} {D cl ha hu Bk pr : Nat → Int32} (H : Hse X pa ac ra D cl ha hu) (B : Bke BX de Bk pr) (hcap : cap.toInt = 0) {n u0 u1 u2 u3 u4 u5 : Int32} {u6 u7 u8 u9 u10 u11 : Nat → Int32} {w0 w1 w2 w3 w4 w5 w6 w7 : Int32} {w8 w9 w10 w11 w12 w13 : Nat → Int32} (hn : n.toInt ≤ de.toInt) : ∀ (N M : Nat) (l : Int32) (ch en ni cp hs ec : Int32) (lf ow gt sv st so : Nat → Int32) (chj enj nij lij hsj cpj ecj : Int32) (lfj owj gtj svj soj stj : Nat → Int32), fx (T_k_playWithout_8 n pr p pa ac cl ra hu ha u0 u1 u2 u3 u4 u5 u6 u7 u8 u9 u10 u11) N (l, ch, en, ni, cp, hs, ec, lf, ow, gt, sv, st, so) → fx (T_j_starvedWithout_6 n ac BX Bk p pa X D ra cap w0 w1 w2 w3 w4 w5 w6 w7 w8 w9 w10 w11 w12 w13) M (l, chj, enj, nij, lij, hsj, cpj, ecj, lfj, owj, gtj, svj, soj, stj) → (0 ≤ l.toInt ∧ l.toInt ≤ n.toInt) → EvL pa ac l.toInt.toNat ch en ni cp hs ec lf ow gt sv st so chj enj nij lij hsj cpj ecj lfj owj gtj svj soj stj → (∃ x : Int32, R_j_ones w4 x ∧ w0 = ac - x) ∧ EvL pa ac n.toInt.toNat u0 u1 u2 u3 u4 u5 u6 u7 u8 u9 u10 u11 w1 w2 w3 w4 w5 w6 w7 w8 w9 w10 w11 w12 w13 := by
  intro N
  induction N with
  | zero => intro M l ch en ni cp hs ec lf ow gt sv st so chj enj nij lij hsj cpj ecj lfj owj gtj svj soj stj h; exact h.elim
  | succ N ih =>
    intro M l ch en ni cp hs ec lf ow gt sv st so chj enj nij lij hsj cpj ecj lfj owj gtj svj soj stj h hj hl hE
    cases M with
    | zero => exact hj.elim
    | succ M =>
      have hde := B.2.2.1.2
      have f1 : l.toInt < n.toInt → l.toInt.toNat ≤ 29 := fun _ => by clear h hj; omega
      have f2 : l.toInt < n.toInt → l.toInt < de.toInt := fun _ => by clear h hj; omega
      have f3 : l.toInt < n.toInt → 0 ≤ l.toInt ∧ l.toInt ≤ 29 := fun _ => by clear h hj; omega
      have f4 : n.toInt ≤ l.toInt → l = n := fun _ => Int32.toInt_inj.mp (by clear h hj; omega)
      have f5 : l.toInt < n.toInt → ∀ z : Int32, z = l + 1 → (0 ≤ z.toInt ∧ z.toInt ≤ n.toInt) ∧ z.toInt.toNat = l.toInt.toNat + 1 := fun _ z ez => by
        have gz : z.toInt = l.toInt + 1 := by rw [ez]; exact mi_addc (by decide) (by clear h hj; omega) (by clear h hj; omega)
        clear h hj
        omega
      replace h := fx_o h
      replace hj := fx_o hj
      dsimp only [T_k_playWithout_8, R_k_playWithout_s0] at h
      dsimp only [T_j_starvedWithout_6, R_j_starvedWithout_s0] at hj
      rcases h with ⟨c, e0, e1, e2, e3, e4, e5, e6, e7, e8, e9, e10, e11⟩ | ⟨c, q, hq, h⟩
      · rcases hj with ⟨-, x, hx, y, ey, f_0, f_1, f_2, f_3, f_4, f_5, f_6, f_7, f_8, f_9, f_10, f_11, f_12, f_13⟩ | ⟨c2, -⟩
        · have el := f4 c
          refine ⟨⟨x, by rw [f_4]; exact hx, by rw [f_0, ey]⟩, ?_⟩
          clear hx
          rw [e0, e1, e2, e3, e4, e5, e6, e7, e8, e9, e10, e11, f_1, f_2, f_3, f_4, f_5, f_6, f_7, f_8, f_9, f_10, f_11, f_12, f_13, ← el]
          exact hE
        · exact absurd c (Int.not_le.mpr c2)
      · rcases hj with ⟨c2, -⟩ | ⟨-, q2, hq2, hj⟩
        · exact absurd c2 (Int.not_le.mpr c)
        · have hq := isOf_sp (f3 c) hq
          have hq2 := names_sp B ⟨hl.1, f2 c⟩ hq2
          rcases h with ⟨qn, z, ez, hk⟩ | ⟨qz, b0, hc, h⟩
          · rcases hj with ⟨-, z2, ez2, hk2⟩ | ⟨q2z, -⟩
            · have ezz : z2 = z := by rw [ez2, ez]
              rw [ezz] at hk2
              have g5 := f5 c z ez
              refine ih M z _ _ _ _ _ _ _ _ _ _ _ _ _ _ _ _ _ _ _ _ _ _ _ _ _ hk hk2 g5.1 ?_
              rw [g5.2]
              exact EvL_s (f1 c) hE
            · rcases hq with ⟨-, y⟩ | ⟨y, -⟩
              · rcases hq2 with ⟨y2, -⟩ | ⟨-, y2⟩
                · rw [y2] at q2z; exact absurd q2z (by decide)
                · exact absurd y y2
              · rw [y] at qn; exact absurd (by decide) qn
          · rcases hj with ⟨q2n, -⟩ | ⟨-, v0, v1, v2, v3, v4, v5, v6, v7, v8, v9, v10, v11, v12, v13, hd, hj⟩
            · rcases hq with ⟨y, -⟩ | ⟨-, y⟩
              · rw [y] at qz; exact absurd qz (by decide)
              · rcases hq2 with ⟨-, y2⟩ | ⟨y2, -⟩
                · exact absurd y2 y
                · rw [y2] at q2n; exact absurd (by decide) q2n
            · have hs2 := one_step H B hcap (f1 c) ⟨hl.1, f2 c⟩ hE hc hd
              clear hc hd
              rcases hs2 with ⟨ec1, ev0, hs2⟩ | ⟨ec0, ev0, hs2⟩
              · rcases h with ⟨-, a1, a2, a3, a4, a5, a6, a7, a8, a9, a10, a11, a12, ha2, z, ez, hk⟩ | ⟨ec0, -⟩
                · rcases hj with ⟨c0, -⟩ | ⟨-, z2, ez2, hk2⟩
                  · rw [ev0] at c0; exact absurd c0 (by decide)
                  · have ezz : z2 = z := by rw [ez2, ez]
                    rw [ezz] at hk2
                    have g5 := f5 c z ez
                    refine ih M z _ _ _ _ _ _ _ _ _ _ _ _ _ _ _ _ _ _ _ _ _ _ _ _ _ hk hk2 g5.1 ?_
                    rw [g5.2]
                    exact hs2 _ _ _ _ _ _ _ _ _ _ _ _ ha2
                · rw [ec1] at ec0; exact absurd ec0 (by decide)
              · rcases h with ⟨ec1, -⟩ | ⟨-, z, ez, hk⟩
                · rw [ec0] at ec1; exact absurd ec1 (by decide)
                · rcases hj with ⟨-, z2, ez2, hk2⟩ | ⟨c0, -⟩
                  · have ezz : z2 = z := by rw [ez2, ez]
                    rw [ezz] at hk2
                    have g5 := f5 c z ez
                    refine ih M z _ _ _ _ _ _ _ _ _ _ _ _ _ _ _ _ _ _ _ _ _ _ _ _ _ hk hk2 g5.1 ?_
                    rw [g5.2]
                    exact EvL_s (f1 c) hs2
                  · rw [ev0] at c0; exact absurd (by decide) c0
theorem wo_sim {X pa ac ra us bo ch BX de cap : Int32} {D cl ha hu sa ak fl Bk pr : Nat → Int32} (hX : 0 ≤ X.toInt ∧ X.toInt ≤ 1) (hR : RT (fun j => D (36 * X.toInt.toNat + j)) pa ac us ra ch bo cl ha hu sa ak fl) (hG : GdT pa ac us ra ch bo cl ha hu sa ak fl) (B : Bke BX de Bk pr) (hcap : cap.toInt = 0) {n p u0 u1 u2 u3 u4 u5 : Int32} {u6 u7 u8 u9 u10 u11 : Nat → Int32} {w0 w1 w2 w3 w4 w5 w6 w7 : Int32} {w8 w9 w10 w11 w12 w13 lf sv ow gt st so lfj svj soj stj gtj owj : Nat → Int32} {L b s : Int32} (hn : 0 ≤ n.toInt ∧ n.toInt ≤ de.toInt) (h : R_k_playWithout cl lf sa sv ow gt st so n pr p pa ac ra hu ha ch u0 u1 u2 u3 u4 u5 u6 u7 u8 u9 u10 u11) (hL : R_k_living ac u10 L) (hb : R_k_bitCount L b) (es : s = ac - b) (hj : R_j_starvedWithout X D ac pa lfj svj soj stj gtj owj n BX Bk p ra cap w0 w1 w2 w3 w4 w5 w6 w7 w8 w9 w10 w11 w12 w13) : s = w0 := by
  obtain ⟨g0, g1, g2, g3, g4, g5, hbg, h⟩ := h
  obtain ⟨a0, a1, a2, a3, a4, a5, a6, a7, hbj, hj⟩ := hj
  have hE := beg_sim hX hR hG hbg hbj
  clear hbg hbj
  have z0 : (0 : Int32).toInt = 0 := by decide
  obtain ⟨⟨x, hx, ex⟩, hE2⟩ := wo_loop (Hse_of hX hR hG) B hcap hn.2 _ _ _ _ _ _ _ _ _ _ _ _ _ _ _ _ _ _ _ _ _ _ _ _ _ _ _ _ h hj ⟨by decide, by rw [z0]; exact hn.1⟩ hE
  exact cnt_sim hR.2.2.2.2.2.2.2.2.2.2.1 hE2.2.2.1 hL hb es hx ex
theorem sil_loop {X pa ac ra us bo ch BX de cap : Int32} {D cl ha hu sa ak fl Bk pr : Nat → Int32} (hX : 0 ≤ X.toInt ∧ X.toInt ≤ 1) (hR : RT (fun j => D (36 * X.toInt.toNat + j)) pa ac us ra ch bo cl ha hu sa ak fl) (hG : GdT pa ac us ra ch bo cl ha hu sa ak fl) (B : Bke BX de Bk pr) (hcap : cap.toInt = 0) {n d r r2 : Int32} {c1 c2 c3 c4 c5 c6 : Int32} {c7 c8 c9 c10 c11 c12 : Nat → Int32} {k1 k2 k3 k4 k5 k6 k7 k8 k9 k10 k11 : Int32} {k12 k13 k14 k15 k16 k17 : Nat → Int32} (hn : 0 ≤ n.toInt ∧ n.toInt ≤ de.toInt) : ∀ (N M : Nat) (p mo be : Int32) (chx en ni cp hs ec : Int32) (lf ow gt sv st so : Nat → Int32) (chj enj nij lij hsj cpj ecj : Int32) (lfj owj gtj svj soj stj : Nat → Int32), fx (T_x_silence_54 pa d cl sa n pr ac ra hu ha ch r c1 c2 c3 c4 c5 c6 c7 c8 c9 c10 c11 c12) N (p, mo, be, chx, en, ni, cp, hs, ec, lf, ow, gt, sv, st, so) → fx (T_y_silence_42 pa d X ac ra D n BX Bk cap r2 k1 k2 k3 k4 k5 k6 k7 k8 k9 k10 k11 k12 k13 k14 k15 k16 k17) M (p, mo, be, chj, enj, nij, lij, hsj, cpj, ecj, lfj, owj, gtj, svj, soj, stj) → (0 ≤ p.toInt ∧ p.toInt ≤ pa.toInt) → r = r2 := by
  intro N
  induction N with
  | zero => intro M p mo be chx en ni cp hs ec lf ow gt sv st so chj enj nij lij hsj cpj ecj lfj owj gtj svj soj stj h; exact h.elim
  | succ N ih =>
    intro M p mo be chx en ni cp hs ec lf ow gt sv st so chj enj nij lij hsj cpj ecj lfj owj gtj svj soj stj h hj hp
    cases M with
    | zero => exact hj.elim
    | succ M =>
      have hpa := hR.2.2.2.2.2.2.2.2.2.1
      have f5 : p.toInt < pa.toInt → ∀ z : Int32, z = p + 1 → 0 ≤ z.toInt ∧ z.toInt ≤ pa.toInt := fun _ z ez => by
        have gz : z.toInt = p.toInt + 1 := by rw [ez]; exact mi_addc (by decide) (by clear h hj; omega) (by clear h hj; omega)
        clear h hj
        omega
      replace h := fx_o h
      replace hj := fx_o hj
      dsimp only [T_x_silence_54, R_x_silence_s0] at h
      dsimp only [T_y_silence_42, R_y_silence_s0] at hj
      rcases h with ⟨c, h⟩ | ⟨c, b0, b1, b2, b3, b4, b5, b6, b7, b8, b9, b10, b11, hw, L, hL, bb, hb, s, es, h⟩
      · rcases hj with ⟨-, hj⟩ | ⟨c2, -⟩
        · rcases h with ⟨d0, e, -⟩ | ⟨d0, e, -⟩
          · rcases hj with ⟨-, e2, -⟩ | ⟨d1, -⟩
            · rw [e, e2]
            · exact absurd d0 d1
          · rcases hj with ⟨d1, -⟩ | ⟨-, e2, -⟩
            · exact absurd d1 d0
            · rw [e, e2]
        · exact absurd c (Int.not_le.mpr c2)
      · rcases hj with ⟨c2, -⟩ | ⟨-, y0, y1, y2, y3, y4, y5, y6, y7, y8, y9, y10, y11, y12, y13, hw2, hj⟩
        · exact absurd c2 (Int.not_le.mpr c)
        · have es0 := wo_sim hX hR hG B hcap hn hw hL hb es hw2
          clear hw hL hb hw2
          rcases h with ⟨q, z, ez, hk⟩ | ⟨q, z, ez, hk⟩
          · rcases hj with ⟨-, g, hg, z2, ez2, hk2⟩ | ⟨q2, -⟩
            · rw [← es0] at hg
              have hg := (gr2_sp hg).1 q
              have ezz : z2 = z := by rw [ez2, ez]
              rw [ezz, hg] at hk2
              exact ih M z _ _ _ _ _ _ _ _ _ _ _ _ _ _ _ _ _ _ _ _ _ _ _ _ _ _ _ hk hk2 (f5 c z ez)
            · rw [← es0] at q2; exact absurd q (Int.not_le.mpr q2)
          · rcases hj with ⟨q2, -⟩ | ⟨-, g, hg, z2, ez2, hk2⟩
            · rw [← es0] at q2; exact absurd q2 (Int.not_le.mpr q)
            · rw [← es0] at hg
              have hg := (gr2_sp hg).2 q
              have ezz : z2 = z := by rw [ez2, ez]
              rw [ezz, hg] at hk2
              exact ih M z _ _ _ _ _ _ _ _ _ _ _ _ _ _ _ _ _ _ _ _ _ _ _ _ _ _ _ hk hk2 (f5 c z ez)
theorem sil_no {mn D Bk lfj owj gtj svj soj stj : Nat → Int32} {a b d cap r2 xt xp xa xr xch xen xni xli xhs xcp xec : Int32} {k1 k2 k3 k4 k5 k6 k7 k8 k9 k10 k11 : Int32} {k12 k13 k14 k15 k16 k17 : Nat → Int32} (hy : R_y_silence mn b a D xt xp xa xr Bk lfj svj soj stj gtj owj cap d xch xen xni xli xhs xcp xec r2 k1 k2 k3 k4 k5 k6 k7 k8 k9 k10 k11 k12 k13 k14 k15 k16 k17) (hn : (a.toInt < 0 ∨ (mn 0).toInt ≤ a.toInt) ∨ (b.toInt < 0 ∨ (mn 1).toInt ≤ b.toInt)) : r2 = -1 := by
  obtain ⟨q, hb, hy⟩ := hy
  have hb := hasBook_sp hb
  rcases hy with ⟨q1, r0, m1, m2, m3, m4, hh, hy⟩ | ⟨-, e, -⟩
  · have hh := hand_sp hh
    rcases hb with ⟨-, pb⟩ | ⟨q0, -⟩
    · rcases hh with ⟨-, pa, -⟩ | ⟨r0, -⟩
      · clear hy
        exact absurd hn (by omega)
      · rcases hy with hy | ⟨-, e, -⟩
        · have cc := hy.1; rw [r0] at cc; exact absurd (by decide) cc
        · exact e
    · rw [q1] at q0; exact absurd q0 (by decide)
  · exact e
theorem sil_fin {mn D Bk lfj owj gtj svj soj stj : Nat → Int32} {a b d cap r r2 xt xp xa xr xch xen xni xli xhs xcp xec : Int32} {k1 k2 k3 k4 k5 k6 k7 k8 k9 k10 k11 : Int32} {k12 k13 k14 k15 k16 k17 : Nat → Int32} {c1 c2 c3 c4 c5 c6 : Int32} {c7 c8 c9 c10 c11 c12 : Nat → Int32} {pa ac us ra ch bo de : Int32} {b0 b1 b2 b3 b4 b5 b6 : Int32} {b7 b8 b9 b10 b11 b12 : Nat → Int32} {cl ha hu sa ak fl pr lf sv ow gt st so : Nat → Int32} (hX : 0 ≤ a.toInt ∧ a.toInt ≤ 1) (ha2 : a.toInt < (mn 0).toInt) (hb2 : 0 ≤ b.toInt ∧ b.toInt < (mn 1).toInt) (hR : RT (fun j => D (36 * a.toInt.toNat + j)) pa ac us ra ch bo cl ha hu sa ak fl) (hG : GdT pa ac us ra ch bo cl ha hu sa ak fl) (B : Bke b de Bk pr) (hcap : cap.toInt = 0) (hp : R_k_playAll cl lf sa sv ow gt st so de pr pa ac ra hu ha ch b0 b1 b2 b3 b4 b5 b6 b7 b8 b9 b10 b11 b12) (hx : fx (T_x_silence_54 pa d cl sa b0 pr ac ra hu ha ch r c1 c2 c3 c4 c5 c6 c7 c8 c9 c10 c11 c12) 7 ((0 : Int32), ((-1) : Int32), ((-1) : Int32), b1, b2, b3, b4, b5, b6, b7, b8, b9, b10, b11, b12)) (hy : R_y_silence mn b a D xt xp xa xr Bk lfj svj soj stj gtj owj cap d xch xen xni xli xhs xcp xec r2 k1 k2 k3 k4 k5 k6 k7 k8 k9 k10 k11 k12 k13 k14 k15 k16 k17) : r = r2 := by
  have h0 := B.2.2.1.1
  obtain ⟨q, hb, hy⟩ := hy
  have hb := hasBook_sp hb
  rcases hy with ⟨-, r0, m1, m2, m3, m4, hh, hy⟩ | ⟨q0, -⟩
  · have hh := hand_sp hh
    rcases hh with ⟨r1, -, e1, e2⟩ | ⟨-, p⟩
    · obtain ⟨e2, e3, e4⟩ := e2 hX.2
      have e2 : m2 = pa := e2.trans hR.1
      have e3 : m3 = ac := e3.trans hR.2.1
      have e4 : m4 = ra := e4.trans hR.2.2.1
      rcases hy with ⟨-, v5, h5, y0, y1, y2, y3, y4, y5, y6, y7, y8, y9, y10, y11, y12, y13, hj, hl⟩ | ⟨cc, -⟩
      · have h5 := deeds_sp B.1 h5
        have h5 : v5 = de := h5.trans B.2.1.1
        rw [e1, e2, e3, e4, h5] at hj
        rw [e1, e2, e3, e4] at hl
        have hs := pa_sim hX hR hG B hcap ⟨h0, Int.le_refl _⟩ hp hj
        clear hp hj
        rw [← hs.1] at hl
        exact sil_loop hX hR hG B hcap hs.2.1 _ _ _ _ _ _ _ _ _ _ _ _ _ _ _ _ _ _ _ _ _ _ _ _ _ _ _ _ _ _ hx hl ⟨by decide, by have z0 : (0 : Int32).toInt = 0 := (by decide); rw [z0]; exact hR.2.2.2.2.2.2.2.2.2.1.1⟩
      · rw [r1] at cc; exact absurd cc (by decide)
    · rcases p with p | p
      · exact absurd hX.1 (Int.not_le.mpr p)
      · exact absurd ha2 (Int.not_lt.mpr p)
  · rcases hb with ⟨q1, -⟩ | ⟨-, p⟩
    · rw [q0] at q1; exact absurd q1 (by decide)
    · rcases p with p | p
      · exact absurd hb2.1 (Int.not_le.mpr p)
      · exact absurd hb2.2 (Int.not_lt.mpr p)
theorem silence_sim {TN : Nat → Int32} {TF M : Nat → Nat → Int32} (h : TLg 0 TN TF M) (hr3 : 0 ≤ (TN 3).toInt ∧ (TN 3).toInt ≤ 2) (hr4 : 0 ≤ (TN 4).toInt ∧ (TN 4).toInt ≤ 2) {x0 x1 x2 r r2 : Int32} (hx : S_x_silence TN TF x0 x1 x2 r) (hy : S_y_silence M x0 x1 x2 r2) : r = r2 := by
  obtain ⟨_, _, _, _, _, _, _, _, rst_⟩ := hx
  obtain ⟨_, _, _, _, _, _, _, _, rst_⟩ := rst_
  obtain ⟨_, _, _, _, _, _, _, _, hx⟩ := rst_
  obtain ⟨_, _, _, _, _, _, _, _, rst_⟩ := hy
  obtain ⟨_, _, _, _, _, _, _, _, rst_⟩ := rst_
  obtain ⟨_, _, _, _, _, _, _, _, rst_⟩ := rst_
  obtain ⟨_, _, _, _, _, _, _, _, rst_⟩ := rst_
  obtain ⟨_, _, _, hy, hc⟩ := rst_
  have h3 : M 4 0 = TN 3 := h.1.2.2.2.1
  have h4 : M 4 1 = TN 4 := h.1.2.2.2.2.1
  have no : r = -1 → ((x0.toInt < 0 ∨ (TN 3).toInt ≤ x0.toInt) ∨ (x1.toInt < 0 ∨ (TN 4).toInt ≤ x1.toInt)) → r = r2 := fun e hn => by rw [e, sil_no hy (by rw [h3, h4]; exact hn)]
  rcases hx with ⟨c, hx⟩ | ⟨c, hx⟩ | ⟨c, hx⟩
  · have c := ata_0 c
    rcases hx with ⟨-, e, -⟩ | ⟨-, e, -⟩ | ⟨-, e, -⟩
    · exact no e (Or.inl c)
    · exact no e (Or.inl c)
    · exact no e (Or.inl c)
  · have c := ata_1 c
    have ca : x0.toInt = 1 := by clear hx hy no; omega
    rcases hx with ⟨c2, e, -⟩ | ⟨c2, hx⟩ | ⟨c2, hx⟩
    · exact no e (Or.inr (ata_0 c2))
    · have c2 := ata_1 c2
      obtain ⟨b0, b1, b2, b3, b4, b5, b6, b7, rst_⟩ := hx
      obtain ⟨b8, b9, b10, b11, b12, hp, hx⟩ := rst_
      have cb : x1.toInt = 1 := by clear hp hx hy no; omega
      have hb2 : 0 ≤ x1.toInt ∧ x1.toInt < (M 4 1).toInt := by rw [h4]; clear hp hx hy no; omega
      have ha2 : x0.toInt < (M 4 0).toInt := by rw [h3]; exact c.2
      exact sil_fin (by clear hp hx hy no; omega) ha2 hb2 (RT_at1 h.1 ca) h.2.1.2 (Bk_at1 h cb) (by clear hp hx hy no; omega) hp hx hy
    · have c2 := ata_2 c2
      obtain ⟨b0, b1, b2, b3, b4, b5, b6, b7, rst_⟩ := hx
      obtain ⟨b8, b9, b10, b11, b12, hp, hx⟩ := rst_
      have cb : x1.toInt = 0 := by clear hp hx hy no; omega
      have hb2 : 0 ≤ x1.toInt ∧ x1.toInt < (M 4 1).toInt := by rw [h4]; clear hp hx hy no; omega
      have ha2 : x0.toInt < (M 4 0).toInt := by rw [h3]; exact c.2
      exact sil_fin (by clear hp hx hy no; omega) ha2 hb2 (RT_at1 h.1 ca) h.2.1.2 (Bk_at0 h cb) (by clear hp hx hy no; omega) hp hx hy
  · have c := ata_2 c
    have ca : x0.toInt = 0 := by clear hx hy no; omega
    rcases hx with ⟨c2, e, -⟩ | ⟨c2, hx⟩ | ⟨c2, hx⟩
    · exact no e (Or.inr (ata_0 c2))
    · have c2 := ata_1 c2
      obtain ⟨b0, b1, b2, b3, b4, b5, b6, b7, rst_⟩ := hx
      obtain ⟨b8, b9, b10, b11, b12, hp, hx⟩ := rst_
      have cb : x1.toInt = 1 := by clear hp hx hy no; omega
      have hb2 : 0 ≤ x1.toInt ∧ x1.toInt < (M 4 1).toInt := by rw [h4]; clear hp hx hy no; omega
      have ha2 : x0.toInt < (M 4 0).toInt := by rw [h3]; exact c.2
      exact sil_fin (by clear hp hx hy no; omega) ha2 hb2 (RT_at0 h.1 ca) h.2.1.1 (Bk_at1 h cb) (by clear hp hx hy no; omega) hp hx hy
    · have c2 := ata_2 c2
      obtain ⟨b0, b1, b2, b3, b4, b5, b6, b7, rst_⟩ := hx
      obtain ⟨b8, b9, b10, b11, b12, hp, hx⟩ := rst_
      have cb : x1.toInt = 0 := by clear hp hx hy no; omega
      have hb2 : 0 ≤ x1.toInt ∧ x1.toInt < (M 4 1).toInt := by rw [h4]; clear hp hx hy no; omega
      have ha2 : x0.toInt < (M 4 0).toInt := by rw [h3]; exact c.2
      exact sil_fin (by clear hp hx hy no; omega) ha2 hb2 (RT_at0 h.1 ca) h.2.1.1 (Bk_at0 h cb) (by clear hp hx hy no; omega) hp hx hy
