/-! evenings: many deeds in step -/
def Hse (X pa ac ra : Int32) (D cl ha hu : Nat → Int32) : Prop := (0 ≤ X.toInt ∧ X.toInt ≤ 1) ∧ (0 ≤ ac.toInt ∧ ac.toInt ≤ 6) ∧ (0 ≤ pa.toInt ∧ pa.toInt ≤ 5) ∧ (∀ i : Nat, (i : Int) < pa.toInt → D (36 * X.toInt.toNat + (6 + 2 * i)) = cl i) ∧ (∀ i : Nat, (i : Int) < pa.toInt → D (36 * X.toInt.toNat + (7 + 2 * i)) = ha i) ∧ (∀ i : Nat, (i : Int) < ac.toInt → D (36 * X.toInt.toNat + (16 + 2 * i)) = hu i) ∧ (∀ i : Nat, (i : Int) < pa.toInt → 0 ≤ (cl i).toInt ∧ (cl i).toInt ≤ 99) ∧ (∀ i : Nat, (i : Int) < pa.toInt → 1 ≤ (ha i).toInt ∧ (ha i).toInt ≤ 2) ∧ (∀ i : Nat, (i : Int) < ac.toInt → 0 ≤ (hu i).toInt ∧ (hu i).toInt ≤ 40) ∧ (0 ≤ ra.toInt ∧ ra.toInt ≤ 50)
def Bke (BX de : Int32) (Bk pr : Nat → Int32) : Prop := (0 ≤ BX.toInt ∧ BX.toInt ≤ 1) ∧ RB (fun j => Bk (121 * BX.toInt.toNat + j)) de pr ∧ GdB de pr
theorem one_step {BX a ac pa X ni ra cap en ch li cp hs ec de c : Int32} {Bk D cl ha hu lf ow sv st gt so pr lfj owj svj stj gtj soj : Nat → Int32} {k : Nat} {v0 v1 v2 v3 v4 v5 v6 v7 : Int32} {v8 v9 v10 v11 v12 v13 : Nat → Int32} {chj enj nij hsj cpj ecj : Int32} (H : Hse X pa ac ra D cl ha hu) (B : Bke BX de Bk pr) (hcap : cap.toInt = 0) (hk : k ≤ 29) (hA : 0 ≤ a.toInt ∧ a.toInt < de.toInt) (hE : EvL pa ac k ch en ni cp hs ec lf ow gt sv st so chj enj nij li hsj cpj ecj lfj owj gtj svj soj stj) (h1 : R_k_canBe a pr pa hs lf ac st ow sv ch c) (hj : R_j_doesNext BX a Bk ac pa X D lfj nij ra owj cap enj chj li svj stj cpj gtj soj hsj ecj v0 v1 v2 v3 v4 v5 v6 v7 v8 v9 v10 v11 v12 v13) : (c = 1 ∧ v0 = 1 ∧ ∀ (u0 u1 u2 u3 u4 u5 : Int32) (u6 u7 u8 u9 u10 u11 : Nat → Int32), R_k_act a pr ac cl lf ni ra ow hu en ch sv st cp gt so ha ec hs u0 u1 u2 u3 u4 u5 u6 u7 u8 u9 u10 u11 → EvL pa ac (k + 1) u0 u1 u2 u3 u4 u5 u6 u7 u8 u9 u10 u11 v1 v2 v3 v4 v5 v6 v7 v8 v9 v10 v11 v12 v13) ∨ (c = 0 ∧ v0 = 0 ∧ EvL pa ac k ch en ni cp hs ec lf ow gt sv st so v1 v2 v3 v4 v5 v6 v7 v8 v9 v10 v11 v12 v13) := by
  obtain ⟨hX, hac, hpa, hC, hHa, hH, gC, gHa, gH, gR⟩ := H
  obtain ⟨hB, hR, hG⟩ := B
  have e := hE.1
  rw [e.1, e.2.1, e.2.2.1, e.2.2.2.1, e.2.2.2.2.1, e.2.2.2.2.2] at hj
  have hE2 : EvL pa ac k ch en ni cp hs ec lf ow gt sv st so ch en ni li hs cp ec lfj owj gtj svj soj stj := ⟨⟨rfl, rfl, rfl, rfl, rfl, rfl⟩, hE.2⟩
  have hi : ((a.toInt.toNat : Nat) : Int) < de.toInt := by clear h1 hj; omega
  exact step_sim hk hB hR hA hG.1.2 (hG.2 _ hi) hX hac hpa hC hHa hH gC gHa gH gR hcap hE2 h1 hj
theorem pf_loop {X pa ac ra BX de cap : Int32} {D cl ha hu Bk pr : Nat → Int32} (H : Hse X pa ac ra D cl ha hu) (B : Bke BX de Bk pr) (hcap : cap.toInt = 0) {n u0 u1 u2 u3 u4 u5 u6 : Int32} {u7 u8 u9 u10 u11 u12 : Nat → Int32} {w0 w1 w2 w3 w4 w5 w6 w7 : Int32} {w8 w9 w10 w11 w12 w13 : Nat → Int32} (hn : n.toInt ≤ de.toInt) : ∀ (N M : Nat) (l : Int32) (ch en ni cp hs ec : Int32) (lf ow gt sv st so : Nat → Int32) (chj enj nij lij hsj cpj ecj : Int32) (lfj owj gtj svj soj stj : Nat → Int32), fx (T_k_playFirst_8 n pr pa ac cl ra hu ha u0 u1 u2 u3 u4 u5 u6 u7 u8 u9 u10 u11 u12) N (l, ch, en, ni, cp, hs, ec, lf, ow, gt, sv, st, so) → fx (T_j_play_6 n BX Bk ac pa X D ra cap w0 w1 w2 w3 w4 w5 w6 w7 w8 w9 w10 w11 w12 w13) M (l, chj, enj, nij, lij, hsj, cpj, ecj, lfj, owj, gtj, svj, soj, stj) → (0 ≤ l.toInt ∧ l.toInt ≤ n.toInt) → EvL pa ac l.toInt.toNat ch en ni cp hs ec lf ow gt sv st so chj enj nij lij hsj cpj ecj lfj owj gtj svj soj stj → (u0 = 1 ∧ w0 = n ∧ EvL pa ac n.toInt.toNat u1 u2 u3 u4 u5 u6 u7 u8 u9 u10 u11 u12 w1 w2 w3 w4 w5 w6 w7 w8 w9 w10 w11 w12 w13) ∨ (u0 = 0 ∧ w0.toInt < n.toInt) := by
  intro N
  induction N with
  | zero => intro M l ch en ni cp hs ec lf ow gt sv st so chj enj nij lij hsj cpj ecj lfj owj gtj svj soj stj h; exact h.elim
  | succ N ih =>
    intro M l ch en ni cp hs ec lf ow gt sv st so chj enj nij lij hsj cpj ecj lfj owj gtj svj soj stj h hj hl hE
    cases M with
    | zero => exact hj.elim
    | succ M =>
      have hde := B.2.2.1.2
      have f1 : l.toInt < n.toInt → l.toInt.toNat ≤ 29 := fun _ => by clear h hj; omega
      have f2 : l.toInt < n.toInt → l.toInt < de.toInt := fun _ => by clear h hj; omega
      have f4 : n.toInt ≤ l.toInt → l = n := fun _ => Int32.toInt_inj.mp (by clear h hj; omega)
      have f5 : l.toInt < n.toInt → ∀ z : Int32, z = l + 1 → (0 ≤ z.toInt ∧ z.toInt ≤ n.toInt) ∧ z.toInt.toNat = l.toInt.toNat + 1 := fun _ z ez => by
        have gz : z.toInt = l.toInt + 1 := by rw [ez]; exact mi_addc (by decide) (by clear h hj; omega) (by clear h hj; omega)
        clear h hj
        omega
      replace h := fx_o h
      replace hj := fx_o hj
      dsimp only [T_k_playFirst_8, R_k_playFirst_s0] at h
      dsimp only [T_j_play_6, R_j_play_s0] at hj
      rcases h with ⟨c, e0, e1, e2, e3, e4, e5, e6, e7, e8, e9, e10, e11, e12⟩ | ⟨c, b0, hc, h⟩
      · rcases hj with ⟨-, f_0, f_1, f_2, f_3, f_4, f_5, f_6, f_7, f_8, f_9, f_10, f_11, f_12, f_13⟩ | ⟨c2, -⟩
        · have el := f4 c
          refine Or.inl ⟨e0, by rw [f_0, el], ?_⟩
          rw [e1, e2, e3, e4, e5, e6, e7, e8, e9, e10, e11, e12, f_1, f_2, f_3, f_4, f_5, f_6, f_7, f_8, f_9, f_10, f_11, f_12, f_13, ← el]
          exact hE
        · exact absurd c (Int.not_le.mpr c2)
      · rcases hj with ⟨c2, -⟩ | ⟨-, v0, v1, v2, v3, v4, v5, v6, v7, v8, v9, v10, v11, v12, v13, hd, hj⟩
        · exact absurd c2 (Int.not_le.mpr c)
        · have hs2 := one_step H B hcap (f1 c) ⟨hl.1, f2 c⟩ hE hc hd
          clear hc hd
          rcases hs2 with ⟨ec1, ev0, hs2⟩ | ⟨ec0, ev0, hs2⟩
          · rcases h with ⟨-, a1, a2, a3, a4, a5, a6, a7, a8, a9, a10, a11, a12, ha2, z, ez, h⟩ | ⟨ec0, -⟩
            · rcases hj with ⟨c0, -⟩ | ⟨-, z2, ez2, hj⟩
              · rw [ev0] at c0; exact absurd c0 (by decide)
              · have ezz : z2 = z := by rw [ez2, ez]
                rw [ezz] at hj
                have g5 := f5 c z ez
                refine ih M z _ _ _ _ _ _ _ _ _ _ _ _ _ _ _ _ _ _ _ _ _ _ _ _ _ h hj g5.1 ?_
                rw [g5.2]
                exact hs2 _ _ _ _ _ _ _ _ _ _ _ _ ha2
            · rw [ec1] at ec0; exact absurd ec0 (by decide)
          · rcases h with ⟨ec1, -⟩ | ⟨-, e0, -⟩
            · rw [ec0] at ec1; exact absurd ec1 (by decide)
            · rcases hj with ⟨-, f_0, -⟩ | ⟨c0, -⟩
              · exact Or.inr ⟨e0, by rw [f_0]; exact c⟩
              · rw [ev0] at c0; exact absurd (by decide) c0
theorem pa_loop {X pa ac ra BX de cap : Int32} {D cl ha hu Bk pr : Nat → Int32} (H : Hse X pa ac ra D cl ha hu) (B : Bke BX de Bk pr) (hcap : cap.toInt = 0) {n u0 u1 u2 u3 u4 u5 u6 : Int32} {u7 u8 u9 u10 u11 u12 : Nat → Int32} {w0 w1 w2 w3 w4 w5 w6 w7 : Int32} {w8 w9 w10 w11 w12 w13 : Nat → Int32} (hn : n.toInt ≤ de.toInt) : ∀ (N M : Nat) (l : Int32) (ch en ni cp hs ec : Int32) (lf ow gt sv st so : Nat → Int32) (chj enj nij lij hsj cpj ecj : Int32) (lfj owj gtj svj soj stj : Nat → Int32), fx (T_k_playAll_7 n pr pa ac cl ra hu ha u0 u1 u2 u3 u4 u5 u6 u7 u8 u9 u10 u11 u12) N (l, ch, en, ni, cp, hs, ec, lf, ow, gt, sv, st, so) → fx (T_j_play_6 n BX Bk ac pa X D ra cap w0 w1 w2 w3 w4 w5 w6 w7 w8 w9 w10 w11 w12 w13) M (l, chj, enj, nij, lij, hsj, cpj, ecj, lfj, owj, gtj, svj, soj, stj) → (0 ≤ l.toInt ∧ l.toInt ≤ n.toInt) → EvL pa ac l.toInt.toNat ch en ni cp hs ec lf ow gt sv st so chj enj nij lij hsj cpj ecj lfj owj gtj svj soj stj → u0 = w0 ∧ (0 ≤ u0.toInt ∧ u0.toInt ≤ n.toInt) ∧ EvL pa ac u0.toInt.toNat u1 u2 u3 u4 u5 u6 u7 u8 u9 u10 u11 u12 w1 w2 w3 w4 w5 w6 w7 w8 w9 w10 w11 w12 w13 := by
  intro N
  induction N with
  | zero => intro M l ch en ni cp hs ec lf ow gt sv st so chj enj nij lij hsj cpj ecj lfj owj gtj svj soj stj h; exact h.elim
  | succ N ih =>
    intro M l ch en ni cp hs ec lf ow gt sv st so chj enj nij lij hsj cpj ecj lfj owj gtj svj soj stj h hj hl hE
    cases M with
    | zero => exact hj.elim
    | succ M =>
      have hde := B.2.2.1.2
      have f1 : l.toInt < n.toInt → l.toInt.toNat ≤ 29 := fun _ => by clear h hj; omega
      have f2 : l.toInt < n.toInt → l.toInt < de.toInt := fun _ => by clear h hj; omega
      have f4 : n.toInt ≤ l.toInt → l = n := fun _ => Int32.toInt_inj.mp (by clear h hj; omega)
      have f5 : l.toInt < n.toInt → ∀ z : Int32, z = l + 1 → (0 ≤ z.toInt ∧ z.toInt ≤ n.toInt) ∧ z.toInt.toNat = l.toInt.toNat + 1 := fun _ z ez => by
        have gz : z.toInt = l.toInt + 1 := by rw [ez]; exact mi_addc (by decide) (by clear h hj; omega) (by clear h hj; omega)
        clear h hj
        omega
      replace h := fx_o h
      replace hj := fx_o hj
      dsimp only [T_k_playAll_7, R_k_playAll_s0] at h
      dsimp only [T_j_play_6, R_j_play_s0] at hj
      rcases h with ⟨c, e0, e1, e2, e3, e4, e5, e6, e7, e8, e9, e10, e11, e12⟩ | ⟨c, b0, hc, h⟩
      · rcases hj with ⟨-, f_0, f_1, f_2, f_3, f_4, f_5, f_6, f_7, f_8, f_9, f_10, f_11, f_12, f_13⟩ | ⟨c2, -⟩
        · have el := f4 c
          have e0 : u0 = l := by rw [e0, el]
          refine ⟨by rw [e0, f_0], by rw [e0]; exact hl, ?_⟩
          rw [e1, e2, e3, e4, e5, e6, e7, e8, e9, e10, e11, e12, f_1, f_2, f_3, f_4, f_5, f_6, f_7, f_8, f_9, f_10, f_11, f_12, f_13, e0]
          exact hE
        · exact absurd c (Int.not_le.mpr c2)
      · rcases hj with ⟨c2, -⟩ | ⟨-, v0, v1, v2, v3, v4, v5, v6, v7, v8, v9, v10, v11, v12, v13, hd, hj⟩
        · exact absurd c2 (Int.not_le.mpr c)
        · have hs2 := one_step H B hcap (f1 c) ⟨hl.1, f2 c⟩ hE hc hd
          clear hc hd
          rcases hs2 with ⟨ec1, ev0, hs2⟩ | ⟨ec0, ev0, hs2⟩
          · rcases h with ⟨-, a1, a2, a3, a4, a5, a6, a7, a8, a9, a10, a11, a12, ha2, z, ez, h⟩ | ⟨ec0, -⟩
            · rcases hj with ⟨c0, -⟩ | ⟨-, z2, ez2, hj⟩
              · rw [ev0] at c0; exact absurd c0 (by decide)
              · have ezz : z2 = z := by rw [ez2, ez]
                rw [ezz] at hj
                have g5 := f5 c z ez
                refine ih M z _ _ _ _ _ _ _ _ _ _ _ _ _ _ _ _ _ _ _ _ _ _ _ _ _ h hj g5.1 ?_
                rw [g5.2]
                exact hs2 _ _ _ _ _ _ _ _ _ _ _ _ ha2
            · rw [ec1] at ec0; exact absurd ec0 (by decide)
          · rcases h with ⟨ec1, -⟩ | ⟨-, e0, e1, e2, e3, e4, e5, e6, e7, e8, e9, e10, e11, e12⟩
            · rw [ec0] at ec1; exact absurd ec1 (by decide)
            · rcases hj with ⟨-, f_0, f_1, f_2, f_3, f_4, f_5, f_6, f_7, f_8, f_9, f_10, f_11, f_12, f_13⟩ | ⟨c0, -⟩
              · refine ⟨by rw [e0, f_0], by rw [e0]; exact hl, ?_⟩
                rw [e1, e2, e3, e4, e5, e6, e7, e8, e9, e10, e11, e12, f_1, f_2, f_3, f_4, f_5, f_6, f_7, f_8, f_9, f_10, f_11, f_12, f_13, e0]
                exact hs2
              · rw [ev0] at c0; exact absurd (by decide) c0
theorem beg_sim {X pa ac ra us bo ch u0 u1 : Int32} {D cl ha hu sa ak fl lf sv ow gt st so g0 g1 g2 g3 g4 g5 lfj svj soj stj gtj owj u2 u3 u4 u5 u6 u7 : Nat → Int32} (hX : 0 ≤ X.toInt ∧ X.toInt ≤ 1) (hR : RT (fun j => D (36 * X.toInt.toNat + j)) pa ac us ra ch bo cl ha hu sa ak fl) (hG : GdT pa ac us ra ch bo cl ha hu sa ak fl) (h : R_k_begin cl lf sa sv ow gt st so g0 g1 g2 g3 g4 g5) (hj : R_j_begin X D ac pa lfj svj soj stj gtj owj u0 u1 u2 u3 u4 u5 u6 u7) : EvL pa ac 0 ch 0 0 0 0 (-1) g0 g1 g2 g3 g4 g5 u0 0 0 u1 0 0 (-1) u2 u3 u4 u5 u6 u7 := by
  obtain ⟨d0, d1, d2, d3, d4, d5, TA, TB, TC, rA, rB, rC⟩ := hR
  obtain ⟨⟨gpa, gac, gus⟩, GC, GA, GU, gR, gCh, gBo⟩ := hG
  obtain ⟨b0, b1, b2, b3, b4, b5⟩ := bg_sp h
  obtain ⟨j0, j1, j2, j3, j4, j5, j6, j7⟩ := bj_sp hX rB rA (fun i hi => (TA i hi).1) (fun i hi => (TB i hi).2) hj
  clear h hj
  have z0 : (0 : Int32).toInt = 0 := by decide
  have zm : (-1 : Int32).toInt = -1 := by decide
  have hf := bt_full rB
  refine ⟨⟨j0.trans d3, rfl, rfl, rfl, rfl, rfl⟩, ⟨fun p hp => ?_, fun j hj => ?_, fun j hj => ?_, fun a ha2 => ?_, fun a ha2 => ?_, fun a ha2 => ?_⟩, ?_, ?_⟩
  · rw [j2 p hp, b0 p (by omega)]
  · rw [j3 j hj, b1 j hj]
  · rw [j4 j hj, b2 j hj]
  · rw [j5 a ha2, b3 a (by omega)]
  · rw [j6 a ha2, b5 a ha2]
  · rw [j7 a ha2, b4 a ha2]
  · rw [j1]
    refine ⟨hf.1, fun k hk => ?_⟩
    rw [hf.2 k hk, b4 k hk, zm]
    simp
  · refine ⟨by rw [z0]; omega, by rw [z0]; omega, by omega, fun a ha2 => ?_, fun j hj => ?_, fun p hp => ?_⟩
    · rw [b3 a (by omega)]; have q := (GA a ha2).2; exact ⟨q.1, by show _ ≤ (400 : Int); omega⟩
    · rw [b1 j hj, z0]; exact ⟨by omega, by show (0 : Int) ≤ 0; omega⟩
    · rw [b0 p (by omega)]; have q := (GC p hp).1; omega
theorem Hse_of {X pa ac ra us bo ch : Int32} {D cl ha hu sa ak fl : Nat → Int32} (hX : 0 ≤ X.toInt ∧ X.toInt ≤ 1) (hR : RT (fun j => D (36 * X.toInt.toNat + j)) pa ac us ra ch bo cl ha hu sa ak fl) (hG : GdT pa ac us ra ch bo cl ha hu sa ak fl) : Hse X pa ac ra D cl ha hu := by
  obtain ⟨d0, d1, d2, d3, d4, d5, TA, TB, TC, rA, rB, rC⟩ := hR
  obtain ⟨-, GC, GA, GU, gR, gCh, gBo⟩ := hG
  exact ⟨hX, rB, rA, fun i hi => (TA i hi).1, fun i hi => (TA i hi).2, fun i hi => (TB i hi).1, fun i hi => (GC i hi).1, fun i hi => (GC i hi).2, fun i hi => (GA i hi).1, gR⟩
theorem pf_sim {X pa ac ra us bo ch BX de cap : Int32} {D cl ha hu sa ak fl Bk pr : Nat → Int32} (hX : 0 ≤ X.toInt ∧ X.toInt ≤ 1) (hR : RT (fun j => D (36 * X.toInt.toNat + j)) pa ac us ra ch bo cl ha hu sa ak fl) (hG : GdT pa ac us ra ch bo cl ha hu sa ak fl) (B : Bke BX de Bk pr) (hcap : cap.toInt = 0) {n u0 u1 u2 u3 u4 u5 u6 : Int32} {u7 u8 u9 u10 u11 u12 : Nat → Int32} {w0 w1 w2 w3 w4 w5 w6 w7 : Int32} {w8 w9 w10 w11 w12 w13 lf sv ow gt st so lfj svj soj stj gtj owj : Nat → Int32} (hn : 0 ≤ n.toInt ∧ n.toInt ≤ de.toInt) (h : R_k_playFirst cl lf sa sv ow gt st so n pr pa ac ra hu ha ch u0 u1 u2 u3 u4 u5 u6 u7 u8 u9 u10 u11 u12) (hj : R_j_play X D ac pa lfj svj soj stj gtj owj n BX Bk ra cap w0 w1 w2 w3 w4 w5 w6 w7 w8 w9 w10 w11 w12 w13) : (u0 = 1 ∧ w0 = n ∧ EvL pa ac n.toInt.toNat u1 u2 u3 u4 u5 u6 u7 u8 u9 u10 u11 u12 w1 w2 w3 w4 w5 w6 w7 w8 w9 w10 w11 w12 w13) ∨ (u0 = 0 ∧ w0.toInt < n.toInt) := by
  obtain ⟨g0, g1, g2, g3, g4, g5, hb, h⟩ := h
  obtain ⟨a0, a1, a2, a3, a4, a5, a6, a7, hbj, hj⟩ := hj
  have hE := beg_sim hX hR hG hb hbj
  clear hb hbj
  refine pf_loop (Hse_of hX hR hG) B hcap hn.2 _ _ _ _ _ _ _ _ _ _ _ _ _ _ _ _ _ _ _ _ _ _ _ _ _ _ _ _ h hj ⟨by decide, ?_⟩ hE
  have z0 : (0 : Int32).toInt = 0 := by decide
  rw [z0]; exact hn.1
theorem pa_sim {X pa ac ra us bo ch BX de cap : Int32} {D cl ha hu sa ak fl Bk pr : Nat → Int32} (hX : 0 ≤ X.toInt ∧ X.toInt ≤ 1) (hR : RT (fun j => D (36 * X.toInt.toNat + j)) pa ac us ra ch bo cl ha hu sa ak fl) (hG : GdT pa ac us ra ch bo cl ha hu sa ak fl) (B : Bke BX de Bk pr) (hcap : cap.toInt = 0) {n u0 u1 u2 u3 u4 u5 u6 : Int32} {u7 u8 u9 u10 u11 u12 : Nat → Int32} {w0 w1 w2 w3 w4 w5 w6 w7 : Int32} {w8 w9 w10 w11 w12 w13 lf sv ow gt st so lfj svj soj stj gtj owj : Nat → Int32} (hn : 0 ≤ n.toInt ∧ n.toInt ≤ de.toInt) (h : R_k_playAll cl lf sa sv ow gt st so n pr pa ac ra hu ha ch u0 u1 u2 u3 u4 u5 u6 u7 u8 u9 u10 u11 u12) (hj : R_j_play X D ac pa lfj svj soj stj gtj owj n BX Bk ra cap w0 w1 w2 w3 w4 w5 w6 w7 w8 w9 w10 w11 w12 w13) : u0 = w0 ∧ (0 ≤ u0.toInt ∧ u0.toInt ≤ n.toInt) ∧ EvL pa ac u0.toInt.toNat u1 u2 u3 u4 u5 u6 u7 u8 u9 u10 u11 u12 w1 w2 w3 w4 w5 w6 w7 w8 w9 w10 w11 w12 w13 := by
  obtain ⟨g0, g1, g2, g3, g4, g5, hb, h⟩ := h
  obtain ⟨a0, a1, a2, a3, a4, a5, a6, a7, hbj, hj⟩ := hj
  have hE := beg_sim hX hR hG hb hbj
  clear hb hbj
  refine pa_loop (Hse_of hX hR hG) B hcap hn.2 _ _ _ _ _ _ _ _ _ _ _ _ _ _ _ _ _ _ _ _ _ _ _ _ _ _ _ _ h hj ⟨by decide, ?_⟩ hE
  have z0 : (0 : Int32).toInt = 0 := by decide
  rw [z0]; exact hn.1
