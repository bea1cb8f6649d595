/-! the dark: ways, whose -/
theorem RD_at0 {TN : Nat → Int32} {TF M : Nat → Nat → Int32} {b : Int32} (h : TLk 0 TN TF M) (c : b.toInt = 0) : RD (fun j => M 7 (7 * b.toInt.toNat + j)) (TN 20) (TF 15) :=
  RD_c (fun j _ => by show M 7 (7 * b.toInt.toNat + j) = M 7 (14 * 0 + j); rw [show 7 * b.toInt.toNat + j = 14 * 0 + j from by omega]) h.2.2.2.2.2.2.2.2.2.2.2.1
theorem RD_at1 {TN : Nat → Int32} {TF M : Nat → Nat → Int32} {b : Int32} (h : TLk 0 TN TF M) (c : b.toInt = 1) : RD (fun j => M 7 (7 * b.toInt.toNat + j)) (TN 21) (TF 16) :=
  RD_c (fun j _ => by show M 7 (7 * b.toInt.toNat + j) = M 7 (14 * 0 + 7 + j); rw [show 7 * b.toInt.toNat + j = 14 * 0 + 7 + j from by omega]) h.2.2.2.2.2.2.2.2.2.2.2.2
/-- a theatre and a dark, as both have them -/
def Dse (X Y pa mi : Int32) (D Dk cl ha hv : Nat → Int32) : Prop := (0 ≤ X.toInt ∧ X.toInt ≤ 1) ∧ (0 ≤ Y.toInt ∧ Y.toInt ≤ 1) ∧ (0 ≤ pa.toInt ∧ pa.toInt ≤ 5) ∧ (0 ≤ mi.toInt ∧ mi.toInt ≤ 6) ∧ (∀ p : Nat, (p : Int) < pa.toInt → D (36 * X.toInt.toNat + (6 + 2 * p)) = cl p) ∧ (∀ p : Nat, (p : Int) < pa.toInt → D (36 * X.toInt.toNat + (7 + 2 * p)) = ha p) ∧ (∀ k : Nat, (k : Int) < mi.toInt → Dk (7 * Y.toInt.toNat + (1 + k)) = hv k) ∧ (∀ p : Nat, (p : Int) < pa.toInt → 0 ≤ (cl p).toInt ∧ (cl p).toInt ≤ 99) ∧ (∀ p : Nat, (p : Int) < pa.toInt → 1 ≤ (ha p).toInt ∧ (ha p).toInt ≤ 2)
theorem Dse_of {X Y pa ac us ra ch bo mi : Int32} {D Dk cl ha hu sa ak fl hv : Nat → Int32} (hX : 0 ≤ X.toInt ∧ X.toInt ≤ 1) (hY : 0 ≤ Y.toInt ∧ Y.toInt ≤ 1) (hR : RT (fun j => D (36 * X.toInt.toNat + j)) pa ac us ra ch bo cl ha hu sa ak fl) (hG : GdT pa ac us ra ch bo cl ha hu sa ak fl) (hD : RD (fun j => Dk (7 * Y.toInt.toNat + j)) mi hv) : Dse X Y pa mi D Dk cl ha hv :=
  ⟨hX, hY, hG.1.1, hD.2.2, fun p hp => (hR.2.2.2.2.2.2.1 p hp).1, fun p hp => (hR.2.2.2.2.2.2.1 p hp).2, fun k hk => hD.2.1 k hk, fun p hp => (hG.2.1 p hp).1, fun p hp => (hG.2.1 p hp).2⟩
theorem ways_core {X Y pa mi s2 : Int32} {D Dk cl ha hv gh go h2 o2 ge gl e l un0 un : Nat → Int32} {w : Int64} {A0 B0 A B : Nat → Int64} (H : Dse X Y pa mi D Dk cl ha hv) (hl : R_k_listen gh go pa ha s2 h2 o2) (ht : R_k_tally mi ge hv (-1) s2 o2 h2 0 gl pa cl w e l) (hf : R_j_findDark un0 mi pa X D Y Dk A0 B0 A B un) : w = B 0 := by
  obtain ⟨hX, hY, hpa, hmi, hC, hH, hK, gC, gH⟩ := H
  have c0 : (0 : Int32).toInt = 0 := by decide
  have m1 : (-1 : Int32).toInt = -1 := by decide
  obtain ⟨l1, l2⟩ := listen_sp hpa gH hl
  have t := tally_sp (ok := okd (fun k => (hv k).toInt) (fun p => (ha p).toInt) (-1) 0) (N := 2 ^ pa.toInt.toNat) hmi hpa gC l1 rfl (fun S hS => (l2 S hS).2) (by rw [c0]; decide) (fun m S _ hS => by rw [okd_y, (l2 S hS).1, m1, c0]) ht
  clear hl ht
  obtain ⟨-, fA, fB⟩ := find_sp hpa hX hC hH gH hY hmi hK hf
  clear hf
  have b := BeP_W (ok := okd (fun k => (hv k).toInt) (fun p => (ha p).toInt) (-1) 0) hpa gC (by omega) fA fB (fun k S _ _ => by
    rw [okd_y]; exact ⟨fun y => y.1, fun y => ⟨y, fun q => absurd q (by omega)⟩⟩) mi.toInt.toNat (Nat.le_refl _) 0 (p7_le (by omega)).1 (by rw [Nat.sub_self, Nat.mul_zero, fA.1 0 (by omega), if_pos rfl]; decide)
  rw [Nat.sub_self, Nat.mul_zero, Nat.zero_add, Wy_v _ _ (d7 0) (fun _ => 0) (fun p _ => by unfold d7; rw [Nat.zero_div])] at b
  refine ml_eq ?_
  rw [b]
  exact t
theorem ways_no {mn Dk D un0 : Nat → Int32} {a b xt xp xa xr : Int32} {A0 B0 : Nat → Int64} {r2 : Int64} {n20 n21 n22 n23 n44 : Int32} {A B : Nat → Int64} {un : Nat → Int32} (hm : (mn 2).toInt ≤ 2) (hy : R_y_ways mn b Dk a D xt xp xa xr un0 A0 B0 r2 n20 n21 n22 n23 n44 A B un) (hn : (a.toInt < 0 ∨ (mn 0).toInt ≤ a.toInt) ∨ (b.toInt < 0 ∨ (mn 2).toInt ≤ b.toInt)) : r2 = -1 := by
  obtain ⟨r1, n, hd, hy⟩ := hy
  have hd := hasDark_sp hd hm
  rcases hy with ⟨q1, r0, m1, m2, m3, m4, hh, hy⟩ | ⟨-, e, -⟩
  · have hh := hand_sp hh
    rcases hd with ⟨-, pb, -⟩ | ⟨q0, -⟩
    · rcases hh with ⟨-, pa, -⟩ | ⟨r0, -⟩
      · clear hy
        exact absurd hn (by omega)
      · rcases hy with ⟨cc, -⟩ | ⟨-, e, -⟩
        · rw [r0] at cc; exact absurd (by decide) cc
        · exact e
    · rw [q1] at q0; exact absurd q0 (by decide)
  · exact e
theorem ways_fin {mn Dk D un0 cl ha hv gh go h2 o2 ge gl e l : Nat → Int32} {a b xt xp xa xr pa mi s2 : Int32} {A0 B0 : Nat → Int64} {r2 w : Int64} {n20 n21 n22 n23 n44 : Int32} {A B : Nat → Int64} {un : Nat → Int32} (hm : (mn 2).toInt ≤ 2) (ha' : 0 ≤ a.toInt ∧ a.toInt < (mn 0).toInt) (hb : 0 ≤ b.toInt ∧ b.toInt < (mn 2).toInt) (H : Dse a b pa mi D Dk cl ha hv) (e0 : D (36 * a.toInt.toNat + 0) = pa) (e1 : Dk (7 * b.toInt.toNat) = mi) (hl : R_k_listen gh go pa ha s2 h2 o2) (ht : R_k_tally mi ge hv (-1) s2 o2 h2 0 gl pa cl w e l) (hy : R_y_ways mn b Dk a D xt xp xa xr un0 A0 B0 r2 n20 n21 n22 n23 n44 A B un) : w = r2 := by
  obtain ⟨r1, n, hd, hy⟩ := hy
  have hd := hasDark_sp hd hm
  rcases hd with ⟨q1, -, en⟩ | ⟨-, q⟩
  · rcases hy with ⟨-, r0, m1, m2, m3, m4, hh, hy⟩ | ⟨q0, -⟩
    · have hh := hand_sp hh
      rcases hh with ⟨r1, -, f1, f2⟩ | ⟨-, p⟩
      · obtain ⟨f2, -, -⟩ := f2 H.1.2
        rcases hy with ⟨-, g3, g4, g5, hf, z, ez, e, -⟩ | ⟨cc, -⟩
        · rw [f1, f2, e0, en, e1] at hf
          have k0 : Int32.toNatClampNeg (0 : Int32) = 0 := by decide
          rw [k0] at ez
          rw [e, ez]
          exact ways_core H hl ht hf
        · rw [r1] at cc; exact absurd cc (by decide)
      · clear hy hl ht
        exact absurd ha' (by omega)
    · rw [q1] at q0; exact absurd q0 (by decide)
  · clear hy hl ht
    exact absurd hb (by omega)
theorem ways_sim {TN : Nat → Int32} {TF M : Nat → Nat → Int32} (h : TLg 0 TN TF M) (hr3 : 0 ≤ (TN 3).toInt ∧ (TN 3).toInt ≤ 2) (hr5 : 0 ≤ (TN 5).toInt ∧ (TN 5).toInt ≤ 2) {x0 x1 : Int32} {r r2 : Int64} (hx : S_x_ways TN TF x0 x1 r) (hy : S_y_ways M x0 x1 r2) : r = r2 := by
  obtain ⟨_, _, _, _, _, _, _, _, _, _, hx⟩ := hx
  obtain ⟨_, _, _, _, _, _, _, _, rst_⟩ := hy
  obtain ⟨_, _, _, _, _, _, _, hy⟩ := rst_
  have h3 : M 4 0 = TN 3 := h.1.2.2.2.1
  have h5 : M 4 2 = TN 5 := h.1.2.2.2.2.2.1
  have m5 : (M 4 2).toInt ≤ 2 := by rw [h5]; exact hr5.2
  have no : r = -1 → ((x0.toInt < 0 ∨ (TN 3).toInt ≤ x0.toInt) ∨ (x1.toInt < 0 ∨ (TN 5).toInt ≤ x1.toInt)) → r = r2 := fun e hn => by rw [e, ways_no m5 hy (by rw [h3, h5]; exact hn)]
  rcases hx with ⟨c, hx⟩ | ⟨c, hx⟩ | ⟨c, hx⟩
  · have c := ata_0 c
    rcases hx with ⟨-, e, -⟩ | ⟨-, e, -⟩ | ⟨-, e, -⟩
    · exact no e (Or.inl c)
    · exact no e (Or.inl c)
    · exact no e (Or.inl c)
  · have c := ata_1 c
    have ca : x0.toInt = 1 := by clear hx hy no; omega
    rcases hx with ⟨d, e, -⟩ | ⟨d, s2, h2, o2, hl, w, e, l, ht, er, -⟩ | ⟨d, s2, h2, o2, hl, w, e, l, ht, er, -⟩
    · exact no e (Or.inr (ata_0 d))
    · have d := ata_1 d
      have cb : x1.toInt = 1 := by clear hl ht hy no; omega
      have hD := RD_at1 h.1 cb
      rw [er]
      exact ways_fin m5 (by rw [h3]; clear hl ht hy no; omega) (by rw [h5]; clear hl ht hy no; omega) (Dse_of (by clear hl ht hy no; omega) (by clear hl ht hy no; omega) (RT_at1 h.1 ca) h.2.1.2 hD) (RT_at1 h.1 ca).1 hD.1 hl ht hy
    · have d := ata_2 d
      have cb : x1.toInt = 0 := by clear hl ht hy no; omega
      have hD := RD_at0 h.1 cb
      rw [er]
      exact ways_fin m5 (by rw [h3]; clear hl ht hy no; omega) (by rw [h5]; clear hl ht hy no; omega) (Dse_of (by clear hl ht hy no; omega) (by clear hl ht hy no; omega) (RT_at1 h.1 ca) h.2.1.2 hD) (RT_at1 h.1 ca).1 hD.1 hl ht hy
  · have c := ata_2 c
    have ca : x0.toInt = 0 := by clear hx hy no; omega
    rcases hx with ⟨d, e, -⟩ | ⟨d, s2, h2, o2, hl, w, e, l, ht, er, -⟩ | ⟨d, s2, h2, o2, hl, w, e, l, ht, er, -⟩
    · exact no e (Or.inr (ata_0 d))
    · have d := ata_1 d
      have cb : x1.toInt = 1 := by clear hl ht hy no; omega
      have hD := RD_at1 h.1 cb
      rw [er]
      exact ways_fin m5 (by rw [h3]; clear hl ht hy no; omega) (by rw [h5]; clear hl ht hy no; omega) (Dse_of (by clear hl ht hy no; omega) (by clear hl ht hy no; omega) (RT_at0 h.1 ca) h.2.1.1 hD) (RT_at0 h.1 ca).1 hD.1 hl ht hy
    · have d := ata_2 d
      have cb : x1.toInt = 0 := by clear hl ht hy no; omega
      have hD := RD_at0 h.1 cb
      rw [er]
      exact ways_fin m5 (by rw [h3]; clear hl ht hy no; omega) (by rw [h5]; clear hl ht hy no; omega) (Dse_of (by clear hl ht hy no; omega) (by clear hl ht hy no; omega) (RT_at0 h.1 ca) h.2.1.1 hD) (RT_at0 h.1 ca).1 hD.1 hl ht hy
/-- mayBe() -/
def Mgo (pa : Int32) (cl : Nat → Int32) (A B : Nat → Int64) (k S s : Nat) : Prop := (A (16807 * k + s)).toInt ≠ 0 ∧ Val pa cl s S ∧ 0 < (B (16807 * (k + 1) + (s + e7 (bt S)))).toInt
theorem mayb_sp {X Y pa mi S k u : Int32} {D Dk cl ha hv un : Nat → Int32} {A B : Nat → Int64} (H : Dse X Y pa mi D Dk cl ha hv) (hun : Un7 un) (hk : 0 ≤ k.toInt ∧ k.toInt < mi.toInt) (hS : 0 ≤ S.toInt ∧ S.toInt.toNat < 2 ^ pa.toInt.toNat) (h : R_j_mayBe pa S X D Y k Dk A un B u) : (u.toInt ≠ 0 ∧ hv5 (fun p => (ha p).toInt) S.toInt.toNat = (hv k.toInt.toNat).toInt ∧ ∃ s : Nat, s < 7 ^ pa.toInt.toNat ∧ Mgo pa cl A B k.toInt.toNat S.toInt.toNat s) ∨ (u.toInt = 0 ∧ ¬ (hv5 (fun p => (ha p).toInt) S.toInt.toNat = (hv k.toInt.toNat).toInt ∧ ∃ s : Nat, s < 7 ^ pa.toInt.toNat ∧ Mgo pa cl A B k.toInt.toNat S.toInt.toNat s)) := by
  obtain ⟨hX, hY, hpa, hmi, hC, hH, hK, gC, gH⟩ := H
  have c0 : (0 : Int32).toInt = 0 := by decide
  have c1 : (1 : Int32).toInt = 1 := by decide
  have k5 : 0 ≤ k.toInt ∧ k.toInt ≤ 5 := by clear h; omega
  have l7 := p7_le (P := pa.toInt.toNat) (by clear h; omega)
  obtain ⟨r1, h1, r3, h3, h⟩ := h
  have h1 := halv_sp hpa hX hH gH hS h1
  have h3 := hdof_sp hY k5 h3
  rw [hK _ (by clear h h1; omega)] at h3
  rcases h with ⟨e, h⟩ | ⟨e, eu⟩
  · have y : hv5 (fun p => (ha p).toInt) S.toInt.toNat = (hv k.toInt.toNat).toInt := by rw [← h1, ← h3]; exact e
    have fin : (u.toInt ≠ 0 ∧ ∃ s : Nat, s < 7 ^ pa.toInt.toNat ∧ Mgo pa cl A B k.toInt.toNat S.toInt.toNat s) ∨ (u.toInt = 0 ∧ ∀ s : Nat, s < 7 ^ pa.toInt.toNat → ¬ Mgo pa cl A B k.toInt.toNat S.toInt.toNat s) := by
      refine fx_inv (P := fun s : Int32 => (0 ≤ s.toInt ∧ s.toInt.toNat ≤ 7 ^ pa.toInt.toNat) ∧ ∀ x : Nat, (x : Int) < s.toInt → ¬ Mgo pa cl A B k.toInt.toNat S.toInt.toNat x) (fun K s hP hT => ?_) 16809 _ h ⟨⟨by decide, by rw [c0]; exact Nat.zero_le _⟩, fun x hx => absurd hx (by rw [c0]; omega)⟩
      obtain ⟨g1, g2⟩ := hP
      dsimp only [T_j_mayBe_17] at hT
      obtain ⟨b0, hb0, hT⟩ := hT
      have hb0 := stat_sp hpa hb0
      rw [hb0] at hT
      rcases hT with ⟨q, e⟩ | ⟨q, b1, e1, b2, e2, b3, e3, b4, e4', hT⟩
      · exact Or.inl (Or.inr ⟨by rw [e]; exact c0, fun x hx => g2 x (by clear h; omega)⟩)
      · have s7 : s.toInt.toNat < 7 ^ pa.toInt.toNat := by clear hT h; omega
        have s1 : 0 ≤ s.toInt ∧ s.toInt < 16807 := by clear hT h; omega
        have i2 := idx_sp (k := k) ⟨k5.1, by clear hT h; omega⟩ s1 e1 e2
        rw [i2] at e3
        have lc := lcmp0 e4'
        have go : ∀ z : Int32, z = s + 1 → ¬ Mgo pa cl A B k.toInt.toNat S.toInt.toNat s.toInt.toNat → (0 ≤ z.toInt ∧ z.toInt.toNat ≤ 7 ^ pa.toInt.toNat) ∧ ∀ x : Nat, (x : Int) < z.toInt → ¬ Mgo pa cl A B k.toInt.toNat S.toInt.toNat x := fun z ez n => by
          have g : z.toInt = s.toInt + 1 := by rw [ez]; exact mi_addc (by decide) (by clear hT h; omega) (by clear hT h; omega)
          clear hT h
          refine ⟨by omega, fun x hx => ?_⟩
          by_cases w : x = s.toInt.toNat
          · rw [w]; exact n
          · exact g2 x (by omega)
        rcases hT with ⟨v, b5, h5, hT⟩ | ⟨v, z, ez, hk'⟩
        · have h5 := after_sp hpa hun hX hC hS s1 h5
          rcases hT with ⟨w, z, ez, hk'⟩ | ⟨w, b7, e7', b8, e8, b9, e9, b10, e10, b11, e11, hT⟩
          · refine Or.inr ⟨z, go z ez (fun m => ?_), hk'⟩
            rcases h5 with ⟨-, n⟩ | ⟨n, -⟩
            · exact n m.2.1
            · exact absurd w (by clear hk' h; omega)
          · rcases h5 with ⟨n, -⟩ | ⟨n, nv⟩
            · exact absurd n w
            · obtain ⟨-, -, lt, -⟩ := Val_d hpa hS.2 s7 nv
              have g5 : b5.toInt.toNat = s.toInt.toNat + e7 (bt S.toInt.toNat) := by rw [n]; clear hT h; omega
              have r5 : 0 ≤ b5.toInt ∧ b5.toInt < 16807 := by clear hT h; omega
              have k7 : b7.toInt = k.toInt + 1 := by rw [e7']; exact mi_addc (by decide) (by clear hT h; omega) (by clear hT h; omega)
              have i9 := idx_sp (k := b7) (s := b5) ⟨by clear hT h; omega, by clear hT h; omega⟩ r5 e8 e9
              rw [show b7.toInt.toNat = k.toInt.toNat + 1 from by clear hT h; omega, g5] at i9
              rw [i9] at e10
              have lc2 := lcmp0 e11
              have nz : (A (16807 * k.toInt.toNat + s.toInt.toNat)).toInt ≠ 0 := fun q0 => v (lc.1.mpr (by rw [e3]; exact q0))
              rcases hT with ⟨p, z, ez, hk'⟩ | ⟨p, eu⟩
              · refine Or.inr ⟨z, go z ez (fun m => ?_), hk'⟩
                have mp := m.2.2
                rw [← e10] at mp
                have := lc2.2.mpr mp
                exact absurd p (Int.not_le.mpr this)
              · refine Or.inl (Or.inl ⟨by rw [eu, c1]; decide, s.toInt.toNat, s7, nz, nv, ?_⟩)
                rw [← e10]; exact lc2.2.mp p
        · refine Or.inr ⟨z, go z ez (fun m => m.1 ?_), hk'⟩
          rw [← e3]; exact lc.1.mp v
    rcases fin with ⟨a, b⟩ | ⟨a, b⟩
    · exact Or.inl ⟨a, y, b⟩
    · exact Or.inr ⟨a, fun q => by obtain ⟨s, hs, m⟩ := q.2; exact b s hs m⟩
  · exact Or.inr ⟨by rw [eu]; exact c0, fun q => e (by rw [h1, h3]; exact q.1)⟩
theorem whose_core {X Y pa mi k f s2 an al r2 v0 v2 v3 : Int32} {D Dk cl ha hv gh go h2 o2 ge gl e l un0 un : Nat → Int32} {A0 B0 A B : Nat → Int64} {w1 w2 w3 w4 w5 b10 b11 : Int32} {w6 w7 : Nat → Int64} {w8 : Nat → Int32} (H : Dse X Y pa mi D Dk cl ha hv) (hk : 0 ≤ k.toInt ∧ k.toInt < mi.toInt) (hl : R_k_listen gh go pa ha s2 h2 o2) (hc : R_k_compareMinute s2 h2 hv k mi o2 pa cl ge gl an al e l) (hf : R_j_findDark un0 mi pa X D Y Dk A0 B0 A B un) (e10 : b10 = (1 : Int32) <<< (pa &&& (31 : Int32))) (e11 : b11 = b10 - 1) (hy : fx (T_y_whose_58 pa f B v0 v2 v3 mi A un D Y k Dk r2 w1 w2 w3 w4 w5 w6 w7 w8) 66 ((0 : Int32), b11, (0 : Int32))) (hX : v0 = X) : (f.toInt = 0 → al = r2) ∧ (f.toInt ≠ 0 → an = r2) := by
  subst hX
  have H2 := H
  obtain ⟨hX, hY, hpa, hmi, hC, hH, hK, gC, gH⟩ := H
  have c0 : (0 : Int32).toInt = 0 := by decide
  have N32 : 1 ≤ 2 ^ pa.toInt.toNat ∧ 2 ^ pa.toInt.toNat ≤ 32 := tb_2p ⟨pa.toInt.toNat, by clear hl hc hf hy; omega⟩
  obtain ⟨l1, l2⟩ := listen_sp hpa gH hl
  have cc := cmp_sp (h := fun p => (ha p).toInt) (N := 2 ^ pa.toInt.toNat) hmi hk hpa gC l1 rfl (fun S hS => (l2 S hS).2) (fun S hS => (l2 S hS).1) hc
  clear hl hc
  obtain ⟨fU, fA, fB⟩ := find_sp hpa hX hC hH gH hY hmi hK hf
  clear hf
  have mf : ∀ S : Nat, S < 2 ^ pa.toInt.toNat → (May (2 ^ pa.toInt.toNat) (fun m => (hv m).toInt) (fun p => (ha p).toInt) (cpv pa cl) mi.toInt.toNat k.toInt.toNat S ↔ (hv5 (fun p => (ha p).toInt) S = (hv k.toInt.toNat).toInt ∧ ∃ s : Nat, s < 7 ^ pa.toInt.toNat ∧ Mgo pa cl A B k.toInt.toNat S s)) := fun S hS => may_iff hpa gC (by clear hy; omega) (by clear hy; omega) hS fA fB
  have fin : (f.toInt = 0 → ((B 0).toInt ≠ 0 ∧ r2 = allF (May (2 ^ pa.toInt.toNat) (fun m => (hv m).toInt) (fun p => (ha p).toInt) (cpv pa cl) mi.toInt.toNat k.toInt.toNat) b11 (2 ^ pa.toInt.toNat)) ∨ ((B 0).toInt = 0 ∧ r2 = -1)) ∧ (f.toInt ≠ 0 → r2 = anyF (May (2 ^ pa.toInt.toNat) (fun m => (hv m).toInt) (fun p => (ha p).toInt) (cpv pa cl) mi.toInt.toNat k.toInt.toNat) (2 ^ pa.toInt.toNat)) := by
    refine fx_inv (P := fun s => (0 ≤ s.1.toInt ∧ s.1.toInt.toNat ≤ 2 ^ pa.toInt.toNat) ∧ s.2.1 = allF (May (2 ^ pa.toInt.toNat) (fun m => (hv m).toInt) (fun p => (ha p).toInt) (cpv pa cl) mi.toInt.toNat k.toInt.toNat) b11 s.1.toInt.toNat ∧ s.2.2 = anyF (May (2 ^ pa.toInt.toNat) (fun m => (hv m).toInt) (fun p => (ha p).toInt) (cpv pa cl) mi.toInt.toNat k.toInt.toNat) s.1.toInt.toNat) (fun K s hP hT => ?_) 66 _ hy ⟨⟨by show 0 ≤ (0 : Int32).toInt; decide, by show (0 : Int32).toInt.toNat ≤ _; rw [c0]; exact Nat.zero_le _⟩, by show b11 = allF _ _ (0 : Int32).toInt.toNat; rw [c0]; rfl, by show (0 : Int32) = anyF _ (0 : Int32).toInt.toNat; rw [c0]; rfl⟩
    obtain ⟨S, su, an2⟩ := s
    obtain ⟨g1, g2, g3⟩ := hP
    have g1 : 0 ≤ S.toInt ∧ S.toInt.toNat ≤ 2 ^ pa.toInt.toNat := g1
    have g2 : su = allF (May (2 ^ pa.toInt.toNat) (fun m => (hv m).toInt) (fun p => (ha p).toInt) (cpv pa cl) mi.toInt.toNat k.toInt.toNat) b11 S.toInt.toNat := g2
    have g3 : an2 = anyF (May (2 ^ pa.toInt.toNat) (fun m => (hv m).toInt) (fun p => (ha p).toInt) (cpv pa cl) mi.toInt.toNat k.toInt.toNat) S.toInt.toNat := g3
    dsimp only [T_y_whose_58] at hT
    obtain ⟨b0, e0, hT⟩ := hT
    have g0 := p2_sp hpa e0
    rw [g0] at hT
    rcases hT with ⟨q, hT⟩ | ⟨q, b3, hb3, hT⟩
    · refine Or.inl ?_
      have eS : S.toInt.toNat = 2 ^ pa.toInt.toNat := by clear hT hy; omega
      rw [eS] at g2 g3
      rcases hT with ⟨f0, b1, e1, b2, e2, hT⟩ | ⟨f0, e, -⟩
      · refine ⟨fun _ => ?_, fun k => absurd f0 k⟩
        have k0 : Int32.toNatClampNeg (0 : Int32) = 0 := by decide
        rw [k0] at e1
        have lc := lcmp0 e2
        rcases hT with ⟨v, e, -⟩ | ⟨v, e, -⟩
        · exact Or.inl ⟨fun z => v (lc.1.mpr (by rw [e1]; exact z)), by rw [e]; exact g2⟩
        · exact Or.inr ⟨by rw [← e1]; exact lc.1.mp v, e⟩
      · exact ⟨fun k => absurd k f0, fun _ => by rw [e]; exact g3⟩
    · refine Or.inr ?_
      have hS : 0 ≤ S.toInt ∧ S.toInt.toNat < 2 ^ pa.toInt.toNat := by clear hT hb3 hy; omega
      replace hb3 := mayb_sp H2 fU hk hS hb3
      have io : S = Int32.ofNat S.toInt.toNat := mi_eq (by rw [Int32.toInt_ofNat_of_lt (by clear hT hb3 hy; omega)]; clear hT hb3 hy; omega)
      have nx : ∀ z : Int32, z = S + 1 → (0 ≤ z.toInt ∧ z.toInt.toNat ≤ 2 ^ pa.toInt.toNat) ∧ z.toInt.toNat = S.toInt.toNat + 1 := fun z ez => by
        have g : z.toInt = S.toInt + 1 := by rw [ez]; exact mi_addc (by decide) (by clear hT hb3 hy; omega) (by clear hT hb3 hy; omega)
        clear hT hb3 hy; omega
      rcases hT with ⟨v, z, ez, hk'⟩ | ⟨v, b5, f5, b6, f6, z, ez, hk'⟩
      · obtain ⟨a1, a2⟩ := nx z ez
        have nm : ¬ May (2 ^ pa.toInt.toNat) (fun m => (hv m).toInt) (fun p => (ha p).toInt) (cpv pa cl) mi.toInt.toNat k.toInt.toNat S.toInt.toNat := by
          rw [mf _ hS.2]
          rcases hb3 with ⟨n, -⟩ | ⟨-, n⟩
          · exact absurd v n
          · exact n
        refine ⟨(z, su, an2), ⟨a1, ?_, ?_⟩, hk'⟩
        · show su = allF _ _ z.toInt.toNat
          rw [a2, allF_n nm]; exact g2
        · show an2 = anyF _ z.toInt.toNat
          rw [a2, anyF_n nm]; exact g3
      · obtain ⟨a1, a2⟩ := nx z ez
        have ym : May (2 ^ pa.toInt.toNat) (fun m => (hv m).toInt) (fun p => (ha p).toInt) (cpv pa cl) mi.toInt.toNat k.toInt.toNat S.toInt.toNat := by
          rw [mf _ hS.2]
          rcases hb3 with ⟨-, n⟩ | ⟨n, -⟩
          · exact n
          · exact absurd n v
        refine ⟨(z, b6, b5), ⟨a1, ?_, ?_⟩, hk'⟩
        · show b6 = allF _ _ z.toInt.toNat
          rw [a2, allF_y ym, f6, g2, ← io]
        · show b5 = anyF _ z.toInt.toNat
          rw [a2, anyF_y ym, f5, g3, ← io]
  clear hy
  refine ⟨fun f0 => ?_, fun f0 => by rw [fin.2 f0]; exact cc.1⟩
  have b := BeP_W (ok := okd (fun k => (hv k).toInt) (fun p => (ha p).toInt) (-1) 0) hpa gC (by omega) fA fB (fun k S _ _ => by
    rw [okd_y]; exact ⟨fun y => y.1, fun y => ⟨y, fun q => absurd q (by omega)⟩⟩) mi.toInt.toNat (Nat.le_refl _) 0 (p7_le (by omega)).1 (by rw [Nat.sub_self, Nat.mul_zero, fA.1 0 (by omega), if_pos rfl]; decide)
  rw [Nat.sub_self, Nat.mul_zero, Nat.zero_add, Wy_v _ _ (d7 0) (fun _ => 0) (fun p _ => by unfold d7; rw [Nat.zero_div])] at b
  have wm := ways_may (N := 2 ^ pa.toInt.toNat) (M := mi.toInt.toNat) (k := k.toInt.toNat) (hl := fun k => (hv k).toInt) (h := fun p => (ha p).toInt) (cp := cpv pa cl) (by omega)
  have nn := Wy_nn (N := 2 ^ pa.toInt.toNat) (ok := okd (fun k => (hv k).toInt) (fun p => (ha p).toInt) (-1) 0) (Fc_nn (cpv pa cl)) mi.toInt.toNat 0 (fun _ => 0)
  have ep : pa = Int32.ofNat pa.toInt.toNat := mi_eq (by rw [Int32.toInt_ofNat_of_lt (by omega)]; omega)
  have full : ∀ n : Nat, n < 2 ^ pa.toInt.toNat → b11 &&& Int32.ofNat n = Int32.ofNat n ∧ (-1 : Int32) &&& Int32.ofNat n = Int32.ofNat n := fun n hn => by
    have t := tb_full2 ⟨pa.toInt.toNat, by omega⟩ ⟨n, by omega⟩ hn
    have t : ((((1 : Int32) <<< (Int32.ofNat pa.toInt.toNat &&& (31 : Int32))) - 1) &&& Int32.ofNat n = Int32.ofNat n) ∧ ((-1 : Int32) &&& Int32.ofNat n = Int32.ofNat n) := t
    rw [← ep] at t
    rw [e11, e10]; exact t
  have ae := allF_eq (m := May (2 ^ pa.toInt.toNat) (fun m => (hv m).toInt) (fun p => (ha p).toInt) (cpv pa cl) mi.toInt.toNat k.toInt.toNat) (s := -1) (t := b11) (fun n hn => (full n hn).2) (fun n hn => (full n hn).1)
  rw [cc.2]
  rcases ae with ⟨no, ea⟩ | ⟨ye, ea⟩
  · have z : (B 0).toInt = 0 := by
      rw [b]
      have : ¬ 0 < Wy (2 ^ pa.toInt.toNat) (okd (fun k => (hv k).toInt) (fun p => (ha p).toInt) (-1) 0) (Fc (cpv pa cl)) mi.toInt.toNat 0 (fun _ => 0) := fun q => by
        obtain ⟨S, hS, m⟩ := wm.mp q
        exact no S hS m
      omega
    rcases fin.1 f0 with ⟨n, -⟩ | ⟨-, e⟩
    · exact absurd z n
    · rw [ea, e]
  · have z : (B 0).toInt ≠ 0 := by
      rw [b]
      have := wm.mpr ye
      omega
    rcases fin.1 f0 with ⟨-, e⟩ | ⟨n, -⟩
    · rw [ea, e]
    · exact absurd n z
theorem whose_no {mn Dk D un0 : Nat → Int32} {a b d f xt xp xa xr r2 : Int32} {A0 B0 : Nat → Int64} {n20 n21 n22 n23 n44 : Int32} {A B : Nat → Int64} {un : Nat → Int32} (hm : (mn 2).toInt ≤ 2) (hy : R_y_whose mn b Dk a D xt xp xa xr A0 B0 un0 d f r2 n20 n21 n22 n23 n44 A B un) (hn : (a.toInt < 0 ∨ (mn 0).toInt ≤ a.toInt) ∨ (b.toInt < 0 ∨ (mn 2).toInt ≤ b.toInt)) : r2 = -2 := by
  obtain ⟨r1, n, hd, hy⟩ := hy
  have hd := hasDark_sp hd hm
  rcases hy with hy | ⟨-, e, -⟩
  · obtain ⟨q1, r0, m1, m2, m3, m4, hh, hy⟩ := hy
    have hh := hand_sp hh
    rcases hd with ⟨-, pb, -⟩ | ⟨q0, -⟩
    · rcases hh with ⟨-, pa, -⟩ | ⟨r0, -⟩
      · clear hy
        exact absurd hn (by omega)
      · rcases hy with ⟨-, e, -⟩ | ⟨cc, -⟩
        · exact e
        · rw [r0] at cc; exact absurd (by decide) cc
    · rw [q1] at q0; exact absurd q0 (by decide)
  · exact e
theorem whose_fin {mn Dk D un0 cl ha hv gh go ge gl : Nat → Int32} {a b d f xt xp xa xr pa mi r r2 hm1 : Int32} {A0 B0 : Nat → Int64} {n20 n21 n22 n23 n44 : Int32} {A B : Nat → Int64} {un : Nat → Int32} (hm : (mn 2).toInt ≤ 2) (ha' : 0 ≤ a.toInt ∧ a.toInt < (mn 0).toInt) (hb : 0 ≤ b.toInt ∧ b.toInt < (mn 2).toInt) (H : Dse a b pa mi D Dk cl ha hv) (e0 : D (36 * a.toInt.toNat + 0) = pa) (e1 : Dk (7 * b.toInt.toNat) = mi) (hM : R_k_hasMinute d mi hm1) (hx : (hm1 = 1 ∧ ∃ (s2 : Int32) (h2 o2 : Nat → Int32), R_k_listen gh go pa ha s2 h2 o2 ∧ ∃ (an al : Int32) (e l : Nat → Int32), R_k_compareMinute s2 h2 hv d mi o2 pa cl ge gl an al e l ∧ ((f.toInt = 0 ∧ r = al) ∨ (f.toInt ≠ 0 ∧ r = an))) ∨ (hm1 = 0 ∧ r = -2)) (hy : R_y_whose mn b Dk a D xt xp xa xr A0 B0 un0 d f r2 n20 n21 n22 n23 n44 A B un) : r = r2 := by
  obtain ⟨r1, n, hd, hy⟩ := hy
  have hd := hasDark_sp hd hm
  have hmv : (hm1 = 1 ∧ 0 ≤ d.toInt ∧ d.toInt < mi.toInt) ∨ (hm1 = 0 ∧ (d.toInt < 0 ∨ mi.toInt ≤ d.toInt)) := by
    rcases hM with ⟨q, e⟩ | ⟨q, ⟨q2, e⟩ | ⟨q2, e⟩⟩
    · exact Or.inr ⟨e, Or.inl q⟩
    · exact Or.inr ⟨e, Or.inr q2⟩
    · exact Or.inl ⟨e, q, q2⟩
  rcases hd with ⟨q1, -, en⟩ | ⟨-, q⟩
  · rcases hy with hy | ⟨q0, -⟩
    · obtain ⟨-, r0, m1, m2, m3, m4, hh, hy⟩ := hy
      have hh := hand_sp hh
      rcases hh with ⟨r1, -, f1, f2⟩ | ⟨-, p⟩
      · obtain ⟨f2, -, -⟩ := f2 H.1.2
        have f2 : m2 = pa := f2.trans e0
        have en : n = mi := en.trans e1
        rcases hy with ⟨cc, -⟩ | ⟨-, b5, -, b6, hb6, hy⟩
        · rw [r1] at cc; exact absurd cc (by decide)
        · have hb6 := in_sp hb6
          rw [en] at hb6
          rcases hx with ⟨x1, s2, h2, o2, hl, an, al, e, l, hc, hr⟩ | ⟨x0, er⟩
          · have hk : 0 ≤ d.toInt ∧ d.toInt < mi.toInt := by
              rcases hmv with ⟨-, y⟩ | ⟨y, -⟩
              · exact y
              · rw [x1] at y; exact absurd y (by decide)
            rcases hy with ⟨-, A1, B1, un1, hf, b10, e10, b11, e11, hy⟩ | ⟨z0, -⟩
            · rw [f1, f2, en] at hf
              rw [f2] at e10
              rw [f2, en] at hy
              have w := whose_core H hk hl hc hf e10 e11 hy f1
              rcases hr with ⟨f0, er⟩ | ⟨f0, er⟩
              · rw [er]; exact w.1 f0
              · rw [er]; exact w.2 f0
            · rcases hb6 with ⟨y, -⟩ | ⟨-, y⟩
              · rw [z0] at y; exact absurd y (by decide)
              · clear hl hc
                exact absurd hk (by omega)
          · rcases hy with ⟨z1, -⟩ | ⟨-, e, -⟩
            · rcases hb6 with ⟨-, y⟩ | ⟨y, -⟩
              · rcases hmv with ⟨w, -⟩ | ⟨-, w⟩
                · rw [x0] at w; exact absurd w (by decide)
                · exact absurd y (by omega)
              · rw [z1] at y; exact absurd y (by decide)
            · rw [er, e]
      · clear hy hx hM hmv
        exact absurd ha' (by omega)
    · rw [q1] at q0; exact absurd q0 (by decide)
  · clear hy hx hM hmv
    exact absurd hb (by omega)
theorem whose_sim {TN : Nat → Int32} {TF M : Nat → Nat → Int32} (h : TLg 0 TN TF M) (hr3 : 0 ≤ (TN 3).toInt ∧ (TN 3).toInt ≤ 2) (hr5 : 0 ≤ (TN 5).toInt ∧ (TN 5).toInt ≤ 2) {x0 x1 x2 x3 r r2 : Int32} (hx : S_x_whose TN TF x0 x1 x2 x3 r) (hy : S_y_whose M x0 x1 x2 x3 r2) : r = r2 := by
  obtain ⟨_, _, _, ge, gl, gh, go, _, rst_⟩ := hx
  obtain ⟨_, _, _, _, _, _, hx⟩ := rst_
  obtain ⟨_, _, _, _, _, _, _, _, rst_⟩ := hy
  obtain ⟨_, _, _, _, _, _, _, hy⟩ := rst_
  have h3 : M 4 0 = TN 3 := h.1.2.2.2.1
  have h5 : M 4 2 = TN 5 := h.1.2.2.2.2.2.1
  have m5 : (M 4 2).toInt ≤ 2 := by rw [h5]; exact hr5.2
  have no : r = -2 → ((x0.toInt < 0 ∨ (TN 3).toInt ≤ x0.toInt) ∨ (x1.toInt < 0 ∨ (TN 5).toInt ≤ x1.toInt)) → r = r2 := fun e hn => by rw [e, whose_no m5 hy (by rw [h3, h5]; exact hn)]
  rcases hx with ⟨c, hx⟩ | ⟨c, hx⟩ | ⟨c, hx⟩
  · have c := ata_0 c
    rcases hx with ⟨-, e, -⟩ | ⟨-, e, -⟩ | ⟨-, e, -⟩
    · exact no e (Or.inl c)
    · exact no e (Or.inl c)
    · exact no e (Or.inl c)
  · have c := ata_1 c
    have ca : x0.toInt = 1 := by clear hx hy no; omega
    rcases hx with ⟨d, e, -⟩ | ⟨d, b0, hM, hx⟩ | ⟨d, b0, hM, hx⟩
    · exact no e (Or.inr (ata_0 d))
    · have d := ata_1 d
      have cb : x1.toInt = 1 := by clear hx hM hy no; omega
      have hD := RD_at1 h.1 cb
      refine whose_fin (ge := ge) (gl := gl) (gh := gh) (go := go) m5 (by rw [h3]; clear hx hM hy no; omega) (by rw [h5]; clear hx hM hy no; omega) (Dse_of (by clear hx hM hy no; omega) (by clear hx hM hy no; omega) (RT_at1 h.1 ca) h.2.1.2 hD) (RT_at1 h.1 ca).1 hD.1 hM ?_ hy
      rcases hx with ⟨y, s2, h2, o2, hl, an, al, e, l, hc, ⟨f0, er, -⟩ | ⟨f0, er, -⟩⟩ | ⟨y, er, -⟩
      · exact Or.inl ⟨y, s2, h2, o2, hl, an, al, e, l, hc, Or.inl ⟨f0, er⟩⟩
      · exact Or.inl ⟨y, s2, h2, o2, hl, an, al, e, l, hc, Or.inr ⟨f0, er⟩⟩
      · exact Or.inr ⟨y, er⟩
    · have d := ata_2 d
      have cb : x1.toInt = 0 := by clear hx hM hy no; omega
      have hD := RD_at0 h.1 cb
      refine whose_fin (ge := ge) (gl := gl) (gh := gh) (go := go) m5 (by rw [h3]; clear hx hM hy no; omega) (by rw [h5]; clear hx hM hy no; omega) (Dse_of (by clear hx hM hy no; omega) (by clear hx hM hy no; omega) (RT_at1 h.1 ca) h.2.1.2 hD) (RT_at1 h.1 ca).1 hD.1 hM ?_ hy
      rcases hx with ⟨y, s2, h2, o2, hl, an, al, e, l, hc, ⟨f0, er, -⟩ | ⟨f0, er, -⟩⟩ | ⟨y, er, -⟩
      · exact Or.inl ⟨y, s2, h2, o2, hl, an, al, e, l, hc, Or.inl ⟨f0, er⟩⟩
      · exact Or.inl ⟨y, s2, h2, o2, hl, an, al, e, l, hc, Or.inr ⟨f0, er⟩⟩
      · exact Or.inr ⟨y, er⟩
  · have c := ata_2 c
    have ca : x0.toInt = 0 := by clear hx hy no; omega
    rcases hx with ⟨d, e, -⟩ | ⟨d, b0, hM, hx⟩ | ⟨d, b0, hM, hx⟩
    · exact no e (Or.inr (ata_0 d))
    · have d := ata_1 d
      have cb : x1.toInt = 1 := by clear hx hM hy no; omega
      have hD := RD_at1 h.1 cb
      refine whose_fin (ge := ge) (gl := gl) (gh := gh) (go := go) m5 (by rw [h3]; clear hx hM hy no; omega) (by rw [h5]; clear hx hM hy no; omega) (Dse_of (by clear hx hM hy no; omega) (by clear hx hM hy no; omega) (RT_at0 h.1 ca) h.2.1.1 hD) (RT_at0 h.1 ca).1 hD.1 hM ?_ hy
      rcases hx with ⟨y, s2, h2, o2, hl, an, al, e, l, hc, ⟨f0, er, -⟩ | ⟨f0, er, -⟩⟩ | ⟨y, er, -⟩
      · exact Or.inl ⟨y, s2, h2, o2, hl, an, al, e, l, hc, Or.inl ⟨f0, er⟩⟩
      · exact Or.inl ⟨y, s2, h2, o2, hl, an, al, e, l, hc, Or.inr ⟨f0, er⟩⟩
      · exact Or.inr ⟨y, er⟩
    · have d := ata_2 d
      have cb : x1.toInt = 0 := by clear hx hM hy no; omega
      have hD := RD_at0 h.1 cb
      refine whose_fin (ge := ge) (gl := gl) (gh := gh) (go := go) m5 (by rw [h3]; clear hx hM hy no; omega) (by rw [h5]; clear hx hM hy no; omega) (Dse_of (by clear hx hM hy no; omega) (by clear hx hM hy no; omega) (RT_at0 h.1 ca) h.2.1.1 hD) (RT_at0 h.1 ca).1 hD.1 hM ?_ hy
      rcases hx with ⟨y, s2, h2, o2, hl, an, al, e, l, hc, ⟨f0, er, -⟩ | ⟨f0, er, -⟩⟩ | ⟨y, er, -⟩
      · exact Or.inl ⟨y, s2, h2, o2, hl, an, al, e, l, hc, Or.inl ⟨f0, er⟩⟩
      · exact Or.inl ⟨y, s2, h2, o2, hl, an, al, e, l, hc, Or.inr ⟨f0, er⟩⟩
      · exact Or.inr ⟨y, er⟩
