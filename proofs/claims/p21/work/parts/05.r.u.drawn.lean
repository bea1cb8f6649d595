/-! evenings by a seed -/
def SbD : Nat → Int
  | 0 => 400
  | k + 1 => 3 * (SbD k + 990) / 2
set_option maxRecDepth 100000 in
theorem SbD_all : ∀ k : Fin 21, 400 ≤ SbD k.val ∧ SbD k.val ≤ 200000000 := by decide +kernel
theorem SbD_rng {k : Nat} (h : k ≤ 20) : 400 ≤ SbD k ∧ SbD k ≤ 200000000 := SbD_all ⟨k, by omega⟩
theorem us16 (x : Int32) : 0 ≤ (UInt32.toInt32 (Int32.toUInt32 x >>> (Int32.toUInt32 16 &&& Int32.toUInt32 31))).toInt ∧ (UInt32.toInt32 (Int32.toUInt32 x >>> (Int32.toUInt32 16 &&& Int32.toUInt32 31))).toInt ≤ 65535 := by
  have h := pk_ushr x 16 16 (by decide)
  generalize (UInt32.toInt32 (Int32.toUInt32 x >>> (Int32.toUInt32 16 &&& Int32.toUInt32 31))) = z at h ⊢
  have hb : x.toBitVec.toNat < 2 ^ 32 := x.toBitVec.isLt
  have e : z.toInt = (z.toBitVec.toNat : Int) := by
    show z.toBitVec.toInt = _
    rw [BitVec.toInt_eq_toNat_cond]
    have : 2 * z.toBitVec.toNat < 2 ^ 32 := by rw [h]; omega
    rw [if_pos this]
  rw [e, h]
  omega
/-- drawn: savings alike, bounded -/
def DrI (ac : Int32) (S C : Int) (ch : Int32) (sv : Nat → Int32) (chj : Int32) (svj : Nat → Int32) : Prop := chj = ch ∧ (0 ≤ ch.toInt ∧ ch.toInt ≤ C) ∧ (∀ a : Nat, (a : Int) < ac.toInt → svj a = sv a ∧ 0 ≤ (sv a).toInt ∧ (sv a).toInt ≤ S)
theorem DrI_up {ac : Int32} {S C S2 C2 : Int} {ch chj : Int32} {sv svj : Nat → Int32} (h : DrI ac S C ch sv chj svj) (h1 : S ≤ S2) (h2 : C ≤ C2) : DrI ac S2 C2 ch sv chj svj := ⟨h.1, by have := h.2.1; omega, fun a ha => by have := h.2.2 a ha; exact ⟨this.1, by omega, by omega⟩⟩
theorem DrI_give {ac x : Int32} {S C : Int} {ch chj y : Int32} {sv svj : Nat → Int32} (hS : S ≤ 300000000) (hC : C ≤ 1000000) (hx : 0 ≤ x.toInt ∧ x.toInt < ac.toInt) (hy : 1 ≤ y.toInt ∧ y.toInt ≤ 2) (h : DrI ac S C ch sv chj svj) : DrI ac (S + 2) (C + 2) (ch + y) (upd sv x.toInt.toNat (sv x.toInt.toNat + y)) (chj + y) (upd svj x.toInt.toNat (svj x.toInt.toNat + y)) := by
  obtain ⟨e, hc, hs⟩ := h
  have g : (ch + y).toInt = ch.toInt + y.toInt := mi_add (by omega) (by omega)
  refine ⟨by rw [e], by omega, fun a ha => ?_⟩
  by_cases k : a = x.toInt.toNat
  · have q := hs x.toInt.toNat (by omega)
    subst k
    rw [pk_us, pk_us, q.1]
    have g2 : (sv x.toInt.toNat + y).toInt = (sv x.toInt.toNat).toInt + y.toInt := mi_add (by omega) (by omega)
    exact ⟨rfl, by omega, by omega⟩
  · have q := hs a ha
    rw [pk_un k, pk_un k]
    exact ⟨q.1, by omega, by omega⟩
/-- the list of those who live -/
theorem pc_le (L : Int32) : ∀ a b : Nat, a ≤ b → pc L a ≤ pc L b := by
  intro a b h
  induction b with
  | zero => rw [show a = 0 from by omega]; exact Int.le_refl _
  | succ b ih =>
    have e : pc L (b + 1) = pc L b + if lvb L b = true then 1 else 0 := rfl
    by_cases k : a = b + 1
    · rw [k]; exact Int.le_refl _
    · have := ih (by omega)
      rw [e]
      split <;> omega
theorem pc_s {L : Int32} {k : Nat} (h : lvb L k = true) : pc L (k + 1) = pc L k + 1 := by
  show pc L k + (if _ then _ else _) = _
  rw [if_pos h]
theorem pc_n {L : Int32} {k : Nat} (h : ¬ lvb L k = true) : pc L (k + 1) = pc L k := by
  show pc L k + (if _ then _ else _) = _
  rw [if_neg h]; omega
theorem pc_ac {ac L : Int32} {st : Nat → Int32} (hac : 0 ≤ ac.toInt ∧ ac.toInt ≤ 6) (hL : Lvs ac L st) : ∀ k : Nat, k ≤ 6 → ac.toInt.toNat ≤ k → pc L k = pc L ac.toInt.toNat := by
  intro k
  induction k with
  | zero => intro _ h; rw [show ac.toInt.toNat = 0 from by omega]
  | succ k ih =>
    intro h6 h
    by_cases e : ac.toInt.toNat = k + 1
    · rw [e]
    · rw [pc_n (fun y => by have := ((hL.2 k (by omega)).mp y).1; omega)]
      exact ih (by omega) (by omega)
def DfI (ac L : Int32) (n : Nat) (live : Int32) (df : Nat → Int32) : Prop := live.toInt = pc L n ∧ ∀ a : Nat, a < n → lvb L a = true → (df (pc L a).toNat).toInt = (a : Int)
theorem liv_sp {ac L k u : Int32} {st : Nat → Int32} (hac : 0 ≤ ac.toInt ∧ ac.toInt ≤ 6) (hL : Lvs ac L st) (hk : 0 ≤ k.toInt ∧ k.toInt < pc L 6) (h : R_j_livingOne L k u) : (0 ≤ u.toInt ∧ u.toInt < ac.toInt) ∧ lvb L u.toInt.toNat = true ∧ pc L u.toInt.toNat = k.toInt := by
  have key : ∀ (N : Nat) (i s : Int32), fx (T_j_livingOne_4 L u) N (i, s) → (0 ≤ i.toInt ∧ i.toInt ≤ 6) → (0 ≤ s.toInt ∧ s.toInt + pc L i.toInt.toNat = k.toInt) → (0 ≤ u.toInt ∧ u.toInt < ac.toInt) ∧ lvb L u.toInt.toNat = true ∧ pc L u.toInt.toNat = k.toInt := by
    intro N
    induction N with
    | zero => intro i s h; exact h.elim
    | succ N ih =>
      intro i s h hi hs
      have i5 : 0 ≤ i.toInt ∧ i.toInt ≤ 5 := by
        clear h
        by_cases e : i.toInt = 6
        · have q : pc L i.toInt.toNat = pc L 6 := by rw [e]; rfl
          omega
        · omega
      have f3 : ∀ z : Int32, z = i + 1 → (0 ≤ z.toInt ∧ z.toInt ≤ 6) ∧ z.toInt.toNat = i.toInt.toNat + 1 := fun z ez => by
        have g : z.toInt = i.toInt + 1 := by rw [ez]; exact mi_addc (by decide) (by clear h; omega) (by clear h; omega)
        clear h
        omega
      have rg := mi_rng s
      replace h := fx_o h
      dsimp only [T_j_livingOne_4] at h
      obtain ⟨b0, hb0, h⟩ := h
      have hb0 := has_sp hL.1 i5 hb0
      rcases h with ⟨q, b1, hb1, b2, e2, z, ez, hk2⟩ | ⟨q, ⟨d, e⟩ | ⟨d, b4, hb4, b5, e5, z, ez, hk2⟩⟩
      · have nb : ¬ lvb L i.toInt.toNat = true := by
          rcases hb0 with ⟨-, y⟩ | ⟨y, -⟩
          · rw [y] at q; exact absurd q (by decide)
          · rw [y]; decide
        have g := f3 z ez
        have e2 : b2 = s := by rw [e2]; exact Int32.sub_zero s
        refine ih z b2 hk2 g.1 ?_
        rw [g.2, e2, pc_n nb]; exact hs
      · have yb : lvb L i.toInt.toNat = true := by
          rcases hb0 with ⟨y, -⟩ | ⟨-, y⟩
          · exact y
          · rw [y] at q; exact absurd (by decide) q
        rw [e]
        exact ⟨⟨i5.1, by have := ((hL.2 _ (by omega)).mp yb).1; omega⟩, yb, by omega⟩
      · have yb : lvb L i.toInt.toNat = true := by
          rcases hb0 with ⟨y, -⟩ | ⟨-, y⟩
          · exact y
          · rw [y] at q; exact absurd (by decide) q
        have g := f3 z ez
        have g5 : b5.toInt = s.toInt - 1 := by rw [e5]; exact mi_subc (by decide) (by clear hk2; omega) (by clear hk2; omega)
        refine ih z b5 hk2 g.1 ?_
        rw [g.2, pc_s yb]
        clear hk2
        omega
  have z0 : (0 : Int32).toInt.toNat = 0 := by decide
  refine key 8 _ _ h ⟨by decide, by decide⟩ ?_
  rw [z0]
  exact ⟨hk.1, by show k.toInt + 0 = k.toInt; omega⟩
theorem dr_in {p live L X pa ac : Int32} {D cl ha df st : Nat → Int32} {u0 u1 : Int32} {u2 u3 u4 u5 u6 u7 u8 : Nat → Int32} {y0 y1 y2 y3 y4 y5 y6 y7 y8 y9 y10 y11 y12 : Int32} {y13 y14 y15 y16 y17 y18 : Nat → Int32} {Kc Kr : (Int32 × Int32 × Int32 × (Nat → Int32)) → Prop} {S C : Int} (hS : S ≤ 200000000) (hCc : C ≤ 900000) (hX : 0 ≤ X.toInt ∧ X.toInt ≤ 1) (hac : 0 ≤ ac.toInt ∧ ac.toInt ≤ 6) (hpa : 0 ≤ pa.toInt ∧ pa.toInt ≤ 5) (hC : ∀ i : Nat, (i : Int) < pa.toInt → D (36 * X.toInt.toNat + (6 + 2 * i)) = cl i) (hHa : ∀ i : Nat, (i : Int) < pa.toInt → D (36 * X.toInt.toNat + (7 + 2 * i)) = ha i) (gC : ∀ i : Nat, (i : Int) < pa.toInt → 0 ≤ (cl i).toInt ∧ (cl i).toInt ≤ 99) (gHa : ∀ i : Nat, (i : Int) < pa.toInt → 1 ≤ (ha i).toInt ∧ (ha i).toInt ≤ 2) (hL : Lvs ac L st) (hDf : DfI ac L ac.toInt.toNat live df) (hp : 0 ≤ p.toInt ∧ p.toInt < pa.toInt) (h0 : 0 < live.toInt) : ∀ (N M : Nat) (i x ch chj : Int32) (sv svj : Nat → Int32), fx (T_k_playDrawn_85 cl p live df ha Kc u0 u1 u2 u3 u4 u5 u6 u7 u8) N (i, x, ch, sv) → fx (T_y_drawn_85 p X D L Kr y0 y1 y2 y3 y4 y5 y6 y7 y8 y9 y10 y11 y12 y13 y14 y15 y16 y17 y18) M (i, chj, x, svj) → (0 ≤ i.toInt ∧ i.toInt ≤ (cl p.toInt.toNat).toInt) → DrI ac (S + 2 * i.toInt) (C + 2 * i.toInt) ch sv chj svj → ∃ (z x2 ch2 chj2 : Int32) (sv2 svj2 : Nat → Int32), z = p + 1 ∧ Kc (z, x2, ch2, sv2) ∧ Kr (z, chj2, x2, svj2) ∧ DrI ac (S + 198) (C + 198) ch2 sv2 chj2 svj2 := by
  have gp := gC p.toInt.toNat (by omega)
  have gh := gHa p.toInt.toNat (by omega)
  have pl : pc L 6 = live.toInt := by rw [hDf.1]; exact pc_ac hac hL 6 (by omega) (by omega)
  have L0 : L.toInt ≠ 0 := fun e => by
    have e2 : L = 0 := mi_eq (by rw [e]; decide)
    rw [e2] at pl
    have q : pc 0 6 = 0 := by decide
    omega
  intro N
  induction N with
  | zero => intro M i x ch chj sv svj h; exact h.elim
  | succ N ih =>
    intro M i x ch chj sv svj h hj hi hD
    cases M with
    | zero => exact hj.elim
    | succ M =>
      have f3 : i.toInt < (cl p.toInt.toNat).toInt → ∀ z : Int32, z = i + 1 → (0 ≤ z.toInt ∧ z.toInt ≤ (cl p.toInt.toNat).toInt) ∧ z.toInt = i.toInt + 1 := fun _ z ez => by
        have g : z.toInt = i.toInt + 1 := by rw [ez]; exact mi_addc (by decide) (by clear h hj; omega) (by clear h hj; omega)
        clear h hj
        omega
      have fb : ∀ {b0 b1 : Int32}, b0 = (2 : Int32) * p → b1 = (6 : Int32) + b0 → b1.toInt = 6 + 2 * p.toInt := fun {b0 b1} e0 e1 => by
        have g0 : b0.toInt = 2 * p.toInt := by rw [e0]; exact mi_cmul (by decide) (by clear h hj; omega) (by clear h hj; omega)
        have s6 : (6 : Int32).toInt = 6 := by decide
        rw [e1, mi_add (by rw [s6]; clear h hj; omega) (by rw [s6]; clear h hj; omega), s6, g0]
      have gD : DrI ac (S + 2 * i.toInt) (C + 2 * i.toInt) ch sv chj svj → DrI ac (S + 198) (C + 198) ch sv chj svj := fun q => DrI_up q (by clear h hj; omega) (by clear h hj; omega)
      replace h := fx_o h
      replace hj := fx_o hj
      dsimp only [T_k_playDrawn_85] at h
      dsimp only [T_y_drawn_85] at hj
      obtain ⟨b0, e0, h⟩ := h
      obtain ⟨c0, k0, c1, k1, c2, hc2, hj⟩ := hj
      rw [mi_cl] at e0
      have kk := fb k0 k1
      have hc2 := of_sp hX (by rw [kk]; clear h hj; omega) hc2
      rw [kk, show (6 + 2 * p.toInt).toNat = 6 + 2 * p.toInt.toNat from by clear h hj; omega, hC _ (by clear h hj; omega)] at hc2
      rw [e0] at h
      rw [hc2] at hj
      rcases h with ⟨d, z, ez, hk⟩ | ⟨d, b2, e2, b3, e3, b4, e4, b5, e5, b6, e6, b7, e7, b8, b9, hg, z, ez, hk⟩
      · rcases hj with ⟨-, z2, ez2, hk2⟩ | ⟨d2, -⟩
        · have ezz : z2 = z := by rw [ez2, ez]
          rw [ezz] at hk2
          exact ⟨z, x, ch, chj, sv, svj, ez, hk, hk2, gD hD⟩
        · exact absurd d (Int.not_le.mpr d2)
      · rcases hj with ⟨d2, -⟩ | ⟨-, ⟨l0, -⟩ | ⟨-, o1, ho, r1, x2, hr, v1, hv, h1, hh, g1, g2, hgt, z2, ez2, hk2⟩⟩
        · exact absurd d2 (Int.not_le.mpr d)
        · exact absurd l0 L0
        · have ezz : z2 = z := by rw [ez2, ez]
          rw [ezz] at hk2
          have ho := ones_sp hL.1 ho
          have eo : o1 = live := mi_eq (by rw [ho, pl])
          obtain ⟨t1, q1, t2, q2, t3, q3, t4, q4, er, ex⟩ := hr
          have ex2 : x2 = b3 := by rw [ex, q2, q1, e3, e2]
          have et3 : t3 = b4 := by rw [q3, e4, ← ex2, ex]
          have er2 : r1 = b5 := by rw [er, q4, et3, eo, e5]
          have u16 := us16 b3
          rw [← e4] at u16
          have g5 := rem_sp u16.1 h0 e5
          have m0 := Int.emod_nonneg b4.toInt (show live.toInt ≠ 0 by omega)
          have m1 := Int.emod_lt_of_pos b4.toInt h0
          rw [er2] at hv
          have hv := liv_sp hac hL (by rw [pl, g5]; exact ⟨m0, m1⟩) hv
          have ev : b6 = v1 := mi_eq (by
            have q := hDf.2 v1.toInt.toNat (by omega) hv.2.1
            rw [hv.2.2] at q
            rw [e6, mi_cl, q]
            omega)
          have hh := hd_sp hX hpa.2 hHa hp hh
          rw [mi_cl] at e7
          have ehh : h1 = b7 := by rw [hh, e7]
          have hg := gv_sp hg
          have hgt := gt_sp hgt
          have g3 := f3 d z ez
          rw [ex2] at hk2
          refine ih M z b3 b8 g1 b9 g2 hk hk2 g3.1 ?_
          rw [hg.1, hg.2, hgt.1, hgt.2, ev, ehh, e7]
          have up := DrI_give (y := ha p.toInt.toNat) (x := v1) (by clear hk hk2; omega) (by clear hk hk2; omega) hv.1 gh hD
          exact DrI_up up (by clear hk hk2; omega) (by clear hk hk2; omega)
theorem dr_mid {live L X pa ac ni nij ra cap e : Int32} {D cl ha hu df st stj lf ow lfj owj : Nat → Int32} {u0 u1 : Int32} {u2 u3 u4 u5 u6 u7 u8 : Nat → Int32} {y0 y1 y2 y3 y4 y5 y6 y7 y8 y9 y10 y11 y12 : Int32} {y13 y14 y15 y16 y17 y18 : Nat → Int32} {Kc : (Int32 × Int32 × Int32 × Int32 × (Nat → Int32) × (Nat → Int32) × (Nat → Int32) × (Nat → Int32) × (Nat → Int32)) → Prop} {Kr : (Int32 × Int32 × Int32 × Int32 × Int32 × (Nat → Int32) × (Nat → Int32) × (Nat → Int32) × (Nat → Int32)) → Prop} {S C : Int} (hS : S ≤ 190000000) (hCc : C ≤ 800000) (hC0 : 0 ≤ C) (hX : 0 ≤ X.toInt ∧ X.toInt ≤ 1) (hac : 0 ≤ ac.toInt ∧ ac.toInt ≤ 6) (hpa : 0 ≤ pa.toInt ∧ pa.toInt ≤ 5) (hC : ∀ i : Nat, (i : Int) < pa.toInt → D (36 * X.toInt.toNat + (6 + 2 * i)) = cl i) (hHa : ∀ i : Nat, (i : Int) < pa.toInt → D (36 * X.toInt.toNat + (7 + 2 * i)) = ha i) (gC : ∀ i : Nat, (i : Int) < pa.toInt → 0 ≤ (cl i).toInt ∧ (cl i).toInt ≤ 99) (gHa : ∀ i : Nat, (i : Int) < pa.toInt → 1 ≤ (ha i).toInt ∧ (ha i).toInt ≤ 2) (hL : Lvs ac L st) (hDf : DfI ac L ac.toInt.toNat live df) : ∀ (N M : Nat) (p x ch chj : Int32) (sv svj : Nat → Int32), fx (T_k_playDrawn_65 pa ac cl lf ni ra ow hu st e df live ha Kc u0 u1 u2 u3 u4 u5 u6 u7 u8) N (p, x, ch, sv) → fx (T_y_drawn_73 pa ac X D lfj nij ra owj cap L stj e Kr y0 y1 y2 y3 y4 y5 y6 y7 y8 y9 y10 y11 y12 y13 y14 y15 y16 y17 y18) M (p, chj, x, svj) → (0 ≤ p.toInt ∧ p.toInt ≤ pa.toInt) → DrI ac (S + 198 * p.toInt) (C + 198 * p.toInt) ch sv chj svj → ∃ (z x2 chn nn ch2 chj2 nj1 nj2 Lj : Int32) (sv2 svj2 l2 o2 s2 t2 jl2 jo2 js2 jt2 : Nat → Int32), z = e + 1 ∧ R_k_passNight ac cl lf ni ra ow hu 0 ch2 sv2 st chn nn l2 o2 s2 t2 ∧ Kc (z, x2, chn, nn, l2, o2, s2, t2, df) ∧ R_j_night ac pa X D lfj nij ra owj cap 0 chj2 L svj2 stj nj1 nj2 Lj jl2 jo2 js2 jt2 ∧ Kr (z, nj1, nj2, Lj, x2, jl2, jo2, js2, jt2) ∧ DrI ac (S + 990) (C + 990) ch2 sv2 chj2 svj2 := by
  have pl : pc L 6 = live.toInt := by rw [hDf.1]; exact pc_ac hac hL 6 (by omega) (by omega)
  have L0 : live.toInt ≤ 0 → L.toInt = 0 := fun h0 => by
    refine (Bts_z (Bts_self hL.1)).mpr (fun j hj y => ?_)
    have a := pc_s y
    have b := pc_le L (j + 1) 6 (by omega)
    have c := (pc_rng L j).1
    omega
  -- nobody lives: the reference goes through its palms and changes nothing
  have thru : live.toInt ≤ 0 → ∀ (M : Nat) (p x chj : Int32) (svj : Nat → Int32), fx (T_y_drawn_73 pa ac X D lfj nij ra owj cap L stj e Kr y0 y1 y2 y3 y4 y5 y6 y7 y8 y9 y10 y11 y12 y13 y14 y15 y16 y17 y18) M (p, chj, x, svj) → (0 ≤ p.toInt ∧ p.toInt ≤ pa.toInt) → ∃ (z nj1 nj2 Lj : Int32) (jl2 jo2 js2 jt2 : Nat → Int32), z = e + 1 ∧ R_j_night ac pa X D lfj nij ra owj cap 0 chj L svj stj nj1 nj2 Lj jl2 jo2 js2 jt2 ∧ Kr (z, nj1, nj2, Lj, x, jl2, jo2, js2, jt2) := by
    intro h0 M
    induction M with
    | zero => intro p x chj svj h; exact h.elim
    | succ M ih =>
      intro p x chj svj h hp
      have f3 : p.toInt < pa.toInt → ∀ z : Int32, z = p + 1 → 0 ≤ z.toInt ∧ z.toInt ≤ pa.toInt := fun _ z ez => by
        have g : z.toInt = p.toInt + 1 := by rw [ez]; exact mi_addc (by decide) (by clear h; omega) (by clear h; omega)
        clear h
        omega
      replace h := fx_o h
      dsimp only [T_y_drawn_73] at h
      rcases h with ⟨c, b0, b1, b2, b3, b4, b5, b6, hn, z, ez, hk⟩ | ⟨c, h⟩
      · exact ⟨z, b0, b1, b2, b3, b4, b5, b6, ez, hn, hk⟩
      · have h : fx (T_y_drawn_85 p X D L (fx (T_y_drawn_73 pa ac X D lfj nij ra owj cap L stj e Kr y0 y1 y2 y3 y4 y5 y6 y7 y8 y9 y10 y11 y12 y13 y14 y15 y16 y17 y18) M) y0 y1 y2 y3 y4 y5 y6 y7 y8 y9 y10 y11 y12 y13 y14 y15 y16 y17 y18) (2147483648 + 1) ((0 : Int32), chj, x, svj) := h
        replace h := fx_o h
        dsimp only [T_y_drawn_85] at h
        obtain ⟨c0, -, c1, -, c2, -, h⟩ := h
        rcases h with ⟨-, z, ez, hk⟩ | ⟨-, ⟨-, z, ez, hk⟩ | ⟨l0, -⟩⟩
        · exact ih z x chj svj hk (f3 c z ez)
        · exact ih z x chj svj hk (f3 c z ez)
        · exact absurd (L0 h0) l0
  intro N
  induction N with
  | zero => intro M p x ch chj sv svj h; exact h.elim
  | succ N ih =>
    intro M p x ch chj sv svj h hj hp hD
    have f3 : p.toInt < pa.toInt → ∀ z : Int32, z = p + 1 → (0 ≤ z.toInt ∧ z.toInt ≤ pa.toInt) ∧ z.toInt = p.toInt + 1 := fun _ z ez => by
      have g : z.toInt = p.toInt + 1 := by rw [ez]; exact mi_addc (by decide) (by clear h hj thru; omega) (by clear h hj thru; omega)
      clear h hj thru
      omega
    have gD : DrI ac (S + 990) (C + 990) ch sv chj svj := DrI_up hD (by clear h hj thru; omega) (by clear h hj thru; omega)
    have hS2 : S + 198 * p.toInt ≤ 200000000 := by clear h hj thru; omega
    have hC2 : C + 198 * p.toInt ≤ 900000 := by clear h hj thru; omega
    replace h := fx_o h
    dsimp only [T_k_playDrawn_65] at h
    rcases h with ⟨c, b0, b1, b2, b3, b4, b5, hn, z, ez, hk⟩ | ⟨c, ⟨l0, b0, b1, b2, b3, b4, b5, hn, z, ez, hk⟩ | ⟨l0, h⟩⟩
    · cases M with
      | zero => exact hj.elim
      | succ M =>
        replace hj := fx_o hj
        dsimp only [T_y_drawn_73] at hj
        rcases hj with ⟨-, c0, c1, c2, c3, c4, c5, c6, hn2, z2, ez2, hk2⟩ | ⟨c2, -⟩
        · have ezz : z2 = z := by rw [ez2, ez]
          rw [ezz] at hk2
          exact ⟨z, x, b0, b1, ch, chj, c0, c1, c2, sv, svj, b2, b3, b4, b5, c3, c4, c5, c6, ez, hn, hk, hn2, hk2, gD⟩
        · exact absurd c (Int.not_le.mpr c2)
    · obtain ⟨z2, c0, c1, c2, c3, c4, c5, c6, ez2, hn2, hk2⟩ := thru l0 M p x chj svj hj hp
      have ezz : z2 = z := by rw [ez2, ez]
      rw [ezz] at hk2
      exact ⟨z, x, b0, b1, ch, chj, c0, c1, c2, sv, svj, b2, b3, b4, b5, c3, c4, c5, c6, ez, hn, hk, hn2, hk2, gD⟩
    · cases M with
      | zero => exact hj.elim
      | succ M =>
        replace hj := fx_o hj
        dsimp only [T_y_drawn_73] at hj
        rcases hj with ⟨c2, -⟩ | ⟨-, hj⟩
        · exact absurd c2 (Int.not_le.mpr c)
        · have z0 : (0 : Int32).toInt = 0 := by decide
          obtain ⟨z, x2, ch2, chj2, sv2, svj2, ez, hk, hk2, hD2⟩ := dr_in hS2 hC2 hX hac hpa hC hHa gC gHa hL hDf ⟨hp.1, c⟩ l0 _ _ _ _ _ _ _ _ h hj ⟨by decide, by rw [z0]; exact (gC p.toInt.toNat (by clear h hj thru; omega)).1⟩ (by rw [z0]; exact DrI_up hD (by clear h hj thru; omega) (by clear h hj thru; omega))
          have g3 := f3 c z ez
          refine ih M z x2 ch2 chj2 sv2 svj2 hk hk2 g3.1 (DrI_up hD2 ?_ ?_)
          · rw [g3.2]; clear h hj hk hk2 thru; omega
          · rw [g3.2]; clear h hj hk hk2 thru; omega
theorem dr_night {pa ac X ra cap ch ni li chj nij u0 u1 w0 w1 w2 : Int32} {D cl hu ow owj sv st svj stj lf lfj u2 u3 u4 u5 w3 w4 w5 w6 : Nat → Int32} {S C : Int} (hS : 0 ≤ S ∧ S ≤ 300000000) (hX : 0 ≤ X.toInt ∧ X.toInt ≤ 1) (hac : 0 ≤ ac.toInt ∧ ac.toInt ≤ 6) (hpa : 0 ≤ pa.toInt ∧ pa.toInt ≤ 5) (hC : ∀ i : Nat, (i : Int) < pa.toInt → D (36 * X.toInt.toNat + (6 + 2 * i)) = cl i) (hH : ∀ i : Nat, (i : Int) < ac.toInt → D (36 * X.toInt.toNat + (16 + 2 * i)) = hu i) (gH : ∀ i : Nat, (i : Int) < ac.toInt → 0 ≤ (hu i).toInt ∧ (hu i).toInt ≤ 40) (gR : 0 ≤ ra.toInt ∧ ra.toInt ≤ 50) (hcap : cap.toInt = 0) (hn : 0 ≤ ni.toInt ∧ ni.toInt ≤ 1000) (en : nij = ni) (hL : Lvs ac li st) (eT : ∀ a : Nat, a < 6 → stj a = st a) (hD : DrI ac S C ch sv chj svj) (hc : R_k_passNight ac cl lf ni ra ow hu 0 ch sv st u0 u1 u2 u3 u4 u5) (hj : R_j_night ac pa X D lfj nij ra owj cap 0 chj li svj stj w0 w1 w2 w3 w4 w5 w6) : w1 = u1 ∧ u1 = ni + 1 ∧ Lvs ac w2 u5 ∧ (∀ a : Nat, a < 6 → w6 a = u5 a) ∧ DrI ac (3 * S / 2) C u0 u4 w0 w5 := by
  obtain ⟨e1, hch, hR⟩ := hD
  rw [e1, en] at hj
  have hLj : Lvs ac li stj := ⟨hL.1, fun k hk => by rw [eT k hk]; exact hL.2 k hk⟩
  have z00 : 0 ≤ (0 : Int32).toInt ∧ (0 : Int32).toInt ≤ 30 := by decide
  have hp : ∀ a : Nat, (a : Int) < ac.toInt → 0 ≤ (prc hu 0 0 a).toInt ∧ (prc hu 0 0 a).toInt ≤ 160 := fun a ha => prc_rng (gH a ha) z00
  obtain ⟨c0, c1, -, -, c4, c5⟩ := nc_sp hac hc
  obtain ⟨j0, j1, j2, -, -, j5, j6⟩ := nj_sp hac hX hpa hC hH hLj hj
  clear hc hj
  have eC := chs_c (hu := hu) (en := 0) (c := ch) (n := ac.toInt.toNat) (sv := sv) (st := st) (sv' := svj) (st' := stj) (fun a ha => (hR a (by omega)).1) (fun a ha => eT a (by omega))
  have eE : ∀ a : Nat, (a : Int) < ac.toInt → eatb hu 0 svj stj (chs hu 0 svj stj ch a) a = eatb hu 0 sv st (chs hu 0 sv st ch a) a := fun a ha => by
    rw [eC a (by omega)]; exact eatb_c (hR a ha).1 (eT a (by omega))
  have g1 : (ni + 1).toInt = ni.toInt + 1 := mi_addc (by decide) (by omega) (by omega)
  have live : ∀ a : Nat, (a : Int) < ac.toInt → ((u5 a).toInt = -1 ↔ eatb hu 0 sv st (chs hu 0 sv st ch a) a = true) := fun a ha => by
    rcases c4 a ha with ⟨k, -, t⟩ | ⟨k, v, -, t⟩ | ⟨k, v, -, t⟩
    · exact ⟨fun _ => k, fun _ => by rw [t]; exact (eatb_t.mp k).1⟩
    · exact ⟨fun y => by rw [t] at y; omega, fun y => by rw [k] at y; exact absurd y (by decide)⟩
    · exact ⟨fun y => by rw [t] at y; exact absurd y v, fun y => by rw [k] at y; exact absurd y (by decide)⟩
  have cr := chs_rng (hu := hu) (en := 0) (c := ch) (sv := sv) (st := st) (n := ac.toInt.toNat) (fun a ha => (hp a (by omega)).1) hch.1 ac.toInt.toNat (Nat.le_refl _)
  refine ⟨by rw [j1, c1], c1, ⟨j2.1, fun k hk => ?_⟩, fun a ha6 => ?_, ?_, ?_, fun a ha => ?_⟩
  · rw [j2.2 k hk]
    constructor
    · rintro ⟨x, y⟩
      rw [eE k x] at y
      exact ⟨x, (live k x).mpr y⟩
    · rintro ⟨x, y⟩
      refine ⟨x, ?_⟩
      rw [eE k x]; exact (live k x).mp y
  · by_cases ha : (a : Int) < ac.toInt
    · obtain ⟨s, hs, -⟩ := j5 a ha
      rcases c4 a ha with ⟨k, -, t⟩ | ⟨k, v, -, t⟩ | ⟨k, v, -, t⟩
      · rcases hs with ⟨-, -, t2⟩ | ⟨k2, -⟩ | ⟨k2, -⟩
        · rw [t, t2, eT a ha6]
        · rw [eE a ha, k] at k2; exact absurd k2 (by decide)
        · rw [eE a ha, k] at k2; exact absurd k2 (by decide)
      · rcases hs with ⟨k2, -⟩ | ⟨-, -, -, t2⟩ | ⟨-, v2, -⟩
        · rw [eE a ha, k] at k2; exact absurd k2 (by decide)
        · rw [t, t2]
        · rw [eT a ha6] at v2; exact absurd v v2
      · rcases hs with ⟨k2, -⟩ | ⟨-, v2, -⟩ | ⟨-, -, -, t2⟩
        · rw [eE a ha, k] at k2; exact absurd k2 (by decide)
        · rw [eT a ha6] at v2; exact absurd v2 v
        · rw [t, t2, eT a ha6]
    · rw [(c5 a (by omega)).2, j6 a (by omega), eT a ha6]
  · rw [j0, c0]; exact eC _ (Nat.le_refl _)
  · rw [c0]; omega
  · have r := hR a ha
    have p := hp a ha
    obtain ⟨s, hs, w, hw, hv2⟩ := j5 a ha
    have ev : w5 a = w := by
      rcases hv2 with ⟨-, y⟩ | ⟨y, -⟩
      · exact y
      · exact absurd hcap y
    by_cases k : eatb hu 0 sv st (chs hu 0 sv st ch a) a = true
    · have kt := eatb_t.mp k
      have gx : (sv a + -(prc hu 0 0 a)).toInt = (sv a).toInt - (prc hu 0 0 a).toInt := mi_addn p.1 kt.2.1
      have es : s = sv a + -(prc hu 0 0 a) := by
        rcases hs with ⟨-, e, -⟩ | ⟨k2, -⟩ | ⟨k2, -⟩
        · rw [e, r.1]
        · rw [eE a ha, k] at k2; exact absurd k2 (by decide)
        · rw [eE a ha, k] at k2; exact absurd k2 (by decide)
      have gg := grw_rng (x := (sv a).toInt - (prc hu 0 0 a).toInt) (r := ra.toInt) (by omega) gR
      have gw : w.toInt = grw ((sv a).toInt - (prc hu 0 0 a).toInt) ra.toInt := by
        rcases hw with ⟨-, x, y, z, q, b, f1, f2, f3, f4, f5, f6⟩ | ⟨k2, -⟩
        · rw [gs_sp (by rw [es, gx]; omega) gR f1 f2 f3 f4 f5 f6, es, gx]
        · rw [eE a ha, k] at k2; exact absurd k2 (by decide)
      have gu : (u4 a).toInt = min (grw ((sv a).toInt - (prc hu 0 0 a).toInt) ra.toInt) 1000000000 := by
        rcases c4 a ha with ⟨-, hg, -⟩ | ⟨k2, -⟩ | ⟨k2, -⟩
        · rw [gc_sp (by rw [gx]; omega) gR hg, gx]
        · rw [k] at k2; exact absurd k2 (by decide)
        · rw [k] at k2; exact absurd k2 (by decide)
      refine ⟨mi_eq (by rw [ev, gw, gu]; omega), by omega, by omega⟩
    · have kf : eatb hu 0 sv st (chs hu 0 sv st ch a) a = false := Bool.eq_false_iff.mpr k
      have eu : u4 a = sv a := by
        rcases c4 a ha with ⟨k2, -⟩ | ⟨-, -, e, -⟩ | ⟨-, -, e, -⟩
        · exact absurd k2 k
        · exact e
        · exact e
      have es : s = sv a := by
        rcases hs with ⟨k2, -⟩ | ⟨-, -, e, -⟩ | ⟨-, -, e, -⟩
        · rw [eE a ha] at k2; exact absurd k2 k
        · rw [e, r.1]
        · rw [e, r.1]
      have ew : w = sv a := by
        rcases hw with ⟨k2, -⟩ | ⟨-, e⟩
        · rw [eE a ha] at k2; exact absurd k2 k
        · rw [e, es]; exact Int32.add_zero _
      exact ⟨by rw [ev, ew, eu], by rw [eu]; exact r.2.1, by rw [eu]; omega⟩
theorem df_sp {ac L x ch e ni ra : Int32} {pa : Int32} {cl ha hu st lf ow sv df0 : Nat → Int32} {u0 u1 : Int32} {u2 u3 u4 u5 u6 u7 u8 : Nat → Int32} {Kc : (Int32 × Int32 × Int32 × Int32 × (Nat → Int32) × (Nat → Int32) × (Nat → Int32) × (Nat → Int32) × (Nat → Int32)) → Prop} (hac : 0 ≤ ac.toInt ∧ ac.toInt ≤ 6) (hL : Lvs ac L st) {N : Nat} (h : fx (T_k_playDrawn_23 ac pa cl lf ni ra ow hu st e ha x ch sv Kc u0 u1 u2 u3 u4 u5 u6 u7 u8) N ((0 : Int32), (0 : Int32), df0)) : ∃ (live : Int32) (df : Nat → Int32), DfI ac L ac.toInt.toNat live df ∧ fx (T_k_playDrawn_65 pa ac cl lf ni ra ow hu st e df live ha Kc u0 u1 u2 u3 u4 u5 u6 u7 u8) 7 ((0 : Int32), x, ch, sv) := by
  obtain ⟨⟨live, df⟩, hs, hq⟩ := loopP (α := Int32 × (Nat → Int32)) (n := ac) (P := fun k s => DfI ac L k s.1 s.2) (Q := fun s => fx (T_k_playDrawn_65 pa ac cl lf ni ra ow hu st e s.2 s.1 ha Kc u0 u1 u2 u3 u4 u5 u6 u7 u8) 7 ((0 : Int32), x, ch, sv)) (by omega) (fun K i s hi hP hT => by
    obtain ⟨lv, df⟩ := s
    have hP1 : lv.toInt = pc L i.toInt.toNat := hP.1
    have hP2 : ∀ a : Nat, a < i.toInt.toNat → lvb L a = true → (df (pc L a).toNat).toInt = (a : Int) := hP.2
    have pr := pc_rng L i.toInt.toNat
    dsimp only [T_k_playDrawn_23] at hT
    rcases hT with ⟨c, h⟩ | ⟨c, b0, hl, h⟩
    · exact Or.inl ⟨c, h⟩
    · replace hl := lv_sp hl
      have hb := hL.2 i.toInt.toNat (by clear h; omega)
      refine Or.inr ⟨c, ?_⟩
      rcases h with ⟨q, d1, e1, b2, e2, z, ez, hk⟩ | ⟨q, z, ez, hk⟩
      · have y : lvb L i.toInt.toNat = true := by
          rcases hl with ⟨v, -⟩ | ⟨-, q0⟩
          · exact hb.mpr ⟨by clear hk; omega, v.2⟩
          · rw [q] at q0; exact absurd q0 (by decide)
        have g2 : b2.toInt = lv.toInt + 1 := by rw [e2]; exact mi_addc (by decide) (by clear hk; omega) (by clear hk; omega)
        refine ⟨z, (b2, d1), ez, ⟨?_, fun a ha2 ya => ?_⟩, hk⟩
        · show b2.toInt = pc L (i.toInt.toNat + 1)
          rw [pc_s y, g2, hP1]
        · clear hk
          show (d1 (pc L a).toNat).toInt = (a : Int)
          rw [← e1, mi_cl]
          by_cases ea : a = i.toInt.toNat
          · subst ea
            rw [hP1, pk_us]; omega
          · have a1 := pc_s ya
            have a2 := pc_le L (a + 1) i.toInt.toNat (by omega)
            have a3 := (pc_rng L a).1
            rw [pk_un (by rw [hP1]; omega)]
            exact hP2 a (by omega) ya
      · have y : ¬ lvb L i.toInt.toNat = true := fun y => by
          rcases hl with ⟨-, q1⟩ | ⟨nv, -⟩
          · rw [q] at q1; exact absurd q1 (by decide)
          · exact nv ⟨⟨hi.1, c⟩, (hb.mp y).2⟩
        refine ⟨z, (lv, df), ez, ⟨?_, fun a ha2 ya => ?_⟩, hk⟩
        · show lv.toInt = pc L (i.toInt.toNat + 1)
          rw [pc_n y, hP1]
        · by_cases ea : a = i.toInt.toNat
          · rw [ea] at ya; exact absurd ya y
          · exact hP2 a (by clear hk; omega) ya) ⟨by show (0 : Int32).toInt = 0; decide, fun a ha2 => by omega⟩ h
  exact ⟨live, df, hs, hq⟩
theorem dr_out {X pa ac ra cap d f : Int32} {D cl ha hu a3 a4 a6 b6 : Nat → Int32} {u0 u1 : Int32} {u2 u3 u4 u5 u6 u7 u8 : Nat → Int32} {y0 y1 y2 y3 y4 y5 y6 y7 y8 y9 y10 y11 y12 : Int32} {y13 y14 y15 y16 y17 y18 : Nat → Int32} (hX : 0 ≤ X.toInt ∧ X.toInt ≤ 1) (hac : 0 ≤ ac.toInt ∧ ac.toInt ≤ 6) (hpa : 0 ≤ pa.toInt ∧ pa.toInt ≤ 5) (hC : ∀ i : Nat, (i : Int) < pa.toInt → D (36 * X.toInt.toNat + (6 + 2 * i)) = cl i) (hHa : ∀ i : Nat, (i : Int) < pa.toInt → D (36 * X.toInt.toNat + (7 + 2 * i)) = ha i) (hH : ∀ i : Nat, (i : Int) < ac.toInt → D (36 * X.toInt.toNat + (16 + 2 * i)) = hu i) (gC : ∀ i : Nat, (i : Int) < pa.toInt → 0 ≤ (cl i).toInt ∧ (cl i).toInt ≤ 99) (gHa : ∀ i : Nat, (i : Int) < pa.toInt → 1 ≤ (ha i).toInt ∧ (ha i).toInt ≤ 2) (gH : ∀ i : Nat, (i : Int) < ac.toInt → 0 ≤ (hu i).toInt ∧ (hu i).toInt ≤ 40) (gR : 0 ≤ ra.toInt ∧ ra.toInt ≤ 50) (hcap : cap.toInt = 0) (hd : 0 ≤ d.toInt ∧ d.toInt ≤ 20) : ∀ (N M : Nat) (e x ch ni chj nij L : Int32) (lf ow sv st df lfj owj svj stj : Nat → Int32), fx (T_k_playDrawn_11 d a3 b6 ac pa cl ra hu ha u0 u1 u2 u3 u4 u5 u6 u7 u8) N (e, x, ch, ni, lf, ow, sv, st, df) → fx (T_y_drawn_64 d f X pa ac ra a4 a6 D cap y0 y1 y2 y3 y4 y5 y6 y7 y8 y9 y10 y11 y12 y13 y14 y15 y16 y17 y18) M (e, chj, nij, L, x, lfj, owj, svj, stj) → (0 ≤ e.toInt ∧ e.toInt ≤ d.toInt) → nij = ni → (0 ≤ ni.toInt ∧ ni.toInt ≤ e.toInt) → Lvs ac L st → (∀ a : Nat, a < 6 → stj a = st a) → DrI ac (SbD e.toInt.toNat) (1000 + 990 * e.toInt) ch sv chj svj → ∃ (cf Lf : Int32) (vf : Nat → Int32) (S C : Int), ((f.toInt ≠ 0 ∧ y0 = cf) ∨ (f.toInt = 0 ∧ y0 = Lf)) ∧ DrI ac S C u0 u5 cf vf ∧ Lvs ac Lf u6 := by
  intro N
  induction N with
  | zero => intro M e x ch ni chj nij L lf ow sv st df lfj owj svj stj h; exact h.elim
  | succ N ih =>
    intro M e x ch ni chj nij L lf ow sv st df lfj owj svj stj h hj he en hn hL eT hD
    cases M with
    | zero => exact hj.elim
    | succ M =>
      have sb := SbD_rng (k := e.toInt.toNat) (by clear h hj; omega)
      have sb2 : e.toInt < d.toInt → SbD (e.toInt.toNat + 1) ≤ 200000000 := fun _ => (SbD_rng (k := e.toInt.toNat + 1) (by clear h hj; omega)).2
      have sbe : SbD (e.toInt.toNat + 1) = 3 * (SbD e.toInt.toNat + 990) / 2 := rfl
      have f3 : e.toInt < d.toInt → ∀ z : Int32, z = e + 1 → ((0 ≤ z.toInt ∧ z.toInt ≤ d.toInt) ∧ z.toInt = e.toInt + 1) ∧ z.toInt.toNat = e.toInt.toNat + 1 := fun _ z ez => by
        have g : z.toInt = e.toInt + 1 := by rw [ez]; exact mi_addc (by decide) (by clear h hj; omega) (by clear h hj; omega)
        clear h hj
        omega
      have z0 : (0 : Int32).toInt = 0 := by decide
      replace h := fx_o h
      replace hj := fx_o hj
      dsimp only [T_k_playDrawn_11] at h
      dsimp only [T_y_drawn_64] at hj
      rcases h with ⟨c, e0, e1, e2, e3, e4, e5, e6, e7, e8⟩ | ⟨c, h⟩
      · rcases hj with ⟨-, hj⟩ | ⟨c2, -⟩
        · refine ⟨chj, L, svj, _, _, ?_, by rw [e0, e5]; exact hD, by rw [e6]; exact hL⟩
          rcases hj with ⟨q, r, -⟩ | ⟨q, r, -⟩
          · exact Or.inl ⟨q, r⟩
          · exact Or.inr ⟨q, r⟩
        · exact absurd c (Int.not_le.mpr c2)
      · rcases hj with ⟨c2, -⟩ | ⟨-, hj⟩
        · exact absurd c2 (Int.not_le.mpr c)
        · obtain ⟨live, df2, hDf, h⟩ := df_sp hac hL h
          have hj : fx (T_y_drawn_73 pa ac X D lfj nij ra owj cap L stj e (fx (T_y_drawn_64 d f X pa ac ra a4 a6 D cap y0 y1 y2 y3 y4 y5 y6 y7 y8 y9 y10 y11 y12 y13 y14 y15 y16 y17 y18) M) y0 y1 y2 y3 y4 y5 y6 y7 y8 y9 y10 y11 y12 y13 y14 y15 y16 y17 y18) 7 ((0 : Int32), chj, x, svj) := hj
          obtain ⟨z, x2, chn, nn, ch2, chj2, nj1, nj2, rst_⟩ := dr_mid (S := SbD e.toInt.toNat) (C := 1000 + 990 * e.toInt) (by have := sb2 c; clear h hj; omega) (by clear h hj; omega) (by clear h hj; omega) hX hac hpa hC hHa gC gHa hL hDf _ _ _ _ _ _ _ _ h hj ⟨by decide, by rw [z0]; exact hpa.1⟩ (by rw [z0]; exact DrI_up hD (by clear h hj; omega) (by clear h hj; omega))
          obtain ⟨Lj, sv2, svj2, l2, o2, s2, t2, jl2, rst_⟩ := rst_
          obtain ⟨jo2, js2, jt2, ez, hn1, hk, hn2, hk2, hD2⟩ := rst_
          clear h hj
          have hN := dr_night (S := SbD e.toInt.toNat + 990) (by have := sb2 c; clear hk hk2; omega) hX hac hpa hC hH gH gR hcap (by clear hk hk2; omega) en hL eT hD2 hn1 hn2
          clear hn1 hn2
          have g3 := f3 c z ez
          have gn : (ni + 1).toInt = ni.toInt + 1 := mi_addc (by decide) (by clear hk hk2; omega) (by clear hk hk2; omega)
          refine ih M z x2 chn nn nj1 nj2 Lj l2 o2 s2 t2 df2 jl2 jo2 js2 jt2 hk hk2 g3.1.1 hN.1 (by rw [hN.2.1, gn]; clear hk hk2; omega) hN.2.2.1 hN.2.2.2.1 ?_
          refine DrI_up hN.2.2.2.2 ?_ ?_
          · rw [g3.2, sbe]; exact Int.le_refl _
          · rw [g3.1.2]; clear hk hk2; omega
theorem dr_outb {X pa ac ra cap d f : Int32} {D cl ha hu a3 a4 a6 b6 : Nat → Int32} {u0 u1 : Int32} {u2 u3 u4 u5 u6 u7 u8 : Nat → Int32} {y0 y1 y2 y3 y4 y5 y6 y7 y8 y9 y10 y11 y12 : Int32} {y13 y14 y15 y16 y17 y18 : Nat → Int32} (hX : 0 ≤ X.toInt ∧ X.toInt ≤ 1) (hac : 0 ≤ ac.toInt ∧ ac.toInt ≤ 6) (hpa : 0 ≤ pa.toInt ∧ pa.toInt ≤ 5) (hC : ∀ i : Nat, (i : Int) < pa.toInt → D (36 * X.toInt.toNat + (6 + 2 * i)) = cl i) (hHa : ∀ i : Nat, (i : Int) < pa.toInt → D (36 * X.toInt.toNat + (7 + 2 * i)) = ha i) (hH : ∀ i : Nat, (i : Int) < ac.toInt → D (36 * X.toInt.toNat + (16 + 2 * i)) = hu i) (gC : ∀ i : Nat, (i : Int) < pa.toInt → 0 ≤ (cl i).toInt ∧ (cl i).toInt ≤ 99) (gHa : ∀ i : Nat, (i : Int) < pa.toInt → 1 ≤ (ha i).toInt ∧ (ha i).toInt ≤ 2) (gH : ∀ i : Nat, (i : Int) < ac.toInt → 0 ≤ (hu i).toInt ∧ (hu i).toInt ≤ 40) (gR : 0 ≤ ra.toInt ∧ ra.toInt ≤ 50) (hcap : cap.toInt = 0) (hd : 0 ≤ d.toInt ∧ d.toInt ≤ 20) : ∀ (N M : Nat) (e x ch ni chj nij L : Int32) (lf ow sv st df lfj owj svj stj : Nat → Int32), fx (T_k_playDrawn_11 d a3 b6 ac pa cl ra hu ha u0 u1 u2 u3 u4 u5 u6 u7 u8) N (e, x, ch, ni, lf, ow, sv, st, df) → fx (T_y_drawn_64b d f X pa ac ra a4 a6 D cap y0 y1 y2 y3 y4 y5 y6 y7 y8 y9 y10 y11 y12 y13 y14 y15 y16 y17 y18) M (e, chj, nij, L, x, lfj, owj, svj, stj) → (0 ≤ e.toInt ∧ e.toInt ≤ d.toInt) → nij = ni → (0 ≤ ni.toInt ∧ ni.toInt ≤ e.toInt) → Lvs ac L st → (∀ a : Nat, a < 6 → stj a = st a) → DrI ac (SbD e.toInt.toNat) (1000 + 990 * e.toInt) ch sv chj svj → ∃ (cf Lf : Int32) (vf : Nat → Int32) (S C : Int), y0 = vf ((f - 10).toInt.toNat) ∧ DrI ac S C u0 u5 cf vf ∧ Lvs ac Lf u6 := by
  intro N
  induction N with
  | zero => intro M e x ch ni chj nij L lf ow sv st df lfj owj svj stj h; exact h.elim
  | succ N ih =>
    intro M e x ch ni chj nij L lf ow sv st df lfj owj svj stj h hj he en hn hL eT hD
    cases M with
    | zero => exact hj.elim
    | succ M =>
      have sb := SbD_rng (k := e.toInt.toNat) (by clear h hj; omega)
      have sb2 : e.toInt < d.toInt → SbD (e.toInt.toNat + 1) ≤ 200000000 := fun _ => (SbD_rng (k := e.toInt.toNat + 1) (by clear h hj; omega)).2
      have sbe : SbD (e.toInt.toNat + 1) = 3 * (SbD e.toInt.toNat + 990) / 2 := rfl
      have f3 : e.toInt < d.toInt → ∀ z : Int32, z = e + 1 → ((0 ≤ z.toInt ∧ z.toInt ≤ d.toInt) ∧ z.toInt = e.toInt + 1) ∧ z.toInt.toNat = e.toInt.toNat + 1 := fun _ z ez => by
        have g : z.toInt = e.toInt + 1 := by rw [ez]; exact mi_addc (by decide) (by clear h hj; omega) (by clear h hj; omega)
        clear h hj
        omega
      have z0 : (0 : Int32).toInt = 0 := by decide
      replace h := fx_o h
      replace hj := fx_o hj
      dsimp only [T_k_playDrawn_11] at h
      dsimp only [T_y_drawn_64b] at hj
      rcases h with ⟨c, e0, e1, e2, e3, e4, e5, e6, e7, e8⟩ | ⟨c, h⟩
      · rcases hj with ⟨-, hj⟩ | ⟨c2, -⟩
        · refine ⟨chj, L, svj, _, _, ?_, by rw [e0, e5]; exact hD, by rw [e6]; exact hL⟩
          obtain ⟨b0, q0, b1, q1, r, -⟩ := hj
          rw [r, q1, q0, mi_cl]
        · exact absurd c (Int.not_le.mpr c2)
      · rcases hj with ⟨c2, -⟩ | ⟨-, hj⟩
        · exact absurd c2 (Int.not_le.mpr c)
        · obtain ⟨live, df2, hDf, h⟩ := df_sp hac hL h
          have hj : fx (T_y_drawn_73 pa ac X D lfj nij ra owj cap L stj e (fx (T_y_drawn_64b d f X pa ac ra a4 a6 D cap y0 y1 y2 y3 y4 y5 y6 y7 y8 y9 y10 y11 y12 y13 y14 y15 y16 y17 y18) M) y0 y1 y2 y3 y4 y5 y6 y7 y8 y9 y10 y11 y12 y13 y14 y15 y16 y17 y18) 7 ((0 : Int32), chj, x, svj) := hj
          obtain ⟨z, x2, chn, nn, ch2, chj2, nj1, nj2, rst_⟩ := dr_mid (S := SbD e.toInt.toNat) (C := 1000 + 990 * e.toInt) (by have := sb2 c; clear h hj; omega) (by clear h hj; omega) (by clear h hj; omega) hX hac hpa hC hHa gC gHa hL hDf _ _ _ _ _ _ _ _ h hj ⟨by decide, by rw [z0]; exact hpa.1⟩ (by rw [z0]; exact DrI_up hD (by clear h hj; omega) (by clear h hj; omega))
          obtain ⟨Lj, sv2, svj2, l2, o2, s2, t2, jl2, rst_⟩ := rst_
          obtain ⟨jo2, js2, jt2, ez, hn1, hk, hn2, hk2, hD2⟩ := rst_
          clear h hj
          have hN := dr_night (S := SbD e.toInt.toNat + 990) (by have := sb2 c; clear hk hk2; omega) hX hac hpa hC hH gH gR hcap (by clear hk hk2; omega) en hL eT hD2 hn1 hn2
          clear hn1 hn2
          have g3 := f3 c z ez
          have gn : (ni + 1).toInt = ni.toInt + 1 := mi_addc (by decide) (by clear hk hk2; omega) (by clear hk hk2; omega)
          refine ih M z x2 chn nn nj1 nj2 Lj l2 o2 s2 t2 df2 jl2 jo2 js2 jt2 hk hk2 g3.1.1 hN.1 (by rw [hN.2.1, gn]; clear hk hk2; omega) hN.2.2.1 hN.2.2.2.1 ?_
          refine DrI_up hN.2.2.2.2 ?_ ?_
          · rw [g3.2, sbe]; exact Int.le_refl _
          · rw [g3.1.2]; clear hk hk2; omega
theorem drawn_fin {mn D lfj owj gtj svj soj stj : Nat → Int32} {a b d f cap r r2 xt xp xa xr xch xen xni xli xhs xcp xec xse : Int32} {k1 k2 k3 k4 k5 k6 k7 k8 k9 k10 k11 k12 : Int32} {k13 k14 k15 k16 k17 k18 : Nat → Int32} {pa ac us ra ch bo : Int32} {cl ha hu sa ak fl lf sv ow gt st so df : Nat → Int32} {P1 : Prop} (hX : 0 ≤ a.toInt ∧ a.toInt ≤ 1) (ha2 : a.toInt < (mn 0).toInt) (hR : RT (fun j => D (36 * a.toInt.toNat + j)) pa ac us ra ch bo cl ha hu sa ak fl) (hG : GdT pa ac us ra ch bo cl ha hu sa ak fl) (hcap : cap.toInt = 0) (hx : ((d.toInt < 0) ∧ (r = ((-1) : Int32) ∧ P1)) ∨ ((0 ≤ d.toInt) ∧ (((d.toInt ≤ 20) ∧ (((f.toInt < 10) ∧ (((f.toInt = 0) ∧ (∃ (b0 b1 : Int32) (b2 b3 b4 b5 b6 b7 b8 : Nat → Int32), (R_k_playDrawn cl lf sa sv ow gt st so d ac pa ra hu ha b ch df b0 b1 b2 b3 b4 b5 b6 b7 b8) ∧ (∃ (b9 : Int32), (R_k_living ac b6 b9) ∧ r = b9))) ∨ ((f.toInt ≠ 0) ∧ (((f.toInt = 1) ∧ (∃ (b0 b1 : Int32) (b2 b3 b4 b5 b6 b7 b8 : Nat → Int32), (R_k_playDrawn cl lf sa sv ow gt st so d ac pa ra hu ha b ch df b0 b1 b2 b3 b4 b5 b6 b7 b8) ∧ r = b0)) ∨ ((f.toInt ≠ 1) ∧ r = -1))))) ∨ ((10 ≤ f.toInt) ∧ (((ac.toInt ≤ f.toInt - 10) ∧ r = -1) ∨ ((f.toInt - 10 < ac.toInt) ∧ (∃ (b0 b1 : Int32) (b2 b3 b4 b5 b6 b7 b8 : Nat → Int32), (R_k_playDrawn cl lf sa sv ow gt st so d ac pa ra hu ha b ch df b0 b1 b2 b3 b4 b5 b6 b7 b8) ∧ r = b5 ((f - 10).toInt.toNat))))))) ∨ ((20 < d.toInt) ∧ (r = ((-1) : Int32) ∧ P1))))) (hy : R_y_drawn d mn a D xt xp xa xr xch xen xni xli xhs xcp xec xse lfj owj gtj svj soj stj f cap b r2 k1 k2 k3 k4 k5 k6 k7 k8 k9 k10 k11 k12 k13 k14 k15 k16 k17 k18) : r = r2 := by
  have H := Hse_of hX hR hG
  obtain ⟨-, hac, hpa, hC, hHa, hH, gC, gHa, gH, gR⟩ := H
  have z0 : (0 : Int32).toInt = 0 := by decide
  have z00 : (0 : Int32).toInt.toNat = 0 := by decide
  have gCh : 0 ≤ ch.toInt ∧ ch.toInt ≤ 999 := hG.2.2.2.2.2.1
  have gS : ∀ i : Nat, (i : Int) < ac.toInt → 0 ≤ (sa i).toInt ∧ (sa i).toInt ≤ 400 := fun i hi => (hG.2.2.1 i hi).2
  -- both begin alike
  have start : ∀ {g0 g1 g2 g3 g4 g5 v2 v3 v4 v5 v6 v7 : Nat → Int32} {v0 v1 : Int32}, R_k_begin cl lf sa sv ow gt st so g0 g1 g2 g3 g4 g5 → R_j_begin a D ac pa lfj svj soj stj gtj owj v0 v1 v2 v3 v4 v5 v6 v7 → Lvs ac v1 g4 ∧ (∀ k : Nat, k < 6 → v7 k = g4 k) ∧ DrI ac (SbD 0) (1000 + 990 * 0) ch g3 v0 v5 := fun {g0 g1 g2 g3 g4 g5 v2 v3 v4 v5 v6 v7 v0 v1} hb hbj => by
    have hE := beg_sim hX hR hG hb hbj
    clear hx hy
    have bg := bg_sp hb
    refine ⟨hE.2.2.1, hE.2.1.2.2.2.2.2, hE.1.1, by omega, fun k hk => ⟨hE.2.1.2.2.2.1 k hk, ?_⟩⟩
    rw [bg.2.2.2.1 k (by omega)]
    have := gS k hk
    exact ⟨this.1, by show _ ≤ (400 : Int); omega⟩
  obtain ⟨q, hq, hy⟩ := hy
  have hq := in_sp hq
  rcases hy with ⟨q1, r5, m1, m2, m3, m4, hh, hy⟩ | ⟨q0, e, -⟩
  · have hd : 0 ≤ d.toInt ∧ d.toInt ≤ 20 := by
      rcases hq with ⟨-, g⟩ | ⟨g, -⟩
      · exact g
      · rw [q1] at g; exact absurd g (by decide)
    have hh := hand_sp hh
    rcases hh with ⟨r1, -, e1, e2⟩ | ⟨-, p⟩
    · obtain ⟨e2, e3, e4⟩ := e2 hX.2
      have e2 : m2 = pa := e2.trans hR.1
      have e3 : m3 = ac := e3.trans hR.2.1
      have e4 : m4 = ra := e4.trans hR.2.2.1
      rcases hy with ⟨c, -⟩ | hy
      · rw [r1] at c; exact absurd c (by decide)
      · rw [e1, e2, e3, e4] at hy
        obtain ⟨-, v, hv, hy⟩ := hy
        have hv := in_sp hv
        rcases hx with ⟨c, -⟩ | ⟨-, ⟨-, hx⟩ | ⟨c, -⟩⟩
        · exact absurd hd.1 (Int.not_le.mpr c)
        · rcases hy with ⟨v1, w0, w1, w2, w3, w4, w5, w6, w7, hbj, hl⟩ | hy
          · have hf : 0 ≤ f.toInt ∧ f.toInt ≤ 1 := by
              rcases hv with ⟨-, g⟩ | ⟨g, -⟩
              · exact g
              · rw [v1] at g; exact absurd g (by decide)
            rcases hx with ⟨-, ⟨f0, b0, b1, b2, b3, b4, b5, b6, b7, b8, hp, b9, hl9, er⟩ | ⟨fn, ⟨f1, b0, b1, b2, b3, b4, b5, b6, b7, b8, hp, er⟩ | ⟨f1, -⟩⟩⟩ | ⟨c, -⟩
            · obtain ⟨g0, g1, g2, g3, g4, g5, hb, hp⟩ := hp
              have s := start hb hbj
              clear hb hbj
              obtain ⟨cf, Lf, vf, S, C, hex, hDr, hLv⟩ := dr_out hX hac hpa hC hHa hH gC gHa gH gR hcap hd _ _ _ _ _ _ _ _ _ _ _ _ _ _ _ _ _ _ hp hl ⟨by decide, by rw [z0]; exact hd.1⟩ rfl ⟨by decide, by decide⟩ s.1 s.2.1 (by rw [z00, z0]; exact s.2.2)
              clear hp hl
              rcases hex with ⟨k, -⟩ | ⟨-, e⟩
              · exact absurd f0 k
              · rw [er, e]; exact Lvs_eq (living_sp hac hl9) hLv
            · obtain ⟨g0, g1, g2, g3, g4, g5, hb, hp⟩ := hp
              have s := start hb hbj
              clear hb hbj
              obtain ⟨cf, Lf, vf, S, C, hex, hDr, hLv⟩ := dr_out hX hac hpa hC hHa hH gC gHa gH gR hcap hd _ _ _ _ _ _ _ _ _ _ _ _ _ _ _ _ _ _ hp hl ⟨by decide, by rw [z0]; exact hd.1⟩ rfl ⟨by decide, by decide⟩ s.1 s.2.1 (by rw [z00, z0]; exact s.2.2)
              clear hp hl
              rcases hex with ⟨-, e⟩ | ⟨k, -⟩
              · rw [er, e, hDr.1]
              · exact absurd k fn
            · exact absurd hf (by clear hl hbj; omega)
            · exact absurd hf (by clear hl hbj; omega)
          · obtain ⟨v0, w, -, v2, hv2, hy⟩ := hy
            have hf : f.toInt < 0 ∨ 1 < f.toInt := by
              rcases hv with ⟨g, -⟩ | ⟨-, g⟩
              · rw [v0] at g; exact absurd g (by decide)
              · exact g
            have hv2 := in_sp hv2
            rcases hx with ⟨f10, ⟨f0, -⟩ | ⟨fn, ⟨f1, -⟩ | ⟨f1, er⟩⟩⟩ | ⟨f10, ⟨c, er⟩ | ⟨c, b0, b1, b2, b3, b4, b5, b6, b7, b8, hp, er⟩⟩
            · exact absurd hf (by clear hy; omega)
            · exact absurd hf (by clear hy; omega)
            · rcases hy with ⟨g, -⟩ | ⟨-, e, -⟩
              · rcases hv2 with ⟨-, y⟩ | ⟨y, -⟩
                · exact absurd y.1 (Int.not_le.mpr f10)
                · rw [g] at y; exact absurd y (by decide)
              · rw [er, e]
            · rcases hy with ⟨g, -⟩ | ⟨-, e, -⟩
              · rcases hv2 with ⟨-, y⟩ | ⟨y, -⟩
                · exact absurd y.2 (by omega)
                · rw [g] at y; exact absurd y (by decide)
              · rw [er, e]
            · rcases hy with ⟨-, w0, w1, w2, w3, w4, w5, w6, w7, hbj, hl⟩ | ⟨g, -⟩
              · obtain ⟨g0, g1, g2, g3, g4, g5, hb, hp⟩ := hp
                have s := start hb hbj
                clear hb hbj
                obtain ⟨cf, Lf, vf, S, C, hex, hDr, hLv⟩ := dr_outb hX hac hpa hC hHa hH gC gHa gH gR hcap hd _ _ _ _ _ _ _ _ _ _ _ _ _ _ _ _ _ _ hp hl ⟨by decide, by rw [z0]; exact hd.1⟩ rfl ⟨by decide, by decide⟩ s.1 s.2.1 (by rw [z00, z0]; exact s.2.2)
                clear hp hl
                have gf : (f - 10).toInt = f.toInt - 10 := mi_subc (by decide) (by have := mi_rng f; omega) (by have := mi_rng f; omega)
                rw [er, hex]
                exact ((hDr.2.2 (f - 10).toInt.toNat (by rw [gf]; omega)).1).symm
              · rcases hv2 with ⟨y, -⟩ | ⟨-, y⟩
                · rw [g] at y; exact absurd y (by decide)
                · exact absurd y (by clear hp; omega)
        · exact absurd hd.2 (Int.not_le.mpr c)
    · rcases p with p | p
      · exact absurd hX.1 (Int.not_le.mpr p)
      · exact absurd ha2 (Int.not_lt.mpr p)
  · have hd : d.toInt < 0 ∨ 20 < d.toInt := by
      rcases hq with ⟨g, -⟩ | ⟨-, g⟩
      · rw [q0] at g; exact absurd g (by decide)
      · exact g
    rcases hx with ⟨-, er, -⟩ | ⟨c, ⟨c2, -⟩ | ⟨-, er, -⟩⟩
    · rw [er, e]
    · rcases hd with hd | hd
      · exact absurd c (Int.not_le.mpr hd)
      · exact absurd c2 (Int.not_le.mpr hd)
    · rw [er, e]
theorem drawn_no {mn D lfj owj gtj svj soj stj : Nat → Int32} {a b d f cap r2 xt xp xa xr xch xen xni xli xhs xcp xec xse : Int32} {k1 k2 k3 k4 k5 k6 k7 k8 k9 k10 k11 k12 : Int32} {k13 k14 k15 k16 k17 k18 : Nat → Int32} (hy : R_y_drawn d mn a D xt xp xa xr xch xen xni xli xhs xcp xec xse lfj owj gtj svj soj stj f cap b r2 k1 k2 k3 k4 k5 k6 k7 k8 k9 k10 k11 k12 k13 k14 k15 k16 k17 k18) (hn : a.toInt < 0 ∨ (mn 0).toInt ≤ a.toInt) : r2 = -1 := by
  obtain ⟨q, hq, hy⟩ := hy
  rcases hy with ⟨q1, r5, m1, m2, m3, m4, hh, hy⟩ | ⟨-, e, -⟩
  · have hh := hand_sp hh
    rcases hh with ⟨-, p, -⟩ | ⟨r0, -⟩
    · clear hy hq
      exact absurd hn (by omega)
    · rcases hy with ⟨-, e, -⟩ | hy
      · exact e
      · have c := hy.1; rw [r0] at c; exact absurd (by decide) c
  · exact e
theorem drawn_sim {TN : Nat → Int32} {TF M : Nat → Nat → Int32} (h : TLg 0 TN TF M) (hr3 : 0 ≤ (TN 3).toInt ∧ (TN 3).toInt ≤ 2) (_hr4 : 0 ≤ (TN 4).toInt ∧ (TN 4).toInt ≤ 2) {x0 x1 x2 x3 r r2 : Int32} (hx : S_x_drawn TN TF x0 x1 x2 x3 r) (hy : S_y_drawn M x0 x1 x2 x3 r2) : r = r2 := by
  obtain ⟨_, _, _, _, _, _, lf, ow, rst_⟩ := hx
  obtain ⟨gt, sv, st, so, df, _, _, _, rst_⟩ := rst_
  obtain ⟨_, _, _, _, _, _, _, _, rst_⟩ := rst_
  obtain ⟨_, _, hx⟩ := rst_
  obtain ⟨_, _, _, _, _, _, _, _, rst_⟩ := hy
  obtain ⟨_, _, _, _, _, _, _, _, rst_⟩ := rst_
  obtain ⟨_, _, _, _, _, _, _, _, rst_⟩ := rst_
  obtain ⟨_, _, _, _, _, _, _, _, rst_⟩ := rst_
  obtain ⟨_, _, _, _, _, hy, hc⟩ := rst_
  have h3 : M 4 0 = TN 3 := h.1.2.2.2.1
  rcases hx with ⟨c, e, -⟩ | hx | hx
  · rw [e, drawn_no hy (by rw [h3]; exact ata_0 c)]
  · obtain ⟨c, hx⟩ := hx
    have c := ata_1 c
    have ca : x0.toInt = 1 := by clear hx hy; omega
    refine drawn_fin (P1 := True) (lf := lf) (ow := ow) (gt := gt) (sv := sv) (st := st) (so := so) (df := df) (by clear hx hy; omega) (by rw [h3]; exact c.2) (RT_at1 h.1 ca) h.2.1.2 (by clear hx hy; omega) ?_ hy
    rcases hx with ⟨d0, e, -⟩ | ⟨d0, ⟨d1, hx⟩ | ⟨d1, e, -⟩⟩
    · exact Or.inl ⟨d0, e, trivial⟩
    · refine Or.inr ⟨d0, Or.inl ⟨d1, ?_⟩⟩
      rcases hx with ⟨f10, ⟨f0, b0, b1, b2, b3, b4, b5, b6, b7, b8, hp, b9, hl, e, -⟩ | hx⟩ | ⟨f10, b, -, ⟨c2, e, -⟩ | ⟨c2, b0, b1, b2, b3, b4, b5, b6, b7, b8, hp, k0, ek0, k1, ek1, e, -⟩⟩
      · exact Or.inl ⟨f10, Or.inl ⟨f0, b0, b1, b2, b3, b4, b5, b6, b7, b8, hp, b9, hl, e⟩⟩
      · obtain ⟨fn, ⟨f1, b0, b1, b2, b3, b4, b5, b6, b7, b8, hp, e, -⟩ | ⟨f1, e, -⟩⟩ := hx
        · exact Or.inl ⟨f10, Or.inr ⟨fn, Or.inl ⟨f1, b0, b1, b2, b3, b4, b5, b6, b7, b8, hp, e⟩⟩⟩
        · exact Or.inl ⟨f10, Or.inr ⟨fn, Or.inr ⟨f1, e⟩⟩⟩
      · exact Or.inr ⟨f10, Or.inl ⟨c2, e⟩⟩
      · exact Or.inr ⟨f10, Or.inr ⟨c2, b0, b1, b2, b3, b4, b5, b6, b7, b8, hp, by rw [e, ek1, ek0, mi_cl]⟩⟩
    · exact Or.inr ⟨d0, Or.inr ⟨d1, e, trivial⟩⟩
  · obtain ⟨c, hx⟩ := hx
    have c := ata_2 c
    have ca : x0.toInt = 0 := by clear hx hy; omega
    refine drawn_fin (P1 := True) (lf := lf) (ow := ow) (gt := gt) (sv := sv) (st := st) (so := so) (df := df) (by clear hx hy; omega) (by rw [h3]; exact c.2) (RT_at0 h.1 ca) h.2.1.1 (by clear hx hy; omega) ?_ hy
    rcases hx with ⟨d0, e, -⟩ | ⟨d0, ⟨d1, hx⟩ | ⟨d1, e, -⟩⟩
    · exact Or.inl ⟨d0, e, trivial⟩
    · refine Or.inr ⟨d0, Or.inl ⟨d1, ?_⟩⟩
      rcases hx with ⟨f10, ⟨f0, b0, b1, b2, b3, b4, b5, b6, b7, b8, hp, b9, hl, e, -⟩ | hx⟩ | ⟨f10, b, -, ⟨c2, e, -⟩ | ⟨c2, b0, b1, b2, b3, b4, b5, b6, b7, b8, hp, k0, ek0, k1, ek1, e, -⟩⟩
      · exact Or.inl ⟨f10, Or.inl ⟨f0, b0, b1, b2, b3, b4, b5, b6, b7, b8, hp, b9, hl, e⟩⟩
      · obtain ⟨fn, ⟨f1, b0, b1, b2, b3, b4, b5, b6, b7, b8, hp, e, -⟩ | ⟨f1, e, -⟩⟩ := hx
        · exact Or.inl ⟨f10, Or.inr ⟨fn, Or.inl ⟨f1, b0, b1, b2, b3, b4, b5, b6, b7, b8, hp, e⟩⟩⟩
        · exact Or.inl ⟨f10, Or.inr ⟨fn, Or.inr ⟨f1, e⟩⟩⟩
      · exact Or.inr ⟨f10, Or.inl ⟨c2, e⟩⟩
      · exact Or.inr ⟨f10, Or.inr ⟨c2, b0, b1, b2, b3, b4, b5, b6, b7, b8, hp, by rw [e, ek1, ek0, mi_cl]⟩⟩
    · exact Or.inr ⟨d0, Or.inr ⟨d1, e, trivial⟩⟩
