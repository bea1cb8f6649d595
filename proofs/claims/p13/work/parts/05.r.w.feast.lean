/-! whom to clap: the loop, the call -/
theorem feast_loop {ac pa X hs L Lc en f ra r2 v0 v1 v2 w5 w7 w10 w11 : Int32} {D ha lf lfc st hu sv svj w13 w14 w16 w17 : Nat → Int32} {c1 c2 c3 c4 c5 c6 c7 c8 c9 c10 c11 c12 c13 : Int32} {c14 c15 c16 c17 c18 c19 : Nat → Int32} {T O : Int32} (hX : 0 ≤ X.toInt ∧ X.toInt ≤ 1) (hac : 0 ≤ ac.toInt ∧ ac.toInt ≤ 6) (hpa : 0 ≤ pa.toInt ∧ pa.toInt ≤ 5) (hHa : ∀ i : Nat, (i : Int) < pa.toInt → D (36 * X.toInt.toNat + (7 + 2 * i)) = ha i) (hH : ∀ i : Nat, (i : Int) < ac.toInt → D (36 * X.toInt.toNat + (16 + 2 * i)) = hu i) (hL : Lvs ac L st) (eT : T = rs (lov ha lf hs 2) pa.toInt.toNat) (eO : O = rs (lov ha lf hs 1) pa.toInt.toNat) (hT0 : 0 ≤ T.toInt ∧ T.toInt ≤ 50000) (hO0 : 0 ≤ O.toInt ∧ O.toInt ≤ 50000) (hn : ∀ b : Nat, (b : Int) < ac.toInt → 0 ≤ (ndv hu en sv st b).toInt ∧ (ndv hu en sv st b).toInt ≤ 160) (eS : ∀ b : Nat, (b : Int) < ac.toInt → svj b = sv b) (hf : 0 ≤ f.toInt ∧ f.toInt ≤ 3) : ∀ (N M : Nat) (S who two one tH oH : Int32), fx (T_k_lay_95 L T O ac st hu en sv v0 v1 v2) N (S, who, two, one) → fx (T_y_feast_40 ac f X pa ra w5 en w7 L hs w10 w11 lf w13 w14 svj w16 w17 D r2 c1 c2 c3 c4 c5 c6 c7 c8 c9 c10 c11 c12 c13 c14 c15 c16 c17 c18 c19) M (S, one, two, who, tH, oH) → (1 ≤ S.toInt ∧ S.toInt ≤ ((1 : Int32) <<< (ac &&& 31)).toInt) → (0 ≤ who.toInt ∧ who.toInt ≤ 63) → (0 ≤ two.toInt ∧ two.toInt ≤ 50000) → (0 ≤ one.toInt ∧ one.toInt ≤ 50000) → (0 ≤ v0.toInt ∧ v0.toInt ≤ 63) ∧ ((f.toInt = 0 ∧ ∃ b : Int32, R_j_ones v0 b ∧ r2 = b) ∨ (f.toInt = 1 ∧ r2 = v0) ∨ (f.toInt = 2 ∧ r2 = v1) ∨ (f.toInt = 3 ∧ r2 = v2)) := by
  have pr := p2_rng hac
  have rest := feast_rest (v0 := v0) (v1 := v1) (v2 := v2) (T := T) (O := O) (en := en) (hu := hu) (sv := sv) (hs := hs) hac hL
  have subY := sub_y hL
  intro N
  induction N with
  | zero => intro M S who two one tH oH h; exact h.elim
  | succ N ih =>
    intro M S who two one tH oH h hj hS hw h2 h1
    cases M with
    | zero => exact hj.elim
    | succ M =>
      have f3 : S.toInt < ((1 : Int32) <<< (ac &&& 31)).toInt → ∀ z : Int32, z = S + 1 → 1 ≤ z.toInt ∧ z.toInt ≤ ((1 : Int32) <<< (ac &&& 31)).toInt := fun _ z ez => by
        have g : z.toInt = S.toInt + 1 := by rw [ez]; exact mi_addc (by decide) (by clear h hj rest; omega) (by clear h hj rest; omega)
        clear h hj rest
        omega
      have f4 : S.toInt < ((1 : Int32) <<< (ac &&& 31)).toInt → 0 ≤ S.toInt ∧ S.toInt ≤ 63 := fun _ => by clear h hj rest; omega
      replace hj := fx_o hj
      dsimp only [T_y_feast_40] at hj
      obtain ⟨p2, ep2, hj⟩ := hj
      rw [ep2] at hj
      rcases hj with ⟨c, hj⟩ | ⟨c, b2, e2, b3, e3, hj⟩
      · obtain ⟨g0, g1, g2⟩ := rest _ _ _ _ _ h ⟨c, by clear h hj; omega⟩
        refine ⟨by rw [g0]; exact hw, ?_⟩
        rw [g0, g1, g2]
        rcases hj with hj | ⟨f0, b, hb, e, -⟩
        · obtain ⟨fn, hj⟩ := hj
          rcases hj with ⟨f1, ⟨f2, e, -⟩ | ⟨f2, e, -⟩⟩ | ⟨f1, e, -⟩
          · exact Or.inr (Or.inr (Or.inr ⟨by clear h rest; omega, e⟩))
          · exact Or.inr (Or.inr (Or.inl ⟨f2, e⟩))
          · exact Or.inr (Or.inl ⟨f1, e⟩)
        · exact Or.inl ⟨f0, b, hb, e⟩
      · have S63 := f4 c
        replace h := fx_o h
        dsimp only [T_k_lay_95] at h
        rcases h with ⟨cc, -⟩ | ⟨cc, d0, k0, d1, k1, h⟩
        · exact absurd cc (by clear hj rest; omega)
        · have e13 : b3 = d1 := by rw [e3, e2, k1, k0]
          rw [e13] at hj
          rcases h with ⟨q, z, ez, hk⟩ | ⟨q, t0, t1, t2, ht, z, ez, hk⟩
          · rcases hj with ⟨-, z2, ez2, hk2⟩ | ⟨q2, -⟩
            · have ezz : z2 = z := by rw [ez2, ez]
              rw [ezz] at hk2
              exact ih M z who two one tH oH hk hk2 (f3 c z ez) hw h2 h1
            · exact absurd q2 q
          · rcases hj with ⟨q2, -⟩ | ⟨-, y0, y1, y2, hy, hj⟩
            · exact absurd q q2
            · have sb := subY S d0 d1 S63 k0 k1 q
              have ht := try_x hac S63 hw hT0 hO0 h2 h1 sb hn ht
              have hnj : ∀ b : Nat, (b : Int) < ac.toInt → 0 ≤ (ndv hu en svj st b).toInt ∧ (ndv hu en svj st b).toInt ≤ 160 := fun b hb => by rw [ndv_c (eS b hb)]; exact hn b hb
              have hy := feed_y hX hac hpa hHa hH hL S63 eT eO hT0 hO0 sb hnj hy
              have sg1 : sg (fun a => (ndv hu en svj st a).toInt / 2) S 6 = sg (fun a => (ndv hu en sv st a).toInt / 2) S 6 := sg_cong 6 (fun a ha y => by rw [ndv_c (eS a (sb a ha y))])
              have sg2 : sg (fun a => (ndv hu en svj st a).toInt % 2) S 6 = sg (fun a => (ndv hu en sv st a).toInt % 2) S 6 := sg_cong 6 (fun a ha y => by rw [ndv_c (eS a (sb a ha y))])
              rw [sg1, sg2] at hy
              have pb : 0 ≤ sg (fun a => (ndv hu en sv st a).toInt / 2) S 6 ∧ 0 ≤ sg (fun a => (ndv hu en sv st a).toInt % 2) S 6 := ⟨(sg_rng (m := 80) (by decide) 6 (fun a ha y => dv_rng (hn a (sb a ha y)))).1, (sg_rng (m := 1) (by decide) 6 (fun a ha y => md_rng (hn a (sb a ha y)))).1⟩
              generalize sg (fun a => (ndv hu en sv st a).toInt / 2) S 6 = p at ht hy pb
              generalize sg (fun a => (ndv hu en sv st a).toInt % 2) S 6 = o at ht hy pb
              clear sg1 sg2
              rcases hj with ⟨q0, z2, ez2, hk2⟩ | hj
              · have ezz : z2 = z := by rw [ez2, ez]
                rw [ezz] at hk2
                have nF : ¬ FzO p o T.toInt O.toInt := by
                  rcases hy with ⟨y, -⟩ | ⟨-, y⟩
                  · exact absurd q0 y
                  · exact y
                rcases ht with ⟨y, -⟩ | ⟨-, g0, g1, g2⟩
                · exact absurd y nF
                · rw [g0, g1, g2] at hk
                  exact ih M z who two one y1 y2 hk hk2 (f3 c z ez) hw h2 h1
              · obtain ⟨qn, x0, hx0, x1, hx1, x2, ex2, x3, ex3, x4, ex4, x5, ex5, hj⟩ := hj
                have hF : FzO p o T.toInt O.toInt ∧ y1.toInt = twv p o T.toInt O.toInt ∧ y2.toInt = onv p o T.toInt O.toInt := by
                  rcases hy with ⟨-, y⟩ | ⟨y, -⟩
                  · exact y
                  · exact absurd y qn
                have tb : 0 ≤ y1.toInt ∧ y1.toInt ≤ 50000 := by
                  have a1 := hF.1.2
                  rw [hF.2.1]
                  exact ⟨(pos_tw pb.1 pb.2 hT0.1).1, Int.le_trans a1 hT0.2⟩
                have ob : 0 ≤ y2.toInt ∧ y2.toInt ≤ 50000 := by
                  have a1 := hF.1.1
                  rw [hF.2.2]
                  exact ⟨(pos_tw pb.1 pb.2 hT0.1).2 hO0.1, Int.le_trans a1 hO0.2⟩
                have hx0 := ones_sp S63 hx0
                have hx1 := ones_sp hw hx1
                have p1 := pc_rng S 6
                have p3 := pc_rng who 6
                have g2 : x2.toInt = pc S 6 - pc who 6 := by rw [ex2, mi_sub (by clear hk hj rest; omega) (by clear hk hj rest; omega), hx0, hx1]
                have g3 : x3.toInt = two.toInt + one.toInt := by rw [ex3]; exact mi_add (by clear hk hj rest; omega) (by clear hk hj rest; omega)
                have g4 : x4.toInt = two.toInt + one.toInt - y1.toInt := by rw [ex4, mi_sub (by clear hk hj rest; omega) (by clear hk hj rest; omega), g3]
                have g5 : x5.toInt = two.toInt + one.toInt - y1.toInt - y2.toInt := by rw [ex5, mi_sub (by clear hk hj rest; omega) (by clear hk hj rest; omega), g4]
                have win : Bet S who two.toInt one.toInt y1.toInt y2.toInt → ∀ z2 : Int32, z2 = S + 1 → fx (T_y_feast_40 ac f X pa ra w5 en w7 L hs w10 w11 lf w13 w14 svj w16 w17 D r2 c1 c2 c3 c4 c5 c6 c7 c8 c9 c10 c11 c12 c13 c14 c15 c16 c17 c18 c19) M (z2, y2, y1, S, y1, y2) → (0 ≤ v0.toInt ∧ v0.toInt ≤ 63) ∧ ((f.toInt = 0 ∧ ∃ b : Int32, R_j_ones v0 b ∧ r2 = b) ∨ (f.toInt = 1 ∧ r2 = v0) ∨ (f.toInt = 2 ∧ r2 = v1) ∨ (f.toInt = 3 ∧ r2 = v2)) := fun hB z2 ez2 hk2 => by
                  have ezz : z2 = z := by rw [ez2, ez]
                  rw [ezz] at hk2
                  rw [hF.2.1, hF.2.2] at hB
                  rcases ht with ⟨-, -, g0, g1, g2⟩ | ⟨y, -⟩
                  · have e1 : t1 = y1 := mi_eq (by rw [g1, hF.2.1])
                    have e2 : t2 = y2 := mi_eq (by rw [g2, hF.2.2])
                    rw [g0, e1, e2] at hk
                    exact ih M z S y1 y2 y1 y2 hk hk2 (f3 c z ez) S63 tb ob
                  · exact absurd ⟨hF.1, hB⟩ y
                have lose : ¬ Bet S who two.toInt one.toInt y1.toInt y2.toInt → ∀ z2 : Int32, z2 = S + 1 → fx (T_y_feast_40 ac f X pa ra w5 en w7 L hs w10 w11 lf w13 w14 svj w16 w17 D r2 c1 c2 c3 c4 c5 c6 c7 c8 c9 c10 c11 c12 c13 c14 c15 c16 c17 c18 c19) M (z2, one, two, who, y1, y2) → (0 ≤ v0.toInt ∧ v0.toInt ≤ 63) ∧ ((f.toInt = 0 ∧ ∃ b : Int32, R_j_ones v0 b ∧ r2 = b) ∨ (f.toInt = 1 ∧ r2 = v0) ∨ (f.toInt = 2 ∧ r2 = v1) ∨ (f.toInt = 3 ∧ r2 = v2)) := fun hB z2 ez2 hk2 => by
                  have ezz : z2 = z := by rw [ez2, ez]
                  rw [ezz] at hk2
                  rw [hF.2.1, hF.2.2] at hB
                  rcases ht with ⟨-, y, -⟩ | ⟨-, g0, g1, g2⟩
                  · exact absurd y hB
                  · rw [g0, g1, g2] at hk
                    exact ih M z who two one y1 y2 hk hk2 (f3 c z ez) hw h2 h1
                clear hk ht hy
                have bet := bet_iff g2 g5
                clear g2 g3 g4 g5
                rcases hj with ⟨m, z2, ez2, hk2⟩ | ⟨m, ⟨m2, z2, ez2, hk2⟩ | ⟨m2, ⟨m3, z2, ez2, hk2⟩ | ⟨m3, ⟨m4, z2, ez2, hk2⟩ | ⟨m4, ⟨m5, z2, ez2, hk2⟩ | ⟨m5, z2, ez2, hk2⟩⟩⟩⟩⟩
                · exact win (bet.mpr (Or.inl m)) z2 ez2 hk2
                · exact lose (fun k => (bet.mp k).elim (fun k => Int.not_lt.mpr m k) (fun k => m2 k.1)) z2 ez2 hk2
                · exact win (bet.mpr (Or.inr ⟨m2, Or.inl m3⟩)) z2 ez2 hk2
                · exact lose (fun k => (bet.mp k).elim (fun k => Int.not_lt.mpr m k) (fun k => k.2.elim (fun k => Int.not_lt.mpr m3 k) (fun k => m4 k.1))) z2 ez2 hk2
                · exact lose (fun k => (bet.mp k).elim (fun k => Int.not_lt.mpr m k) (fun k => k.2.elim (fun k => Int.not_lt.mpr m3 k) (fun k => Int.not_lt.mpr m5 k.2))) z2 ez2 hk2
                · exact win (bet.mpr (Or.inr ⟨m2, Or.inr ⟨m4, m5⟩⟩)) z2 ez2 hk2
theorem feast_core {a pa ac ra d : Int32} {D cl ha hu : Nat → Int32} {u1 u2 u3 u4 u5 u6 : Int32} {u7 u8 u9 u10 u11 u12 : Nat → Int32} {w1 w2 w3 w4 w5 w6 w7 w8 w9 w10 w11 : Int32} {w12 w13 w14 w15 w16 w17 : Nat → Int32} {c1 c2 c3 c4 c5 c6 c7 c8 c9 c10 c11 c12 c13 : Int32} {c14 c15 c16 c17 c18 c19 : Nat → Int32} {f r r2 xt xo : Int32} {P : Prop} (hE : StE a pa ac ra d D cl ha hu u1 u2 u3 u4 u5 u6 u7 u8 u9 u10 u11 u12 w1 w2 w3 w4 w5 w6 w7 w8 w9 w10 w11 w12 w13 w14 w15 w16 w17) (hf : 0 ≤ f.toInt ∧ f.toInt ≤ 3) (hx : ∃ (b13 b14 b15 : Int32), (R_k_lay pa ac u11 hu u2 u10 u5 ha u7 b13 b14 b15) ∧ (∃ (b16 : Int32), (R_k_ftell f b15 b13 b14 b16) ∧ (r = b16 ∧ P))) (hy : fx (T_y_feast_40 w3 f w1 w2 w4 w5 w6 w7 w8 w9 w10 w11 w12 w13 w14 w15 w16 w17 D r2 c1 c2 c3 c4 c5 c6 c7 c8 c9 c10 c11 c12 c13 c14 c15 c16 c17 c18 c19) 65 ((1 : Int32), (0 : Int32), (0 : Int32), (0 : Int32), xt, xo)) : r = r2 := by
  obtain ⟨hd, H, ⟨t1, t2, t3, t4⟩, ⟨s1, s2, s3, s4, s5, s6⟩, ⟨eL, eO, eG, eS, eSo, eSt⟩, hL, hB⟩ := hE
  obtain ⟨hX, hac, hpa, hC, hHa, hH, gC, gHa, gH, gR⟩ := H
  obtain ⟨bE, bN, bC, bS, bO, bL⟩ := hB
  have k30 : ((d.toInt.toNat : Nat) : Int) ≤ 30 := by clear hx hy; omega
  have eN : 0 ≤ u2.toInt ∧ u2.toInt ≤ 30 := ⟨bE.1, by clear hx hy; omega⟩
  rw [t1, t2, t3, s2, s4] at hy
  obtain ⟨v0, v1, v2, hl, v3, ht, e, -⟩ := hx
  obtain ⟨Lc, hLc, hl⟩ := lay_x hpa gHa hl
  have eLc : Lc = w8 := Lvs_eq (living_sp hac hLc) hL
  rw [eLc] at hl
  have lr : ∀ n : Int, 0 ≤ (rs (lov ha u7 u5 n) pa.toInt.toNat).toInt ∧ (rs (lov ha u7 u5 n) pa.toInt.toNat).toInt ≤ 50000 := fun n => by
    have q := rs_rng (f := lov ha u7 u5 n) (m := 3069) (by decide) pa.toInt.toNat (by clear ht hy hl; omega) (fun b hb => lov_rng (by decide) (by have := bL b (by clear ht hy hl; omega); clear ht hy hl; omega))
    have := q.2.1
    have := q.1
    clear ht hy hl
    omega
  have ec : ∀ n : Int, rs (lov ha w12 u5 n) pa.toInt.toNat = rs (lov ha u7 u5 n) pa.toInt.toNat := fun n => rs_c _ (fun b hb => lov_c (eL b (by clear ht hy hl; omega)))
  have hn : ∀ b : Nat, (b : Int) < ac.toInt → 0 ≤ (ndv hu u2 u10 u11 b).toInt ∧ (ndv hu u2 u10 u11 b).toInt ≤ 160 := fun b hb => ndv_rng (gH b hb) eN (bS b hb).1
  have pr := p2_rng hac
  have hq := feast_loop (lfc := u7) (Lc := Lc) hX hac hpa hHa hH hL (ec 2).symm (ec 1).symm (lr 2) (lr 1) hn eS hf _ _ _ _ _ _ _ _ hl hy ⟨by decide, by rw [show (1 : Int32).toInt = 1 from by decide]; exact pr.1⟩ ⟨by decide, by decide⟩ ⟨by decide, by decide⟩ ⟨by decide, by decide⟩
  clear hl hy
  rw [e]
  rcases hq with ⟨v63, ⟨f0, b, hb, e2⟩ | ⟨f0, e2⟩ | ⟨f0, e2⟩ | ⟨f0, e2⟩⟩
  · rcases ht with ⟨k, -⟩ | ⟨-, c, hc, e3⟩ | ⟨k, -⟩ | ⟨k, -⟩
    · rw [f0] at k; exact absurd k (by decide)
    · rw [e3, e2]; exact mi_eq (by rw [bc_sp v63 hc, ones_sp v63 hb])
    · rw [f0] at k; exact absurd k (by decide)
    · rw [f0] at k; exact absurd k (by decide)
  · rcases ht with ⟨k, -⟩ | ⟨k, -⟩ | ⟨-, e3⟩ | ⟨k, -⟩
    · rw [f0] at k; exact absurd k (by decide)
    · rw [f0] at k; exact absurd k (by decide)
    · rw [e3, e2]
    · rw [f0] at k; exact absurd k (by decide)
  · rcases ht with ⟨k, -⟩ | ⟨k, -⟩ | ⟨k, -⟩ | ⟨-, e3⟩
    · rw [f0] at k; exact absurd k (by decide)
    · rw [f0] at k; exact absurd k (by decide)
    · rw [f0] at k; exact absurd k (by decide)
    · rw [e3, e2]
  · rcases ht with ⟨-, e3⟩ | ⟨k, -⟩ | ⟨k, -⟩ | ⟨k, -⟩
    · rw [e3, e2]
    · rw [f0] at k; exact absurd k (by decide)
    · rw [f0] at k; exact absurd k (by decide)
    · rw [f0] at k; exact absurd k (by decide)
theorem feast_sim {TN : Nat → Int32} {TF M : Nat → Nat → Int32} (h : TLg 0 TN TF M) (hr3 : 0 ≤ (TN 3).toInt ∧ (TN 3).toInt ≤ 2) (hr4 : 0 ≤ (TN 4).toInt ∧ (TN 4).toInt ≤ 2) {x0 x1 x2 x3 r r2 : Int32} (hx : S_x_feast TN TF x0 x1 x2 x3 r) (hy : S_y_feast M x0 x1 x2 x3 r2) : r = r2 := by
  obtain ⟨_, _, _, _, _, _, _, _, _, _, _, _, _, _, _, _, _, _, _, _, _, _, _, _, _, _, _, _, _, _, hx⟩ := hx
  obtain ⟨_, _, _, _, _, _, _, _, _, _, _, _, _, _, _, _, _, _, _, _, _, _, _, _, _, _, _, _, _, _, _, _, _, _, _, _, _, _, _, hy, hc⟩ := hy
  obtain ⟨q, m0, m1, m2, m3, m4, m5, m6, m7, m8, m9, m10, m11, m12, m13, m14, m15, m16, hl, hy⟩ := hy
  have z0 : ¬ ((0 : Int32).toInt ≠ 0) := by decide
  have z1 : ¬ ((1 : Int32).toInt = 0) := by decide
  have out : (x3.toInt < 0 ∨ 3 < x3.toInt) → r2 = -2 := fun ho => by
    clear hx hl
    rcases hy with ⟨-, e, -⟩ | ⟨-, v, hv, ⟨g, -⟩ | ⟨-, e, -⟩⟩
    · exact e
    · have hv := in_sp hv
      rcases hv with ⟨-, y⟩ | ⟨y, -⟩
      · exact absurd ho (by omega)
      · rw [g] at y; exact absurd y (by decide)
    · exact e
  rcases hx with ⟨c, e, -⟩ | ⟨c, ⟨c2, e, -⟩ | ⟨c2, hx⟩⟩
  · rw [e, out (Or.inl c)]
  · rw [e, out (Or.inr c2)]
  · obtain ⟨p, n0, n1, n2, n3, n4, n5, n6, n7, n8, n9, n10, n11, hk, hx⟩ := hx
    have hs := reach_sim h hr3 hr4 rfl rfl (by clear hk hl hx hy out; omega) hk hl
    clear hk hl
    rcases hs with ⟨p0, q0⟩ | ⟨p1, q1, hs⟩
    · have ex : r = -2 := by
        rcases hx with ⟨-, ⟨c, -⟩ | ⟨-, e, -⟩⟩ | ⟨-, ⟨c, -⟩ | ⟨-, e, -⟩⟩ | ⟨-, e, -⟩
        · rw [p0] at c; exact absurd c z0
        · exact e
        · rw [p0] at c; exact absurd c z0
        · exact e
        · exact e
      rcases hy with ⟨-, e, -⟩ | ⟨c, -⟩
      · rw [ex, e]
      · rw [q0] at c; exact absurd c z0
    · rcases hy with ⟨c, -⟩ | ⟨-, v, hv, hy⟩
      · rw [q1] at c; exact absurd c z1
      · have hv := in_sp hv
        rcases hy with ⟨-, hy⟩ | ⟨g, -⟩
        · rcases hs with ⟨ca, hs⟩ | ⟨ca, hs⟩
          · rcases hx with ⟨-, ⟨-, hx⟩ | ⟨c, -⟩⟩ | ⟨cb, -⟩ | ⟨c, -⟩
            · obtain ⟨b13, b14, b15, hl, b16, ht, er, -⟩ := hx
              exact feast_core (P := True) hs ⟨c, c2⟩ ⟨b13, b14, b15, hl, b16, ht, er, trivial⟩ hy
            · rw [p1] at c; exact absurd c z1
            · exact absurd ca cb
            · rw [p1] at c; exact absurd c z1
          · rcases hx with ⟨cb, -⟩ | ⟨-, ⟨-, hx⟩ | ⟨c, -⟩⟩ | ⟨c, -⟩
            · rw [cb] at ca; exact absurd ca (by decide)
            · obtain ⟨b13, b14, b15, hl, b16, ht, er, -⟩ := hx
              exact feast_core (P := True) hs ⟨c, c2⟩ ⟨b13, b14, b15, hl, b16, ht, er, trivial⟩ hy
            · rw [p1] at c; exact absurd c z1
            · rw [p1] at c; exact absurd c z1
        · rcases hv with ⟨y, -⟩ | ⟨-, y⟩
          · rw [g] at y; exact absurd y (by decide)
          · rcases y with y | y
            · exact absurd c (Int.not_le.mpr y)
            · exact absurd c2 (Int.not_le.mpr y)
