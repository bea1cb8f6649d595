/-! deeds: when they can be, what they do -/
def hb (H p : Int32) : Prop := ((H >>> (p &&& 31)) &&& 1).toInt = 1
theorem ih_sp {H p u : Int32} (h : R_k_isHushed H p u) : (hb H p ∧ u = 1) ∨ (¬ hb H p ∧ u = 0) := by
  obtain ⟨z1, e1, z2, e2, h⟩ := h
  have q := and1 z1
  rw [← e2] at q
  have e : ((H >>> (p &&& 31)) &&& 1).toInt = z2.toInt := by rw [e2, e1]
  unfold hb
  rw [e]
  rcases h with ⟨c, a⟩ | ⟨c, a⟩
  · exact Or.inr ⟨by omega, a⟩
  · exact Or.inl ⟨by omega, a⟩
theorem hs_sp {H p u : Int32} (h : R_j_has H p u) : (hb H p ∧ u = 1) ∨ (¬ hb H p ∧ u = 0) := by
  obtain ⟨z1, e1, z2, e2, h⟩ := h
  have e : ((H >>> (p &&& 31)) &&& 1).toInt = z2.toInt := by rw [e2, e1]
  unfold hb
  rw [e]
  rcases h with ⟨c, a⟩ | ⟨c, a⟩
  · exact Or.inr ⟨c, a⟩
  · exact Or.inl ⟨c, a⟩
/-- he may give so many -/
def GvO (pa hs : Int32) (lf : Nat → Int32) (x z : Int32) : Prop := (0 ≤ x.toInt ∧ x.toInt < pa.toInt) ∧ ¬ hb hs x ∧ z.toInt ≤ (lf x.toInt.toNat).toInt
def LvO (ac : Int32) (st : Nat → Int32) (y : Int32) : Prop := (0 ≤ y.toInt ∧ y.toInt < ac.toInt) ∧ (st y.toInt.toNat).toInt = -1
def InO (n x : Int32) : Prop := 0 ≤ x.toInt ∧ x.toInt < n.toInt
theorem one_ne : (1 : Int32) ≠ 0 := by decide
theorem cg_sp {x pa hs z u : Int32} {lf : Nat → Int32} (h : R_k_canGive x pa hs lf z u) : (GvO pa hs lf x z ∧ u = 1) ∨ (¬ GvO pa hs lf x z ∧ u = 0) := by
  obtain ⟨r1, h1, h⟩ := h
  have h1 := kp_sp h1
  rcases h with ⟨c, r5, h5, h⟩ | ⟨c, e⟩
  · rw [c] at h1
    rcases h1 with ⟨p, -⟩ | ⟨-, p⟩
    · have h5 := ih_sp h5
      rcases h with ⟨d, e⟩ | ⟨d, z8, e8, h⟩
      · rcases h5 with ⟨k, -⟩ | ⟨-, k⟩
        · exact Or.inr ⟨fun q => q.2.1 k, e⟩
        · rw [k] at d; exact absurd (by decide) d
      · rw [mi_cl] at e8
        rw [e8] at h
        rcases h5 with ⟨-, k⟩ | ⟨k, -⟩
        · rw [k] at d; exact absurd d (by decide)
        · rcases h with ⟨w, e⟩ | ⟨w, e⟩
          · exact Or.inr ⟨fun q => absurd q.2.2 (by omega), e⟩
          · exact Or.inl ⟨⟨p, k, w⟩, e⟩
    · exact absurd p one_ne
  · rw [c] at h1
    rcases h1 with ⟨-, p⟩ | ⟨p, -⟩
    · exact absurd p.symm one_ne
    · exact Or.inr ⟨fun q => p q.1, e⟩
/-- the halves of so many claps -/
def mny (ha : Nat → Int32) (x z ec y : Int32) : Int32 := if ec.toInt = y.toInt then z * ha x.toInt.toNat * 2 else z * ha x.toInt.toNat
theorem mny_rng {ha : Nat → Int32} {x z ec y : Int32} (hz : 1 ≤ z.toInt ∧ z.toInt ≤ 99) (hh : 1 ≤ (ha x.toInt.toNat).toInt ∧ (ha x.toInt.toNat).toInt ≤ 2) : 0 ≤ (mny ha x z ec y).toInt ∧ (mny ha x z ec y).toInt ≤ 396 := by
  unfold mny
  generalize ha x.toInt.toNat = w at hh
  have hw : w = 1 ∨ w = 2 := by
    rcases (by omega : w.toInt = 1 ∨ w.toInt = 2) with e | e
    · exact Or.inl (mi_eq (by rw [e]; decide))
    · exact Or.inr (mi_eq (by rw [e]; decide))
  have g : 0 ≤ (z * w).toInt ∧ (z * w).toInt ≤ 198 := by
    rcases hw with e | e
    · rw [e, mi_mulc (C := 1) (by decide) (by omega) (by omega)]; omega
    · rw [e, mi_mulc (C := 2) (by decide) (by omega) (by omega)]; omega
  split
  · rw [mi_mulc (C := 2) (by decide) (by omega) (by omega)]; omega
  · omega
theorem gv_sp {sv v : Nat → Int32} {a b ch u : Int32} (h : R_k_give sv a b ch u v) : u = ch + b ∧ v = upd sv a.toInt.toNat (sv a.toInt.toNat + b) := by
  obtain ⟨z1, e1, z2, e2, g3, e3, z4, e4, d0, d1⟩ := h
  exact ⟨by rw [d0, e4], by rw [d1, ← e3, e2, e1, mi_cl]⟩
theorem gt_sp {sv v : Nat → Int32} {a b ch u : Int32} (h : R_j_gets sv a b ch u v) : u = ch + b ∧ v = upd sv a.toInt.toNat (sv a.toInt.toNat + b) := by
  obtain ⟨z1, e1, z2, e2, g3, e3, z4, e4, d0, d1⟩ := h
  exact ⟨by rw [d0, e4], by rw [d1, ← e3, e2, e1, mi_cl]⟩
theorem cc_sp {ha lf gt sv u2 u3 u4 : Nat → Int32} {x z ec y cp ch u0 u1 : Int32} (hx : 0 ≤ x.toInt ∧ x.toInt ≤ 4) (hy : 0 ≤ y.toInt ∧ y.toInt ≤ 5) (h : R_k_clapFor ha x z ec y lf cp gt sv ch u0 u1 u2 u3 u4) : u0 = ch + mny ha x z ec y ∧ u1 = cp + z ∧ u2 = upd lf x.toInt.toNat (lf x.toInt.toNat - z) ∧ u3 = upd gt (6 * x.toInt.toNat + y.toInt.toNat) (gt (6 * x.toInt.toNat + y.toInt.toNat) + mny ha x z ec y) ∧ u4 = upd sv y.toInt.toNat (sv y.toInt.toNat + mny ha x z ec y) := by
  obtain ⟨z1, e1, z2, e2, h⟩ := h
  rw [mi_cl] at e1
  rcases h with ⟨c, z5, e5, z6, e6, g7, e7, z8, e8, z9, e9, z10, e10, z11, e11, z12, e12, g13, e13, n, g, hg, d0, d1, d2, d3, d4⟩ | ⟨c, z17, e17, z5, e5, z6, e6, g7, e7, z8, e8, z9, e9, z10, e10, z11, e11, z12, e12, g13, e13, n, g, hg, d0, d1, d2, d3, d4⟩
  · have m : z2 = mny ha x z ec y := by unfold mny; rw [if_neg c, e2, e1]
    have g9 : z9.toInt = x.toInt * 6 := by rw [e9]; exact mi_mulc (by decide) (by omega) (by omega)
    have g10 : z10.toInt = x.toInt * 6 + y.toInt := by rw [e10, mi_add (by omega) (by omega), g9]
    have i10 : Int32.toNatClampNeg z10 = 6 * x.toInt.toNat + y.toInt.toNat := by rw [mi_cl, g10]; omega
    have hg := gv_sp hg
    rw [m] at hg e12
    rw [i10] at e11 e13
    rw [mi_cl] at e5 e7
    exact ⟨by rw [d0, hg.1], by rw [d1, e8], by rw [d2, ← e7, e6, e5], by rw [d3, ← e13, e12, e11], by rw [d4, hg.2]⟩
  · have m : z17 = mny ha x z ec y := by unfold mny; rw [if_pos c, e17, e2, e1]
    have g9 : z9.toInt = x.toInt * 6 := by rw [e9]; exact mi_mulc (by decide) (by omega) (by omega)
    have g10 : z10.toInt = x.toInt * 6 + y.toInt := by rw [e10, mi_add (by omega) (by omega), g9]
    have i10 : Int32.toNatClampNeg z10 = 6 * x.toInt.toNat + y.toInt.toNat := by rw [mi_cl, g10]; omega
    have hg := gv_sp hg
    rw [m] at hg e12
    rw [i10] at e11 e13
    rw [mi_cl] at e5 e7
    exact ⟨by rw [d0, hg.1], by rw [d1, e8], by rw [d2, ← e7, e6, e5], by rw [d3, ← e13, e12, e11], by rw [d4, hg.2]⟩
theorem cj_sp {ha lf gt sv D st u3 u4 u5 : Nat → Int32} {pa x ac y li hs ch cp z X ec r u1 u2 : Int32} (hX : 0 ≤ X.toInt ∧ X.toInt ≤ 1) (hac : 0 ≤ ac.toInt ∧ ac.toInt ≤ 6) (hpa : 0 ≤ pa.toInt ∧ pa.toInt ≤ 5) (hHa : ∀ i : Nat, (i : Int) < pa.toInt → D (36 * X.toInt.toNat + (7 + 2 * i)) = ha i) (hL : Lvs ac li st) (h : R_j_clapsFor pa x ac y li hs ch cp lf gt sv z X D ec r u1 u2 u3 u4 u5) : ((GvO pa hs lf x z ∧ LvO ac st y) ∧ r = 1 ∧ u1 = ch + mny ha x z ec y ∧ u2 = cp + z ∧ u3 = upd lf x.toInt.toNat (lf x.toInt.toNat - z) ∧ u4 = upd gt (6 * x.toInt.toNat + y.toInt.toNat) (gt (6 * x.toInt.toNat + y.toInt.toNat) + mny ha x z ec y) ∧ u5 = upd sv y.toInt.toNat (sv y.toInt.toNat + mny ha x z ec y)) ∨ (¬ (GvO pa hs lf x z ∧ LvO ac st y) ∧ r = 0 ∧ u1 = ch ∧ u2 = cp ∧ u3 = lf ∧ u4 = gt ∧ u5 = sv) := by
  obtain ⟨r1, h1, h⟩ := h
  have h1 := jp_sp hpa h1
  rcases h with ⟨c, r5, h5, h⟩ | ⟨c, e0, e1, e2, e3, e4, e5⟩
  · rw [c] at h1
    rcases h1 with ⟨p, -⟩ | ⟨-, p⟩
    · have h5 := jl_sp hac hL h5
      rcases h with ⟨c2, r9, h9, h⟩ | ⟨c2, e0, e1, e2, e3, e4, e5⟩
      · rw [c2] at h5
        rcases h5 with ⟨p5, -⟩ | ⟨-, p5⟩
        · have h9 := hs_sp h9
          rcases h with ⟨c3, e0, e1, e2, e3, e4, e5⟩ | ⟨c3, z13, e13, h⟩
          · rcases h9 with ⟨k, -⟩ | ⟨-, k⟩
            · exact Or.inr ⟨fun q => q.1.2.1 k, e0, e1, e2, e3, e4, e5⟩
            · rw [k] at c3; exact absurd (by decide) c3
          · have nh : ¬ hb hs x := by
              rcases h9 with ⟨-, k⟩ | ⟨k, -⟩
              · rw [k] at c3; exact absurd c3 (by decide)
              · exact k
            rw [mi_cl] at e13
            rcases h with ⟨c4, b0, f0, b1, f1, b2, h2, b3, f3, h⟩ | ⟨c4, e0, e1, e2, e3, e4, e5⟩
            · have v2 := hd_sp hX hpa.2 hHa p h2
              clear h2
              rw [e13] at c4 f0
              refine Or.inl ⟨⟨⟨p, nh, c4⟩, p5⟩, ?_⟩
              rcases h with ⟨c5, b4, f4, b5, b6, hg, b7, f7, b8, f8, b9, f9, b10, f10, b11, f11, b12, f12, e0, e1, e2, e3, e4, e5⟩ | ⟨c5, b4, f4, b5, b6, hg, b7, f7, b8, f8, b9, f9, b10, f10, b11, f11, b12, f12, e0, e1, e2, e3, e4, e5⟩
              · have m : b4 = mny ha x z ec y := by unfold mny; rw [if_neg c5, f4, f3, v2, Int32.mul_one]
                have g7 : b7.toInt = 6 * x.toInt := by rw [f7]; exact mi_cmul (by decide) (by omega) (by omega)
                have g8 : b8.toInt = 6 * x.toInt + y.toInt := by rw [f8, mi_add (by omega) (by omega), g7]
                have i8 : Int32.toNatClampNeg b8 = 6 * x.toInt.toNat + y.toInt.toNat := by rw [mi_cl, g8]; omega
                have hg := gt_sp hg
                rw [m] at hg f10
                rw [i8] at f9 f11
                rw [mi_cl] at f1
                exact ⟨e0, by rw [e1, hg.1], by rw [e2, f12], by rw [e3, ← f1, f0], by rw [e4, ← f11, f10, f9], by rw [e5, hg.2]⟩
              · have m : b4 = mny ha x z ec y := by unfold mny; rw [if_pos c5, f4, f3, v2]
                have g7 : b7.toInt = 6 * x.toInt := by rw [f7]; exact mi_cmul (by decide) (by omega) (by omega)
                have g8 : b8.toInt = 6 * x.toInt + y.toInt := by rw [f8, mi_add (by omega) (by omega), g7]
                have i8 : Int32.toNatClampNeg b8 = 6 * x.toInt.toNat + y.toInt.toNat := by rw [mi_cl, g8]; omega
                have hg := gt_sp hg
                rw [m] at hg f10
                rw [i8] at f9 f11
                rw [mi_cl] at f1
                exact ⟨e0, by rw [e1, hg.1], by rw [e2, f12], by rw [e3, ← f1, f0], by rw [e4, ← f11, f10, f9], by rw [e5, hg.2]⟩
            · rw [e13] at c4
              exact Or.inr ⟨fun q => absurd q.1.2.2 (by omega), e0, e1, e2, e3, e4, e5⟩
        · exact absurd p5 one_ne
      · rw [c2] at h5
        rcases h5 with ⟨-, p5⟩ | ⟨p5, -⟩
        · exact absurd p5.symm one_ne
        · exact Or.inr ⟨fun q => p5 q.2, e0, e1, e2, e3, e4, e5⟩
    · exact absurd p one_ne
  · rw [c] at h1
    rcases h1 with ⟨-, p⟩ | ⟨p, -⟩
    · exact absurd p.symm one_ne
    · exact Or.inr ⟨fun q => p q.1.1, e0, e1, e2, e3, e4, e5⟩
/-- so many go from one to another -/
def mvd (lf : Nat → Int32) (x y z : Int32) : Nat → Int32 := upd (upd lf x.toInt.toNat (lf x.toInt.toNat - z)) y.toInt.toNat (upd lf x.toInt.toNat (lf x.toInt.toNat - z) y.toInt.toNat + z)
theorem mv_sp {lf u : Nat → Int32} {x y z : Int32} (h : R_k_move lf x z y u) : u = mvd lf x y z := by
  obtain ⟨z1, e1, z2, e2, g3, e3, z4, e4, z5, e5, g6, e6, d⟩ := h
  rw [mi_cl] at e1 e3 e4 e6
  unfold mvd
  rw [d, ← e6, e5, e4, ← e3, e2, e1]
theorem gi_sp {lf ow u1 u2 : Nat → Int32} {pa x y hs z f r : Int32} (hpa : 0 ≤ pa.toInt ∧ pa.toInt ≤ 5) (h : R_j_gives pa x y hs lf ow z f r u1 u2) : (((GvO pa hs lf x z ∧ InO pa y) ∧ (f.toInt ≠ 0 → z.toInt ≤ (ow (5 * x.toInt.toNat + y.toInt.toNat)).toInt)) ∧ r = 1 ∧ u1 = mvd lf x y z ∧ ((f.toInt = 0 ∧ u2 = upd ow (5 * y.toInt.toNat + x.toInt.toNat) (ow (5 * y.toInt.toNat + x.toInt.toNat) + z)) ∨ (f.toInt ≠ 0 ∧ u2 = upd ow (5 * x.toInt.toNat + y.toInt.toNat) (ow (5 * x.toInt.toNat + y.toInt.toNat) - z)))) ∨ (¬ ((GvO pa hs lf x z ∧ InO pa y) ∧ (f.toInt ≠ 0 → z.toInt ≤ (ow (5 * x.toInt.toNat + y.toInt.toNat)).toInt)) ∧ r = 0 ∧ u1 = lf ∧ u2 = ow) := by
  obtain ⟨r1, h1, h⟩ := h
  have h1 := jp_sp hpa h1
  rcases h with ⟨c, r5, h5, h⟩ | ⟨c, e0, e1, e2⟩
  · rw [c] at h1
    rcases h1 with ⟨p, -⟩ | ⟨-, p⟩
    · have h5 := jp_sp hpa h5
      rcases h with ⟨c2, r9, h9, h⟩ | ⟨c2, e0, e1, e2⟩
      · rw [c2] at h5
        rcases h5 with ⟨p5, -⟩ | ⟨-, p5⟩
        · have h9 := hs_sp h9
          rcases h with ⟨c3, e0, e1, e2⟩ | ⟨c3, z13, e13, h⟩
          · rcases h9 with ⟨k, -⟩ | ⟨-, k⟩
            · exact Or.inr ⟨fun q => q.1.1.2.1 k, e0, e1, e2⟩
            · rw [k] at c3; exact absurd (by decide) c3
          · have nh : ¬ hb hs x := by
              rcases h9 with ⟨-, k⟩ | ⟨k, -⟩
              · rw [k] at c3; exact absurd c3 (by decide)
              · exact k
            rw [mi_cl] at e13
            rcases h with ⟨c4, e0, e1, e2⟩ | ⟨c4, h⟩
            · rw [e13] at c4
              exact Or.inr ⟨fun q => absurd q.1.1.2.2 (by omega), e0, e1, e2⟩
            · rw [e13] at c4 h
              rcases h with ⟨c5, b0, f0, b1, f1, b2, f2, b3, f3, b4, f4, b5, f5, b6, f6, b7, f7, b8, f8, b9, f9, e0, e1, e2⟩ | ⟨c5, b10, f10, b11, f11, b12, f12, h⟩
              · rw [mi_cl] at f1 f2 f4
                have g5 : b5.toInt = 5 * y.toInt := by rw [f5]; exact mi_cmul (by decide) (by omega) (by omega)
                have g6 : b6.toInt = 5 * y.toInt + x.toInt := by rw [f6, mi_add (by omega) (by omega), g5]
                have i6 : Int32.toNatClampNeg b6 = 5 * y.toInt.toNat + x.toInt.toNat := by rw [mi_cl, g6]; omega
                rw [i6] at f7 f9
                exact Or.inl ⟨⟨⟨⟨p, nh, c4⟩, p5⟩, fun k => absurd c5 k⟩, e0, by unfold mvd; rw [e1, ← f4, f3, f2, ← f1, f0], Or.inl ⟨c5, by rw [e2, ← f9, f8, f7]⟩⟩
              · have g10 : b10.toInt = 5 * x.toInt := by rw [f10]; exact mi_cmul (by decide) (by omega) (by omega)
                have g11 : b11.toInt = 5 * x.toInt + y.toInt := by rw [f11, mi_add (by omega) (by omega), g10]
                have i11 : Int32.toNatClampNeg b11 = 5 * x.toInt.toNat + y.toInt.toNat := by rw [mi_cl, g11]; omega
                rw [i11] at f12
                rw [f12] at h
                rcases h with ⟨c6, b13, f13, b14, f14, b15, f15, b16, f16, b17, f17, b18, f18, b19, f19, b20, f20, b21, f21, b22, f22, e0, e1, e2⟩ | ⟨c6, e0, e1, e2⟩
                · rw [mi_cl] at f14 f15 f17
                  have g18 : b18.toInt = 5 * x.toInt := by rw [f18]; exact mi_cmul (by decide) (by omega) (by omega)
                  have g19 : b19.toInt = 5 * x.toInt + y.toInt := by rw [f19, mi_add (by omega) (by omega), g18]
                  have i19 : Int32.toNatClampNeg b19 = 5 * x.toInt.toNat + y.toInt.toNat := by rw [mi_cl, g19]; omega
                  rw [i19] at f20 f22
                  exact Or.inl ⟨⟨⟨⟨p, nh, c4⟩, p5⟩, fun _ => c6⟩, e0, by unfold mvd; rw [e1, ← f17, f16, f15, ← f14, f13], Or.inr ⟨c5, by rw [e2, ← f22, f21, f20]⟩⟩
                · exact Or.inr ⟨fun q => absurd (q.2 c5) (by omega), e0, e1, e2⟩
        · exact absurd p5 one_ne
      · rw [c2] at h5
        rcases h5 with ⟨-, p5⟩ | ⟨p5, -⟩
        · exact absurd p5.symm one_ne
        · exact Or.inr ⟨fun q => p5 q.1.2, e0, e1, e2⟩
    · exact absurd p one_ne
  · rw [c] at h1
    rcases h1 with ⟨-, p⟩ | ⟨p, -⟩
    · exact absurd p.symm one_ne
    · exact Or.inr ⟨fun q => p q.1.1.1, e0, e1, e2⟩
theorem hu_sp {sv st u3 : Nat → Int32} {ac x li pa y z ch hs r u1 u2 : Int32} (hac : 0 ≤ ac.toInt ∧ ac.toInt ≤ 6) (hpa : 0 ≤ pa.toInt ∧ pa.toInt ≤ 5) (hL : Lvs ac li st) (h : R_j_hushes ac x li pa y sv z ch hs r u1 u2 u3) : ((LvO ac st x ∧ InO pa y ∧ z.toInt ≤ (sv x.toInt.toNat).toInt ∧ z.toInt ≤ ch.toInt) ∧ r = 1 ∧ u1 = ch + -z ∧ u2 = hs ||| (1 : Int32) <<< (y &&& 31) ∧ u3 = upd sv x.toInt.toNat (sv x.toInt.toNat + -z)) ∨ (¬ (LvO ac st x ∧ InO pa y ∧ z.toInt ≤ (sv x.toInt.toNat).toInt ∧ z.toInt ≤ ch.toInt) ∧ r = 0 ∧ u1 = ch ∧ u2 = hs ∧ u3 = sv) := by
  obtain ⟨r1, h1, h⟩ := h
  have h1 := jl_sp hac hL h1
  rcases h with ⟨c, r5, h5, h⟩ | ⟨c, e0, e1, e2, e3⟩
  · rw [c] at h1
    rcases h1 with ⟨p, -⟩ | ⟨-, p⟩
    · have h5 := jp_sp hpa h5
      rcases h with ⟨c2, z9, e9, h⟩ | ⟨c2, e0, e1, e2, e3⟩
      · rw [c2] at h5
        rcases h5 with ⟨p5, -⟩ | ⟨-, p5⟩
        · rw [mi_cl] at e9
          rw [e9] at h
          rcases h with ⟨c3, e0, e1, e2, e3⟩ | ⟨c3, ⟨c4, z16, f16, n, g, hg, z20, f20, z21, f21, e0, e1, e2, e3⟩ | ⟨c4, e0, e1, e2, e3⟩⟩
          · exact Or.inr ⟨fun q => absurd q.2.2.1 (by omega), e0, e1, e2, e3⟩
          · have hg := gt_sp hg
            rw [f16] at hg
            exact Or.inl ⟨⟨p, p5, c3, c4⟩, e0, by rw [e1, hg.1], by rw [e2, f21, f20], by rw [e3, hg.2]⟩
          · exact Or.inr ⟨fun q => absurd q.2.2.2 (by omega), e0, e1, e2, e3⟩
        · exact absurd p5 one_ne
      · rw [c2] at h5
        rcases h5 with ⟨-, p5⟩ | ⟨p5, -⟩
        · exact absurd p5.symm one_ne
        · exact Or.inr ⟨fun q => p5 q.2.1, e0, e1, e2, e3⟩
    · exact absurd p one_ne
  · rw [c] at h1
    rcases h1 with ⟨-, p⟩ | ⟨p, -⟩
    · exact absurd p.symm one_ne
    · exact Or.inr ⟨fun q => p q.1, e0, e1, e2, e3⟩
