/-! one deed of class and reference, in step -/
theorem GvO_c {pa hs x z : Int32} {lf lfj : Nat → Int32} (e : ∀ p : Nat, (p : Int) < pa.toInt → lfj p = lf p) : GvO pa hs lfj x z ↔ GvO pa hs lf x z := by
  unfold GvO
  constructor
  · intro h
    obtain ⟨h1, h2, h3⟩ := h
    refine ⟨h1, h2, ?_⟩
    rw [← e x.toInt.toNat (by omega)]
    exact h3
  · intro h
    obtain ⟨h1, h2, h3⟩ := h
    refine ⟨h1, h2, ?_⟩
    rw [e x.toInt.toNat (by omega)]
    exact h3
theorem mvd_c {pa x y z : Int32} {lf lfj : Nat → Int32} (eL : ∀ p : Nat, (p : Int) < pa.toInt → lfj p = lf p) (hx : 0 ≤ x.toInt ∧ x.toInt < pa.toInt) (hy : 0 ≤ y.toInt ∧ y.toInt < pa.toInt) : ∀ p : Nat, (p : Int) < pa.toInt → mvd lfj x y z p = mvd lf x y z p := by
  have e1 : ∀ p : Nat, (p : Int) < pa.toInt → upd lfj x.toInt.toNat (lfj x.toInt.toNat - z) p = upd lf x.toInt.toNat (lf x.toInt.toNat - z) p := up_c eL (by rw [eL x.toInt.toNat (by omega)])
  unfold mvd
  exact up_c e1 (by rw [e1 y.toInt.toNat (by omega)])
theorem mvd_b {pa x y z : Int32} {lf : Nat → Int32} {m : Int} (hm : m ≤ 1000000) (bL : ∀ p : Nat, (p : Int) < pa.toInt → 0 ≤ (lf p).toInt ∧ (lf p).toInt ≤ m) (hx : 0 ≤ x.toInt ∧ x.toInt < pa.toInt) (hy : 0 ≤ y.toInt ∧ y.toInt < pa.toInt) (hz : 1 ≤ z.toInt ∧ z.toInt ≤ 99) (hg : z.toInt ≤ (lf x.toInt.toNat).toInt) : ∀ p : Nat, (p : Int) < pa.toInt → 0 ≤ (mvd lf x y z p).toInt ∧ (mvd lf x y z p).toInt ≤ m + 99 := by
  have q := bL x.toInt.toNat (by omega)
  have v : (lf x.toInt.toNat - z).toInt = (lf x.toInt.toNat).toInt - z.toInt := mi_sub (by omega) (by omega)
  have b1 : ∀ p : Nat, (p : Int) < pa.toInt → 0 ≤ (upd lf x.toInt.toNat (lf x.toInt.toNat - z) p).toInt ∧ (upd lf x.toInt.toNat (lf x.toInt.toNat - z) p).toInt ≤ m := up_b bL (by rw [v]; omega)
  have q2 := b1 y.toInt.toNat (by omega)
  unfold mvd
  exact up_b (fun i hi => by have := b1 i hi; omega) (by rw [mi_add (by omega) (by omega)]; omega)
theorem nxv1 {r v0 v7 ec : Int32} {P : Prop} (er : r = 1) (h : (r.toInt ≠ 0 ∧ v0 = 1 ∧ P) ∨ (r.toInt = 0 ∧ v0 = 0 ∧ v7 = ec)) : v0 = 1 ∧ P := by
  rcases h with ⟨-, b, c⟩ | ⟨a, -, -⟩
  · exact ⟨b, c⟩
  · rw [er] at a; exact absurd a (by decide)
theorem nxv0 {r v0 v7 ec : Int32} {P : Prop} (er : r = 0) (h : (r.toInt ≠ 0 ∧ v0 = 1 ∧ P) ∨ (r.toInt = 0 ∧ v0 = 0 ∧ v7 = ec)) : v0 = 0 ∧ v7 = ec := by
  rcases h with ⟨a, -, -⟩ | ⟨-, b, c⟩
  · rw [er] at a; exact absurd rfl a
  · exact ⟨b, c⟩
theorem CanD_0 {pa hs ac ch k x y z : Int32} {lf st ow sv : Nat → Int32} (hk : k.toInt = 0) : CanD pa hs lf ac st ow sv ch k x y z ↔ (GvO pa hs lf x z ∧ LvO ac st y) := by
  unfold CanD
  constructor
  · intro q
    rcases q with ⟨-, q⟩ | ⟨q, -⟩ | ⟨q, -⟩ | ⟨q, -⟩ | ⟨q, -⟩ | q
    · exact q
    · exfalso; omega
    · exfalso; omega
    · exfalso; omega
    · exfalso; omega
    · exfalso; omega
  · intro q
    exact Or.inl ⟨hk, q⟩
theorem CanD_1 {pa hs ac ch k x y z : Int32} {lf st ow sv : Nat → Int32} (hk : k.toInt = 1) : CanD pa hs lf ac st ow sv ch k x y z ↔ (GvO pa hs lf x z ∧ InO pa y) := by
  unfold CanD
  constructor
  · intro q
    rcases q with ⟨q, -⟩ | ⟨-, q⟩ | ⟨q, -⟩ | ⟨q, -⟩ | ⟨q, -⟩ | q
    · exfalso; omega
    · exact q
    · exfalso; omega
    · exfalso; omega
    · exfalso; omega
    · exfalso; omega
  · intro q
    exact Or.inr (Or.inl ⟨hk, q⟩)
theorem CanD_2 {pa hs ac ch k x y z : Int32} {lf st ow sv : Nat → Int32} (hk : k.toInt = 2) : CanD pa hs lf ac st ow sv ch k x y z ↔ ((GvO pa hs lf x z ∧ InO pa y) ∧ z.toInt ≤ (ow (5 * x.toInt.toNat + y.toInt.toNat)).toInt) := by
  unfold CanD
  constructor
  · intro q
    rcases q with ⟨q, -⟩ | ⟨q, -⟩ | ⟨-, q⟩ | ⟨q, -⟩ | ⟨q, -⟩ | q
    · exfalso; omega
    · exfalso; omega
    · exact q
    · exfalso; omega
    · exfalso; omega
    · exfalso; omega
  · intro q
    exact Or.inr (Or.inr (Or.inl ⟨hk, q⟩))
theorem CanD_3 {pa hs ac ch k x y z : Int32} {lf st ow sv : Nat → Int32} (hk : k.toInt = 3) : CanD pa hs lf ac st ow sv ch k x y z ↔ (LvO ac st x ∧ InO pa y ∧ z.toInt ≤ (sv x.toInt.toNat).toInt ∧ z.toInt ≤ ch.toInt) := by
  unfold CanD
  constructor
  · intro q
    rcases q with ⟨q, -⟩ | ⟨q, -⟩ | ⟨q, -⟩ | ⟨-, q⟩ | ⟨q, -⟩ | q
    · exfalso; omega
    · exfalso; omega
    · exfalso; omega
    · exact q
    · exfalso; omega
    · exfalso; omega
  · intro q
    exact Or.inr (Or.inr (Or.inr (Or.inl ⟨hk, q⟩)))
theorem CanD_4 {pa hs ac ch k x y z : Int32} {lf st ow sv : Nat → Int32} (hk : k.toInt = 4) : CanD pa hs lf ac st ow sv ch k x y z ↔ (LvO ac st x) := by
  unfold CanD
  constructor
  · intro q
    rcases q with ⟨q, -⟩ | ⟨q, -⟩ | ⟨q, -⟩ | ⟨q, -⟩ | ⟨-, q⟩ | q
    · exfalso; omega
    · exfalso; omega
    · exfalso; omega
    · exfalso; omega
    · exact q
    · exfalso; omega
  · intro q
    exact Or.inr (Or.inr (Or.inr (Or.inr (Or.inl ⟨hk, q⟩))))
theorem CanD_5 {pa hs ac ch k x y z : Int32} {lf st ow sv : Nat → Int32} (hk : k.toInt = 5 ∨ k.toInt = 6) : CanD pa hs lf ac st ow sv ch k x y z := Or.inr (Or.inr (Or.inr (Or.inr (Or.inr (Or.inr (by omega))))))
theorem st_0 {pa ac X ch cp en ni hs ec li x y z r w1 w6 : Int32} {D ha lf ow gt sv st lfj gtj svj w7 w9 w10 : Nat → Int32} {k : Nat} (hk : k ≤ 29) (hX : 0 ≤ X.toInt ∧ X.toInt ≤ 1) (hac : 0 ≤ ac.toInt ∧ ac.toInt ≤ 6) (hpa : 0 ≤ pa.toInt ∧ pa.toInt ≤ 5) (hHa : ∀ i : Nat, (i : Int) < pa.toInt → D (36 * X.toInt.toNat + (7 + 2 * i)) = ha i) (gHa : ∀ i : Nat, (i : Int) < pa.toInt → 1 ≤ (ha i).toInt ∧ (ha i).toInt ≤ 2) (hz : 1 ≤ z.toInt ∧ z.toInt ≤ 99) (eL : ∀ p : Nat, (p : Int) < pa.toInt → lfj p = lf p) (eG : ∀ j : Nat, j < 30 → gtj j = gt j) (eS : ∀ a : Nat, (a : Int) < ac.toInt → svj a = sv a) (hL : Lvs ac li st) (hBd : Bnd pa ac k ch en ni lf ow sv) (h : R_j_clapsFor pa x ac y li hs ch cp lfj gtj svj z X D ec r w1 w6 w7 w9 w10) : ((GvO pa hs lf x z ∧ LvO ac st y) ∧ r = 1 ∧ ∀ (u0 u3 : Int32) (u6 u8 u9 : Nat → Int32), R_k_clapFor ha x z ec y lf cp gt sv ch u0 u3 u6 u8 u9 → (w1 = u0 ∧ w6 = u3 ∧ (∀ p : Nat, (p : Int) < pa.toInt → w7 p = u6 p) ∧ (∀ j : Nat, j < 30 → w9 j = u8 j) ∧ (∀ a : Nat, (a : Int) < ac.toInt → w10 a = u9 a) ∧ Bnd pa ac (k + 1) u0 en ni u6 ow u9)) ∨ (¬ (GvO pa hs lf x z ∧ LvO ac st y) ∧ r = 0 ∧ w1 = ch ∧ w6 = cp ∧ w7 = lfj ∧ w9 = gtj ∧ w10 = svj) := by
  have h := cj_sp hX hac hpa hHa hL h
  rw [GvO_c eL] at h
  rcases h with ⟨hc, er, e1, e2, e3, e4, e5⟩ | h
  · refine Or.inl ⟨hc, er, fun u0 u3 u6 u8 u9 hu => ?_⟩
    obtain ⟨⟨hgx, -, hgz⟩, hly, -⟩ := hc
    have hcc := cc_sp (by omega) (by omega) hu
    clear hu
    obtain ⟨f0, f1, f2, f3, f4⟩ := hcc
    have m := mny_rng (ec := ec) (y := y) hz (gHa x.toInt.toNat (by omega))
    obtain ⟨bE, bN, bC, bS, bO, bL⟩ := hBd
    have sS := Sb_s k
    have sO := Ob_s k
    have rS := Sb_rng (k := k) (by omega)
    have hl := bL x.toInt.toNat (by omega)
    have hs' := bS y.toInt.toNat (by omega)
    have v0 : (ch + mny ha x z ec y).toInt = ch.toInt + (mny ha x z ec y).toInt := mi_add (by omega) (by omega)
    have v4 : (sv y.toInt.toNat + mny ha x z ec y).toInt = (sv y.toInt.toNat).toInt + (mny ha x z ec y).toInt := mi_add (by omega) (by omega)
    have v2 : (lf x.toInt.toNat - z).toInt = (lf x.toInt.toNat).toInt - z.toInt := mi_sub (by omega) (by omega)
    refine ⟨by rw [e1, f0], by rw [e2, f1], ?_, ?_, ?_, ?_⟩
    · rw [e3, f2]; exact up_c eL (by rw [eL x.toInt.toNat (by omega)])
    · rw [e4, f3]; exact up_c eG (by rw [eG (6 * x.toInt.toNat + y.toInt.toNat) (by omega)])
    · rw [e5, f4]; exact up_c eS (by rw [eS y.toInt.toNat (by omega)])
    · rw [f0, f2, f4]
      refine ⟨by omega, by omega, by rw [v0]; omega, ?_, ?_, ?_⟩
      · exact up_b (fun i hi => by have := bS i hi; omega) (by rw [v4]; omega)
      · exact fun i hi => by have := bO i hi; omega
      · exact up_b (fun i hi => by have := bL i hi; omega) (by rw [v2]; omega)
  · exact Or.inr h
theorem st_1 {pa ac ch en ni hs x y z r : Int32} {lf ow sv lfj owj w7 w8 : Nat → Int32} {k : Nat} (hk : k ≤ 29) (hpa : 0 ≤ pa.toInt ∧ pa.toInt ≤ 5) (hz : 1 ≤ z.toInt ∧ z.toInt ≤ 99) (eL : ∀ p : Nat, (p : Int) < pa.toInt → lfj p = lf p) (eO : ∀ j : Nat, j < 25 → owj j = ow j) (hBd : Bnd pa ac k ch en ni lf ow sv) (h : R_j_gives pa x y hs lfj owj z 0 r w7 w8) : ((GvO pa hs lf x z ∧ InO pa y) ∧ r = 1 ∧ (∀ p : Nat, (p : Int) < pa.toInt → w7 p = mvd lf x y z p) ∧ (∀ j : Nat, j < 25 → w8 j = upd ow (5 * y.toInt.toNat + x.toInt.toNat) (ow (5 * y.toInt.toNat + x.toInt.toNat) + z) j) ∧ Bnd pa ac (k + 1) ch en ni (mvd lf x y z) (upd ow (5 * y.toInt.toNat + x.toInt.toNat) (ow (5 * y.toInt.toNat + x.toInt.toNat) + z)) sv) ∨ (¬ (GvO pa hs lf x z ∧ InO pa y) ∧ r = 0 ∧ w7 = lfj ∧ w8 = owj) := by
  have h := gi_sp hpa h
  rw [GvO_c eL] at h
  rcases h with ⟨⟨⟨hg, hy⟩, hgn⟩, er, e1, e2⟩ | ⟨hn, er, e1, e2⟩
  · have hc : GvO pa hs lf x z ∧ InO pa y := ⟨hg, hy⟩
    clear hgn
    obtain ⟨hgx, -, hgz⟩ := hg
    have hy : 0 ≤ y.toInt ∧ y.toInt < pa.toInt := hy
    obtain ⟨bE, bN, bC, bS, bO, bL⟩ := hBd
    have sS := Sb_s k
    have sO := Ob_s k
    have rS := Sb_rng (k := k) (by omega)
    have ho := bO (5 * y.toInt.toNat + x.toInt.toNat) (by omega)
    have v : (ow (5 * y.toInt.toNat + x.toInt.toNat) + z).toInt = (ow (5 * y.toInt.toNat + x.toInt.toNat)).toInt + z.toInt := mi_add (by omega) (by omega)
    have e2 : w8 = upd owj (5 * y.toInt.toNat + x.toInt.toNat) (owj (5 * y.toInt.toNat + x.toInt.toNat) + z) := by
      rcases e2 with ⟨c, e⟩ | ⟨c, e⟩
      · exact e
      · exact absurd rfl c
    refine Or.inl ⟨hc, er, ?_, ?_, ?_⟩
    · rw [e1]; exact mvd_c eL hgx hy
    · rw [e2]; exact up_c eO (by rw [eO (5 * y.toInt.toNat + x.toInt.toNat) (by omega)])
    · refine ⟨by omega, by omega, by omega, fun i hi => by have := bS i hi; omega, ?_, ?_⟩
      · exact up_b (fun i hi => by have := bO i hi; omega) (by rw [v]; omega)
      · intro i hi
        have := mvd_b (m := 99 + 99 * (k : Int)) (by omega) bL hgx hy hz hgz i hi
        omega
  · refine Or.inr ⟨fun c => hn ⟨c, fun q => absurd rfl q⟩, er, e1, e2⟩
theorem st_2 {pa ac ch en ni hs x y z r : Int32} {lf ow sv lfj owj w7 w8 : Nat → Int32} {k : Nat} (hk : k ≤ 29) (hpa : 0 ≤ pa.toInt ∧ pa.toInt ≤ 5) (hz : 1 ≤ z.toInt ∧ z.toInt ≤ 99) (eL : ∀ p : Nat, (p : Int) < pa.toInt → lfj p = lf p) (eO : ∀ j : Nat, j < 25 → owj j = ow j) (hBd : Bnd pa ac k ch en ni lf ow sv) (h : R_j_gives pa x y hs lfj owj z 1 r w7 w8) : (((GvO pa hs lf x z ∧ InO pa y) ∧ z.toInt ≤ (ow (5 * x.toInt.toNat + y.toInt.toNat)).toInt) ∧ r = 1 ∧ (∀ p : Nat, (p : Int) < pa.toInt → w7 p = mvd lf x y z p) ∧ (∀ j : Nat, j < 25 → w8 j = upd ow (5 * x.toInt.toNat + y.toInt.toNat) (ow (5 * x.toInt.toNat + y.toInt.toNat) - z) j) ∧ Bnd pa ac (k + 1) ch en ni (mvd lf x y z) (upd ow (5 * x.toInt.toNat + y.toInt.toNat) (ow (5 * x.toInt.toNat + y.toInt.toNat) - z)) sv) ∨ (¬ ((GvO pa hs lf x z ∧ InO pa y) ∧ z.toInt ≤ (ow (5 * x.toInt.toNat + y.toInt.toNat)).toInt) ∧ r = 0 ∧ w7 = lfj ∧ w8 = owj) := by
  have h := gi_sp hpa h
  rw [GvO_c eL] at h
  rcases h with ⟨⟨⟨hg, hy⟩, hgn⟩, er, e1, e2⟩ | ⟨hn, er, e1, e2⟩
  · have hgn := hgn (by decide)
    rw [eO (5 * x.toInt.toNat + y.toInt.toNat) (by have h1 := hg.1; have h2 := hy.1; have h3 := hy.2; omega)] at hgn
    have hc : (GvO pa hs lf x z ∧ InO pa y) ∧ z.toInt ≤ (ow (5 * x.toInt.toNat + y.toInt.toNat)).toInt := ⟨⟨hg, hy⟩, hgn⟩
    obtain ⟨hgx, -, hgz⟩ := hg
    have hy : 0 ≤ y.toInt ∧ y.toInt < pa.toInt := hy
    obtain ⟨bE, bN, bC, bS, bO, bL⟩ := hBd
    have sS := Sb_s k
    have sO := Ob_s k
    have rS := Sb_rng (k := k) (by omega)
    have ho := bO (5 * x.toInt.toNat + y.toInt.toNat) (by omega)
    have v : (ow (5 * x.toInt.toNat + y.toInt.toNat) - z).toInt = (ow (5 * x.toInt.toNat + y.toInt.toNat)).toInt - z.toInt := mi_sub (by omega) (by omega)
    have e2 : w8 = upd owj (5 * x.toInt.toNat + y.toInt.toNat) (owj (5 * x.toInt.toNat + y.toInt.toNat) - z) := by
      rcases e2 with ⟨c, e⟩ | ⟨c, e⟩
      · exact absurd c (by decide)
      · exact e
    refine Or.inl ⟨hc, er, ?_, ?_, ?_⟩
    · rw [e1]; exact mvd_c eL hgx hy
    · rw [e2]; exact up_c eO (by rw [eO (5 * x.toInt.toNat + y.toInt.toNat) (by omega)])
    · refine ⟨by omega, by omega, by omega, fun i hi => by have := bS i hi; omega, ?_, ?_⟩
      · exact up_b (fun i hi => by have := bO i hi; omega) (by rw [v]; omega)
      · intro i hi
        have := mvd_b (m := 99 + 99 * (k : Int)) (by omega) bL hgx hy hz hgz i hi
        omega
  · refine Or.inr ⟨fun c => hn ⟨c.1, fun _ => ?_⟩, er, e1, e2⟩
    obtain ⟨⟨hg, hy⟩, hz2⟩ := c
    rw [eO (5 * x.toInt.toNat + y.toInt.toNat) (by have h1 := hg.1; have h2 := hy.1; have h3 := hy.2; omega)]
    exact hz2
theorem st_3 {pa ac ch en ni hs li x y z r w1 w5 : Int32} {lf ow sv st svj w10 : Nat → Int32} {k : Nat} (hk : k ≤ 29) (hac : 0 ≤ ac.toInt ∧ ac.toInt ≤ 6) (hpa : 0 ≤ pa.toInt ∧ pa.toInt ≤ 5) (hz : 1 ≤ z.toInt ∧ z.toInt ≤ 99) (eS : ∀ a : Nat, (a : Int) < ac.toInt → svj a = sv a) (hL : Lvs ac li st) (hBd : Bnd pa ac k ch en ni lf ow sv) (h : R_j_hushes ac x li pa y svj z ch hs r w1 w5 w10) : ((LvO ac st x ∧ InO pa y ∧ z.toInt ≤ (sv x.toInt.toNat).toInt ∧ z.toInt ≤ ch.toInt) ∧ r = 1 ∧ w1 = ch + -z ∧ w5 = hs ||| (1 : Int32) <<< (y &&& 31) ∧ (∀ a : Nat, (a : Int) < ac.toInt → w10 a = upd sv x.toInt.toNat (sv x.toInt.toNat + -z) a) ∧ Bnd pa ac (k + 1) (ch + -z) en ni lf ow (upd sv x.toInt.toNat (sv x.toInt.toNat + -z))) ∨ (¬ (LvO ac st x ∧ InO pa y ∧ z.toInt ≤ (sv x.toInt.toNat).toInt ∧ z.toInt ≤ ch.toInt) ∧ r = 0 ∧ w1 = ch ∧ w5 = hs ∧ w10 = svj) := by
  have h := hu_sp hac hpa hL h
  rcases h with ⟨⟨hl, hy, hs1, hs2⟩, er, e1, e2, e3⟩ | ⟨hn, er, e1, e2, e3⟩
  · have hlx := hl.1
    rw [eS x.toInt.toNat (by omega)] at hs1
    obtain ⟨bE, bN, bC, bS, bO, bL⟩ := hBd
    have sS := Sb_s k
    have sO := Ob_s k
    have rS := Sb_rng (k := k) (by omega)
    have hsx := bS x.toInt.toNat (by omega)
    have v0 : (ch + -z).toInt = ch.toInt - z.toInt := mi_addn (by omega) hs2
    have v1 : (sv x.toInt.toNat + -z).toInt = (sv x.toInt.toNat).toInt - z.toInt := mi_addn (by omega) hs1
    refine Or.inl ⟨⟨hl, hy, hs1, hs2⟩, er, e1, e2, ?_, ?_⟩
    · rw [e3]; exact up_c eS (by rw [eS x.toInt.toNat (by omega)])
    · refine ⟨by omega, by omega, by rw [v0]; omega, up_b (fun i hi => by have := bS i hi; omega) (by rw [v1]; omega), fun i hi => by have := bO i hi; omega, fun i hi => by have := bL i hi; omega⟩
  · refine Or.inr ⟨fun c => hn ⟨c.1, c.2.1, ?_, c.2.2.2⟩, er, e1, e2, e3⟩
    obtain ⟨hl, hy, hs1, hs2⟩ := c
    have hlx := hl.1
    rw [eS x.toInt.toNat (by omega)]
    exact hs1
theorem st_4 {pa ac ch en ni li x y r w1 : Int32} {lf ow sv st so svj soj w10 w11 : Nat → Int32} {k : Nat} (hk : k ≤ 29) (hac : 0 ≤ ac.toInt ∧ ac.toInt ≤ 6) (hy : 1 ≤ y.toInt ∧ y.toInt ≤ 99) (eS : ∀ a : Nat, (a : Int) < ac.toInt → svj a = sv a) (eSo : ∀ a : Nat, a < 6 → soj a = so a) (hL : Lvs ac li st) (hBd : Bnd pa ac k ch en ni lf ow sv) (h : ∃ b : Int32, R_j_isLiving ac x li b ∧ ((b = 1 ∧ r = 1 ∧ w1 = ch + 2 * y ∧ w10 = upd svj x.toInt.toNat (svj x.toInt.toNat + 2 * y) ∧ w11 = upd soj x.toInt.toNat (soj x.toInt.toNat + 2 * y)) ∨ (b = 0 ∧ r = 0 ∧ w1 = ch ∧ w10 = svj ∧ w11 = soj))) : (LvO ac st x ∧ r = 1 ∧ w1 = ch + 2 * y ∧ (∀ a : Nat, (a : Int) < ac.toInt → w10 a = upd sv x.toInt.toNat (sv x.toInt.toNat + 2 * y) a) ∧ (∀ a : Nat, a < 6 → w11 a = upd so x.toInt.toNat (so x.toInt.toNat + 2 * y) a) ∧ Bnd pa ac (k + 1) (ch + 2 * y) en ni lf ow (upd sv x.toInt.toNat (sv x.toInt.toNat + 2 * y))) ∨ (¬ LvO ac st x ∧ r = 0 ∧ w1 = ch ∧ w10 = svj ∧ w11 = soj) := by
  obtain ⟨b, hb, h⟩ := h
  have hb := jl_sp hac hL hb
  rcases h with ⟨eb, er, e1, e2, e3⟩ | ⟨eb, er, e1, e2, e3⟩
  · rw [eb] at hb
    rcases hb with ⟨hl, -⟩ | ⟨-, q⟩
    · have hlx := hl.1
      obtain ⟨bE, bN, bC, bS, bO, bL⟩ := hBd
      have sS := Sb_s k
      have sO := Ob_s k
      have rS := Sb_rng (k := k) (by omega)
      have hsx := bS x.toInt.toNat (by omega)
      have v : (2 * y).toInt = 2 * y.toInt := mi_cmul (by decide) (by omega) (by omega)
      have v0 : (ch + 2 * y).toInt = ch.toInt + 2 * y.toInt := by rw [mi_add (by omega) (by omega), v]
      have v1 : (sv x.toInt.toNat + 2 * y).toInt = (sv x.toInt.toNat).toInt + 2 * y.toInt := by rw [mi_add (by omega) (by omega), v]
      refine Or.inl ⟨hl, er, e1, ?_, ?_, ?_⟩
      · rw [e2]; exact up_c eS (by rw [eS x.toInt.toNat (by omega)])
      · rw [e3]; exact up_c eSo (by rw [eSo x.toInt.toNat (by omega)])
      · refine ⟨by omega, by omega, by rw [v0]; omega, up_b (fun i hi => by have := bS i hi; omega) (by rw [v1]; omega), fun i hi => by have := bO i hi; omega, fun i hi => by have := bL i hi; omega⟩
    · exact absurd q one_ne
  · rw [eb] at hb
    rcases hb with ⟨-, q⟩ | ⟨hn, -⟩
    · exact absurd q.symm one_ne
    · exact Or.inr ⟨hn, er, e1, e2, e3⟩
theorem step_sim {BX a ac pa X ni ra cap en ch li cp hs ec de c : Int32} {Bk D cl ha hu lf ow sv st gt so pr lfj owj svj stj gtj soj : Nat → Int32} {k : Nat} {v0 v1 v2 v3 v4 v5 v6 v7 : Int32} {v8 v9 v10 v11 v12 v13 : Nat → Int32} (hk : k ≤ 29) (hB : 0 ≤ BX.toInt ∧ BX.toInt ≤ 1) (hR : RB (fun j => Bk (121 * BX.toInt.toNat + j)) de pr) (hA : 0 ≤ a.toInt ∧ a.toInt < de.toInt) (hde : de.toInt ≤ 30) (hD : DdO (pr (4 * a.toInt.toNat)) (pr (4 * a.toInt.toNat + 1)) (pr (4 * a.toInt.toNat + 2)) (pr (4 * a.toInt.toNat + 3))) (hX : 0 ≤ X.toInt ∧ X.toInt ≤ 1) (hac : 0 ≤ ac.toInt ∧ ac.toInt ≤ 6) (hpa : 0 ≤ pa.toInt ∧ pa.toInt ≤ 5) (hC : ∀ i : Nat, (i : Int) < pa.toInt → D (36 * X.toInt.toNat + (6 + 2 * i)) = cl i) (hHa : ∀ i : Nat, (i : Int) < pa.toInt → D (36 * X.toInt.toNat + (7 + 2 * i)) = ha i) (hH : ∀ i : Nat, (i : Int) < ac.toInt → D (36 * X.toInt.toNat + (16 + 2 * i)) = hu i) (gC : ∀ i : Nat, (i : Int) < pa.toInt → 0 ≤ (cl i).toInt ∧ (cl i).toInt ≤ 99) (gHa : ∀ i : Nat, (i : Int) < pa.toInt → 1 ≤ (ha i).toInt ∧ (ha i).toInt ≤ 2) (gH : ∀ i : Nat, (i : Int) < ac.toInt → 0 ≤ (hu i).toInt ∧ (hu i).toInt ≤ 40) (gR : 0 ≤ ra.toInt ∧ ra.toInt ≤ 50) (hcap : cap.toInt = 0) (hE : EvL pa ac k ch en ni cp hs ec lf ow gt sv st so ch en ni li hs cp ec lfj owj gtj svj soj stj) (h1 : R_k_canBe a pr pa hs lf ac st ow sv ch c) (hj : R_j_doesNext BX a Bk ac pa X D lfj ni ra owj cap en ch li svj stj cp gtj soj hs ec v0 v1 v2 v3 v4 v5 v6 v7 v8 v9 v10 v11 v12 v13) : (c = 1 ∧ v0 = 1 ∧ ∀ (u0 u1 u2 u3 u4 u5 : Int32) (u6 u7 u8 u9 u10 u11 : Nat → Int32), R_k_act a pr ac cl lf ni ra ow hu en ch sv st cp gt so ha ec hs u0 u1 u2 u3 u4 u5 u6 u7 u8 u9 u10 u11 → EvL pa ac (k + 1) u0 u1 u2 u3 u4 u5 u6 u7 u8 u9 u10 u11 v1 v2 v3 v4 v5 v6 v7 v8 v9 v10 v11 v12 v13) ∨ (c = 0 ∧ v0 = 0 ∧ EvL pa ac k ch en ni cp hs ec lf ow gt sv st so v1 v2 v3 v4 v5 v6 v7 v8 v9 v10 v11 v12 v13) := by
  obtain ⟨-, ⟨eL, eO, eG, eS, eSo, eSt⟩, hL, hBd⟩ := hE
  obtain ⟨r, hd, hv⟩ := nx_sp hB hR hA hj
  have hc := can_sp ⟨hA.1, by omega⟩ hpa.2 h1
  have hA2 : 0 ≤ a.toInt ∧ a.toInt ≤ 29 := ⟨hA.1, by omega⟩
  clear hj h1
  rcases hD with ⟨k0, rx, ry, rz⟩ | ⟨k12, rx, ry, -, rz⟩ | ⟨k3, rx, ry, rz⟩ | ⟨k4, rx, ry⟩ | k56
  · obtain ⟨hn, d2, d3, d4, d5, d8, d11, d12⟩ := doe_0 hB hR hA k0 hd
    clear hd
    rw [CanD_0 k0] at hc
    rcases st_0 hk hX hac hpa hHa gHa rz eL eG eS hL hBd hn with ⟨hp, er, hall⟩ | ⟨hp, er, nch, ncp, nlf, ngt, nsv⟩
    · rcases hc with ⟨-, cc⟩ | ⟨q, -⟩
      · have hv := nxv1 er hv
        refine Or.inl ⟨cc, hv.1, fun u0 u1 u2 u3 u4 u5 u6 u7 u8 u9 u10 u11 hact => ?_⟩
        obtain ⟨hm, b1, b2, b4, b5, b7, b10, b11⟩ := act_0 hA2 k0 hact
        clear hact
        obtain ⟨a0, a3, a6, a8, a9, hbd⟩ := hall _ _ _ _ _ hm
        have ecc : v7 = u5 := by
          rcases hv.2 with ⟨-, e⟩ | ⟨q, -⟩
          · rw [e, b5]
          · exact absurd k0 q
        exact ⟨⟨a0, by rw [d2, b1], by rw [d3, b2], by rw [d5, b4], a3, ecc⟩, ⟨a6, by rw [d8, b7]; exact eO, a8, a9, by rw [d11, b11]; exact eSo, by rw [d12, b10]; exact eSt⟩, by rw [d4, b10]; exact hL, by rw [b1, b2, b7]; exact hbd⟩
      · exact absurd hp q
    · rcases hc with ⟨q, -⟩ | ⟨-, cc⟩
      · exact absurd q hp
      · have hv := nxv0 er hv
        exact Or.inr ⟨cc, hv.1, ⟨⟨nch, d2, d3, d5, ncp, hv.2⟩, ⟨by rw [nlf]; exact eL, by rw [d8]; exact eO, by rw [ngt]; exact eG, by rw [nsv]; exact eS, by rw [d11]; exact eSo, by rw [d12]; exact eSt⟩, by rw [d4]; exact hL, hBd⟩⟩
  · rcases k12 with k1 | k2
    · obtain ⟨hn, d1, d2, d3, d4, d5, d6, d9, d10, d11, d12⟩ := doe_1 hB hR hA k1 hd
      clear hd
      rw [CanD_1 k1] at hc
      rcases st_1 hk hpa rz eL eO hBd hn with ⟨hp, er, a6, a7, hbd⟩ | ⟨hp, er, nlf, now⟩
      · rcases hc with ⟨-, cc⟩ | ⟨q, -⟩
        · have hv := nxv1 er hv
          refine Or.inl ⟨cc, hv.1, fun u0 u1 u2 u3 u4 u5 u6 u7 u8 u9 u10 u11 hact => ?_⟩
          obtain ⟨⟨m6, m7⟩, b0, b1, b2, b3, b4, b5, b8, b9, b10, b11⟩ := act_1 hA2 k1 rx ry hact
          clear hact
          have ecc : v7 = u5 := by
            rcases hv.2 with ⟨q, -⟩ | ⟨-, e⟩
            · rw [k1] at q; exact absurd q (by decide)
            · rw [e, b5]
          exact ⟨⟨by rw [d1, b0], by rw [d2, b1], by rw [d3, b2], by rw [d5, b4], by rw [d6, b3], ecc⟩, ⟨by rw [m6]; exact a6, by rw [m7]; exact a7, by rw [d9, b8]; exact eG, by rw [d10, b9]; exact eS, by rw [d11, b11]; exact eSo, by rw [d12, b10]; exact eSt⟩, by rw [d4, b10]; exact hL, by rw [b0, b1, b2, b9, m6, m7]; exact hbd⟩
        · exact absurd hp q
      · rcases hc with ⟨q, -⟩ | ⟨-, cc⟩
        · exact absurd q hp
        · have hv := nxv0 er hv
          exact Or.inr ⟨cc, hv.1, ⟨⟨d1, d2, d3, d5, d6, hv.2⟩, ⟨by rw [nlf]; exact eL, by rw [now]; exact eO, by rw [d9]; exact eG, by rw [d10]; exact eS, by rw [d11]; exact eSo, by rw [d12]; exact eSt⟩, by rw [d4]; exact hL, hBd⟩⟩
    · obtain ⟨hn, d1, d2, d3, d4, d5, d6, d9, d10, d11, d12⟩ := doe_2 hB hR hA k2 hd
      clear hd
      rw [CanD_2 k2] at hc
      rcases st_2 hk hpa rz eL eO hBd hn with ⟨hp, er, a6, a7, hbd⟩ | ⟨hp, er, nlf, now⟩
      · rcases hc with ⟨-, cc⟩ | ⟨q, -⟩
        · have hv := nxv1 er hv
          refine Or.inl ⟨cc, hv.1, fun u0 u1 u2 u3 u4 u5 u6 u7 u8 u9 u10 u11 hact => ?_⟩
          obtain ⟨⟨m6, m7⟩, b0, b1, b2, b3, b4, b5, b8, b9, b10, b11⟩ := act_2 hA2 k2 rx ry hact
          clear hact
          have ecc : v7 = u5 := by
            rcases hv.2 with ⟨q, -⟩ | ⟨-, e⟩
            · rw [k2] at q; exact absurd q (by decide)
            · rw [e, b5]
          exact ⟨⟨by rw [d1, b0], by rw [d2, b1], by rw [d3, b2], by rw [d5, b4], by rw [d6, b3], ecc⟩, ⟨by rw [m6]; exact a6, by rw [m7]; exact a7, by rw [d9, b8]; exact eG, by rw [d10, b9]; exact eS, by rw [d11, b11]; exact eSo, by rw [d12, b10]; exact eSt⟩, by rw [d4, b10]; exact hL, by rw [b0, b1, b2, b9, m6, m7]; exact hbd⟩
        · exact absurd hp q
      · rcases hc with ⟨q, -⟩ | ⟨-, cc⟩
        · exact absurd q hp
        · have hv := nxv0 er hv
          exact Or.inr ⟨cc, hv.1, ⟨⟨d1, d2, d3, d5, d6, hv.2⟩, ⟨by rw [nlf]; exact eL, by rw [now]; exact eO, by rw [d9]; exact eG, by rw [d10]; exact eS, by rw [d11]; exact eSo, by rw [d12]; exact eSt⟩, by rw [d4]; exact hL, hBd⟩⟩
  · obtain ⟨hn, d2, d3, d4, d6, d7, d8, d9, d11, d12⟩ := doe_3 hB hR hA k3 hd
    clear hd
    rw [CanD_3 k3] at hc
    rcases st_3 hk hac hpa rz eS hL hBd hn with ⟨hp, er, a0, a4, a9, hbd⟩ | ⟨hp, er, nch, nhs, nsv⟩
    · rcases hc with ⟨-, cc⟩ | ⟨q, -⟩
      · have hv := nxv1 er hv
        refine Or.inl ⟨cc, hv.1, fun u0 u1 u2 u3 u4 u5 u6 u7 u8 u9 u10 u11 hact => ?_⟩
        obtain ⟨⟨m0, m9, m4⟩, b1, b2, b3, b5, b6, b7, b8, b10, b11⟩ := act_3 hA2 k3 hact
        clear hact
        have ecc : v7 = u5 := by
          rcases hv.2 with ⟨q, -⟩ | ⟨-, e⟩
          · rw [k3] at q; exact absurd q (by decide)
          · rw [e, b5]
        exact ⟨⟨by rw [a0, m0], by rw [d2, b1], by rw [d3, b2], by rw [a4, m4], by rw [d6, b3], ecc⟩, ⟨by rw [d7, b6]; exact eL, by rw [d8, b7]; exact eO, by rw [d9, b8]; exact eG, by rw [m9]; exact a9, by rw [d11, b11]; exact eSo, by rw [d12, b10]; exact eSt⟩, by rw [d4, b10]; exact hL, by rw [m0, b1, b2, b6, b7, m9]; exact hbd⟩
      · exact absurd hp q
    · rcases hc with ⟨q, -⟩ | ⟨-, cc⟩
      · exact absurd q hp
      · have hv := nxv0 er hv
        exact Or.inr ⟨cc, hv.1, ⟨⟨nch, d2, d3, nhs, d6, hv.2⟩, ⟨by rw [d7]; exact eL, by rw [d8]; exact eO, by rw [d9]; exact eG, by rw [nsv]; exact eS, by rw [d11]; exact eSo, by rw [d12]; exact eSt⟩, by rw [d4]; exact hL, hBd⟩⟩
  · obtain ⟨hn, d2, d3, d4, d5, d6, d7, d8, d9, d12⟩ := doe_4 hB hR hA k4 hd
    clear hd
    rw [CanD_4 k4] at hc
    rcases st_4 hk hac ry eS eSo hL hBd hn with ⟨hp, er, a0, a9, a11, hbd⟩ | ⟨hp, er, nch, nsv, nso⟩
    · rcases hc with ⟨-, cc⟩ | ⟨q, -⟩
      · have hv := nxv1 er hv
        refine Or.inl ⟨cc, hv.1, fun u0 u1 u2 u3 u4 u5 u6 u7 u8 u9 u10 u11 hact => ?_⟩
        obtain ⟨⟨m0, m9, m11⟩, b1, b2, b3, b4, b5, b6, b7, b8, b10⟩ := act_4 hA2 k4 hact
        clear hact
        have ecc : v7 = u5 := by
          rcases hv.2 with ⟨q, -⟩ | ⟨-, e⟩
          · rw [k4] at q; exact absurd q (by decide)
          · rw [e, b5]
        exact ⟨⟨by rw [a0, m0], by rw [d2, b1], by rw [d3, b2], by rw [d5, b4], by rw [d6, b3], ecc⟩, ⟨by rw [d7, b6]; exact eL, by rw [d8, b7]; exact eO, by rw [d9, b8]; exact eG, by rw [m9]; exact a9, by rw [m11]; exact a11, by rw [d12, b10]; exact eSt⟩, by rw [d4, b10]; exact hL, by rw [m0, b1, b2, b6, b7, m9]; exact hbd⟩
      · exact absurd hp q
    · rcases hc with ⟨q, -⟩ | ⟨-, cc⟩
      · exact absurd q hp
      · have hv := nxv0 er hv
        exact Or.inr ⟨cc, hv.1, ⟨⟨nch, d2, d3, d5, d6, hv.2⟩, ⟨by rw [d7]; exact eL, by rw [d8]; exact eO, by rw [d9]; exact eG, by rw [nsv]; exact eS, by rw [nso]; exact eSo, by rw [d12]; exact eSt⟩, by rw [d4]; exact hL, hBd⟩⟩
  · have hc : c = 1 := by
      rcases hc with ⟨-, e⟩ | ⟨q, -⟩
      · exact e
      · exact absurd (CanD_5 k56) q
    rcases k56 with k5 | k6
    · obtain ⟨⟨er, a1⟩, d1, d3, d4, d5, d6, d7, d8, d9, d10, d11, d12⟩ := doe_5 hB hR hA k5 hd
      clear hd
      have hv := nxv1 er hv
      refine Or.inl ⟨hc, hv.1, fun u0 u1 u2 u3 u4 u5 u6 u7 u8 u9 u10 u11 hact => ?_⟩
      obtain ⟨m1, b0, b2, b3, b4, b5, b6, b7, b8, b9, b10, b11⟩ := act_5 hA2 k5 hact
      clear hact
      have ecc : v7 = u5 := by
        rcases hv.2 with ⟨q, -⟩ | ⟨-, e⟩
        · rw [k5] at q; exact absurd q (by decide)
        · rw [e, b5]
      obtain ⟨bE, bN, bC, bS, bO, bL⟩ := Bnd_s hk hBd
      have bE0 := hBd.1
      have v : (en + 1).toInt = en.toInt + 1 := mi_addc (by decide) (by omega) (by omega)
      exact ⟨⟨by rw [d1, b0], by rw [a1, m1], by rw [d3, b2], by rw [d5, b4], by rw [d6, b3], ecc⟩, ⟨by rw [d7, b6]; exact eL, by rw [d8, b7]; exact eO, by rw [d9, b8]; exact eG, by rw [d10, b9]; exact eS, by rw [d11, b11]; exact eSo, by rw [d12, b10]; exact eSt⟩, by rw [d4, b10]; exact hL, by rw [b0, m1, b2, b6, b7, b9]; exact ⟨by rw [v]; omega, bN, bC, bS, bO, bL⟩⟩
    · obtain ⟨⟨hn, er, a4⟩, d2, d6, d9, d11⟩ := doe_6 hB hR hA k6 hd
      clear hd
      have hv := nxv1 er hv
      refine Or.inl ⟨hc, hv.1, fun u0 u1 u2 u3 u4 u5 u6 u7 u8 u9 u10 u11 hact => ?_⟩
      obtain ⟨⟨hm, m4⟩, b1, b3, b5, b8, b11⟩ := act_6 hA2 k6 hact
      clear hact
      have ecc : v7 = u5 := by
        rcases hv.2 with ⟨q, -⟩ | ⟨-, e⟩
        · rw [k6] at q; exact absurd q (by decide)
        · rw [e, b5]
      obtain ⟨a0, a2, -, a6, a7, a9, a10, hlv, hbd⟩ := night_sim hk hX hac hpa hC hH gC gH gR hcap eO eS eSt hL hBd hm hn
      exact ⟨⟨a0, by rw [d2, b1], a2, by rw [a4, m4], by rw [d6, b3], ecc⟩, ⟨a6, a7, by rw [d9, b8]; exact eG, a9, by rw [d11, b11]; exact eSo, a10⟩, hlv, by rw [b1]; exact hbd⟩
