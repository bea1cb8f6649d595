/-! rounds: where what usurers ask stands, or goes round -/
def pck (a : Nat → Int32) : Nat → Int
  | 0 => 0
  | n + 1 => 32 * pck a n + (a n).toInt
def DgO (n : Nat) (a : Nat → Int32) : Prop := ∀ u : Nat, u < n → 0 ≤ (a u).toInt ∧ (a u).toInt ≤ 30
theorem pck_rng {a : Nat → Int32} : ∀ n : Nat, n ≤ 4 → DgO n a → 0 ≤ pck a n ∧ pck a n ≤ 1048575 ∧ (n ≤ 3 → pck a n ≤ 32767) ∧ (n ≤ 2 → pck a n ≤ 1023) ∧ (n ≤ 1 → pck a n ≤ 31) ∧ (n ≤ 0 → pck a n ≤ 0) := by
  intro n
  induction n with
  | zero => intro _ _; exact ⟨Int.le_refl _, by show (0 : Int) ≤ _; omega, fun _ => by show (0 : Int) ≤ _; omega, fun _ => by show (0 : Int) ≤ _; omega, fun _ => by show (0 : Int) ≤ _; omega, fun _ => Int.le_refl _⟩
  | succ n ih =>
    intro h4 hD
    obtain ⟨i1, i2, i3, i4, i5, i6⟩ := ih (by omega) (fun u hu => hD u (by omega))
    have d := hD n (by omega)
    have e : pck a (n + 1) = 32 * pck a n + (a n).toInt := rfl
    rw [e]
    refine ⟨by omega, ?_, fun h => ?_, fun h => ?_, fun h => ?_, fun h => ?_⟩
    · have := i3 (by omega); omega
    · have := i4 (by omega); omega
    · have := i5 (by omega); omega
    · have := i6 (by omega); omega
    · omega
theorem pck_c {a b : Nat → Int32} : ∀ n : Nat, (∀ u : Nat, u < n → a u = b u) → pck a n = pck b n := by
  intro n
  induction n with
  | zero => intro _; rfl
  | succ n ih =>
    intro h
    show 32 * pck a n + (a n).toInt = 32 * pck b n + (b n).toInt
    rw [ih (fun u hu => h u (by omega)), h n (by omega)]
theorem pck_inj {a b : Nat → Int32} : ∀ n : Nat, DgO n a → DgO n b → pck a n = pck b n → ∀ u : Nat, u < n → (a u).toInt = (b u).toInt := by
  intro n
  induction n with
  | zero => intro _ _ _ u hu; omega
  | succ n ih =>
    intro ha hb e u hu
    have e : 32 * pck a n + (a n).toInt = 32 * pck b n + (b n).toInt := e
    have d1 := ha n (by omega)
    have d2 := hb n (by omega)
    by_cases c : u = n
    · subst c; omega
    · exact ih (fun v hv => ha v (by omega)) (fun v hv => hb v (by omega)) (by omega) u (by omega)
theorem asks_sp {us r : Int32} {a : Nat → Int32} (hu : 0 ≤ us.toInt ∧ us.toInt ≤ 4) (hD : DgO us.toInt.toNat a) (h : R_k_allAsks us a r) : r.toInt = pck a us.toInt.toNat := by
  have key : ∀ (N : Nat) (l s : Int32), fx (T_k_allAsks_4 us a r) N (l, s) → (0 ≤ l.toInt ∧ l.toInt ≤ us.toInt) → s.toInt = pck a l.toInt.toNat → r.toInt = pck a us.toInt.toNat := by
    intro N
    induction N with
    | zero => intro l s h; exact h.elim
    | succ N ih =>
      intro l s h hl hs
      have hd := pck_rng (a := a) l.toInt.toNat (by omega) (fun u hu2 => hD u (by omega))
      have f0 : us.toInt ≤ l.toInt → us.toInt.toNat = l.toInt.toNat := fun _ => by clear h; omega
      have f1 : l.toInt < us.toInt → 0 ≤ s.toInt ∧ s.toInt ≤ 32767 := fun c => by
        have := hd.2.2.1 (by clear h; omega)
        clear h
        omega
      have f2 : l.toInt < us.toInt → 0 ≤ (a l.toInt.toNat).toInt ∧ (a l.toInt.toNat).toInt ≤ 30 := fun c => hD _ (by clear h; omega)
      have f3 : ∀ z : Int32, l.toInt < us.toInt → z = l + 1 → (0 ≤ z.toInt ∧ z.toInt ≤ us.toInt) ∧ z.toInt.toNat = l.toInt.toNat + 1 := fun z c ez => by
        have g : z.toInt = l.toInt + 1 := by rw [ez]; exact mi_addc (by decide) (by clear h; omega) (by clear h; omega)
        clear h
        omega
      replace h := fx_o h
      dsimp only [T_k_allAsks_4] at h
      rcases h with ⟨c, e⟩ | ⟨c, b0, e0, b1, e1, b2, e2, b3, e3, hk⟩
      · rw [e, hs, f0 c]
      · have g1 := f1 c
        have g2 := f2 c
        have g3 := f3 b3 c e3
        have v0 : b0.toInt = s.toInt * 32 := by rw [e0]; exact mi_mulc (by decide) (by omega) (by omega)
        have v1 : b1.toInt = (a l.toInt.toNat).toInt := by rw [e1, mi_cl]
        have v2 : b2.toInt = s.toInt * 32 + (a l.toInt.toNat).toInt := by rw [e2, mi_add (by omega) (by omega), v0, v1]
        refine ih b3 b2 hk g3.1 ?_
        rw [g3.2]
        show b2.toInt = 32 * pck a l.toInt.toNat + (a l.toInt.toNat).toInt
        omega
  exact key 6 _ _ h ⟨by decide, hu.1⟩ (by show (0 : Int32).toInt = 0; decide)
theorem nxt_rng {us : Nat} {bo : Int32} {fl a : Nat → Int32} {u : Nat} (hf : 0 ≤ (fl u).toInt ∧ (fl u).toInt ≤ 30) (ha : 0 ≤ (a u).toInt ∧ (a u).toInt ≤ 30) : 0 ≤ (nxt us bo fl a u).toInt ∧ (nxt us bo fl a u).toInt ≤ 30 := by
  have g1 : (a u + 1).toInt = (a u).toInt + 1 := mi_addc (by decide) (by omega) (by omega)
  have g2 : (a u - 1).toInt = (a u).toInt - 1 := mi_subc (by decide) (by omega) (by omega)
  have z : (30 : Int32).toInt = 30 := by decide
  unfold nxt
  split
  · split
    · rename_i c
      rw [mi_lt, g1, z] at c
      omega
    · rw [z]; omega
  · split
    · rename_i c
      rw [mi_lt, g2] at c
      omega
    · exact hf
theorem itr_rng {us : Nat} {bo : Int32} {fl a : Nat → Int32} (hf : DgO us fl) (ha : DgO us a) : ∀ k : Nat, DgO us (itr us bo fl a k) := by
  intro k
  induction k with
  | zero => exact ha
  | succ k ih => intro u hu; exact nxt_rng (hf u hu) (ih u hu)
def Alk (us : Nat) (bo : Int32) (fl ak : Nat → Int32) (n m : Nat) : Prop := ∀ u : Nat, u < us → (itr us bo fl ak n u).toInt = (itr us bo fl ak m u).toInt
theorem pck_c2 {us : Nat} {bo : Int32} {fl ak : Nat → Int32} {n m : Nat} (h : Alk us bo fl ak n m) : pck (itr us bo fl ak m) us = pck (itr us bo fl ak n) us := pck_c _ (fun u hu => (mi_eq (h u hu)).symm)
theorem alike_sp {X us bo n m r : Int32} {D A fl ak : Nat → Int32} (hX : 0 ≤ X.toInt ∧ X.toInt ≤ 1) (hu4 : 0 ≤ us.toInt ∧ us.toInt ≤ 4) (hus : D (36 * X.toInt.toNat + 4) = us) (hn : 0 ≤ n.toInt ∧ n.toInt ≤ 200) (hm : 0 ≤ m.toInt ∧ m.toInt ≤ 200) (hA : ∀ k u : Nat, k ≤ 200 → u < us.toInt.toNat → A (4 * k + u) = itr us.toInt.toNat bo fl ak k u) (h : R_j_areAlike X D n A m r) : (r = 1 ∧ Alk us.toInt.toNat bo fl ak n.toInt.toNat m.toInt.toNat) ∨ (r = 0 ∧ ¬ Alk us.toInt.toNat bo fl ak n.toInt.toNat m.toInt.toNat) := by
  have key : ∀ (N : Nat) (l : Int32), fx (T_j_areAlike_2 X D n A m r) N l → (0 ≤ l.toInt ∧ l.toInt ≤ us.toInt) → (∀ u : Nat, u < l.toInt.toNat → (itr us.toInt.toNat bo fl ak n.toInt.toNat u).toInt = (itr us.toInt.toNat bo fl ak m.toInt.toNat u).toInt) → (r = 1 ∧ Alk us.toInt.toNat bo fl ak n.toInt.toNat m.toInt.toNat) ∨ (r = 0 ∧ ¬ Alk us.toInt.toNat bo fl ak n.toInt.toNat m.toInt.toNat) := by
    intro N
    induction N with
    | zero => intro l h; exact h.elim
    | succ N ih =>
      intro l h hl hP
      have f3 : ∀ z : Int32, l.toInt < us.toInt → z = l + 1 → (0 ≤ z.toInt ∧ z.toInt ≤ us.toInt) ∧ z.toInt.toNat = l.toInt.toNat + 1 := fun z c ez => by
        have g : z.toInt = l.toInt + 1 := by rw [ez]; exact mi_addc (by decide) (by clear h; omega) (by clear h; omega)
        clear h
        omega
      have f4 : us.toInt ≤ l.toInt → us.toInt.toNat = l.toInt.toNat := fun _ => by clear h; omega
      have fi : ∀ {x b1 b2 : Int32}, 0 ≤ x.toInt ∧ x.toInt ≤ 200 → l.toInt < us.toInt → b1 = (4 : Int32) * x → b2 = b1 + l → A (Int32.toNatClampNeg b2) = itr us.toInt.toNat bo fl ak x.toInt.toNat l.toInt.toNat := fun {x b1 b2} hx c e1 e2 => by
        clear h
        have g1 : b1.toInt = 4 * x.toInt := by rw [e1]; exact mi_cmul (by decide) (by omega) (by omega)
        have g2 : b2.toInt = 4 * x.toInt + l.toInt := by rw [e2, mi_add (by omega) (by omega), g1]
        have i2 : Int32.toNatClampNeg b2 = 4 * x.toInt.toNat + l.toInt.toNat := by rw [mi_cl, g2]; omega
        rw [i2]
        exact hA _ _ (by omega) (by omega)
      have f5 : l.toInt < us.toInt → l.toInt.toNat < us.toInt.toNat := fun _ => by clear h; omega
      replace h := fx_o h
      dsimp only [T_j_areAlike_2] at h
      obtain ⟨b0, hb, h⟩ := h
      have hb := us_sp hX hus hb
      rw [hb] at h
      rcases h with ⟨c, e⟩ | ⟨c, b1, e1, b2, e2, b3, e3, b4, e4, b5, e5, b6, e6, h⟩
      · refine Or.inl ⟨e, fun u hu => ?_⟩
        rw [f4 c] at hu
        exact hP u hu
      · rw [fi hn c e1 e2] at e3
        rw [fi hm c e4 e5] at e6
        rcases h with ⟨q, b7, e7, hk⟩ | ⟨q, e⟩
        · have g7 := f3 b7 c e7
          refine ih b7 hk g7.1 (fun u hu => ?_)
          rw [g7.2] at hu
          by_cases cu : u = l.toInt.toNat
          · subst cu; rw [e3, e6] at q; exact q
          · exact hP u (by clear hk; omega)
        · refine Or.inr ⟨e, fun hA2 => q ?_⟩
          rw [e3, e6]
          exact hA2 _ (f5 c)
  have z0 : (0 : Int32).toInt.toNat = 0 := by decide
  exact key 6 _ h ⟨by decide, hu4.1⟩ (fun u hu => by rw [z0] at hu; omega)
/-- what the class says of a round and a period, and what the reference answers -/
def StG (b u0 u1 w0 : Int32) : Prop := (u0.toInt = -1 ∧ w0 = -1) ∨ (u0.toInt ≠ -1 ∧ ((b.toInt ≠ 0 ∧ w0 = u1) ∨ (b.toInt = 0 ∧ w0 = u0)))
theorem st_in {X us bo l b u0 u1 w0 w1 w2 w3 w4 n2 n3 n4 : Int32} {D A fl ak g1 g3 sn g2 u2 u3 u4 u5 w5 w6 gw : Nat → Int32} {Kc : (Int32 × (Nat → Int32) × (Nat → Int32) × (Nat → Int32)) → Prop} {Kr : Int32 → Prop} (hX : 0 ≤ X.toInt ∧ X.toInt ≤ 1) (hu4 : 0 ≤ us.toInt ∧ us.toInt ≤ 4) (hus : D (36 * X.toInt.toNat + 4) = us) (hl : 1 ≤ l.toInt ∧ l.toInt ≤ 200) (hA : ∀ k u : Nat, k ≤ 200 → u < us.toInt.toNat → A (4 * k + u) = itr us.toInt.toNat bo fl ak k u) (hq : ∀ p : Nat, p < l.toInt.toNat → ((sn p).toInt = (sn l.toInt.toNat).toInt ↔ Alk us.toInt.toNat bo fl ak l.toInt.toNat p)) (hK : ∀ z : Int32, z = l + 1 → Kc (z, g1, g3, sn) → Kr z → StG b u0 u1 w0) : ∀ (N M : Nat) (m : Int32), fx (T_k_findRepeat_42 l g1 g3 sn g2 Kc u0 u1 u2 u3 u4 u5) N m → fx (T_y_stands_49 l X D A b n2 n3 n4 gw Kr w0 w1 w2 w3 w4 w5 w6) M m → (-1 ≤ m.toInt ∧ m.toInt < l.toInt) → StG b u0 u1 w0 := by
  intro N
  induction N with
  | zero => intro M m h; exact h.elim
  | succ N ih =>
    intro M m h hj hm
    cases M with
    | zero => exact hj.elim
    | succ M =>
      have f1 : 0 ≤ m.toInt → m.toInt.toNat < l.toInt.toNat := fun _ => by clear h hj hK; omega
      have f2 : 0 ≤ m.toInt → 0 ≤ m.toInt ∧ m.toInt ≤ 200 := fun _ => by clear h hj hK; omega
      have f3 : ∀ z : Int32, 0 ≤ m.toInt → z = m + (-1) → -1 ≤ z.toInt ∧ z.toInt < l.toInt := fun z _ ez => by
        have g : z.toInt = m.toInt + -1 := by rw [ez]; exact mi_addc (by decide) (by clear h hj hK; omega) (by clear h hj hK; omega)
        clear h hj hK
        omega
      have f6 : 0 ≤ l.toInt ∧ l.toInt ≤ 200 := by clear h hj hK; omega
      have f7 : ∀ u : Int32, u = l → u.toInt ≠ -1 := fun u e => by rw [e]; clear h hj hK; omega
      replace h := fx_o h
      replace hj := fx_o hj
      dsimp only [T_k_findRepeat_42] at h
      dsimp only [T_y_stands_49] at hj
      rcases h with ⟨c, z, ez, hk⟩ | ⟨c, b1, e1, b2, e2, h⟩
      · rcases hj with ⟨-, z2, ez2, hk2⟩ | ⟨c2, -⟩
        · have ezz : z2 = z := by rw [ez2, ez]
          rw [ezz] at hk2
          exact hK z ez hk hk2
        · exact absurd c2 (Int.not_le.mpr c)
      · rcases hj with ⟨c2, -⟩ | ⟨-, q, ha, hj⟩
        · exact absurd c (Int.not_le.mpr c2)
        · have ha := alike_sp hX hu4 hus f6 (f2 c) hA ha
          rw [mi_cl] at e1 e2
          have hqq := hq m.toInt.toNat (f1 c)
          rcases h with ⟨d, z, ez, hk⟩ | ⟨d, z, ez, e0, e3, -⟩
          · rw [e1, e2] at d
            rcases ha with ⟨-, al⟩ | ⟨q0, -⟩
            · exact absurd (hqq.mpr al) d
            · rcases hj with ⟨-, z2, ez2, hk2⟩ | ⟨d2, -⟩
              · have ezz : z2 = z := by rw [ez2, ez]
                rw [ezz] at hk2
                exact ih M z hk hk2 (f3 z c ez)
              · rw [q0] at d2; exact absurd (by decide) d2
          · rw [e1, e2] at d
            rcases ha with ⟨q1, -⟩ | ⟨-, nal⟩
            · rcases hj with ⟨d2, -⟩ | ⟨-, hj⟩
              · rw [q1] at d2; exact absurd d2 (by decide)
              · refine Or.inr ⟨f7 u0 e0, ?_⟩
                rcases hj with ⟨bb, z2, ez2, w, -⟩ | ⟨bb, w, -⟩
                · exact Or.inl ⟨bb, by rw [w, ez2, e3, ez]⟩
                · exact Or.inr ⟨bb, by rw [w, e0]⟩
            · exact absurd (hqq.mp d) nal
theorem st_out {X us bo b u0 u1 w0 w1 w2 w3 w4 n2 n3 n4 rp : Int32} {D A fl fl0 ak u2 u3 u4 u5 w5 w6 gw : Nat → Int32} (hX : 0 ≤ X.toInt ∧ X.toInt ≤ 1) (hu4 : 0 ≤ us.toInt ∧ us.toInt ≤ 4) (hus : D (36 * X.toInt.toNat + 4) = us) (hf : ∀ u : Nat, u < us.toInt.toNat → fl u = fl0 u) (hDf : DgO us.toInt.toNat fl0) (hDa : DgO us.toInt.toNat ak) (hA : ∀ k u : Nat, k ≤ 200 → u < us.toInt.toNat → A (4 * k + u) = itr us.toInt.toNat bo fl0 ak k u) : ∀ (N M : Nat) (l : Int32) (aa gg sn : Nat → Int32), fx (T_k_findRepeat_17 rp fl bo us u0 u1 u2 u3 u4 u5) N (l, aa, gg, sn) → fx (T_y_stands_37 X n2 n3 n4 A gw D b w0 w1 w2 w3 w4 w5 w6) M l → (1 ≤ l.toInt ∧ l.toInt ≤ 201) → (∀ u : Nat, u < us.toInt.toNat → aa u = itr us.toInt.toNat bo fl0 ak (l.toInt.toNat - 1) u) → (∀ k : Nat, k < l.toInt.toNat → (sn k).toInt = pck (itr us.toInt.toNat bo fl0 ak k) us.toInt.toNat) → StG b u0 u1 w0 := by
  intro N
  induction N with
  | zero => intro M l aa gg sn h; exact h.elim
  | succ N ih =>
    intro M l aa gg sn h hj hl hI hS
    cases M with
    | zero => exact hj.elim
    | succ M =>
      have f1 : l.toInt ≤ 200 → 1 ≤ l.toInt ∧ l.toInt ≤ 200 := fun c => ⟨hl.1, c⟩
      have f2 : ∀ z : Int32, l.toInt ≤ 200 → z = l + 1 → (1 ≤ z.toInt ∧ z.toInt ≤ 201) ∧ z.toInt.toNat = l.toInt.toNat + 1 := fun z _ ez => by
        have g : z.toInt = l.toInt + 1 := by rw [ez]; exact mi_addc (by decide) (by clear h hj; omega) (by clear h hj; omega)
        clear h hj
        omega
      have f3 : ∀ z : Int32, z = l - 1 → -1 ≤ z.toInt ∧ z.toInt < l.toInt := fun z ez => by
        have g : z.toInt = l.toInt - 1 := by rw [ez]; exact mi_subc (by decide) (by clear h hj; omega) (by clear h hj; omega)
        clear h hj
        omega
      have f4 : l.toInt.toNat = (l.toInt.toNat - 1) + 1 := by clear h hj; omega
      have f5 : l.toInt.toNat + 1 - 1 = l.toInt.toNat := by clear h hj; omega
      have f6 : us.toInt.toNat ≤ 4 := by clear h hj; omega
      replace h := fx_o h
      replace hj := fx_o hj
      dsimp only [T_k_findRepeat_17] at h
      dsimp only [T_y_stands_37] at hj
      rcases h with ⟨c, e0, -⟩ | ⟨c, a2, g2, hg, pk, hp, sn2, esn, z, ez, h⟩
      · rcases hj with ⟨-, w, -⟩ | ⟨c2, -⟩
        · exact Or.inl ⟨by rw [e0]; decide, w⟩
        · exact absurd c2 (Int.not_le.mpr c)
      · rcases hj with ⟨c2, -⟩ | ⟨-, z2, ez2, hj⟩
        · exact absurd c (Int.not_le.mpr c2)
        · have ezz : z2 = z := by rw [ez2, ez]
          rw [ezz] at hj
          have hg := goRound_sp hu4 hg
          have hI2 : ∀ u : Nat, u < us.toInt.toNat → a2 u = itr us.toInt.toNat bo fl0 ak l.toInt.toNat u := fun u hu => by
            rw [(hg u hu).1, f4]
            exact nxt_c hI hf hu
          have hR := itr_rng (bo := bo) hDf hDa
          have hp := asks_sp hu4 (fun u hu => by rw [hI2 u hu]; exact hR _ u hu) hp
          rw [pck_c _ hI2] at hp
          rw [mi_cl] at esn
          have hS2 : ∀ k : Nat, k < l.toInt.toNat + 1 → (sn2 k).toInt = pck (itr us.toInt.toNat bo fl0 ak k) us.toInt.toNat := fun k hk => by
            rw [← esn]
            by_cases ck : k = l.toInt.toNat
            · subst ck; rw [pk_us]; exact hp
            · rw [pk_un ck]; exact hS k (by omega)
          refine st_in hX hu4 hus (f1 c) hA (fun p hpl => ?_) (fun z3 ez3 hk hk2 => ?_) _ _ _ h hj (f3 z ez)
          · rw [hS2 p (by omega), hS2 _ (by omega)]
            constructor
            · intro e u hu; exact (pck_inj _ (hR p) (hR _) e u hu).symm
            · intro e; exact pck_c2 e
          · have g3 := f2 z3 c ez3
            refine ih M z3 a2 g2 sn2 hk hk2 g3.1 (fun u hu => ?_) (fun k hk3 => ?_)
            · rw [g3.2, f5]; exact hI2 u hu
            · rw [g3.2] at hk3; exact hS2 k hk3
theorem stands_fin {mn D A0 W0 : Nat → Int32} {a b r r2 xt xp xa xr ru rb rp : Int32} {ra rf rg rs : Nat → Int32} {u1 u2 u3 : Int32} {u4 u5 u6 u7 : Nat → Int32} {w1 w2 w3 w4 : Int32} {w5 w6 : Nat → Int32} {pa ac us rt ch bo : Int32} {cl ha hu sa ak fl : Nat → Int32} {P1 P2 : Prop} (hX : 0 ≤ a.toInt ∧ a.toInt ≤ 1) (ha2 : a.toInt < (mn 0).toInt) (hR : RT (fun j => D (36 * a.toInt.toNat + j)) pa ac us rt ch bo cl ha hu sa ak fl) (hG : GdT pa ac us rt ch bo cl ha hu sa ak fl) (hx : ((us.toInt = 0) ∧ (r = ((-1) : Int32) ∧ P1)) ∨ ((us.toInt ≠ 0) ∧ (((b.toInt < 0) ∧ (r = ((-1) : Int32) ∧ P2)) ∨ (R_x_stands_s0 b ak ra fl rf rg us rs rp bo ru rb r u1 u2 u3 u4 u5 u6 u7)))) (hy : R_y_stands b mn a D xt xp xa xr A0 W0 r2 w1 w2 w3 w4 w5 w6) : r = r2 := by
  obtain ⟨-, -, -, -, d4, d5, -, -, TC, -, -, rC⟩ := hR
  have d4 : D (36 * a.toInt.toNat + 4) = us := d4
  have d5 : D (36 * a.toInt.toNat + 5) = bo := d5
  obtain ⟨-, -, -, GU, -, -, -⟩ := hG
  have GU2 : ∀ u : Nat, u < us.toInt.toNat → (0 ≤ (fl u).toInt ∧ (fl u).toInt ≤ (ak u).toInt) ∧ (ak u).toInt ≤ 30 := fun u hu => GU u (by clear hx hy; omega)
  have TC2 : ∀ u : Nat, u < us.toInt.toNat → D (36 * a.toInt.toNat + (28 + 2 * u)) = ak u ∧ D (36 * a.toInt.toNat + (29 + 2 * u)) = fl u := fun u hu => TC u (by clear hx hy; omega)
  have hDf : DgO us.toInt.toNat fl := fun u hu => by have q := GU2 u hu; clear hx hy; omega
  have hDa : DgO us.toInt.toNat ak := fun u hu => by have q := GU2 u hu; clear hx hy; omega
  have u4' : ∀ u : Nat, u < us.toInt.toNat → u < 4 := fun u hu => by clear hx hy; omega
  obtain ⟨q, hq, hy⟩ := hy
  have hq := in_sp hq
  rcases hy with ⟨q1, r5, m1, m2, m3, m4, hh, hy⟩ | ⟨q0, e, -⟩
  · have hh := hand_sp hh
    have hb : 0 ≤ b.toInt ∧ b.toInt ≤ 1 := by
      rcases hq with ⟨-, g⟩ | ⟨g, -⟩
      · exact g
      · rw [q1] at g; exact absurd g (by decide)
    rcases hh with ⟨r1, -, e1, -⟩ | ⟨-, p⟩
    · rcases hy with ⟨c, -⟩ | ⟨-, v, hv, hy⟩
      · rw [r1] at c; exact absurd c (by decide)
      · rw [e1] at hv hy
        have hv := us_sp hX d4 hv
        rw [hv] at hy
        rcases hy with ⟨c, g2, g3, hfa, hl⟩ | ⟨c, e, -⟩
        · rcases hx with ⟨c0, -⟩ | ⟨-, hx⟩
          · exact absurd c0 c
          · rcases hx with ⟨b0, -⟩ | hx
            · exact absurd hb.1 (Int.not_le.mpr b0)
            · obtain ⟨-, hx⟩ := hx
              rcases hx with ⟨-, v0, v1, v2, v3, v4, v5, hf, hx⟩ | ⟨d1, -⟩
              · obtain ⟨ga, gf, gg, hbg, pk, hpk, sn, esn, hf⟩ := hf
                obtain ⟨p1, f1, p2, f2, p3, f3, y1, y2, y3⟩ := hbg
                have k0 : Int32.toNatClampNeg (0 : Int32) = 0 := by decide
                have k4 : Int32.toNatClampNeg (4 : Int32) = 4 := by decide
                rw [k0, k4] at f1 f2
                have ea : ∀ u : Nat, u < us.toInt.toNat → ga u = ak u := fun u hu => by rw [y1, ← f1]; exact cpy_q (u4' u hu)
                have ef : ∀ u : Nat, u < us.toInt.toNat → gf u = fl u := fun u hu => by rw [y2, ← f2]; exact cpy_q (u4' u hu)
                have hfa := fa_all (ak := ak) (fl := fl) hX rC d4 d5 (fun u hu => (TC2 u hu).1) (fun u hu => (TC2 u hu).2) hfa
                have hpk := asks_sp rC (fun u hu => by rw [ea u hu]; exact hDa u hu) hpk
                have l1 : (1 : Int32).toInt.toNat - 1 = 0 := by decide
                have l2 : (1 : Int32).toInt.toNat = 1 := by decide
                have hst := st_out hX rC d4 ef hDf hDa hfa.1 _ _ _ _ _ _ hf hl ⟨by decide, by decide⟩ (fun u hu => by rw [l1]; exact ea u hu) (fun k hk => by
                  rw [l2] at hk
                  have k00 : k = 0 := by clear hx hf hl; omega
                  rw [k00, ← esn, k0, pk_us, hpk]
                  exact pck_c _ (fun u hu => ea u hu))
                clear hf hl hfa
                rcases hst with ⟨s0, s1⟩ | ⟨s0, s1⟩
                · rcases hx with ⟨cc, -⟩ | ⟨-, e, -⟩
                  · exact absurd s0 cc
                  · rw [e, s1]
                · rcases hx with ⟨-, hx⟩ | ⟨cc, -⟩
                  · rcases hx with ⟨bb, e, -⟩ | ⟨bb, e, -⟩
                    · rcases s1 with ⟨-, w⟩ | ⟨b0, -⟩
                      · rw [e, w]
                      · exact absurd b0 bb
                    · rcases s1 with ⟨b0, -⟩ | ⟨-, w⟩
                      · exact absurd bb b0
                      · rw [e, w]
                  · exact absurd cc s0
              · exact absurd hb.2 (Int.not_le.mpr d1)
        · rcases hx with ⟨-, ex, -⟩ | ⟨c0, -⟩
          · rw [ex, e]
          · exact absurd c c0
    · rcases p with p | p
      · exact absurd hX.1 (Int.not_le.mpr p)
      · exact absurd ha2 (Int.not_lt.mpr p)
  · have hb : b.toInt < 0 ∨ 1 < b.toInt := by
      rcases hq with ⟨g, -⟩ | ⟨-, g⟩
      · rw [q0] at g; exact absurd g (by decide)
      · exact g
    rcases hx with ⟨-, ex, -⟩ | ⟨-, hx⟩
    · rw [ex, e]
    · rcases hx with ⟨-, ex, -⟩ | hx
      · rw [ex, e]
      · obtain ⟨d0, hx⟩ := hx
        rcases hx with ⟨d1, -⟩ | ⟨-, ex, -⟩
        · rcases hb with hb | hb
          · exact absurd d0 (Int.not_le.mpr hb)
          · exact absurd d1 (Int.not_le.mpr hb)
        · rw [ex, e]
theorem stands_no {mn D A0 W0 : Nat → Int32} {a b r2 xt xp xa xr : Int32} {w1 w2 w3 w4 : Int32} {w5 w6 : Nat → Int32} (hn : a.toInt < 0 ∨ (mn 0).toInt ≤ a.toInt) (hy : R_y_stands b mn a D xt xp xa xr A0 W0 r2 w1 w2 w3 w4 w5 w6) : r2 = -1 := by
  obtain ⟨q, hq, hy⟩ := hy
  rcases hy with ⟨q1, r5, m1, m2, m3, m4, hh, hy⟩ | ⟨q0, e, -⟩
  · have hh := hand_sp hh
    rcases hh with ⟨-, p, -⟩ | ⟨r0, -⟩
    · clear hy hq
      exact absurd hn (by omega)
    · rcases hy with ⟨-, e, -⟩ | ⟨c, -⟩
      · exact e
      · rw [r0] at c; exact absurd (by decide) c
  · exact e
theorem stands_sim {TN : Nat → Int32} {TF M : Nat → Nat → Int32} {x0 x1 r r2 : Int32} (h : TLg 0 TN TF M) (hr3 : 0 ≤ (TN 3).toInt ∧ (TN 3).toInt ≤ 2) (hx : S_x_stands TN TF x0 x1 r) (hy : S_y_stands M x0 x1 r2) : r = r2 := by
  obtain ⟨_, _, _, _, _, _, _, _, _, _, _, _, _, _, hx⟩ := hx
  obtain ⟨_, _, _, _, _, _, _, _, _, _, _, _, hy⟩ := hy
  have h3 : M 4 0 = TN 3 := h.1.2.2.2.1
  rcases hx with ⟨c, e, -⟩ | ⟨c, hx⟩ | ⟨c, hx⟩
  · have c := ata_0 c
    rw [e, stands_no (by rw [h3]; exact c) hy]
  · have c := ata_1 c
    have ca : x0.toInt = 1 := by clear hx hy; omega
    exact stands_fin (by clear hx hy; omega) (by rw [h3]; exact c.2) (RT_at1 h.1 ca) h.2.1.2 hx hy
  · have c := ata_2 c
    have ca : x0.toInt = 0 := by clear hx hy; omega
    exact stands_fin (by clear hx hy; omega) (by rw [h3]; exact c.2) (RT_at0 h.1 ca) h.2.1.1 hx hy
