/-! lexing: what a token is, and that both readers find it -/
def bl_ (c : Int) : Prop := c = 32 ∨ c = 10
def lt_ (c : Int) : Prop := 97 ≤ c ∧ c ≤ 122
def dg_ (c : Int) : Prop := 48 ≤ c ∧ c ≤ 57
def tq (t : Nat → Int32) (j : Int) : Int := (t j.toNat).toInt
theorem tq_at {t : Nat → Int32} {x z : Int32} (e : z = t (Int32.toNatClampNeg x)) : z.toInt = tq t x.toInt := by rw [e]; rfl
def run_ (P : Int → Prop) (t : Nat → Int32) (n a b : Int) : Prop := a ≤ b ∧ b ≤ n ∧ (∀ j : Int, a ≤ j → j < b → P (tq t j)) ∧ (b < n → ¬ P (tq t b))
theorem run_u {P : Int → Prop} {t : Nat → Int32} {n a b b' : Int} (h : run_ P t n a b) (h' : run_ P t n a b') : b = b' := by
  obtain ⟨h1, h2, h3, h4⟩ := h
  obtain ⟨k1, k2, k3, k4⟩ := h'
  rcases Int.lt_trichotomy b b' with q | q | q
  · exact absurd (k3 b h1 q) (h4 (by omega))
  · exact q
  · exact absurd (h3 b' k1 q) (k4 (by omega))
theorem run_lt {P : Int → Prop} {t : Nat → Int32} {n a b : Int} (h : run_ P t n a b) (hn : a < n) (hP : P (tq t a)) : a < b := by
  obtain ⟨h1, h2, h3, h4⟩ := h
  rcases Int.lt_or_le a b with q | q
  · exact q
  · have e : b = a := by omega
    subst e
    exact absurd hP (h4 hn)
/-- one step more -/
theorem ext_ {P : Int → Prop} {t : Nat → Int32} {a l : Int} (h : ∀ j : Int, a ≤ j → j < l → P (tq t j)) (hl : P (tq t l)) : ∀ j : Int, a ≤ j → j < l + 1 → P (tq t j) := by
  intro j h1 h2
  rcases Int.lt_or_le j l with q | q
  · exact h j h1 q
  · have e : j = l := by omega
    subst e; exact hl
def nv (t : Nat → Int32) (f : Int) : Nat → Int
  | 0 => 0
  | k + 1 => 10 * nv t f k + (tq t (f + k) - 48)
theorem nv_rng {t : Nat → Int32} {f : Int} : ∀ k : Nat, (∀ j : Int, f ≤ j → j < f + k → dg_ (tq t j)) → k ≤ 3 → 0 ≤ nv t f k ∧ nv t f k ≤ 999 ∧ (k ≤ 2 → nv t f k ≤ 99) ∧ (k ≤ 1 → nv t f k ≤ 9) ∧ (k = 0 → nv t f k = 0) := by
  intro k
  induction k with
  | zero => intro _ _; simp [nv]
  | succ k ih =>
    intro h hk
    have h2 := ih (fun j h1 h2 => h j h1 (by omega)) (by omega)
    have h3 := h (f + k) (by omega) (by omega)
    unfold dg_ at h3
    show 0 ≤ 10 * nv t f k + (tq t (f + k) - 48) ∧ 10 * nv t f k + (tq t (f + k) - 48) ≤ 999 ∧ (k + 1 ≤ 2 → 10 * nv t f k + (tq t (f + k) - 48) ≤ 99) ∧ (k + 1 ≤ 1 → 10 * nv t f k + (tq t (f + k) - 48) ≤ 9) ∧ (k + 1 = 0 → 10 * nv t f k + (tq t (f + k) - 48) = 0)
    omega
theorem nv_s {t : Nat → Int32} {f l : Int} (h : f ≤ l) : nv t f (l + 1 - f).toNat = 10 * nv t f (l - f).toNat + (tq t l - 48) := by
  have e : (l + 1 - f).toNat = (l - f).toNat + 1 := by omega
  rw [e]
  show 10 * nv t f (l - f).toNat + (tq t (f + ((l - f).toNat : Nat)) - 48) = _
  have e2 : f + (((l - f).toNat : Nat) : Int) = l := by omega
  rw [e2]
/-- the token behind place a: its kind (0 the end, 1 a word, 2 a number, 3 a semicolon, 4 a wrong one), from f to e, its value -/
def Tk (t : Nat → Int32) (n a k f e v : Int) : Prop := run_ bl_ t n a f ∧ ((f = n ∧ k = 0 ∧ e = f) ∨ (f < n ∧ lt_ (tq t f) ∧ k = 1 ∧ run_ lt_ t n f e) ∨ (f < n ∧ dg_ (tq t f) ∧ run_ dg_ t n f e ∧ ((e - f ≤ 3 ∧ k = 2 ∧ v = nv t f (e - f).toNat) ∨ (3 < e - f ∧ k = 4))) ∨ (f < n ∧ ¬ lt_ (tq t f) ∧ ¬ dg_ (tq t f) ∧ e = f + 1 ∧ ((tq t f = 59 ∧ k = 3) ∨ (tq t f ≠ 59 ∧ k = 4))))
theorem ld_no {c : Int} (h : lt_ c) : ¬ dg_ c := by unfold lt_ at h; unfold dg_; omega
theorem Tk_u {t : Nat → Int32} {n a k f e v k' f' e' v' : Int} (h : Tk t n a k f e v) (h' : Tk t n a k' f' e' v') : k = k' ∧ f = f' ∧ e = e' ∧ (k = 2 → v = v') := by
  obtain ⟨hb, h⟩ := h
  obtain ⟨hb', h'⟩ := h'
  have ef := run_u hb hb'
  subst ef
  rcases h with ⟨c1, c2, c3⟩ | ⟨c1, c2, c3, c4⟩ | ⟨c1, c2, c3, c4⟩ | ⟨c1, c2, c3, c4, c5⟩ <;> rcases h' with ⟨d1, d2, d3⟩ | ⟨d1, d2, d3, d4⟩ | ⟨d1, d2, d3, d4⟩ | ⟨d1, d2, d3, d4, d5⟩
  · exact ⟨by omega, rfl, by omega, fun q => by omega⟩
  · omega
  · omega
  · omega
  · omega
  · exact ⟨by omega, rfl, run_u c4 d4, fun q => by omega⟩
  · exact absurd d2 (ld_no c2)
  · exact absurd c2 d2
  · omega
  · exact absurd c2 (ld_no d2)
  · have ee := run_u c3 d3
    subst ee
    rcases c4 with ⟨q1, q2, q3⟩ | ⟨q1, q2⟩ <;> rcases d4 with ⟨r1, r2, r3⟩ | ⟨r1, r2⟩
    · exact ⟨by omega, rfl, rfl, fun _ => by rw [q3, r3]⟩
    · omega
    · omega
    · exact ⟨by omega, rfl, rfl, fun q => by omega⟩
  · exact absurd c2 d3
  · omega
  · exact absurd d2 c2
  · exact absurd d2 c3
  · refine ⟨?_, rfl, by omega, fun q => by omega⟩
    omega
theorem Tk_go {t : Nat → Int32} {n a k f e v : Int} (h : Tk t n a k f e v) : a ≤ f ∧ f ≤ e ∧ e ≤ n ∧ 0 ≤ k ∧ k ≤ 4 ∧ (k = 0 ∨ f < e) ∧ (k = 0 → f = n) := by
  obtain ⟨hb, h⟩ := h
  have h1 := hb.1
  have h2 := hb.2.1
  rcases h with ⟨c1, c2, c3⟩ | ⟨c1, c2, c3, c4⟩ | ⟨c1, c2, c3, c4⟩ | ⟨c1, c2, c3, c4, c5⟩
  · omega
  · have := run_lt c4 c1 c2
    have := c4.2.1
    omega
  · have := run_lt c3 c1 c2
    have := c3.2.1
    omega
  · omega
/-! the class's reader -/
theorem isL_sp {a u : Int32} (h : R_k_isLetter a u) : (u.toInt = 0 ∧ ¬ lt_ a.toInt) ∨ (u.toInt ≠ 0 ∧ lt_ a.toInt) := by
  unfold lt_
  rcases h with ⟨c, e⟩ | ⟨c, ⟨d, e⟩ | ⟨d, e⟩⟩
  · exact Or.inl ⟨by rw [e]; decide, by omega⟩
  · exact Or.inl ⟨by rw [e]; decide, by omega⟩
  · exact Or.inr ⟨by rw [e]; decide, by omega⟩
theorem isD_sp {a u : Int32} (h : R_k_isDigit a u) : (u.toInt = 0 ∧ ¬ dg_ a.toInt) ∨ (u.toInt ≠ 0 ∧ dg_ a.toInt) := by
  unfold dg_
  rcases h with ⟨c, e⟩ | ⟨c, ⟨d, e⟩ | ⟨d, e⟩⟩
  · exact Or.inl ⟨by rw [e]; decide, by omega⟩
  · exact Or.inl ⟨by rw [e]; decide, by omega⟩
  · exact Or.inr ⟨by rw [e]; decide, by omega⟩
theorem st98 {n f : Int32} {t : Nat → Int32} {u0 u1 u2 u3 : Int32} (hn : 0 ≤ n.toInt ∧ n.toInt ≤ 600) (hf : 0 ≤ f.toInt) : ∀ (N : Nat) (st : Int32 × Int32), fx (T_k_step_98 n f t u0 u1 u2 u3) N st → (f.toInt ≤ st.1.toInt ∧ st.1.toInt ≤ n.toInt ∧ (∀ j : Int, f.toInt ≤ j → j < st.1.toInt → dg_ (tq t j)) ∧ 0 ≤ st.2.toInt ∧ st.2.toInt ≤ 9999 ∧ (st.1.toInt - f.toInt ≤ 3 → st.2.toInt = nv t f.toInt (st.1.toInt - f.toInt).toNat)) → u1 = f ∧ run_ dg_ t n.toInt f.toInt u2.toInt ∧ ((u2.toInt - f.toInt ≤ 3 ∧ u0.toInt = 2 ∧ u3.toInt = nv t f.toInt (u2.toInt - f.toInt).toNat) ∨ (3 < u2.toInt - f.toInt ∧ u0.toInt = 4)) := by
  refine fx_ind ?_
  rintro K ⟨l, v⟩ ih h hi
  dsimp only at hi
  dsimp only [T_k_step_98] at h
  obtain ⟨i1, i2, i3, i4, i5, i6⟩ := hi
  have fin : (l.toInt < n.toInt → ¬ dg_ (tq t l.toInt)) → ∀ z : Int32, z = l - f → ((3 < z.toInt ∧ (u0 = 4 ∧ u1 = f ∧ u2 = l ∧ u3 = v)) ∨ (z.toInt ≤ 3 ∧ (u0 = 2 ∧ u1 = f ∧ u2 = l ∧ u3 = v))) → u1 = f ∧ run_ dg_ t n.toInt f.toInt u2.toInt ∧ ((u2.toInt - f.toInt ≤ 3 ∧ u0.toInt = 2 ∧ u3.toInt = nv t f.toInt (u2.toInt - f.toInt).toNat) ∨ (3 < u2.toInt - f.toInt ∧ u0.toInt = 4)) := by
    intro hd z ez hz
    have hz0 : z.toInt = l.toInt - f.toInt := by rw [ez]; exact mi_sub (by omega) (by omega)
    rcases hz with ⟨q, e0, e1, e2, e3⟩ | ⟨q, e0, e1, e2, e3⟩
    · refine ⟨e1, by rw [e2]; exact ⟨i1, i2, i3, hd⟩, Or.inr ⟨by rw [e2]; omega, by rw [e0]; decide⟩⟩
    · refine ⟨e1, by rw [e2]; exact ⟨i1, i2, i3, hd⟩, Or.inl ⟨by rw [e2]; omega, by rw [e0]; decide, by rw [e2, e3]; exact i6 (by omega)⟩⟩
  rcases h with ⟨c, z, ez, h⟩ | ⟨c, z, ez, r, hr, h⟩
  · exact fin (fun q => absurd q (by omega)) z ez h
  · have hz := tq_at ez
    rcases isD_sp hr with ⟨r0, hd⟩ | ⟨r0, hd⟩
    · rcases h with ⟨q, y, ey, h⟩ | ⟨q, h⟩
      · exact fin (fun _ => by rw [← hz]; exact hd) y ey h
      · exact absurd r0 q
    · rcases h with ⟨q, h⟩ | ⟨q, z4, e4, z5, e5, z6, e6, z7, e7, z8, e8, h⟩
      · exact absurd q r0
      · have hd2 := hd
        unfold dg_ at hd2
        have h4 : z4.toInt = v.toInt * 10 := by rw [e4]; exact mi_mulc (by decide) (by omega) (by omega)
        have h5 : z5.toInt = v.toInt * 10 + z.toInt := by rw [e5, mi_add (by omega) (by omega), h4]
        have h6 : z6.toInt = v.toInt * 10 + z.toInt - 48 := by rw [e6, mi_subc (C := 48) (by decide) (by omega) (by omega), h5]
        have h8 : z8.toInt = l.toInt + 1 := by rw [e8]; exact mi_addc (by decide) (by omega) (by omega)
        have h99 : (9999 : Int32).toInt = 9999 := by decide
        have h7 : (z6.toInt < 9999 ∧ z7 = z6) ∨ (9999 ≤ z6.toInt ∧ z7.toInt = 9999) := by
          by_cases hc : z6 < (9999 : Int32)
          · rw [if_pos hc] at e7
            have := mi_lt.mp hc
            exact Or.inl ⟨by omega, e7⟩
          · rw [if_neg hc] at e7
            have : ¬ z6.toInt < (9999 : Int32).toInt := fun q => hc (mi_lt.mpr q)
            exact Or.inr ⟨by omega, by rw [e7]; exact h99⟩
        refine ih (z8, z7) h ?_
        dsimp only
        rw [h8]
        refine ⟨by omega, by omega, ext_ i3 (by rw [← hz]; exact hd), ?_, ?_, ?_⟩
        · rcases h7 with ⟨p1, p2⟩ | ⟨p1, p2⟩
          · rw [p2]; omega
          · omega
        · rcases h7 with ⟨p1, p2⟩ | ⟨p1, p2⟩
          · rw [p2]; omega
          · omega
        · intro hk
          rw [nv_s i1]
          have h6' := i6 (by omega)
          have hr := nv_rng (t := t) (f := f.toInt) (l.toInt - f.toInt).toNat (fun j h1 h2 => i3 j h1 (by omega)) (by omega)
          rcases h7 with ⟨p1, p2⟩ | ⟨p1, p2⟩
          · rw [p2, h6, ← hz, ← h6']; omega
          · have := hr.2.2.1 (by omega)
            omega
theorem st64 {n f w : Int32} {t : Nat → Int32} {u0 u1 u2 u3 : Int32} (hn : 0 ≤ n.toInt ∧ n.toInt ≤ 600) (hf : 0 ≤ f.toInt) : ∀ (N : Nat) (l : Int32), fx (T_k_step_64 n f w t u0 u1 u2 u3) N l → (f.toInt ≤ l.toInt ∧ l.toInt ≤ n.toInt ∧ (∀ j : Int, f.toInt ≤ j → j < l.toInt → lt_ (tq t j))) → u1 = f ∧ run_ lt_ t n.toInt f.toInt u2.toInt ∧ u0.toInt = 1 := by
  refine fx_ind ?_
  rintro K l ih h ⟨i1, i2, i3⟩
  rcases h with ⟨c, e0, e1, e2, e3⟩ | ⟨c, z, ez, r, hr, h⟩
  · exact ⟨e1, by rw [e2]; exact ⟨i1, i2, i3, fun q => absurd q (by omega)⟩, by rw [e0]; decide⟩
  · have hz := tq_at ez
    rcases isL_sp hr with ⟨r0, hd⟩ | ⟨r0, hd⟩
    · rcases h with ⟨q, e0, e1, e2, e3⟩ | ⟨q, h⟩
      · exact ⟨e1, by rw [e2]; exact ⟨i1, i2, i3, fun _ => by rw [← hz]; exact hd⟩, by rw [e0]; decide⟩
      · exact absurd r0 q
    · rcases h with ⟨q, h⟩ | ⟨q, y, ey, h⟩
      · exact absurd q r0
      · have h8 : y.toInt = l.toInt + 1 := by rw [ey]; exact mi_addc (by decide) (by omega) (by omega)
        refine ih y h ?_
        rw [h8]
        exact ⟨by omega, by omega, ext_ i3 (by rw [← hz]; exact hd)⟩
/-- the class's step finds the token -/
theorem step_sp {n a w : Int32} {t : Nat → Int32} {u0 u1 u2 u3 : Int32} (hn : 0 ≤ n.toInt ∧ n.toInt ≤ 600) (ha : 0 ≤ a.toInt ∧ a.toInt ≤ n.toInt) (h : R_k_step n t w a u0 u1 u2 u3) : Tk t n.toInt a.toInt u0.toInt u1.toInt u2.toInt u3.toInt := by
  have key : ∀ (N : Nat) (l : Int32), fx (T_k_step_5 n t w u0 u1 u2 u3) N l → (a.toInt ≤ l.toInt ∧ l.toInt ≤ n.toInt ∧ (∀ j : Int, a.toInt ≤ j → j < l.toInt → bl_ (tq t j))) → Tk t n.toInt a.toInt u0.toInt u1.toInt u2.toInt u3.toInt := by
    refine fx_ind ?_
    rintro K l ih h ⟨i1, i2, i3⟩
    rcases h with ⟨c, h⟩ | ⟨c, z, ez, h⟩
    · rcases h with ⟨c2, h⟩ | ⟨c2, e0, e1, e2, e3⟩
      · omega
      · exact ⟨by rw [e1]; exact ⟨i1, i2, i3, fun q => absurd q (by omega)⟩, Or.inl ⟨by rw [e1]; omega, by rw [e0]; decide, by rw [e2, e1]⟩⟩
    · have hz := tq_at ez
      have goon : bl_ z.toInt → ∀ y : Int32, y = l + 1 → K y → Tk t n.toInt a.toInt u0.toInt u1.toInt u2.toInt u3.toInt := by
        intro hb y ey hk
        have h8 : y.toInt = l.toInt + 1 := by rw [ey]; exact mi_addc (by decide) (by omega) (by omega)
        refine ih y hk ?_
        rw [h8]
        exact ⟨by omega, by omega, ext_ i3 (by rw [← hz]; exact hb)⟩
      rcases h with ⟨q, y, ey, h⟩ | ⟨q, h⟩
      · exact goon (Or.inl q) y ey h
      · rcases h with ⟨q2, h⟩ | ⟨q2, y, ey, h⟩
        · have hb : run_ bl_ t n.toInt a.toInt l.toInt := ⟨i1, i2, i3, fun _ hb => by rw [← hz] at hb; exact hb.elim q q2⟩
          rcases h with ⟨c2, r, hr, h⟩ | ⟨c2, h⟩
          · rcases isL_sp hr with ⟨r0, hd⟩ | ⟨r0, hd⟩
            · rcases h with ⟨q3, r2, hr2, h⟩ | ⟨q3, h⟩
              · rcases isD_sp hr2 with ⟨r1, hd1⟩ | ⟨r1, hd1⟩
                · rcases h with ⟨q4, h⟩ | ⟨q4, h⟩
                  · rcases h with ⟨q5, y, ey, e0, e1, e2, e3⟩ | ⟨q5, y, ey, e0, e1, e2, e3⟩
                    · have h8 : y.toInt = l.toInt + 1 := by rw [ey]; exact mi_addc (by decide) (by omega) (by omega)
                      exact ⟨by rw [e1]; exact hb, Or.inr (Or.inr (Or.inr ⟨by rw [e1]; exact c, by rw [e1, ← hz]; exact hd, by rw [e1, ← hz]; exact hd1, by rw [e2, e1]; exact h8, Or.inr ⟨by rw [e1, ← hz]; exact q5, by rw [e0]; decide⟩⟩))⟩
                    · have h8 : y.toInt = l.toInt + 1 := by rw [ey]; exact mi_addc (by decide) (by omega) (by omega)
                      exact ⟨by rw [e1]; exact hb, Or.inr (Or.inr (Or.inr ⟨by rw [e1]; exact c, by rw [e1, ← hz]; exact hd, by rw [e1, ← hz]; exact hd1, by rw [e2, e1]; exact h8, Or.inl ⟨by rw [e1, ← hz]; exact q5, by rw [e0]; decide⟩⟩))⟩
                  · exact absurd r1 q4
                · rcases h with ⟨q4, h⟩ | ⟨q4, h⟩
                  · exact absurd q4 r1
                  · have hi : l.toInt ≤ l.toInt ∧ l.toInt ≤ n.toInt ∧ (∀ j : Int, l.toInt ≤ j → j < l.toInt → dg_ (tq t j)) ∧ 0 ≤ (0 : Int32).toInt ∧ (0 : Int32).toInt ≤ 9999 ∧ (l.toInt - l.toInt ≤ 3 → (0 : Int32).toInt = nv t l.toInt (l.toInt - l.toInt).toNat) := ⟨Int.le_refl _, i2, fun j h1 h2 => absurd h2 (by omega), by decide, by decide, fun _ => by rw [Int.sub_self]; rfl⟩
                    obtain ⟨e1, hr3, hv⟩ := st98 hn (by omega) _ _ h hi
                    exact ⟨by rw [e1]; exact hb, Or.inr (Or.inr (Or.inl ⟨by rw [e1]; exact c, by rw [e1, ← hz]; exact hd1, by rw [e1]; exact hr3, by rw [e1]; exact hv⟩))⟩
              · exact absurd r0 q3
            · rcases h with ⟨q3, h⟩ | ⟨q3, h⟩
              · exact absurd q3 r0
              · obtain ⟨e1, hr3, hv⟩ := st64 hn (by omega) _ _ h ⟨Int.le_refl _, i2, fun j h1 h2 => absurd h2 (by omega)⟩
                exact ⟨by rw [e1]; exact hb, Or.inr (Or.inl ⟨by rw [e1]; exact c, by rw [e1, ← hz]; exact hd, hv, by rw [e1]; exact hr3⟩)⟩
          · omega
        · exact goon (Or.inr q2) y ey h
  exact key _ _ h ⟨Int.le_refl _, ha.2, fun j h1 h2 => absurd h2 (by omega)⟩
