/-! whole texts in step -/
section LEND
variable {n pa ac us ra ch bo de mi : Int32} {t cl ha hu sa ak fl pr hv : Nat → Int32}
variable {u0 : Int32} {u1 : Int32} {u2 : Int32} {u3 : Int32} {u4 : Int32} {u5 : Int32} {u6 : Int32} {u7 : Int32} {u8 : Int32} {u9 : Int32} {u10 : Int32} {u11 : Int32} {u12 : Int32} {u13 : Nat → Int32} {u14 : Nat → Int32} {u15 : Nat → Int32} {u16 : Nat → Int32} {u17 : Nat → Int32} {u18 : Nat → Int32} {u19 : Int32} {u20 : Nat → Int32} {u21 : Int32} {u22 : Nat → Int32} {u23 : Nat → Int32}
theorem c_end2 {k i fa pl tk fr to va rc bg so vr : Int32} {wo : Int64} {nm : Nat → Int32} {N : Nat} {m : Int} (hn : 0 ≤ n.toInt ∧ n.toInt ≤ 600) (hm : (nu_.getD (Int32.toNatClampNeg k) 0).toInt = m) (hi : m ≤ i.toInt) (h : fx (T_k_readLine_56 k n t pa cl ha ac us ra ch bo hu sa ak fl de pr mi hv u0 u1 u2 u3 u4 u5 u6 u7 u8 u9 u10 u11 u12 u13 u14 u15 u16 u17 u18 u19 u20 u21 u22 u23) (N + 1) (i, fa, pl, tk, fr, to, va, nm)) (h0 : 0 ≤ to.toInt) (h1 : to.toInt ≤ n.toInt) (hC : CT t n.toInt to.toInt rc bg so vr wo) : (so.toInt ≠ 4 ∧ u0 = 0 ∧ u1 = 1 ∧ u2 = bg) ∨ (so.toInt = 4 ∧ u0 = 1 ∧ u1 = fa ∧ u2 = pl ∧ u5.toInt = rc.toInt ∧ to.toInt < rc.toInt ∧ rc.toInt ≤ n.toInt ∧ R_k_keepLine k nm pa cl ha ac us ra ch bo hu sa ak fl de pr mi hv u7 u8 u9 u10 u11 u12 u13 u14 u15 u16 u17 u18 u19 u20 u21 u22) := by
  obtain ⟨tk3, fr3, to3, va3, hs3, h3⟩ := c_end hm hi h
  revert h3
  have hT3 := step_sp hn ⟨h0, h1⟩ hs3
  obtain ⟨kk3, hT3', hsc3, -⟩ := hC
  obtain ⟨ek3, ef3, ee3, -⟩ := Tk_u hT3 hT3'
  have go3 := Tk_go hT3
  unfold Sc at hsc3
  have F1 : tk3.toInt ≠ 3 → so.toInt ≠ 4 := by omega
  have F2 : tk3.toInt = 3 → so.toInt = 4 := by omega
  have F3 : fr3 = bg := mi_eq ef3
  have F4 : tk3.toInt = 3 → to.toInt < rc.toInt := by omega
  have F5 : rc.toInt ≤ n.toInt := by omega
  intro h3
  rcases h3 with ⟨q3, g0, g1, g2⟩ | ⟨q3, g0, g1, g2, g5, hkl⟩
  · exact Or.inl ⟨F1 q3, g0, g1, by rw [g2, F3]⟩
  · exact Or.inr ⟨F2 q3, g0, g1, g2, by rw [g5]; exact ee3, F4 q3, F5, hkl⟩
end LEND
theorem st2 {n a w : Int32} {t : Nat → Int32} {tk fr to va rc bg so vr : Int32} {wo : Int64} (hn : 0 ≤ n.toInt ∧ n.toInt ≤ 600) (ha : 0 ≤ a.toInt ∧ a.toInt ≤ n.toInt) (hC : CT t n.toInt a.toInt rc bg so vr wo) (h : R_k_step n t w a tk fr to va) : Tk t n.toInt a.toInt tk.toInt fr.toInt to.toInt va.toInt ∧ (tk.toInt = 0 → so.toInt = 0) ∧ (tk.toInt ≠ 0 → so.toInt ≠ 0) ∧ a.toInt ≤ to.toInt ∧ to.toInt ≤ n.toInt ∧ (tk.toInt ≠ 0 → a.toInt < to.toInt) := by
  have hT := step_sp hn ha h
  obtain ⟨kk, hT', hsc, -⟩ := hC
  obtain ⟨ek, ef, ee, -⟩ := Tk_u hT hT'
  have go := Tk_go hT
  unfold Sc at hsc
  refine ⟨hT, ?_, ?_, ?_, ?_, ?_⟩ <;> omega
section LOOP
variable {n : Int32} {t s : Nat → Int32}
variable {u0 : Int32} {u1 : Int32} {u2 : Int32} {u3 : Int32} {u4 : Int32} {u5 : Int32} {u6 : Int32} {u7 : Int32} {u8 : Int32} {u9 : Int32} {u10 : Int32} {u11 : Int32} {u12 : Nat → Int32} {u13 : Nat → Int32} {u14 : Nat → Int32} {u15 : Nat → Int32} {u16 : Nat → Int32} {u17 : Nat → Int32} {u18 : Int32} {u19 : Nat → Int32} {u20 : Int32} {u21 : Nat → Int32} {u22 : Nat → Int32}
variable {v0 : Int32} {v1 : Int32} {v2 : Int32} {v3 : Int32} {v4 : Int32} {v5 : Int64} {v6 : Int32} {v7 : Int32} {v8 : Int32} {v9 : Nat → Int32} {v10 : Nat → Int32}
theorem fin_0 {fi rc bg so vr wa lf lp : Int32} {wo : Int64} {td rd : Nat → Int32} {N : Nat} (h : fx (T_j_lines_2 0 n s v0 v1 v2 v3 v4 v5 v6 v7 v8 v9 v10) N (fi, rc, bg, so, vr, wa, lf, lp, wo, td, rd)) (hf : fi.toInt = 0) : v0.toInt = 0 ∧ v6 = wa := by
  cases N with
  | zero => exact h.elim
  | succ N =>
    have h := fx_o h
    dsimp only [T_j_lines_2] at h
    rcases h with ⟨-, e0, e1, e2, e3, e4, e5, e6, -⟩ | ⟨q, -⟩
    · exact ⟨by rw [e0]; exact hf, e6⟩
    · exact absurd hf q
theorem lin_0 {fi rc bg so vr wa lf lp : Int32} {wo : Int64} {td rd : Nat → Int32} {N' : Nat} (h : fx (T_j_lines_2 0 n s v0 v1 v2 v3 v4 v5 v6 v7 v8 v9 v10) (N' + 1) (fi, rc, bg, so, vr, wa, lf, lp, wo, td, rd)) (hf : fi.toInt ≠ 0) : (so.toInt = 0 ∧ v0 = fi ∧ v7 = lf ∧ v8 = lp ∧ v9 = td) ∨ (so.toInt ≠ 0 ∧ ∃ (w : Int64) (r rc' bg' so' vr' : Int32) (wo' : Int64) (wa' lf' lp' : Int32) (td' rd' : Nat → Int32), ((so.toInt = 2 ∧ w = wo) ∨ (so.toInt ≠ 2 ∧ w = 0)) ∧ R_j_theatreLine w td lf lp bg n s vr rc rd wa bg so wo r rc' bg' so' vr' wo' wa' lf' lp' td' rd' ∧ ((r.toInt = 0 ∧ fx (T_j_lines_2 0 n s v0 v1 v2 v3 v4 v5 v6 v7 v8 v9 v10) N' (r, rc', bg', so', vr', wa', lf', lp', wo', td', rd')) ∨ (r.toInt ≠ 0 ∧ ((so'.toInt = 4 ∧ ∃ (b11 b12 b13 b14 : Int32) (b15 : Int64), R_j_token n s vr' rc' b11 b12 b13 b14 b15 ∧ fx (T_j_lines_2 0 n s v0 v1 v2 v3 v4 v5 v6 v7 v8 v9 v10) N' (r, b11, b12, b13, b14, wa', lf', lp', b15, td', rd')) ∨ (so'.toInt ≠ 4 ∧ fx (T_j_lines_2 0 n s v0 v1 v2 v3 v4 v5 v6 v7 v8 v9 v10) N' (0, rc', bg', so', vr', bg', lf', lp', wo', td', rd')))))) := by
  have h := fx_o h
  dsimp only [T_j_lines_2] at h
  rcases h with ⟨q, -⟩ | ⟨q, h⟩
  · exact absurd q hf
  · rcases h with ⟨q0, e0, e1, e2, e3, e4, e5, e6, e7, e8, e9, e10⟩ | ⟨q0, h⟩
    · exact Or.inl ⟨q0, e0, e7, e8, e9⟩
    · refine Or.inr ⟨q0, ?_⟩
      rcases h with ⟨q2, h⟩ | ⟨q2, h⟩
      · rcases h with ⟨qa, h⟩ | ⟨qa, r, rc', bg', so', vr', wo', wa', lf', lp', td', rd', hx, h⟩
        · exact absurd (by decide) qa
        · refine ⟨0, r, rc', bg', so', vr', wo', wa', lf', lp', td', rd', Or.inr ⟨q2, rfl⟩, hx, ?_⟩
          rcases h with ⟨k0, h⟩ | ⟨k0, ⟨k1, h⟩ | ⟨k1, -, h⟩⟩
          · exact Or.inl ⟨k0, h⟩
          · exact Or.inr ⟨k0, Or.inl ⟨k1, h⟩⟩
          · exact Or.inr ⟨k0, Or.inr ⟨k1, h⟩⟩
      · rcases h with ⟨qa, h⟩ | ⟨qa, r, rc', bg', so', vr', wo', wa', lf', lp', td', rd', hx, h⟩
        · exact absurd (by decide) qa
        · refine ⟨wo, r, rc', bg', so', vr', wo', wa', lf', lp', td', rd', Or.inl ⟨q2, rfl⟩, hx, ?_⟩
          rcases h with ⟨k0, h⟩ | ⟨k0, ⟨k1, h⟩ | ⟨k1, -, h⟩⟩
          · exact Or.inl ⟨k0, h⟩
          · exact Or.inr ⟨k0, Or.inl ⟨k1, h⟩⟩
          · exact Or.inr ⟨k0, Or.inr ⟨k1, h⟩⟩
theorem read_0 (hn : 0 ≤ n.toInt ∧ n.toInt ≤ 600) (hby : By s) (hag : Ag_ t s n.toInt) : ∀ (N N' : Nat) (ln fa pl tk fr to va de mi pa ac us ra ch bo : Int32) (cl ha hu sa ak fl pr hv nm : Nat → Int32) (fi rc bg so vr wa lf lp : Int32) (wo : Int64) (td rd : Nat → Int32), fi = 1 → 0 ≤ ln.toInt → ln.toInt ≤ to.toInt → to.toInt ≤ n.toInt → CT t n.toInt to.toInt rc bg so vr wo → FR fa pl lf lp to.toInt → RT td pa ac us ra ch bo cl ha hu sa ak fl → fx (T_k_read_41 n t 0 u0 u1 u2 u3 u4 u5 u6 u7 u8 u9 u10 u11 u12 u13 u14 u15 u16 u17 u18 u19 u20 u21 u22) N (ln, fa, pl, tk, fr, to, va, de, mi, pa, ac, us, ra, ch, bo, cl, ha, hu, sa, ak, fl, pr, hv, nm) → fx (T_j_lines_2 0 n s v0 v1 v2 v3 v4 v5 v6 v7 v8 v9 v10) N' (fi, rc, bg, so, vr, wa, lf, lp, wo, td, rd) → ((v0.toInt = 0 ∧ u0 = 1 ∧ u1 = v6) ∨ (v0.toInt ≠ 0 ∧ FR u0 u1 v7 v8 601 ∧ RT v9 u6 u7 u8 u9 u10 u11 u12 u13 u14 u15 u16 u17)) := by
  intro N
  induction N with
  | zero => intro N' ln fa pl tk fr to va de mi pa ac us ra ch bo cl ha hu sa ak fl pr hv nm fi rc bg so vr wa lf lp wo td rd _ _ _ _ _ _ _ h; exact h.elim
  | succ N ih =>
    intro N' ln fa pl tk fr to va de mi pa ac us ra ch bo cl ha hu sa ak fl pr hv nm fi rc bg so vr wa lf lp wo td rd hfi hl0 hl1 hto hC hF hD h hr
    cases N' with
    | zero => exact hr.elim
    | succ N' =>
      have hr := lin_0 hr (by rw [hfi]; decide)
      revert hr
      have h := fx_o h
      dsimp only [T_k_read_41] at h
      have ht0 : 0 ≤ to.toInt := Int.le_trans hl0 hl1
      have hno : ¬ 600 < ln.toInt := by clear h; omega
      have hF6 : FR fa pl lf lp 601 := FR_mono hF (by clear h; omega)
      rcases h with ⟨c, -⟩ | ⟨c, tk', fr', to', va', hs, h⟩
      · exact absurd c hno
      · obtain ⟨hT, s1, s2, s3, s4, s5⟩ := st2 hn ⟨ht0, hto⟩ hC hs
        have ht0' : 0 ≤ to'.toInt := Int.le_trans ht0 s3
        intro hr
        rcases h with ⟨c0, e0, e1, e2, e3, e4, e5, e6, e7, e8, e9, e10, e11, e12, e13, e14, e15, e16, e17, e18, e19, e20, e21, e22⟩ | ⟨c0, b0, b1, b2, b3, b4, b5, b6, b7, b8, b9, b10, b11, b12, b13, b14, b15, b16, b17, b18, b19, b20, b21, b22, b23, hx, h⟩
        · rcases hr with ⟨-, f0, f7, f8, f9⟩ | ⟨q, -⟩
          · refine Or.inr ⟨by rw [f0, hfi]; decide, by rw [e0, e1, f7, f8]; exact hF6, ?_⟩
            rw [f9, e6, e7, e8, e9, e10, e11, e12, e13, e14, e15, e16, e17]
            exact hD
          · exact absurd (s1 c0) q
        · rcases hr with ⟨q, -⟩ | ⟨-, w, r, rc', bg', so', vr', wo', wa', lf', lp', td', rd', hw, hy, hk⟩
          · exact absurd q (s2 c0)
          · rcases line_0 hn hby hag ht0 hT c0 hC hF hD hw hx hy with ⟨g0, g1, g2, g3⟩ | ⟨k, er, ewa, fa2, pl2, tk2, fr2, to2, va2, i2, nm2, M, m, hm, hi, hfx, p1, p2, hC2, hF2, hdat⟩
            · rcases h with ⟨z, -⟩ | ⟨-, e0, e1, -⟩
              · exact absurd (by rw [g0]; decide) z
              · rcases hk with ⟨z, hk⟩ | ⟨z, -⟩
                · obtain ⟨j0, j1⟩ := fin_0 hk z
                  exact Or.inl ⟨j0, by rw [e0, g1], by rw [e1, j1, g3]⟩
                · exact absurd (by rw [g2]; decide) z
            · rcases hk with ⟨z, -⟩ | ⟨-, hk⟩
              · rw [er] at z; exact absurd z (by decide)
              · have q0 : 0 ≤ to2.toInt := Int.le_trans ht0' p1
                have q1 : to.toInt < to2.toInt := Int.lt_of_lt_of_le (s5 c0) p1
                rcases c_end2 hn hm hi hfx q0 p2 hC2 with ⟨q3, g0, g1, g2⟩ | ⟨q3, g0, g1, g2, g5, g6, g7, hkl⟩
                · rcases h with ⟨z, -⟩ | ⟨-, e0, e1, -⟩
                  · exact absurd (by rw [g0]; decide) z
                  · rcases hk with ⟨z, -⟩ | ⟨z, hk⟩
                    · exact absurd z q3
                    · obtain ⟨j0, j1⟩ := fin_0 hk (by decide)
                      exact Or.inl ⟨j0, by rw [e0, g1], by rw [e1, j1, g2]⟩
                · rcases h with ⟨-, l', el, h⟩ | ⟨z, -⟩
                  · rcases hk with ⟨z, b11, b12, b13, b14, b15, htok, hk⟩ | ⟨z, -⟩
                    · have hdat2 := hdat hkl
                      clear hdat hkl hx hy hfx hm hi hw
                      have hl : l'.toInt = ln.toInt + 1 := by rw [el]; exact mi_addc (by decide) (by clear h hk; omega) (by clear h hk; omega)
                      have o1 : 0 ≤ l'.toInt := by clear h hk; omega
                      have o2 : l'.toInt ≤ b5.toInt := by clear h hk; omega
                      have o3 : b5.toInt ≤ n.toInt := by clear h hk; omega
                      have o4 : to2.toInt ≤ b5.toInt := by clear h hk; omega
                      have o5 : 0 ≤ rc'.toInt := by clear h hk; omega
                      refine ih N' _ _ _ _ _ _ _ _ _ _ _ _ _ _ _ _ _ _ _ _ _ _ _ _ _ _ _ _ _ _ _ _ _ _ _ er o1 o2 o3 ?_ ?_ hdat2 h hk
                      · rw [g5]; exact tok_ct hby hag hn ⟨o5, g7⟩ htok
                      · rw [g1, g2]; exact FR_mono hF2 o4
                    · exact absurd q3 z
                  · rw [g0] at z; exact absurd z (by decide)
theorem fin_1 {fi rc bg so vr wa lf lp : Int32} {wo : Int64} {td rd : Nat → Int32} {N : Nat} (h : fx (T_j_lines_2 1 n s v0 v1 v2 v3 v4 v5 v6 v7 v8 v9 v10) N (fi, rc, bg, so, vr, wa, lf, lp, wo, td, rd)) (hf : fi.toInt = 0) : v0.toInt = 0 ∧ v6 = wa := by
  cases N with
  | zero => exact h.elim
  | succ N =>
    have h := fx_o h
    dsimp only [T_j_lines_2] at h
    rcases h with ⟨-, e0, e1, e2, e3, e4, e5, e6, -⟩ | ⟨q, -⟩
    · exact ⟨by rw [e0]; exact hf, e6⟩
    · exact absurd hf q
theorem lin_1 {fi rc bg so vr wa lf lp : Int32} {wo : Int64} {td rd : Nat → Int32} {N' : Nat} (h : fx (T_j_lines_2 1 n s v0 v1 v2 v3 v4 v5 v6 v7 v8 v9 v10) (N' + 1) (fi, rc, bg, so, vr, wa, lf, lp, wo, td, rd)) (hf : fi.toInt ≠ 0) : (so.toInt = 0 ∧ v0 = fi ∧ v7 = lf ∧ v8 = lp ∧ v9 = td) ∨ (so.toInt ≠ 0 ∧ ∃ (w : Int64) (r rc' bg' so' vr' : Int32) (wo' : Int64) (wa' lf' lp' : Int32) (td' rd' : Nat → Int32), ((so.toInt = 2 ∧ w = wo) ∨ (so.toInt ≠ 2 ∧ w = 0)) ∧ R_j_bookLine w td lf lp bg n s vr rc rd wa bg so wo r rc' bg' so' vr' wo' wa' lf' lp' td' rd' ∧ ((r.toInt = 0 ∧ fx (T_j_lines_2 1 n s v0 v1 v2 v3 v4 v5 v6 v7 v8 v9 v10) N' (r, rc', bg', so', vr', wa', lf', lp', wo', td', rd')) ∨ (r.toInt ≠ 0 ∧ ((so'.toInt = 4 ∧ ∃ (b11 b12 b13 b14 : Int32) (b15 : Int64), R_j_token n s vr' rc' b11 b12 b13 b14 b15 ∧ fx (T_j_lines_2 1 n s v0 v1 v2 v3 v4 v5 v6 v7 v8 v9 v10) N' (r, b11, b12, b13, b14, wa', lf', lp', b15, td', rd')) ∨ (so'.toInt ≠ 4 ∧ fx (T_j_lines_2 1 n s v0 v1 v2 v3 v4 v5 v6 v7 v8 v9 v10) N' (0, rc', bg', so', vr', bg', lf', lp', wo', td', rd')))))) := by
  have h := fx_o h
  dsimp only [T_j_lines_2] at h
  rcases h with ⟨q, -⟩ | ⟨q, h⟩
  · exact absurd q hf
  · rcases h with ⟨q0, e0, e1, e2, e3, e4, e5, e6, e7, e8, e9, e10⟩ | ⟨q0, h⟩
    · exact Or.inl ⟨q0, e0, e7, e8, e9⟩
    · refine Or.inr ⟨q0, ?_⟩
      rcases h with ⟨q2, h⟩ | ⟨q2, h⟩
      · rcases h with ⟨qa, h⟩ | ⟨qa, r, rc', bg', so', vr', wo', wa', lf', lp', td', rd', hx, h⟩
        · rcases h with ⟨qb, r, rc', bg', so', vr', wo', wa', lf', lp', td', rd', hx, h⟩ | ⟨qb, r, rc', bg', so', vr', wo', wa', lf', lp', td', rd', hx, h⟩
          · exact absurd (by decide) qb
          · refine ⟨0, r, rc', bg', so', vr', wo', wa', lf', lp', td', rd', Or.inr ⟨q2, rfl⟩, hx, ?_⟩
            rcases h with ⟨k0, h⟩ | ⟨k0, ⟨k1, h⟩ | ⟨k1, -, h⟩⟩
            · exact Or.inl ⟨k0, h⟩
            · exact Or.inr ⟨k0, Or.inl ⟨k1, h⟩⟩
            · exact Or.inr ⟨k0, Or.inr ⟨k1, h⟩⟩
        · exact absurd qa (by decide)
      · rcases h with ⟨qa, h⟩ | ⟨qa, r, rc', bg', so', vr', wo', wa', lf', lp', td', rd', hx, h⟩
        · rcases h with ⟨qb, r, rc', bg', so', vr', wo', wa', lf', lp', td', rd', hx, h⟩ | ⟨qb, r, rc', bg', so', vr', wo', wa', lf', lp', td', rd', hx, h⟩
          · exact absurd (by decide) qb
          · refine ⟨wo, r, rc', bg', so', vr', wo', wa', lf', lp', td', rd', Or.inl ⟨q2, rfl⟩, hx, ?_⟩
            rcases h with ⟨k0, h⟩ | ⟨k0, ⟨k1, h⟩ | ⟨k1, -, h⟩⟩
            · exact Or.inl ⟨k0, h⟩
            · exact Or.inr ⟨k0, Or.inl ⟨k1, h⟩⟩
            · exact Or.inr ⟨k0, Or.inr ⟨k1, h⟩⟩
        · exact absurd qa (by decide)
theorem read_1 (hn : 0 ≤ n.toInt ∧ n.toInt ≤ 600) (hby : By s) (hag : Ag_ t s n.toInt) : ∀ (N N' : Nat) (ln fa pl tk fr to va de mi pa ac us ra ch bo : Int32) (cl ha hu sa ak fl pr hv nm : Nat → Int32) (fi rc bg so vr wa lf lp : Int32) (wo : Int64) (td rd : Nat → Int32), fi = 1 → 0 ≤ ln.toInt → ln.toInt ≤ to.toInt → to.toInt ≤ n.toInt → CT t n.toInt to.toInt rc bg so vr wo → FR fa pl lf lp to.toInt → RB td de pr → fx (T_k_read_41 n t 1 u0 u1 u2 u3 u4 u5 u6 u7 u8 u9 u10 u11 u12 u13 u14 u15 u16 u17 u18 u19 u20 u21 u22) N (ln, fa, pl, tk, fr, to, va, de, mi, pa, ac, us, ra, ch, bo, cl, ha, hu, sa, ak, fl, pr, hv, nm) → fx (T_j_lines_2 1 n s v0 v1 v2 v3 v4 v5 v6 v7 v8 v9 v10) N' (fi, rc, bg, so, vr, wa, lf, lp, wo, td, rd) → ((v0.toInt = 0 ∧ u0 = 1 ∧ u1 = v6) ∨ (v0.toInt ≠ 0 ∧ FR u0 u1 v7 v8 601 ∧ RB v9 u18 u19)) := by
  intro N
  induction N with
  | zero => intro N' ln fa pl tk fr to va de mi pa ac us ra ch bo cl ha hu sa ak fl pr hv nm fi rc bg so vr wa lf lp wo td rd _ _ _ _ _ _ _ h; exact h.elim
  | succ N ih =>
    intro N' ln fa pl tk fr to va de mi pa ac us ra ch bo cl ha hu sa ak fl pr hv nm fi rc bg so vr wa lf lp wo td rd hfi hl0 hl1 hto hC hF hD h hr
    cases N' with
    | zero => exact hr.elim
    | succ N' =>
      have hr := lin_1 hr (by rw [hfi]; decide)
      revert hr
      have h := fx_o h
      dsimp only [T_k_read_41] at h
      have ht0 : 0 ≤ to.toInt := Int.le_trans hl0 hl1
      have hno : ¬ 600 < ln.toInt := by clear h; omega
      have hF6 : FR fa pl lf lp 601 := FR_mono hF (by clear h; omega)
      rcases h with ⟨c, -⟩ | ⟨c, tk', fr', to', va', hs, h⟩
      · exact absurd c hno
      · obtain ⟨hT, s1, s2, s3, s4, s5⟩ := st2 hn ⟨ht0, hto⟩ hC hs
        have ht0' : 0 ≤ to'.toInt := Int.le_trans ht0 s3
        intro hr
        rcases h with ⟨c0, e0, e1, e2, e3, e4, e5, e6, e7, e8, e9, e10, e11, e12, e13, e14, e15, e16, e17, e18, e19, e20, e21, e22⟩ | ⟨c0, b0, b1, b2, b3, b4, b5, b6, b7, b8, b9, b10, b11, b12, b13, b14, b15, b16, b17, b18, b19, b20, b21, b22, b23, hx, h⟩
        · rcases hr with ⟨-, f0, f7, f8, f9⟩ | ⟨q, -⟩
          · refine Or.inr ⟨by rw [f0, hfi]; decide, by rw [e0, e1, f7, f8]; exact hF6, ?_⟩
            rw [f9, e18, e19]
            exact hD
          · exact absurd (s1 c0) q
        · rcases hr with ⟨q, -⟩ | ⟨-, w, r, rc', bg', so', vr', wo', wa', lf', lp', td', rd', hw, hy, hk⟩
          · exact absurd q (s2 c0)
          · rcases line_1 hn hby hag ht0 hT c0 hC hF hD hw hx hy with ⟨g0, g1, g2, g3⟩ | ⟨k, er, ewa, fa2, pl2, tk2, fr2, to2, va2, i2, nm2, M, m, hm, hi, hfx, p1, p2, hC2, hF2, hdat⟩
            · rcases h with ⟨z, -⟩ | ⟨-, e0, e1, -⟩
              · exact absurd (by rw [g0]; decide) z
              · rcases hk with ⟨z, hk⟩ | ⟨z, -⟩
                · obtain ⟨j0, j1⟩ := fin_1 hk z
                  exact Or.inl ⟨j0, by rw [e0, g1], by rw [e1, j1, g3]⟩
                · exact absurd (by rw [g2]; decide) z
            · rcases hk with ⟨z, -⟩ | ⟨-, hk⟩
              · rw [er] at z; exact absurd z (by decide)
              · have q0 : 0 ≤ to2.toInt := Int.le_trans ht0' p1
                have q1 : to.toInt < to2.toInt := Int.lt_of_lt_of_le (s5 c0) p1
                rcases c_end2 hn hm hi hfx q0 p2 hC2 with ⟨q3, g0, g1, g2⟩ | ⟨q3, g0, g1, g2, g5, g6, g7, hkl⟩
                · rcases h with ⟨z, -⟩ | ⟨-, e0, e1, -⟩
                  · exact absurd (by rw [g0]; decide) z
                  · rcases hk with ⟨z, -⟩ | ⟨z, hk⟩
                    · exact absurd z q3
                    · obtain ⟨j0, j1⟩ := fin_1 hk (by decide)
                      exact Or.inl ⟨j0, by rw [e0, g1], by rw [e1, j1, g2]⟩
                · rcases h with ⟨-, l', el, h⟩ | ⟨z, -⟩
                  · rcases hk with ⟨z, b11, b12, b13, b14, b15, htok, hk⟩ | ⟨z, -⟩
                    · have hdat2 := hdat hkl
                      clear hdat hkl hx hy hfx hm hi hw
                      have hl : l'.toInt = ln.toInt + 1 := by rw [el]; exact mi_addc (by decide) (by clear h hk; omega) (by clear h hk; omega)
                      have o1 : 0 ≤ l'.toInt := by clear h hk; omega
                      have o2 : l'.toInt ≤ b5.toInt := by clear h hk; omega
                      have o3 : b5.toInt ≤ n.toInt := by clear h hk; omega
                      have o4 : to2.toInt ≤ b5.toInt := by clear h hk; omega
                      have o5 : 0 ≤ rc'.toInt := by clear h hk; omega
                      refine ih N' _ _ _ _ _ _ _ _ _ _ _ _ _ _ _ _ _ _ _ _ _ _ _ _ _ _ _ _ _ _ _ _ _ _ _ er o1 o2 o3 ?_ ?_ hdat2 h hk
                      · rw [g5]; exact tok_ct hby hag hn ⟨o5, g7⟩ htok
                      · rw [g1, g2]; exact FR_mono hF2 o4
                    · exact absurd q3 z
                  · rw [g0] at z; exact absurd z (by decide)
theorem fin_2 {fi rc bg so vr wa lf lp : Int32} {wo : Int64} {td rd : Nat → Int32} {N : Nat} (h : fx (T_j_lines_2 2 n s v0 v1 v2 v3 v4 v5 v6 v7 v8 v9 v10) N (fi, rc, bg, so, vr, wa, lf, lp, wo, td, rd)) (hf : fi.toInt = 0) : v0.toInt = 0 ∧ v6 = wa := by
  cases N with
  | zero => exact h.elim
  | succ N =>
    have h := fx_o h
    dsimp only [T_j_lines_2] at h
    rcases h with ⟨-, e0, e1, e2, e3, e4, e5, e6, -⟩ | ⟨q, -⟩
    · exact ⟨by rw [e0]; exact hf, e6⟩
    · exact absurd hf q
theorem lin_2 {fi rc bg so vr wa lf lp : Int32} {wo : Int64} {td rd : Nat → Int32} {N' : Nat} (h : fx (T_j_lines_2 2 n s v0 v1 v2 v3 v4 v5 v6 v7 v8 v9 v10) (N' + 1) (fi, rc, bg, so, vr, wa, lf, lp, wo, td, rd)) (hf : fi.toInt ≠ 0) : (so.toInt = 0 ∧ v0 = fi ∧ v7 = lf ∧ v8 = lp ∧ v9 = td) ∨ (so.toInt ≠ 0 ∧ ∃ (w : Int64) (r rc' bg' so' vr' : Int32) (wo' : Int64) (wa' lf' lp' : Int32) (td' rd' : Nat → Int32), ((so.toInt = 2 ∧ w = wo) ∨ (so.toInt ≠ 2 ∧ w = 0)) ∧ R_j_darkLine w td lf lp bg n s vr rc rd wa bg so wo r rc' bg' so' vr' wo' wa' lf' lp' td' rd' ∧ ((r.toInt = 0 ∧ fx (T_j_lines_2 2 n s v0 v1 v2 v3 v4 v5 v6 v7 v8 v9 v10) N' (r, rc', bg', so', vr', wa', lf', lp', wo', td', rd')) ∨ (r.toInt ≠ 0 ∧ ((so'.toInt = 4 ∧ ∃ (b11 b12 b13 b14 : Int32) (b15 : Int64), R_j_token n s vr' rc' b11 b12 b13 b14 b15 ∧ fx (T_j_lines_2 2 n s v0 v1 v2 v3 v4 v5 v6 v7 v8 v9 v10) N' (r, b11, b12, b13, b14, wa', lf', lp', b15, td', rd')) ∨ (so'.toInt ≠ 4 ∧ fx (T_j_lines_2 2 n s v0 v1 v2 v3 v4 v5 v6 v7 v8 v9 v10) N' (0, rc', bg', so', vr', bg', lf', lp', wo', td', rd')))))) := by
  have h := fx_o h
  dsimp only [T_j_lines_2] at h
  rcases h with ⟨q, -⟩ | ⟨q, h⟩
  · exact absurd q hf
  · rcases h with ⟨q0, e0, e1, e2, e3, e4, e5, e6, e7, e8, e9, e10⟩ | ⟨q0, h⟩
    · exact Or.inl ⟨q0, e0, e7, e8, e9⟩
    · refine Or.inr ⟨q0, ?_⟩
      rcases h with ⟨q2, h⟩ | ⟨q2, h⟩
      · rcases h with ⟨qa, h⟩ | ⟨qa, r, rc', bg', so', vr', wo', wa', lf', lp', td', rd', hx, h⟩
        · rcases h with ⟨qb, r, rc', bg', so', vr', wo', wa', lf', lp', td', rd', hx, h⟩ | ⟨qb, r, rc', bg', so', vr', wo', wa', lf', lp', td', rd', hx, h⟩
          · refine ⟨0, r, rc', bg', so', vr', wo', wa', lf', lp', td', rd', Or.inr ⟨q2, rfl⟩, hx, ?_⟩
            rcases h with ⟨k0, h⟩ | ⟨k0, ⟨k1, h⟩ | ⟨k1, -, h⟩⟩
            · exact Or.inl ⟨k0, h⟩
            · exact Or.inr ⟨k0, Or.inl ⟨k1, h⟩⟩
            · exact Or.inr ⟨k0, Or.inr ⟨k1, h⟩⟩
          · exact absurd qb (by decide)
        · exact absurd qa (by decide)
      · rcases h with ⟨qa, h⟩ | ⟨qa, r, rc', bg', so', vr', wo', wa', lf', lp', td', rd', hx, h⟩
        · rcases h with ⟨qb, r, rc', bg', so', vr', wo', wa', lf', lp', td', rd', hx, h⟩ | ⟨qb, r, rc', bg', so', vr', wo', wa', lf', lp', td', rd', hx, h⟩
          · refine ⟨wo, r, rc', bg', so', vr', wo', wa', lf', lp', td', rd', Or.inl ⟨q2, rfl⟩, hx, ?_⟩
            rcases h with ⟨k0, h⟩ | ⟨k0, ⟨k1, h⟩ | ⟨k1, -, h⟩⟩
            · exact Or.inl ⟨k0, h⟩
            · exact Or.inr ⟨k0, Or.inl ⟨k1, h⟩⟩
            · exact Or.inr ⟨k0, Or.inr ⟨k1, h⟩⟩
          · exact absurd qb (by decide)
        · exact absurd qa (by decide)
theorem read_2 (hn : 0 ≤ n.toInt ∧ n.toInt ≤ 600) (hby : By s) (hag : Ag_ t s n.toInt) : ∀ (N N' : Nat) (ln fa pl tk fr to va de mi pa ac us ra ch bo : Int32) (cl ha hu sa ak fl pr hv nm : Nat → Int32) (fi rc bg so vr wa lf lp : Int32) (wo : Int64) (td rd : Nat → Int32), fi = 1 → 0 ≤ ln.toInt → ln.toInt ≤ to.toInt → to.toInt ≤ n.toInt → CT t n.toInt to.toInt rc bg so vr wo → FR fa pl lf lp to.toInt → RD td mi hv → fx (T_k_read_41 n t 2 u0 u1 u2 u3 u4 u5 u6 u7 u8 u9 u10 u11 u12 u13 u14 u15 u16 u17 u18 u19 u20 u21 u22) N (ln, fa, pl, tk, fr, to, va, de, mi, pa, ac, us, ra, ch, bo, cl, ha, hu, sa, ak, fl, pr, hv, nm) → fx (T_j_lines_2 2 n s v0 v1 v2 v3 v4 v5 v6 v7 v8 v9 v10) N' (fi, rc, bg, so, vr, wa, lf, lp, wo, td, rd) → ((v0.toInt = 0 ∧ u0 = 1 ∧ u1 = v6) ∨ (v0.toInt ≠ 0 ∧ FR u0 u1 v7 v8 601 ∧ RD v9 u20 u21)) := by
  intro N
  induction N with
  | zero => intro N' ln fa pl tk fr to va de mi pa ac us ra ch bo cl ha hu sa ak fl pr hv nm fi rc bg so vr wa lf lp wo td rd _ _ _ _ _ _ _ h; exact h.elim
  | succ N ih =>
    intro N' ln fa pl tk fr to va de mi pa ac us ra ch bo cl ha hu sa ak fl pr hv nm fi rc bg so vr wa lf lp wo td rd hfi hl0 hl1 hto hC hF hD h hr
    cases N' with
    | zero => exact hr.elim
    | succ N' =>
      have hr := lin_2 hr (by rw [hfi]; decide)
      revert hr
      have h := fx_o h
      dsimp only [T_k_read_41] at h
      have ht0 : 0 ≤ to.toInt := Int.le_trans hl0 hl1
      have hno : ¬ 600 < ln.toInt := by clear h; omega
      have hF6 : FR fa pl lf lp 601 := FR_mono hF (by clear h; omega)
      rcases h with ⟨c, -⟩ | ⟨c, tk', fr', to', va', hs, h⟩
      · exact absurd c hno
      · obtain ⟨hT, s1, s2, s3, s4, s5⟩ := st2 hn ⟨ht0, hto⟩ hC hs
        have ht0' : 0 ≤ to'.toInt := Int.le_trans ht0 s3
        intro hr
        rcases h with ⟨c0, e0, e1, e2, e3, e4, e5, e6, e7, e8, e9, e10, e11, e12, e13, e14, e15, e16, e17, e18, e19, e20, e21, e22⟩ | ⟨c0, b0, b1, b2, b3, b4, b5, b6, b7, b8, b9, b10, b11, b12, b13, b14, b15, b16, b17, b18, b19, b20, b21, b22, b23, hx, h⟩
        · rcases hr with ⟨-, f0, f7, f8, f9⟩ | ⟨q, -⟩
          · refine Or.inr ⟨by rw [f0, hfi]; decide, by rw [e0, e1, f7, f8]; exact hF6, ?_⟩
            rw [f9, e20, e21]
            exact hD
          · exact absurd (s1 c0) q
        · rcases hr with ⟨q, -⟩ | ⟨-, w, r, rc', bg', so', vr', wo', wa', lf', lp', td', rd', hw, hy, hk⟩
          · exact absurd q (s2 c0)
          · rcases line_2 hn hby hag ht0 hT c0 hC hF hD hw hx hy with ⟨g0, g1, g2, g3⟩ | ⟨k, er, ewa, fa2, pl2, tk2, fr2, to2, va2, i2, nm2, M, m, hm, hi, hfx, p1, p2, hC2, hF2, hdat⟩
            · rcases h with ⟨z, -⟩ | ⟨-, e0, e1, -⟩
              · exact absurd (by rw [g0]; decide) z
              · rcases hk with ⟨z, hk⟩ | ⟨z, -⟩
                · obtain ⟨j0, j1⟩ := fin_2 hk z
                  exact Or.inl ⟨j0, by rw [e0, g1], by rw [e1, j1, g3]⟩
                · exact absurd (by rw [g2]; decide) z
            · rcases hk with ⟨z, -⟩ | ⟨-, hk⟩
              · rw [er] at z; exact absurd z (by decide)
              · have q0 : 0 ≤ to2.toInt := Int.le_trans ht0' p1
                have q1 : to.toInt < to2.toInt := Int.lt_of_lt_of_le (s5 c0) p1
                rcases c_end2 hn hm hi hfx q0 p2 hC2 with ⟨q3, g0, g1, g2⟩ | ⟨q3, g0, g1, g2, g5, g6, g7, hkl⟩
                · rcases h with ⟨z, -⟩ | ⟨-, e0, e1, -⟩
                  · exact absurd (by rw [g0]; decide) z
                  · rcases hk with ⟨z, -⟩ | ⟨z, hk⟩
                    · exact absurd z q3
                    · obtain ⟨j0, j1⟩ := fin_2 hk (by decide)
                      exact Or.inl ⟨j0, by rw [e0, g1], by rw [e1, j1, g2]⟩
                · rcases h with ⟨-, l', el, h⟩ | ⟨z, -⟩
                  · rcases hk with ⟨z, b11, b12, b13, b14, b15, htok, hk⟩ | ⟨z, -⟩
                    · have hdat2 := hdat hkl
                      clear hdat hkl hx hy hfx hm hi hw
                      have hl : l'.toInt = ln.toInt + 1 := by rw [el]; exact mi_addc (by decide) (by clear h hk; omega) (by clear h hk; omega)
                      have o1 : 0 ≤ l'.toInt := by clear h hk; omega
                      have o2 : l'.toInt ≤ b5.toInt := by clear h hk; omega
                      have o3 : b5.toInt ≤ n.toInt := by clear h hk; omega
                      have o4 : to2.toInt ≤ b5.toInt := by clear h hk; omega
                      have o5 : 0 ≤ rc'.toInt := by clear h hk; omega
                      refine ih N' _ _ _ _ _ _ _ _ _ _ _ _ _ _ _ _ _ _ _ _ _ _ _ _ _ _ _ _ _ _ _ _ _ _ _ er o1 o2 o3 ?_ ?_ hdat2 h hk
                      · rw [g5]; exact tok_ct hby hag hn ⟨o5, g7⟩ htok
                      · rw [g1, g2]; exact FR_mono hF2 o4
                    · exact absurd q3 z
                  · rw [g0] at z; exact absurd z (by decide)
end LOOP
