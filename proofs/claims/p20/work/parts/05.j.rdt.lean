/-! text(): the reading in step -/
section RD_
variable {n : Int32} {t s : Nat → Int32}
variable {u0 : Int32} {u1 : Int32} {u2 : Int32} {u3 : Int32} {u4 : Int32} {u5 : Int32} {u6 : Int32} {u7 : Int32} {u8 : Int32} {u9 : Int32} {u10 : Int32} {u11 : Int32} {u12 : Nat → Int32} {u13 : Nat → Int32} {u14 : Nat → Int32} {u15 : Nat → Int32} {u16 : Nat → Int32} {u17 : Nat → Int32} {u18 : Int32} {u19 : Nat → Int32} {u20 : Int32} {u21 : Nat → Int32} {u22 : Nat → Int32}
variable {v0 : Int32} {v1 : Int32} {v2 : Int32} {v3 : Int32} {v4 : Int32} {v5 : Int64} {v6 : Int32} {v7 : Int32} {v8 : Int32} {v9 : Nat → Int32} {v10 : Nat → Int32} {v11 : Nat → Int32} {v12 : Nat → Int32}
theorem rdt_0 {tk fr va vr wa lp : Int32} {cl ha hu sa ak fl pr hv nm rd fa fp td : Nat → Int32} (hn : 0 ≤ n.toInt ∧ n.toInt ≤ 600) (hby : By s) (hag : Ag_ t s n.toInt) (hx : R_k_read n t 0 tk fr va cl ha hu sa ak fl pr hv nm u0 u1 u2 u3 u4 u5 u6 u7 u8 u9 u10 u11 u12 u13 u14 u15 u16 u17 u18 u19 u20 u21 u22) (hy : R_j_readText 0 n s vr wa lp rd fa fp td v0 v1 v2 v3 v4 v5 v6 v7 v8 v9 v10 v11 v12) : v9 = upd fa 0 u0 ∧ v10 = upd fp 0 u1 ∧ ((u0.toInt = 0 ∧ v0.toInt ≠ 0 ∧ RT v11 u6 u7 u8 u9 u10 u11 u12 u13 u14 u15 u16 u17) ∨ (u0.toInt ≠ 0 ∧ v0.toInt = 0)) := by
  have key : ∀ (N : Nat) (l : Int32) (q : Nat → Int32), fx (T_j_readText_2 0 n s vr wa lp rd fa fp v0 v1 v2 v3 v4 v5 v6 v7 v8 v9 v10 v11 v12) N (l, q) → 0 ≤ l.toInt → l.toInt ≤ 121 → (∀ j : Nat, (j : Int) < l.toInt → q j = 0) → ∃ q2 : Nat → Int32, (∀ j : Nat, j < 121 → q2 j = 0) ∧ R_j_readText_s2 0 q2 n s vr wa lp rd fa fp v0 v10 v11 v12 v1 v2 v3 v4 v5 v6 v7 v8 v9 := by
    intro N
    induction N with
    | zero => intro l q h; exact h.elim
    | succ N ih =>
      intro l q h h0 h1 hz
      have h := fx_o h
      dsimp only [T_j_readText_2] at h
      rcases h with ⟨c, h⟩ | ⟨c, b0, e0, b1, e1, h⟩
      · refine ⟨q, fun j hj => hz j (by clear h; omega), ?_⟩
        rcases h with h | h
        · obtain ⟨c2, -⟩ := h
          exact absurd (by decide) c2
        · exact h
      · have h8 : b1.toInt = l.toInt + 1 := by rw [e1]; exact mi_addc (by decide) (by clear h; omega) (by clear h; omega)
        refine ih b1 b0 h (by clear h; omega) (by clear h; omega) (fun j hj => ?_)
        rw [← e0, mi_cl]
        by_cases hk : j = l.toInt.toNat
        · rw [hk, up_eq]
        · rw [up_ne hk]; exact hz j (by clear h; omega)
  have z0 : (0 : Int32).toInt = 0 := by decide
  obtain ⟨q2, hz, h⟩ := key _ _ _ hy (by decide) (by decide) (fun j hj => absurd hj (by rw [z0]; clear hx hy; omega))
  obtain ⟨-, q3, e3, rc, bg, so, vl, wo, rst_⟩ := h
  obtain ⟨htok, w0, w1, w2, w3, w4, w5, w6, rst_⟩ := rst_
  obtain ⟨w7, w8, w9, w10, hl, h⟩ := rst_
  have hC : CT t n.toInt (0 : Int32).toInt rc bg so vl wo := tok_ct hby hag hn (by clear h hl hx hy htok; omega) htok
  have hF : FR 0 (-1) 0 lp (0 : Int32).toInt := Or.inl ⟨rfl, rfl, rfl⟩
  have hD : RT q3 0 0 0 0 999 0 cl ha hu sa ak fl := by
    have g : ∀ j : Nat, j < 121 → j ≠ 3 → q3 j = 0 := fun j h1 h2 => by rw [← e3]; exact (up_ne h2).trans (hz j h1)
    refine ⟨g 0 (by decide) (by decide), g 1 (by decide) (by decide), g 2 (by decide) (by decide), by rw [← e3]; exact up_eq, g 4 (by decide) (by decide), g 5 (by decide) (by decide), fun i hi => ?_, fun i hi => ?_, fun i hi => ?_, by decide, by decide, by decide⟩
    · rw [z0] at hi; exact absurd hi (by clear h hl hx hy htok; omega)
    · rw [z0] at hi; exact absurd hi (by clear h hl hx hy htok; omega)
    · rw [z0] at hi; exact absurd hi (by clear h hl hx hy htok; omega)
  have hR := read_0 hn hby hag _ _ _ _ _ _ _ _ _ _ _ _ _ _ _ _ _ _ _ _ _ _ _ _ _ _ _ _ _ _ _ _ _ _ _ _ _ rfl (by decide) (by decide) (by rw [z0]; exact hn.1) hC hF hD hx.2 hl
  clear hx hl hy htok
  rcases hR with ⟨r0, r1, r2⟩ | ⟨r0, hFR, hDD⟩
  · rcases h with ⟨c, b17, e17, b18, e18, b19, e19, h⟩ | ⟨c, -⟩
    · have h19 : b19 = 1 := by rw [e19, ← e17]; exact up_eq
      rcases h with ⟨c2, f0, f1, f2, f3, f4, f5, f6, f7, f8, f9, f10, f11, f12⟩ | ⟨c2, -⟩
      · refine ⟨by rw [f9, ← e17, r1]; rfl, by rw [f10, ← e18, r2]; rfl, Or.inr ⟨by rw [r1]; decide, by rw [f0]; decide⟩⟩
      · rw [h19] at c2; exact absurd c2 (by decide)
    · exact absurd r0 c
  · rcases h with ⟨c, -⟩ | ⟨c, b0, e0, h⟩
    · exact absurd c r0
    · have hb : b0 0 = w7 := by rw [← e0]; exact up_eq
      rcases hFR with ⟨k1, k2, k3⟩ | ⟨k1, k2, k3, -⟩
      · rcases h with ⟨c3, b1, e1, b2, e2, h⟩ | ⟨c3, -⟩
        · have h2 : b2 = 0 := e2.trans (hb.trans k3)
          rcases h with ⟨c4, -⟩ | ⟨c4, f0, f1, f2, f3, f4, f5, f6, f7, f8, f9, f10, f11, f12⟩
          · exact absurd (by rw [h2]; decide) c4
          · refine ⟨by rw [f9, ← e0, k1, k3]; rfl, by rw [f10, ← e1, k2]; rfl, Or.inl ⟨by rw [k1]; decide, by rw [f0]; decide, ?_⟩⟩
            rw [f11]; exact hDD
        · rw [k3] at c3; exact absurd c3 (by decide)
      · have kp : 0 < w7.toInt ∧ w7.toInt ≠ 0 := by
          rw [k2]
          rcases k1 with k | k <;> rw [k] <;> decide
        rcases h with ⟨c3, -⟩ | ⟨c3, b3, e3, b4, e4, h⟩
        · exact absurd kp.1 (by omega)
        · have h4 : b4 = w7 := by rw [e4]; exact hb
          rcases h with ⟨c4, f0, f1, f2, f3, f4, f5, f6, f7, f8, f9, f10, f11, f12⟩ | ⟨c4, -⟩
          · refine ⟨by rw [f9, ← e0, k2]; rfl, by rw [f10, ← e3, k3]; rfl, Or.inr ⟨by rw [← k2]; exact kp.2, by rw [f0]; decide⟩⟩
          · rw [h4] at c4; exact absurd c4 kp.2
theorem rdt_1 {tk fr va vr wa lp : Int32} {cl ha hu sa ak fl pr hv nm rd fa fp td : Nat → Int32} (hn : 0 ≤ n.toInt ∧ n.toInt ≤ 600) (hby : By s) (hag : Ag_ t s n.toInt) (hx : R_k_read n t 1 tk fr va cl ha hu sa ak fl pr hv nm u0 u1 u2 u3 u4 u5 u6 u7 u8 u9 u10 u11 u12 u13 u14 u15 u16 u17 u18 u19 u20 u21 u22) (hy : R_j_readText 1 n s vr wa lp rd fa fp td v0 v1 v2 v3 v4 v5 v6 v7 v8 v9 v10 v11 v12) : v9 = upd fa 0 u0 ∧ v10 = upd fp 0 u1 ∧ ((u0.toInt = 0 ∧ v0.toInt ≠ 0 ∧ RB v11 u18 u19) ∨ (u0.toInt ≠ 0 ∧ v0.toInt = 0)) := by
  have key : ∀ (N : Nat) (l : Int32) (q : Nat → Int32), fx (T_j_readText_2 1 n s vr wa lp rd fa fp v0 v1 v2 v3 v4 v5 v6 v7 v8 v9 v10 v11 v12) N (l, q) → 0 ≤ l.toInt → l.toInt ≤ 121 → (∀ j : Nat, (j : Int) < l.toInt → q j = 0) → ∃ q2 : Nat → Int32, (∀ j : Nat, j < 121 → q2 j = 0) ∧ R_j_readText_s1 1 q2 n s vr wa lp rd fa fp v0 v10 v11 v12 v1 v2 v3 v4 v5 v6 v7 v8 v9 := by
    intro N
    induction N with
    | zero => intro l q h; exact h.elim
    | succ N ih =>
      intro l q h h0 h1 hz
      have h := fx_o h
      dsimp only [T_j_readText_2] at h
      rcases h with ⟨c, h⟩ | ⟨c, b0, e0, b1, e1, h⟩
      · refine ⟨q, fun j hj => hz j (by clear h; omega), ?_⟩
        rcases h with h | h
        · exact h
        · obtain ⟨c2, -⟩ := h
          exact absurd c2 (by decide)
      · have h8 : b1.toInt = l.toInt + 1 := by rw [e1]; exact mi_addc (by decide) (by clear h; omega) (by clear h; omega)
        refine ih b1 b0 h (by clear h; omega) (by clear h; omega) (fun j hj => ?_)
        rw [← e0, mi_cl]
        by_cases hk : j = l.toInt.toNat
        · rw [hk, up_eq]
        · rw [up_ne hk]; exact hz j (by clear h; omega)
  have z0 : (0 : Int32).toInt = 0 := by decide
  obtain ⟨q2, hz, h⟩ := key _ _ _ hy (by decide) (by decide) (fun j hj => absurd hj (by rw [z0]; clear hx hy; omega))
  obtain ⟨-, q3, e3, rc, bg, so, vl, wo, rst_⟩ := h
  obtain ⟨htok, w0, w1, w2, w3, w4, w5, w6, rst_⟩ := rst_
  obtain ⟨w7, w8, w9, w10, hl, h⟩ := rst_
  have hC : CT t n.toInt (0 : Int32).toInt rc bg so vl wo := tok_ct hby hag hn (by clear h hl hx hy htok; omega) htok
  have hF : FR 0 (-1) 0 lp (0 : Int32).toInt := Or.inl ⟨rfl, rfl, rfl⟩
  have hD : RB q3 0 pr := ⟨by rw [← e3]; exact (up_ne (by decide)).trans (hz 0 (by decide)), fun i hi => by rw [z0] at hi; exact absurd hi (by clear h hl hx hy htok; omega), by decide⟩
  have hR := read_1 hn hby hag _ _ _ _ _ _ _ _ _ _ _ _ _ _ _ _ _ _ _ _ _ _ _ _ _ _ _ _ _ _ _ _ _ _ _ _ _ rfl (by decide) (by decide) (by rw [z0]; exact hn.1) hC hF hD hx.2 hl
  clear hx hl hy htok
  rcases hR with ⟨r0, r1, r2⟩ | ⟨r0, hFR, hDD⟩
  · rcases h with ⟨c, b17, e17, b18, e18, b19, e19, h⟩ | ⟨c, -⟩
    · have h19 : b19 = 1 := by rw [e19, ← e17]; exact up_eq
      rcases h with ⟨c2, f0, f1, f2, f3, f4, f5, f6, f7, f8, f9, f10, f11, f12⟩ | ⟨c2, -⟩
      · refine ⟨by rw [f9, ← e17, r1]; rfl, by rw [f10, ← e18, r2]; rfl, Or.inr ⟨by rw [r1]; decide, by rw [f0]; decide⟩⟩
      · rw [h19] at c2; exact absurd c2 (by decide)
    · exact absurd r0 c
  · rcases h with ⟨c, -⟩ | ⟨c, b0, e0, h⟩
    · exact absurd c r0
    · have hb : b0 0 = w7 := by rw [← e0]; exact up_eq
      rcases hFR with ⟨k1, k2, k3⟩ | ⟨k1, k2, k3, -⟩
      · rcases h with ⟨c3, b1, e1, b2, e2, h⟩ | ⟨c3, -⟩
        · have h2 : b2 = 0 := e2.trans (hb.trans k3)
          rcases h with ⟨c4, -⟩ | ⟨c4, f0, f1, f2, f3, f4, f5, f6, f7, f8, f9, f10, f11, f12⟩
          · exact absurd (by rw [h2]; decide) c4
          · refine ⟨by rw [f9, ← e0, k1, k3]; rfl, by rw [f10, ← e1, k2]; rfl, Or.inl ⟨by rw [k1]; decide, by rw [f0]; decide, ?_⟩⟩
            rw [f11]; exact hDD
        · rw [k3] at c3; exact absurd c3 (by decide)
      · have kp : 0 < w7.toInt ∧ w7.toInt ≠ 0 := by
          rw [k2]
          rcases k1 with k | k <;> rw [k] <;> decide
        rcases h with ⟨c3, -⟩ | ⟨c3, b3, e3, b4, e4, h⟩
        · exact absurd kp.1 (by omega)
        · have h4 : b4 = w7 := by rw [e4]; exact hb
          rcases h with ⟨c4, f0, f1, f2, f3, f4, f5, f6, f7, f8, f9, f10, f11, f12⟩ | ⟨c4, -⟩
          · refine ⟨by rw [f9, ← e0, k2]; rfl, by rw [f10, ← e3, k3]; rfl, Or.inr ⟨by rw [← k2]; exact kp.2, by rw [f0]; decide⟩⟩
          · rw [h4] at c4; exact absurd c4 kp.2
theorem rdt_2 {tk fr va vr wa lp : Int32} {cl ha hu sa ak fl pr hv nm rd fa fp td : Nat → Int32} (hn : 0 ≤ n.toInt ∧ n.toInt ≤ 600) (hby : By s) (hag : Ag_ t s n.toInt) (hx : R_k_read n t 2 tk fr va cl ha hu sa ak fl pr hv nm u0 u1 u2 u3 u4 u5 u6 u7 u8 u9 u10 u11 u12 u13 u14 u15 u16 u17 u18 u19 u20 u21 u22) (hy : R_j_readText 2 n s vr wa lp rd fa fp td v0 v1 v2 v3 v4 v5 v6 v7 v8 v9 v10 v11 v12) : v9 = upd fa 0 u0 ∧ v10 = upd fp 0 u1 ∧ ((u0.toInt = 0 ∧ v0.toInt ≠ 0 ∧ RD v11 u20 u21) ∨ (u0.toInt ≠ 0 ∧ v0.toInt = 0)) := by
  have key : ∀ (N : Nat) (l : Int32) (q : Nat → Int32), fx (T_j_readText_2 2 n s vr wa lp rd fa fp v0 v1 v2 v3 v4 v5 v6 v7 v8 v9 v10 v11 v12) N (l, q) → 0 ≤ l.toInt → l.toInt ≤ 121 → (∀ j : Nat, (j : Int) < l.toInt → q j = 0) → ∃ q2 : Nat → Int32, (∀ j : Nat, j < 121 → q2 j = 0) ∧ R_j_readText_s1 2 q2 n s vr wa lp rd fa fp v0 v10 v11 v12 v1 v2 v3 v4 v5 v6 v7 v8 v9 := by
    intro N
    induction N with
    | zero => intro l q h; exact h.elim
    | succ N ih =>
      intro l q h h0 h1 hz
      have h := fx_o h
      dsimp only [T_j_readText_2] at h
      rcases h with ⟨c, h⟩ | ⟨c, b0, e0, b1, e1, h⟩
      · refine ⟨q, fun j hj => hz j (by clear h; omega), ?_⟩
        rcases h with h | h
        · exact h
        · obtain ⟨c2, -⟩ := h
          exact absurd c2 (by decide)
      · have h8 : b1.toInt = l.toInt + 1 := by rw [e1]; exact mi_addc (by decide) (by clear h; omega) (by clear h; omega)
        refine ih b1 b0 h (by clear h; omega) (by clear h; omega) (fun j hj => ?_)
        rw [← e0, mi_cl]
        by_cases hk : j = l.toInt.toNat
        · rw [hk, up_eq]
        · rw [up_ne hk]; exact hz j (by clear h; omega)
  have z0 : (0 : Int32).toInt = 0 := by decide
  obtain ⟨q2, hz, h⟩ := key _ _ _ hy (by decide) (by decide) (fun j hj => absurd hj (by rw [z0]; clear hx hy; omega))
  obtain ⟨-, q3, e3, rc, bg, so, vl, wo, rst_⟩ := h
  obtain ⟨htok, w0, w1, w2, w3, w4, w5, w6, rst_⟩ := rst_
  obtain ⟨w7, w8, w9, w10, hl, h⟩ := rst_
  have hC : CT t n.toInt (0 : Int32).toInt rc bg so vl wo := tok_ct hby hag hn (by clear h hl hx hy htok; omega) htok
  have hF : FR 0 (-1) 0 lp (0 : Int32).toInt := Or.inl ⟨rfl, rfl, rfl⟩
  have hD : RD q3 0 hv := ⟨by rw [← e3]; exact (up_ne (by decide)).trans (hz 0 (by decide)), fun i hi => by rw [z0] at hi; exact absurd hi (by clear h hl hx hy htok; omega), by decide⟩
  have hR := read_2 hn hby hag _ _ _ _ _ _ _ _ _ _ _ _ _ _ _ _ _ _ _ _ _ _ _ _ _ _ _ _ _ _ _ _ _ _ _ _ _ rfl (by decide) (by decide) (by rw [z0]; exact hn.1) hC hF hD hx.2 hl
  clear hx hl hy htok
  rcases hR with ⟨r0, r1, r2⟩ | ⟨r0, hFR, hDD⟩
  · rcases h with ⟨c, b17, e17, b18, e18, b19, e19, h⟩ | ⟨c, -⟩
    · have h19 : b19 = 1 := by rw [e19, ← e17]; exact up_eq
      rcases h with ⟨c2, f0, f1, f2, f3, f4, f5, f6, f7, f8, f9, f10, f11, f12⟩ | ⟨c2, -⟩
      · refine ⟨by rw [f9, ← e17, r1]; rfl, by rw [f10, ← e18, r2]; rfl, Or.inr ⟨by rw [r1]; decide, by rw [f0]; decide⟩⟩
      · rw [h19] at c2; exact absurd c2 (by decide)
    · exact absurd r0 c
  · rcases h with ⟨c, -⟩ | ⟨c, b0, e0, h⟩
    · exact absurd c r0
    · have hb : b0 0 = w7 := by rw [← e0]; exact up_eq
      rcases hFR with ⟨k1, k2, k3⟩ | ⟨k1, k2, k3, -⟩
      · rcases h with ⟨c3, b1, e1, b2, e2, h⟩ | ⟨c3, -⟩
        · have h2 : b2 = 0 := e2.trans (hb.trans k3)
          rcases h with ⟨c4, -⟩ | ⟨c4, f0, f1, f2, f3, f4, f5, f6, f7, f8, f9, f10, f11, f12⟩
          · exact absurd (by rw [h2]; decide) c4
          · refine ⟨by rw [f9, ← e0, k1, k3]; rfl, by rw [f10, ← e1, k2]; rfl, Or.inl ⟨by rw [k1]; decide, by rw [f0]; decide, ?_⟩⟩
            rw [f11]; exact hDD
        · rw [k3] at c3; exact absurd c3 (by decide)
      · have kp : 0 < w7.toInt ∧ w7.toInt ≠ 0 := by
          rw [k2]
          rcases k1 with k | k <;> rw [k] <;> decide
        rcases h with ⟨c3, -⟩ | ⟨c3, b3, e3, b4, e4, h⟩
        · exact absurd kp.1 (by omega)
        · have h4 : b4 = w7 := by rw [e4]; exact hb
          rcases h with ⟨c4, f0, f1, f2, f3, f4, f5, f6, f7, f8, f9, f10, f11, f12⟩ | ⟨c4, -⟩
          · refine ⟨by rw [f9, ← e0, k2]; rfl, by rw [f10, ← e3, k3]; rfl, Or.inr ⟨by rw [← k2]; exact kp.2, by rw [f0]; decide⟩⟩
          · rw [h4] at c4; exact absurd c4 kp.2
end RD_
