/-! one deed done: by kinds -/
theorem act_0 {a ac ni ra en ch cp ec hs : Int32} {pr cl lf ow hu sv st gt so ha : Nat → Int32} {u0 u1 u2 u3 u4 u5 : Int32} {u6 u7 u8 u9 u10 u11 : Nat → Int32} (hA : 0 ≤ a.toInt ∧ a.toInt ≤ 29) (hk : (pr (4 * a.toInt.toNat)).toInt = 0) (h : R_k_act a pr ac cl lf ni ra ow hu en ch sv st cp gt so ha ec hs u0 u1 u2 u3 u4 u5 u6 u7 u8 u9 u10 u11) : (R_k_clapFor ha (pr (4 * a.toInt.toNat + 1)) (pr (4 * a.toInt.toNat + 3)) ec (pr (4 * a.toInt.toNat + 2)) lf cp gt sv ch u0 u3 u6 u8 u9) ∧ (u1 = en ∧ u2 = ni ∧ u4 = hs ∧ u5 = (pr (4 * a.toInt.toNat + 2)) ∧ u7 = ow ∧ u10 = st ∧ u11 = so) := by
  obtain ⟨k, h0, x, h1, y, h2, z, h3, h⟩ := h
  have h1 := pv_sp (B := 1) hA (by decide) (by decide) h1
  have h2 := pv_sp (B := 2) hA (by decide) (by decide) h2
  have h3 := pv_sp (B := 3) hA (by decide) (by decide) h3
  have h0 := pv_sp (B := 0) hA (by decide) (by decide) h0
  rw [Nat.add_zero] at h0
  rw [← h0] at hk
  rw [← h1, ← h2, ← h3]
  clear h0 h1 h2 h3
  rcases h with ⟨c, h⟩ | ⟨c, h⟩ | ⟨c, h⟩ | ⟨c, h⟩ | ⟨c, h⟩ | ⟨c, h⟩ | ⟨c, h⟩
  · clear h; omega
  · obtain ⟨n8, n11, g1, g3, g4, hn, e0, e1, rst_⟩ := h
    obtain ⟨e2, e3, e4, e5, e6, e7, e8, e9, rst_⟩ := rst_
    obtain ⟨e10, e11⟩ := rst_
    subst e0; subst e3; subst e6; subst e8; subst e9
    exact ⟨hn, e1, e2, e4, e5, e7, e10, e11⟩
  · clear h; omega
  · clear h; omega
  · clear h; omega
  · clear h; omega
  · clear h; omega
theorem act_1 {a ac ni ra en ch cp ec hs : Int32} {pr cl lf ow hu sv st gt so ha : Nat → Int32} {u0 u1 u2 u3 u4 u5 : Int32} {u6 u7 u8 u9 u10 u11 : Nat → Int32} (hA : 0 ≤ a.toInt ∧ a.toInt ≤ 29) (hk : (pr (4 * a.toInt.toNat)).toInt = 1) (hxr : 0 ≤ (pr (4 * a.toInt.toNat + 1)).toInt ∧ (pr (4 * a.toInt.toNat + 1)).toInt ≤ 4) (hyr : 0 ≤ (pr (4 * a.toInt.toNat + 2)).toInt ∧ (pr (4 * a.toInt.toNat + 2)).toInt ≤ 4) (h : R_k_act a pr ac cl lf ni ra ow hu en ch sv st cp gt so ha ec hs u0 u1 u2 u3 u4 u5 u6 u7 u8 u9 u10 u11) : (u6 = mvd lf (pr (4 * a.toInt.toNat + 1)) (pr (4 * a.toInt.toNat + 2)) (pr (4 * a.toInt.toNat + 3)) ∧ u7 = upd ow (5 * (pr (4 * a.toInt.toNat + 2)).toInt.toNat + (pr (4 * a.toInt.toNat + 1)).toInt.toNat) (ow (5 * (pr (4 * a.toInt.toNat + 2)).toInt.toNat + (pr (4 * a.toInt.toNat + 1)).toInt.toNat) + (pr (4 * a.toInt.toNat + 3)))) ∧ (u0 = ch ∧ u1 = en ∧ u2 = ni ∧ u3 = cp ∧ u4 = hs ∧ u5 = (-1) ∧ u8 = gt ∧ u9 = sv ∧ u10 = st ∧ u11 = so) := by
  obtain ⟨k, h0, x, h1, y, h2, z, h3, h⟩ := h
  have h1 := pv_sp (B := 1) hA (by decide) (by decide) h1
  have h2 := pv_sp (B := 2) hA (by decide) (by decide) h2
  have h3 := pv_sp (B := 3) hA (by decide) (by decide) h3
  have h0 := pv_sp (B := 0) hA (by decide) (by decide) h0
  rw [Nat.add_zero] at h0
  rw [← h0] at hk
  rw [← h1] at hxr
  rw [← h2] at hyr
  rw [← h1, ← h2, ← h3]
  clear h0 h1 h2 h3
  rcases h with ⟨c, h⟩ | ⟨c, h⟩ | ⟨c, h⟩ | ⟨c, h⟩ | ⟨c, h⟩ | ⟨c, h⟩ | ⟨c, h⟩
  · clear h; omega
  · clear h; omega
  · obtain ⟨g1, hm, z1, f1, z2, f2, z3, f3, rst_⟩ := h
    obtain ⟨z4, f4, g5, f5, e0, e1, e2, e3, rst_⟩ := rst_
    obtain ⟨e4, e5, e6, e7, e8, e9, e10, e11⟩ := rst_
    have hm := mv_sp hm
    have g1_ : z1.toInt = y.toInt * 5 := by rw [f1]; exact mi_mulc (by decide) (by omega) (by omega)
    have g2_ : z2.toInt = y.toInt * 5 + x.toInt := by rw [f2, mi_add (by omega) (by omega), g1_]
    have i2 : Int32.toNatClampNeg z2 = 5 * y.toInt.toNat + x.toInt.toNat := by rw [mi_cl, g2_]; omega
    rw [i2] at f3 f5
    exact ⟨⟨by rw [e6, hm], by rw [e7, ← f5, f4, f3]⟩, e0, e1, e2, e3, e4, e5, e8, e9, e10, e11⟩
  · clear h; omega
  · clear h; omega
  · clear h; omega
  · clear h; omega
theorem act_2 {a ac ni ra en ch cp ec hs : Int32} {pr cl lf ow hu sv st gt so ha : Nat → Int32} {u0 u1 u2 u3 u4 u5 : Int32} {u6 u7 u8 u9 u10 u11 : Nat → Int32} (hA : 0 ≤ a.toInt ∧ a.toInt ≤ 29) (hk : (pr (4 * a.toInt.toNat)).toInt = 2) (hxr : 0 ≤ (pr (4 * a.toInt.toNat + 1)).toInt ∧ (pr (4 * a.toInt.toNat + 1)).toInt ≤ 4) (hyr : 0 ≤ (pr (4 * a.toInt.toNat + 2)).toInt ∧ (pr (4 * a.toInt.toNat + 2)).toInt ≤ 4) (h : R_k_act a pr ac cl lf ni ra ow hu en ch sv st cp gt so ha ec hs u0 u1 u2 u3 u4 u5 u6 u7 u8 u9 u10 u11) : (u6 = mvd lf (pr (4 * a.toInt.toNat + 1)) (pr (4 * a.toInt.toNat + 2)) (pr (4 * a.toInt.toNat + 3)) ∧ u7 = upd ow (5 * (pr (4 * a.toInt.toNat + 1)).toInt.toNat + (pr (4 * a.toInt.toNat + 2)).toInt.toNat) (ow (5 * (pr (4 * a.toInt.toNat + 1)).toInt.toNat + (pr (4 * a.toInt.toNat + 2)).toInt.toNat) - (pr (4 * a.toInt.toNat + 3)))) ∧ (u0 = ch ∧ u1 = en ∧ u2 = ni ∧ u3 = cp ∧ u4 = hs ∧ u5 = (-1) ∧ u8 = gt ∧ u9 = sv ∧ u10 = st ∧ u11 = so) := by
  obtain ⟨k, h0, x, h1, y, h2, z, h3, h⟩ := h
  have h1 := pv_sp (B := 1) hA (by decide) (by decide) h1
  have h2 := pv_sp (B := 2) hA (by decide) (by decide) h2
  have h3 := pv_sp (B := 3) hA (by decide) (by decide) h3
  have h0 := pv_sp (B := 0) hA (by decide) (by decide) h0
  rw [Nat.add_zero] at h0
  rw [← h0] at hk
  rw [← h1] at hxr
  rw [← h2] at hyr
  rw [← h1, ← h2, ← h3]
  clear h0 h1 h2 h3
  rcases h with ⟨c, h⟩ | ⟨c, h⟩ | ⟨c, h⟩ | ⟨c, h⟩ | ⟨c, h⟩ | ⟨c, h⟩ | ⟨c, h⟩
  · clear h; omega
  · clear h; omega
  · clear h; omega
  · obtain ⟨g1, hm, z1, f1, z2, f2, z3, f3, rst_⟩ := h
    obtain ⟨z4, f4, g5, f5, e0, e1, e2, e3, rst_⟩ := rst_
    obtain ⟨e4, e5, e6, e7, e8, e9, e10, e11⟩ := rst_
    have hm := mv_sp hm
    have g1_ : z1.toInt = x.toInt * 5 := by rw [f1]; exact mi_mulc (by decide) (by omega) (by omega)
    have g2_ : z2.toInt = x.toInt * 5 + y.toInt := by rw [f2, mi_add (by omega) (by omega), g1_]
    have i2 : Int32.toNatClampNeg z2 = 5 * x.toInt.toNat + y.toInt.toNat := by rw [mi_cl, g2_]; omega
    rw [i2] at f3 f5
    exact ⟨⟨by rw [e6, hm], by rw [e7, ← f5, f4, f3]⟩, e0, e1, e2, e3, e4, e5, e8, e9, e10, e11⟩
  · clear h; omega
  · clear h; omega
  · clear h; omega
theorem act_3 {a ac ni ra en ch cp ec hs : Int32} {pr cl lf ow hu sv st gt so ha : Nat → Int32} {u0 u1 u2 u3 u4 u5 : Int32} {u6 u7 u8 u9 u10 u11 : Nat → Int32} (hA : 0 ≤ a.toInt ∧ a.toInt ≤ 29) (hk : (pr (4 * a.toInt.toNat)).toInt = 3) (h : R_k_act a pr ac cl lf ni ra ow hu en ch sv st cp gt so ha ec hs u0 u1 u2 u3 u4 u5 u6 u7 u8 u9 u10 u11) : (u0 = ch + -(pr (4 * a.toInt.toNat + 3)) ∧ u9 = upd sv (pr (4 * a.toInt.toNat + 1)).toInt.toNat (sv (pr (4 * a.toInt.toNat + 1)).toInt.toNat + -(pr (4 * a.toInt.toNat + 3))) ∧ u4 = hs ||| (1 : Int32) <<< ((pr (4 * a.toInt.toNat + 2)) &&& 31)) ∧ (u1 = en ∧ u2 = ni ∧ u3 = cp ∧ u5 = (-1) ∧ u6 = lf ∧ u7 = ow ∧ u8 = gt ∧ u10 = st ∧ u11 = so) := by
  obtain ⟨k, h0, x, h1, y, h2, z, h3, h⟩ := h
  have h1 := pv_sp (B := 1) hA (by decide) (by decide) h1
  have h2 := pv_sp (B := 2) hA (by decide) (by decide) h2
  have h3 := pv_sp (B := 3) hA (by decide) (by decide) h3
  have h0 := pv_sp (B := 0) hA (by decide) (by decide) h0
  rw [Nat.add_zero] at h0
  rw [← h0] at hk
  rw [← h1, ← h2, ← h3]
  clear h0 h1 h2 h3
  rcases h with ⟨c, h⟩ | ⟨c, h⟩ | ⟨c, h⟩ | ⟨c, h⟩ | ⟨c, h⟩ | ⟨c, h⟩ | ⟨c, h⟩
  · clear h; omega
  · clear h; omega
  · clear h; omega
  · clear h; omega
  · obtain ⟨z1, f1, n8, g4, hg, z2, f2, z3, rst_⟩ := h
    obtain ⟨f3, e0, e1, e2, e3, e4, e5, e6, rst_⟩ := rst_
    obtain ⟨e7, e8, e9, e10, e11⟩ := rst_
    have hg := gv_sp hg
    rw [f1] at hg
    exact ⟨⟨by rw [e0, hg.1], by rw [e9, hg.2], by rw [e4, f3, f2]⟩, e1, e2, e3, e5, e6, e7, e8, e10, e11⟩
  · clear h; omega
  · clear h; omega
theorem act_4 {a ac ni ra en ch cp ec hs : Int32} {pr cl lf ow hu sv st gt so ha : Nat → Int32} {u0 u1 u2 u3 u4 u5 : Int32} {u6 u7 u8 u9 u10 u11 : Nat → Int32} (hA : 0 ≤ a.toInt ∧ a.toInt ≤ 29) (hk : (pr (4 * a.toInt.toNat)).toInt = 4) (h : R_k_act a pr ac cl lf ni ra ow hu en ch sv st cp gt so ha ec hs u0 u1 u2 u3 u4 u5 u6 u7 u8 u9 u10 u11) : (u0 = ch + 2 * (pr (4 * a.toInt.toNat + 2)) ∧ u9 = upd sv (pr (4 * a.toInt.toNat + 1)).toInt.toNat (sv (pr (4 * a.toInt.toNat + 1)).toInt.toNat + 2 * (pr (4 * a.toInt.toNat + 2))) ∧ u11 = upd so (pr (4 * a.toInt.toNat + 1)).toInt.toNat (so (pr (4 * a.toInt.toNat + 1)).toInt.toNat + 2 * (pr (4 * a.toInt.toNat + 2)))) ∧ (u1 = en ∧ u2 = ni ∧ u3 = cp ∧ u4 = hs ∧ u5 = (-1) ∧ u6 = lf ∧ u7 = ow ∧ u8 = gt ∧ u10 = st) := by
  obtain ⟨k, h0, x, h1, y, h2, z, h3, h⟩ := h
  have h1 := pv_sp (B := 1) hA (by decide) (by decide) h1
  have h2 := pv_sp (B := 2) hA (by decide) (by decide) h2
  have h3 := pv_sp (B := 3) hA (by decide) (by decide) h3
  have h0 := pv_sp (B := 0) hA (by decide) (by decide) h0
  rw [Nat.add_zero] at h0
  rw [← h0] at hk
  rw [← h1, ← h2]
  clear h0 h1 h2 h3
  rcases h with ⟨c, h⟩ | ⟨c, h⟩ | ⟨c, h⟩ | ⟨c, h⟩ | ⟨c, h⟩ | ⟨c, h⟩ | ⟨c, h⟩
  · clear h; omega
  · clear h; omega
  · clear h; omega
  · clear h; omega
  · clear h; omega
  · obtain ⟨z1, f1, n8, g4, hg, z2, f2, z3, rst_⟩ := h
    obtain ⟨f3, z4, f4, g5, f5, e0, e1, e2, rst_⟩ := rst_
    obtain ⟨e3, e4, e5, e6, e7, e8, e9, e10, e11⟩ := rst_
    have hg := gv_sp hg
    rw [f1] at hg
    rw [mi_cl] at f2 f5
    exact ⟨⟨by rw [e0, hg.1], by rw [e9, hg.2], by rw [e11, ← f5, f4, f3, f2]⟩, e1, e2, e3, e4, e5, e6, e7, e8, e10⟩
  · clear h; omega
theorem act_5 {a ac ni ra en ch cp ec hs : Int32} {pr cl lf ow hu sv st gt so ha : Nat → Int32} {u0 u1 u2 u3 u4 u5 : Int32} {u6 u7 u8 u9 u10 u11 : Nat → Int32} (hA : 0 ≤ a.toInt ∧ a.toInt ≤ 29) (hk : (pr (4 * a.toInt.toNat)).toInt = 5) (h : R_k_act a pr ac cl lf ni ra ow hu en ch sv st cp gt so ha ec hs u0 u1 u2 u3 u4 u5 u6 u7 u8 u9 u10 u11) : (u1 = en + 1) ∧ (u0 = ch ∧ u2 = ni ∧ u3 = cp ∧ u4 = hs ∧ u5 = (-1) ∧ u6 = lf ∧ u7 = ow ∧ u8 = gt ∧ u9 = sv ∧ u10 = st ∧ u11 = so) := by
  obtain ⟨k, h0, x, h1, y, h2, z, h3, h⟩ := h
  have h1 := pv_sp (B := 1) hA (by decide) (by decide) h1
  have h2 := pv_sp (B := 2) hA (by decide) (by decide) h2
  have h3 := pv_sp (B := 3) hA (by decide) (by decide) h3
  have h0 := pv_sp (B := 0) hA (by decide) (by decide) h0
  rw [Nat.add_zero] at h0
  rw [← h0] at hk
  clear h0 h1 h2 h3
  rcases h with ⟨c, h⟩ | ⟨c, h⟩ | ⟨c, h⟩ | ⟨c, h⟩ | ⟨c, h⟩ | ⟨c, h⟩ | ⟨c, h⟩
  · clear h; omega
  · clear h; omega
  · clear h; omega
  · clear h; omega
  · clear h; omega
  · clear h; omega
  · obtain ⟨z1, f1, e0, e1, e2, e3, e4, e5, rst_⟩ := h
    obtain ⟨e6, e7, e8, e9, e10, e11⟩ := rst_
    exact ⟨by rw [e1, f1], e0, e2, e3, e4, e5, e6, e7, e8, e9, e10, e11⟩
theorem act_6 {a ac ni ra en ch cp ec hs : Int32} {pr cl lf ow hu sv st gt so ha : Nat → Int32} {u0 u1 u2 u3 u4 u5 : Int32} {u6 u7 u8 u9 u10 u11 : Nat → Int32} (hA : 0 ≤ a.toInt ∧ a.toInt ≤ 29) (hk : (pr (4 * a.toInt.toNat)).toInt = 6) (h : R_k_act a pr ac cl lf ni ra ow hu en ch sv st cp gt so ha ec hs u0 u1 u2 u3 u4 u5 u6 u7 u8 u9 u10 u11) : (R_k_passNight ac cl lf ni ra ow hu en ch sv st u0 u2 u6 u7 u9 u10 ∧ u4 = 0) ∧ (u1 = en ∧ u3 = cp ∧ u5 = (-1) ∧ u8 = gt ∧ u11 = so) := by
  obtain ⟨k, h0, x, h1, y, h2, z, h3, h⟩ := h
  have h1 := pv_sp (B := 1) hA (by decide) (by decide) h1
  have h2 := pv_sp (B := 2) hA (by decide) (by decide) h2
  have h3 := pv_sp (B := 3) hA (by decide) (by decide) h3
  have h0 := pv_sp (B := 0) hA (by decide) (by decide) h0
  rw [Nat.add_zero] at h0
  rw [← h0] at hk
  clear h0 h1 h2 h3
  rcases h with ⟨c, h⟩ | ⟨c, h⟩ | ⟨c, h⟩ | ⟨c, h⟩ | ⟨c, h⟩ | ⟨c, h⟩ | ⟨c, h⟩
  · obtain ⟨n8, n10, g1, g2, g4, g5, hn, h⟩ := h
    rcases h with ⟨c2, e0, e1, e2, e3, e4, e5, e6, e7, e8, e9, e10, e11⟩ | ⟨c2, e0, e1, e2, e3, e4, e5, e6, e7, e8, e9, e10, e11⟩
    · subst e0; subst e2; subst e6; subst e7; subst e9; subst e10
      exact ⟨⟨hn, e4⟩, e1, e3, e5, e8, e11⟩
    · clear hn; omega
  · clear h; omega
  · clear h; omega
  · clear h; omega
  · clear h; omega
  · clear h; omega
  · clear h; omega
theorem doe_0 {BX a ac pa X ni ra cap en ch li cp hs ec de : Int32} {Bk D lf ow sv st gt so pr : Nat → Int32} {r w1 w2 w3 w4 w5 w6 : Int32} {w7 w8 w9 w10 w11 w12 : Nat → Int32} (hB : 0 ≤ BX.toInt ∧ BX.toInt ≤ 1) (hR : RB (fun j => Bk (121 * BX.toInt.toNat + j)) de pr) (hA : 0 ≤ a.toInt ∧ a.toInt < de.toInt) (hk : (pr (4 * a.toInt.toNat)).toInt = 0) (h : R_j_does BX a Bk ac pa X D lf ni ra ow cap en ch li sv st cp gt so hs ec r w1 w2 w3 w4 w5 w6 w7 w8 w9 w10 w11 w12) : (R_j_clapsFor pa (pr (4 * a.toInt.toNat + 1)) ac (pr (4 * a.toInt.toNat + 2)) li hs ch cp lf gt sv (pr (4 * a.toInt.toNat + 3)) X D ec r w1 w6 w7 w9 w10) ∧ (w2 = en ∧ w3 = ni ∧ w4 = li ∧ w5 = hs ∧ w8 = ow ∧ w11 = so ∧ w12 = st) := by
  obtain ⟨x, h1, y, h2, z, h3, k, h0, h⟩ := h
  have h1 := do_sp (B := 1) hB hR hA (by decide) (by decide) h1
  have h2 := do_sp (B := 2) hB hR hA (by decide) (by decide) h2
  have h3 := do_sp (B := 3) hB hR hA (by decide) (by decide) h3
  have h0 := do_sp (B := 0) hB hR hA (by decide) (by decide) h0
  rw [Nat.add_zero] at h0
  rw [← h0] at hk
  rw [← h1, ← h2, ← h3]
  clear h0 h1 h2 h3
  rcases h with ⟨c, h⟩ | ⟨c, h⟩ | ⟨c, h⟩ | ⟨c, h⟩ | ⟨c, h⟩ | ⟨c, h⟩ | ⟨c, h⟩
  · clear h; omega
  · obtain ⟨r2, n1, n2, g1, g2, g3, hn, e0, rst_⟩ := h
    obtain ⟨e1, e2, e3, e4, e5, e6, e7, e8, rst_⟩ := rst_
    obtain ⟨e9, e10, e11, e12⟩ := rst_
    subst e0; subst e1; subst e6; subst e7; subst e9; subst e10
    exact ⟨hn, e2, e3, e4, e5, e8, e11, e12⟩
  · clear h; omega
  · clear h; omega
  · clear h; omega
  · clear h; omega
  · clear h; omega
theorem doe_1 {BX a ac pa X ni ra cap en ch li cp hs ec de : Int32} {Bk D lf ow sv st gt so pr : Nat → Int32} {r w1 w2 w3 w4 w5 w6 : Int32} {w7 w8 w9 w10 w11 w12 : Nat → Int32} (hB : 0 ≤ BX.toInt ∧ BX.toInt ≤ 1) (hR : RB (fun j => Bk (121 * BX.toInt.toNat + j)) de pr) (hA : 0 ≤ a.toInt ∧ a.toInt < de.toInt) (hk : (pr (4 * a.toInt.toNat)).toInt = 1) (h : R_j_does BX a Bk ac pa X D lf ni ra ow cap en ch li sv st cp gt so hs ec r w1 w2 w3 w4 w5 w6 w7 w8 w9 w10 w11 w12) : (R_j_gives pa (pr (4 * a.toInt.toNat + 1)) (pr (4 * a.toInt.toNat + 2)) hs lf ow (pr (4 * a.toInt.toNat + 3)) 0 r w7 w8) ∧ (w1 = ch ∧ w2 = en ∧ w3 = ni ∧ w4 = li ∧ w5 = hs ∧ w6 = cp ∧ w9 = gt ∧ w10 = sv ∧ w11 = so ∧ w12 = st) := by
  obtain ⟨x, h1, y, h2, z, h3, k, h0, h⟩ := h
  have h1 := do_sp (B := 1) hB hR hA (by decide) (by decide) h1
  have h2 := do_sp (B := 2) hB hR hA (by decide) (by decide) h2
  have h3 := do_sp (B := 3) hB hR hA (by decide) (by decide) h3
  have h0 := do_sp (B := 0) hB hR hA (by decide) (by decide) h0
  rw [Nat.add_zero] at h0
  rw [← h0] at hk
  rw [← h1, ← h2, ← h3]
  clear h0 h1 h2 h3
  rcases h with ⟨c, h⟩ | ⟨c, h⟩ | ⟨c, h⟩ | ⟨c, h⟩ | ⟨c, h⟩ | ⟨c, h⟩ | ⟨c, h⟩
  · clear h; omega
  · clear h; omega
  · obtain ⟨r2, g1, g2, hn, e0, e1, e2, e3, rst_⟩ := h
    obtain ⟨e4, e5, e6, e7, e8, e9, e10, e11, e12⟩ := rst_
    subst e0; subst e7; subst e8
    exact ⟨hn, e1, e2, e3, e4, e5, e6, e9, e10, e11, e12⟩
  · clear h; omega
  · clear h; omega
  · clear h; omega
  · clear h; omega
theorem doe_2 {BX a ac pa X ni ra cap en ch li cp hs ec de : Int32} {Bk D lf ow sv st gt so pr : Nat → Int32} {r w1 w2 w3 w4 w5 w6 : Int32} {w7 w8 w9 w10 w11 w12 : Nat → Int32} (hB : 0 ≤ BX.toInt ∧ BX.toInt ≤ 1) (hR : RB (fun j => Bk (121 * BX.toInt.toNat + j)) de pr) (hA : 0 ≤ a.toInt ∧ a.toInt < de.toInt) (hk : (pr (4 * a.toInt.toNat)).toInt = 2) (h : R_j_does BX a Bk ac pa X D lf ni ra ow cap en ch li sv st cp gt so hs ec r w1 w2 w3 w4 w5 w6 w7 w8 w9 w10 w11 w12) : (R_j_gives pa (pr (4 * a.toInt.toNat + 1)) (pr (4 * a.toInt.toNat + 2)) hs lf ow (pr (4 * a.toInt.toNat + 3)) 1 r w7 w8) ∧ (w1 = ch ∧ w2 = en ∧ w3 = ni ∧ w4 = li ∧ w5 = hs ∧ w6 = cp ∧ w9 = gt ∧ w10 = sv ∧ w11 = so ∧ w12 = st) := by
  obtain ⟨x, h1, y, h2, z, h3, k, h0, h⟩ := h
  have h1 := do_sp (B := 1) hB hR hA (by decide) (by decide) h1
  have h2 := do_sp (B := 2) hB hR hA (by decide) (by decide) h2
  have h3 := do_sp (B := 3) hB hR hA (by decide) (by decide) h3
  have h0 := do_sp (B := 0) hB hR hA (by decide) (by decide) h0
  rw [Nat.add_zero] at h0
  rw [← h0] at hk
  rw [← h1, ← h2, ← h3]
  clear h0 h1 h2 h3
  rcases h with ⟨c, h⟩ | ⟨c, h⟩ | ⟨c, h⟩ | ⟨c, h⟩ | ⟨c, h⟩ | ⟨c, h⟩ | ⟨c, h⟩
  · clear h; omega
  · clear h; omega
  · clear h; omega
  · obtain ⟨r2, g1, g2, hn, e0, e1, e2, e3, rst_⟩ := h
    obtain ⟨e4, e5, e6, e7, e8, e9, e10, e11, e12⟩ := rst_
    subst e0; subst e7; subst e8
    exact ⟨hn, e1, e2, e3, e4, e5, e6, e9, e10, e11, e12⟩
  · clear h; omega
  · clear h; omega
  · clear h; omega
theorem doe_3 {BX a ac pa X ni ra cap en ch li cp hs ec de : Int32} {Bk D lf ow sv st gt so pr : Nat → Int32} {r w1 w2 w3 w4 w5 w6 : Int32} {w7 w8 w9 w10 w11 w12 : Nat → Int32} (hB : 0 ≤ BX.toInt ∧ BX.toInt ≤ 1) (hR : RB (fun j => Bk (121 * BX.toInt.toNat + j)) de pr) (hA : 0 ≤ a.toInt ∧ a.toInt < de.toInt) (hk : (pr (4 * a.toInt.toNat)).toInt = 3) (h : R_j_does BX a Bk ac pa X D lf ni ra ow cap en ch li sv st cp gt so hs ec r w1 w2 w3 w4 w5 w6 w7 w8 w9 w10 w11 w12) : (R_j_hushes ac (pr (4 * a.toInt.toNat + 1)) li pa (pr (4 * a.toInt.toNat + 2)) sv (pr (4 * a.toInt.toNat + 3)) ch hs r w1 w5 w10) ∧ (w2 = en ∧ w3 = ni ∧ w4 = li ∧ w6 = cp ∧ w7 = lf ∧ w8 = ow ∧ w9 = gt ∧ w11 = so ∧ w12 = st) := by
  obtain ⟨x, h1, y, h2, z, h3, k, h0, h⟩ := h
  have h1 := do_sp (B := 1) hB hR hA (by decide) (by decide) h1
  have h2 := do_sp (B := 2) hB hR hA (by decide) (by decide) h2
  have h3 := do_sp (B := 3) hB hR hA (by decide) (by decide) h3
  have h0 := do_sp (B := 0) hB hR hA (by decide) (by decide) h0
  rw [Nat.add_zero] at h0
  rw [← h0] at hk
  rw [← h1, ← h2, ← h3]
  clear h0 h1 h2 h3
  rcases h with ⟨c, h⟩ | ⟨c, h⟩ | ⟨c, h⟩ | ⟨c, h⟩ | ⟨c, h⟩ | ⟨c, h⟩ | ⟨c, h⟩
  · clear h; omega
  · clear h; omega
  · clear h; omega
  · clear h; omega
  · obtain ⟨r2, n1, n2, g1, hn, e0, e1, e2, rst_⟩ := h
    obtain ⟨e3, e4, e5, e6, e7, e8, e9, e10, rst_⟩ := rst_
    obtain ⟨e11, e12⟩ := rst_
    subst e0; subst e1; subst e5; subst e10
    exact ⟨hn, e2, e3, e4, e6, e7, e8, e9, e11, e12⟩
  · clear h; omega
  · clear h; omega
theorem doe_4 {BX a ac pa X ni ra cap en ch li cp hs ec de : Int32} {Bk D lf ow sv st gt so pr : Nat → Int32} {r w1 w2 w3 w4 w5 w6 : Int32} {w7 w8 w9 w10 w11 w12 : Nat → Int32} (hB : 0 ≤ BX.toInt ∧ BX.toInt ≤ 1) (hR : RB (fun j => Bk (121 * BX.toInt.toNat + j)) de pr) (hA : 0 ≤ a.toInt ∧ a.toInt < de.toInt) (hk : (pr (4 * a.toInt.toNat)).toInt = 4) (h : R_j_does BX a Bk ac pa X D lf ni ra ow cap en ch li sv st cp gt so hs ec r w1 w2 w3 w4 w5 w6 w7 w8 w9 w10 w11 w12) : (∃ b : Int32, R_j_isLiving ac (pr (4 * a.toInt.toNat + 1)) li b ∧ ((b = 1 ∧ r = 1 ∧ w1 = ch + 2 * (pr (4 * a.toInt.toNat + 2)) ∧ w10 = upd sv (pr (4 * a.toInt.toNat + 1)).toInt.toNat (sv (pr (4 * a.toInt.toNat + 1)).toInt.toNat + 2 * (pr (4 * a.toInt.toNat + 2))) ∧ w11 = upd so (pr (4 * a.toInt.toNat + 1)).toInt.toNat (so (pr (4 * a.toInt.toNat + 1)).toInt.toNat + 2 * (pr (4 * a.toInt.toNat + 2)))) ∨ (b = 0 ∧ r = 0 ∧ w1 = ch ∧ w10 = sv ∧ w11 = so))) ∧ (w2 = en ∧ w3 = ni ∧ w4 = li ∧ w5 = hs ∧ w6 = cp ∧ w7 = lf ∧ w8 = ow ∧ w9 = gt ∧ w12 = st) := by
  obtain ⟨x, h1, y, h2, z, h3, k, h0, h⟩ := h
  have h1 := do_sp (B := 1) hB hR hA (by decide) (by decide) h1
  have h2 := do_sp (B := 2) hB hR hA (by decide) (by decide) h2
  have h3 := do_sp (B := 3) hB hR hA (by decide) (by decide) h3
  have h0 := do_sp (B := 0) hB hR hA (by decide) (by decide) h0
  rw [Nat.add_zero] at h0
  rw [← h0] at hk
  rw [← h1, ← h2]
  clear h0 h1 h2 h3
  rcases h with ⟨c, h⟩ | ⟨c, h⟩ | ⟨c, h⟩ | ⟨c, h⟩ | ⟨c, h⟩ | ⟨c, h⟩ | ⟨c, h⟩
  · clear h; omega
  · clear h; omega
  · clear h; omega
  · clear h; omega
  · clear h; omega
  · obtain ⟨b, hb, h⟩ := h
    rcases h with ⟨c2, z1, f1, n1, g1, hg, z2, f2, z3, f3, z4, f4, g5, f5, e0, e1, e2, e3, e4, e5, e6, e7, e8, e9, e10, e11, e12⟩ | ⟨c2, e0, e1, e2, e3, e4, e5, e6, e7, e8, e9, e10, e11, e12⟩
    · have hg := gt_sp hg
      rw [f1] at hg
      rw [mi_cl] at f2 f5
      exact ⟨⟨b, hb, Or.inl ⟨c2, e0, by rw [e1, hg.1], by rw [e10, hg.2], by rw [e11, ← f5, f4, f3, f2]⟩⟩, e2, e3, e4, e5, e6, e7, e8, e9, e12⟩
    · exact ⟨⟨b, hb, Or.inr ⟨c2, e0, e1, e10, e11⟩⟩, e2, e3, e4, e5, e6, e7, e8, e9, e12⟩
  · clear h; omega
theorem doe_5 {BX a ac pa X ni ra cap en ch li cp hs ec de : Int32} {Bk D lf ow sv st gt so pr : Nat → Int32} {r w1 w2 w3 w4 w5 w6 : Int32} {w7 w8 w9 w10 w11 w12 : Nat → Int32} (hB : 0 ≤ BX.toInt ∧ BX.toInt ≤ 1) (hR : RB (fun j => Bk (121 * BX.toInt.toNat + j)) de pr) (hA : 0 ≤ a.toInt ∧ a.toInt < de.toInt) (hk : (pr (4 * a.toInt.toNat)).toInt = 5) (h : R_j_does BX a Bk ac pa X D lf ni ra ow cap en ch li sv st cp gt so hs ec r w1 w2 w3 w4 w5 w6 w7 w8 w9 w10 w11 w12) : (r = 1 ∧ w2 = en + 1) ∧ (w1 = ch ∧ w3 = ni ∧ w4 = li ∧ w5 = hs ∧ w6 = cp ∧ w7 = lf ∧ w8 = ow ∧ w9 = gt ∧ w10 = sv ∧ w11 = so ∧ w12 = st) := by
  obtain ⟨x, h1, y, h2, z, h3, k, h0, h⟩ := h
  have h1 := do_sp (B := 1) hB hR hA (by decide) (by decide) h1
  have h2 := do_sp (B := 2) hB hR hA (by decide) (by decide) h2
  have h3 := do_sp (B := 3) hB hR hA (by decide) (by decide) h3
  have h0 := do_sp (B := 0) hB hR hA (by decide) (by decide) h0
  rw [Nat.add_zero] at h0
  rw [← h0] at hk
  clear h0 h1 h2 h3
  rcases h with ⟨c, h⟩ | ⟨c, h⟩ | ⟨c, h⟩ | ⟨c, h⟩ | ⟨c, h⟩ | ⟨c, h⟩ | ⟨c, h⟩
  · clear h; omega
  · clear h; omega
  · clear h; omega
  · clear h; omega
  · clear h; omega
  · clear h; omega
  · obtain ⟨z1, f1, e0, e1, e2, e3, e4, e5, rst_⟩ := h
    obtain ⟨e6, e7, e8, e9, e10, e11, e12⟩ := rst_
    exact ⟨⟨e0, by rw [e2, f1]⟩, e1, e3, e4, e5, e6, e7, e8, e9, e10, e11, e12⟩
theorem doe_6 {BX a ac pa X ni ra cap en ch li cp hs ec de : Int32} {Bk D lf ow sv st gt so pr : Nat → Int32} {r w1 w2 w3 w4 w5 w6 : Int32} {w7 w8 w9 w10 w11 w12 : Nat → Int32} (hB : 0 ≤ BX.toInt ∧ BX.toInt ≤ 1) (hR : RB (fun j => Bk (121 * BX.toInt.toNat + j)) de pr) (hA : 0 ≤ a.toInt ∧ a.toInt < de.toInt) (hk : (pr (4 * a.toInt.toNat)).toInt = 6) (h : R_j_does BX a Bk ac pa X D lf ni ra ow cap en ch li sv st cp gt so hs ec r w1 w2 w3 w4 w5 w6 w7 w8 w9 w10 w11 w12) : (R_j_night ac pa X D lf ni ra ow cap en ch li sv st w1 w3 w4 w7 w8 w10 w12 ∧ r = 1 ∧ w5 = 0) ∧ (w2 = en ∧ w6 = cp ∧ w9 = gt ∧ w11 = so) := by
  obtain ⟨x, h1, y, h2, z, h3, k, h0, h⟩ := h
  have h1 := do_sp (B := 1) hB hR hA (by decide) (by decide) h1
  have h2 := do_sp (B := 2) hB hR hA (by decide) (by decide) h2
  have h3 := do_sp (B := 3) hB hR hA (by decide) (by decide) h3
  have h0 := do_sp (B := 0) hB hR hA (by decide) (by decide) h0
  rw [Nat.add_zero] at h0
  rw [← h0] at hk
  clear h0 h1 h2 h3
  rcases h with ⟨c, h⟩ | ⟨c, h⟩ | ⟨c, h⟩ | ⟨c, h⟩ | ⟨c, h⟩ | ⟨c, h⟩ | ⟨c, h⟩
  · obtain ⟨n1, n2, n3, g1, g2, g3, g4, hn, rst_⟩ := h
    obtain ⟨e0, e1, e2, e3, e4, e5, e6, e7, rst_⟩ := rst_
    obtain ⟨e8, e9, e10, e11, e12⟩ := rst_
    subst e1; subst e3; subst e4; subst e7; subst e8; subst e10; subst e12
    exact ⟨⟨hn, e0, e5⟩, e2, e6, e9, e11⟩
  · clear h; omega
  · clear h; omega
  · clear h; omega
  · clear h; omega
  · clear h; omega
  · clear h; omega
