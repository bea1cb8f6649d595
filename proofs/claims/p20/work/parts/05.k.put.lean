/-! putting and storing -/
theorem cpy_at {f g : Nat → Int32} {n j : Nat} (h : j < n) : va_cpy f g 0 0 n j = f j := by
  unfold va_cpy
  rw [if_pos ⟨Nat.zero_le _, by omega⟩, Nat.sub_zero, Nat.zero_add]
theorem tcopy_sp {u_claps : Nat → Int32} {t_claps : Nat → Int32} {u_hands : Nat → Int32} {t_hands : Nat → Int32} {u_hunger : Nat → Int32} {t_hunger : Nat → Int32} {u_saved : Nat → Int32} {t_saved : Nat → Int32} {u_asks : Nat → Int32} {t_asks : Nat → Int32} {u_floors : Nat → Int32} {t_floors : Nat → Int32} {u0 : Nat → Int32} {u1 : Nat → Int32} {u2 : Nat → Int32} {u3 : Nat → Int32} {u4 : Nat → Int32} {u5 : Nat → Int32} (h : R_k_tcopy u_claps t_claps u_hands t_hands u_hunger t_hunger u_saved t_saved u_asks t_asks u_floors t_floors u0 u1 u2 u3 u4 u5) : (∀ i : Nat, i < 5 → u0 i = u_claps i) ∧ (∀ i : Nat, i < 5 → u1 i = u_hands i) ∧ (∀ i : Nat, i < 6 → u2 i = u_hunger i) ∧ (∀ i : Nat, i < 6 → u3 i = u_saved i) ∧ (∀ i : Nat, i < 4 → u4 i = u_asks i) ∧ (∀ i : Nat, i < 4 → u5 i = u_floors i) := by
  obtain ⟨g1, e1, g2, e2, g3, e3, g4, e4, rst_⟩ := h
  obtain ⟨g5, e5, g6, e6, f0, f1, f2, f3, rst_⟩ := rst_
  obtain ⟨f4, f5⟩ := rst_
  exact ⟨fun i hi => by rw [f0, ← e1]; exact cpy_at hi, fun i hi => by rw [f1, ← e2]; exact cpy_at hi, fun i hi => by rw [f2, ← e3]; exact cpy_at hi, fun i hi => by rw [f3, ← e4]; exact cpy_at hi, fun i hi => by rw [f4, ← e5]; exact cpy_at hi, fun i hi => by rw [f5, ← e6]; exact cpy_at hi⟩
theorem bcopy_sp {u_parts : Nat → Int32} {t_parts : Nat → Int32} {u0 : Nat → Int32} (h : R_k_bcopy u_parts t_parts u0) : ∀ i : Nat, i < 120 → u0 i = u_parts i := by
  obtain ⟨g1, e1, f0⟩ := h
  exact fun i hi => by rw [f0, ← e1]; exact cpy_at hi
theorem dcopy_sp {u_halves : Nat → Int32} {t_halves : Nat → Int32} {u0 : Nat → Int32} (h : R_k_dcopy u_halves t_halves u0) : ∀ i : Nat, i < 6 → u0 i = u_halves i := by
  obtain ⟨g1, e1, f0⟩ := h
  exact fun i hi => by rw [f0, ← e1]; exact cpy_at hi
theorem RT_y {td : Nat → Int32} {pa ac us ra ch bo : Int32} {cl ha hu sa ak fl cl2 ha2 hu2 sa2 ak2 fl2 : Nat → Int32} (h : RT td pa ac us ra ch bo cl ha hu sa ak fl) (e0 : ∀ i : Nat, i < 5 → cl2 i = cl i) (e1 : ∀ i : Nat, i < 5 → ha2 i = ha i) (e2 : ∀ i : Nat, i < 6 → hu2 i = hu i) (e3 : ∀ i : Nat, i < 6 → sa2 i = sa i) (e4 : ∀ i : Nat, i < 4 → ak2 i = ak i) (e5 : ∀ i : Nat, i < 4 → fl2 i = fl i) : RT td pa ac us ra ch bo cl2 ha2 hu2 sa2 ak2 fl2 := by
  obtain ⟨c0, c1, c2, c3, c4, c5, A, B, C, rA, rB, rC⟩ := h
  refine ⟨c0, c1, c2, c3, c4, c5, fun i hi => ?_, fun i hi => ?_, fun i hi => ?_, rA, rB, rC⟩
  · rw [e0 i (by omega), e1 i (by omega)]; exact A i hi
  · rw [e2 i (by omega), e3 i (by omega)]; exact B i hi
  · rw [e4 i (by omega), e5 i (by omega)]; exact C i hi
theorem RB_y {td : Nat → Int32} {de : Int32} {pr pr2 : Nat → Int32} (h : RB td de pr) (e : ∀ i : Nat, i < 120 → pr2 i = pr i) : RB td de pr2 := by
  obtain ⟨c0, A, rA⟩ := h
  exact ⟨c0, fun i hi j hj => by rw [e _ (by omega)]; exact A i hi j hj, rA⟩
theorem RD_y {td : Nat → Int32} {mi : Int32} {hv hv2 : Nat → Int32} (h : RD td mi hv) (e : ∀ i : Nat, i < 6 → hv2 i = hv i) : RD td mi hv2 := by
  obtain ⟨c0, A, rA⟩ := h
  exact ⟨c0, fun i hi => by rw [e _ (by omega)]; exact A i hi, rA⟩
theorem storeT_sp {d : Int32} {td th u : Nat → Int32} (hd : 0 ≤ d.toInt ∧ d.toInt ≤ 1) (h : R_j_storeT d td th u) : (∀ j : Nat, j < 36 → u (36 * d.toInt.toNat + j) = td j) ∧ (∀ j : Nat, (j < 36 * d.toInt.toNat ∨ 36 * d.toInt.toNat + 36 ≤ j) → u j = th j) := by
  have key : ∀ (N : Nat) (l : Int32) (q : Nat → Int32), fx (T_j_storeT_3 d td u) N (l, q) → 0 ≤ l.toInt → l.toInt ≤ 36 → (∀ j : Nat, (j : Int) < l.toInt → q (36 * d.toInt.toNat + j) = td j) → (∀ j : Nat, (j < 36 * d.toInt.toNat ∨ 36 * d.toInt.toNat + 36 ≤ j) → q j = th j) → (∀ j : Nat, j < 36 → u (36 * d.toInt.toNat + j) = td j) ∧ (∀ j : Nat, (j < 36 * d.toInt.toNat ∨ 36 * d.toInt.toNat + 36 ≤ j) → u j = th j) := by
    intro N
    induction N with
    | zero => intro l q h; exact h.elim
    | succ N ih =>
      intro l q h h0 h1 hA hB
      have h := fx_o h
      dsimp only [T_j_storeT_3] at h
      rcases h with ⟨c, e⟩ | ⟨c, b0, e0, b1, e1, b2, e2, b3, e3, b4, e4, h⟩
      · rw [e]; exact ⟨fun j hj => hA j (by omega), hB⟩
      · have g0 : b0.toInt = 36 * d.toInt := by rw [e0]; exact mi_cmul (by decide) (by omega) (by omega)
        have g1 : b1.toInt = 36 * d.toInt + l.toInt := by rw [e1, mi_add (by omega) (by omega), g0]
        have g4 : b4.toInt = l.toInt + 1 := by rw [e4]; exact mi_addc (by decide) (by omega) (by omega)
        have gi : Int32.toNatClampNeg b1 = 36 * d.toInt.toNat + l.toInt.toNat := by rw [mi_cl, g1]; omega
        refine ih b4 b3 h (by omega) (by omega) (fun j hj => ?_) (fun j hj => ?_)
        · rw [← e3, gi]
          by_cases hk : j = l.toInt.toNat
          · rw [hk, up_eq, e2]; rfl
          · rw [up_ne (by omega)]; exact hA j (by omega)
        · rw [← e3, gi, up_ne (by omega)]; exact hB j hj
  have z0 : (0 : Int32).toInt = 0 := by decide
  exact key _ _ _ h (by decide) (by decide) (fun j hj => by rw [z0] at hj; omega) (fun _ _ => rfl)
theorem storeB_sp {d : Int32} {td th u : Nat → Int32} (hd : 0 ≤ d.toInt ∧ d.toInt ≤ 1) (h : R_j_storeB d td th u) : (∀ j : Nat, j < 121 → u (121 * d.toInt.toNat + j) = td j) ∧ (∀ j : Nat, (j < 121 * d.toInt.toNat ∨ 121 * d.toInt.toNat + 121 ≤ j) → u j = th j) := by
  have key : ∀ (N : Nat) (l : Int32) (q : Nat → Int32), fx (T_j_storeB_3 d td u) N (l, q) → 0 ≤ l.toInt → l.toInt ≤ 121 → (∀ j : Nat, (j : Int) < l.toInt → q (121 * d.toInt.toNat + j) = td j) → (∀ j : Nat, (j < 121 * d.toInt.toNat ∨ 121 * d.toInt.toNat + 121 ≤ j) → q j = th j) → (∀ j : Nat, j < 121 → u (121 * d.toInt.toNat + j) = td j) ∧ (∀ j : Nat, (j < 121 * d.toInt.toNat ∨ 121 * d.toInt.toNat + 121 ≤ j) → u j = th j) := by
    intro N
    induction N with
    | zero => intro l q h; exact h.elim
    | succ N ih =>
      intro l q h h0 h1 hA hB
      have h := fx_o h
      dsimp only [T_j_storeB_3] at h
      rcases h with ⟨c, e⟩ | ⟨c, b0, e0, b1, e1, b2, e2, b3, e3, b4, e4, h⟩
      · rw [e]; exact ⟨fun j hj => hA j (by omega), hB⟩
      · have g0 : b0.toInt = 121 * d.toInt := by rw [e0]; exact mi_cmul (by decide) (by omega) (by omega)
        have g1 : b1.toInt = 121 * d.toInt + l.toInt := by rw [e1, mi_add (by omega) (by omega), g0]
        have g4 : b4.toInt = l.toInt + 1 := by rw [e4]; exact mi_addc (by decide) (by omega) (by omega)
        have gi : Int32.toNatClampNeg b1 = 121 * d.toInt.toNat + l.toInt.toNat := by rw [mi_cl, g1]; omega
        refine ih b4 b3 h (by omega) (by omega) (fun j hj => ?_) (fun j hj => ?_)
        · rw [← e3, gi]
          by_cases hk : j = l.toInt.toNat
          · rw [hk, up_eq, e2]; rfl
          · rw [up_ne (by omega)]; exact hA j (by omega)
        · rw [← e3, gi, up_ne (by omega)]; exact hB j hj
  have z0 : (0 : Int32).toInt = 0 := by decide
  exact key _ _ _ h (by decide) (by decide) (fun j hj => by rw [z0] at hj; omega) (fun _ _ => rfl)
theorem storeD_sp {d : Int32} {td th u : Nat → Int32} (hd : 0 ≤ d.toInt ∧ d.toInt ≤ 1) (h : R_j_storeD d td th u) : (∀ j : Nat, j < 7 → u (7 * d.toInt.toNat + j) = td j) ∧ (∀ j : Nat, (j < 7 * d.toInt.toNat ∨ 7 * d.toInt.toNat + 7 ≤ j) → u j = th j) := by
  have key : ∀ (N : Nat) (l : Int32) (q : Nat → Int32), fx (T_j_storeD_3 d td u) N (l, q) → 0 ≤ l.toInt → l.toInt ≤ 7 → (∀ j : Nat, (j : Int) < l.toInt → q (7 * d.toInt.toNat + j) = td j) → (∀ j : Nat, (j < 7 * d.toInt.toNat ∨ 7 * d.toInt.toNat + 7 ≤ j) → q j = th j) → (∀ j : Nat, j < 7 → u (7 * d.toInt.toNat + j) = td j) ∧ (∀ j : Nat, (j < 7 * d.toInt.toNat ∨ 7 * d.toInt.toNat + 7 ≤ j) → u j = th j) := by
    intro N
    induction N with
    | zero => intro l q h; exact h.elim
    | succ N ih =>
      intro l q h h0 h1 hA hB
      have h := fx_o h
      dsimp only [T_j_storeD_3] at h
      rcases h with ⟨c, e⟩ | ⟨c, b0, e0, b1, e1, b2, e2, b3, e3, b4, e4, h⟩
      · rw [e]; exact ⟨fun j hj => hA j (by omega), hB⟩
      · have g0 : b0.toInt = 7 * d.toInt := by rw [e0]; exact mi_cmul (by decide) (by omega) (by omega)
        have g1 : b1.toInt = 7 * d.toInt + l.toInt := by rw [e1, mi_add (by omega) (by omega), g0]
        have g4 : b4.toInt = l.toInt + 1 := by rw [e4]; exact mi_addc (by decide) (by omega) (by omega)
        have gi : Int32.toNatClampNeg b1 = 7 * d.toInt.toNat + l.toInt.toNat := by rw [mi_cl, g1]; omega
        refine ih b4 b3 h (by omega) (by omega) (fun j hj => ?_) (fun j hj => ?_)
        · rw [← e3, gi]
          by_cases hk : j = l.toInt.toNat
          · rw [hk, up_eq, e2]; rfl
          · rw [up_ne (by omega)]; exact hA j (by omega)
        · rw [← e3, gi, up_ne (by omega)]; exact hB j hj
  have z0 : (0 : Int32).toInt = 0 := by decide
  exact key _ _ _ h (by decide) (by decide) (fun j hj => by rw [z0] at hj; omega) (fun _ _ => rfl)
theorem put_00 {a : Int32} {b : Int32} {rd_halves : Nat → Int32} {ksd_halves : Nat → Int32} {kdarks : Int32} {ktheatres : Int32} {kbooks : Int32} {kftpalms : Int32} {kftactors : Int32} {kftusurers : Int32} {kftrate : Int32} {kftchest : Int32} {kftborrowers : Int32} {kft_claps : Nat → Int32} {kft_hands : Nat → Int32} {kft_hunger : Nat → Int32} {kft_saved : Nat → Int32} {kft_asks : Nat → Int32} {kft_floors : Nat → Int32} {kstpalms : Int32} {kstactors : Int32} {kstusurers : Int32} {kstrate : Int32} {kstchest : Int32} {kstborrowers : Int32} {kst_claps : Nat → Int32} {kst_hands : Nat → Int32} {kst_hunger : Nat → Int32} {kst_saved : Nat → Int32} {kst_asks : Nat → Int32} {kst_floors : Nat → Int32} {kfbdeeds : Int32} {kfb_parts : Nat → Int32} {ksbdeeds : Int32} {ksb_parts : Nat → Int32} {kfdmin : Int32} {kfd_halves : Nat → Int32} {rdmin : Int32} {ksdmin : Int32} {rb_parts : Nat → Int32} {rbdeeds : Int32} {rt_claps : Nat → Int32} {rt_hands : Nat → Int32} {rt_hunger : Nat → Int32} {rt_saved : Nat → Int32} {rt_asks : Nat → Int32} {rt_floors : Nat → Int32} {rtpalms : Int32} {rtactors : Int32} {rtusurers : Int32} {rtrate : Int32} {rtchest : Int32} {rtborrowers : Int32} {u0 : Int32} {u1 : Int32} {u2 : Int32} {u3 : Int32} {u4 : Int32} {u5 : Int32} {u6 : Int32} {u7 : Int32} {u8 : Int32} {u9 : Nat → Int32} {u10 : Nat → Int32} {u11 : Nat → Int32} {u12 : Nat → Int32} {u13 : Nat → Int32} {u14 : Nat → Int32} {u15 : Int32} {u16 : Int32} {u17 : Int32} {u18 : Int32} {u19 : Int32} {u20 : Int32} {u21 : Nat → Int32} {u22 : Nat → Int32} {u23 : Nat → Int32} {u24 : Nat → Int32} {u25 : Nat → Int32} {u26 : Nat → Int32} {u27 : Int32} {u28 : Nat → Int32} {u29 : Int32} {u30 : Nat → Int32} {u31 : Int32} {u32 : Nat → Int32} {u33 : Int32} {u34 : Nat → Int32} (ha : a.toInt = 0) (hb : b.toInt = 0) (hc : 0 ≤ ktheatres.toInt ∧ ktheatres.toInt ≤ 2) (h : R_k_put a b rd_halves ksd_halves kdarks ktheatres kbooks kftpalms kftactors kftusurers kftrate kftchest kftborrowers kft_claps kft_hands kft_hunger kft_saved kft_asks kft_floors kstpalms kstactors kstusurers kstrate kstchest kstborrowers kst_claps kst_hands kst_hunger kst_saved kst_asks kst_floors kfbdeeds kfb_parts ksbdeeds ksb_parts kfdmin kfd_halves rdmin ksdmin rb_parts rbdeeds rt_claps rt_hands rt_hunger rt_saved rt_asks rt_floors rtpalms rtactors rtusurers rtrate rtchest rtborrowers u0 u1 u2 u3 u4 u5 u6 u7 u8 u9 u10 u11 u12 u13 u14 u15 u16 u17 u18 u19 u20 u21 u22 u23 u24 u25 u26 u27 u28 u29 u30 u31 u32 u33 u34) : (ktheatres.toInt < b.toInt + 1 → u0.toInt = b.toInt + 1) ∧ (b.toInt + 1 ≤ ktheatres.toInt → u0 = ktheatres) ∧ u3 = rtpalms ∧ u4 = rtactors ∧ u5 = rtusurers ∧ u6 = rtrate ∧ u7 = rtchest ∧ u8 = rtborrowers ∧ (∀ i : Nat, i < 5 → u9 i = rt_claps i) ∧ (∀ i : Nat, i < 5 → u10 i = rt_hands i) ∧ (∀ i : Nat, i < 6 → u11 i = rt_hunger i) ∧ (∀ i : Nat, i < 6 → u12 i = rt_saved i) ∧ (∀ i : Nat, i < 4 → u13 i = rt_asks i) ∧ (∀ i : Nat, i < 4 → u14 i = rt_floors i) ∧ u1 = kbooks ∧ u2 = kdarks ∧ u15 = kstpalms ∧ u16 = kstactors ∧ u17 = kstusurers ∧ u18 = kstrate ∧ u19 = kstchest ∧ u20 = kstborrowers ∧ u21 = kst_claps ∧ u22 = kst_hands ∧ u23 = kst_hunger ∧ u24 = kst_saved ∧ u25 = kst_asks ∧ u26 = kst_floors ∧ u27 = kfbdeeds ∧ u28 = kfb_parts ∧ u29 = ksbdeeds ∧ u30 = ksb_parts ∧ u31 = kfdmin ∧ u32 = kfd_halves ∧ u33 = ksdmin ∧ u34 = ksd_halves := by
  rcases h with ⟨c, h⟩ | ⟨c, h⟩
  · omega
  · rcases h with ⟨c2, h⟩ | ⟨c2, h⟩
    · omega
    · obtain ⟨b0, b1, b2, b3, b4, b5, hcp, b6, rst_⟩ := h
      obtain ⟨f6, b7, f7, e0, e1, e2, e3, e4, rst_⟩ := rst_
      obtain ⟨e5, e6, e7, e8, e9, e10, e11, e12, rst_⟩ := rst_
      obtain ⟨e13, e14, e15, e16, e17, e18, e19, e20, rst_⟩ := rst_
      obtain ⟨e21, e22, e23, e24, e25, e26, e27, e28, rst_⟩ := rst_
      obtain ⟨e29, e30, e31, e32, e33, e34⟩ := rst_
      have g6 : b6.toInt = b.toInt + 1 := by rw [f6]; exact mi_addc (by decide) (by omega) (by omega)
      have gm1 : ktheatres.toInt < b.toInt + 1 → b7.toInt = b.toInt + 1 := fun q => by rw [f7, if_pos (mi_lt.mpr (by omega))]; exact g6
      have gm2 : b.toInt + 1 ≤ ktheatres.toInt → b7 = ktheatres := fun q => by rw [f7, if_neg (fun z => by have := mi_lt.mp z; omega)]
      have hcp := tcopy_sp hcp
      exact ⟨fun q => by rw [e0]; exact gm1 q, fun q => by rw [e0]; exact gm2 q, e3, e4, e5, e6, e7, e8, (fun i hi => by rw [e9]; exact hcp.1 i hi), (fun i hi => by rw [e10]; exact hcp.2.1 i hi), (fun i hi => by rw [e11]; exact hcp.2.2.1 i hi), (fun i hi => by rw [e12]; exact hcp.2.2.2.1 i hi), (fun i hi => by rw [e13]; exact hcp.2.2.2.2.1 i hi), (fun i hi => by rw [e14]; exact hcp.2.2.2.2.2 i hi), e1, e2, e15, e16, e17, e18, e19, e20, e21, e22, e23, e24, e25, e26, e27, e28, e29, e30, e31, e32, e33, e34⟩
theorem put_01 {a : Int32} {b : Int32} {rd_halves : Nat → Int32} {ksd_halves : Nat → Int32} {kdarks : Int32} {ktheatres : Int32} {kbooks : Int32} {kftpalms : Int32} {kftactors : Int32} {kftusurers : Int32} {kftrate : Int32} {kftchest : Int32} {kftborrowers : Int32} {kft_claps : Nat → Int32} {kft_hands : Nat → Int32} {kft_hunger : Nat → Int32} {kft_saved : Nat → Int32} {kft_asks : Nat → Int32} {kft_floors : Nat → Int32} {kstpalms : Int32} {kstactors : Int32} {kstusurers : Int32} {kstrate : Int32} {kstchest : Int32} {kstborrowers : Int32} {kst_claps : Nat → Int32} {kst_hands : Nat → Int32} {kst_hunger : Nat → Int32} {kst_saved : Nat → Int32} {kst_asks : Nat → Int32} {kst_floors : Nat → Int32} {kfbdeeds : Int32} {kfb_parts : Nat → Int32} {ksbdeeds : Int32} {ksb_parts : Nat → Int32} {kfdmin : Int32} {kfd_halves : Nat → Int32} {rdmin : Int32} {ksdmin : Int32} {rb_parts : Nat → Int32} {rbdeeds : Int32} {rt_claps : Nat → Int32} {rt_hands : Nat → Int32} {rt_hunger : Nat → Int32} {rt_saved : Nat → Int32} {rt_asks : Nat → Int32} {rt_floors : Nat → Int32} {rtpalms : Int32} {rtactors : Int32} {rtusurers : Int32} {rtrate : Int32} {rtchest : Int32} {rtborrowers : Int32} {u0 : Int32} {u1 : Int32} {u2 : Int32} {u3 : Int32} {u4 : Int32} {u5 : Int32} {u6 : Int32} {u7 : Int32} {u8 : Int32} {u9 : Nat → Int32} {u10 : Nat → Int32} {u11 : Nat → Int32} {u12 : Nat → Int32} {u13 : Nat → Int32} {u14 : Nat → Int32} {u15 : Int32} {u16 : Int32} {u17 : Int32} {u18 : Int32} {u19 : Int32} {u20 : Int32} {u21 : Nat → Int32} {u22 : Nat → Int32} {u23 : Nat → Int32} {u24 : Nat → Int32} {u25 : Nat → Int32} {u26 : Nat → Int32} {u27 : Int32} {u28 : Nat → Int32} {u29 : Int32} {u30 : Nat → Int32} {u31 : Int32} {u32 : Nat → Int32} {u33 : Int32} {u34 : Nat → Int32} (ha : a.toInt = 0) (hb : b.toInt = 1) (hc : 0 ≤ ktheatres.toInt ∧ ktheatres.toInt ≤ 2) (h : R_k_put a b rd_halves ksd_halves kdarks ktheatres kbooks kftpalms kftactors kftusurers kftrate kftchest kftborrowers kft_claps kft_hands kft_hunger kft_saved kft_asks kft_floors kstpalms kstactors kstusurers kstrate kstchest kstborrowers kst_claps kst_hands kst_hunger kst_saved kst_asks kst_floors kfbdeeds kfb_parts ksbdeeds ksb_parts kfdmin kfd_halves rdmin ksdmin rb_parts rbdeeds rt_claps rt_hands rt_hunger rt_saved rt_asks rt_floors rtpalms rtactors rtusurers rtrate rtchest rtborrowers u0 u1 u2 u3 u4 u5 u6 u7 u8 u9 u10 u11 u12 u13 u14 u15 u16 u17 u18 u19 u20 u21 u22 u23 u24 u25 u26 u27 u28 u29 u30 u31 u32 u33 u34) : (ktheatres.toInt < b.toInt + 1 → u0.toInt = b.toInt + 1) ∧ (b.toInt + 1 ≤ ktheatres.toInt → u0 = ktheatres) ∧ u15 = rtpalms ∧ u16 = rtactors ∧ u17 = rtusurers ∧ u18 = rtrate ∧ u19 = rtchest ∧ u20 = rtborrowers ∧ (∀ i : Nat, i < 5 → u21 i = rt_claps i) ∧ (∀ i : Nat, i < 5 → u22 i = rt_hands i) ∧ (∀ i : Nat, i < 6 → u23 i = rt_hunger i) ∧ (∀ i : Nat, i < 6 → u24 i = rt_saved i) ∧ (∀ i : Nat, i < 4 → u25 i = rt_asks i) ∧ (∀ i : Nat, i < 4 → u26 i = rt_floors i) ∧ u1 = kbooks ∧ u2 = kdarks ∧ u3 = kftpalms ∧ u4 = kftactors ∧ u5 = kftusurers ∧ u6 = kftrate ∧ u7 = kftchest ∧ u8 = kftborrowers ∧ u9 = kft_claps ∧ u10 = kft_hands ∧ u11 = kft_hunger ∧ u12 = kft_saved ∧ u13 = kft_asks ∧ u14 = kft_floors ∧ u27 = kfbdeeds ∧ u28 = kfb_parts ∧ u29 = ksbdeeds ∧ u30 = ksb_parts ∧ u31 = kfdmin ∧ u32 = kfd_halves ∧ u33 = ksdmin ∧ u34 = ksd_halves := by
  rcases h with ⟨c, h⟩ | ⟨c, h⟩
  · omega
  · rcases h with ⟨c2, h⟩ | ⟨c2, h⟩
    · obtain ⟨b0, b1, b2, b3, b4, b5, hcp, b6, rst_⟩ := h
      obtain ⟨f6, b7, f7, e0, e1, e2, e3, e4, rst_⟩ := rst_
      obtain ⟨e5, e6, e7, e8, e9, e10, e11, e12, rst_⟩ := rst_
      obtain ⟨e13, e14, e15, e16, e17, e18, e19, e20, rst_⟩ := rst_
      obtain ⟨e21, e22, e23, e24, e25, e26, e27, e28, rst_⟩ := rst_
      obtain ⟨e29, e30, e31, e32, e33, e34⟩ := rst_
      have g6 : b6.toInt = b.toInt + 1 := by rw [f6]; exact mi_addc (by decide) (by omega) (by omega)
      have gm1 : ktheatres.toInt < b.toInt + 1 → b7.toInt = b.toInt + 1 := fun q => by rw [f7, if_pos (mi_lt.mpr (by omega))]; exact g6
      have gm2 : b.toInt + 1 ≤ ktheatres.toInt → b7 = ktheatres := fun q => by rw [f7, if_neg (fun z => by have := mi_lt.mp z; omega)]
      have hcp := tcopy_sp hcp
      exact ⟨fun q => by rw [e0]; exact gm1 q, fun q => by rw [e0]; exact gm2 q, e15, e16, e17, e18, e19, e20, (fun i hi => by rw [e21]; exact hcp.1 i hi), (fun i hi => by rw [e22]; exact hcp.2.1 i hi), (fun i hi => by rw [e23]; exact hcp.2.2.1 i hi), (fun i hi => by rw [e24]; exact hcp.2.2.2.1 i hi), (fun i hi => by rw [e25]; exact hcp.2.2.2.2.1 i hi), (fun i hi => by rw [e26]; exact hcp.2.2.2.2.2 i hi), e1, e2, e3, e4, e5, e6, e7, e8, e9, e10, e11, e12, e13, e14, e27, e28, e29, e30, e31, e32, e33, e34⟩
    · omega
theorem put_10 {a : Int32} {b : Int32} {rd_halves : Nat → Int32} {ksd_halves : Nat → Int32} {kdarks : Int32} {ktheatres : Int32} {kbooks : Int32} {kftpalms : Int32} {kftactors : Int32} {kftusurers : Int32} {kftrate : Int32} {kftchest : Int32} {kftborrowers : Int32} {kft_claps : Nat → Int32} {kft_hands : Nat → Int32} {kft_hunger : Nat → Int32} {kft_saved : Nat → Int32} {kft_asks : Nat → Int32} {kft_floors : Nat → Int32} {kstpalms : Int32} {kstactors : Int32} {kstusurers : Int32} {kstrate : Int32} {kstchest : Int32} {kstborrowers : Int32} {kst_claps : Nat → Int32} {kst_hands : Nat → Int32} {kst_hunger : Nat → Int32} {kst_saved : Nat → Int32} {kst_asks : Nat → Int32} {kst_floors : Nat → Int32} {kfbdeeds : Int32} {kfb_parts : Nat → Int32} {ksbdeeds : Int32} {ksb_parts : Nat → Int32} {kfdmin : Int32} {kfd_halves : Nat → Int32} {rdmin : Int32} {ksdmin : Int32} {rb_parts : Nat → Int32} {rbdeeds : Int32} {rt_claps : Nat → Int32} {rt_hands : Nat → Int32} {rt_hunger : Nat → Int32} {rt_saved : Nat → Int32} {rt_asks : Nat → Int32} {rt_floors : Nat → Int32} {rtpalms : Int32} {rtactors : Int32} {rtusurers : Int32} {rtrate : Int32} {rtchest : Int32} {rtborrowers : Int32} {u0 : Int32} {u1 : Int32} {u2 : Int32} {u3 : Int32} {u4 : Int32} {u5 : Int32} {u6 : Int32} {u7 : Int32} {u8 : Int32} {u9 : Nat → Int32} {u10 : Nat → Int32} {u11 : Nat → Int32} {u12 : Nat → Int32} {u13 : Nat → Int32} {u14 : Nat → Int32} {u15 : Int32} {u16 : Int32} {u17 : Int32} {u18 : Int32} {u19 : Int32} {u20 : Int32} {u21 : Nat → Int32} {u22 : Nat → Int32} {u23 : Nat → Int32} {u24 : Nat → Int32} {u25 : Nat → Int32} {u26 : Nat → Int32} {u27 : Int32} {u28 : Nat → Int32} {u29 : Int32} {u30 : Nat → Int32} {u31 : Int32} {u32 : Nat → Int32} {u33 : Int32} {u34 : Nat → Int32} (ha : a.toInt = 1) (hb : b.toInt = 0) (hc : 0 ≤ kbooks.toInt ∧ kbooks.toInt ≤ 2) (h : R_k_put a b rd_halves ksd_halves kdarks ktheatres kbooks kftpalms kftactors kftusurers kftrate kftchest kftborrowers kft_claps kft_hands kft_hunger kft_saved kft_asks kft_floors kstpalms kstactors kstusurers kstrate kstchest kstborrowers kst_claps kst_hands kst_hunger kst_saved kst_asks kst_floors kfbdeeds kfb_parts ksbdeeds ksb_parts kfdmin kfd_halves rdmin ksdmin rb_parts rbdeeds rt_claps rt_hands rt_hunger rt_saved rt_asks rt_floors rtpalms rtactors rtusurers rtrate rtchest rtborrowers u0 u1 u2 u3 u4 u5 u6 u7 u8 u9 u10 u11 u12 u13 u14 u15 u16 u17 u18 u19 u20 u21 u22 u23 u24 u25 u26 u27 u28 u29 u30 u31 u32 u33 u34) : (kbooks.toInt < b.toInt + 1 → u1.toInt = b.toInt + 1) ∧ (b.toInt + 1 ≤ kbooks.toInt → u1 = kbooks) ∧ u27 = rbdeeds ∧ (∀ i : Nat, i < 120 → u28 i = rb_parts i) ∧ u0 = ktheatres ∧ u2 = kdarks ∧ u3 = kftpalms ∧ u4 = kftactors ∧ u5 = kftusurers ∧ u6 = kftrate ∧ u7 = kftchest ∧ u8 = kftborrowers ∧ u9 = kft_claps ∧ u10 = kft_hands ∧ u11 = kft_hunger ∧ u12 = kft_saved ∧ u13 = kft_asks ∧ u14 = kft_floors ∧ u15 = kstpalms ∧ u16 = kstactors ∧ u17 = kstusurers ∧ u18 = kstrate ∧ u19 = kstchest ∧ u20 = kstborrowers ∧ u21 = kst_claps ∧ u22 = kst_hands ∧ u23 = kst_hunger ∧ u24 = kst_saved ∧ u25 = kst_asks ∧ u26 = kst_floors ∧ u29 = ksbdeeds ∧ u30 = ksb_parts ∧ u31 = kfdmin ∧ u32 = kfd_halves ∧ u33 = ksdmin ∧ u34 = ksd_halves := by
  rcases h with ⟨c, h⟩ | ⟨c, h⟩
  · rcases h with ⟨c2, h⟩ | ⟨c2, h⟩
    · omega
    · rcases h with ⟨c3, h⟩ | ⟨c3, h⟩
      · omega
      · obtain ⟨b0, hcp, b6, f6, b7, f7, e0, e1, rst_⟩ := h
        obtain ⟨e2, e3, e4, e5, e6, e7, e8, e9, rst_⟩ := rst_
        obtain ⟨e10, e11, e12, e13, e14, e15, e16, e17, rst_⟩ := rst_
        obtain ⟨e18, e19, e20, e21, e22, e23, e24, e25, rst_⟩ := rst_
        obtain ⟨e26, e27, e28, e29, e30, e31, e32, e33, e34⟩ := rst_
        have g6 : b6.toInt = b.toInt + 1 := by rw [f6]; exact mi_addc (by decide) (by omega) (by omega)
        have gm1 : kbooks.toInt < b.toInt + 1 → b7.toInt = b.toInt + 1 := fun q => by rw [f7, if_pos (mi_lt.mpr (by omega))]; exact g6
        have gm2 : b.toInt + 1 ≤ kbooks.toInt → b7 = kbooks := fun q => by rw [f7, if_neg (fun z => by have := mi_lt.mp z; omega)]
        have hcp := bcopy_sp hcp
        exact ⟨fun q => by rw [e1]; exact gm1 q, fun q => by rw [e1]; exact gm2 q, e27, (fun i hi => by rw [e28]; exact hcp i hi), e0, e2, e3, e4, e5, e6, e7, e8, e9, e10, e11, e12, e13, e14, e15, e16, e17, e18, e19, e20, e21, e22, e23, e24, e25, e26, e29, e30, e31, e32, e33, e34⟩
  · omega
theorem put_11 {a : Int32} {b : Int32} {rd_halves : Nat → Int32} {ksd_halves : Nat → Int32} {kdarks : Int32} {ktheatres : Int32} {kbooks : Int32} {kftpalms : Int32} {kftactors : Int32} {kftusurers : Int32} {kftrate : Int32} {kftchest : Int32} {kftborrowers : Int32} {kft_claps : Nat → Int32} {kft_hands : Nat → Int32} {kft_hunger : Nat → Int32} {kft_saved : Nat → Int32} {kft_asks : Nat → Int32} {kft_floors : Nat → Int32} {kstpalms : Int32} {kstactors : Int32} {kstusurers : Int32} {kstrate : Int32} {kstchest : Int32} {kstborrowers : Int32} {kst_claps : Nat → Int32} {kst_hands : Nat → Int32} {kst_hunger : Nat → Int32} {kst_saved : Nat → Int32} {kst_asks : Nat → Int32} {kst_floors : Nat → Int32} {kfbdeeds : Int32} {kfb_parts : Nat → Int32} {ksbdeeds : Int32} {ksb_parts : Nat → Int32} {kfdmin : Int32} {kfd_halves : Nat → Int32} {rdmin : Int32} {ksdmin : Int32} {rb_parts : Nat → Int32} {rbdeeds : Int32} {rt_claps : Nat → Int32} {rt_hands : Nat → Int32} {rt_hunger : Nat → Int32} {rt_saved : Nat → Int32} {rt_asks : Nat → Int32} {rt_floors : Nat → Int32} {rtpalms : Int32} {rtactors : Int32} {rtusurers : Int32} {rtrate : Int32} {rtchest : Int32} {rtborrowers : Int32} {u0 : Int32} {u1 : Int32} {u2 : Int32} {u3 : Int32} {u4 : Int32} {u5 : Int32} {u6 : Int32} {u7 : Int32} {u8 : Int32} {u9 : Nat → Int32} {u10 : Nat → Int32} {u11 : Nat → Int32} {u12 : Nat → Int32} {u13 : Nat → Int32} {u14 : Nat → Int32} {u15 : Int32} {u16 : Int32} {u17 : Int32} {u18 : Int32} {u19 : Int32} {u20 : Int32} {u21 : Nat → Int32} {u22 : Nat → Int32} {u23 : Nat → Int32} {u24 : Nat → Int32} {u25 : Nat → Int32} {u26 : Nat → Int32} {u27 : Int32} {u28 : Nat → Int32} {u29 : Int32} {u30 : Nat → Int32} {u31 : Int32} {u32 : Nat → Int32} {u33 : Int32} {u34 : Nat → Int32} (ha : a.toInt = 1) (hb : b.toInt = 1) (hc : 0 ≤ kbooks.toInt ∧ kbooks.toInt ≤ 2) (h : R_k_put a b rd_halves ksd_halves kdarks ktheatres kbooks kftpalms kftactors kftusurers kftrate kftchest kftborrowers kft_claps kft_hands kft_hunger kft_saved kft_asks kft_floors kstpalms kstactors kstusurers kstrate kstchest kstborrowers kst_claps kst_hands kst_hunger kst_saved kst_asks kst_floors kfbdeeds kfb_parts ksbdeeds ksb_parts kfdmin kfd_halves rdmin ksdmin rb_parts rbdeeds rt_claps rt_hands rt_hunger rt_saved rt_asks rt_floors rtpalms rtactors rtusurers rtrate rtchest rtborrowers u0 u1 u2 u3 u4 u5 u6 u7 u8 u9 u10 u11 u12 u13 u14 u15 u16 u17 u18 u19 u20 u21 u22 u23 u24 u25 u26 u27 u28 u29 u30 u31 u32 u33 u34) : (kbooks.toInt < b.toInt + 1 → u1.toInt = b.toInt + 1) ∧ (b.toInt + 1 ≤ kbooks.toInt → u1 = kbooks) ∧ u29 = rbdeeds ∧ (∀ i : Nat, i < 120 → u30 i = rb_parts i) ∧ u0 = ktheatres ∧ u2 = kdarks ∧ u3 = kftpalms ∧ u4 = kftactors ∧ u5 = kftusurers ∧ u6 = kftrate ∧ u7 = kftchest ∧ u8 = kftborrowers ∧ u9 = kft_claps ∧ u10 = kft_hands ∧ u11 = kft_hunger ∧ u12 = kft_saved ∧ u13 = kft_asks ∧ u14 = kft_floors ∧ u15 = kstpalms ∧ u16 = kstactors ∧ u17 = kstusurers ∧ u18 = kstrate ∧ u19 = kstchest ∧ u20 = kstborrowers ∧ u21 = kst_claps ∧ u22 = kst_hands ∧ u23 = kst_hunger ∧ u24 = kst_saved ∧ u25 = kst_asks ∧ u26 = kst_floors ∧ u27 = kfbdeeds ∧ u28 = kfb_parts ∧ u31 = kfdmin ∧ u32 = kfd_halves ∧ u33 = ksdmin ∧ u34 = ksd_halves := by
  rcases h with ⟨c, h⟩ | ⟨c, h⟩
  · rcases h with ⟨c2, h⟩ | ⟨c2, h⟩
    · omega
    · rcases h with ⟨c3, h⟩ | ⟨c3, h⟩
      · obtain ⟨b0, hcp, b6, f6, b7, f7, e0, e1, rst_⟩ := h
        obtain ⟨e2, e3, e4, e5, e6, e7, e8, e9, rst_⟩ := rst_
        obtain ⟨e10, e11, e12, e13, e14, e15, e16, e17, rst_⟩ := rst_
        obtain ⟨e18, e19, e20, e21, e22, e23, e24, e25, rst_⟩ := rst_
        obtain ⟨e26, e27, e28, e29, e30, e31, e32, e33, e34⟩ := rst_
        have g6 : b6.toInt = b.toInt + 1 := by rw [f6]; exact mi_addc (by decide) (by omega) (by omega)
        have gm1 : kbooks.toInt < b.toInt + 1 → b7.toInt = b.toInt + 1 := fun q => by rw [f7, if_pos (mi_lt.mpr (by omega))]; exact g6
        have gm2 : b.toInt + 1 ≤ kbooks.toInt → b7 = kbooks := fun q => by rw [f7, if_neg (fun z => by have := mi_lt.mp z; omega)]
        have hcp := bcopy_sp hcp
        exact ⟨fun q => by rw [e1]; exact gm1 q, fun q => by rw [e1]; exact gm2 q, e29, (fun i hi => by rw [e30]; exact hcp i hi), e0, e2, e3, e4, e5, e6, e7, e8, e9, e10, e11, e12, e13, e14, e15, e16, e17, e18, e19, e20, e21, e22, e23, e24, e25, e26, e27, e28, e31, e32, e33, e34⟩
      · omega
  · omega
theorem put_20 {a : Int32} {b : Int32} {rd_halves : Nat → Int32} {ksd_halves : Nat → Int32} {kdarks : Int32} {ktheatres : Int32} {kbooks : Int32} {kftpalms : Int32} {kftactors : Int32} {kftusurers : Int32} {kftrate : Int32} {kftchest : Int32} {kftborrowers : Int32} {kft_claps : Nat → Int32} {kft_hands : Nat → Int32} {kft_hunger : Nat → Int32} {kft_saved : Nat → Int32} {kft_asks : Nat → Int32} {kft_floors : Nat → Int32} {kstpalms : Int32} {kstactors : Int32} {kstusurers : Int32} {kstrate : Int32} {kstchest : Int32} {kstborrowers : Int32} {kst_claps : Nat → Int32} {kst_hands : Nat → Int32} {kst_hunger : Nat → Int32} {kst_saved : Nat → Int32} {kst_asks : Nat → Int32} {kst_floors : Nat → Int32} {kfbdeeds : Int32} {kfb_parts : Nat → Int32} {ksbdeeds : Int32} {ksb_parts : Nat → Int32} {kfdmin : Int32} {kfd_halves : Nat → Int32} {rdmin : Int32} {ksdmin : Int32} {rb_parts : Nat → Int32} {rbdeeds : Int32} {rt_claps : Nat → Int32} {rt_hands : Nat → Int32} {rt_hunger : Nat → Int32} {rt_saved : Nat → Int32} {rt_asks : Nat → Int32} {rt_floors : Nat → Int32} {rtpalms : Int32} {rtactors : Int32} {rtusurers : Int32} {rtrate : Int32} {rtchest : Int32} {rtborrowers : Int32} {u0 : Int32} {u1 : Int32} {u2 : Int32} {u3 : Int32} {u4 : Int32} {u5 : Int32} {u6 : Int32} {u7 : Int32} {u8 : Int32} {u9 : Nat → Int32} {u10 : Nat → Int32} {u11 : Nat → Int32} {u12 : Nat → Int32} {u13 : Nat → Int32} {u14 : Nat → Int32} {u15 : Int32} {u16 : Int32} {u17 : Int32} {u18 : Int32} {u19 : Int32} {u20 : Int32} {u21 : Nat → Int32} {u22 : Nat → Int32} {u23 : Nat → Int32} {u24 : Nat → Int32} {u25 : Nat → Int32} {u26 : Nat → Int32} {u27 : Int32} {u28 : Nat → Int32} {u29 : Int32} {u30 : Nat → Int32} {u31 : Int32} {u32 : Nat → Int32} {u33 : Int32} {u34 : Nat → Int32} (ha : a.toInt = 2) (hb : b.toInt = 0) (hc : 0 ≤ kdarks.toInt ∧ kdarks.toInt ≤ 2) (h : R_k_put a b rd_halves ksd_halves kdarks ktheatres kbooks kftpalms kftactors kftusurers kftrate kftchest kftborrowers kft_claps kft_hands kft_hunger kft_saved kft_asks kft_floors kstpalms kstactors kstusurers kstrate kstchest kstborrowers kst_claps kst_hands kst_hunger kst_saved kst_asks kst_floors kfbdeeds kfb_parts ksbdeeds ksb_parts kfdmin kfd_halves rdmin ksdmin rb_parts rbdeeds rt_claps rt_hands rt_hunger rt_saved rt_asks rt_floors rtpalms rtactors rtusurers rtrate rtchest rtborrowers u0 u1 u2 u3 u4 u5 u6 u7 u8 u9 u10 u11 u12 u13 u14 u15 u16 u17 u18 u19 u20 u21 u22 u23 u24 u25 u26 u27 u28 u29 u30 u31 u32 u33 u34) : (kdarks.toInt < b.toInt + 1 → u2.toInt = b.toInt + 1) ∧ (b.toInt + 1 ≤ kdarks.toInt → u2 = kdarks) ∧ u31 = rdmin ∧ (∀ i : Nat, i < 6 → u32 i = rd_halves i) ∧ u0 = ktheatres ∧ u1 = kbooks ∧ u3 = kftpalms ∧ u4 = kftactors ∧ u5 = kftusurers ∧ u6 = kftrate ∧ u7 = kftchest ∧ u8 = kftborrowers ∧ u9 = kft_claps ∧ u10 = kft_hands ∧ u11 = kft_hunger ∧ u12 = kft_saved ∧ u13 = kft_asks ∧ u14 = kft_floors ∧ u15 = kstpalms ∧ u16 = kstactors ∧ u17 = kstusurers ∧ u18 = kstrate ∧ u19 = kstchest ∧ u20 = kstborrowers ∧ u21 = kst_claps ∧ u22 = kst_hands ∧ u23 = kst_hunger ∧ u24 = kst_saved ∧ u25 = kst_asks ∧ u26 = kst_floors ∧ u27 = kfbdeeds ∧ u28 = kfb_parts ∧ u29 = ksbdeeds ∧ u30 = ksb_parts ∧ u33 = ksdmin ∧ u34 = ksd_halves := by
  rcases h with ⟨c, h⟩ | ⟨c, h⟩
  · rcases h with ⟨c2, h⟩ | ⟨c2, h⟩
    · rcases h with ⟨c3, h⟩ | ⟨c3, h⟩
      · omega
      · obtain ⟨b0, hcp, b6, f6, b7, f7, e0, e1, rst_⟩ := h
        obtain ⟨e2, e3, e4, e5, e6, e7, e8, e9, rst_⟩ := rst_
        obtain ⟨e10, e11, e12, e13, e14, e15, e16, e17, rst_⟩ := rst_
        obtain ⟨e18, e19, e20, e21, e22, e23, e24, e25, rst_⟩ := rst_
        obtain ⟨e26, e27, e28, e29, e30, e31, e32, e33, e34⟩ := rst_
        have g6 : b6.toInt = b.toInt + 1 := by rw [f6]; exact mi_addc (by decide) (by omega) (by omega)
        have gm1 : kdarks.toInt < b.toInt + 1 → b7.toInt = b.toInt + 1 := fun q => by rw [f7, if_pos (mi_lt.mpr (by omega))]; exact g6
        have gm2 : b.toInt + 1 ≤ kdarks.toInt → b7 = kdarks := fun q => by rw [f7, if_neg (fun z => by have := mi_lt.mp z; omega)]
        have hcp := dcopy_sp hcp
        exact ⟨fun q => by rw [e2]; exact gm1 q, fun q => by rw [e2]; exact gm2 q, e31, (fun i hi => by rw [e32]; exact hcp i hi), e0, e1, e3, e4, e5, e6, e7, e8, e9, e10, e11, e12, e13, e14, e15, e16, e17, e18, e19, e20, e21, e22, e23, e24, e25, e26, e27, e28, e29, e30, e33, e34⟩
    · omega
  · omega
theorem put_21 {a : Int32} {b : Int32} {rd_halves : Nat → Int32} {ksd_halves : Nat → Int32} {kdarks : Int32} {ktheatres : Int32} {kbooks : Int32} {kftpalms : Int32} {kftactors : Int32} {kftusurers : Int32} {kftrate : Int32} {kftchest : Int32} {kftborrowers : Int32} {kft_claps : Nat → Int32} {kft_hands : Nat → Int32} {kft_hunger : Nat → Int32} {kft_saved : Nat → Int32} {kft_asks : Nat → Int32} {kft_floors : Nat → Int32} {kstpalms : Int32} {kstactors : Int32} {kstusurers : Int32} {kstrate : Int32} {kstchest : Int32} {kstborrowers : Int32} {kst_claps : Nat → Int32} {kst_hands : Nat → Int32} {kst_hunger : Nat → Int32} {kst_saved : Nat → Int32} {kst_asks : Nat → Int32} {kst_floors : Nat → Int32} {kfbdeeds : Int32} {kfb_parts : Nat → Int32} {ksbdeeds : Int32} {ksb_parts : Nat → Int32} {kfdmin : Int32} {kfd_halves : Nat → Int32} {rdmin : Int32} {ksdmin : Int32} {rb_parts : Nat → Int32} {rbdeeds : Int32} {rt_claps : Nat → Int32} {rt_hands : Nat → Int32} {rt_hunger : Nat → Int32} {rt_saved : Nat → Int32} {rt_asks : Nat → Int32} {rt_floors : Nat → Int32} {rtpalms : Int32} {rtactors : Int32} {rtusurers : Int32} {rtrate : Int32} {rtchest : Int32} {rtborrowers : Int32} {u0 : Int32} {u1 : Int32} {u2 : Int32} {u3 : Int32} {u4 : Int32} {u5 : Int32} {u6 : Int32} {u7 : Int32} {u8 : Int32} {u9 : Nat → Int32} {u10 : Nat → Int32} {u11 : Nat → Int32} {u12 : Nat → Int32} {u13 : Nat → Int32} {u14 : Nat → Int32} {u15 : Int32} {u16 : Int32} {u17 : Int32} {u18 : Int32} {u19 : Int32} {u20 : Int32} {u21 : Nat → Int32} {u22 : Nat → Int32} {u23 : Nat → Int32} {u24 : Nat → Int32} {u25 : Nat → Int32} {u26 : Nat → Int32} {u27 : Int32} {u28 : Nat → Int32} {u29 : Int32} {u30 : Nat → Int32} {u31 : Int32} {u32 : Nat → Int32} {u33 : Int32} {u34 : Nat → Int32} (ha : a.toInt = 2) (hb : b.toInt = 1) (hc : 0 ≤ kdarks.toInt ∧ kdarks.toInt ≤ 2) (h : R_k_put a b rd_halves ksd_halves kdarks ktheatres kbooks kftpalms kftactors kftusurers kftrate kftchest kftborrowers kft_claps kft_hands kft_hunger kft_saved kft_asks kft_floors kstpalms kstactors kstusurers kstrate kstchest kstborrowers kst_claps kst_hands kst_hunger kst_saved kst_asks kst_floors kfbdeeds kfb_parts ksbdeeds ksb_parts kfdmin kfd_halves rdmin ksdmin rb_parts rbdeeds rt_claps rt_hands rt_hunger rt_saved rt_asks rt_floors rtpalms rtactors rtusurers rtrate rtchest rtborrowers u0 u1 u2 u3 u4 u5 u6 u7 u8 u9 u10 u11 u12 u13 u14 u15 u16 u17 u18 u19 u20 u21 u22 u23 u24 u25 u26 u27 u28 u29 u30 u31 u32 u33 u34) : (kdarks.toInt < b.toInt + 1 → u2.toInt = b.toInt + 1) ∧ (b.toInt + 1 ≤ kdarks.toInt → u2 = kdarks) ∧ u33 = rdmin ∧ (∀ i : Nat, i < 6 → u34 i = rd_halves i) ∧ u0 = ktheatres ∧ u1 = kbooks ∧ u3 = kftpalms ∧ u4 = kftactors ∧ u5 = kftusurers ∧ u6 = kftrate ∧ u7 = kftchest ∧ u8 = kftborrowers ∧ u9 = kft_claps ∧ u10 = kft_hands ∧ u11 = kft_hunger ∧ u12 = kft_saved ∧ u13 = kft_asks ∧ u14 = kft_floors ∧ u15 = kstpalms ∧ u16 = kstactors ∧ u17 = kstusurers ∧ u18 = kstrate ∧ u19 = kstchest ∧ u20 = kstborrowers ∧ u21 = kst_claps ∧ u22 = kst_hands ∧ u23 = kst_hunger ∧ u24 = kst_saved ∧ u25 = kst_asks ∧ u26 = kst_floors ∧ u27 = kfbdeeds ∧ u28 = kfb_parts ∧ u29 = ksbdeeds ∧ u30 = ksb_parts ∧ u31 = kfdmin ∧ u32 = kfd_halves := by
  rcases h with ⟨c, h⟩ | ⟨c, h⟩
  · rcases h with ⟨c2, h⟩ | ⟨c2, h⟩
    · rcases h with ⟨c3, h⟩ | ⟨c3, h⟩
      · obtain ⟨b0, hcp, b6, f6, b7, f7, e0, e1, rst_⟩ := h
        obtain ⟨e2, e3, e4, e5, e6, e7, e8, e9, rst_⟩ := rst_
        obtain ⟨e10, e11, e12, e13, e14, e15, e16, e17, rst_⟩ := rst_
        obtain ⟨e18, e19, e20, e21, e22, e23, e24, e25, rst_⟩ := rst_
        obtain ⟨e26, e27, e28, e29, e30, e31, e32, e33, e34⟩ := rst_
        have g6 : b6.toInt = b.toInt + 1 := by rw [f6]; exact mi_addc (by decide) (by omega) (by omega)
        have gm1 : kdarks.toInt < b.toInt + 1 → b7.toInt = b.toInt + 1 := fun q => by rw [f7, if_pos (mi_lt.mpr (by omega))]; exact g6
        have gm2 : b.toInt + 1 ≤ kdarks.toInt → b7 = kdarks := fun q => by rw [f7, if_neg (fun z => by have := mi_lt.mp z; omega)]
        have hcp := dcopy_sp hcp
        exact ⟨fun q => by rw [e2]; exact gm1 q, fun q => by rw [e2]; exact gm2 q, e33, (fun i hi => by rw [e34]; exact hcp i hi), e0, e1, e3, e4, e5, e6, e7, e8, e9, e10, e11, e12, e13, e14, e15, e16, e17, e18, e19, e20, e21, e22, e23, e24, e25, e26, e27, e28, e29, e30, e31, e32⟩
      · omega
    · omega
  · omega
