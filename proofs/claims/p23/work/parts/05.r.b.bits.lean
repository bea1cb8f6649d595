/-! bits of small numbers -/
theorem and1 (v : Int32) : (v &&& 1).toInt = 0 ∨ (v &&& 1).toInt = 1 := by
  have hn : (v.toBitVec &&& 1#32).toNat = v.toBitVec.toNat % 2 := by
    rw [BitVec.toNat_and]; exact Nat.and_two_pow_sub_one_eq_mod _ 1
  have e : (v &&& 1).toInt = (v.toBitVec &&& 1#32).toInt := rfl
  rw [e, BitVec.toInt_eq_toNat_cond, hn, if_pos (by omega)]
  omega
/-- bit k of L -/
def lvb (L : Int32) (k : Nat) : Bool := Nat.testBit L.toInt.toNat k
theorem of64 {L : Int32} (h : 0 ≤ L.toInt ∧ L.toInt ≤ 63) : ∃ n : Fin 64, L = Int32.ofNat n.val := by
  refine ⟨⟨L.toInt.toNat, by omega⟩, mi_eq ?_⟩
  rw [Int32.toInt_ofNat_of_lt (by show L.toInt.toNat < 2 ^ 31; omega)]
  show L.toInt = ((L.toInt.toNat : Nat) : Int)
  omega
theorem of6 {L : Int32} (h : 0 ≤ L.toInt ∧ L.toInt ≤ 5) : ∃ n : Fin 6, L = Int32.ofNat n.val := by
  refine ⟨⟨L.toInt.toNat, by omega⟩, mi_eq ?_⟩
  rw [Int32.toInt_ofNat_of_lt (by show L.toInt.toNat < 2 ^ 31; omega)]
  show L.toInt = ((L.toInt.toNat : Nat) : Int)
  omega
set_option maxRecDepth 100000 in
theorem tb_has : ∀ (x : Fin 64) (b : Fin 6), ((Int32.ofNat x.val >>> (Int32.ofNat b.val &&& 31)) &&& 1).toInt = if lvb (Int32.ofNat x.val) (Int32.ofNat b.val).toInt.toNat = true then 1 else 0 := by decide +kernel
set_option maxRecDepth 100000 in
theorem tb_or : ∀ (x : Fin 64) (b : Fin 6), (0 ≤ (Int32.ofNat x.val ||| (1 : Int32) <<< (Int32.ofNat b.val &&& 31)).toInt ∧ (Int32.ofNat x.val ||| (1 : Int32) <<< (Int32.ofNat b.val &&& 31)).toInt ≤ 63) ∧ ∀ k : Fin 6, lvb (Int32.ofNat x.val ||| (1 : Int32) <<< (Int32.ofNat b.val &&& 31)) k.val = (lvb (Int32.ofNat x.val) k.val || decide (k.val = (Int32.ofNat b.val).toInt.toNat)) := by decide +kernel
set_option maxRecDepth 100000 in
theorem tb_off : ∀ (x : Fin 64) (b : Fin 6), (0 ≤ (Int32.ofNat x.val &&& ((1 : Int32) <<< (Int32.ofNat b.val &&& 31) ^^^ -1)).toInt ∧ (Int32.ofNat x.val &&& ((1 : Int32) <<< (Int32.ofNat b.val &&& 31) ^^^ -1)).toInt ≤ 63) ∧ ∀ k : Fin 6, lvb (Int32.ofNat x.val &&& ((1 : Int32) <<< (Int32.ofNat b.val &&& 31) ^^^ -1)) k.val = (lvb (Int32.ofNat x.val) k.val && decide (k.val ≠ (Int32.ofNat b.val).toInt.toNat)) := by decide +kernel
set_option maxRecDepth 100000 in
theorem tb_eq : ∀ (x y : Fin 64), (∀ k : Fin 6, lvb (Int32.ofNat x.val) k.val = lvb (Int32.ofNat y.val) k.val) → x = y := by decide +kernel
set_option maxRecDepth 100000 in
theorem tb_full : ∀ (n : Fin 7), (0 ≤ ((1 : Int32) <<< (Int32.ofNat n.val &&& 31) - 1).toInt ∧ ((1 : Int32) <<< (Int32.ofNat n.val &&& 31) - 1).toInt ≤ 63) ∧ ∀ k : Fin 6, lvb ((1 : Int32) <<< (Int32.ofNat n.val &&& 31) - 1) k.val = decide (k.val < n.val) := by decide +kernel
theorem bt_has {L b : Int32} (hL : 0 ≤ L.toInt ∧ L.toInt ≤ 63) (hb : 0 ≤ b.toInt ∧ b.toInt ≤ 5) : ((L >>> (b &&& 31)) &&& 1).toInt = if lvb L b.toInt.toNat = true then 1 else 0 := by
  obtain ⟨x, rfl⟩ := of64 hL
  obtain ⟨y, rfl⟩ := of6 hb
  exact tb_has x y
theorem bt_or {L b : Int32} (hL : 0 ≤ L.toInt ∧ L.toInt ≤ 63) (hb : 0 ≤ b.toInt ∧ b.toInt ≤ 5) : (0 ≤ (L ||| (1 : Int32) <<< (b &&& 31)).toInt ∧ (L ||| (1 : Int32) <<< (b &&& 31)).toInt ≤ 63) ∧ ∀ k : Nat, k < 6 → lvb (L ||| (1 : Int32) <<< (b &&& 31)) k = (lvb L k || decide (k = b.toInt.toNat)) := by
  obtain ⟨x, rfl⟩ := of64 hL
  obtain ⟨y, rfl⟩ := of6 hb
  exact ⟨(tb_or x y).1, fun k hk => (tb_or x y).2 ⟨k, hk⟩⟩
theorem bt_off {L b : Int32} (hL : 0 ≤ L.toInt ∧ L.toInt ≤ 63) (hb : 0 ≤ b.toInt ∧ b.toInt ≤ 5) : (0 ≤ (L &&& ((1 : Int32) <<< (b &&& 31) ^^^ -1)).toInt ∧ (L &&& ((1 : Int32) <<< (b &&& 31) ^^^ -1)).toInt ≤ 63) ∧ ∀ k : Nat, k < 6 → lvb (L &&& ((1 : Int32) <<< (b &&& 31) ^^^ -1)) k = (lvb L k && decide (k ≠ b.toInt.toNat)) := by
  obtain ⟨x, rfl⟩ := of64 hL
  obtain ⟨y, rfl⟩ := of6 hb
  exact ⟨(tb_off x y).1, fun k hk => (tb_off x y).2 ⟨k, hk⟩⟩
theorem bt_eq {L M : Int32} (hL : 0 ≤ L.toInt ∧ L.toInt ≤ 63) (hM : 0 ≤ M.toInt ∧ M.toInt ≤ 63) (h : ∀ k : Nat, k < 6 → lvb L k = lvb M k) : L = M := by
  obtain ⟨x, rfl⟩ := of64 hL
  obtain ⟨y, rfl⟩ := of64 hM
  rw [tb_eq x y (fun k => h k.val k.isLt)]
theorem bt_full {n : Int32} (hn : 0 ≤ n.toInt ∧ n.toInt ≤ 6) : (0 ≤ ((1 : Int32) <<< (n &&& 31) - 1).toInt ∧ ((1 : Int32) <<< (n &&& 31) - 1).toInt ≤ 63) ∧ ∀ k : Nat, k < 6 → lvb ((1 : Int32) <<< (n &&& 31) - 1) k = decide ((k : Int) < n.toInt) := by
  have e : n = Int32.ofNat n.toInt.toNat := mi_eq (by
    rw [Int32.toInt_ofNat_of_lt (by show n.toInt.toNat < 2 ^ 31; omega)]
    omega)
  have h := tb_full ⟨n.toInt.toNat, by omega⟩
  have h1 : (0 ≤ ((1 : Int32) <<< (Int32.ofNat n.toInt.toNat &&& 31) - 1).toInt ∧ ((1 : Int32) <<< (Int32.ofNat n.toInt.toNat &&& 31) - 1).toInt ≤ 63) := h.1
  have h2 : ∀ k : Fin 6, lvb ((1 : Int32) <<< (Int32.ofNat n.toInt.toNat &&& 31) - 1) k.val = decide (k.val < n.toInt.toNat) := h.2
  rw [← e] at h1 h2
  refine ⟨h1, fun k hk => ?_⟩
  rw [h2 ⟨k, hk⟩]
  exact decide_eq_decide.mpr (show k < n.toInt.toNat ↔ (k : Int) < n.toInt from by omega)
/-- has(): for lives -/
theorem has_sp {L b u : Int32} (hL : 0 ≤ L.toInt ∧ L.toInt ≤ 63) (hb : 0 ≤ b.toInt ∧ b.toInt ≤ 5) (h : R_j_has L b u) : (lvb L b.toInt.toNat = true ∧ u = 1) ∨ (lvb L b.toInt.toNat = false ∧ u = 0) := by
  obtain ⟨z1, e1, z2, e2, h⟩ := h
  rw [e1] at e2
  have q := bt_has hL hb
  rw [← e2] at q
  rcases h with ⟨c, e⟩ | ⟨c, e⟩
  · right
    refine ⟨?_, e⟩
    by_cases k : lvb L b.toInt.toNat = true
    · rw [if_pos k] at q; exact absurd q c
    · exact Bool.eq_false_iff.mpr k
  · left
    refine ⟨?_, e⟩
    by_cases k : lvb L b.toInt.toNat = true
    · exact k
    · rw [if_neg k] at q; rw [q] at c; exact absurd c (by decide)
/-- has() and isHushed(): of any set -/
theorem hush_sp {H p u v : Int32} (h : R_k_isHushed H p u) (h' : R_j_has H p v) : (u = 1 ∧ v = 1) ∨ (u = 0 ∧ v = 0) := by
  obtain ⟨z1, e1, z2, e2, h⟩ := h
  obtain ⟨y1, f1, y2, f2, h'⟩ := h'
  have e : y2 = z2 := by rw [f2, f1, e2, e1]
  have q := and1 z1
  rw [← e2] at q
  rw [e] at h'
  rcases h with ⟨c, a⟩ | ⟨c, a⟩ <;> rcases h' with ⟨d, b⟩ | ⟨d, b⟩
  · exact Or.inr ⟨a, b⟩
  · omega
  · omega
  · exact Or.inl ⟨a, b⟩
