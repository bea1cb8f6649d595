/-! ranges of array contents, and more Int views -/
def Ri (f : Nat → Int32) (lo hi : Int) : Prop := ∀ i : Nat, lo ≤ (f i).toInt ∧ (f i).toInt ≤ hi
theorem Ri_c {v : Int32} {lo hi : Int} (h : lo ≤ v.toInt ∧ v.toInt ≤ hi) : Ri (fun _ => v) lo hi := fun _ => h
theorem Ri_upd {f : Nat → Int32} {lo hi : Int} {k : Nat} {v : Int32} (h : Ri f lo hi) (hv : lo ≤ v.toInt ∧ v.toInt ≤ hi) : Ri (upd f k v) lo hi := fun i => by
  by_cases e : i = k
  · subst e; rw [pk_us]; exact hv
  · rw [pk_un e]; exact h i
theorem Ri_cpy {f g : Nat → Int32} {lo hi : Int} {a b n : Nat} (hf : Ri f lo hi) (hg : Ri g lo hi) : Ri (va_cpy f g a b n) lo hi := fun i => by
  unfold va_cpy
  by_cases e : b ≤ i ∧ i < b + n
  · rw [if_pos e]; exact hf _
  · rw [if_neg e]; exact hg i
theorem byte_rng (x : Int32) : -128 ≤ (vp_nar .byte x).toInt ∧ (vp_nar .byte x).toInt ≤ 127 := by
  rw [vp_nar_byte, Int8.toInt_toInt32]
  have h1 := Int8.le_toInt x.toInt8
  have h2 := Int8.toInt_lt x.toInt8
  omega
theorem byte_fit {x : Int32} (h : -128 ≤ x.toInt ∧ x.toInt ≤ 127) : fits .byte (.int x) = true := by
  have e : x.toInt8.toInt32 = x := by
    apply Int32.toInt_inj.mp
    rw [Int8.toInt_toInt32, Int32.toInt_toInt8]
    exact Int.bmod_eq_of_le (by omega) (by omega)
  rw [← e]; exact pk_fb x
theorem i_ne {y : Int32} {X : Int} (hx : y.toInt = X) (h : X ≠ 0) : ¬ y = 0 := fun q => h (by rw [← hx, q]; rfl)
theorem i_rem {x y : Int32} {X Y : Int} (hx : x.toInt = X) (hy : y.toInt = Y) (h0 : 0 ≤ X) (h1 : 0 < Y) : 0 ≤ (x - x / y * y).toInt ∧ (x - x / y * y).toInt < Y := by
  rw [rem_toInt, hx, hy, Int.tmod_eq_emod_of_nonneg h0]
  exact ⟨Int.emod_nonneg _ (by omega), Int.emod_lt_of_pos _ h1⟩
theorem i_div {x y : Int32} {X Y : Int} (hx : x.toInt = X) (hy : y.toInt = Y) (h0 : 0 ≤ X) (h1 : 0 < Y) : (x / y).toInt = X / Y := by
  have hb := i_rng x
  rw [Int32.toInt_div, hx, hy, Int.tdiv_eq_ediv_of_nonneg h0]
  rw [hx] at hb
  have h2 : X / Y ≤ X := Int.ediv_le_self Y h0
  have h3 : 0 ≤ X / Y := Int.ediv_nonneg h0 (by omega)
  exact Int.bmod_eq_of_le (by omega) (by omega)
theorem i_and (x : Int32) {m : Int32} (k : Nat) (hm : m.toBitVec.toNat = 2 ^ k - 1) (hk : 2 ^ k - 1 < 2147483648) {M : Int} (hM : M = 2 ^ k - 1 := by decide) : 0 ≤ (x &&& m).toInt ∧ (x &&& m).toInt ≤ M := by
  obtain ⟨j, hj, e⟩ := pk_andE x k hm
  rw [e, nI_toInt (by omega)]
  subst hM
  have : (2 ^ k : Nat) = ((2 : Int) ^ k) := by simp
  omega
theorem i_ushr16 (x : Int32) : 0 ≤ ((x.toUInt32 >>> ((16 : Int32).toUInt32 &&& Int32.toUInt32 31)).toInt32).toInt ∧ ((x.toUInt32 >>> ((16 : Int32).toUInt32 &&& Int32.toUInt32 31)).toInt32).toInt ≤ 65535 := by
  have h := pk_ushr x 16 16 (by decide)
  generalize ((x.toUInt32 >>> ((16 : Int32).toUInt32 &&& Int32.toUInt32 31)).toInt32) = z at h ⊢
  have hb : x.toBitVec.toNat < 2 ^ 32 := x.toBitVec.isLt
  have e : z.toInt = (z.toBitVec.toNat : Int) := by
    show z.toBitVec.toInt = _
    rw [BitVec.toInt_eq_toNat_cond]
    have : 2 * z.toBitVec.toNat < 2 ^ 32 := by rw [h]; omega
    rw [if_pos this]
  rw [e, h]
  omega
theorem i_max {x y : Int32} {X Y : Int} (hx : x.toInt = X) (hy : y.toInt = Y) : (if x < y then y else x).toInt = max X Y := by
  by_cases e : x < y
  · rw [if_pos e, hy]; have := Int32.lt_iff_toInt_lt.mp e; omega
  · rw [if_neg e, hx]; have : ¬ x.toInt < y.toInt := fun q => e (Int32.lt_iff_toInt_lt.mpr q); omega
theorem i_min {x y : Int32} {X Y : Int} (hx : x.toInt = X) (hy : y.toInt = Y) : (if y < x then y else x).toInt = min X Y := by
  by_cases e : y < x
  · rw [if_pos e, hy]; have := Int32.lt_iff_toInt_lt.mp e; omega
  · rw [if_neg e, hx]; have : ¬ y.toInt < x.toInt := fun q => e (Int32.lt_iff_toInt_lt.mpr q); omega
theorem z_nar {v : Int32} (h : 0 ≤ v.toInt ∧ v.toInt ≤ 1) : narrow .boolean (.int v) = .int v := by
  have e : v = 0 ∨ v = 1 := by
    rcases (by omega : v.toInt = 0 ∨ v.toInt = 1) with q | q
    · exact Or.inl (i_eq q (by decide) rfl)
    · exact Or.inr (i_eq q (by decide) rfl)
  rcases e with rfl | rfl <;> rfl
/-- what deed k must be to be done: its numbers are of palms and actors -/
def Cb (f : Nat → Int32) (k P A : Int) : Prop := ((f (4 * k + 0).toNat).toInt = 0 → (0 ≤ (f (4 * k + 1).toNat).toInt ∧ (f (4 * k + 1).toNat).toInt < P ∧ 0 ≤ (f (4 * k + 2).toNat).toInt ∧ (f (4 * k + 2).toNat).toInt < A)) ∧ ((f (4 * k + 0).toNat).toInt = 1 → (0 ≤ (f (4 * k + 1).toNat).toInt ∧ (f (4 * k + 1).toNat).toInt < P ∧ 0 ≤ (f (4 * k + 2).toNat).toInt ∧ (f (4 * k + 2).toNat).toInt < P)) ∧ ((f (4 * k + 0).toNat).toInt = 2 → (0 ≤ (f (4 * k + 1).toNat).toInt ∧ (f (4 * k + 1).toNat).toInt < P ∧ 0 ≤ (f (4 * k + 2).toNat).toInt ∧ (f (4 * k + 2).toNat).toInt < P)) ∧ ((f (4 * k + 0).toNat).toInt = 3 → (0 ≤ (f (4 * k + 1).toNat).toInt ∧ (f (4 * k + 1).toNat).toInt < A ∧ 0 ≤ (f (4 * k + 2).toNat).toInt ∧ (f (4 * k + 2).toNat).toInt < P)) ∧ ((f (4 * k + 0).toNat).toInt = 4 → (0 ≤ (f (4 * k + 1).toNat).toInt ∧ (f (4 * k + 1).toNat).toInt < A))
theorem at_idx {f : Nat → Int32} {x : Int32} {X : Int} (hx : x.toInt = X) : f x.toNatClampNeg = f X.toNat := by
  have h : x.toNatClampNeg = x.toInt.toNat := rfl
  rw [h, hx]
/-- the reference's rows of theatres, books and darks: the counts that head each -/
def Th (f : Nat → Int32) : Prop := ∀ t : Nat, (0 ≤ (f (36 * t)).toInt ∧ (f (36 * t)).toInt ≤ 5) ∧ (0 ≤ (f (36 * t + 1)).toInt ∧ (f (36 * t + 1)).toInt ≤ 6) ∧ (0 ≤ (f (36 * t + 4)).toInt ∧ (f (36 * t + 4)).toInt ≤ 4)
def Bk (f : Nat → Int32) : Prop := ∀ t : Nat, 0 ≤ (f (121 * t)).toInt ∧ (f (121 * t)).toInt ≤ 30
def Dk (f : Nat → Int32) : Prop := ∀ t : Nat, 0 ≤ (f (7 * t)).toInt ∧ (f (7 * t)).toInt ≤ 6
theorem Th_at {f : Nat → Int32} (h : Th f) {x : Int32} {t a : Int} (ht : 0 ≤ t) (ha : 0 ≤ a) (hx : x.toInt = 36 * t + a) : (a = 0 → (0 ≤ (f x.toNatClampNeg).toInt ∧ (f x.toNatClampNeg).toInt ≤ 5)) ∧ (a = 1 → (0 ≤ (f x.toNatClampNeg).toInt ∧ (f x.toNatClampNeg).toInt ≤ 6)) ∧ (a = 4 → (0 ≤ (f x.toNatClampNeg).toInt ∧ (f x.toNatClampNeg).toInt ≤ 4)) := by
  have e : x.toNatClampNeg = 36 * t.toNat + a.toNat := by
    have h0 : x.toNatClampNeg = x.toInt.toNat := rfl
    rw [h0, hx]; omega
  obtain ⟨h1, h2, h3⟩ := h t.toNat
  rw [e]
  refine ⟨fun q => ?_, fun q => ?_, fun q => ?_⟩
  · subst q; exact h1
  · subst q; exact h2
  · subst q; exact h3
theorem Bk_at {f : Nat → Int32} (h : Bk f) {x : Int32} {t : Int} (ht : 0 ≤ t) (hx : x.toInt = 121 * t) : 0 ≤ (f x.toNatClampNeg).toInt ∧ (f x.toNatClampNeg).toInt ≤ 30 := by
  have e : x.toNatClampNeg = 121 * t.toNat := by
    have h0 : x.toNatClampNeg = x.toInt.toNat := rfl
    rw [h0, hx]; omega
  rw [e]; exact h t.toNat
theorem Dk_at {f : Nat → Int32} (h : Dk f) {x : Int32} {t : Int} (ht : 0 ≤ t) (hx : x.toInt = 7 * t) : 0 ≤ (f x.toNatClampNeg).toInt ∧ (f x.toNatClampNeg).toInt ≤ 6 := by
  have e : x.toNatClampNeg = 7 * t.toNat := by
    have h0 : x.toNatClampNeg = x.toInt.toNat := rfl
    rw [h0, hx]; omega
  rw [e]; exact h t.toNat
