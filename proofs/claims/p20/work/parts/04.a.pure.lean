/-! loops told as relations; tables of the reader; numbers -/
def fx {α : Type} (T : (α → Prop) → α → Prop) : Nat → α → Prop
  | 0, _ => False
  | n + 1, a => T (fx T n) a
theorem fx_s {α : Type} {T : (α → Prop) → α → Prop} {n : Nat} {a : α} (h : T (fx T n) a) : fx T (n + 1) a := h
theorem fx_o {α : Type} {T : (α → Prop) → α → Prop} {n : Nat} {a : α} (h : fx T (n + 1) a) : T (fx T n) a := h
theorem fx_ind {α : Type} {T : (α → Prop) → α → Prop} {P : α → Prop} (h : ∀ (K : α → Prop) (a : α), (∀ b, K b → P b) → T K a → P a) : ∀ (n : Nat) (a : α), fx T n a → P a := by
  intro n
  induction n with
  | zero => intro a q; exact q.elim
  | succ n ih => intro a q; exact h (fx T n) a ih q
def fl_ : List Int32 := [0, 6, 13, 14]
def nu_ : List Int32 := [2, 2, 2, 1, 1, 1, 3, 3, 3, 3, 2, 0, 0, 1]
def le_ : List Int32 := [0, 1, 0, 0, 0, 0, 0, 0, 0, 0, 0, 0, 0, 0, 0, 0, 0, 0, 0, 0, 1, 0, 0, 1, 0, 0, 1, 0, 0, 1, 0, 1, 0, 0, 0, 0, 0, 0, 0, 0, 0, 0]
def hi_ : List Int32 := [99, 2, 0, 40, 400, 0, 30, 30, 0, 50, 0, 0, 999, 0, 0, 20, 0, 0, 4, 5, 99, 4, 4, 99, 4, 4, 99, 5, 4, 99, 5, 99, 0, 0, 0, 0, 0, 0, 0, 10, 0, 0]
def stL : List Nat := [4, 5, 6, 4, 5, 6, 4, 4, 5, 4, 5, 6, 5, 5]
def stB : List (List Int32) := [[112, 97, 108, 109], [97, 99, 116, 111, 114], [117, 115, 117, 114, 101, 114], [114, 97, 116, 101], [99, 104, 101, 115, 116], [98, 111, 114, 114, 111, 119], [99, 108, 97, 112], [108, 101, 110, 100], [114, 101, 112, 97, 121], [104, 117, 115, 104], [115, 116, 111, 114, 109], [101, 110, 99, 111, 114, 101], [110, 105, 103, 104, 116], [104, 101, 97, 114, 100]]
theorem mi_add {x y : Int32} (h1 : -2147483648 ≤ x.toInt + y.toInt) (h2 : x.toInt + y.toInt < 2147483648) : (x + y).toInt = x.toInt + y.toInt := by
  rw [Int32.toInt_add]
  exact Int.bmod_eq_of_le (by simpa using h1) (by simpa using h2)
theorem mi_sub {x y : Int32} (h1 : -2147483648 ≤ x.toInt - y.toInt) (h2 : x.toInt - y.toInt < 2147483648) : (x - y).toInt = x.toInt - y.toInt := by
  rw [Int32.toInt_sub]
  exact Int.bmod_eq_of_le (by simpa using h1) (by simpa using h2)
theorem mi_mul {x y : Int32} (h1 : -2147483648 ≤ x.toInt * y.toInt) (h2 : x.toInt * y.toInt < 2147483648) : (x * y).toInt = x.toInt * y.toInt := by
  rw [Int32.toInt_mul]
  exact Int.bmod_eq_of_le (by simpa using h1) (by simpa using h2)
theorem mi_addc {x : Int32} {c : Int32} {C : Int} (hc : c.toInt = C) (h1 : -2147483648 ≤ x.toInt + C) (h2 : x.toInt + C < 2147483648) : (x + c).toInt = x.toInt + C := by
  subst hc; exact mi_add h1 h2
theorem mi_subc {x : Int32} {c : Int32} {C : Int} (hc : c.toInt = C) (h1 : -2147483648 ≤ x.toInt - C) (h2 : x.toInt - C < 2147483648) : (x - c).toInt = x.toInt - C := by
  subst hc; exact mi_sub h1 h2
theorem mi_mulc {x : Int32} {c : Int32} {C : Int} (hc : c.toInt = C) (h1 : -2147483648 ≤ x.toInt * C) (h2 : x.toInt * C < 2147483648) : (x * c).toInt = x.toInt * C := by
  subst hc; exact mi_mul h1 h2
theorem mi_cmul {x : Int32} {c : Int32} {C : Int} (hc : c.toInt = C) (h1 : -2147483648 ≤ C * x.toInt) (h2 : C * x.toInt < 2147483648) : (c * x).toInt = C * x.toInt := by
  subst hc; exact mi_mul h1 h2
theorem mi_rng (x : Int32) : -2147483648 ≤ x.toInt ∧ x.toInt < 2147483648 := ⟨Int32.le_toInt x, Int32.toInt_lt x⟩
theorem mi_eq {x y : Int32} (h : x.toInt = y.toInt) : x = y := Int32.toInt_inj.mp h
theorem mi_cl (x : Int32) : Int32.toNatClampNeg x = x.toInt.toNat := rfl
theorem mi_clc {x : Int32} {X : Int} (h : x.toInt = X) : Int32.toNatClampNeg x = X.toNat := by rw [mi_cl, h]
theorem mi_lt {x y : Int32} : x < y ↔ x.toInt < y.toInt := Int32.lt_iff_toInt_lt
theorem mi_cli {x y : Int32} (h : x.toInt = y.toInt) : Int32.toNatClampNeg x = Int32.toNatClampNeg y := by rw [mi_cl, mi_cl, h]
/-- a byte without its sign -/
theorem by_255 {x : Int32} (h1 : -128 ≤ x.toInt) (h2 : x.toInt ≤ 127) : (0 ≤ x.toInt ∧ (x &&& 255).toInt = x.toInt) ∨ (x.toInt < 0 ∧ (x &&& 255).toInt = x.toInt + 256) := by
  have hx : x.toInt = x.toBitVec.toInt := rfl
  have hy : (x &&& 255).toInt = (x.toBitVec &&& 255#32).toInt := rfl
  rw [hy]
  rw [hx] at h1 h2 ⊢
  generalize x.toBitVec = v at h1 h2 ⊢
  have hn : (v &&& 255#32).toNat = v.toNat % 256 := by
    rw [BitVec.toNat_and]
    exact Nat.and_two_pow_sub_one_eq_mod v.toNat 8
  have hl := v.isLt
  have e1 : (v &&& 255#32).toInt = ((v.toNat % 256 : Nat) : Int) := by
    rw [BitVec.toInt_eq_toNat_cond, hn, if_pos (by omega)]
  rw [e1]
  by_cases hb : 2 * v.toNat < 2 ^ 32
  · have e2 : v.toInt = (v.toNat : Int) := by rw [BitVec.toInt_eq_toNat_cond, if_pos hb]
    omega
  · have e2 : v.toInt = (v.toNat : Int) - 4294967296 := by rw [BitVec.toInt_eq_toNat_cond, if_neg hb]; rfl
    omega
