/-! powers of two and four, for the hearing -/
def s2 (p : Int) : Int := if p = 0 then 1 else if p = 1 then 2 else if p = 2 then 4 else if p = 3 then 8 else if p = 4 then 16 else 32
theorem s2_step {p : Int} (h0 : 0 ≤ p) (h1 : p ≤ 4) : s2 (p + 1) = 2 * s2 p ∧ 1 ≤ s2 p ∧ s2 p ≤ 16 := by
  rcases (by omega : p = 0 ∨ p = 1 ∨ p = 2 ∨ p = 3 ∨ p = 4) with rfl | rfl | rfl | rfl | rfl <;> decide
theorem s2_rng {p : Int} (h0 : 0 ≤ p) (h1 : p ≤ 5) : 1 ≤ s2 p ∧ s2 p ≤ 32 := by
  rcases (by omega : p = 0 ∨ p = 1 ∨ p = 2 ∨ p = 3 ∨ p = 4 ∨ p = 5) with rfl | rfl | rfl | rfl | rfl | rfl <;> decide
def s4 (p : Int) : Int := if p = 0 then 1 else if p = 1 then 4 else if p = 2 then 16 else if p = 3 then 64 else if p = 4 then 256 else 1024
theorem s4_step {p : Int} (h0 : 0 ≤ p) (h1 : p ≤ 4) : s4 (p + 1) = 4 * s4 p ∧ 1 ≤ s4 p ∧ s4 p ≤ 256 := by
  rcases (by omega : p = 0 ∨ p = 1 ∨ p = 2 ∨ p = 3 ∨ p = 4) with rfl | rfl | rfl | rfl | rfl <;> decide
theorem s4_rng {p : Int} (h0 : 0 ≤ p) (h1 : p ≤ 5) : 1 ≤ s4 p ∧ s4 p ≤ 1024 := by
  rcases (by omega : p = 0 ∨ p = 1 ∨ p = 2 ∨ p = 3 ∨ p = 4 ∨ p = 5) with rfl | rfl | rfl | rfl | rfl | rfl <;> decide
/-- the first n places lie between 0 and b -/
def On (n b : Int) (f : Nat → Int32) : Prop := ∀ j : Nat, (j : Int) < n → 0 ≤ (f j).toInt ∧ (f j).toInt < b
theorem On_eq {a a' b b' : Int} {f : Nat → Int32} (h : On a b f) (ea : a' = a) (eb : b' = b) : On a' b' f := by subst ea; subst eb; exact h
theorem On_mono {a b b' : Int} {f : Nat → Int32} (h : On a b f) (eb : b ≤ b') : On a b' f := fun j hj => by have := h j hj; omega
theorem On_1 {f : Nat → Int32} {a b : Int} (ha : a = 1) (hb : b = 1) (h : f 0 = 0) : On a b f := fun j hj => by
  have e : j = 0 := by omega
  rw [e, h]; subst hb; decide
theorem On_at {n b : Int} {f : Nat → Int32} {x : Int32} {X : Int} (h : On n b f) (hx : x.toInt = X) (h0 : 0 ≤ X) (h1 : X < n) : 0 ≤ (f x.toNatClampNeg).toInt ∧ (f x.toNatClampNeg).toInt < b := by
  rw [cl_eq hx]; exact h _ (by omega)
/-- while the places n .. n + k are filled -/
def Oi (p n k : Int) (f : Nat → Int32) : Prop := On n (s4 p) f ∧ On (n + k) (s4 (p + 1)) f
theorem Oi_0 {p n k : Int} {f : Nat → Int32} (h0 : 0 ≤ p) (h1 : p ≤ 4) (hk : k = 0) (h : On n (s4 p) f) : Oi p n k f := by
  have h2 := s4_step h0 h1
  exact ⟨h, On_eq (On_mono h (by omega)) (by omega) rfl⟩
theorem Oi_up {p n k X : Int} {f : Nat → Int32} {x v u : Int32} (h0 : 0 ≤ p) (h1 : p ≤ 4) (h : Oi p n k f) (hx : x.toInt = X) (e : X = n + k) (hk : 0 ≤ k) (hn : 0 ≤ n) (hv : v.toInt = u.toInt + s4 p) (hu0 : 0 ≤ u.toInt) (hu : u.toInt < s4 p) : Oi p n (k + 1) (upd f x.toNatClampNeg v) := by
  have h2 := s4_step h0 h1
  refine ⟨fun j hj => ?_, fun j hj => ?_⟩
  · rw [pk_un (cl_ne hx (by omega) (by omega))]; exact h.1 j hj
  · by_cases q : (j : Int) = X
    · have e2 : j = x.toNatClampNeg := by rw [cl_eq hx]; omega
      rw [e2, pk_us]; omega
    · rw [pk_un (cl_ne hx (by omega) (fun z => q z.symm))]; exact h.2 j (by omega)
theorem Oi_end {p n k : Int} {f : Nat → Int32} (h : Oi p n k f) (hk : n ≤ k) : On (n * 2) (s4 (p + 1)) f := fun j hj => h.2 j (by omega)
theorem shl4 {y : Int32} {P : Int} (hy : y.toInt = 2 * P) (h0 : 0 ≤ P) (h1 : P ≤ 4) : ((1 : Int32) <<< (y &&& 31)).toInt = s4 P := by
  rcases (by omega : P = 0 ∨ P = 1 ∨ P = 2 ∨ P = 3 ∨ P = 4) with h | h | h | h | h
  · have e : y = 0 := i_eq hy (by decide : (0 : Int32).toInt = 0) (by omega)
    subst e; subst h; decide
  · have e : y = 2 := i_eq hy (by decide : (2 : Int32).toInt = 2) (by omega)
    subst e; subst h; decide
  · have e : y = 4 := i_eq hy (by decide : (4 : Int32).toInt = 4) (by omega)
    subst e; subst h; decide
  · have e : y = 6 := i_eq hy (by decide : (6 : Int32).toInt = 6) (by omega)
    subst e; subst h; decide
  · have e : y = 8 := i_eq hy (by decide : (8 : Int32).toInt = 8) (by omega)
    subst e; subst h; decide
theorem shl4m {m y : Int32} {M P : Int} (hm : m.toInt = M) (hy : y.toInt = 2 * P) (h0 : 0 ≤ P) (h1 : P ≤ 4) (m0 : 0 ≤ M) (m1 : M ≤ 3) : 0 ≤ (m <<< (y &&& 31)).toInt ∧ (m <<< (y &&& 31)).toInt ≤ 3 * s4 P := by
  rcases (by omega : M = 0 ∨ M = 1 ∨ M = 2 ∨ M = 3) with q | q | q | q
  · have em : m = 0 := i_eq hm (by decide : (0 : Int32).toInt = 0) q
    subst em
    rcases (by omega : P = 0 ∨ P = 1 ∨ P = 2 ∨ P = 3 ∨ P = 4) with h | h | h | h | h
    · have e : y = 0 := i_eq hy (by decide : (0 : Int32).toInt = 0) (by omega)
      subst e; subst h; decide
    · have e : y = 2 := i_eq hy (by decide : (2 : Int32).toInt = 2) (by omega)
      subst e; subst h; decide
    · have e : y = 4 := i_eq hy (by decide : (4 : Int32).toInt = 4) (by omega)
      subst e; subst h; decide
    · have e : y = 6 := i_eq hy (by decide : (6 : Int32).toInt = 6) (by omega)
      subst e; subst h; decide
    · have e : y = 8 := i_eq hy (by decide : (8 : Int32).toInt = 8) (by omega)
      subst e; subst h; decide
  · have em : m = 1 := i_eq hm (by decide : (1 : Int32).toInt = 1) q
    subst em
    rcases (by omega : P = 0 ∨ P = 1 ∨ P = 2 ∨ P = 3 ∨ P = 4) with h | h | h | h | h
    · have e : y = 0 := i_eq hy (by decide : (0 : Int32).toInt = 0) (by omega)
      subst e; subst h; decide
    · have e : y = 2 := i_eq hy (by decide : (2 : Int32).toInt = 2) (by omega)
      subst e; subst h; decide
    · have e : y = 4 := i_eq hy (by decide : (4 : Int32).toInt = 4) (by omega)
      subst e; subst h; decide
    · have e : y = 6 := i_eq hy (by decide : (6 : Int32).toInt = 6) (by omega)
      subst e; subst h; decide
    · have e : y = 8 := i_eq hy (by decide : (8 : Int32).toInt = 8) (by omega)
      subst e; subst h; decide
  · have em : m = 2 := i_eq hm (by decide : (2 : Int32).toInt = 2) q
    subst em
    rcases (by omega : P = 0 ∨ P = 1 ∨ P = 2 ∨ P = 3 ∨ P = 4) with h | h | h | h | h
    · have e : y = 0 := i_eq hy (by decide : (0 : Int32).toInt = 0) (by omega)
      subst e; subst h; decide
    · have e : y = 2 := i_eq hy (by decide : (2 : Int32).toInt = 2) (by omega)
      subst e; subst h; decide
    · have e : y = 4 := i_eq hy (by decide : (4 : Int32).toInt = 4) (by omega)
      subst e; subst h; decide
    · have e : y = 6 := i_eq hy (by decide : (6 : Int32).toInt = 6) (by omega)
      subst e; subst h; decide
    · have e : y = 8 := i_eq hy (by decide : (8 : Int32).toInt = 8) (by omega)
      subst e; subst h; decide
  · have em : m = 3 := i_eq hm (by decide : (3 : Int32).toInt = 3) q
    subst em
    rcases (by omega : P = 0 ∨ P = 1 ∨ P = 2 ∨ P = 3 ∨ P = 4) with h | h | h | h | h
    · have e : y = 0 := i_eq hy (by decide : (0 : Int32).toInt = 0) (by omega)
      subst e; subst h; decide
    · have e : y = 2 := i_eq hy (by decide : (2 : Int32).toInt = 2) (by omega)
      subst e; subst h; decide
    · have e : y = 4 := i_eq hy (by decide : (4 : Int32).toInt = 4) (by omega)
      subst e; subst h; decide
    · have e : y = 6 := i_eq hy (by decide : (6 : Int32).toInt = 6) (by omega)
      subst e; subst h; decide
    · have e : y = 8 := i_eq hy (by decide : (8 : Int32).toInt = 8) (by omega)
      subst e; subst h; decide
theorem sh_d0 : ∀ n : Fin 1, ((Int32.ofNat n.val) >>> ((0 : Int32) &&& 31)) &&& 3 = 0 := by decide +kernel
theorem sh_d1 : ∀ n : Fin 4, ((Int32.ofNat n.val) >>> ((2 : Int32) &&& 31)) &&& 3 = 0 := by decide +kernel
theorem sh_d2 : ∀ n : Fin 16, ((Int32.ofNat n.val) >>> ((4 : Int32) &&& 31)) &&& 3 = 0 := by decide +kernel
theorem sh_d3 : ∀ n : Fin 64, ((Int32.ofNat n.val) >>> ((6 : Int32) &&& 31)) &&& 3 = 0 := by decide +kernel
theorem sh_d4 : ∀ n : Fin 256, ((Int32.ofNat n.val) >>> ((8 : Int32) &&& 31)) &&& 3 = 0 := by decide +kernel
theorem i_ofN {x : Int32} (h0 : 0 ≤ x.toInt) : x = Int32.ofNat x.toInt.toNat := by
  have h1 := i_rng x
  apply Int32.toInt_inj.mp
  rw [Int32.toInt_ofNat_of_lt (by omega)]; omega
theorem sh_ge {o y z v : Int32} {P : Int} (ez : z = o >>> (y &&& 31)) (ev : v = z &&& 3) (hy : y.toInt = 2 * P) (h0 : 0 ≤ P) (h1 : P ≤ 4) (ho : 0 ≤ o.toInt) (hv : v.toInt ≠ 0) : s4 P ≤ o.toInt := by
  refine Int.not_lt.mp (fun q => hv ?_)
  rw [ev, ez]
  rcases (by omega : P = 0 ∨ P = 1 ∨ P = 2 ∨ P = 3 ∨ P = 4) with h | h | h | h | h
  · have e : y = 0 := i_eq hy (by decide : (0 : Int32).toInt = 0) (by omega)
    subst e; subst h; have q2 : o.toInt < 1 := q
    rw [i_ofN ho, sh_d0 ⟨o.toInt.toNat, by omega⟩]; decide
  · have e : y = 2 := i_eq hy (by decide : (2 : Int32).toInt = 2) (by omega)
    subst e; subst h; have q2 : o.toInt < 4 := q
    rw [i_ofN ho, sh_d1 ⟨o.toInt.toNat, by omega⟩]; decide
  · have e : y = 4 := i_eq hy (by decide : (4 : Int32).toInt = 4) (by omega)
    subst e; subst h; have q2 : o.toInt < 16 := q
    rw [i_ofN ho, sh_d2 ⟨o.toInt.toNat, by omega⟩]; decide
  · have e : y = 6 := i_eq hy (by decide : (6 : Int32).toInt = 6) (by omega)
    subst e; subst h; have q2 : o.toInt < 64 := q
    rw [i_ofN ho, sh_d3 ⟨o.toInt.toNat, by omega⟩]; decide
  · have e : y = 8 := i_eq hy (by decide : (8 : Int32).toInt = 8) (by omega)
    subst e; subst h; have q2 : o.toInt < 256 := q
    rw [i_ofN ho, sh_d4 ⟨o.toInt.toNat, by omega⟩]; decide
