theorem i_remabs {x y : Int32} {X Y : Int} (hx : x.toInt = X) (hy : y.toInt = Y) (h1 : Y ≠ 0) : max (x - x / y * y).toInt (-(x - x / y * y).toInt) < max Y (-Y) := by
  rw [rem_toInt, hx, hy]
  have h := Int.natAbs_tmod X Y
  have h2 : X.natAbs % Y.natAbs < Y.natAbs := Nat.mod_lt _ (by omega)
  omega
/-! more Int views: bits, digits in sevens and fours, the tape, what is told -/
theorem i_nn {z : Int32} (h : 2 * z.toBitVec.toNat < 2 ^ 32) : z.toInt = (z.toBitVec.toNat : Int) := by
  show z.toBitVec.toInt = _
  rw [BitVec.toInt_eq_toNat_cond, if_pos h]
theorem i_nn2 {z : Int32} (h : 0 ≤ z.toInt) : 2 * z.toBitVec.toNat < 2 ^ 32 := by
  have e : z.toInt = z.toBitVec.toInt := rfl
  rw [e, BitVec.toInt_eq_toNat_cond] at h
  by_cases q : 2 * z.toBitVec.toNat < 2 ^ 32
  · exact q
  · rw [if_neg q] at h
    have := z.toBitVec.isLt
    omega
theorem i_andL {x y : Int32} {X : Int} (hx : x.toInt = X) (h : 0 ≤ X) : 0 ≤ (x &&& y).toInt ∧ (x &&& y).toInt ≤ X := by
  subst hx
  have h1 := i_nn2 h
  have h2 : (x &&& y).toBitVec.toNat ≤ x.toBitVec.toNat := by
    rw [Int32.toBitVec_and, BitVec.toNat_and]; exact Nat.and_le_left
  rw [i_nn h1, i_nn (z := x &&& y) (by omega)]
  omega
theorem i_andR {x y : Int32} {Y : Int} (hy : y.toInt = Y) (h : 0 ≤ Y) : 0 ≤ (x &&& y).toInt ∧ (x &&& y).toInt ≤ Y := by
  subst hy
  have h1 := i_nn2 h
  have h2 : (x &&& y).toBitVec.toNat ≤ y.toBitVec.toNat := by
    rw [Int32.toBitVec_and, BitVec.toNat_and]; exact Nat.and_le_right
  rw [i_nn h1, i_nn (z := x &&& y) (by omega)]
  omega
theorem i_divg {x y : Int32} {X Y : Int} (hx : x.toInt = X) (hy : y.toInt = Y) (h1 : 0 < Y) : (0 ≤ X ∧ (x / y).toInt = X / Y) ∨ (X < 0 ∧ (x / y).toInt ≤ 0) := by
  by_cases h0 : 0 ≤ X
  · exact Or.inl ⟨h0, i_div hx hy h0 h1⟩
  · refine Or.inr ⟨by omega, ?_⟩
    have hb := i_rng x
    rw [hx] at hb
    have e : X = -(-X) := by omega
    rw [Int32.toInt_div, hx, hy, e, Int.neg_tdiv, Int.tdiv_eq_ediv_of_nonneg (by omega : 0 ≤ -X)]
    have h2 : -X / Y ≤ -X := Int.ediv_le_self Y (by omega)
    have h3 : 0 ≤ -X / Y := Int.ediv_nonneg (by omega) (by omega)
    rw [Int.bmod_eq_of_le (by omega) (by omega)]
    omega
theorem cl_ne {x : Int32} {X : Int} {j : Nat} (hx : x.toInt = X) (h0 : 0 ≤ X) (h : X ≠ j) : j ≠ x.toNatClampNeg := by
  have e : x.toNatClampNeg = x.toInt.toNat := rfl
  rw [e, hx]; omega
theorem cl_eq {x : Int32} {X : Int} (hx : x.toInt = X) : x.toNatClampNeg = X.toNat := by
  have e : x.toNatClampNeg = x.toInt.toNat := rfl
  rw [e, hx]
/-- bit b of a -/
def hI (a b : Int32) : Int := ((a >>> (b &&& 31)) &&& 1).toInt
theorem i_shl1 {x : Int32} {X : Int} (hx : x.toInt = X) (h0 : 0 ≤ X) (h1 : X ≤ 6) : 1 ≤ ((1 : Int32) <<< (x &&& 31)).toInt ∧ ((1 : Int32) <<< (x &&& 31)).toInt ≤ 64 := by
  rcases (by omega : X = 0 ∨ X = 1 ∨ X = 2 ∨ X = 3 ∨ X = 4 ∨ X = 5 ∨ X = 6) with h | h | h | h | h | h | h
  · have e : x = 0 := i_eq hx (by decide : (0 : Int32).toInt = 0) h
    subst e; decide
  · have e : x = 1 := i_eq hx (by decide : (1 : Int32).toInt = 1) h
    subst e; decide
  · have e : x = 2 := i_eq hx (by decide : (2 : Int32).toInt = 2) h
    subst e; decide
  · have e : x = 3 := i_eq hx (by decide : (3 : Int32).toInt = 3) h
    subst e; decide
  · have e : x = 4 := i_eq hx (by decide : (4 : Int32).toInt = 4) h
    subst e; decide
  · have e : x = 5 := i_eq hx (by decide : (5 : Int32).toInt = 5) h
    subst e; decide
  · have e : x = 6 := i_eq hx (by decide : (6 : Int32).toInt = 6) h
    subst e; decide
theorem hI_rng (a b : Int32) : 0 ≤ hI a b ∧ hI a b ≤ 1 := i_and _ 1 (by decide) (by decide)
/-- how many of the bits k .. 5 are set -/
def cn (L : Int32) (k : Int) : Int := (if k ≤ 0 then hI L 0 else 0) + (if k ≤ 1 then hI L 1 else 0) + (if k ≤ 2 then hI L 2 else 0) + (if k ≤ 3 then hI L 3 else 0) + (if k ≤ 4 then hI L 4 else 0) + (if k ≤ 5 then hI L 5 else 0)
theorem cn_step {L x : Int32} {X : Int} (hx : x.toInt = X) (h0 : 0 ≤ X) (h1 : X ≤ 5) : cn L X = hI L x + cn L (X + 1) := by
  rcases (by omega : X = 0 ∨ X = 1 ∨ X = 2 ∨ X = 3 ∨ X = 4 ∨ X = 5) with h | h | h | h | h | h
  · have e : x = 0 := i_eq hx (by decide : (0 : Int32).toInt = 0) h
    subst e; subst h; unfold cn; simp <;> omega
  · have e : x = 1 := i_eq hx (by decide : (1 : Int32).toInt = 1) h
    subst e; subst h; unfold cn; simp <;> omega
  · have e : x = 2 := i_eq hx (by decide : (2 : Int32).toInt = 2) h
    subst e; subst h; unfold cn; simp <;> omega
  · have e : x = 3 := i_eq hx (by decide : (3 : Int32).toInt = 3) h
    subst e; subst h; unfold cn; simp <;> omega
  · have e : x = 4 := i_eq hx (by decide : (4 : Int32).toInt = 4) h
    subst e; subst h; unfold cn; simp <;> omega
  · have e : x = 5 := i_eq hx (by decide : (5 : Int32).toInt = 5) h
    subst e; subst h; unfold cn; simp <;> omega
theorem cn_top {L : Int32} {k : Int} (h : 6 ≤ k) : cn L k = 0 := by
  unfold cn
  rw [if_neg (by omega), if_neg (by omega), if_neg (by omega), if_neg (by omega), if_neg (by omega), if_neg (by omega)]; rfl
theorem cn_lt {L : Int32} {k : Int} (h : 1 ≤ cn L k) : k ≤ 5 := by
  by_cases q : 6 ≤ k
  · rw [cn_top q] at h; omega
  · omega
theorem cn_rng (L : Int32) (k : Int) : 0 ≤ cn L k ∧ cn L k ≤ 6 := by
  unfold cn
  have h0 := hI_rng L 0
  have h1 := hI_rng L 1
  have h2 := hI_rng L 2
  have h3 := hI_rng L 3
  have h4 := hI_rng L 4
  have h5 := hI_rng L 5
  constructor <;> (repeat' split) <;> omega
theorem cn_dec : ∀ n : Fin 64, n.val = 0 ∨ 1 ≤ cn (Int32.ofNat n.val) 0 := by decide +kernel
theorem cn_pos {L : Int32} (h0 : 0 ≤ L.toInt) (h1 : L.toInt ≤ 63) (h2 : L.toInt ≠ 0) : 1 ≤ cn L 0 := by
  have e : L = Int32.ofNat L.toInt.toNat := by
    apply Int32.toInt_inj.mp
    rw [Int32.toInt_ofNat_of_lt (by omega)]; omega
  rcases cn_dec ⟨L.toInt.toNat, by omega⟩ with h | h
  · simp only at h; omega
  · rw [e]; exact h
/-- the powers of seven -/
def s7 (p : Int) : Int := if p = 0 then 1 else if p = 1 then 7 else if p = 2 then 49 else if p = 3 then 343 else if p = 4 then 2401 else 16807
theorem s7_0 : s7 0 = 1 := by decide
theorem s7_1 : s7 1 = 7 := by decide
theorem s7_2 : s7 2 = 49 := by decide
theorem s7_3 : s7 3 = 343 := by decide
theorem s7_4 : s7 4 = 2401 := by decide
theorem s7_5 : s7 5 = 16807 := by decide
theorem s7_step {p : Int} (h0 : 0 ≤ p) (h1 : p ≤ 4) : s7 (p + 1) = 7 * s7 p ∧ 1 ≤ s7 p ∧ s7 p ≤ 2401 := by
  rcases (by omega : p = 0 ∨ p = 1 ∨ p = 2 ∨ p = 3 ∨ p = 4) with rfl | rfl | rfl | rfl | rfl <;> decide
theorem s7_rng {p : Int} (h0 : 0 ≤ p) (h1 : p ≤ 5) : 1 ≤ s7 p ∧ s7 p ≤ 16807 := by
  rcases (by omega : p = 0 ∨ p = 1 ∨ p = 2 ∨ p = 3 ∨ p = 4 ∨ p = 5) with rfl | rfl | rfl | rfl | rfl | rfl <;> decide
/-- t is s with some of its lowest p digits (in sevens) one higher, none of them carried -/
def Af (p s t : Int) : Prop := s ≤ t ∧ (t - s) + s % s7 p < s7 p
theorem Af_0 {s : Int} : Af 0 s s := by unfold Af; rw [s7_0]; omega
theorem Af_no {p s t : Int} (h0 : 0 ≤ p) (h1 : p ≤ 4) (h : Af p s t) : Af (p + 1) s t := by
  unfold Af at *
  rcases (by omega : p = 0 ∨ p = 1 ∨ p = 2 ∨ p = 3 ∨ p = 4) with rfl | rfl | rfl | rfl | rfl
  · rw [s7_0] at h; rw [show s7 (0 + 1) = 7 from by decide]; omega
  · rw [s7_1] at h; rw [show s7 (1 + 1) = 49 from by decide]; omega
  · rw [s7_2] at h; rw [show s7 (2 + 1) = 343 from by decide]; omega
  · rw [s7_3] at h; rw [show s7 (3 + 1) = 2401 from by decide]; omega
  · rw [s7_4] at h; rw [show s7 (4 + 1) = 16807 from by decide]; omega
theorem Af_yes {p s t u : Int} (h0 : 0 ≤ p) (h1 : p ≤ 4) (h : Af p s t) (hu : u = s7 p) (hd : s / u % 7 ≤ 5) : Af (p + 1) s (t + u) := by
  unfold Af at *
  rcases (by omega : p = 0 ∨ p = 1 ∨ p = 2 ∨ p = 3 ∨ p = 4) with rfl | rfl | rfl | rfl | rfl
  · rw [s7_0] at h hu; subst hu; rw [show s7 (0 + 1) = 7 from by decide]; omega
  · rw [s7_1] at h hu; subst hu; rw [show s7 (1 + 1) = 49 from by decide]; omega
  · rw [s7_2] at h hu; subst hu; rw [show s7 (2 + 1) = 343 from by decide]; omega
  · rw [s7_3] at h hu; subst hu; rw [show s7 (3 + 1) = 2401 from by decide]; omega
  · rw [s7_4] at h hu; subst hu; rw [show s7 (4 + 1) = 16807 from by decide]; omega
theorem Af_le {p s t : Int} (h0 : 0 ≤ p) (h1 : p ≤ 5) (hs : 0 ≤ s) (hs2 : s ≤ 16806) (h : Af p s t) : 0 ≤ t ∧ t ≤ 16806 := by
  unfold Af at h
  rcases (by omega : p = 0 ∨ p = 1 ∨ p = 2 ∨ p = 3 ∨ p = 4 ∨ p = 5) with rfl | rfl | rfl | rfl | rfl | rfl
  · rw [s7_0] at h; omega
  · rw [s7_1] at h; omega
  · rw [s7_2] at h; omega
  · rw [s7_3] at h; omega
  · rw [s7_4] at h; omega
  · rw [s7_5] at h; omega
theorem dg_lem {q a u m : Int32} (eq : q = a / u) (em : m = q - q / 7 * 7) (ha : 0 ≤ a.toInt) (hu : 0 < u.toInt) : m.toInt = a.toInt / u.toInt % 7 := by
  have h1 : q.toInt = a.toInt / u.toInt := by rw [eq]; exact i_div rfl rfl ha hu
  have h2 : 0 ≤ q.toInt := by rw [h1]; exact Int.ediv_nonneg ha (by omega)
  rw [em, rem_toInt, h1, show (7 : Int32).toInt = 7 from by decide, Int.tmod_eq_emod_of_nonneg (by rw [← h1]; exact h2)]
/-- the row of units -/
def Un (f : Nat → Int32) : Prop := f 0 = 1 ∧ f 1 = 7 ∧ f 2 = 49 ∧ f 3 = 343 ∧ f 4 = 2401
theorem Un_at {f : Nat → Int32} (h : Un f) {x : Int32} {X : Int} (hx : x.toInt = X) (h0 : 0 ≤ X) (h1 : X ≤ 4) : (f x.toNatClampNeg).toInt = s7 X ∧ 1 ≤ (f x.toNatClampNeg).toInt ∧ (f x.toNatClampNeg).toInt ≤ 2401 := by
  obtain ⟨a0, a1, a2, a3, a4⟩ := h
  rw [cl_eq hx]
  rcases (by omega : X = 0 ∨ X = 1 ∨ X = 2 ∨ X = 3 ∨ X = 4) with rfl | rfl | rfl | rfl | rfl
  · rw [show (0 : Int).toNat = 0 from rfl, a0]; decide
  · rw [show (1 : Int).toNat = 1 from rfl, a1]; decide
  · rw [show (2 : Int).toNat = 2 from rfl, a2]; decide
  · rw [show (3 : Int).toNat = 3 from rfl, a3]; decide
  · rw [show (4 : Int).toNat = 4 from rfl, a4]; decide
/-- what see() answers -/
def sf (f : Nat → Int32) (r l : Int) : Int := if r < l then ((f r.toNat) &&& 255).toInt else -1
theorem sf_in {f : Nat → Int32} {r l : Int} {x z v : Int32} (hx : x.toInt = r) (ez : z = f x.toNatClampNeg) (ev : v = z &&& 255) (h : r < l) : v.toInt = sf f r l := by
  unfold sf
  rw [if_pos h, ev, ez, cl_eq hx]
theorem sf_out {f : Nat → Int32} {r l : Int} (h : ¬ r < l) : (-1 : Int32).toInt = sf f r l := by
  unfold sf
  rw [if_neg h]; decide
/-- what is told of a theatre, a book, a dark: the counts -/
def Tt (f : Nat → Int32) : Prop := (0 ≤ (f 0).toInt ∧ (f 0).toInt ≤ 5) ∧ (0 ≤ (f 1).toInt ∧ (f 1).toInt ≤ 6) ∧ (0 ≤ (f 4).toInt ∧ (f 4).toInt ≤ 4)
def Tb (f : Nat → Int32) : Prop := 0 ≤ (f 0).toInt ∧ (f 0).toInt ≤ 30
def Td (f : Nat → Int32) : Prop := 0 ≤ (f 0).toInt ∧ (f 0).toInt ≤ 6
def To (a : Int) (f : Nat → Int32) : Prop := (a = 0 → Tt f) ∧ (a = 1 → Tb f) ∧ (a = 2 → Td f)
theorem To_t {a : Int} {f : Nat → Int32} (h : a = 0) (q : Tt f) : To a f := ⟨fun _ => q, fun e => absurd e (by omega), fun e => absurd e (by omega)⟩
theorem To_b {a : Int} {f : Nat → Int32} (h : a = 1) (q : Tb f) : To a f := ⟨fun e => absurd e (by omega), fun _ => q, fun e => absurd e (by omega)⟩
theorem To_d {a : Int} {f : Nat → Int32} (h : a = 2) (q : Td f) : To a f := ⟨fun e => absurd e (by omega), fun e => absurd e (by omega), fun _ => q⟩
theorem Tt_up {f : Nat → Int32} {x v : Int32} {X : Int} (h : Tt f) (hx : x.toInt = X) (h0 : 0 ≤ X) (h1 : X = 2 ∨ X = 3 ∨ 5 ≤ X) : Tt (upd f x.toNatClampNeg v) := by
  unfold Tt
  rw [pk_un (cl_ne (j := 0) hx h0 (by omega)), pk_un (cl_ne (j := 1) hx h0 (by omega)), pk_un (cl_ne (j := 4) hx h0 (by omega))]
  exact h
/-- the first k places are 0 -/
def Zr (k : Int) (f : Nat → Int32) : Prop := ∀ j : Nat, (j : Int) < k → f j = 0
theorem Zr_0 {f : Nat → Int32} {k : Int} (h : k ≤ 0) : Zr k f := fun j hj => absurd hj (by omega)
theorem Zr_up {f : Nat → Int32} {x : Int32} {X K : Int} (h : Zr X f) (hx : x.toInt = X) (hk : K = X + 1) (h0 : 0 ≤ X) : Zr K (upd f x.toNatClampNeg 0) := fun j hj => by
  by_cases e : (j : Int) = X
  · have e2 : j = x.toNatClampNeg := by rw [cl_eq hx]; omega
    rw [e2, pk_us]
  · rw [pk_un (cl_ne hx h0 (fun q => e q.symm))]; exact h j (by omega)
theorem To_zr {a : Int} {f : Nat → Int32} {v : Int32} (h : Zr 121 f) : To a (upd f (Int32.toNatClampNeg 3) v) := by
  have e : ∀ j : Nat, (j : Int) < 121 → j ≠ Int32.toNatClampNeg 3 → ((upd f (Int32.toNatClampNeg 3) v) j).toInt = 0 := fun j hj q => by rw [pk_un q, h j hj]; decide
  have e0 := e 0 (by decide) (by decide)
  have e1 := e 1 (by decide) (by decide)
  have e4 := e 4 (by decide) (by decide)
  unfold To Tt Tb Td
  refine ⟨fun _ => ?_, fun _ => ?_, fun _ => ?_⟩ <;> omega
theorem Th_st {f g : Nat → Int32} {x i : Int32} {X k I : Int} (h : Th f) (hg : Tt g) (hx : x.toInt = X) (hi : i.toInt = I) (e : X = 36 * k + I) (hk : 0 ≤ k) (h0 : 0 ≤ I) (h1 : I ≤ 35) : Th (upd f x.toNatClampNeg (g i.toNatClampNeg)) := by
  intro t
  obtain ⟨q1, q2, q3⟩ := h t
  obtain ⟨g1, g2, g3⟩ := hg
  have key : ∀ j : Nat, 36 * t + j = x.toNatClampNeg ∧ (j : Int) = I ∨ 36 * t + j ≠ x.toNatClampNeg ∨ 36 ≤ j := fun j => by
    rw [cl_eq hx]; omega
  have gi : ∀ j : Nat, (j : Int) = I → g i.toNatClampNeg = g j := fun j q => by rw [cl_eq hi, ← q]; rfl
  refine ⟨?_, ?_, ?_⟩
  · rcases key 0 with ⟨a, b⟩ | a | a
    · rw [show 36 * t = x.toNatClampNeg from a, pk_us, gi 0 b]; exact g1
    · rw [pk_un (show 36 * t ≠ _ from a)]; exact q1
    · omega
  · rcases key 1 with ⟨a, b⟩ | a | a
    · rw [a, pk_us, gi 1 b]; exact g2
    · rw [pk_un a]; exact q2
    · omega
  · rcases key 4 with ⟨a, b⟩ | a | a
    · rw [a, pk_us, gi 4 b]; exact g3
    · rw [pk_un a]; exact q3
    · omega
theorem Bk_st {f g : Nat → Int32} {x i : Int32} {X k I : Int} (h : Bk f) (hg : Tb g) (hx : x.toInt = X) (hi : i.toInt = I) (e : X = 121 * k + I) (hk : 0 ≤ k) (h0 : 0 ≤ I) (h1 : I ≤ 120) : Bk (upd f x.toNatClampNeg (g i.toNatClampNeg)) := by
  intro t
  by_cases a : 121 * t = x.toNatClampNeg
  · rw [a, pk_us]
    have b : i.toNatClampNeg = 0 := by
      have a2 := cl_eq hx
      rw [cl_eq hi]; omega
    rw [b]; exact hg
  · rw [pk_un a]; exact h t
theorem Dk_st {f g : Nat → Int32} {x i : Int32} {X k I : Int} (h : Dk f) (hg : Td g) (hx : x.toInt = X) (hi : i.toInt = I) (e : X = 7 * k + I) (hk : 0 ≤ k) (h0 : 0 ≤ I) (h1 : I ≤ 6) : Dk (upd f x.toNatClampNeg (g i.toNatClampNeg)) := by
  intro t
  by_cases a : 7 * t = x.toNatClampNeg
  · rw [a, pk_us]
    have b : i.toNatClampNeg = 0 := by
      have a2 := cl_eq hx
      rw [cl_eq hi]; omega
    rw [b]; exact hg
  · rw [pk_un a]; exact h t
theorem Th_cp {f : Nat → Int32} {x y : Int32} {X Y a b k : Int} (h : Th f) (hx : x.toInt = X) (hy : y.toInt = Y) (e : X = 72 * a + k) (e2 : Y = 72 * b + k) (ha : 0 ≤ a) (hb : 0 ≤ b) (h0 : 0 ≤ k) : Th (upd f x.toNatClampNeg (f y.toNatClampNeg)) := by
  intro t
  obtain ⟨q1, q2, q3⟩ := h t
  have key : ∀ j : Nat, j < 36 → (36 * t + j = x.toNatClampNeg ∧ ∃ t2 : Nat, y.toNatClampNeg = 36 * t2 + j) ∨ 36 * t + j ≠ x.toNatClampNeg := fun j hj => by
    by_cases q : 36 * t + j = x.toNatClampNeg
    · refine Or.inl ⟨q, (Y / 36).toNat, ?_⟩
      rw [cl_eq hx] at q; rw [cl_eq hy]; omega
    · exact Or.inr q
  refine ⟨?_, ?_, ?_⟩
  · rcases key 0 (by decide) with ⟨a, t2, b⟩ | a
    · rw [show 36 * t = x.toNatClampNeg from a, pk_us, b]; exact (h t2).1
    · rw [pk_un (show 36 * t ≠ _ from a)]; exact q1
  · rcases key 1 (by decide) with ⟨a, t2, b⟩ | a
    · rw [a, pk_us, b]; exact (h t2).2.1
    · rw [pk_un a]; exact q2
  · rcases key 4 (by decide) with ⟨a, t2, b⟩ | a
    · rw [a, pk_us, b]; exact (h t2).2.2
    · rw [pk_un a]; exact q3
theorem Bk_cp {f : Nat → Int32} {x y : Int32} {X Y a b k : Int} (h : Bk f) (hx : x.toInt = X) (hy : y.toInt = Y) (e : X = 242 * a + k) (e2 : Y = 242 * b + k) (ha : 0 ≤ a) (hb : 0 ≤ b) (h0 : 0 ≤ k) : Bk (upd f x.toNatClampNeg (f y.toNatClampNeg)) := by
  intro t
  by_cases q : 121 * t = x.toNatClampNeg
  · rw [q, pk_us]
    have b2 : y.toNatClampNeg = 121 * (Y / 121).toNat := by
      rw [cl_eq hx] at q; rw [cl_eq hy]; omega
    rw [b2]; exact h _
  · rw [pk_un q]; exact h t
theorem Dk_cp {f : Nat → Int32} {x y : Int32} {X Y a b k : Int} (h : Dk f) (hx : x.toInt = X) (hy : y.toInt = Y) (e : X = 14 * a + k) (e2 : Y = 14 * b + k) (ha : 0 ≤ a) (hb : 0 ≤ b) (h0 : 0 ≤ k) : Dk (upd f x.toNatClampNeg (f y.toNatClampNeg)) := by
  intro t
  by_cases q : 7 * t = x.toNatClampNeg
  · rw [q, pk_us]
    have b2 : y.toNatClampNeg = 7 * (Y / 7).toNat := by
      rw [cl_eq hx] at q; rw [cl_eq hy]; omega
    rw [b2]; exact h _
  · rw [pk_un q]; exact h t
