/-! the dark: sums, ways by numbers and by vectors -/
theorem fx_inv {α : Type} {T : (α → Prop) → α → Prop} {P : α → Prop} {Q : Prop} (hT : ∀ (K : α → Prop) (a : α), P a → T K a → Q ∨ ∃ b : α, P b ∧ K b) : ∀ (N : Nat) (a : α), fx T N a → P a → Q := by
  intro N
  induction N with
  | zero => intro a h _; exact h.elim
  | succ N ih =>
    intro a h hP
    rcases hT (fx T N) a hP (fx_o h) with q | ⟨b, hb, hk⟩
    · exact q
    · exact ih b hk hb
def sm : Nat → (Nat → Int) → Int
  | 0, _ => 0
  | n + 1, f => sm n f + f n
theorem sm_s (n : Nat) (f : Nat → Int) : sm (n + 1) f = sm n f + f n := rfl
theorem sm_c {f g : Nat → Int} : ∀ n : Nat, (∀ i : Nat, i < n → f i = g i) → sm n f = sm n g := by
  intro n
  induction n with
  | zero => intro _; rfl
  | succ n ih => intro h; rw [sm_s, sm_s, ih (fun i hi => h i (by omega)), h n (by omega)]
theorem sm_add {f g : Nat → Int} : ∀ n : Nat, sm n (fun i => f i + g i) = sm n f + sm n g := by
  intro n
  induction n with
  | zero => rfl
  | succ n ih => rw [sm_s, sm_s, sm_s, ih]; omega
theorem sm_mul {f : Nat → Int} (c : Int) : ∀ n : Nat, sm n (fun i => c * f i) = c * sm n f := by
  intro n
  induction n with
  | zero => exact (Int.mul_zero c).symm
  | succ n ih => rw [sm_s, sm_s, ih, Int.mul_add]
theorem sm_0 {f : Nat → Int} : ∀ n : Nat, (∀ i : Nat, i < n → f i = 0) → sm n f = 0 := by
  intro n
  induction n with
  | zero => intro _; rfl
  | succ n ih => intro h; rw [sm_s, ih (fun i hi => h i (by omega)), h n (by omega)]; rfl
theorem sm_nn {f : Nat → Int} : ∀ n : Nat, (∀ i : Nat, i < n → 0 ≤ f i) → 0 ≤ sm n f := by
  intro n
  induction n with
  | zero => intro _; exact Int.le_refl _
  | succ n ih =>
    intro h
    have a := ih (fun i hi => h i (by omega))
    have b := h n (by omega)
    rw [sm_s]; omega
theorem sm_le {f g : Nat → Int} : ∀ n : Nat, (∀ i : Nat, i < n → f i ≤ g i) → sm n f ≤ sm n g := by
  intro n
  induction n with
  | zero => intro _; exact Int.le_refl _
  | succ n ih =>
    intro h
    have a := ih (fun i hi => h i (by omega))
    have b := h n (by omega)
    rw [sm_s, sm_s]; omega
theorem sm_bd {f : Nat → Int} {c : Int} : ∀ n : Nat, (∀ i : Nat, i < n → f i ≤ c) → sm n f ≤ (n : Int) * c := by
  intro n
  induction n with
  | zero => intro _; rw [show ((0 : Nat) : Int) = 0 from rfl, Int.zero_mul]; exact Int.le_refl _
  | succ n ih =>
    intro h
    have a := ih (fun i hi => h i (by omega))
    have b := h n (by omega)
    rw [sm_s, show ((n + 1 : Nat) : Int) = (n : Int) + 1 from rfl, Int.add_mul]; omega
theorem sm_mem {f : Nat → Int} {j : Nat} : ∀ n : Nat, j < n → (∀ i : Nat, i < n → 0 ≤ f i) → f j ≤ sm n f := by
  intro n
  induction n with
  | zero => intro h _; omega
  | succ n ih =>
    intro hj h
    have a := sm_nn n (fun i hi => h i (by omega))
    have b := h n (by omega)
    rw [sm_s]
    by_cases e : j = n
    · subst e; omega
    · have := ih (by omega) (fun i hi => h i (by omega)); omega
theorem sm_up {f : Nat → Int} {j : Nat} {x : Int} : ∀ n : Nat, sm n (fun i => if i = j then x else f i) = sm n f + (if j < n then x - f j else 0) := by
  intro n
  induction n with
  | zero => rw [if_neg (by omega)]; rfl
  | succ n ih =>
    rw [sm_s, sm_s, ih]
    by_cases e : n = j
    · subst e
      rw [if_neg (by omega), if_pos rfl, if_pos (by omega)]; omega
    · rw [if_neg e]
      by_cases k : j < n
      · rw [if_pos k, if_pos (by omega)]; omega
      · rw [if_neg k, if_neg (by omega)]; omega
theorem sm_pos {f : Nat → Int} : ∀ n : Nat, (∀ i : Nat, i < n → 0 ≤ f i) → (0 < sm n f ↔ ∃ i : Nat, i < n ∧ 0 < f i) := by
  intro n h
  constructor
  · intro p
    refine Classical.byContradiction (fun k => ?_)
    have z := sm_0 (f := f) n (fun i hi => by
      have a := h i hi
      have b : ¬ 0 < f i := fun q => k ⟨i, hi, q⟩
      omega)
    omega
  · rintro ⟨i, hi, p⟩
    have := sm_mem n hi h
    omega
/-- a row of numbers against weights -/
def pr (f : Nat → Int32) (G : Nat → Int) : Int := sm 1024 (fun n => (f n).toInt * G n)
theorem pr_up {f : Nat → Int32} {i : Nat} {x : Int32} {G : Nat → Int} (h : i < 1024) : pr (upd f i x) G = pr f G + (x.toInt - (f i).toInt) * G i := by
  have e : pr (upd f i x) G = sm 1024 (fun n => if n = i then x.toInt * G i else (f n).toInt * G n) := sm_c 1024 (fun n _ => by
    by_cases k : n = i
    · subst k; rw [if_pos rfl, pk_us]
    · rw [if_neg k, pk_un k])
  rw [e, sm_up, if_pos h, Int.sub_mul]; rfl
theorem pr_c {f g : Nat → Int32} {G : Nat → Int} (h : ∀ n : Nat, n < 1024 → f n = g n) : pr f G = pr g G := sm_c 1024 (fun n hn => by rw [h n hn])
theorem pr_cg {f : Nat → Int32} {G G2 : Nat → Int} (h : ∀ n : Nat, n < 1024 → G n = G2 n) : pr f G = pr f G2 := sm_c 1024 (fun n hn => by rw [h n hn])
theorem pr_1 {f : Nat → Int32} (hf : ∀ n : Nat, n < 1024 → 0 ≤ (f n).toInt) {j : Nat} (hj : j < 1024) : (f j).toInt ≤ pr f (fun _ => 1) := by
  have a := sm_mem (f := fun n => (f n).toInt * 1) 1024 hj (fun i hi => by have := hf i hi; omega)
  have b : (f j).toInt * 1 ≤ pr f (fun _ => 1) := a
  omega
theorem pr_nn {f : Nat → Int32} {G : Nat → Int} (hf : ∀ n : Nat, n < 1024 → 0 ≤ (f n).toInt) (hG : ∀ n : Nat, n < 1024 → 0 ≤ G n) : 0 ≤ pr f G := sm_nn 1024 (fun n hn => Int.mul_nonneg (hf n hn) (hG n hn))
theorem pr_le {f : Nat → Int32} {G G2 : Nat → Int} (hf : ∀ n : Nat, n < 1024 → 0 ≤ (f n).toInt) (hG : ∀ n : Nat, n < 1024 → G n ≤ G2 n) : pr f G ≤ pr f G2 := sm_le 1024 (fun n hn => Int.mul_le_mul_of_nonneg_left (hG n hn) (hf n hn))
theorem pr_mul {f : Nat → Int32} {c : Int} : pr f (fun _ => c) = c * pr f (fun _ => 1) := by
  have e : pr f (fun _ => c) = sm 1024 (fun n => c * ((f n).toInt * 1)) := sm_c 1024 (fun n _ => by rw [Int.mul_one, Int.mul_comm])
  rw [e, sm_mul]; rfl
/-- sets and vectors -/
def bt (S p : Nat) : Nat := S / 2 ^ p % 2
theorem bt_le (S p : Nat) : bt S p ≤ 1 := by unfold bt; omega
def va (v : Nat → Nat) (S : Nat) : Nat → Nat := fun p => v p + bt S p
def Wy (N : Nat) (ok : Nat → Nat → Bool) (F : (Nat → Nat) → Int) : Nat → Nat → (Nat → Nat) → Int
  | 0, _, v => F v
  | r + 1, k, v => sm N (fun S => if ok k S = true then Wy N ok F r (k + 1) (va v S) else 0)
theorem Wy_s {N : Nat} {ok : Nat → Nat → Bool} {F : (Nat → Nat) → Int} {r k : Nat} {v : Nat → Nat} : Wy N ok F (r + 1) k v = sm N (fun S => if ok k S = true then Wy N ok F r (k + 1) (va v S) else 0) := rfl
theorem Wy_c {N : Nat} {ok : Nat → Nat → Bool} {F F2 : (Nat → Nat) → Int} {R : Nat → (Nat → Nat) → Prop} (hup : ∀ (r : Nat) (u : Nat → Nat) (S : Nat), S < N → R (r + 1) u → R r (va u S)) (hF : ∀ u : Nat → Nat, R 0 u → F u = F2 u) : ∀ (r k : Nat) (v : Nat → Nat), R r v → Wy N ok F r k v = Wy N ok F2 r k v := by
  intro r
  induction r with
  | zero => intro k v h; exact hF v h
  | succ r ih =>
    intro k v h
    rw [Wy_s, Wy_s]
    refine sm_c N (fun S hS => ?_)
    rw [ih (k + 1) (va v S) (hup r v S hS h)]
theorem Wy_cat {N : Nat} {ok : Nat → Nat → Bool} {F : (Nat → Nat) → Int} {b : Nat} : ∀ (a k : Nat) (v : Nat → Nat), Wy N ok F (a + b) k v = Wy N ok (fun u => Wy N ok F b (k + a) u) a k v := by
  intro a
  induction a with
  | zero => intro k v; rw [Nat.zero_add]; rfl
  | succ a ih =>
    intro k v
    rw [Nat.succ_add, Wy_s, Wy_s]
    refine sm_c N (fun S hS => ?_)
    rw [ih (k + 1) (va v S), show k + 1 + a = k + (a + 1) from by omega]
theorem Wy_shift {N : Nat} {ok : Nat → Nat → Bool} {F : (Nat → Nat) → Int} {v : Nat → Nat} : ∀ (r k : Nat) (w : Nat → Nat), Wy N ok F r k (fun p => v p + w p) = Wy N ok (fun u => F (fun p => v p + u p)) r k w := by
  intro r
  induction r with
  | zero => intro k w; rfl
  | succ r ih =>
    intro k w
    rw [Wy_s, Wy_s]
    refine sm_c N (fun S hS => ?_)
    rw [show va (fun p => v p + w p) S = (fun p => v p + va w S p) from funext (fun p => Nat.add_assoc _ _ _), ih (k + 1) (va w S)]
theorem Wy_nn {N : Nat} {ok : Nat → Nat → Bool} {F : (Nat → Nat) → Int} (hF : ∀ u : Nat → Nat, 0 ≤ F u) : ∀ (r k : Nat) (v : Nat → Nat), 0 ≤ Wy N ok F r k v := by
  intro r
  induction r with
  | zero => intro k v; exact hF v
  | succ r ih =>
    intro k v
    rw [Wy_s]
    refine sm_nn N (fun S _ => ?_)
    by_cases o : ok k S = true
    · rw [if_pos o]; exact ih _ _
    · rw [if_neg o]; exact Int.le_refl _
theorem Wy_zero {N : Nat} {ok : Nat → Nat → Bool} {F : (Nat → Nat) → Int} {Z : (Nat → Nat) → Prop} (hF : ∀ u : Nat → Nat, Z u → F u = 0) (hup : ∀ (u : Nat → Nat) (S : Nat), Z u → Z (va u S)) : ∀ (r k : Nat) (v : Nat → Nat), Z v → Wy N ok F r k v = 0 := by
  intro r
  induction r with
  | zero => intro k v h; exact hF v h
  | succ r ih =>
    intro k v h
    rw [Wy_s]
    refine sm_0 N (fun S _ => ?_)
    by_cases o : ok k S = true
    · rw [if_pos o]; exact ih _ _ (hup v S h)
    · rw [if_neg o]
theorem Wy_pos {N : Nat} {ok : Nat → Nat → Bool} {F : (Nat → Nat) → Int} (hF : ∀ u : Nat → Nat, 0 ≤ F u) {r k : Nat} {v : Nat → Nat} : 0 < Wy N ok F (r + 1) k v ↔ ∃ S : Nat, S < N ∧ ok k S = true ∧ 0 < Wy N ok F r (k + 1) (va v S) := by
  rw [Wy_s]
  rw [sm_pos N (fun S _ => by
    by_cases o : ok k S = true
    · rw [if_pos o]; exact Wy_nn hF _ _ _
    · rw [if_neg o]; exact Int.le_refl _)]
  constructor
  · rintro ⟨S, hS, h⟩
    by_cases o : ok k S = true
    · rw [if_pos o] at h; exact ⟨S, hS, o, h⟩
    · rw [if_neg o] at h; exact absurd h (by decide)
  · rintro ⟨S, hS, o, h⟩
    exact ⟨S, hS, by rw [if_pos o]; exact h⟩
theorem Wy_ok {N : Nat} {ok ok2 : Nat → Nat → Bool} {F : (Nat → Nat) → Int} : ∀ (r k : Nat) (v : Nat → Nat), (∀ j S : Nat, k ≤ j → S < N → ok j S = ok2 j S) → Wy N ok F r k v = Wy N ok2 F r k v := by
  intro r
  induction r with
  | zero => intro k v _; rfl
  | succ r ih =>
    intro k v h
    rw [Wy_s, Wy_s]
    refine sm_c N (fun S hS => ?_)
    rw [h k S (Nat.le_refl _) hS, ih (k + 1) (va v S) (fun j S hj hS => h j S (by omega) hS)]
/-- the same by numbers -/
def Vy (N : Nat) (ok : Nat → Nat → Bool) (c : Nat → Nat) (G : Nat → Int) : Nat → Nat → Nat → Int
  | 0, _, n => G n
  | r + 1, k, n => sm N (fun S => if ok k S = true ∧ n + c S < 1024 then Vy N ok c G r (k + 1) (n + c S) else 0)
theorem Vy_s {N : Nat} {ok : Nat → Nat → Bool} {c : Nat → Nat} {G : Nat → Int} {r k n : Nat} : Vy N ok c G (r + 1) k n = sm N (fun S => if ok k S = true ∧ n + c S < 1024 then Vy N ok c G r (k + 1) (n + c S) else 0) := rfl
theorem Vy_snoc {N : Nat} {ok : Nat → Nat → Bool} {c : Nat → Nat} {G : Nat → Int} : ∀ (r k n : Nat), Vy N ok c G (r + 1) k n = Vy N ok c (fun i => Vy N ok c G 1 (k + r) i) r k n := by
  intro r
  induction r with
  | zero => intro k n; rfl
  | succ r ih =>
    intro k n
    rw [Vy_s, Vy_s]
    refine sm_c N (fun S hS => ?_)
    rw [ih (k + 1) (n + c S), show k + 1 + r = k + (r + 1) from by omega]
def e4 (v : Nat → Nat) : Nat := v 0 + 4 * v 1 + 16 * v 2 + 64 * v 3 + 256 * v 4
def e7 (v : Nat → Nat) : Nat := v 0 + 7 * v 1 + 49 * v 2 + 343 * v 3 + 2401 * v 4
theorem e4_va (v : Nat → Nat) (S : Nat) : e4 (va v S) = e4 v + e4 (bt S) := by unfold e4 va; omega
theorem e7_va (v : Nat → Nat) (S : Nat) : e7 (va v S) = e7 v + e7 (bt S) := by unfold e7 va; omega
theorem e4_lt {v : Nat → Nat} (h : ∀ p : Nat, p < 5 → v p ≤ 3) : e4 v < 1024 := by
  have h0 := h 0 (by omega)
  have h1 := h 1 (by omega)
  have h2 := h 2 (by omega)
  have h3 := h 3 (by omega)
  have h4 := h 4 (by omega)
  unfold e4; omega
theorem Vy_vec {N : Nat} {ok : Nat → Nat → Bool} {c : Nat → Nat} {G : Nat → Int} (hc : ∀ S : Nat, S < N → c S = e4 (bt S)) : ∀ (r k : Nat) (v : Nat → Nat), (∀ p : Nat, p < 5 → v p + r ≤ 3) → Vy N ok c G r k (e4 v) = Wy N ok (fun u => G (e4 u)) r k v := by
  intro r
  induction r with
  | zero => intro k v _; rfl
  | succ r ih =>
    intro k v h
    rw [Vy_s, Wy_s]
    refine sm_c N (fun S hS => ?_)
    have hv : ∀ p : Nat, p < 5 → va v S p + r ≤ 3 := fun p hp => by
      have a := h p hp
      have b := bt_le S p
      show v p + bt S p + r ≤ 3
      omega
    rw [hc S hS, ← e4_va, ih (k + 1) (va v S) hv]
    have lt := e4_lt (v := va v S) (fun p hp => by have := hv p hp; omega)
    by_cases o : ok k S = true
    · rw [if_pos o, if_pos ⟨o, lt⟩]
    · rw [if_neg o, if_neg (fun q => o q.1)]
/-- digits -/
def d4 (n p : Nat) : Nat := n / 4 ^ p % 4
def d7 (n p : Nat) : Nat := n / 7 ^ p % 7
theorem p5 {P : Nat → Prop} (h0 : P 0) (h1 : P 1) (h2 : P 2) (h3 : P 3) (h4 : P 4) : ∀ p : Nat, p < 5 → P p := by
  intro p hp
  rcases (by omega : p = 0 ∨ p = 1 ∨ p = 2 ∨ p = 3 ∨ p = 4) with rfl | rfl | rfl | rfl | rfl
  · exact h0
  · exact h1
  · exact h2
  · exact h3
  · exact h4
theorem d4_e {v : Nat → Nat} (h : ∀ p : Nat, p < 5 → v p ≤ 3) : ∀ p : Nat, p < 5 → d4 (e4 v) p = v p := by
  have h0 := h 0 (by omega)
  have h1 := h 1 (by omega)
  have h2 := h 2 (by omega)
  have h3 := h 3 (by omega)
  have h4 := h 4 (by omega)
  refine p5 ?_ ?_ ?_ ?_ ?_
  · show e4 v / 1 % 4 = v 0; unfold e4; omega
  · show e4 v / 4 % 4 = v 1; unfold e4; omega
  · show e4 v / 16 % 4 = v 2; unfold e4; omega
  · show e4 v / 64 % 4 = v 3; unfold e4; omega
  · show e4 v / 256 % 4 = v 4; unfold e4; omega
theorem d7_e {v : Nat → Nat} (h : ∀ p : Nat, p < 5 → v p ≤ 6) : ∀ p : Nat, p < 5 → d7 (e7 v) p = v p := by
  have h0 := h 0 (by omega)
  have h1 := h 1 (by omega)
  have h2 := h 2 (by omega)
  have h3 := h 3 (by omega)
  have h4 := h 4 (by omega)
  refine p5 ?_ ?_ ?_ ?_ ?_
  · show e7 v / 1 % 7 = v 0; unfold e7; omega
  · show e7 v / 7 % 7 = v 1; unfold e7; omega
  · show e7 v / 49 % 7 = v 2; unfold e7; omega
  · show e7 v / 343 % 7 = v 3; unfold e7; omega
  · show e7 v / 2401 % 7 = v 4; unfold e7; omega
theorem d4_lt (n p : Nat) : d4 n p ≤ 3 := by unfold d4; omega
theorem d7_lt (n p : Nat) : d7 n p ≤ 6 := by unfold d7; omega
theorem e4_d {n : Nat} (h : n < 1024) : e4 (d4 n) = n := by
  show n / 1 % 4 + 4 * (n / 4 % 4) + 16 * (n / 16 % 4) + 64 * (n / 64 % 4) + 256 * (n / 256 % 4) = n
  omega
theorem e7_d {n : Nat} (h : n < 16807) : e7 (d7 n) = n := by
  show n / 1 % 7 + 7 * (n / 7 % 7) + 49 * (n / 49 % 7) + 343 * (n / 343 % 7) + 2401 * (n / 2401 % 7) = n
  omega
theorem e4_c {v w : Nat → Nat} (h : ∀ p : Nat, p < 5 → v p = w p) : e4 v = e4 w := by
  unfold e4
  rw [h 0 (by omega), h 1 (by omega), h 2 (by omega), h 3 (by omega), h 4 (by omega)]
theorem e7_c {v w : Nat → Nat} (h : ∀ p : Nat, p < 5 → v p = w p) : e7 v = e7 w := by
  unfold e7
  rw [h 0 (by omega), h 1 (by omega), h 2 (by omega), h 3 (by omega), h 4 (by omega)]
/-- within the claps told -/
def Cq (cp : Nat → Int) (v : Nat → Nat) : Prop := (v 0 : Int) ≤ cp 0 ∧ (v 1 : Int) ≤ cp 1 ∧ (v 2 : Int) ≤ cp 2 ∧ (v 3 : Int) ≤ cp 3 ∧ (v 4 : Int) ≤ cp 4
theorem Cq_at {cp : Nat → Int} {v : Nat → Nat} : Cq cp v ↔ ∀ p : Nat, p < 5 → (v p : Int) ≤ cp p := by
  constructor
  · rintro ⟨a, b, c, d, e⟩; exact p5 a b c d e
  · intro h; exact ⟨h 0 (by omega), h 1 (by omega), h 2 (by omega), h 3 (by omega), h 4 (by omega)⟩
noncomputable def Fc (cp : Nat → Int) (v : Nat → Nat) : Int := @ite Int (Cq cp v) (Classical.propDecidable _) 1 0
theorem Fc_y {cp : Nat → Int} {v : Nat → Nat} (h : Cq cp v) : Fc cp v = 1 := if_pos h
theorem Fc_n {cp : Nat → Int} {v : Nat → Nat} (h : ¬ Cq cp v) : Fc cp v = 0 := if_neg h
theorem Fc_nn (cp : Nat → Int) (v : Nat → Nat) : 0 ≤ Fc cp v := by
  by_cases h : Cq cp v
  · rw [Fc_y h]; decide
  · rw [Fc_n h]; decide
theorem Wc_out {N : Nat} {ok : Nat → Nat → Bool} {cp : Nat → Int} {r k : Nat} {v : Nat → Nat} (h : ¬ Cq cp v) : Wy N ok (Fc cp) r k v = 0 := by
  refine Wy_zero (Z := fun u => ¬ Cq cp u) (fun u hu => Fc_n hu) (fun u S hu q => hu ?_) r k v h
  rw [Cq_at] at q ⊢
  intro p hp
  have a := q p hp
  have b : ((va u S p : Nat) : Int) = (u p : Int) + (bt S p : Int) := rfl
  omega
/-- numbers below a number, digit by digit -/
def Dle (w r : Nat) : Prop := ∀ p : Nat, p < 5 → d4 w p ≤ d4 r p
noncomputable def ind (r w : Nat) : Int := @ite Int (Dle w r) (Classical.propDecidable _) 1 0
theorem idd_y {r w : Nat} (h : Dle w r) : ind r w = 1 := if_pos h
theorem idd_n {r w : Nat} (h : ¬ Dle w r) : ind r w = 0 := if_neg h
theorem ind_rng (r w : Nat) : 0 ≤ ind r w ∧ ind r w ≤ 1 := by
  by_cases h : Dle w r
  · rw [idd_y h]; decide
  · rw [idd_n h]; decide
/-- the two halves of the minutes, put together -/
theorem halves_all {N P : Nat} {ok : Nat → Nat → Bool} {c : Nat → Nat} {cp : Nat → Int} {G : Nat → Int} {a b : Nat} {room : Nat → Nat} (hP : ∀ S p : Nat, S < N → P ≤ p → bt S p = 0) (hc : ∀ S : Nat, S < N → c S = e4 (bt S)) (ha : a ≤ 3) (hb : b ≤ 3) (h3 : a = 3 ∨ b = 0) (hcp : ∀ p : Nat, p < 5 → P ≤ p → cp p = 0)
    (hG : ∀ u : Nat → Nat, (∀ p : Nat, p < 5 → u p ≤ 3) → (∀ p : Nat, P ≤ p → u p = 0) → (¬ Cq cp u → G (e4 u) = 0) ∧ (Cq cp u → (∀ p : Nat, p < 5 → (d4 (room (e4 u)) p : Int) = min 3 (cp p - (u p : Int))) ∧ G (e4 u) = Vy N ok c (ind (room (e4 u))) b 3 0)) : Vy N ok c G a 0 0 = Wy N ok (Fc cp) (a + b) 0 (fun _ => 0) := by
  have z : e4 (fun _ => 0) = 0 := rfl
  have e := Vy_vec (N := N) (ok := ok) (c := c) (G := G) hc a 0 (fun _ => 0) (fun p _ => by show 0 + a ≤ 3; omega)
  rw [z] at e
  rw [e, Wy_cat]
  refine Wy_c (R := fun r u => (∀ p : Nat, p < 5 → u p + r ≤ 3) ∧ (∀ p : Nat, P ≤ p → u p = 0)) (fun r u S hS hu => ⟨fun p hp => ?_, fun p hp => ?_⟩) (fun u hu => ?_) a 0 (fun _ => 0) ⟨fun p _ => by show 0 + a ≤ 3; omega, fun p _ => rfl⟩
  · have x := hu.1 p hp
    have y := bt_le S p
    show u p + bt S p + r ≤ 3
    omega
  · show u p + bt S p = 0
    rw [hu.2 p hp, hP S p hS hp]
  · obtain ⟨q1, q2⟩ := hG u (fun p hp => by have := hu.1 p hp; omega) hu.2
    by_cases k : Cq cp u
    · obtain ⟨hr, e2⟩ := q2 k
      have ee : ∀ v : Nat → Nat, Vy N ok c (ind (room (e4 u))) b 3 0 = Wy N ok (fun w => ind (room (e4 u)) (e4 w)) b 3 (fun _ => 0) := fun _ => by
        have e3 := Vy_vec (N := N) (ok := ok) (c := c) (G := ind (room (e4 u))) hc b 3 (fun _ => 0) (fun p _ => by show 0 + b ≤ 3; omega)
        rw [z] at e3
        exact e3
      rw [e2, ee (fun _ => 0)]
      have e4_ : Wy N ok (fun w => ind (room (e4 u)) (e4 w)) b 3 (fun _ => 0) = Wy N ok (fun w => Fc cp (fun p => u p + w p)) b 3 (fun _ => 0) := by
        refine Wy_c (R := fun r w => ∀ p : Nat, p < 5 → w p + r ≤ 3) (fun r w S hS hw p hp => ?_) (fun w hw => ?_) b 3 (fun _ => 0) (fun p _ => by show 0 + b ≤ 3; omega)
        · have x := hw p hp
          have y := bt_le S p
          show w p + bt S p + r ≤ 3
          omega
        · have hw3 : ∀ p : Nat, p < 5 → w p ≤ 3 := fun p hp => by have := hw p hp; omega
          have dw := d4_e hw3
          have iff : Dle (e4 w) (room (e4 u)) ↔ Cq cp (fun p => u p + w p) := by
            rw [Cq_at]
            constructor
            · intro q p hp
              have a1 := q p hp
              have a2 := hr p hp
              rw [dw p hp] at a1
              have a3 : (((u p + w p : Nat)) : Int) = (u p : Int) + (w p : Int) := rfl
              omega
            · intro q p hp
              have a1 := q p hp
              have a2 := hr p hp
              have a4 := hw3 p hp
              rw [dw p hp]
              have a3 : (((u p + w p : Nat)) : Int) = (u p : Int) + (w p : Int) := rfl
              omega
          by_cases y : Dle (e4 w) (room (e4 u))
          · rw [idd_y y, Fc_y (iff.mp y)]
          · rw [idd_n y, Fc_n (fun q => y (iff.mpr q))]
      rw [e4_, ← Wy_shift]
      rcases h3 with h3 | h3
      · rw [h3]; rfl
      · rw [h3]; rfl
    · rw [q1 k, Wc_out k]
