/-! a theatre handed; theatres and books by their numbers -/
theorem hand_sp {mn D : Nat → Int32} {a xt xp xa xr r n1 n2 n3 n4 : Int32} (h : R_j_hand mn a D xt xp xa xr r n1 n2 n3 n4) : (r = 1 ∧ (0 ≤ a.toInt ∧ a.toInt < (mn 0).toInt) ∧ n1 = a ∧ (a.toInt ≤ 1 → n2 = D (36 * a.toInt.toNat + 0) ∧ n3 = D (36 * a.toInt.toNat + 1) ∧ n4 = D (36 * a.toInt.toNat + 2))) ∨ (r = 0 ∧ (a.toInt < 0 ∨ (mn 0).toInt ≤ a.toInt)) := by
  obtain ⟨q, hi, h⟩ := h
  replace hi := is_sp hi
  have k0 : Int32.toNatClampNeg (0 : Int32) = 0 := by decide
  rw [k0] at hi
  rcases h with ⟨q1, r5, h5, r8, h8, r11, h11, e0, e1, e2, e3, e4⟩ | ⟨q0, e0, -⟩
  · rcases hi with ⟨-, p⟩ | ⟨q0, -⟩
    · refine Or.inl ⟨e0, p, e1, fun h1 => ?_⟩
      have h5 := of_sp ⟨p.1, h1⟩ ⟨by decide, by decide⟩ h5
      have h8 := of_sp ⟨p.1, h1⟩ ⟨by decide, by decide⟩ h8
      have h11 := of_sp ⟨p.1, h1⟩ ⟨by decide, by decide⟩ h11
      exact ⟨e2.trans h5, e3.trans h8, e4.trans h11⟩
    · rw [q1] at q0; exact absurd q0 (by decide)
  · rcases hi with ⟨q1, -⟩ | ⟨-, p⟩
    · rw [q0] at q1; exact absurd q1 (by decide)
    · exact Or.inr ⟨e0, p⟩
theorem RT_at0 {TN : Nat → Int32} {TF M : Nat → Nat → Int32} {a : Int32} (h : TLk 0 TN TF M) (c : a.toInt = 0) : RT (fun j => M 5 (36 * a.toInt.toNat + j)) (TN 6) (TN 7) (TN 8) (TN 9) (TN 10) (TN 11) (TF 1) (TF 2) (TF 3) (TF 4) (TF 5) (TF 6) :=
  RT_c (fun j _ => by show M 5 (36 * a.toInt.toNat + j) = M 5 (72 * 0 + j); rw [show 36 * a.toInt.toNat + j = 72 * 0 + j from by omega]) h.2.2.2.2.2.2.2.1
theorem RT_at1 {TN : Nat → Int32} {TF M : Nat → Nat → Int32} {a : Int32} (h : TLk 0 TN TF M) (c : a.toInt = 1) : RT (fun j => M 5 (36 * a.toInt.toNat + j)) (TN 12) (TN 13) (TN 14) (TN 15) (TN 16) (TN 17) (TF 7) (TF 8) (TF 9) (TF 10) (TF 11) (TF 12) :=
  RT_c (fun j _ => by show M 5 (36 * a.toInt.toNat + j) = M 5 (72 * 0 + 36 + j); rw [show 36 * a.toInt.toNat + j = 72 * 0 + 36 + j from by omega]) h.2.2.2.2.2.2.2.2.1
theorem RB_at0 {TN : Nat → Int32} {TF M : Nat → Nat → Int32} {b : Int32} (h : TLk 0 TN TF M) (c : b.toInt = 0) : RB (fun j => M 6 (121 * b.toInt.toNat + j)) (TN 18) (TF 13) :=
  RB_c (fun j _ => by show M 6 (121 * b.toInt.toNat + j) = M 6 (242 * 0 + j); rw [show 121 * b.toInt.toNat + j = 242 * 0 + j from by omega]) h.2.2.2.2.2.2.2.2.2.1
theorem RB_at1 {TN : Nat → Int32} {TF M : Nat → Nat → Int32} {b : Int32} (h : TLk 0 TN TF M) (c : b.toInt = 1) : RB (fun j => M 6 (121 * b.toInt.toNat + j)) (TN 19) (TF 14) :=
  RB_c (fun j _ => by show M 6 (121 * b.toInt.toNat + j) = M 6 (242 * 0 + 121 + j); rw [show 121 * b.toInt.toNat + j = 242 * 0 + 121 + j from by omega]) h.2.2.2.2.2.2.2.2.2.2.1
