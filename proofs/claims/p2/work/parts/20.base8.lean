/-! a row but for its first place; what feeding, ending, images do to the sizes -/
def Ko (f g : Nat → Int32) : Prop := ∀ k : Nat, k ≠ 0 → g k = f k
theorem Ko_rf {f : Nat → Int32} : Ko f f := fun _ _ => rfl
theorem Ko_up {f g : Nat → Int32} {k : Nat} {v : Int32} (h : Ko f g) (hk : k = 0) : Ko f (upd g k v) := fun j hj => by rw [pk_un (by omega)]; exact h j hj
theorem Ko_tr {f g h : Nat → Int32} (a : Ko f g) (b : Ko g h) : Ko f h := fun k hk => (b k hk).trans (a k hk)
/-- feed: the answer r, the length n behind it, out of the length x -/
def Fd9 (x r n : Int32) : Prop := (r.toInt = -1 ∧ n = x ∧ 580 < x.toInt) ∨ (r.toInt = x.toInt + 20 ∧ n.toInt = x.toInt + 20 ∧ x.toInt ≤ 580)
def Ed9 (x a r n : Int32) : Prop := (r.toInt = -1 ∧ n = x ∧ (a.toInt < 0 ∨ x.toInt < a.toInt)) ∨ (r = a ∧ n = a ∧ 0 ≤ a.toInt ∧ a.toInt ≤ x.toInt)
theorem Fd9_eq {x r n r2 n2 : Int32} (h : Fd9 x r n) (h2 : Fd9 x r2 n2) : r = r2 ∧ n = n2 := by
  rcases h with ⟨a, b, c⟩ | ⟨a, b, c⟩ <;> rcases h2 with ⟨a2, b2, c2⟩ | ⟨a2, b2, c2⟩
  · exact ⟨Int32.toInt_inj.mp (by omega), b.trans b2.symm⟩
  · omega
  · omega
  · exact ⟨Int32.toInt_inj.mp (by omega), Int32.toInt_inj.mp (by omega)⟩
theorem Ed9_eq {x a r n r2 n2 : Int32} (h : Ed9 x a r n) (h2 : Ed9 x a r2 n2) : r = r2 ∧ n = n2 := by
  rcases h with ⟨e, b, c⟩ | ⟨e, b, c⟩ <;> rcases h2 with ⟨e2, b2, c2⟩ | ⟨e2, b2, c2⟩
  · exact ⟨Int32.toInt_inj.mp (by omega), b.trans b2.symm⟩
  · omega
  · omega
  · exact ⟨e.trans e2.symm, b.trans b2.symm⟩
/-- image and again, of the sizes and of what is kept -/
def Ig9 (a r : Int32) (sz sz2 kf kf2 : Nat → Int32) : Prop := (r.toInt = 1 ∧ (0 ≤ a.toInt ∧ a.toInt ≤ 2) ∧ sz2 = upd sz (a.toInt.toNat + 1) (sz 0) ∧ kf2 = upd kf a.toInt.toNat 1) ∨ (r.toInt = 0 ∧ (a.toInt < 0 ∨ 2 < a.toInt) ∧ sz2 = sz ∧ kf2 = kf)
def Ag9 (a r : Int32) (sz sz2 kf : Nat → Int32) : Prop := (r.toInt = 1 ∧ ((0 ≤ a.toInt ∧ a.toInt ≤ 2) ∧ (kf a.toInt.toNat).toInt ≠ 0) ∧ sz2 = upd sz 0 (sz (a.toInt.toNat + 1))) ∨ (r.toInt = 0 ∧ ((a.toInt < 0 ∨ 2 < a.toInt) ∨ (kf a.toInt.toNat).toInt = 0) ∧ sz2 = sz)
