theorem i_remabs {x y : Int32} {X Y : Int} (hx : x.toInt = X) (hy : y.toInt = Y) (h1 : Y ≠ 0) : max (x - x / y * y).toInt (-(x - x / y * y).toInt) < max Y (-Y) := by
  rw [rem_toInt, hx, hy]
  have h := Int.natAbs_tmod X Y
  have h2 : X.natAbs % Y.natAbs < Y.natAbs := Nat.mod_lt _ (by omega)
  omega
