/-! OF LONGS -/
theorem sy_ok1 {a : Nat} (h : a < 18446744073709551616) : mv_ok (1, a, 0) = true := by
  unfold mv_ok
  simp only [Bool.and_eq_true, Nat.ble_eq, Nat.blt_eq]
  omega
