theorem inr_max {t : Int32} : inr 0 2147483647 t = !decide (t < 0) := by
  unfold inr
  have h : t ≤ 2147483647 := by
    rw [Int32.le_iff_toInt_le]
    have h1 := Int32.toInt_lt t
    have h2 : (2147483647 : Int32).toInt = 2147483647 := by decide
    omega
  rw [decide_eq_true h, Bool.and_true]
