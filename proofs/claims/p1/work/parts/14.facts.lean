theorem x_gap {k : Int32} (h : ¬ k < 1) : -1 < k := by
  have h1 : ¬ k.toInt < (1 : Int32).toInt := fun h2 => h (Int32.lt_iff_toInt_lt.mpr h2)
  apply Int32.lt_iff_toInt_lt.mpr
  have e1 : (1 : Int32).toInt = 1 := by decide
  have e2 : (-1 : Int32).toInt = -1 := by decide
  omega
theorem x_0' {t : Int32} (h1 : ¬ t < 0) (h2 : t ≤ 0) : t = 0 := x_0 h1 (Int32.not_lt.mpr h2)
theorem x_34 {t : Int32} : 3 < t ↔ 4 ≤ t := by
  rw [Int32.lt_iff_toInt_lt, Int32.le_iff_toInt_le]
  have e1 : (3 : Int32).toInt = 3 := by decide
  have e2 : (4 : Int32).toInt = 4 := by decide
  omega
theorem x_45 {t : Int32} : 4 < t ↔ 5 ≤ t := by
  rw [Int32.lt_iff_toInt_lt, Int32.le_iff_toInt_le]
  have e1 : (4 : Int32).toInt = 4 := by decide
  have e2 : (5 : Int32).toInt = 5 := by decide
  omega
