theorem x_c4' {t : Int32} (h1 : ¬ t < 0) (h2 : t ≤ 3) : t = 0 ∨ t = 1 ∨ t = 2 ∨ t = 3 := x_c4 h1 (fun h3 => by
  have h4 := Int32.le_iff_toInt_le.mp h2
  have h5 := Int32.le_iff_toInt_le.mp h3
  have e1 : (3 : Int32).toInt = 3 := by decide
  have e2 : (4 : Int32).toInt = 4 := by decide
  omega)
theorem x_c3' {t : Int32} (h1 : ¬ t < 0) (h2 : t ≤ 2) : t = 0 ∨ t = 1 ∨ t = 2 := x_c3 h1 (fun h3 => by
  have h4 := Int32.le_iff_toInt_le.mp h2
  have h5 := Int32.le_iff_toInt_le.mp h3
  have e1 : (2 : Int32).toInt = 2 := by decide
  have e2 : (3 : Int32).toInt = 3 := by decide
  omega)
theorem x_le60 {t : Int32} (h1 : ¬ t < 0) (h2 : t ≤ 60) : ∃ j, j ≤ 60 ∧ t = nI j := by
  obtain ⟨j, hj, rfl⟩ := nI_of h1
  exact ⟨j, (nI_leI (b := 60) hj (by decide)).mp h2, rfl⟩
theorem x_lc {t : Int32} (h : ¬ t < 0) : 0 ≤ lg_cmp t.toInt64 0 := by
  rw [lg_cmp_ge, Int64.le_iff_toInt_le]
  have h1 : ¬ t.toInt < (0 : Int32).toInt := fun h2 => h (Int32.lt_iff_toInt_lt.mpr h2)
  have e1 : (0 : Int32).toInt = 0 := by decide
  have e2 : (0 : Int64).toInt = 0 := by decide
  have e3 : t.toInt64.toInt = t.toInt := by simp
  omega
