/-! powers of sixteen -/
def PW (u v : Int) (k : Nat) : Prop := 0 ≤ u ∧ u ≤ 16 ^ k ∧ 1 ≤ v ∧ v ≤ 16 ^ k
theorem PW_0 {u v : Int} {k : Nat} (hu : u = 1) (hv : v = 1) (hk : k = 0) : PW u v k := by
  subst hu hv hk
  exact ⟨by omega, by decide, by omega, by decide⟩
theorem PW_k {k : Nat} : (16 : Int) ^ k ≤ 16 ^ (k + 1) := by
  have h : (0 : Int) ≤ 16 ^ k := Int.le_of_lt (Int.pow_pos (by decide))
  rw [Int.pow_succ]
  omega
theorem PW_n {u v : Int} {k k1 : Nat} (h : PW u v k) (hk : k1 = k + 1) : PW u v k1 := by
  have q := PW_k (k := k)
  subst hk
  exact ⟨h.1, by have := h.2.1; omega, h.2.2.1, by have := h.2.2.2; omega⟩
theorem PW_b {k : Nat} (hk : k ≤ 14) : (16 : Int) ^ k ≤ 72057594037927936 := by
  have : ∀ n, n ≤ 14 → (16 : Int) ^ n ≤ 72057594037927936 := by decide
  exact this k hk
theorem PW_m {v c z : Int64} {k : Nat} (hz : z = v * c) (h0 : 0 ≤ v.toInt) (h1 : v.toInt ≤ 16 ^ k) (hc : 0 ≤ c.toInt ∧ c.toInt ≤ 16) (hk : k ≤ 14) : z.toInt = v.toInt * c.toInt ∧ 0 ≤ v.toInt * c.toInt ∧ v.toInt * c.toInt ≤ 16 ^ (k + 1) := by
  have hb := PW_b hk
  have q1 : 0 ≤ v.toInt * c.toInt := Int.mul_nonneg h0 hc.1
  have q2 : v.toInt * c.toInt ≤ v.toInt * 16 := Int.mul_le_mul_of_nonneg_left hc.2 h0
  refine ⟨?_, q1, ?_⟩
  · rw [hz]
    exact tw_mulL (by omega) (by omega)
  · rw [Int.pow_succ]
    omega
theorem PW_s {u v c d y z : Int64} {k k1 : Nat} (h : PW u.toInt v.toInt k) (hy : y = u * c) (hz : z = v * d) (hc : 0 ≤ c.toInt ∧ c.toInt ≤ 16) (hd : d.toInt = 16) (hk : k ≤ 14) (h1 : k1 = k + 1) : PW y.toInt z.toInt k1 := by
  obtain ⟨a1, a2, a3, a4⟩ := h
  have p1 := PW_m hy a1 a2 hc hk
  have p2 := PW_m hz (by omega) a4 (by omega) hk
  subst h1
  refine ⟨by omega, by omega, ?_, by omega⟩
  rw [p2.1, hd]
  omega
theorem PW_g {u v : Int} {k : Nat} (h : PW u v k) : 0 ≤ u ∧ 1 ≤ v := ⟨h.1, h.2.2.1⟩
