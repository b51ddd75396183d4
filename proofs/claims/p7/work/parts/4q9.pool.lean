/-! halves and bits -/
theorem tw_shr5 {x z : Int64} {five : Int32} (h5 : five.toInt = 5) (h : z = x >>> (five.toInt64 &&& 63)) : z.toInt = x.toInt / 32 := by
  obtain rfl : (5 : Int32) = five := Int32.toInt_inj.mp (by rw [h5]; rfl)
  have e : ((5 : Int32).toInt64 &&& 63) = 5 := by decide
  rw [h, e]
  have e2 : x >>> (5 : Int64) = Int64.ofBitVec (x.toBitVec.sshiftRight 5) := rfl
  rw [e2]
  show (x.toBitVec.sshiftRight 5).toInt = x.toBitVec.toInt / 32
  rw [BitVec.toInt_sshiftRight, Int.shiftRight_eq_div_pow]
  rfl
theorem tw_bits {x o y z : Int32} (ho : o.toInt = 1) (hy : y = x - o) (h : z = x &&& y) (h0 : x.toInt ≠ 0) : z.toUInt32.toNat < x.toUInt32.toNat := by
  obtain rfl : (1 : Int32) = o := Int32.toInt_inj.mp (by rw [ho]; rfl)
  subst hy h
  have hx : x.toBitVec.toNat ≠ 0 := fun q => h0 (by
    have : x.toBitVec = 0#32 := BitVec.eq_of_toNat_eq q
    show x.toBitVec.toInt = 0
    rw [this]
    rfl)
  show (x.toBitVec &&& (x.toBitVec - 1#32)).toNat < x.toBitVec.toNat
  rw [BitVec.toNat_and]
  have h2 : (x.toBitVec - 1#32).toNat = x.toBitVec.toNat - 1 := by
    rw [BitVec.toNat_sub]
    have := x.toBitVec.isLt
    have e1 : (1#32).toNat = 1 := rfl
    rw [e1]
    omega
  rw [h2]
  have := Nat.and_le_right (n := x.toBitVec.toNat) (m := x.toBitVec.toNat - 1)
  omega
