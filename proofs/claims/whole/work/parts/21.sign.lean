theorem ji_sign_neg {z : Int32} : (-1 : Int32) ||| z = -1 := by
  apply Int32.toBitVec_inj.mp
  rw [Int32.toBitVec_or]
  show BitVec.allOnes 32 ||| z.toBitVec = BitVec.allOnes 32
  exact BitVec.allOnes_or
theorem ji_zero_or {z : Int32} : (0 : Int32) ||| z = z := by
  apply Int32.toBitVec_inj.mp
  rw [Int32.toBitVec_or]
  show 0#32 ||| z.toBitVec = z.toBitVec
  exact BitVec.zero_or
theorem jl_sign_neg {z : Int64} : (-1 : Int64) ||| z = -1 := by
  apply Int64.toBitVec_inj.mp
  rw [Int64.toBitVec_or]
  show BitVec.allOnes 64 ||| z.toBitVec = BitVec.allOnes 64
  exact BitVec.allOnes_or
theorem jl_zero_or {z : Int64} : (0 : Int64) ||| z = z := by
  apply Int64.toBitVec_inj.mp
  rw [Int64.toBitVec_or]
  show 0#64 ||| z.toBitVec = z.toBitVec
  exact BitVec.zero_or
theorem jx_si_toInt (x : Int32) : (jx_si x).toInt = x.toInt.sign := by
  unfold jx_si
  have e1 : (x >>> ((31 : Int32) &&& 31)).toInt = x.toInt >>> 31 := pk_shr x _ 31 (by decide)
  have hlo := Int32.le_toInt x
  have hhi := Int32.toInt_lt x
  have e2 : x.toInt >>> 31 = x.toInt / 2147483648 := by rw [Int.shiftRight_eq_div_pow]; rfl
  by_cases h : x.toInt < 0
  · have e3 : x >>> ((31 : Int32) &&& 31) = -1 := by
      apply ji_ext
      rw [e1, e2]
      show x.toInt / 2147483648 = -1
      omega
    rw [e3, ji_sign_neg]
    show (-1 : Int) = _
    rw [Int.sign_eq_neg_one_of_neg h]
  · have e3 : x >>> ((31 : Int32) &&& 31) = 0 := by
      apply ji_ext
      rw [e1, e2]
      show x.toInt / 2147483648 = 0
      omega
    rw [e3, ji_zero_or]
    have e4 := pk_ushr (-x) 31 31 (by decide)
    have hn : (-x).toBitVec.toNat = (2 ^ 32 - x.toBitVec.toNat) % 2 ^ 32 := by
      rw [Int32.toBitVec_neg, BitVec.toNat_neg]
    have hx : (x.toBitVec.toNat : Int) = x.toInt := by
      have : x.toBitVec.toInt = x.toInt := rfl
      rw [← this, BitVec.toInt_eq_toNat_cond]
      have h2 : ¬ x.toBitVec.toInt < 0 := h
      rw [BitVec.toInt_eq_toNat_cond] at h2
      split at h2 <;> split <;> omega
    by_cases h0 : x.toInt = 0
    · have hz : x.toBitVec.toNat = 0 := by omega
      rw [hz] at hn
      rw [hn] at e4
      rw [h0]
      apply Eq.trans (b := ((0 : Int32).toInt))
      · congr 1
        apply Int32.toBitVec_inj.mp
        apply BitVec.eq_of_toNat_eq
        rw [e4]
        rfl
      · rfl
    · have hp : 0 < x.toInt := by omega
      have hd : (-x).toBitVec.toNat / 2 ^ 31 = 1 := by
        rw [hn]
        have : x.toBitVec.toNat < 2 ^ 31 := by omega
        omega
      rw [hd] at e4
      rw [Int.sign_eq_one_of_pos hp]
      apply Eq.trans (b := ((1 : Int32).toInt))
      · congr 1
        apply Int32.toBitVec_inj.mp
        apply BitVec.eq_of_toNat_eq
        rw [e4]
        rfl
      · rfl
theorem jl_shr63 (x : Int64) : (x >>> ((63 : Int32).toInt64 &&& 63)).toInt = x.toInt >>> 63 := by
  show (x.toBitVec.sshiftRight (((63 : Int32).toInt64 &&& 63).toBitVec.smod 64).toNat).toInt = _
  rw [show (((63 : Int32).toInt64 &&& 63).toBitVec.smod 64).toNat = 63 by decide, BitVec.toInt_sshiftRight]
  rfl
theorem jl_ushr63 (x : Int64) : (x.toUInt64 >>> ((63 : Int32).toInt64.toUInt64 &&& Int64.toUInt64 63)).toInt64.toBitVec.toNat = x.toBitVec.toNat / 2 ^ 63 := by
  show (x.toUInt64 >>> ((63 : Int32).toInt64.toUInt64 &&& Int64.toUInt64 63)).toNat = _
  rw [UInt64.toNat_shiftRight, Nat.shiftRight_eq_div_pow, show ((63 : Int32).toInt64.toUInt64 &&& Int64.toUInt64 63).toNat % 64 = 63 by decide]
  rfl
theorem jx_sl_toInt (x : Int64) : (jx_sl x).toInt = x.toInt.sign := by
  unfold jx_sl
  have e1 := jl_shr63 x
  have hlo := Int64.le_toInt x
  have hhi := Int64.toInt_lt x
  have e2 : x.toInt >>> 63 = x.toInt / 9223372036854775808 := by rw [Int.shiftRight_eq_div_pow]; rfl
  by_cases h : x.toInt < 0
  · have e3 : x >>> ((63 : Int32).toInt64 &&& 63) = -1 := by
      apply Int64.toInt_inj.mp
      rw [e1, e2]
      show x.toInt / 9223372036854775808 = -1
      omega
    rw [e3, jl_sign_neg, Int.sign_eq_neg_one_of_neg h]
    decide
  · have e3 : x >>> ((63 : Int32).toInt64 &&& 63) = 0 := by
      apply Int64.toInt_inj.mp
      rw [e1, e2]
      show x.toInt / 9223372036854775808 = 0
      omega
    rw [e3, jl_zero_or]
    have e4 := jl_ushr63 (-x)
    have hn : (-x).toBitVec.toNat = (2 ^ 64 - x.toBitVec.toNat) % 2 ^ 64 := by
      rw [Int64.toBitVec_neg, BitVec.toNat_neg]
    have hx : (x.toBitVec.toNat : Int) = x.toInt := by
      have : x.toBitVec.toInt = x.toInt := rfl
      rw [← this, BitVec.toInt_eq_toNat_cond]
      have h2 : ¬ x.toBitVec.toInt < 0 := h
      rw [BitVec.toInt_eq_toNat_cond] at h2
      split at h2 <;> split <;> omega
    have fin : ∀ v : Int64, ((-x).toUInt64 >>> ((63 : Int32).toInt64.toUInt64 &&& Int64.toUInt64 63)).toInt64.toBitVec.toNat = v.toBitVec.toNat → ((-x).toUInt64 >>> ((63 : Int32).toInt64.toUInt64 &&& Int64.toUInt64 63)).toInt64 = v := fun v e => Int64.toBitVec_inj.mp (BitVec.eq_of_toNat_eq e)
    by_cases h0 : x.toInt = 0
    · have hz : x.toBitVec.toNat = 0 := by omega
      rw [hz] at hn
      rw [hn] at e4
      rw [h0, fin 0 (by rw [e4]; rfl)]
      rfl
    · have hp : 0 < x.toInt := by omega
      have hd : (-x).toBitVec.toNat / 2 ^ 63 = 1 := by
        rw [hn]
        have : x.toBitVec.toNat < 2 ^ 63 := by omega
        omega
      rw [hd] at e4
      rw [Int.sign_eq_one_of_pos hp, fin 1 (by rw [e4]; rfl)]
      rfl
