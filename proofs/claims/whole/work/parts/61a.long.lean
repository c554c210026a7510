/-! long words -/
theorem lu_shr (x : Int64) (s : UInt64) (k : Nat) (hs : (s.toBitVec % 64).toNat = k) : (x.toUInt64 >>> s).toInt64.toBitVec.toNat = x.toBitVec.toNat / 2 ^ k := by
  have e : (x.toUInt64 >>> s).toInt64.toBitVec = x.toBitVec >>> k := by
    rw [← hs]
    exact UInt64.toBitVec_shiftRight _ _
  rw [e, BitVec.toNat_ushiftRight, Nat.shiftRight_eq_div_pow]
theorem l2i_tn (x : Int64) : x.toInt32.toBitVec.toNat = x.toBitVec.toNat % 2 ^ 32 := by
  show (x.toBitVec.signExtend 32).toNat = _
  rw [BitVec.signExtend_eq_setWidth_of_le _ (by omega), BitVec.toNat_setWidth]
theorem i2l_tn (v : Int32) : v.toInt64.toBitVec.toNat % 2 ^ 32 = v.toBitVec.toNat := by
  rw [← l2i_tn, lg_l2i_i2l]
def hiOf (p : Int64) : Int32 := ((p.toUInt64 >>> ((32 : Int32).toInt64.toUInt64 &&& Int64.toUInt64 63)).toInt64).toInt32
theorem hiOf_tn (p : Int64) : (hiOf p).toBitVec.toNat = p.toBitVec.toNat / 2 ^ 32 := by
  unfold hiOf
  rw [l2i_tn, lu_shr _ _ 32 (by decide)]
  have := p.toBitVec.isLt
  omega
theorem isR_iff (x : Int32) : isR x ↔ x.toBitVec.toNat / 65536 = 65530 := by
  unfold isR
  have h := pk_ushr x 16 16 (by decide)
  constructor
  · intro e
    rw [e] at h
    have : (65530 : Int32).toBitVec.toNat = 65530 := by decide
    omega
  · intro e
    apply Int32.toBitVec_inj.mp
    apply BitVec.eq_of_toNat_eq
    rw [h]
    have : (65530 : Int32).toBitVec.toNat = 65530 := by decide
    omega
theorem isR_hi (p : Int64) : isR (hiOf p) ↔ (p.toUInt64 >>> ((48 : Int32).toInt64.toUInt64 &&& Int64.toUInt64 63)).toInt64 = 65530 := by
  rw [isR_iff, hiOf_tn]
  have h := lu_shr p ((48 : Int32).toInt64.toUInt64 &&& Int64.toUInt64 63) 48 (by decide)
  have e65 : (65530 : Int64).toBitVec.toNat = 65530 := by decide
  constructor
  · intro e
    apply Int64.toBitVec_inj.mp
    apply BitVec.eq_of_toNat_eq
    rw [h]
    omega
  · intro e
    rw [e] at h
    omega
theorem or_hl {a b : Nat} (hb : b < 2 ^ 32) : a * 2 ^ 32 ||| b = a * 2 ^ 32 + b := by
  rw [Nat.mul_comm, ← Nat.two_pow_add_eq_or_of_lt hb a]
theorem ll_shl (a s : Int64) (k : Nat) (hs : (s.toBitVec.smod 64).toNat = k) : (a <<< s).toBitVec.toNat = a.toBitVec.toNat * 2 ^ k % 2 ^ 64 := by
  show (a.toBitVec <<< (s.toBitVec.smod 64).toNat).toNat = _
  rw [hs, BitVec.toNat_shiftLeft, Nat.shiftLeft_eq]
theorem cat_tn (hi lo : Int32) : (cat hi lo).toBitVec.toNat = hi.toBitVec.toNat * 2 ^ 32 + lo.toBitVec.toNat := by
  unfold cat
  rw [Int64.toBitVec_or, BitVec.toNat_or]
  have e1 : (hi.toInt64 <<< ((32 : Int32).toInt64 &&& 63)).toBitVec.toNat = hi.toBitVec.toNat * 2 ^ 32 := by
    rw [ll_shl _ _ 32 (by decide)]
    have h1 := i2l_tn hi
    have h2 := hi.toBitVec.isLt
    omega
  have e2 : (lo.toInt64 &&& 4294967295).toBitVec.toNat = lo.toBitVec.toNat := by
    rw [Int64.toBitVec_and, BitVec.toNat_and]
    have : (4294967295 : Int64).toBitVec.toNat = 2 ^ 32 - 1 := by decide
    rw [this, Nat.and_two_pow_sub_one_eq_mod]
    exact i2l_tn lo
  rw [e1, e2]
  exact or_hl lo.toBitVec.isLt
theorem cat_split (p : Int64) : cat (hiOf p) p.toInt32 = p := by
  apply Int64.toBitVec_inj.mp
  apply BitVec.eq_of_toNat_eq
  rw [cat_tn, hiOf_tn, l2i_tn]
  omega
