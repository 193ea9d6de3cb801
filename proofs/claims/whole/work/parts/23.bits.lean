/-! bits -/
theorem zi_bv (a : Int) : (zi a).toBitVec = BitVec.ofInt 32 a := rfl
theorem zi_ext {x y : Int32} (h : x.toBitVec.toNat = y.toBitVec.toNat) : x = y := Int32.toBitVec_inj.mp (BitVec.eq_of_toNat_eq h)
theorem zi_tn (a : Int) : (zi a).toBitVec.toNat = (a % 4294967296).toNat := by rw [zi_bv, BitVec.toNat_ofInt]; rfl
theorem zi_and255 (a : Int) : zi a &&& zi 255 = zi (a % 256) := by
  apply zi_ext
  rw [Int32.toBitVec_and, BitVec.toNat_and, zi_tn, zi_tn, zi_tn, show ((255 : Int) % 4294967296).toNat = 2 ^ 8 - 1 by decide, Nat.and_two_pow_sub_one_eq_mod]
  omega
theorem zi_and63 (a : Int) : zi a &&& zi 63 = zi (a % 64) := by
  apply zi_ext
  rw [Int32.toBitVec_and, BitVec.toNat_and, zi_tn, zi_tn, zi_tn, show ((63 : Int) % 4294967296).toNat = 2 ^ 6 - 1 by decide, Nat.and_two_pow_sub_one_eq_mod]
  omega
theorem zi_and1 (a : Int) : zi a &&& zi 1 = zi (a % 2) := by
  apply zi_ext
  rw [Int32.toBitVec_and, BitVec.toNat_and, zi_tn, zi_tn, zi_tn, show ((1 : Int) % 4294967296).toNat = 2 ^ 1 - 1 by decide, Nat.and_two_pow_sub_one_eq_mod]
  omega
theorem zi_shrK {a : Int} (ha : q_in a) (b : Int32) (k : Nat) (hb : ((b &&& 31).toBitVec.smod 32).toNat = k) : zi a >>> (b &&& 31) = zi (a / 2 ^ k) := by
  rw [← Int32.toInt_inj]
  have e1 : (zi a >>> (b &&& 31)).toInt = (zi a).toInt >>> k := by
    show ((zi a >>> (b &&& 31)).toBitVec).toInt = _
    rw [Int32.toBitVec_shiftRight, BitVec.sshiftRight', BitVec.toInt_sshiftRight, hb]
    rfl
  rw [e1, zi_toInt ha, Int.shiftRight_eq_div_pow]
  have hp : (1 : Int) ≤ 2 ^ k := by have := Nat.one_le_two_pow (n := k); exact_mod_cast this
  have h1 : -2147483648 ≤ a / 2 ^ k := by
    apply (Int.le_ediv_iff_mul_le (by omega)).mpr
    have : (-2147483648) * (2 : Int) ^ k ≤ -2147483648 * 1 := by
      apply Int.mul_le_mul_of_nonpos_left (by omega) hp
    omega
  have h2 : a / 2 ^ k < 2147483648 := by
    apply Int.ediv_lt_of_lt_mul (by omega)
    have : 2147483648 * 1 ≤ 2147483648 * (2 : Int) ^ k := Int.mul_le_mul_of_nonneg_left hp (by omega)
    omega
  rw [zi_toInt ⟨h1, h2⟩]
  simp
theorem zi_shr (k : Nat) (hk : k < 32) {a : Int} (ha : q_in a) : zi a >>> (zi (k : Int) &&& 31) = zi (a / 2 ^ k) := by
  refine zi_shrK ha _ k ?_
  revert hk; revert k
  decide +kernel
theorem zi_ushr (k : Nat) (hk : k < 32) (h0 : 0 < k) (a : Int) : ((zi a).toUInt32 >>> ((zi (k : Int)).toUInt32 &&& Int32.toUInt32 31)).toInt32 = zi (a % 4294967296 / 2 ^ k) := by
  apply zi_ext
  rw [zi_tn]
  show ((zi a).toUInt32 >>> ((zi (k : Int)).toUInt32 &&& Int32.toUInt32 31)).toBitVec.toNat = _
  rw [UInt32.toBitVec_shiftRight]
  have hb : (((zi (k : Int)).toUInt32 &&& Int32.toUInt32 31).toBitVec % 32).toNat = k := by
    clear h0
    revert hk; revert k
    decide +kernel
  rw [BitVec.ushiftRight_eq', BitVec.toNat_ushiftRight, hb]
  show (zi a).toBitVec.toNat >>> k = _
  rw [zi_tn, Nat.shiftRight_eq_div_pow]
  have hp : (2 : Nat) ^ k ≥ 1 := Nat.one_le_two_pow
  have e : (a % 4294967296 / 2 ^ k) = (((a % 4294967296).toNat / 2 ^ k : Nat) : Int) := by
    rw [Int.natCast_ediv]; simp; rw [Int.max_eq_left (by omega)]
  rw [e]
  have hle : (a % 4294967296).toNat / 2 ^ k ≤ (a % 4294967296).toNat := Nat.div_le_self _ _
  generalize (a % 4294967296).toNat / 2 ^ k = q at hle ⊢
  omega
theorem zi_shl1 (k : Nat) (hk : k < 31) : zi 1 <<< (zi (k : Int) &&& 31) = zi (2 ^ k) := by
  revert hk; revert k
  decide +kernel
