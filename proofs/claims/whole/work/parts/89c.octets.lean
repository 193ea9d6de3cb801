/-- the octet of a number, with its sign -/
def i8 (c : Int) : Int := (zi c).toInt8.toInt
theorem i8_b (c : Int) : -128 ≤ i8 c ∧ i8 c ≤ 127 := by
  have h1 := Int8.le_toInt (zi c).toInt8
  have h2 := Int8.toInt_lt (zi c).toInt8
  unfold i8; omega
theorem i8_z (c : Int) : (zi c).toInt8.toInt32 = zi (i8 c) := by
  have h := i8_b c
  apply Int32.toInt_inj.mp
  rw [Int8.toInt_toInt32, zi_toInt (by omega)]; rfl
theorem i8_i8 (c : Int) : (zi (i8 c)).toInt8.toInt32 = zi (i8 c) := by
  rw [← i8_z, Int8.toInt8_toInt32]
