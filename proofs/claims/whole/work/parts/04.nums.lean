/-! numbers: an int of the machine by a whole number; 'zi' keeps plus, minus, times; in range it keeps order, too -/
def zi (z : Int) : Int32 := Int32.ofInt z
abbrev q_in (z : Int) : Prop := -2147483648 ≤ z ∧ z < 2147483648
theorem zi_toInt {z : Int} (h : q_in z) : (zi z).toInt = z := Int32.toInt_ofInt_of_le (by omega) (by omega)
theorem zi_of (x : Int32) : zi x.toInt = x := Int32.ofInt_toInt x
theorem q_in_of (x : Int32) : q_in x.toInt := ⟨by have := Int32.le_toInt x; omega, by have := Int32.toInt_lt x; omega⟩
theorem zi_add (a b : Int) : zi a + zi b = zi (a + b) := (Int32.ofInt_add a b).symm
theorem zi_sub (a b : Int) : zi a - zi b = zi (a - b) := (Int32.ofInt_sub a b).symm
theorem zi_mul (a b : Int) : zi a * zi b = zi (a * b) := (Int32.ofInt_mul a b).symm
theorem zi_neg (a : Int) : - zi a = zi (-a) := (Int32.ofInt_neg a).symm
theorem zi_lt {a b : Int} (ha : q_in a) (hb : q_in b) : zi a < zi b ↔ a < b := by rw [Int32.lt_iff_toInt_lt, zi_toInt ha, zi_toInt hb]
theorem zi_le {a b : Int} (ha : q_in a) (hb : q_in b) : zi a ≤ zi b ↔ a ≤ b := by rw [Int32.le_iff_toInt_le, zi_toInt ha, zi_toInt hb]
theorem zi_eq {a b : Int} (ha : q_in a) (hb : q_in b) : zi a = zi b ↔ a = b := by rw [← Int32.toInt_inj, zi_toInt ha, zi_toInt hb]
theorem zi_nat {z : Int} (h : q_in z) : (zi z).toNatClampNeg = z.toNat := by
  show (zi z).toInt.toNat = _
  rw [zi_toInt h]
theorem zi_lt0 {z : Int} (h : q_in z) : zi z < 0 ↔ z < 0 := by
  have := zi_lt (a := z) (b := 0) h (by omega)
  exact this
theorem zi_in {z : Int} {n : Nat} (h0 : 0 ≤ z) (h1 : z < n) (hn : n ≤ 2147483647) : vp_in (zi z) n := by
  have hz : q_in z := by omega
  intro h
  rcases h with h | h
  · rw [zi_lt0 hz] at h; omega
  · rw [zi_nat hz] at h; omega
theorem zi_div {a b : Int} (ha : q_in a) (hb : q_in b) : zi a / zi b = zi (a.tdiv b) := by
  rw [← Int32.toInt_inj, Int32.toInt_div, zi_toInt ha, zi_toInt hb, zi, Int32.toInt_ofInt]
/-- a field or an element, as a whole number -/
abbrev q_P : Type := Nat → Nat → Option Nat
abbrev q_X : Type := Nat → Nat → Int32
abbrev q_Y : Type := Nat → Nat → Int64
def xv (X : q_X) (i j : Nat) : Int := (X i j).toInt
theorem xv_in (X : q_X) (i j : Nat) : q_in (xv X i j) := q_in_of _
theorem zi_xv (X : q_X) (i j : Nat) : zi (xv X i j) = X i j := zi_of _
def q_up {α : Type} (X : Nat → Nat → α) (i j : Nat) (v : α) : Nat → Nat → α := fun a b => if a = i ∧ b = j then v else X a b
theorem q_up_same {α : Type} (X : Nat → Nat → α) (i j : Nat) (v : α) : q_up X i j v i j = v := by simp [q_up]
theorem q_up_ne {α : Type} (X : Nat → Nat → α) {i j a b : Nat} (v : α) (h : ¬ (a = i ∧ b = j)) : q_up X i j v a b = X a b := by simp [q_up, h]
theorem xv_up_same (X : q_X) (i j : Nat) {z : Int} (h : q_in z) : xv (q_up X i j (zi z)) i j = z := by rw [xv, q_up_same, zi_toInt h]
theorem xv_up_ne (X : q_X) {i j a b : Nat} (v : Int32) (h : ¬ (a = i ∧ b = j)) : xv (q_up X i j v) a b = xv X a b := by rw [xv, q_up_ne _ _ h]; rfl
