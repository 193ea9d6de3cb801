/-! Integer.bitCount -/
def b_us (k : Int) (x : Int32) : Int32 := (x.toUInt32 >>> ((zi k).toUInt32 &&& Int32.toUInt32 31)).toInt32
def b_1 (x : Int32) : Int32 := x - (b_us 1 x &&& zi 1431655765)
def b_2 (x : Int32) : Int32 := (x &&& zi 858993459) + (b_us 2 x &&& zi 858993459)
def b_3 (x : Int32) : Int32 := (x + b_us 4 x) &&& zi 252645135
def b_cnt (x : Int32) : Int32 := ((b_3 (b_2 (b_1 x)) + b_us 8 (b_3 (b_2 (b_1 x)))) + b_us 16 (b_3 (b_2 (b_1 x)) + b_us 8 (b_3 (b_2 (b_1 x))))) &&& zi 63
def b_bc (a : Int) : Int := (b_cnt (zi a)).toInt
/-- how many of the ten lowest bits are set -/
def p_pop (s : Nat) : Int := q_sum (fun i => ((s / 2 ^ i % 2 : Nat) : Int)) 0 10
theorem b_bc_pop : ∀ s : Nat, s < 1024 → b_bc (s : Int) = p_pop s := by decide +kernel
theorem b_bc_in (a : Int) : q_in (b_bc a) := q_in_of _
theorem p_pop_b (s : Nat) : 0 ≤ p_pop s ∧ p_pop s ≤ 10 := by
  unfold p_pop
  refine ⟨q_sum_nn _ _ (fun i _ _ => by omega), ?_⟩
  have := q_sum_ub (f := fun i => ((s / 2 ^ i % 2 : Nat) : Int)) (B := 1) 10 0 (fun i _ _ => by omega)
  omega
set_option maxHeartbeats 4000000 in
set_option maxRecDepth 100000 in
theorem tJ6_bitCount_0f7a4 {l : Launch} {g : q_G} {n : Nat} {P : q_P} {X : q_X} {Y : q_Y} {a : Int} : q_Met l g mJ6_bitCount_0f7a4 0 [.int (zi a)] n P X Y (q_pv (.int (zi (b_bc a))) n P X Y) := by
  refine q_enter (L := [(0, .int (zi a))]) (by decide) (Nat.le_of_ble_eq_true rfl) rfl ?_
  refine r_iload_n (i := 0) (pc' := 1) dJ6_bitCount_0f7a4_0 rfl rfl (.head _) ?_
  refine r_iload_n (i := 0) (pc' := 2) dJ6_bitCount_0f7a4_1 rfl rfl (.head _) ?_
  refine r_iconst (pc' := 3) dJ6_bitCount_0f7a4_2 rfl ?_
  refine r_iushr (pc' := 4) dJ6_bitCount_0f7a4_3 rfl ((zi_of _).symm) ?_
  refine r_ldcw (pc' := 7) dJ6_bitCount_0f7a4_4 rfl kJ6_265 ?_
  refine r_iand (pc' := 8) dJ6_bitCount_0f7a4_7 rfl ((zi_of _).symm) ?_
  refine r_isub (pc' := 9) dJ6_bitCount_0f7a4_8 rfl ?_
  refine r_istore_n (i := 0) (pc' := 10) dJ6_bitCount_0f7a4_9 rfl rfl rfl (.here .nil) ?_
  refine r_iload_n (i := 0) (pc' := 11) dJ6_bitCount_0f7a4_10 rfl rfl (.head _) ?_
  refine r_ldcw (pc' := 14) dJ6_bitCount_0f7a4_11 rfl kJ6_266 ?_
  refine r_iand (pc' := 15) dJ6_bitCount_0f7a4_14 rfl ((zi_of _).symm) ?_
  refine r_iload_n (i := 0) (pc' := 16) dJ6_bitCount_0f7a4_15 rfl rfl (.head _) ?_
  refine r_iconst (pc' := 17) dJ6_bitCount_0f7a4_16 rfl ?_
  refine r_iushr (pc' := 18) dJ6_bitCount_0f7a4_17 rfl ((zi_of _).symm) ?_
  refine r_ldcw (pc' := 21) dJ6_bitCount_0f7a4_18 rfl kJ6_266 ?_
  refine r_iand (pc' := 22) dJ6_bitCount_0f7a4_21 rfl ((zi_of _).symm) ?_
  refine r_iadd (pc' := 23) dJ6_bitCount_0f7a4_22 rfl ?_
  refine r_istore_n (i := 0) (pc' := 24) dJ6_bitCount_0f7a4_23 rfl rfl rfl (.here .nil) ?_
  refine r_iload_n (i := 0) (pc' := 25) dJ6_bitCount_0f7a4_24 rfl rfl (.head _) ?_
  refine r_iload_n (i := 0) (pc' := 26) dJ6_bitCount_0f7a4_25 rfl rfl (.head _) ?_
  refine r_iconst (pc' := 27) dJ6_bitCount_0f7a4_26 rfl ?_
  refine r_iushr (pc' := 28) dJ6_bitCount_0f7a4_27 rfl ((zi_of _).symm) ?_
  refine r_iadd (pc' := 29) dJ6_bitCount_0f7a4_28 rfl ?_
  refine r_ldcw (pc' := 32) dJ6_bitCount_0f7a4_29 rfl kJ6_267 ?_
  refine r_iand (pc' := 33) dJ6_bitCount_0f7a4_32 rfl ((zi_of _).symm) ?_
  refine r_istore_n (i := 0) (pc' := 34) dJ6_bitCount_0f7a4_33 rfl rfl rfl (.here .nil) ?_
  refine r_iload_n (i := 0) (pc' := 35) dJ6_bitCount_0f7a4_34 rfl rfl (.head _) ?_
  refine r_iload_n (i := 0) (pc' := 36) dJ6_bitCount_0f7a4_35 rfl rfl (.head _) ?_
  refine r_bipush (pc' := 38) dJ6_bitCount_0f7a4_36 rfl (by decide) ?_
  refine r_iushr (pc' := 39) dJ6_bitCount_0f7a4_38 rfl ((zi_of _).symm) ?_
  refine r_iadd (pc' := 40) dJ6_bitCount_0f7a4_39 rfl ?_
  refine r_istore_n (i := 0) (pc' := 41) dJ6_bitCount_0f7a4_40 rfl rfl rfl (.here .nil) ?_
  refine r_iload_n (i := 0) (pc' := 42) dJ6_bitCount_0f7a4_41 rfl rfl (.head _) ?_
  refine r_iload_n (i := 0) (pc' := 43) dJ6_bitCount_0f7a4_42 rfl rfl (.head _) ?_
  refine r_bipush (pc' := 45) dJ6_bitCount_0f7a4_43 rfl (by decide) ?_
  refine r_iushr (pc' := 46) dJ6_bitCount_0f7a4_45 rfl ((zi_of _).symm) ?_
  refine r_iadd (pc' := 47) dJ6_bitCount_0f7a4_46 rfl ?_
  refine r_istore_n (i := 0) (pc' := 48) dJ6_bitCount_0f7a4_47 rfl rfl rfl (.here .nil) ?_
  refine r_iload_n (i := 0) (pc' := 49) dJ6_bitCount_0f7a4_48 rfl rfl (.head _) ?_
  refine r_bipush (pc' := 51) dJ6_bitCount_0f7a4_49 rfl (by decide) ?_
  refine r_iand (pc' := 52) dJ6_bitCount_0f7a4_51 rfl ((zi_of _).symm) ?_
  refine r_ireturn dJ6_bitCount_0f7a4_52 rfl ?_
  refine ⟨?_, rfl, rfl, rfl, rfl⟩
  unfold b_bc b_cnt b_3 b_2 b_1 b_us
  simp only [← zi_add, ← zi_sub, zi_of]
/-! bits of a set -/
theorem zi_or1 {a i : Nat} (hi : i < 30) (ha : a < 2 ^ i) : zi (a : Int) ||| zi (2 ^ i) = zi ((a + 2 ^ i : Nat) : Int) := by
  have hp : (2 : Nat) ^ i ≤ 2 ^ 29 := Nat.pow_le_pow_right (by omega) (by omega)
  apply zi_ext
  rw [Int32.toBitVec_or, BitVec.toNat_or, zi_tn, zi_tn, zi_tn]
  have e1 : ((a : Int) % 4294967296).toNat = a := by omega
  have e2 : (((2 : Int) ^ i) % 4294967296).toNat = 2 ^ i := by
    have : ((2 : Int) ^ i) = ((2 ^ i : Nat) : Int) := by rw [Int.natCast_pow]; rfl
    rw [this]; omega
  have e3 : (((a + 2 ^ i : Nat) : Int) % 4294967296).toNat = a + 2 ^ i := by omega
  rw [e1, e2, e3, Nat.or_comm]
  have := Nat.two_pow_add_eq_or_of_lt ha 1
  rw [Nat.mul_one] at this
  rw [← this]; omega
abbrev p_bit (s i : Nat) : Prop := s / 2 ^ i % 2 = 1
def p_sumS (f : Nat → Int) (s m : Nat) : Int := q_sum (fun i => if p_bit s i then f i else 0) 0 m
theorem p_sumS_b {f : Nat → Int} {s m : Nat} {B : Int} (h : ∀ i, i < m → 0 ≤ f i ∧ f i ≤ B) : 0 ≤ p_sumS f s m ∧ p_sumS f s m ≤ m * B := by
  unfold p_sumS
  refine ⟨q_sum_nn _ _ (fun i _ hi => ?_), q_sum_ub _ _ (fun i _ hi => ?_)⟩
  · have := h i (by omega); split <;> omega
  · have := h i (by omega); split <;> omega
/-- the bit as the machine takes it -/
theorem p_bit_z {s i : Nat} (hi : i < 32) (hs : s < 100000) : zi (s : Int) >>> (zi (i : Int) &&& 31) &&& zi 1 = zi (((s / 2 ^ i % 2 : Nat)) : Int) := by
  rw [zi_shr i hi (by omega), zi_and1]
  congr 1
theorem p_shr {s i : Nat} (hi : i < 32) (hs : s < 100000) : zi (s : Int) >>> (zi (i : Int) &&& 31) = zi ((s / 2 ^ i : Nat) : Int) := by
  rw [zi_shr i hi (by omega)]
  congr 1
theorem p_and1 (s : Nat) : zi (s : Int) &&& zi 1 = zi ((s % 2 : Nat) : Int) := by
  rw [zi_and1]
  congr 1
/-- the places where a number to the base 3 has a digit -/
def dgN (d v : Nat) : Nat → Nat
  | 0 => 0
  | i + 1 => dgN d v i + if v / 3 ^ i % 3 = d then 2 ^ i else 0
theorem dgN_lt (d v : Nat) : ∀ i, dgN d v i < 2 ^ i
  | 0 => by simp [dgN]
  | i + 1 => by
    have := dgN_lt d v i
    rw [dgN, Nat.pow_succ]; split <;> omega
theorem dgN_bit (d v : Nat) : ∀ (m i : Nat), i < m → (p_bit (dgN d v m) i ↔ v / 3 ^ i % 3 = d)
  | 0, i, h => by omega
  | m + 1, i, h => by
    have hl := dgN_lt d v m
    rw [dgN]
    by_cases e : i = m
    · subst e
      unfold p_bit
      by_cases hd : v / 3 ^ i % 3 = d
      · rw [if_pos hd, Nat.add_div_right _ (Nat.two_pow_pos i), Nat.div_eq_of_lt hl]; omega
      · rw [if_neg hd, Nat.add_zero, Nat.div_eq_of_lt hl]; omega
    · have ih := dgN_bit d v m i (by omega)
      have hb : p_bit (dgN d v m + 2 ^ m) i ↔ p_bit (dgN d v m) i := by
        unfold p_bit
        have e2 : (2 : Nat) ^ m = 2 ^ i * (2 * 2 ^ (m - i - 1)) := by
          rw [← Nat.mul_assoc, ← Nat.pow_succ, ← Nat.pow_add]; congr 1; omega
        rw [e2, Nat.add_mul_div_left _ _ (Nat.two_pow_pos i)]; omega
      split
      · rw [hb]; exact ih
      · exact ih
/-! whom a set names -/
def whoL (X : q_X) (b m : Nat) : Nat → List Nat
  | 0 => []
  | k + 1 => if (whoL X b m k).length < m ∧ bk_ref X b k = 0 then whoL X b m k ++ [k] else whoL X b m k
def wAt (L : List Nat) (i : Nat) : Nat := L.getD i 0
abbrev whoA (X : q_X) (b m : Nat) : List Nat := whoL X b m (xv X b 10).toNat
theorem wAt_app (L : List Nat) (k : Nat) {i : Nat} (hi : i < L.length) : wAt (L ++ [k]) i = wAt L i := by simp [wAt, List.getD_eq_getElem?_getD, List.getElem?_append_left hi]
theorem wAt_end (L : List Nat) (k : Nat) : wAt (L ++ [k]) L.length = k := by simp [wAt]
theorem whoL_len (X : q_X) (b m : Nat) : ∀ k, (whoL X b m k).length ≤ m ∧ (whoL X b m k).length ≤ k
  | 0 => by simp [whoL]
  | k + 1 => by
    have := whoL_len X b m k
    rw [whoL]; split
    · rw [List.length_append]; simp only [List.length_singleton]; omega
    · omega
theorem whoL_at (X : q_X) (b m : Nat) : ∀ k i, i < (whoL X b m k).length → wAt (whoL X b m k) i < k ∧ bk_ref X b (wAt (whoL X b m k) i) = 0
  | 0, i, h => by simp [whoL] at h
  | k + 1, i, h => by
    rw [whoL] at h ⊢
    split at h
    · rename_i hc
      rw [if_pos hc]
      rw [List.length_append, List.length_singleton] at h
      by_cases e : i = (whoL X b m k).length
      · subst e; rw [wAt_end]; exact ⟨by omega, hc.2⟩
      · rw [wAt_app _ _ (by omega)]
        have := whoL_at X b m k i (by omega)
        exact ⟨by omega, this.2⟩
    · rename_i hc
      rw [if_neg hc]
      have := whoL_at X b m k i h
      exact ⟨by omega, this.2⟩
theorem whoL_inj (X : q_X) (b m : Nat) : ∀ k i j, i < j → j < (whoL X b m k).length → wAt (whoL X b m k) i < wAt (whoL X b m k) j
  | 0, i, j, _, h => by simp [whoL] at h
  | k + 1, i, j, hij, h => by
    rw [whoL] at h ⊢
    split at h
    · rename_i hc
      rw [if_pos hc]
      rw [List.length_append, List.length_singleton] at h
      by_cases e : j = (whoL X b m k).length
      · subst e; rw [wAt_end, wAt_app _ _ hij]; exact (whoL_at X b m k i hij).1
      · rw [wAt_app _ _ (by omega), wAt_app _ _ (by omega)]
        exact whoL_inj X b m k i j hij (by omega)
    · rename_i hc
      rw [if_neg hc]
      exact whoL_inj X b m k i j hij h
theorem whoL_full (X : q_X) (b m k : Nat) (h : (whoL X b m k).length = m) : ∀ j, whoL X b m (k + j) = whoL X b m k
  | 0 => rfl
  | j + 1 => by
    have ih := whoL_full X b m k h j
    rw [← Nat.add_assoc, whoL, ih, if_neg (by omega)]
def gS (L : List Nat) (s k : Nat) : Bool := (List.range L.length).any (fun i => wAt L i == k && s / 2 ^ i % 2 == 1)
theorem gS_iff (L : List Nat) (s k : Nat) : gS L s k = true ↔ ∃ i, i < L.length ∧ wAt L i = k ∧ p_bit s i := by
  unfold gS p_bit
  rw [List.any_eq_true]
  constructor
  · intro ⟨i, h1, h2⟩
    rw [Bool.and_eq_true, beq_iff_eq, beq_iff_eq] at h2
    exact ⟨i, List.mem_range.mp h1, h2.1, h2.2⟩
  · intro ⟨i, h1, h2, h3⟩
    exact ⟨i, List.mem_range.mpr h1, by rw [Bool.and_eq_true, beq_iff_eq, beq_iff_eq]; exact ⟨h2, h3⟩⟩
/-! the best set, the best way, the best offers -/
def ch_dead (X : q_X) (b : Nat) (L : List Nat) (s : Nat) : Int := p_sumS (fun i => bk_all X b (con b (wAt L i))) s L.length
def ch_now (X : q_X) (b : Nat) (L : List Nat) (s : Nat) : Int := p_sumS (fun i => bk_dead X b (con b (wAt L i)) (xv X b 1)) s L.length
def ch_set (X : q_X) (b : Nat) (L : List Nat) (goal : Int) : Nat → Bool × Int × Nat
  | 0 => (false, 0, 0)
  | s + 1 => if (ch_set X b L goal s).1 = true ∧ ¬ (ch_dead X b L s < (ch_set X b L goal s).2.1 ∨ (ch_dead X b L s = (ch_set X b L goal s).2.1 ∧ p_pop s < p_pop (ch_set X b L goal s).2.2)) then ch_set X b L goal s else if goal ≤ nz (bk_room X b (gS L s) g0 - ch_now X b L s) then (true, ch_dead X b L s, s) else ch_set X b L goal s
def ch_fit (X : q_X) (b : Nat) (L : List Nat) (goal : Int) : Nat → Bool × Int × Nat × Nat
  | 0 => (false, 0, 0, 0)
  | v + 1 => if (ch_fit X b L goal v).1 = true ∧ (ch_fit X b L goal v).2.1 ≤ ch_dead X b L (dgN 1 v L.length) then ch_fit X b L goal v else if goal ≤ nz (bk_room X b (gS L (dgN 1 v L.length)) (gS L (dgN 2 v L.length)) - ch_now X b L (dgN 1 v L.length)) then (true, ch_dead X b L (dgN 1 v L.length), dgN 1 v L.length, dgN 2 v L.length) else ch_fit X b L goal v
def of_hit (X : q_X) (b i : Nat) : Int := c_piece (xv X (b + 13) i) (xv X (b + 12) i) 0 + xv X (b + 14) i
def ch_off (X : q_X) (b m : Nat) (room : Int) : Nat → Int × Nat × Int
  | 0 => (0, 0, 0)
  | s + 1 => if p_sumS (of_hit X b) (s + 1) m ≤ room ∧ ((ch_off X b m room s).1 < p_sumS (xv X (b + 11)) (s + 1) m ∨ (p_sumS (xv X (b + 11)) (s + 1) m = (ch_off X b m room s).1 ∧ p_pop (s + 1) < p_pop (ch_off X b m room s).2.1)) then (p_sumS (xv X (b + 11)) (s + 1) m, s + 1, p_sumS (of_hit X b) (s + 1) m) else ch_off X b m room s
theorem bk_all_b {X : q_X} {b c : Nat} (h : cOk X c) : 0 ≤ bk_all X b c ∧ bk_all X b c ≤ 2299977 := by
  have h1 := bk_dPay_b (b := b) h (xv X b 0) (xv X b 1)
  have h2 := c_from_b h (xv X b 0)
  unfold bk_all; omega
theorem ch_set_b (X : q_X) (b : Nat) (L : List Nat) (goal : Int) : ∀ s, (ch_set X b L goal s).2.2 ≤ s
  | 0 => by simp [ch_set]
  | s + 1 => by
    have := ch_set_b X b L goal s
    rw [ch_set]; (repeat' split) <;> first | omega | (simp only; omega)
theorem ch_off_b (X : q_X) (b m : Nat) (room : Int) : ∀ s, (ch_off X b m room s).2.1 ≤ s
  | 0 => by simp [ch_off]
  | s + 1 => by
    have := ch_off_b X b m room s
    rw [ch_off]; (repeat' split) <;> first | omega | (simp only; omega)
