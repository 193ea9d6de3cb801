/-! a contract lies at c: the object, then base, roster, parts, given -/
def isCon (n : Nat) (P : q_P) (c : Nat) : Prop := q_sh c = (4, 10) ∧ q_sh (c + 1) = (20, 10) ∧ q_sh (c + 2) = (20, 10) ∧ q_sh (c + 3) = (20, 10) ∧ q_sh (c + 4) = (20, 10) ∧ P c 6 = some (c + 1) ∧ P c 7 = some (c + 2) ∧ P c 8 = some (c + 3) ∧ P c 9 = some (c + 4) ∧ c + 5 ≤ n
/-- k terms from a on -/
def q_sum (f : Nat → Int) : Nat → Nat → Int
  | _, 0 => 0
  | a, k + 1 => f a + q_sum f (a + 1) k
abbrev c_plays (X : q_X) (c : Nat) (y : Int) : Prop := xv X c 0 ≤ y ∧ y - xv X c 0 < xv X c 1 ∧ y - xv X c 0 < 10
def c_base (X : q_X) (c : Nat) (y : Int) : Int := if c_plays X c y then xv X (c + 1) (y - xv X c 0).toNat else 0
def c_roster (X : q_X) (c : Nat) (y : Int) : Int := if c_plays X c y then xv X (c + 2) (y - xv X c 0).toNat else 0
def c_parts (X : q_X) (c : Nat) (y : Int) : Int := if 0 ≤ y - xv X c 0 ∧ y - xv X c 0 < 10 then xv X (c + 3) (y - xv X c 0).toNat else 0
def c_given (X : q_X) (c : Nat) (y : Int) : Int := if 0 ≤ y - xv X c 0 ∧ y - xv X c 0 < 10 then xv X (c + 4) (y - xv X c 0).toNat else 0
def c_from (X : q_X) (c : Nat) (y : Int) : Int := q_sum (xv X (c + 3)) (max 0 (y - xv X c 0)).toNat (10 - (max 0 (y - xv X c 0)).toNat)
def c_hit (X : q_X) (c : Nat) (y : Int) : Int := c_base X c y + c_roster X c y + c_parts X c y
def c_last (X : q_X) (c : Nat) : Int := xv X c 0 + xv X c 1 + xv X c 2 - 1
def c_left (X : q_X) (c : Nat) (y : Int) : Int := if xv X c 4 = 0 ∧ c_plays X c y then xv X c 0 + xv X c 1 - y else 0
def c_sure (X : q_X) (c : Nat) (y : Int) : Int := if y = xv X c 0 then (xv X (c + 1) 0 * xv X c 3).tdiv 100 else 0
def c_cash (X : q_X) (c : Nat) (y : Int) : Int := c_given X c y + if xv X c 4 = 0 ∨ y < xv X c 5 then c_base X c y + c_roster X c y else 0
def c_put (X : q_X) (c : Nat) (i b r : Int) : q_X := if 0 ≤ i ∧ i < 10 then q_up (q_up X (c + 1) i.toNat (zi b)) (c + 2) i.toNat (zi r) else X
def c_putN (X : q_X) (c : Nat) (a b : Int) : Nat → q_X
  | 0 => X
  | k + 1 => c_put (c_putN X c a b k) c (a + k) b 0
def c_piece (b ov i : Int) : Int := if min 5 ov < 1 ∨ min 5 ov ≤ i then 0 else if i = 0 then b.tdiv (min 5 ov) + b.tmod (min 5 ov) else b.tdiv (min 5 ov)
def c_spN (X : q_X) (c row : Nat) (b ov : Int) : Nat → q_X
  | 0 => X
  | k + 1 => q_up (c_spN X c row b ov k) (c + 3) (row + k) (zi (xv (c_spN X c row b ov k) (c + 3) (row + k) + c_piece b ov k))
def c_spread (X : q_X) (c : Nat) (y b : Int) : q_X := if 0 ≤ y - xv X c 0 ∧ y - xv X c 0 < 10 then c_spN (q_up X (c + 4) (y - xv X c 0).toNat (zi (xv X (c + 4) (y - xv X c 0).toNat + b))) c (y - xv X c 0).toNat b (c_last X c - y + 1) (min 5 (10 - (y - xv X c 0).toNat)) else X
def c_zero (X : q_X) (c k : Nat) : q_X := fun i j => if c < i ∧ i ≤ c + 4 ∧ j < k then 0 else X i j
def c_start (X : q_X) (c : Nat) (f y v s : Int) : q_X := c_zero (q_up (q_up (q_up (q_up (q_up (q_up X c 0 (zi f)) c 1 (zi y)) c 2 (zi v)) c 3 (zi s)) c 4 (zi 0)) c 5 (zi 0)) c 10
def q_cpy (X : q_X) (a a0 N : Nat) : q_X := fun i j => if i = a ∧ j < N then X a0 j else X i j
def c_copy (X : q_X) (c o : Nat) : q_X := fun i j => if i = c ∧ j < 6 then X o j else if c < i ∧ i ≤ c + 4 ∧ j < 10 then X (o + (i - c)) j else X i j
theorem c_zero_0 (X : q_X) (c : Nat) : c_zero X c 0 = X := by funext i j; simp [c_zero]
theorem c_zero_s (X : q_X) (c k : Nat) : q_up (q_up (q_up (q_up (c_zero X c k) (c + 1) k (zi 0)) (c + 2) k (zi 0)) (c + 3) k (zi 0)) (c + 4) k (zi 0) = c_zero X c (k + 1) := by
  funext i j
  have e : zi 0 = 0 := rfl
  simp only [q_up, c_zero, e]
  by_cases h1 : c < i ∧ i ≤ c + 4 ∧ j < k + 1
  · rw [if_pos h1]
    by_cases h2 : j < k
    · rw [if_pos (show c < i ∧ i ≤ c + 4 ∧ j < k by omega)]; simp
    · have : i = c + 1 ∨ i = c + 2 ∨ i = c + 3 ∨ i = c + 4 := by omega
      have hj : j = k := by omega
      rcases this with e | e | e | e <;> simp [e, hj]
  · rw [if_neg h1, if_neg (show ¬ (c < i ∧ i ≤ c + 4 ∧ j < k) by omega), if_neg (by omega), if_neg (by omega), if_neg (by omega), if_neg (by omega)]
theorem sys_nat : Cond.native arraycopyName ∈ q_tb := q_w 576 (by decide +kernel) (by decide +kernel)
theorem sys_stat : Cond.static arraycopyName ∈ q_tb := q_w 575 (by decide +kernel) (by decide +kernel)
theorem sys_init : Cond.initialized "java/lang/System" ∈ q_tb := q_w 106 (by decide +kernel) (by decide +kernel)
set_option maxHeartbeats 4000000 in
set_option maxRecDepth 100000 in
theorem tX4_plays {l : Launch} {g : q_G} {n : Nat} {P : q_P} {X : q_X} {Y : q_Y} {c : Nat} {y : Int} (hc : isCon n P c) (hf : 0 ≤ xv X c 0 ∧ xv X c 0 ≤ 19) (hy : -1 ≤ y ∧ y ≤ 40) : q_Met l g mX4_plays 0 [.ref (g.1 + c), .int (zi y)] n P X Y (q_pv (.int (zi (if c_plays X c y then 1 else 0))) n P X Y) := by
  obtain ⟨s0, s1, s2, s3, s4, p6, p7, p8, p9, hn⟩ := id hc
  refine q_enter (L := [(0, .ref (g.1 + c)), (1, .int (zi y))]) (by decide) (Nat.le_of_ble_eq_true rfl) rfl ?_
  refine r_iload_n (i := 1) (pc' := 1) dX4_plays_0 rfl rfl (.tail _ (.head _)) ?_
  refine r_aload_n (i := 0) (pc' := 2) dX4_plays_1 rfl rfl (.head _) ?_
  refine r_getI (pc' := 5) dX4_plays_2 rfl fX4_24 rfl (by first | assumption | rfl) (by omega) ?_
  refine r_icmp_lt (t := 36) (f := 8) dX4_plays_5 (by decide) rfl (by first | omega | exact xv_in _ _ _) (by first | omega | exact xv_in _ _ _) (fun h5 => ?_) (fun h5 => ?_)
  · refine r_iconst (pc' := 37) dX4_plays_36 rfl ?_
    refine r_zreturn dX4_plays_37 rfl (by decide) ?_
    refine ⟨?_, rfl, rfl, rfl, rfl⟩
    (repeat' split) <;> first | rfl | (exfalso; omega) | (congr 3; omega)
  · refine r_iload_n (i := 1) (pc' := 9) dX4_plays_8 rfl rfl (.tail _ (.head _)) ?_
    refine r_aload_n (i := 0) (pc' := 10) dX4_plays_9 rfl rfl (.head _) ?_
    refine r_getI (pc' := 13) dX4_plays_10 rfl fX4_24 rfl (by first | assumption | rfl) (by omega) ?_
    refine r_isub (pc' := 14) dX4_plays_13 rfl ?_
    refine r_aload_n (i := 0) (pc' := 15) dX4_plays_14 rfl rfl (.head _) ?_
    refine r_getI (pc' := 18) dX4_plays_15 rfl fX4_28 rfl (by first | assumption | rfl) (by omega) ?_
    refine r_icmp_ge (t := 36) (f := 21) dX4_plays_18 (by decide) rfl (by first | omega | exact xv_in _ _ _) (by first | omega | exact xv_in _ _ _) (fun h18 => ?_) (fun h18 => ?_)
    · refine r_iconst (pc' := 37) dX4_plays_36 rfl ?_
      refine r_zreturn dX4_plays_37 rfl (by decide) ?_
      refine ⟨?_, rfl, rfl, rfl, rfl⟩
      (repeat' split) <;> first | rfl | (exfalso; omega) | (congr 3; omega)
    · refine r_iload_n (i := 1) (pc' := 22) dX4_plays_21 rfl rfl (.tail _ (.head _)) ?_
      refine r_aload_n (i := 0) (pc' := 23) dX4_plays_22 rfl rfl (.head _) ?_
      refine r_getI (pc' := 26) dX4_plays_23 rfl fX4_24 rfl (by first | assumption | rfl) (by omega) ?_
      refine r_isub (pc' := 27) dX4_plays_26 rfl ?_
      refine r_bipush (pc' := 29) dX4_plays_27 rfl (by decide) ?_
      refine r_icmp_ge (t := 36) (f := 32) dX4_plays_29 (by decide) rfl (by first | omega | exact xv_in _ _ _) (by first | omega | exact xv_in _ _ _) (fun h29 => ?_) (fun h29 => ?_)
      · refine r_iconst (pc' := 37) dX4_plays_36 rfl ?_
        refine r_zreturn dX4_plays_37 rfl (by decide) ?_
        refine ⟨?_, rfl, rfl, rfl, rfl⟩
        (repeat' split) <;> first | rfl | (exfalso; omega) | (congr 3; omega)
      · refine r_iconst (pc' := 33) dX4_plays_32 rfl ?_
        refine r_goto (t := 37) dX4_plays_33 (by decide) ?_
        refine r_zreturn dX4_plays_37 rfl (by decide) ?_
        refine ⟨?_, rfl, rfl, rfl, rfl⟩
        (repeat' split) <;> first | rfl | (exfalso; omega) | (congr 3; omega)
set_option maxHeartbeats 4000000 in
set_option maxRecDepth 100000 in
theorem tX4_isOpen {l : Launch} {g : q_G} {n : Nat} {P : q_P} {X : q_X} {Y : q_Y} {c : Nat} (hc : isCon n P c) : q_Met l g mX4_isOpen 0 [.ref (g.1 + c)] n P X Y (q_pv (.int (zi (if xv X c 4 = 0 then 1 else 0))) n P X Y) := by
  obtain ⟨s0, s1, s2, s3, s4, p6, p7, p8, p9, hn⟩ := id hc
  refine q_enter (L := [(0, .ref (g.1 + c))]) (by decide) (Nat.le_of_ble_eq_true rfl) rfl ?_
  refine r_aload_n (i := 0) (pc' := 1) dX4_isOpen_0 rfl rfl (.head _) ?_
  refine r_getI (pc' := 4) dX4_isOpen_1 rfl fX4_37 rfl (by first | assumption | rfl) (by omega) ?_
  refine r_if_ne (t := 11) (f := 7) dX4_isOpen_4 (by decide) rfl (by first | omega | exact xv_in _ _ _) (fun h4 => ?_) (fun h4 => ?_)
  · refine r_iconst (pc' := 12) dX4_isOpen_11 rfl ?_
    refine r_zreturn dX4_isOpen_12 rfl (by decide) ?_
    refine ⟨?_, rfl, rfl, rfl, rfl⟩
    (repeat' split) <;> first | rfl | (exfalso; omega) | (congr 3; omega)
  · refine r_iconst (pc' := 8) dX4_isOpen_7 rfl ?_
    refine r_goto (t := 12) dX4_isOpen_8 (by decide) ?_
    refine r_zreturn dX4_isOpen_12 rfl (by decide) ?_
    refine ⟨?_, rfl, rfl, rfl, rfl⟩
    (repeat' split) <;> first | rfl | (exfalso; omega) | (congr 3; omega)
set_option maxHeartbeats 4000000 in
set_option maxRecDepth 100000 in
theorem tX4_lastYear {l : Launch} {g : q_G} {n : Nat} {P : q_P} {X : q_X} {Y : q_Y} {c : Nat} (hc : isCon n P c) : q_Met l g mX4_lastYear 0 [.ref (g.1 + c)] n P X Y (q_pv (.int (zi (c_last X c))) n P X Y) := by
  obtain ⟨s0, s1, s2, s3, s4, p6, p7, p8, p9, hn⟩ := id hc
  refine q_enter (L := [(0, .ref (g.1 + c))]) (by decide) (Nat.le_of_ble_eq_true rfl) rfl ?_
  refine r_aload_n (i := 0) (pc' := 1) dX4_lastYear_0 rfl rfl (.head _) ?_
  refine r_getI (pc' := 4) dX4_lastYear_1 rfl fX4_24 rfl (by first | assumption | rfl) (by omega) ?_
  refine r_aload_n (i := 0) (pc' := 5) dX4_lastYear_4 rfl rfl (.head _) ?_
  refine r_getI (pc' := 8) dX4_lastYear_5 rfl fX4_28 rfl (by first | assumption | rfl) (by omega) ?_
  refine r_iadd (pc' := 9) dX4_lastYear_8 rfl ?_
  refine r_aload_n (i := 0) (pc' := 10) dX4_lastYear_9 rfl rfl (.head _) ?_
  refine r_getI (pc' := 13) dX4_lastYear_10 rfl fX4_31 rfl (by first | assumption | rfl) (by omega) ?_
  refine r_iadd (pc' := 14) dX4_lastYear_13 rfl ?_
  refine r_iconst (pc' := 15) dX4_lastYear_14 rfl ?_
  refine r_isub (pc' := 16) dX4_lastYear_15 rfl ?_
  refine r_ireturn dX4_lastYear_16 rfl ?_
  refine ⟨?_, rfl, rfl, rfl, rfl⟩
  unfold c_last
  (repeat' split) <;> first | rfl | (exfalso; omega) | (congr 3; omega)
set_option maxHeartbeats 4000000 in
set_option maxRecDepth 100000 in
theorem tX4_yearsLeft {l : Launch} {g : q_G} {n : Nat} {P : q_P} {X : q_X} {Y : q_Y} {c : Nat} {y : Int} (hc : isCon n P c) (hf : 0 ≤ xv X c 0 ∧ xv X c 0 ≤ 19) (hy : -1 ≤ y ∧ y ≤ 40) : q_Met l g mX4_yearsLeft 1 [.ref (g.1 + c), .int (zi y)] n P X Y (q_pv (.int (zi (c_left X c y))) n P X Y) := by
  obtain ⟨s0, s1, s2, s3, s4, p6, p7, p8, p9, hn⟩ := id hc
  refine q_enter (L := [(0, .ref (g.1 + c)), (1, .int (zi y))]) (by decide) (Nat.le_of_ble_eq_true rfl) rfl ?_
  refine r_aload_n (i := 0) (pc' := 1) dX4_yearsLeft_0 rfl rfl (.head _) ?_
  refine r_V0p (ci := 4) (pc' := 4) dX4_yearsLeft_1 rfl lX4_49 rfl (by decide) (Nat.le_of_ble_eq_true rfl) (by first | assumption | rfl) (by omega) (tX4_isOpen (by assumption)) ?_
  refine r_bif_eq (t := 29) (f := 7) dX4_yearsLeft_4 (by decide) rfl (fun h4 => ?_) (fun h4 => ?_)
  · refine r_iconst (pc' := 30) dX4_yearsLeft_29 rfl ?_
    refine r_ireturn dX4_yearsLeft_30 rfl ?_
    refine ⟨?_, rfl, rfl, rfl, rfl⟩
    unfold c_left
    (repeat' split) <;> first | rfl | (exfalso; omega) | (congr 3; omega)
  · refine r_aload_n (i := 0) (pc' := 8) dX4_yearsLeft_7 rfl rfl (.head _) ?_
    refine r_iload_n (i := 1) (pc' := 9) dX4_yearsLeft_8 rfl rfl (.tail _ (.head _)) ?_
    refine r_V1p (ci := 4) (pc' := 12) dX4_yearsLeft_9 rfl lX4_53 rfl (by decide) (Nat.le_of_ble_eq_true rfl) (by first | assumption | rfl) (by omega) (tX4_plays (by assumption) (by assumption) (by omega)) ?_
    refine r_bif_eq (t := 29) (f := 15) dX4_yearsLeft_12 (by decide) rfl (fun h12 => ?_) (fun h12 => ?_)
    · refine r_iconst (pc' := 30) dX4_yearsLeft_29 rfl ?_
      refine r_ireturn dX4_yearsLeft_30 rfl ?_
      refine ⟨?_, rfl, rfl, rfl, rfl⟩
      unfold c_left
      (repeat' split) <;> first | rfl | (exfalso; omega) | (congr 3; omega)
    · refine r_aload_n (i := 0) (pc' := 16) dX4_yearsLeft_15 rfl rfl (.head _) ?_
      refine r_getI (pc' := 19) dX4_yearsLeft_16 rfl fX4_24 rfl (by first | assumption | rfl) (by omega) ?_
      refine r_aload_n (i := 0) (pc' := 20) dX4_yearsLeft_19 rfl rfl (.head _) ?_
      refine r_getI (pc' := 23) dX4_yearsLeft_20 rfl fX4_28 rfl (by first | assumption | rfl) (by omega) ?_
      refine r_iadd (pc' := 24) dX4_yearsLeft_23 rfl ?_
      refine r_iload_n (i := 1) (pc' := 25) dX4_yearsLeft_24 rfl rfl (.tail _ (.head _)) ?_
      refine r_isub (pc' := 26) dX4_yearsLeft_25 rfl ?_
      refine r_goto (t := 30) dX4_yearsLeft_26 (by decide) ?_
      refine r_ireturn dX4_yearsLeft_30 rfl ?_
      refine ⟨?_, rfl, rfl, rfl, rfl⟩
      unfold c_left
      (repeat' split) <;> first | rfl | (exfalso; omega) | (congr 3; omega)
set_option maxHeartbeats 4000000 in
set_option maxRecDepth 100000 in
theorem tX4_basePay {l : Launch} {g : q_G} {n : Nat} {P : q_P} {X : q_X} {Y : q_Y} {c : Nat} {y : Int} (hc : isCon n P c) (hf : 0 ≤ xv X c 0 ∧ xv X c 0 ≤ 19) (hy : -1 ≤ y ∧ y ≤ 40) : q_Met l g mX4_basePay 1 [.ref (g.1 + c), .int (zi y)] n P X Y (q_pv (.int (zi (c_base X c y))) n P X Y) := by
  obtain ⟨s0, s1, s2, s3, s4, p6, p7, p8, p9, hn⟩ := id hc
  refine q_enter (L := [(0, .ref (g.1 + c)), (1, .int (zi y))]) (by decide) (Nat.le_of_ble_eq_true rfl) rfl ?_
  refine r_aload_n (i := 0) (pc' := 1) dX4_basePay_0 rfl rfl (.head _) ?_
  refine r_iload_n (i := 1) (pc' := 2) dX4_basePay_1 rfl rfl (.tail _ (.head _)) ?_
  refine r_V1p (ci := 4) (pc' := 5) dX4_basePay_2 rfl lX4_53 rfl (by decide) (Nat.le_of_ble_eq_true rfl) (by first | assumption | rfl) (by omega) (tX4_plays (by assumption) (by assumption) (by omega)) ?_
  refine r_bif_eq (t := 22) (f := 8) dX4_basePay_5 (by decide) rfl (fun h5 => ?_) (fun h5 => ?_)
  · refine r_iconst (pc' := 23) dX4_basePay_22 rfl ?_
    refine r_ireturn dX4_basePay_23 rfl ?_
    refine ⟨?_, rfl, rfl, rfl, rfl⟩
    unfold c_base
    (repeat' split) <;> first | rfl | (exfalso; omega) | (congr 3; omega)
  · refine r_aload_n (i := 0) (pc' := 9) dX4_basePay_8 rfl rfl (.head _) ?_
    refine r_getR (pc' := 12) dX4_basePay_9 rfl fX4_11 rfl (by first | assumption | rfl) (by omega) (by assumption) ?_
    refine r_iload_n (i := 1) (pc' := 13) dX4_basePay_12 rfl rfl (.tail _ (.head _)) ?_
    refine r_aload_n (i := 0) (pc' := 14) dX4_basePay_13 rfl rfl (.head _) ?_
    refine r_getI (pc' := 17) dX4_basePay_14 rfl fX4_24 rfl (by first | assumption | rfl) (by omega) ?_
    refine r_isub (pc' := 18) dX4_basePay_17 rfl ?_
    refine r_iaload (pc' := 19) dX4_basePay_18 rfl (by first | assumption | rfl) (by omega) (by omega) (by omega) (by first | decide | omega) rfl ?_
    refine r_goto (t := 23) dX4_basePay_19 (by decide) ?_
    refine r_ireturn dX4_basePay_23 rfl ?_
    refine ⟨?_, rfl, rfl, rfl, rfl⟩
    unfold c_base
    (repeat' split) <;> first | rfl | (exfalso; omega) | (congr 3; omega)
set_option maxHeartbeats 4000000 in
set_option maxRecDepth 100000 in
theorem tX4_rosterBonus {l : Launch} {g : q_G} {n : Nat} {P : q_P} {X : q_X} {Y : q_Y} {c : Nat} {y : Int} (hc : isCon n P c) (hf : 0 ≤ xv X c 0 ∧ xv X c 0 ≤ 19) (hy : -1 ≤ y ∧ y ≤ 40) : q_Met l g mX4_rosterBonus 1 [.ref (g.1 + c), .int (zi y)] n P X Y (q_pv (.int (zi (c_roster X c y))) n P X Y) := by
  obtain ⟨s0, s1, s2, s3, s4, p6, p7, p8, p9, hn⟩ := id hc
  refine q_enter (L := [(0, .ref (g.1 + c)), (1, .int (zi y))]) (by decide) (Nat.le_of_ble_eq_true rfl) rfl ?_
  refine r_aload_n (i := 0) (pc' := 1) dX4_rosterBonus_0 rfl rfl (.head _) ?_
  refine r_iload_n (i := 1) (pc' := 2) dX4_rosterBonus_1 rfl rfl (.tail _ (.head _)) ?_
  refine r_V1p (ci := 4) (pc' := 5) dX4_rosterBonus_2 rfl lX4_53 rfl (by decide) (Nat.le_of_ble_eq_true rfl) (by first | assumption | rfl) (by omega) (tX4_plays (by assumption) (by assumption) (by omega)) ?_
  refine r_bif_eq (t := 22) (f := 8) dX4_rosterBonus_5 (by decide) rfl (fun h5 => ?_) (fun h5 => ?_)
  · refine r_iconst (pc' := 23) dX4_rosterBonus_22 rfl ?_
    refine r_ireturn dX4_rosterBonus_23 rfl ?_
    refine ⟨?_, rfl, rfl, rfl, rfl⟩
    unfold c_roster
    (repeat' split) <;> first | rfl | (exfalso; omega) | (congr 3; omega)
  · refine r_aload_n (i := 0) (pc' := 9) dX4_rosterBonus_8 rfl rfl (.head _) ?_
    refine r_getR (pc' := 12) dX4_rosterBonus_9 rfl fX4_15 rfl (by first | assumption | rfl) (by omega) (by assumption) ?_
    refine r_iload_n (i := 1) (pc' := 13) dX4_rosterBonus_12 rfl rfl (.tail _ (.head _)) ?_
    refine r_aload_n (i := 0) (pc' := 14) dX4_rosterBonus_13 rfl rfl (.head _) ?_
    refine r_getI (pc' := 17) dX4_rosterBonus_14 rfl fX4_24 rfl (by first | assumption | rfl) (by omega) ?_
    refine r_isub (pc' := 18) dX4_rosterBonus_17 rfl ?_
    refine r_iaload (pc' := 19) dX4_rosterBonus_18 rfl (by first | assumption | rfl) (by omega) (by omega) (by omega) (by first | decide | omega) rfl ?_
    refine r_goto (t := 23) dX4_rosterBonus_19 (by decide) ?_
    refine r_ireturn dX4_rosterBonus_23 rfl ?_
    refine ⟨?_, rfl, rfl, rfl, rfl⟩
    unfold c_roster
    (repeat' split) <;> first | rfl | (exfalso; omega) | (congr 3; omega)
set_option maxHeartbeats 4000000 in
set_option maxRecDepth 100000 in
theorem tX4_partsIn {l : Launch} {g : q_G} {n : Nat} {P : q_P} {X : q_X} {Y : q_Y} {c : Nat} {y : Int} (hc : isCon n P c) (hf : 0 ≤ xv X c 0 ∧ xv X c 0 ≤ 19) (hy : -1 ≤ y ∧ y ≤ 40) : q_Met l g mX4_partsIn 0 [.ref (g.1 + c), .int (zi y)] n P X Y (q_pv (.int (zi (c_parts X c y))) n P X Y) := by
  obtain ⟨s0, s1, s2, s3, s4, p6, p7, p8, p9, hn⟩ := id hc
  refine q_enter (L := [(0, .ref (g.1 + c)), (1, .int (zi y))]) (by decide) (Nat.le_of_ble_eq_true rfl) rfl ?_
  refine r_iload_n (i := 1) (pc' := 1) dX4_partsIn_0 rfl rfl (.tail _ (.head _)) ?_
  refine r_aload_n (i := 0) (pc' := 2) dX4_partsIn_1 rfl rfl (.head _) ?_
  refine r_getI (pc' := 5) dX4_partsIn_2 rfl fX4_24 rfl (by first | assumption | rfl) (by omega) ?_
  refine r_isub (pc' := 6) dX4_partsIn_5 rfl ?_
  refine r_istore_n (i := 2) (pc' := 7) dX4_partsIn_6 rfl rfl rfl (.s1 (.s1 .nil rfl rfl rfl) rfl rfl rfl) ?_
  refine r_iload_n (i := 2) (pc' := 8) dX4_partsIn_7 rfl rfl (.tail _ (.tail _ (.head _))) ?_
  refine r_if_lt (t := 26) (f := 11) dX4_partsIn_8 (by decide) rfl (by first | omega | exact xv_in _ _ _) (fun h8 => ?_) (fun h8 => ?_)
  · refine r_iconst (pc' := 27) dX4_partsIn_26 rfl ?_
    refine r_ireturn dX4_partsIn_27 rfl ?_
    refine ⟨?_, rfl, rfl, rfl, rfl⟩
    unfold c_parts
    (repeat' split) <;> first | rfl | (exfalso; omega) | (congr 3; omega)
  · refine r_iload_n (i := 2) (pc' := 12) dX4_partsIn_11 rfl rfl (.tail _ (.tail _ (.head _))) ?_
    refine r_bipush (pc' := 14) dX4_partsIn_12 rfl (by decide) ?_
    refine r_icmp_ge (t := 26) (f := 17) dX4_partsIn_14 (by decide) rfl (by first | omega | exact xv_in _ _ _) (by first | omega | exact xv_in _ _ _) (fun h14 => ?_) (fun h14 => ?_)
    · refine r_iconst (pc' := 27) dX4_partsIn_26 rfl ?_
      refine r_ireturn dX4_partsIn_27 rfl ?_
      refine ⟨?_, rfl, rfl, rfl, rfl⟩
      unfold c_parts
      (repeat' split) <;> first | rfl | (exfalso; omega) | (congr 3; omega)
    · refine r_aload_n (i := 0) (pc' := 18) dX4_partsIn_17 rfl rfl (.head _) ?_
      refine r_getR (pc' := 21) dX4_partsIn_18 rfl fX4_18 rfl (by first | assumption | rfl) (by omega) (by assumption) ?_
      refine r_iload_n (i := 2) (pc' := 22) dX4_partsIn_21 rfl rfl (.tail _ (.tail _ (.head _))) ?_
      refine r_iaload (pc' := 23) dX4_partsIn_22 rfl (by first | assumption | rfl) (by omega) (by omega) (by omega) (by first | decide | omega) rfl ?_
      refine r_goto (t := 27) dX4_partsIn_23 (by decide) ?_
      refine r_ireturn dX4_partsIn_27 rfl ?_
      refine ⟨?_, rfl, rfl, rfl, rfl⟩
      unfold c_parts
      (repeat' split) <;> first | rfl | (exfalso; omega) | (congr 3; omega)
set_option maxHeartbeats 4000000 in
set_option maxRecDepth 100000 in
theorem tX4_hit {l : Launch} {g : q_G} {n : Nat} {P : q_P} {X : q_X} {Y : q_Y} {c : Nat} {y : Int} (hc : isCon n P c) (hf : 0 ≤ xv X c 0 ∧ xv X c 0 ≤ 19) (hy : -1 ≤ y ∧ y ≤ 40) : q_Met l g mX4_hit 2 [.ref (g.1 + c), .int (zi y)] n P X Y (q_pv (.int (zi (c_hit X c y))) n P X Y) := by
  obtain ⟨s0, s1, s2, s3, s4, p6, p7, p8, p9, hn⟩ := id hc
  refine q_enter (L := [(0, .ref (g.1 + c)), (1, .int (zi y))]) (by decide) (Nat.le_of_ble_eq_true rfl) rfl ?_
  refine r_aload_n (i := 0) (pc' := 1) dX4_hit_0 rfl rfl (.head _) ?_
  refine r_iload_n (i := 1) (pc' := 2) dX4_hit_1 rfl rfl (.tail _ (.head _)) ?_
  refine r_V1p (ci := 4) (pc' := 5) dX4_hit_2 rfl lX4_63 rfl (by decide) (Nat.le_of_ble_eq_true rfl) (by first | assumption | rfl) (by omega) (tX4_basePay (by assumption) (by assumption) (by omega)) ?_
  refine r_aload_n (i := 0) (pc' := 6) dX4_hit_5 rfl rfl (.head _) ?_
  refine r_iload_n (i := 1) (pc' := 7) dX4_hit_6 rfl rfl (.tail _ (.head _)) ?_
  refine r_V1p (ci := 4) (pc' := 10) dX4_hit_7 rfl lX4_67 rfl (by decide) (Nat.le_of_ble_eq_true rfl) (by first | assumption | rfl) (by omega) (tX4_rosterBonus (by assumption) (by assumption) (by omega)) ?_
  refine r_iadd (pc' := 11) dX4_hit_10 rfl ?_
  refine r_aload_n (i := 0) (pc' := 12) dX4_hit_11 rfl rfl (.head _) ?_
  refine r_iload_n (i := 1) (pc' := 13) dX4_hit_12 rfl rfl (.tail _ (.head _)) ?_
  refine r_V1p (ci := 4) (pc' := 16) dX4_hit_13 rfl lX4_70 rfl (by decide) (Nat.le_of_ble_eq_true rfl) (by first | assumption | rfl) (by omega) (tX4_partsIn (by assumption) (by assumption) (by omega)) ?_
  refine r_iadd (pc' := 17) dX4_hit_16 rfl ?_
  refine r_ireturn dX4_hit_17 rfl ?_
  refine ⟨?_, rfl, rfl, rfl, rfl⟩
  unfold c_hit
  (repeat' split) <;> first | rfl | (exfalso; omega) | (congr 3; omega)
set_option maxHeartbeats 4000000 in
set_option maxRecDepth 100000 in
theorem tX4_sureBase {l : Launch} {g : q_G} {n : Nat} {P : q_P} {X : q_X} {Y : q_Y} {c : Nat} {y : Int} (hc : isCon n P c) (hf : 0 ≤ xv X c 0 ∧ xv X c 0 ≤ 19) (hy : -1 ≤ y ∧ y ≤ 40) (hm : q_in (xv X (c + 1) 0 * xv X c 3)) : q_Met l g mX4_sureBase 0 [.ref (g.1 + c), .int (zi y)] n P X Y (q_pv (.int (zi (c_sure X c y))) n P X Y) := by
  obtain ⟨s0, s1, s2, s3, s4, p6, p7, p8, p9, hn⟩ := id hc
  refine q_enter (L := [(0, .ref (g.1 + c)), (1, .int (zi y))]) (by decide) (Nat.le_of_ble_eq_true rfl) rfl ?_
  refine r_iload_n (i := 1) (pc' := 1) dX4_sureBase_0 rfl rfl (.tail _ (.head _)) ?_
  refine r_aload_n (i := 0) (pc' := 2) dX4_sureBase_1 rfl rfl (.head _) ?_
  refine r_getI (pc' := 5) dX4_sureBase_2 rfl fX4_24 rfl (by first | assumption | rfl) (by omega) ?_
  refine r_icmp_ne (t := 25) (f := 8) dX4_sureBase_5 (by decide) rfl (by first | omega | exact xv_in _ _ _) (by first | omega | exact xv_in _ _ _) (fun h5 => ?_) (fun h5 => ?_)
  · refine r_iconst (pc' := 26) dX4_sureBase_25 rfl ?_
    refine r_ireturn dX4_sureBase_26 rfl ?_
    refine ⟨?_, rfl, rfl, rfl, rfl⟩
    unfold c_sure
    (repeat' split) <;> first | rfl | (exfalso; omega) | (congr 3; omega)
  · refine r_aload_n (i := 0) (pc' := 9) dX4_sureBase_8 rfl rfl (.head _) ?_
    refine r_getR (pc' := 12) dX4_sureBase_9 rfl fX4_11 rfl (by first | assumption | rfl) (by omega) (by assumption) ?_
    refine r_iconst (pc' := 13) dX4_sureBase_12 rfl ?_
    refine r_iaload (pc' := 14) dX4_sureBase_13 rfl (by first | assumption | rfl) (by omega) (by omega) (by omega) (by first | decide | omega) rfl ?_
    refine r_aload_n (i := 0) (pc' := 15) dX4_sureBase_14 rfl rfl (.head _) ?_
    refine r_getI (pc' := 18) dX4_sureBase_15 rfl fX4_34 rfl (by first | assumption | rfl) (by omega) ?_
    refine r_imul (pc' := 19) dX4_sureBase_18 rfl ?_
    refine r_bipush (pc' := 21) dX4_sureBase_19 rfl (by decide) ?_
    refine r_idiv (pc' := 22) dX4_sureBase_21 rfl (by assumption) (by omega) (by omega) ?_
    refine r_goto (t := 26) dX4_sureBase_22 (by decide) ?_
    refine r_ireturn dX4_sureBase_26 rfl ?_
    refine ⟨?_, rfl, rfl, rfl, rfl⟩
    unfold c_sure
    (repeat' split) <;> first | rfl | (exfalso; omega) | (congr 3; omega)
set_option maxHeartbeats 4000000 in
set_option maxRecDepth 100000 in
theorem tX4_cashIn {l : Launch} {g : q_G} {n : Nat} {P : q_P} {X : q_X} {Y : q_Y} {c : Nat} {y : Int} (hc : isCon n P c) (hf : 0 ≤ xv X c 0 ∧ xv X c 0 ≤ 19) (hy : -1 ≤ y ∧ y ≤ 40) : q_Met l g mX4_cashIn 2 [.ref (g.1 + c), .int (zi y)] n P X Y (q_pv (.int (zi (c_cash X c y))) n P X Y) := by
  obtain ⟨s0, s1, s2, s3, s4, p6, p7, p8, p9, hn⟩ := id hc
  refine q_enter (L := [(0, .ref (g.1 + c)), (1, .int (zi y))]) (by decide) (Nat.le_of_ble_eq_true rfl) rfl ?_
  refine r_iload_n (i := 1) (pc' := 1) dX4_cashIn_0 rfl rfl (.tail _ (.head _)) ?_
  refine r_aload_n (i := 0) (pc' := 2) dX4_cashIn_1 rfl rfl (.head _) ?_
  refine r_getI (pc' := 5) dX4_cashIn_2 rfl fX4_24 rfl (by first | assumption | rfl) (by omega) ?_
  refine r_isub (pc' := 6) dX4_cashIn_5 rfl ?_
  refine r_istore_n (i := 2) (pc' := 7) dX4_cashIn_6 rfl rfl rfl (.s1 (.s1 .nil rfl rfl rfl) rfl rfl rfl) ?_
  refine r_iload_n (i := 2) (pc' := 8) dX4_cashIn_7 rfl rfl (.tail _ (.tail _ (.head _))) ?_
  refine r_if_lt (t := 26) (f := 11) dX4_cashIn_8 (by decide) rfl (by first | omega | exact xv_in _ _ _) (fun h8 => ?_) (fun h8 => ?_)
  · refine r_iconst (pc' := 27) dX4_cashIn_26 rfl ?_
    refine r_istore_n (i := 3) (pc' := 28) dX4_cashIn_27 rfl rfl rfl (.s1 (.s1 (.s1 .nil rfl rfl rfl) rfl rfl rfl) rfl rfl rfl) ?_
    refine r_aload_n (i := 0) (pc' := 29) dX4_cashIn_28 rfl rfl (.head _) ?_
    refine r_V0p (ci := 4) (pc' := 32) dX4_cashIn_29 rfl lX4_49 rfl (by decide) (Nat.le_of_ble_eq_true rfl) (by first | assumption | rfl) (by omega) (tX4_isOpen (by assumption)) ?_
    refine r_bif_ne (t := 43) (f := 35) dX4_cashIn_32 (by decide) rfl (fun h32 => ?_) (fun h32 => ?_)
    · refine r_iload_n (i := 3) (pc' := 44) dX4_cashIn_43 rfl rfl (.tail _ (.tail _ (.tail _ (.head _)))) ?_
      refine r_aload_n (i := 0) (pc' := 45) dX4_cashIn_44 rfl rfl (.head _) ?_
      refine r_iload_n (i := 1) (pc' := 46) dX4_cashIn_45 rfl rfl (.tail _ (.head _)) ?_
      refine r_V1p (ci := 4) (pc' := 49) dX4_cashIn_46 rfl lX4_63 rfl (by decide) (Nat.le_of_ble_eq_true rfl) (by first | assumption | rfl) (by omega) (tX4_basePay (by assumption) (by assumption) (by omega)) ?_
      refine r_iadd (pc' := 50) dX4_cashIn_49 rfl ?_
      refine r_aload_n (i := 0) (pc' := 51) dX4_cashIn_50 rfl rfl (.head _) ?_
      refine r_iload_n (i := 1) (pc' := 52) dX4_cashIn_51 rfl rfl (.tail _ (.head _)) ?_
      refine r_V1p (ci := 4) (pc' := 55) dX4_cashIn_52 rfl lX4_67 rfl (by decide) (Nat.le_of_ble_eq_true rfl) (by first | assumption | rfl) (by omega) (tX4_rosterBonus (by assumption) (by assumption) (by omega)) ?_
      refine r_iadd (pc' := 56) dX4_cashIn_55 rfl ?_
      refine r_goto (t := 60) dX4_cashIn_56 (by decide) ?_
      refine r_ireturn dX4_cashIn_60 rfl ?_
      refine ⟨?_, rfl, rfl, rfl, rfl⟩
      unfold c_cash c_given
      (repeat' split) <;> first | rfl | (exfalso; omega) | (congr 3; omega)
    · refine r_iload_n (i := 1) (pc' := 36) dX4_cashIn_35 rfl rfl (.tail _ (.head _)) ?_
      refine r_aload_n (i := 0) (pc' := 37) dX4_cashIn_36 rfl rfl (.head _) ?_
      refine r_getI (pc' := 40) dX4_cashIn_37 rfl fX4_40 rfl (by first | assumption | rfl) (by omega) ?_
      refine r_icmp_ge (t := 59) (f := 43) dX4_cashIn_40 (by decide) rfl (by first | omega | exact xv_in _ _ _) (by first | omega | exact xv_in _ _ _) (fun h40 => ?_) (fun h40 => ?_)
      · refine r_iload_n (i := 3) (pc' := 60) dX4_cashIn_59 rfl rfl (.tail _ (.tail _ (.tail _ (.head _)))) ?_
        refine r_ireturn dX4_cashIn_60 rfl ?_
        refine ⟨?_, rfl, rfl, rfl, rfl⟩
        unfold c_cash c_given
        (repeat' split) <;> first | rfl | (exfalso; omega) | (congr 3; omega)
      · refine r_iload_n (i := 3) (pc' := 44) dX4_cashIn_43 rfl rfl (.tail _ (.tail _ (.tail _ (.head _)))) ?_
        refine r_aload_n (i := 0) (pc' := 45) dX4_cashIn_44 rfl rfl (.head _) ?_
        refine r_iload_n (i := 1) (pc' := 46) dX4_cashIn_45 rfl rfl (.tail _ (.head _)) ?_
        refine r_V1p (ci := 4) (pc' := 49) dX4_cashIn_46 rfl lX4_63 rfl (by decide) (Nat.le_of_ble_eq_true rfl) (by first | assumption | rfl) (by omega) (tX4_basePay (by assumption) (by assumption) (by omega)) ?_
        refine r_iadd (pc' := 50) dX4_cashIn_49 rfl ?_
        refine r_aload_n (i := 0) (pc' := 51) dX4_cashIn_50 rfl rfl (.head _) ?_
        refine r_iload_n (i := 1) (pc' := 52) dX4_cashIn_51 rfl rfl (.tail _ (.head _)) ?_
        refine r_V1p (ci := 4) (pc' := 55) dX4_cashIn_52 rfl lX4_67 rfl (by decide) (Nat.le_of_ble_eq_true rfl) (by first | assumption | rfl) (by omega) (tX4_rosterBonus (by assumption) (by assumption) (by omega)) ?_
        refine r_iadd (pc' := 56) dX4_cashIn_55 rfl ?_
        refine r_goto (t := 60) dX4_cashIn_56 (by decide) ?_
        refine r_ireturn dX4_cashIn_60 rfl ?_
        refine ⟨?_, rfl, rfl, rfl, rfl⟩
        unfold c_cash c_given
        (repeat' split) <;> first | rfl | (exfalso; omega) | (congr 3; omega)
  · refine r_iload_n (i := 2) (pc' := 12) dX4_cashIn_11 rfl rfl (.tail _ (.tail _ (.head _))) ?_
    refine r_bipush (pc' := 14) dX4_cashIn_12 rfl (by decide) ?_
    refine r_icmp_ge (t := 26) (f := 17) dX4_cashIn_14 (by decide) rfl (by first | omega | exact xv_in _ _ _) (by first | omega | exact xv_in _ _ _) (fun h14 => ?_) (fun h14 => ?_)
    · refine r_iconst (pc' := 27) dX4_cashIn_26 rfl ?_
      refine r_istore_n (i := 3) (pc' := 28) dX4_cashIn_27 rfl rfl rfl (.s1 (.s1 (.s1 .nil rfl rfl rfl) rfl rfl rfl) rfl rfl rfl) ?_
      refine r_aload_n (i := 0) (pc' := 29) dX4_cashIn_28 rfl rfl (.head _) ?_
      refine r_V0p (ci := 4) (pc' := 32) dX4_cashIn_29 rfl lX4_49 rfl (by decide) (Nat.le_of_ble_eq_true rfl) (by first | assumption | rfl) (by omega) (tX4_isOpen (by assumption)) ?_
      refine r_bif_ne (t := 43) (f := 35) dX4_cashIn_32 (by decide) rfl (fun h32 => ?_) (fun h32 => ?_)
      · refine r_iload_n (i := 3) (pc' := 44) dX4_cashIn_43 rfl rfl (.tail _ (.tail _ (.tail _ (.head _)))) ?_
        refine r_aload_n (i := 0) (pc' := 45) dX4_cashIn_44 rfl rfl (.head _) ?_
        refine r_iload_n (i := 1) (pc' := 46) dX4_cashIn_45 rfl rfl (.tail _ (.head _)) ?_
        refine r_V1p (ci := 4) (pc' := 49) dX4_cashIn_46 rfl lX4_63 rfl (by decide) (Nat.le_of_ble_eq_true rfl) (by first | assumption | rfl) (by omega) (tX4_basePay (by assumption) (by assumption) (by omega)) ?_
        refine r_iadd (pc' := 50) dX4_cashIn_49 rfl ?_
        refine r_aload_n (i := 0) (pc' := 51) dX4_cashIn_50 rfl rfl (.head _) ?_
        refine r_iload_n (i := 1) (pc' := 52) dX4_cashIn_51 rfl rfl (.tail _ (.head _)) ?_
        refine r_V1p (ci := 4) (pc' := 55) dX4_cashIn_52 rfl lX4_67 rfl (by decide) (Nat.le_of_ble_eq_true rfl) (by first | assumption | rfl) (by omega) (tX4_rosterBonus (by assumption) (by assumption) (by omega)) ?_
        refine r_iadd (pc' := 56) dX4_cashIn_55 rfl ?_
        refine r_goto (t := 60) dX4_cashIn_56 (by decide) ?_
        refine r_ireturn dX4_cashIn_60 rfl ?_
        refine ⟨?_, rfl, rfl, rfl, rfl⟩
        unfold c_cash c_given
        (repeat' split) <;> first | rfl | (exfalso; omega) | (congr 3; omega)
      · refine r_iload_n (i := 1) (pc' := 36) dX4_cashIn_35 rfl rfl (.tail _ (.head _)) ?_
        refine r_aload_n (i := 0) (pc' := 37) dX4_cashIn_36 rfl rfl (.head _) ?_
        refine r_getI (pc' := 40) dX4_cashIn_37 rfl fX4_40 rfl (by first | assumption | rfl) (by omega) ?_
        refine r_icmp_ge (t := 59) (f := 43) dX4_cashIn_40 (by decide) rfl (by first | omega | exact xv_in _ _ _) (by first | omega | exact xv_in _ _ _) (fun h40 => ?_) (fun h40 => ?_)
        · refine r_iload_n (i := 3) (pc' := 60) dX4_cashIn_59 rfl rfl (.tail _ (.tail _ (.tail _ (.head _)))) ?_
          refine r_ireturn dX4_cashIn_60 rfl ?_
          refine ⟨?_, rfl, rfl, rfl, rfl⟩
          unfold c_cash c_given
          (repeat' split) <;> first | rfl | (exfalso; omega) | (congr 3; omega)
        · refine r_iload_n (i := 3) (pc' := 44) dX4_cashIn_43 rfl rfl (.tail _ (.tail _ (.tail _ (.head _)))) ?_
          refine r_aload_n (i := 0) (pc' := 45) dX4_cashIn_44 rfl rfl (.head _) ?_
          refine r_iload_n (i := 1) (pc' := 46) dX4_cashIn_45 rfl rfl (.tail _ (.head _)) ?_
          refine r_V1p (ci := 4) (pc' := 49) dX4_cashIn_46 rfl lX4_63 rfl (by decide) (Nat.le_of_ble_eq_true rfl) (by first | assumption | rfl) (by omega) (tX4_basePay (by assumption) (by assumption) (by omega)) ?_
          refine r_iadd (pc' := 50) dX4_cashIn_49 rfl ?_
          refine r_aload_n (i := 0) (pc' := 51) dX4_cashIn_50 rfl rfl (.head _) ?_
          refine r_iload_n (i := 1) (pc' := 52) dX4_cashIn_51 rfl rfl (.tail _ (.head _)) ?_
          refine r_V1p (ci := 4) (pc' := 55) dX4_cashIn_52 rfl lX4_67 rfl (by decide) (Nat.le_of_ble_eq_true rfl) (by first | assumption | rfl) (by omega) (tX4_rosterBonus (by assumption) (by assumption) (by omega)) ?_
          refine r_iadd (pc' := 56) dX4_cashIn_55 rfl ?_
          refine r_goto (t := 60) dX4_cashIn_56 (by decide) ?_
          refine r_ireturn dX4_cashIn_60 rfl ?_
          refine ⟨?_, rfl, rfl, rfl, rfl⟩
          unfold c_cash c_given
          (repeat' split) <;> first | rfl | (exfalso; omega) | (congr 3; omega)
    · refine r_aload_n (i := 0) (pc' := 18) dX4_cashIn_17 rfl rfl (.head _) ?_
      refine r_getR (pc' := 21) dX4_cashIn_18 rfl fX4_21 rfl (by first | assumption | rfl) (by omega) (by assumption) ?_
      refine r_iload_n (i := 2) (pc' := 22) dX4_cashIn_21 rfl rfl (.tail _ (.tail _ (.head _))) ?_
      refine r_iaload (pc' := 23) dX4_cashIn_22 rfl (by first | assumption | rfl) (by omega) (by omega) (by omega) (by first | decide | omega) rfl ?_
      refine r_goto (t := 27) dX4_cashIn_23 (by decide) ?_
      refine r_istore_n (i := 3) (pc' := 28) dX4_cashIn_27 rfl rfl rfl (.s1 (.s1 (.s1 .nil rfl rfl rfl) rfl rfl rfl) rfl rfl rfl) ?_
      refine r_aload_n (i := 0) (pc' := 29) dX4_cashIn_28 rfl rfl (.head _) ?_
      refine r_V0p (ci := 4) (pc' := 32) dX4_cashIn_29 rfl lX4_49 rfl (by decide) (Nat.le_of_ble_eq_true rfl) (by first | assumption | rfl) (by omega) (tX4_isOpen (by assumption)) ?_
      refine r_bif_ne (t := 43) (f := 35) dX4_cashIn_32 (by decide) rfl (fun h32 => ?_) (fun h32 => ?_)
      · refine r_iload_n (i := 3) (pc' := 44) dX4_cashIn_43 rfl rfl (.tail _ (.tail _ (.tail _ (.head _)))) ?_
        refine r_aload_n (i := 0) (pc' := 45) dX4_cashIn_44 rfl rfl (.head _) ?_
        refine r_iload_n (i := 1) (pc' := 46) dX4_cashIn_45 rfl rfl (.tail _ (.head _)) ?_
        refine r_V1p (ci := 4) (pc' := 49) dX4_cashIn_46 rfl lX4_63 rfl (by decide) (Nat.le_of_ble_eq_true rfl) (by first | assumption | rfl) (by omega) (tX4_basePay (by assumption) (by assumption) (by omega)) ?_
        refine r_iadd (pc' := 50) dX4_cashIn_49 rfl ?_
        refine r_aload_n (i := 0) (pc' := 51) dX4_cashIn_50 rfl rfl (.head _) ?_
        refine r_iload_n (i := 1) (pc' := 52) dX4_cashIn_51 rfl rfl (.tail _ (.head _)) ?_
        refine r_V1p (ci := 4) (pc' := 55) dX4_cashIn_52 rfl lX4_67 rfl (by decide) (Nat.le_of_ble_eq_true rfl) (by first | assumption | rfl) (by omega) (tX4_rosterBonus (by assumption) (by assumption) (by omega)) ?_
        refine r_iadd (pc' := 56) dX4_cashIn_55 rfl ?_
        refine r_goto (t := 60) dX4_cashIn_56 (by decide) ?_
        refine r_ireturn dX4_cashIn_60 rfl ?_
        refine ⟨?_, rfl, rfl, rfl, rfl⟩
        unfold c_cash c_given
        (repeat' split) <;> first | rfl | (exfalso; omega) | (congr 3; omega)
      · refine r_iload_n (i := 1) (pc' := 36) dX4_cashIn_35 rfl rfl (.tail _ (.head _)) ?_
        refine r_aload_n (i := 0) (pc' := 37) dX4_cashIn_36 rfl rfl (.head _) ?_
        refine r_getI (pc' := 40) dX4_cashIn_37 rfl fX4_40 rfl (by first | assumption | rfl) (by omega) ?_
        refine r_icmp_ge (t := 59) (f := 43) dX4_cashIn_40 (by decide) rfl (by first | omega | exact xv_in _ _ _) (by first | omega | exact xv_in _ _ _) (fun h40 => ?_) (fun h40 => ?_)
        · refine r_iload_n (i := 3) (pc' := 60) dX4_cashIn_59 rfl rfl (.tail _ (.tail _ (.tail _ (.head _)))) ?_
          refine r_ireturn dX4_cashIn_60 rfl ?_
          refine ⟨?_, rfl, rfl, rfl, rfl⟩
          unfold c_cash c_given
          (repeat' split) <;> first | rfl | (exfalso; omega) | (congr 3; omega)
        · refine r_iload_n (i := 3) (pc' := 44) dX4_cashIn_43 rfl rfl (.tail _ (.tail _ (.tail _ (.head _)))) ?_
          refine r_aload_n (i := 0) (pc' := 45) dX4_cashIn_44 rfl rfl (.head _) ?_
          refine r_iload_n (i := 1) (pc' := 46) dX4_cashIn_45 rfl rfl (.tail _ (.head _)) ?_
          refine r_V1p (ci := 4) (pc' := 49) dX4_cashIn_46 rfl lX4_63 rfl (by decide) (Nat.le_of_ble_eq_true rfl) (by first | assumption | rfl) (by omega) (tX4_basePay (by assumption) (by assumption) (by omega)) ?_
          refine r_iadd (pc' := 50) dX4_cashIn_49 rfl ?_
          refine r_aload_n (i := 0) (pc' := 51) dX4_cashIn_50 rfl rfl (.head _) ?_
          refine r_iload_n (i := 1) (pc' := 52) dX4_cashIn_51 rfl rfl (.tail _ (.head _)) ?_
          refine r_V1p (ci := 4) (pc' := 55) dX4_cashIn_52 rfl lX4_67 rfl (by decide) (Nat.le_of_ble_eq_true rfl) (by first | assumption | rfl) (by omega) (tX4_rosterBonus (by assumption) (by assumption) (by omega)) ?_
          refine r_iadd (pc' := 56) dX4_cashIn_55 rfl ?_
          refine r_goto (t := 60) dX4_cashIn_56 (by decide) ?_
          refine r_ireturn dX4_cashIn_60 rfl ?_
          refine ⟨?_, rfl, rfl, rfl, rfl⟩
          unfold c_cash c_given
          (repeat' split) <;> first | rfl | (exfalso; omega) | (congr 3; omega)
set_option maxHeartbeats 4000000 in
set_option maxRecDepth 100000 in
theorem lX4_partsFrom {l : Launch} {g : q_G} {n : Nat} {P : q_P} {X : q_X} {Y : q_Y} {c : Nat} {y : Int} (hc : isCon n P c) {r : Int} : ∀ (k : Nat) (i s : Int), 0 ≤ i → i + k = 10 → s + q_sum (xv X (c + 3)) i.toNat k = r → q_Tr l g mX4_partsFrom 1 (q_pv (.int (zi r)) n P X Y) 13 [(0, .ref (g.1 + c)), (1, .int (zi y)), (2, .int (zi s)), (3, .int (zi i))] [] n P X Y := by
  obtain ⟨s0, s1, s2, s3, s4, p6, p7, p8, p9, hn⟩ := id hc
  intro k
  induction k with
  | zero =>
    intro i s h0 hk hr
    refine r_iload_n (i := 3) (pc' := 14) dX4_partsFrom_13 rfl rfl (.tail _ (.tail _ (.tail _ (.head _)))) ?_
    refine r_bipush (pc' := 16) dX4_partsFrom_14 rfl (by decide) ?_
    refine r_icmp_ge (t := 34) (f := 19) dX4_partsFrom_16 (by decide) rfl (by first | omega | exact xv_in _ _ _) (by first | omega | exact xv_in _ _ _) (fun h16 => ?_) (fun h16 => ?_)
    · refine r_iload_n (i := 2) (pc' := 35) dX4_partsFrom_34 rfl rfl (.tail _ (.tail _ (.head _))) ?_
      refine r_ireturn dX4_partsFrom_35 rfl ?_
      refine ⟨?_, rfl, rfl, rfl, rfl⟩
      rw [← hr]; simp [q_sum]
    · exfalso; omega
  | succ k ih =>
    intro i s h0 hk hr
    refine r_iload_n (i := 3) (pc' := 14) dX4_partsFrom_13 rfl rfl (.tail _ (.tail _ (.tail _ (.head _)))) ?_
    refine r_bipush (pc' := 16) dX4_partsFrom_14 rfl (by decide) ?_
    refine r_icmp_ge (t := 34) (f := 19) dX4_partsFrom_16 (by decide) rfl (by first | omega | exact xv_in _ _ _) (by first | omega | exact xv_in _ _ _) (fun h16 => ?_) (fun h16 => ?_)
    · exfalso; omega
    · refine r_iload_n (i := 2) (pc' := 20) dX4_partsFrom_19 rfl rfl (.tail _ (.tail _ (.head _))) ?_
      refine r_aload_n (i := 0) (pc' := 21) dX4_partsFrom_20 rfl rfl (.head _) ?_
      refine r_getR (pc' := 24) dX4_partsFrom_21 rfl fX4_18 rfl (by first | assumption | rfl) (by omega) (by assumption) ?_
      refine r_iload_n (i := 3) (pc' := 25) dX4_partsFrom_24 rfl rfl (.tail _ (.tail _ (.tail _ (.head _)))) ?_
      refine r_iaload (pc' := 26) dX4_partsFrom_25 rfl (by first | assumption | rfl) (by omega) (by omega) (by omega) (by first | decide | omega) rfl ?_
      refine r_iadd (pc' := 27) dX4_partsFrom_26 rfl ?_
      refine r_istore_n (i := 2) (pc' := 28) dX4_partsFrom_27 rfl rfl rfl (.s1 (.s1 (.here (.s1 .nil rfl rfl rfl)) rfl rfl rfl) rfl rfl rfl) ?_
      refine r_iinc (pc' := 31) dX4_partsFrom_28 rfl rfl (.tail _ (.tail _ (.tail _ (.head _)))) (.s1 (.s1 (.s1 (.here .nil) rfl rfl rfl) rfl rfl rfl) rfl rfl rfl) ?_
      refine r_goto (t := 13) dX4_partsFrom_31 (by decide) ?_
      refine ih (i + 1) _ (by omega) (by omega) ?_
      rw [← hr, show (i + 1).toNat = i.toNat + 1 by omega, q_sum]; omega
set_option maxHeartbeats 4000000 in
set_option maxRecDepth 100000 in
theorem tX4_partsFrom {l : Launch} {g : q_G} {n : Nat} {P : q_P} {X : q_X} {Y : q_Y} {c : Nat} {y : Int} (hc : isCon n P c) (hf : 0 ≤ xv X c 0 ∧ xv X c 0 ≤ 19) (hy : -1 ≤ y ∧ y ≤ 40) : q_Met l g mX4_partsFrom 1 [.ref (g.1 + c), .int (zi y)] n P X Y (q_pv (.int (zi (c_from X c y))) n P X Y) := by
  obtain ⟨s0, s1, s2, s3, s4, p6, p7, p8, p9, hn⟩ := id hc
  refine q_enter (L := [(0, .ref (g.1 + c)), (1, .int (zi y))]) (by decide) (Nat.le_of_ble_eq_true rfl) rfl ?_
  refine r_iconst (pc' := 1) dX4_partsFrom_0 rfl ?_
  refine r_istore_n (i := 2) (pc' := 2) dX4_partsFrom_1 rfl rfl rfl (.s1 (.s1 .nil rfl rfl rfl) rfl rfl rfl) ?_
  refine r_iconst (pc' := 3) dX4_partsFrom_2 rfl ?_
  refine r_iload_n (i := 1) (pc' := 4) dX4_partsFrom_3 rfl rfl (.tail _ (.head _)) ?_
  refine r_aload_n (i := 0) (pc' := 5) dX4_partsFrom_4 rfl rfl (.head _) ?_
  refine r_getI (pc' := 8) dX4_partsFrom_5 rfl fX4_24 rfl (by first | assumption | rfl) (by omega) ?_
  refine r_isub (pc' := 9) dX4_partsFrom_8 rfl ?_
  refine r_max (pc' := 12) dX4_partsFrom_9 rfl lX4_57 (by decide) (Nat.le_of_ble_eq_true rfl) (by first | omega | exact xv_in _ _ _) (by first | omega | exact xv_in _ _ _) ?_
  refine r_istore_n (i := 3) (pc' := 13) dX4_partsFrom_12 rfl rfl rfl (.s1 (.s1 (.s1 .nil rfl rfl rfl) rfl rfl rfl) rfl rfl rfl) ?_
  by_cases h10 : y - xv X c 0 ≤ 10
  · exact lX4_partsFrom hc (10 - (max 0 (y - xv X c 0)).toNat) _ _ (by omega) (by omega) (by rw [c_from]; omega)
  · skip
    refine r_iload_n (i := 3) (pc' := 14) dX4_partsFrom_13 rfl rfl (.tail _ (.tail _ (.tail _ (.head _)))) ?_
    refine r_bipush (pc' := 16) dX4_partsFrom_14 rfl (by decide) ?_
    refine r_icmp_ge (t := 34) (f := 19) dX4_partsFrom_16 (by decide) rfl (by first | omega | exact xv_in _ _ _) (by first | omega | exact xv_in _ _ _) (fun h16 => ?_) (fun h16 => ?_)
    · refine r_iload_n (i := 2) (pc' := 35) dX4_partsFrom_34 rfl rfl (.tail _ (.tail _ (.head _))) ?_
      refine r_ireturn dX4_partsFrom_35 rfl ?_
      refine ⟨?_, rfl, rfl, rfl, rfl⟩
      rw [c_from, show 10 - (max 0 (y - xv X c 0)).toNat = 0 by omega]; rfl
    · exfalso; omega
set_option maxHeartbeats 4000000 in
set_option maxRecDepth 100000 in
theorem tX4_partOfMany {l : Launch} {g : q_G} {n : Nat} {P : q_P} {X : q_X} {Y : q_Y} {b ov i : Int} (hb : q_in b) (ho : q_in ov) (hi : q_in i) : q_Met l g mX4_partOfMany 1 [.int (zi b), .int (zi ov), .int (zi i)] n P X Y (q_pv (.int (zi (c_piece b ov i))) n P X Y) := by
  skip
  refine q_enter (L := [(0, .int (zi b)), (1, .int (zi ov)), (2, .int (zi i))]) (by decide) (Nat.le_of_ble_eq_true rfl) rfl ?_
  refine r_iconst (pc' := 1) dX4_partOfMany_0 rfl ?_
  refine r_iload_n (i := 1) (pc' := 2) dX4_partOfMany_1 rfl rfl (.tail _ (.head _)) ?_
  refine r_min (pc' := 5) dX4_partOfMany_2 rfl lX4_85 (by decide) (Nat.le_of_ble_eq_true rfl) (by first | omega | exact xv_in _ _ _) (by first | omega | exact xv_in _ _ _) ?_
  refine r_istore_n (i := 3) (pc' := 6) dX4_partOfMany_5 rfl rfl rfl (.s1 (.s1 (.s1 .nil rfl rfl rfl) rfl rfl rfl) rfl rfl rfl) ?_
  refine r_iload_n (i := 3) (pc' := 7) dX4_partOfMany_6 rfl rfl (.tail _ (.tail _ (.tail _ (.head _)))) ?_
  refine r_iconst (pc' := 8) dX4_partOfMany_7 rfl ?_
  refine r_icmp_lt (t := 16) (f := 11) dX4_partOfMany_8 (by decide) rfl (by first | omega | exact xv_in _ _ _) (by first | omega | exact xv_in _ _ _) (fun h8 => ?_) (fun h8 => ?_)
  · refine r_iconst (pc' := 17) dX4_partOfMany_16 rfl ?_
    refine r_ireturn dX4_partOfMany_17 rfl ?_
    refine ⟨?_, rfl, rfl, rfl, rfl⟩
    unfold c_piece
    (repeat' split) <;> first | rfl | (exfalso; omega) | (congr 3; omega)
  · refine r_iload_n (i := 2) (pc' := 12) dX4_partOfMany_11 rfl rfl (.tail _ (.tail _ (.head _))) ?_
    refine r_iload_n (i := 3) (pc' := 13) dX4_partOfMany_12 rfl rfl (.tail _ (.tail _ (.tail _ (.head _)))) ?_
    refine r_icmp_lt (t := 18) (f := 16) dX4_partOfMany_13 (by decide) rfl (by first | omega | exact xv_in _ _ _) (by first | omega | exact xv_in _ _ _) (fun h13 => ?_) (fun h13 => ?_)
    · refine r_iload_n (i := 2) (pc' := 19) dX4_partOfMany_18 rfl rfl (.tail _ (.tail _ (.head _))) ?_
      refine r_if_ne (t := 32) (f := 22) dX4_partOfMany_19 (by decide) rfl (by first | omega | exact xv_in _ _ _) (fun h19 => ?_) (fun h19 => ?_)
      · refine r_iload_n (i := 0) (pc' := 33) dX4_partOfMany_32 rfl rfl (.head _) ?_
        refine r_iload_n (i := 3) (pc' := 34) dX4_partOfMany_33 rfl rfl (.tail _ (.tail _ (.tail _ (.head _)))) ?_
        refine r_idiv (pc' := 35) dX4_partOfMany_34 rfl (by first | omega | exact xv_in _ _ _) (by first | omega | exact xv_in _ _ _) (by omega) ?_
        refine r_ireturn dX4_partOfMany_35 rfl ?_
        refine ⟨?_, rfl, rfl, rfl, rfl⟩
        unfold c_piece
        (repeat' split) <;> first | rfl | (exfalso; omega) | (congr 3; omega)
      · refine r_iload_n (i := 0) (pc' := 23) dX4_partOfMany_22 rfl rfl (.head _) ?_
        refine r_iload_n (i := 3) (pc' := 24) dX4_partOfMany_23 rfl rfl (.tail _ (.tail _ (.tail _ (.head _)))) ?_
        refine r_idiv (pc' := 25) dX4_partOfMany_24 rfl (by first | omega | exact xv_in _ _ _) (by first | omega | exact xv_in _ _ _) (by omega) ?_
        refine r_iload_n (i := 0) (pc' := 26) dX4_partOfMany_25 rfl rfl (.head _) ?_
        refine r_iload_n (i := 3) (pc' := 27) dX4_partOfMany_26 rfl rfl (.tail _ (.tail _ (.tail _ (.head _)))) ?_
        refine r_irem (pc' := 28) dX4_partOfMany_27 rfl (by first | omega | exact xv_in _ _ _) (by first | omega | exact xv_in _ _ _) (by omega) ?_
        refine r_iadd (pc' := 29) dX4_partOfMany_28 rfl ?_
        refine r_goto (t := 35) dX4_partOfMany_29 (by decide) ?_
        refine r_ireturn dX4_partOfMany_35 rfl ?_
        refine ⟨?_, rfl, rfl, rfl, rfl⟩
        unfold c_piece
        (repeat' split) <;> first | rfl | (exfalso; omega) | (congr 3; omega)
    · refine r_iconst (pc' := 17) dX4_partOfMany_16 rfl ?_
      refine r_ireturn dX4_partOfMany_17 rfl ?_
      refine ⟨?_, rfl, rfl, rfl, rfl⟩
      unfold c_piece
      (repeat' split) <;> first | rfl | (exfalso; omega) | (congr 3; omega)
set_option maxHeartbeats 4000000 in
set_option maxRecDepth 100000 in
theorem tX4_partOf {l : Launch} {g : q_G} {n : Nat} {P : q_P} {X : q_X} {Y : q_Y} {c : Nat} {b y i : Int} (hc : isCon n P c) (hb : q_in b) (hl : -1000 ≤ c_last X c ∧ c_last X c ≤ 1000) (hy : -1000 ≤ y ∧ y ≤ 1000) (hi : q_in i) : q_Met l g mX4_partOf 2 [.ref (g.1 + c), .int (zi b), .int (zi y), .int (zi i)] n P X Y (q_pv (.int (zi (c_piece b (c_last X c - y + 1) i))) n P X Y) := by
  obtain ⟨s0, s1, s2, s3, s4, p6, p7, p8, p9, hn⟩ := id hc
  refine q_enter (L := [(0, .ref (g.1 + c)), (1, .int (zi b)), (2, .int (zi y)), (3, .int (zi i))]) (by decide) (Nat.le_of_ble_eq_true rfl) rfl ?_
  refine r_iload_n (i := 1) (pc' := 1) dX4_partOf_0 rfl rfl (.tail _ (.head _)) ?_
  refine r_aload_n (i := 0) (pc' := 2) dX4_partOf_1 rfl rfl (.head _) ?_
  refine r_V0p (ci := 4) (pc' := 5) dX4_partOf_2 rfl lX4_77 rfl (by decide) (Nat.le_of_ble_eq_true rfl) (by first | assumption | rfl) (by omega) (tX4_lastYear (by assumption)) ?_
  refine r_iload_n (i := 2) (pc' := 6) dX4_partOf_5 rfl rfl (.tail _ (.tail _ (.head _))) ?_
  refine r_isub (pc' := 7) dX4_partOf_6 rfl ?_
  refine r_iconst (pc' := 8) dX4_partOf_7 rfl ?_
  refine r_iadd (pc' := 9) dX4_partOf_8 rfl ?_
  refine r_iload_n (i := 3) (pc' := 10) dX4_partOf_9 rfl rfl (.tail _ (.tail _ (.tail _ (.head _)))) ?_
  refine r_S3p (pc' := 13) dX4_partOf_10 rfl lX4_81 (by decide) (Nat.le_of_ble_eq_true rfl) (tX4_partOfMany (by omega) (by omega) (by omega)) ?_
  refine r_ireturn dX4_partOf_13 rfl ?_
  refine ⟨?_, rfl, rfl, rfl, rfl⟩
  (repeat' split) <;> first | rfl | (exfalso; omega) | (congr 3; omega)
set_option maxHeartbeats 4000000 in
set_option maxRecDepth 100000 in
theorem tX4_putPay {l : Launch} {g : q_G} {n : Nat} {P : q_P} {X : q_X} {Y : q_Y} {c : Nat} {i b r : Int} (hc : isCon n P c) (hi : q_in i) : q_Met l g mX4_putPay 0 [.ref (g.1 + c), .int (zi i), .int (zi b), .int (zi r)] n P X Y (q_gv (fun n' P' X' Y' => n' = n ∧ P' = P ∧ Y' = Y ∧ X' = c_put X c i b r)) := by
  obtain ⟨s0, s1, s2, s3, s4, p6, p7, p8, p9, hn⟩ := id hc
  refine q_enter (L := [(0, .ref (g.1 + c)), (1, .int (zi i)), (2, .int (zi b)), (3, .int (zi r))]) (by decide) (Nat.le_of_ble_eq_true rfl) rfl ?_
  refine r_iload_n (i := 1) (pc' := 1) dX4_putPay_0 rfl rfl (.tail _ (.head _)) ?_
  refine r_if_lt (t := 24) (f := 4) dX4_putPay_1 (by decide) rfl (by first | omega | exact xv_in _ _ _) (fun h1 => ?_) (fun h1 => ?_)
  · refine r_return dX4_putPay_24 rfl ?_
    refine ⟨rfl, rfl, rfl, rfl, ?_⟩
    unfold c_put; split <;> first | rfl | (exfalso; omega)
  · refine r_iload_n (i := 1) (pc' := 5) dX4_putPay_4 rfl rfl (.tail _ (.head _)) ?_
    refine r_bipush (pc' := 7) dX4_putPay_5 rfl (by decide) ?_
    refine r_icmp_ge (t := 24) (f := 10) dX4_putPay_7 (by decide) rfl (by first | omega | exact xv_in _ _ _) (by first | omega | exact xv_in _ _ _) (fun h7 => ?_) (fun h7 => ?_)
    · refine r_return dX4_putPay_24 rfl ?_
      refine ⟨rfl, rfl, rfl, rfl, ?_⟩
      unfold c_put; split <;> first | rfl | (exfalso; omega)
    · refine r_aload_n (i := 0) (pc' := 11) dX4_putPay_10 rfl rfl (.head _) ?_
      refine r_getR (pc' := 14) dX4_putPay_11 rfl fX4_11 rfl (by first | assumption | rfl) (by omega) (by assumption) ?_
      refine r_iload_n (i := 1) (pc' := 15) dX4_putPay_14 rfl rfl (.tail _ (.head _)) ?_
      refine r_iload_n (i := 2) (pc' := 16) dX4_putPay_15 rfl rfl (.tail _ (.tail _ (.head _))) ?_
      refine r_iastore (pc' := 17) dX4_putPay_16 rfl (by first | assumption | rfl) (by omega) (by omega) (by omega) (by first | decide | omega) rfl ?_
      refine r_aload_n (i := 0) (pc' := 18) dX4_putPay_17 rfl rfl (.head _) ?_
      refine r_getR (pc' := 21) dX4_putPay_18 rfl fX4_15 rfl (by first | assumption | rfl) (by omega) (by assumption) ?_
      refine r_iload_n (i := 1) (pc' := 22) dX4_putPay_21 rfl rfl (.tail _ (.head _)) ?_
      refine r_iload_n (i := 3) (pc' := 23) dX4_putPay_22 rfl rfl (.tail _ (.tail _ (.tail _ (.head _)))) ?_
      refine r_iastore (pc' := 24) dX4_putPay_23 rfl (by first | assumption | rfl) (by omega) (by omega) (by omega) (by first | decide | omega) rfl ?_
      refine r_return dX4_putPay_24 rfl ?_
      refine ⟨rfl, rfl, rfl, rfl, ?_⟩
      unfold c_put; split <;> first | rfl | (exfalso; omega)
set_option maxHeartbeats 4000000 in
set_option maxRecDepth 100000 in
theorem tX4_takeFromBase {l : Launch} {g : q_G} {n : Nat} {P : q_P} {X : q_X} {Y : q_Y} {c : Nat} {y x : Int} (hc : isCon n P c) (hf : 0 ≤ xv X c 0 ∧ xv X c 0 ≤ 19) (hy : -1 ≤ y ∧ y ≤ 40) : q_Met l g mX4_takeFromBase 1 [.ref (g.1 + c), .int (zi y), .int (zi x)] n P X Y (q_gv (fun n' P' X' Y' => n' = n ∧ P' = P ∧ Y' = Y ∧ X' = if c_plays X c y then q_up X (c + 1) (y - xv X c 0).toNat (zi (xv X (c + 1) (y - xv X c 0).toNat - x)) else X)) := by
  obtain ⟨s0, s1, s2, s3, s4, p6, p7, p8, p9, hn⟩ := id hc
  refine q_enter (L := [(0, .ref (g.1 + c)), (1, .int (zi y)), (2, .int (zi x))]) (by decide) (Nat.le_of_ble_eq_true rfl) rfl ?_
  refine r_aload_n (i := 0) (pc' := 1) dX4_takeFromBase_0 rfl rfl (.head _) ?_
  refine r_iload_n (i := 1) (pc' := 2) dX4_takeFromBase_1 rfl rfl (.tail _ (.head _)) ?_
  refine r_V1p (ci := 4) (pc' := 5) dX4_takeFromBase_2 rfl lX4_53 rfl (by decide) (Nat.le_of_ble_eq_true rfl) (by first | assumption | rfl) (by omega) (tX4_plays (by assumption) (by assumption) (by omega)) ?_
  refine r_bif_eq (t := 23) (f := 8) dX4_takeFromBase_5 (by decide) rfl (fun h5 => ?_) (fun h5 => ?_)
  · refine r_return dX4_takeFromBase_23 rfl ?_
    refine ⟨rfl, rfl, rfl, rfl, ?_⟩
    split <;> first | rfl | (exfalso; omega)
  · refine r_aload_n (i := 0) (pc' := 9) dX4_takeFromBase_8 rfl rfl (.head _) ?_
    refine r_getR (pc' := 12) dX4_takeFromBase_9 rfl fX4_11 rfl (by first | assumption | rfl) (by omega) (by assumption) ?_
    refine r_iload_n (i := 1) (pc' := 13) dX4_takeFromBase_12 rfl rfl (.tail _ (.head _)) ?_
    refine r_aload_n (i := 0) (pc' := 14) dX4_takeFromBase_13 rfl rfl (.head _) ?_
    refine r_getI (pc' := 17) dX4_takeFromBase_14 rfl fX4_24 rfl (by first | assumption | rfl) (by omega) ?_
    refine r_isub (pc' := 18) dX4_takeFromBase_17 rfl ?_
    refine r_dup2 (pc' := 19) dX4_takeFromBase_18 rfl rfl rfl ?_
    refine r_iaload (pc' := 20) dX4_takeFromBase_19 rfl (by first | assumption | rfl) (by omega) (by omega) (by omega) (by first | decide | omega) rfl ?_
    refine r_iload_n (i := 2) (pc' := 21) dX4_takeFromBase_20 rfl rfl (.tail _ (.tail _ (.head _))) ?_
    refine r_isub (pc' := 22) dX4_takeFromBase_21 rfl ?_
    refine r_iastore (pc' := 23) dX4_takeFromBase_22 rfl (by first | assumption | rfl) (by omega) (by omega) (by omega) (by first | decide | omega) rfl ?_
    refine r_return dX4_takeFromBase_23 rfl ?_
    refine ⟨rfl, rfl, rfl, rfl, ?_⟩
    split <;> first | rfl | (exfalso; omega)
