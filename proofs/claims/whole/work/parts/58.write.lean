/-! numbers as texts -/
def un : Nat → Int
  | 0 => 0
  | 1 => 1
  | k + 2 => 10 * un (k + 1)
theorem un_b {k : Nat} (h : k < 6) : 1 ≤ un (k + 1) ∧ un (k + 1) ≤ 100000 ∧ (un (k + 1)).tdiv 10 = un k := by
  have : k = 0 ∨ k = 1 ∨ k = 2 ∨ k = 3 ∨ k = 4 ∨ k = 5 := by omega
  rcases this with e | e | e | e | e | e <;> subst e <;> decide
def nd (v : Int) : Nat := if v < 10 then 1 else if v < 100 then 2 else if v < 1000 then 3 else if v < 10000 then 4 else if v < 100000 then 5 else 6
def b_digs (X : q_X) (o N : Nat) (v : Int) : Nat → q_X
  | 0 => X
  | k + 1 => b_digs (b_add X o N (48 + (v.tdiv (un (k + 1))).tmod 10)) o N v k
def b_num (X : q_X) (o N : Nat) (v : Int) : q_X := b_digs X o N v (nd v)
theorem b_add_o {X : q_X} {o N : Nat} {v : Int} {i : Nat} (h : i ≠ o ∧ i ≠ o + 1) : xv (b_add X o N v) i = xv X i := by
  unfold b_add; split
  · rw [xv_up_row _ _ _ h.1, xv_up_row _ _ _ h.2]
  · rfl
theorem b_digs_o {o N : Nat} {v : Int} {i : Nat} (h : i ≠ o ∧ i ≠ o + 1) : ∀ (k : Nat) (X : q_X), xv (b_digs X o N v k) i = xv X i
  | 0, _ => rfl
  | k + 1, X => by rw [b_digs, b_digs_o h k, b_add_o h]
theorem b_num_o {X : q_X} {o N : Nat} {v : Int} {i : Nat} (h : i ≠ o ∧ i ≠ o + 1) : xv (b_num X o N v) i = xv X i := b_digs_o h _ _
def wr_h (X : q_X) (b : Nat) : q_X := b_add (b_num (b_add (b_add (b_num (b_add (b_add (b_num (b_add (b_num (b_add (b_num (b_add (q_up X 447 1 (zi 0)) 447 256 100) 447 256 (xv X b 2)) 447 256 44) 447 256 (xv X b 3)) 447 256 44) 447 256 (xv X b 4)) 447 256 59) 447 256 99) 447 256 (xv X b 5)) 447 256 59) 447 256 109) 447 256 (xv X b 6)) 447 256 59
def wr_l (W : q_X) (b : Nat) : Nat → q_X
  | 0 => W
  | y + 1 => b_add (b_num (b_add (b_num (b_add (wr_l W b y) 447 256 108) 447 256 y) 447 256 44) 447 256 (xv W (b + 1) y)) 447 256 59
theorem wr_l_o {W : q_X} {b : Nat} {i : Nat} (h : i ≠ 447 ∧ i ≠ 447 + 1) : ∀ y, xv (wr_l W b y) i = xv W i
  | 0 => rfl
  | y + 1 => by rw [wr_l, b_add_o h, b_num_o h, b_add_o h, b_num_o h, b_add_o h, wr_l_o h y]
theorem wr_h_o {X : q_X} {b : Nat} {i : Nat} (h : i ≠ 447 ∧ i ≠ 447 + 1) : xv (wr_h X b) i = xv X i := by
  unfold wr_h
  rw [b_add_o h, b_num_o h, b_add_o h, b_add_o h, b_num_o h, b_add_o h, b_add_o h, b_num_o h, b_add_o h, b_num_o h, b_add_o h, b_num_o h, b_add_o h, xv_up_row _ _ _ h.1]
set_option maxHeartbeats 4000000 in
set_option maxRecDepth 100000 in
theorem l2X2_addNumber {l : Launch} {g : q_G} {n : Nat} {P : q_P} {Y : q_Y} {o N : Nat} {v : Int} (hb : isByt n P o N) (hv : 0 ≤ v ∧ v ≤ 999999) {X0 : q_X} : ∀ (k i : Nat) (X : q_X), i + k ≤ 6 → b_digs X o N v k = X0 → q_Tr l g mX2_addNumber 1 (q_gv (fun n' P' X' Y' => n' = n ∧ P' = P ∧ Y' = Y ∧ X' = X0)) 43 [(0, .ref (g.1 + o)), (1, .int (zi v)), (2, .int (zi (un k))), (3, .int (zi ((i : Int))))] [] n P X Y := by
  obtain ⟨s0, s1, p0, hn, hN⟩ := id hb
  intro k
  induction k with
  | zero =>
    intro i X hi he
    have hu : un 0 = 0 := rfl
    refine r_iload_n (i := 3) (pc' := 44) dX2_addNumber_43 rfl rfl (.tail _ (.tail _ (.tail _ (.head _)))) ?_
    refine r_bipush (pc' := 46) dX2_addNumber_44 rfl (by decide) ?_
    refine r_icmp_ge (t := 77) (f := 49) dX2_addNumber_46 (by decide) rfl (by first | omega | exact xv_in _ _ _) (by first | omega | exact xv_in _ _ _) (fun h46 => ?_) (fun h46 => ?_)
    · refine r_return dX2_addNumber_77 rfl ?_
      exact ⟨rfl, rfl, rfl, rfl, he⟩
    · refine r_iload_n (i := 2) (pc' := 50) dX2_addNumber_49 rfl rfl (.tail _ (.tail _ (.head _))) ?_
      refine r_if_le (t := 77) (f := 53) dX2_addNumber_50 (by decide) rfl (by first | omega | exact xv_in _ _ _) (fun h50 => ?_) (fun h50 => ?_)
      · refine r_return dX2_addNumber_77 rfl ?_
        exact ⟨rfl, rfl, rfl, rfl, he⟩
      · exfalso; omega
  | succ k ih =>
    intro i X hi he
    obtain ⟨u1, u2, u3⟩ := un_b (k := k) (by omega)
    have hq : 0 ≤ v.tdiv (un (k + 1)) ∧ v.tdiv (un (k + 1)) ≤ v := by
      rw [Int.tdiv_eq_ediv_of_nonneg hv.1]
      exact ⟨Int.ediv_nonneg hv.1 (by omega), Int.ediv_le_self _ hv.1⟩
    refine r_iload_n (i := 3) (pc' := 44) dX2_addNumber_43 rfl rfl (.tail _ (.tail _ (.tail _ (.head _)))) ?_
    refine r_bipush (pc' := 46) dX2_addNumber_44 rfl (by decide) ?_
    refine r_icmp_ge (t := 77) (f := 49) dX2_addNumber_46 (by decide) rfl (by first | omega | exact xv_in _ _ _) (by first | omega | exact xv_in _ _ _) (fun h46 => ?_) (fun h46 => ?_)
    · exfalso; omega
    · refine r_iload_n (i := 2) (pc' := 50) dX2_addNumber_49 rfl rfl (.tail _ (.tail _ (.head _))) ?_
      refine r_if_le (t := 77) (f := 53) dX2_addNumber_50 (by decide) rfl (by first | omega | exact xv_in _ _ _) (fun h50 => ?_) (fun h50 => ?_)
      · exfalso; omega
      · refine r_aload_n (i := 0) (pc' := 54) dX2_addNumber_53 rfl rfl (.head _) ?_
        refine r_bipush (pc' := 56) dX2_addNumber_54 rfl (by decide) ?_
        refine r_iload_n (i := 1) (pc' := 57) dX2_addNumber_56 rfl rfl (.tail _ (.head _)) ?_
        refine r_iload_n (i := 2) (pc' := 58) dX2_addNumber_57 rfl rfl (.tail _ (.tail _ (.head _))) ?_
        refine r_idiv (pc' := 59) dX2_addNumber_58 rfl (by first | omega | exact xv_in _ _ _) (by first | omega | exact xv_in _ _ _) (by omega) ?_
        refine r_bipush (pc' := 61) dX2_addNumber_59 rfl (by decide) ?_
        refine r_irem (pc' := 62) dX2_addNumber_61 rfl (by first | omega | exact xv_in _ _ _) (by first | omega | exact xv_in _ _ _) (by omega) ?_
        refine r_iadd (pc' := 63) dX2_addNumber_62 rfl ?_
        refine r_V1gv (ci := 2) (pc' := 66) dX2_addNumber_63 rfl lX2_25 rfl (by decide) (Nat.le_of_ble_eq_true rfl) (by first | assumption | rfl) (by omega) (tX2_add (by assumption)) (fun n63 P63 X63 Y63 e63 le63 => ?_)
        obtain ⟨rfl, rfl, rfl, rfl⟩ := e63
        refine r_iload_n (i := 2) (pc' := 67) dX2_addNumber_66 rfl rfl (.tail _ (.tail _ (.head _))) ?_
        refine r_bipush (pc' := 69) dX2_addNumber_67 rfl (by decide) ?_
        refine r_idiv (pc' := 70) dX2_addNumber_69 rfl (by first | omega | exact xv_in _ _ _) (by first | omega | exact xv_in _ _ _) (by omega) ?_
        refine r_istore_n (i := 2) (pc' := 71) dX2_addNumber_70 rfl rfl rfl (.s1 (.s1 (.here (.s1 .nil rfl rfl rfl)) rfl rfl rfl) rfl rfl rfl) ?_
        refine r_iinc (pc' := 74) dX2_addNumber_71 rfl rfl (.tail _ (.tail _ (.tail _ (.head _)))) (.s1 (.s1 (.s1 (.here .nil) rfl rfl rfl) rfl rfl rfl) rfl rfl rfl) ?_
        refine r_goto (t := 43) dX2_addNumber_74 (by decide) ?_
        rw [u3]
        exact ih (i + 1) _ (by omega) he
set_option maxHeartbeats 4000000 in
set_option maxRecDepth 100000 in
theorem u4X2_addNumber {l : Launch} {g : q_G} {n : Nat} {P : q_P} {X : q_X} {Y : q_Y} {o N : Nat} {v : Int} (hb : isByt n P o N) (hv : 10 ≤ v ∧ v < 100) : q_Tr l g mX2_addNumber 1 (q_gv (fun n' P' X' Y' => n' = n ∧ P' = P ∧ Y' = Y ∧ X' = b_num X o N v)) 20 [(0, .ref (g.1 + o)), (1, .int (zi v)), (2, .int (zi (10))), (3, .int (zi (4)))] [] n P X Y := by
  obtain ⟨s0, s1, p0, hn, hN⟩ := id hb
  refine r_iload_n (i := 3) (pc' := 21) dX2_addNumber_20 rfl rfl (.tail _ (.tail _ (.tail _ (.head _)))) ?_
  refine r_iconst (pc' := 22) dX2_addNumber_21 rfl ?_
  refine r_icmp_ge (t := 41) (f := 25) dX2_addNumber_22 (by decide) rfl (by first | omega | exact xv_in _ _ _) (by first | omega | exact xv_in _ _ _) (fun h22 => ?_) (fun h22 => ?_)
  · exfalso; omega
  · refine r_iload_n (i := 2) (pc' := 26) dX2_addNumber_25 rfl rfl (.tail _ (.tail _ (.head _))) ?_
    refine r_iload_n (i := 1) (pc' := 27) dX2_addNumber_26 rfl rfl (.tail _ (.head _)) ?_
    refine r_icmp_le (t := 41) (f := 30) dX2_addNumber_27 (by decide) rfl (by first | omega | exact xv_in _ _ _) (by first | omega | exact xv_in _ _ _) (fun h27 => ?_) (fun h27 => ?_)
    · have hnd : nd v = 2 := by unfold nd; (repeat' split) <;> omega
      refine r_iconst (pc' := 42) dX2_addNumber_41 rfl ?_
      refine r_istore_n (i := 3) (pc' := 43) dX2_addNumber_42 rfl rfl rfl (.s1 (.s1 (.s1 (.here .nil) rfl rfl rfl) rfl rfl rfl) rfl rfl rfl) ?_
      rw [show (10 : Int) = un 2 from by decide]
      exact l2X2_addNumber hb (by omega) 2 0 _ (by omega) (by rw [b_num, hnd])
    · exfalso; omega
set_option maxHeartbeats 4000000 in
set_option maxRecDepth 100000 in
theorem u3X2_addNumber {l : Launch} {g : q_G} {n : Nat} {P : q_P} {X : q_X} {Y : q_Y} {o N : Nat} {v : Int} (hb : isByt n P o N) (hv : 10 ≤ v ∧ v < 1000) : q_Tr l g mX2_addNumber 1 (q_gv (fun n' P' X' Y' => n' = n ∧ P' = P ∧ Y' = Y ∧ X' = b_num X o N v)) 20 [(0, .ref (g.1 + o)), (1, .int (zi v)), (2, .int (zi (100))), (3, .int (zi (3)))] [] n P X Y := by
  obtain ⟨s0, s1, p0, hn, hN⟩ := id hb
  refine r_iload_n (i := 3) (pc' := 21) dX2_addNumber_20 rfl rfl (.tail _ (.tail _ (.tail _ (.head _)))) ?_
  refine r_iconst (pc' := 22) dX2_addNumber_21 rfl ?_
  refine r_icmp_ge (t := 41) (f := 25) dX2_addNumber_22 (by decide) rfl (by first | omega | exact xv_in _ _ _) (by first | omega | exact xv_in _ _ _) (fun h22 => ?_) (fun h22 => ?_)
  · exfalso; omega
  · refine r_iload_n (i := 2) (pc' := 26) dX2_addNumber_25 rfl rfl (.tail _ (.tail _ (.head _))) ?_
    refine r_iload_n (i := 1) (pc' := 27) dX2_addNumber_26 rfl rfl (.tail _ (.head _)) ?_
    refine r_icmp_le (t := 41) (f := 30) dX2_addNumber_27 (by decide) rfl (by first | omega | exact xv_in _ _ _) (by first | omega | exact xv_in _ _ _) (fun h27 => ?_) (fun h27 => ?_)
    · have hnd : nd v = 3 := by unfold nd; (repeat' split) <;> omega
      refine r_iconst (pc' := 42) dX2_addNumber_41 rfl ?_
      refine r_istore_n (i := 3) (pc' := 43) dX2_addNumber_42 rfl rfl rfl (.s1 (.s1 (.s1 (.here .nil) rfl rfl rfl) rfl rfl rfl) rfl rfl rfl) ?_
      rw [show (100 : Int) = un 3 from by decide]
      exact l2X2_addNumber hb (by omega) 3 0 _ (by omega) (by rw [b_num, hnd])
    · refine r_iload_n (i := 2) (pc' := 31) dX2_addNumber_30 rfl rfl (.tail _ (.tail _ (.head _))) ?_
      refine r_bipush (pc' := 33) dX2_addNumber_31 rfl (by decide) ?_
      refine r_idiv (pc' := 34) dX2_addNumber_33 rfl (by first | omega | exact xv_in _ _ _) (by first | omega | exact xv_in _ _ _) (by omega) ?_
      refine r_istore_n (i := 2) (pc' := 35) dX2_addNumber_34 rfl rfl rfl (.s1 (.s1 (.here (.s1 .nil rfl rfl rfl)) rfl rfl rfl) rfl rfl rfl) ?_
      refine r_iinc (pc' := 38) dX2_addNumber_35 rfl rfl (.tail _ (.tail _ (.tail _ (.head _)))) (.s1 (.s1 (.s1 (.here .nil) rfl rfl rfl) rfl rfl rfl) rfl rfl rfl) ?_
      refine r_goto (t := 20) dX2_addNumber_38 (by decide) ?_
      rw [show Int.tdiv 100 10 = 10 from by decide, show ((3 : Int) + 1) = 4 from by decide]
      exact u4X2_addNumber hb (by omega)
set_option maxHeartbeats 4000000 in
set_option maxRecDepth 100000 in
theorem u2X2_addNumber {l : Launch} {g : q_G} {n : Nat} {P : q_P} {X : q_X} {Y : q_Y} {o N : Nat} {v : Int} (hb : isByt n P o N) (hv : 10 ≤ v ∧ v < 10000) : q_Tr l g mX2_addNumber 1 (q_gv (fun n' P' X' Y' => n' = n ∧ P' = P ∧ Y' = Y ∧ X' = b_num X o N v)) 20 [(0, .ref (g.1 + o)), (1, .int (zi v)), (2, .int (zi (1000))), (3, .int (zi (2)))] [] n P X Y := by
  obtain ⟨s0, s1, p0, hn, hN⟩ := id hb
  refine r_iload_n (i := 3) (pc' := 21) dX2_addNumber_20 rfl rfl (.tail _ (.tail _ (.tail _ (.head _)))) ?_
  refine r_iconst (pc' := 22) dX2_addNumber_21 rfl ?_
  refine r_icmp_ge (t := 41) (f := 25) dX2_addNumber_22 (by decide) rfl (by first | omega | exact xv_in _ _ _) (by first | omega | exact xv_in _ _ _) (fun h22 => ?_) (fun h22 => ?_)
  · exfalso; omega
  · refine r_iload_n (i := 2) (pc' := 26) dX2_addNumber_25 rfl rfl (.tail _ (.tail _ (.head _))) ?_
    refine r_iload_n (i := 1) (pc' := 27) dX2_addNumber_26 rfl rfl (.tail _ (.head _)) ?_
    refine r_icmp_le (t := 41) (f := 30) dX2_addNumber_27 (by decide) rfl (by first | omega | exact xv_in _ _ _) (by first | omega | exact xv_in _ _ _) (fun h27 => ?_) (fun h27 => ?_)
    · have hnd : nd v = 4 := by unfold nd; (repeat' split) <;> omega
      refine r_iconst (pc' := 42) dX2_addNumber_41 rfl ?_
      refine r_istore_n (i := 3) (pc' := 43) dX2_addNumber_42 rfl rfl rfl (.s1 (.s1 (.s1 (.here .nil) rfl rfl rfl) rfl rfl rfl) rfl rfl rfl) ?_
      rw [show (1000 : Int) = un 4 from by decide]
      exact l2X2_addNumber hb (by omega) 4 0 _ (by omega) (by rw [b_num, hnd])
    · refine r_iload_n (i := 2) (pc' := 31) dX2_addNumber_30 rfl rfl (.tail _ (.tail _ (.head _))) ?_
      refine r_bipush (pc' := 33) dX2_addNumber_31 rfl (by decide) ?_
      refine r_idiv (pc' := 34) dX2_addNumber_33 rfl (by first | omega | exact xv_in _ _ _) (by first | omega | exact xv_in _ _ _) (by omega) ?_
      refine r_istore_n (i := 2) (pc' := 35) dX2_addNumber_34 rfl rfl rfl (.s1 (.s1 (.here (.s1 .nil rfl rfl rfl)) rfl rfl rfl) rfl rfl rfl) ?_
      refine r_iinc (pc' := 38) dX2_addNumber_35 rfl rfl (.tail _ (.tail _ (.tail _ (.head _)))) (.s1 (.s1 (.s1 (.here .nil) rfl rfl rfl) rfl rfl rfl) rfl rfl rfl) ?_
      refine r_goto (t := 20) dX2_addNumber_38 (by decide) ?_
      rw [show Int.tdiv 1000 10 = 100 from by decide, show ((2 : Int) + 1) = 3 from by decide]
      exact u3X2_addNumber hb (by omega)
set_option maxHeartbeats 4000000 in
set_option maxRecDepth 100000 in
theorem u1X2_addNumber {l : Launch} {g : q_G} {n : Nat} {P : q_P} {X : q_X} {Y : q_Y} {o N : Nat} {v : Int} (hb : isByt n P o N) (hv : 10 ≤ v ∧ v < 100000) : q_Tr l g mX2_addNumber 1 (q_gv (fun n' P' X' Y' => n' = n ∧ P' = P ∧ Y' = Y ∧ X' = b_num X o N v)) 20 [(0, .ref (g.1 + o)), (1, .int (zi v)), (2, .int (zi (10000))), (3, .int (zi (1)))] [] n P X Y := by
  obtain ⟨s0, s1, p0, hn, hN⟩ := id hb
  refine r_iload_n (i := 3) (pc' := 21) dX2_addNumber_20 rfl rfl (.tail _ (.tail _ (.tail _ (.head _)))) ?_
  refine r_iconst (pc' := 22) dX2_addNumber_21 rfl ?_
  refine r_icmp_ge (t := 41) (f := 25) dX2_addNumber_22 (by decide) rfl (by first | omega | exact xv_in _ _ _) (by first | omega | exact xv_in _ _ _) (fun h22 => ?_) (fun h22 => ?_)
  · exfalso; omega
  · refine r_iload_n (i := 2) (pc' := 26) dX2_addNumber_25 rfl rfl (.tail _ (.tail _ (.head _))) ?_
    refine r_iload_n (i := 1) (pc' := 27) dX2_addNumber_26 rfl rfl (.tail _ (.head _)) ?_
    refine r_icmp_le (t := 41) (f := 30) dX2_addNumber_27 (by decide) rfl (by first | omega | exact xv_in _ _ _) (by first | omega | exact xv_in _ _ _) (fun h27 => ?_) (fun h27 => ?_)
    · have hnd : nd v = 5 := by unfold nd; (repeat' split) <;> omega
      refine r_iconst (pc' := 42) dX2_addNumber_41 rfl ?_
      refine r_istore_n (i := 3) (pc' := 43) dX2_addNumber_42 rfl rfl rfl (.s1 (.s1 (.s1 (.here .nil) rfl rfl rfl) rfl rfl rfl) rfl rfl rfl) ?_
      rw [show (10000 : Int) = un 5 from by decide]
      exact l2X2_addNumber hb (by omega) 5 0 _ (by omega) (by rw [b_num, hnd])
    · refine r_iload_n (i := 2) (pc' := 31) dX2_addNumber_30 rfl rfl (.tail _ (.tail _ (.head _))) ?_
      refine r_bipush (pc' := 33) dX2_addNumber_31 rfl (by decide) ?_
      refine r_idiv (pc' := 34) dX2_addNumber_33 rfl (by first | omega | exact xv_in _ _ _) (by first | omega | exact xv_in _ _ _) (by omega) ?_
      refine r_istore_n (i := 2) (pc' := 35) dX2_addNumber_34 rfl rfl rfl (.s1 (.s1 (.here (.s1 .nil rfl rfl rfl)) rfl rfl rfl) rfl rfl rfl) ?_
      refine r_iinc (pc' := 38) dX2_addNumber_35 rfl rfl (.tail _ (.tail _ (.tail _ (.head _)))) (.s1 (.s1 (.s1 (.here .nil) rfl rfl rfl) rfl rfl rfl) rfl rfl rfl) ?_
      refine r_goto (t := 20) dX2_addNumber_38 (by decide) ?_
      rw [show Int.tdiv 10000 10 = 1000 from by decide, show ((1 : Int) + 1) = 2 from by decide]
      exact u2X2_addNumber hb (by omega)
set_option maxHeartbeats 4000000 in
set_option maxRecDepth 100000 in
theorem u0X2_addNumber {l : Launch} {g : q_G} {n : Nat} {P : q_P} {X : q_X} {Y : q_Y} {o N : Nat} {v : Int} (hb : isByt n P o N) (hv : 10 ≤ v ∧ v < 1000000) : q_Tr l g mX2_addNumber 1 (q_gv (fun n' P' X' Y' => n' = n ∧ P' = P ∧ Y' = Y ∧ X' = b_num X o N v)) 20 [(0, .ref (g.1 + o)), (1, .int (zi v)), (2, .int (zi (100000))), (3, .int (zi (0)))] [] n P X Y := by
  obtain ⟨s0, s1, p0, hn, hN⟩ := id hb
  refine r_iload_n (i := 3) (pc' := 21) dX2_addNumber_20 rfl rfl (.tail _ (.tail _ (.tail _ (.head _)))) ?_
  refine r_iconst (pc' := 22) dX2_addNumber_21 rfl ?_
  refine r_icmp_ge (t := 41) (f := 25) dX2_addNumber_22 (by decide) rfl (by first | omega | exact xv_in _ _ _) (by first | omega | exact xv_in _ _ _) (fun h22 => ?_) (fun h22 => ?_)
  · exfalso; omega
  · refine r_iload_n (i := 2) (pc' := 26) dX2_addNumber_25 rfl rfl (.tail _ (.tail _ (.head _))) ?_
    refine r_iload_n (i := 1) (pc' := 27) dX2_addNumber_26 rfl rfl (.tail _ (.head _)) ?_
    refine r_icmp_le (t := 41) (f := 30) dX2_addNumber_27 (by decide) rfl (by first | omega | exact xv_in _ _ _) (by first | omega | exact xv_in _ _ _) (fun h27 => ?_) (fun h27 => ?_)
    · have hnd : nd v = 6 := by unfold nd; (repeat' split) <;> omega
      refine r_iconst (pc' := 42) dX2_addNumber_41 rfl ?_
      refine r_istore_n (i := 3) (pc' := 43) dX2_addNumber_42 rfl rfl rfl (.s1 (.s1 (.s1 (.here .nil) rfl rfl rfl) rfl rfl rfl) rfl rfl rfl) ?_
      rw [show (100000 : Int) = un 6 from by decide]
      exact l2X2_addNumber hb (by omega) 6 0 _ (by omega) (by rw [b_num, hnd])
    · refine r_iload_n (i := 2) (pc' := 31) dX2_addNumber_30 rfl rfl (.tail _ (.tail _ (.head _))) ?_
      refine r_bipush (pc' := 33) dX2_addNumber_31 rfl (by decide) ?_
      refine r_idiv (pc' := 34) dX2_addNumber_33 rfl (by first | omega | exact xv_in _ _ _) (by first | omega | exact xv_in _ _ _) (by omega) ?_
      refine r_istore_n (i := 2) (pc' := 35) dX2_addNumber_34 rfl rfl rfl (.s1 (.s1 (.here (.s1 .nil rfl rfl rfl)) rfl rfl rfl) rfl rfl rfl) ?_
      refine r_iinc (pc' := 38) dX2_addNumber_35 rfl rfl (.tail _ (.tail _ (.tail _ (.head _)))) (.s1 (.s1 (.s1 (.here .nil) rfl rfl rfl) rfl rfl rfl) rfl rfl rfl) ?_
      refine r_goto (t := 20) dX2_addNumber_38 (by decide) ?_
      rw [show Int.tdiv 100000 10 = 10000 from by decide, show ((0 : Int) + 1) = 1 from by decide]
      exact u1X2_addNumber hb (by omega)
set_option maxHeartbeats 4000000 in
set_option maxRecDepth 100000 in
theorem tX2_addNumber {l : Launch} {g : q_G} {n : Nat} {P : q_P} {X : q_X} {Y : q_Y} {o N : Nat} {v : Int} (hb : isByt n P o N) (hv : 0 ≤ v ∧ v ≤ 999999) : q_Met l g mX2_addNumber 1 [.ref (g.1 + o), .int (zi v)] n P X Y (q_gv (fun n' P' X' Y' => n' = n ∧ P' = P ∧ Y' = Y ∧ X' = b_num X o N v)) := by
  obtain ⟨s0, s1, p0, hn, hN⟩ := id hb
  refine q_enter (L := [(0, .ref (g.1 + o)), (1, .int (zi v))]) (by decide) (Nat.le_of_ble_eq_true rfl) rfl ?_
  refine r_iload_n (i := 1) (pc' := 1) dX2_addNumber_0 rfl rfl (.tail _ (.head _)) ?_
  refine r_bipush (pc' := 3) dX2_addNumber_1 rfl (by decide) ?_
  refine r_icmp_ge (t := 15) (f := 6) dX2_addNumber_3 (by decide) rfl (by first | omega | exact xv_in _ _ _) (by first | omega | exact xv_in _ _ _) (fun h3 => ?_) (fun h3 => ?_)
  · refine r_ldc (pc' := 17) dX2_addNumber_15 rfl kX2_29 ?_
    refine r_istore_n (i := 2) (pc' := 18) dX2_addNumber_17 rfl rfl rfl (.s1 (.s1 .nil rfl rfl rfl) rfl rfl rfl) ?_
    refine r_iconst (pc' := 19) dX2_addNumber_18 rfl ?_
    refine r_istore_n (i := 3) (pc' := 20) dX2_addNumber_19 rfl rfl rfl (.s1 (.s1 (.s1 .nil rfl rfl rfl) rfl rfl rfl) rfl rfl rfl) ?_
    exact u0X2_addNumber hb (by omega)
  · refine r_aload_n (i := 0) (pc' := 7) dX2_addNumber_6 rfl rfl (.head _) ?_
    refine r_bipush (pc' := 9) dX2_addNumber_7 rfl (by decide) ?_
    refine r_iload_n (i := 1) (pc' := 10) dX2_addNumber_9 rfl rfl (.tail _ (.head _)) ?_
    refine r_iadd (pc' := 11) dX2_addNumber_10 rfl ?_
    refine r_V1gv (ci := 2) (pc' := 14) dX2_addNumber_11 rfl lX2_25 rfl (by decide) (Nat.le_of_ble_eq_true rfl) (by first | assumption | rfl) (by omega) (tX2_add (by assumption)) (fun n11 P11 X11 Y11 e11 le11 => ?_)
    obtain ⟨rfl, rfl, rfl, rfl⟩ := e11
    refine r_return dX2_addNumber_14 rfl ?_
    refine ⟨rfl, rfl, rfl, rfl, ?_⟩
    have hnd : nd v = 1 := by unfold nd; rw [if_pos (by omega)]
    rw [b_num, hnd, b_digs, b_digs, show un (0 + 1) = 1 from rfl, Int.tdiv_one, Int.tmod_eq_of_lt (by omega) (by omega)]
set_option maxHeartbeats 4000000 in
set_option maxRecDepth 100000 in
theorem lX11_write {l : Launch} {g : q_G} {n : Nat} {P : q_P} {X : q_X} {Y : q_Y} {b : Nat} (hF : isFace n P b) (hb : isBk n P b) (hO : bOk X b) (hw : isByt n P 447 256) (hb1 : 1 ≤ b ∧ b + 220 ≤ 441) {W : q_X} (hW : ∀ i, i ≠ 447 ∧ i ≠ 447 + 1 → xv W i = xv X i) : ∀ (w y : Nat), y + w = 20 → q_Tr l g mX11_write 2 (q_gi (fun r' n' P' X' Y' => n' = n ∧ P' = P ∧ Y' = Y ∧ X' = wr_l W b 20 ∧ r' = xv (wr_l W b 20) 447 1)) 152 [(0, .ref (g.1 + 0)), (1, .int (zi (y : Int)))] [] n P (wr_l W b y) Y := by
  obtain ⟨f0, f2, f3, f4, f5, f6, f7, f8, hn0⟩ := id hF
  obtain ⟨b0, b1, b2, b3, q7, q8, q9, q11, q12, q13, hn, hpro, hmar, hfor, hcs⟩ := id hb
  obtain ⟨o0, o1, o2, o3, o4, o5, o6, o10, oc, op0, opz, opi, om0, omi, olim⟩ := id hO
  have hwn : 447 + 2 ≤ n := hw.2.2.2.1
  intro w
  induction w with
  | zero =>
    intro y hk
    obtain rfl : y = 20 := by omega
    refine r_iload_n (i := 1) (pc' := 153) dX11_write_152 rfl rfl (.tail _ (.head _)) ?_
    refine r_bipush (pc' := 155) dX11_write_153 rfl (by decide) ?_
    refine r_icmp_ge (t := 215) (f := 158) dX11_write_155 (by decide) rfl (by first | omega | exact xv_in _ _ _) (by first | omega | exact xv_in _ _ _) (fun h155 => ?_) (fun h155 => ?_)
    · refine r_aload_n (i := 0) (pc' := 216) dX11_write_215 rfl rfl (.head _) ?_
      refine r_getR (pc' := 219) dX11_write_216 rfl fX11_42 rfl (by first | assumption | rfl) (by omega) (by assumption) ?_
      refine r_getI (pc' := 222) dX11_write_219 rfl fX11_80 rfl (by first | assumption | rfl) (by omega) ?_
      refine r_ireturn dX11_write_222 rfl ?_
      exact ⟨_, rfl, rfl, rfl, rfl, rfl, rfl⟩
    · exfalso; omega
  | succ w ih =>
    intro y hk
    have hlm := olim y (by omega)
    have hlw : xv (wr_l W b y) (b + 1) y = xv W (b + 1) y := by rw [wr_l_o (by omega)]
    have hwx : xv W (b + 1) y = xv X (b + 1) y := by rw [hW _ (by omega)]
    refine r_iload_n (i := 1) (pc' := 153) dX11_write_152 rfl rfl (.tail _ (.head _)) ?_
    refine r_bipush (pc' := 155) dX11_write_153 rfl (by decide) ?_
    refine r_icmp_ge (t := 215) (f := 158) dX11_write_155 (by decide) rfl (by first | omega | exact xv_in _ _ _) (by first | omega | exact xv_in _ _ _) (fun h155 => ?_) (fun h155 => ?_)
    · exfalso; omega
    · refine r_aload_n (i := 0) (pc' := 159) dX11_write_158 rfl rfl (.head _) ?_
      refine r_getR (pc' := 162) dX11_write_159 rfl fX11_42 rfl (by first | assumption | rfl) (by omega) (by assumption) ?_
      refine r_bipush (pc' := 164) dX11_write_162 rfl (by decide) ?_
      refine r_V1gv (ci := 2) (pc' := 167) dX11_write_164 rfl lX11_437 rfl (by decide) (Nat.le_of_ble_eq_true rfl) (by first | assumption | rfl) (by omega) (tX2_add hw) (fun n164 P164 X164 Y164 e164 le164 => ?_)
      obtain ⟨hg1_164, hg2_164, hg3_164, hg4_164⟩ := e164
      have g1_164 := Eq.symm hg1_164
      have g2_164 := Eq.symm hg2_164
      have g3_164 := Eq.symm hg3_164
      have g4_164 := Eq.symm hg4_164
      clear hg1_164 hg2_164 hg3_164 hg4_164
      subst g1_164 g2_164 g3_164 g4_164
      refine r_aload_n (i := 0) (pc' := 168) dX11_write_167 rfl rfl (.head _) ?_
      refine r_getR (pc' := 171) dX11_write_168 rfl fX11_42 rfl (by first | assumption | rfl) (by omega) (by assumption) ?_
      refine r_iload_n (i := 1) (pc' := 172) dX11_write_171 rfl rfl (.tail _ (.head _)) ?_
      refine r_V1gv (ci := 2) (pc' := 175) dX11_write_172 rfl lX11_439 rfl (by decide) (Nat.le_of_ble_eq_true rfl) (by first | assumption | rfl) (by omega) (tX2_addNumber hw (by omega)) (fun n172 P172 X172 Y172 e172 le172 => ?_)
      obtain ⟨hg1_172, hg2_172, hg3_172, hg4_172⟩ := e172
      have g1_172 := Eq.symm hg1_172
      have g2_172 := Eq.symm hg2_172
      have g3_172 := Eq.symm hg3_172
      have g4_172 := Eq.symm hg4_172
      clear hg1_172 hg2_172 hg3_172 hg4_172
      subst g1_172 g2_172 g3_172 g4_172
      refine r_aload_n (i := 0) (pc' := 176) dX11_write_175 rfl rfl (.head _) ?_
      refine r_getR (pc' := 179) dX11_write_176 rfl fX11_42 rfl (by first | assumption | rfl) (by omega) (by assumption) ?_
      refine r_bipush (pc' := 181) dX11_write_179 rfl (by decide) ?_
      refine r_V1gv (ci := 2) (pc' := 184) dX11_write_181 rfl lX11_437 rfl (by decide) (Nat.le_of_ble_eq_true rfl) (by first | assumption | rfl) (by omega) (tX2_add hw) (fun n181 P181 X181 Y181 e181 le181 => ?_)
      obtain ⟨hg1_181, hg2_181, hg3_181, hg4_181⟩ := e181
      have g1_181 := Eq.symm hg1_181
      have g2_181 := Eq.symm hg2_181
      have g3_181 := Eq.symm hg3_181
      have g4_181 := Eq.symm hg4_181
      clear hg1_181 hg2_181 hg3_181 hg4_181
      subst g1_181 g2_181 g3_181 g4_181
      refine r_aload_n (i := 0) (pc' := 185) dX11_write_184 rfl rfl (.head _) ?_
      refine r_getR (pc' := 188) dX11_write_185 rfl fX11_42 rfl (by first | assumption | rfl) (by omega) (by assumption) ?_
      refine r_aload_n (i := 0) (pc' := 189) dX11_write_188 rfl rfl (.head _) ?_
      refine r_getR (pc' := 192) dX11_write_189 rfl fX11_10 rfl (by first | assumption | rfl) (by omega) (by assumption) ?_
      refine r_getR (pc' := 195) dX11_write_192 rfl fX11_161 rfl (by first | assumption | rfl) (by omega) (by assumption) ?_
      refine r_iload_n (i := 1) (pc' := 196) dX11_write_195 rfl rfl (.tail _ (.head _)) ?_
      refine r_iaload (pc' := 197) dX11_write_196 rfl (by first | assumption | rfl) (by omega) (by omega) (by omega) (by first | decide | omega) (Int.toNat_natCast _) ?_
      simp (disch := omega) only [b_add_o, b_num_o, xv_up_row]
      rw [hlw]
      refine r_V1gv (ci := 2) (pc' := 200) dX11_write_197 rfl lX11_439 rfl (by decide) (Nat.le_of_ble_eq_true rfl) (by first | assumption | rfl) (by omega) (tX2_addNumber hw (by omega)) (fun n197 P197 X197 Y197 e197 le197 => ?_)
      obtain ⟨hg1_197, hg2_197, hg3_197, hg4_197⟩ := e197
      have g1_197 := Eq.symm hg1_197
      have g2_197 := Eq.symm hg2_197
      have g3_197 := Eq.symm hg3_197
      have g4_197 := Eq.symm hg4_197
      clear hg1_197 hg2_197 hg3_197 hg4_197
      subst g1_197 g2_197 g3_197 g4_197
      refine r_aload_n (i := 0) (pc' := 201) dX11_write_200 rfl rfl (.head _) ?_
      refine r_getR (pc' := 204) dX11_write_201 rfl fX11_42 rfl (by first | assumption | rfl) (by omega) (by assumption) ?_
      refine r_bipush (pc' := 206) dX11_write_204 rfl (by decide) ?_
      refine r_V1gv (ci := 2) (pc' := 209) dX11_write_206 rfl lX11_437 rfl (by decide) (Nat.le_of_ble_eq_true rfl) (by first | assumption | rfl) (by omega) (tX2_add hw) (fun n206 P206 X206 Y206 e206 le206 => ?_)
      obtain ⟨hg1_206, hg2_206, hg3_206, hg4_206⟩ := e206
      have g1_206 := Eq.symm hg1_206
      have g2_206 := Eq.symm hg2_206
      have g3_206 := Eq.symm hg3_206
      have g4_206 := Eq.symm hg4_206
      clear hg1_206 hg2_206 hg3_206 hg4_206
      subst g1_206 g2_206 g3_206 g4_206
      refine r_iinc (pc' := 212) dX11_write_209 rfl rfl (.tail _ (.head _)) (.s1 (.here .nil) rfl rfl rfl) ?_
      refine r_goto (t := 152) dX11_write_212 (by decide) ?_
      exact ih (y + 1) (by omega)
set_option maxHeartbeats 4000000 in
set_option maxRecDepth 100000 in
theorem tX11_write {l : Launch} {g : q_G} {n : Nat} {P : q_P} {X : q_X} {Y : q_Y} {b : Nat} (hF : isFace n P b) (hb : isBk n P b) (hO : bOk X b) (hw : isByt n P 447 256) (hb1 : 1 ≤ b ∧ b + 220 ≤ 441) : q_Met l g mX11_write 2 [.ref (g.1 + 0)] n P X Y (q_gi (fun r' n' P' X' Y' => n' = n ∧ P' = P ∧ Y' = Y ∧ X' = wr_l (wr_h X b) b 20 ∧ r' = xv (wr_l (wr_h X b) b 20) 447 1)) := by
  obtain ⟨f0, f2, f3, f4, f5, f6, f7, f8, hn0⟩ := id hF
  obtain ⟨b0, b1, b2, b3, q7, q8, q9, q11, q12, q13, hn, hpro, hmar, hfor, hcs⟩ := id hb
  obtain ⟨o0, o1, o2, o3, o4, o5, o6, o10, oc, op0, opz, opi, om0, omi, olim⟩ := id hO
  have hwn : 447 + 2 ≤ n := hw.2.2.2.1
  refine q_enter (L := [(0, .ref (g.1 + 0))]) (by decide) (Nat.le_of_ble_eq_true rfl) rfl ?_
  refine r_aload_n (i := 0) (pc' := 1) dX11_write_0 rfl rfl (.head _) ?_
  refine r_getR (pc' := 4) dX11_write_1 rfl fX11_42 rfl (by first | assumption | rfl) (by omega) (by assumption) ?_
  refine r_iconst (pc' := 5) dX11_write_4 rfl ?_
  refine r_putI (pc' := 8) dX11_write_5 rfl fX11_80 rfl (by first | assumption | rfl) (by omega) rfl rfl ?_
  refine r_aload_n (i := 0) (pc' := 9) dX11_write_8 rfl rfl (.head _) ?_
  refine r_getR (pc' := 12) dX11_write_9 rfl fX11_42 rfl (by first | assumption | rfl) (by omega) (by assumption) ?_
  refine r_bipush (pc' := 14) dX11_write_12 rfl (by decide) ?_
  refine r_V1gv (ci := 2) (pc' := 17) dX11_write_14 rfl lX11_437 rfl (by decide) (Nat.le_of_ble_eq_true rfl) (by first | assumption | rfl) (by omega) (tX2_add hw) (fun n14 P14 X14 Y14 e14 le14 => ?_)
  obtain ⟨hg1_14, hg2_14, hg3_14, hg4_14⟩ := e14
  have g1_14 := Eq.symm hg1_14
  have g2_14 := Eq.symm hg2_14
  have g3_14 := Eq.symm hg3_14
  have g4_14 := Eq.symm hg4_14
  clear hg1_14 hg2_14 hg3_14 hg4_14
  subst g1_14 g2_14 g3_14 g4_14
  refine r_aload_n (i := 0) (pc' := 18) dX11_write_17 rfl rfl (.head _) ?_
  refine r_getR (pc' := 21) dX11_write_18 rfl fX11_42 rfl (by first | assumption | rfl) (by omega) (by assumption) ?_
  refine r_aload_n (i := 0) (pc' := 22) dX11_write_21 rfl rfl (.head _) ?_
  refine r_getR (pc' := 25) dX11_write_22 rfl fX11_10 rfl (by first | assumption | rfl) (by omega) (by assumption) ?_
  refine r_getI (pc' := 28) dX11_write_25 rfl fX11_141 rfl (by first | assumption | rfl) (by omega) ?_
  simp (disch := omega) only [b_add_o, b_num_o, xv_up_row]
  refine r_V1gv (ci := 2) (pc' := 31) dX11_write_28 rfl lX11_439 rfl (by decide) (Nat.le_of_ble_eq_true rfl) (by first | assumption | rfl) (by omega) (tX2_addNumber hw (by omega)) (fun n28 P28 X28 Y28 e28 le28 => ?_)
  obtain ⟨hg1_28, hg2_28, hg3_28, hg4_28⟩ := e28
  have g1_28 := Eq.symm hg1_28
  have g2_28 := Eq.symm hg2_28
  have g3_28 := Eq.symm hg3_28
  have g4_28 := Eq.symm hg4_28
  clear hg1_28 hg2_28 hg3_28 hg4_28
  subst g1_28 g2_28 g3_28 g4_28
  refine r_aload_n (i := 0) (pc' := 32) dX11_write_31 rfl rfl (.head _) ?_
  refine r_getR (pc' := 35) dX11_write_32 rfl fX11_42 rfl (by first | assumption | rfl) (by omega) (by assumption) ?_
  refine r_bipush (pc' := 37) dX11_write_35 rfl (by decide) ?_
  refine r_V1gv (ci := 2) (pc' := 40) dX11_write_37 rfl lX11_437 rfl (by decide) (Nat.le_of_ble_eq_true rfl) (by first | assumption | rfl) (by omega) (tX2_add hw) (fun n37 P37 X37 Y37 e37 le37 => ?_)
  obtain ⟨hg1_37, hg2_37, hg3_37, hg4_37⟩ := e37
  have g1_37 := Eq.symm hg1_37
  have g2_37 := Eq.symm hg2_37
  have g3_37 := Eq.symm hg3_37
  have g4_37 := Eq.symm hg4_37
  clear hg1_37 hg2_37 hg3_37 hg4_37
  subst g1_37 g2_37 g3_37 g4_37
  refine r_aload_n (i := 0) (pc' := 41) dX11_write_40 rfl rfl (.head _) ?_
  refine r_getR (pc' := 44) dX11_write_41 rfl fX11_42 rfl (by first | assumption | rfl) (by omega) (by assumption) ?_
  refine r_aload_n (i := 0) (pc' := 45) dX11_write_44 rfl rfl (.head _) ?_
  refine r_getR (pc' := 48) dX11_write_45 rfl fX11_10 rfl (by first | assumption | rfl) (by omega) (by assumption) ?_
  refine r_getI (pc' := 51) dX11_write_48 rfl fX11_144 rfl (by first | assumption | rfl) (by omega) ?_
  simp (disch := omega) only [b_add_o, b_num_o, xv_up_row]
  refine r_V1gv (ci := 2) (pc' := 54) dX11_write_51 rfl lX11_439 rfl (by decide) (Nat.le_of_ble_eq_true rfl) (by first | assumption | rfl) (by omega) (tX2_addNumber hw (by omega)) (fun n51 P51 X51 Y51 e51 le51 => ?_)
  obtain ⟨hg1_51, hg2_51, hg3_51, hg4_51⟩ := e51
  have g1_51 := Eq.symm hg1_51
  have g2_51 := Eq.symm hg2_51
  have g3_51 := Eq.symm hg3_51
  have g4_51 := Eq.symm hg4_51
  clear hg1_51 hg2_51 hg3_51 hg4_51
  subst g1_51 g2_51 g3_51 g4_51
  refine r_aload_n (i := 0) (pc' := 55) dX11_write_54 rfl rfl (.head _) ?_
  refine r_getR (pc' := 58) dX11_write_55 rfl fX11_42 rfl (by first | assumption | rfl) (by omega) (by assumption) ?_
  refine r_bipush (pc' := 60) dX11_write_58 rfl (by decide) ?_
  refine r_V1gv (ci := 2) (pc' := 63) dX11_write_60 rfl lX11_437 rfl (by decide) (Nat.le_of_ble_eq_true rfl) (by first | assumption | rfl) (by omega) (tX2_add hw) (fun n60 P60 X60 Y60 e60 le60 => ?_)
  obtain ⟨hg1_60, hg2_60, hg3_60, hg4_60⟩ := e60
  have g1_60 := Eq.symm hg1_60
  have g2_60 := Eq.symm hg2_60
  have g3_60 := Eq.symm hg3_60
  have g4_60 := Eq.symm hg4_60
  clear hg1_60 hg2_60 hg3_60 hg4_60
  subst g1_60 g2_60 g3_60 g4_60
  refine r_aload_n (i := 0) (pc' := 64) dX11_write_63 rfl rfl (.head _) ?_
  refine r_getR (pc' := 67) dX11_write_64 rfl fX11_42 rfl (by first | assumption | rfl) (by omega) (by assumption) ?_
  refine r_aload_n (i := 0) (pc' := 68) dX11_write_67 rfl rfl (.head _) ?_
  refine r_getR (pc' := 71) dX11_write_68 rfl fX11_10 rfl (by first | assumption | rfl) (by omega) (by assumption) ?_
  refine r_getI (pc' := 74) dX11_write_71 rfl fX11_147 rfl (by first | assumption | rfl) (by omega) ?_
  simp (disch := omega) only [b_add_o, b_num_o, xv_up_row]
  refine r_V1gv (ci := 2) (pc' := 77) dX11_write_74 rfl lX11_439 rfl (by decide) (Nat.le_of_ble_eq_true rfl) (by first | assumption | rfl) (by omega) (tX2_addNumber hw (by omega)) (fun n74 P74 X74 Y74 e74 le74 => ?_)
  obtain ⟨hg1_74, hg2_74, hg3_74, hg4_74⟩ := e74
  have g1_74 := Eq.symm hg1_74
  have g2_74 := Eq.symm hg2_74
  have g3_74 := Eq.symm hg3_74
  have g4_74 := Eq.symm hg4_74
  clear hg1_74 hg2_74 hg3_74 hg4_74
  subst g1_74 g2_74 g3_74 g4_74
  refine r_aload_n (i := 0) (pc' := 78) dX11_write_77 rfl rfl (.head _) ?_
  refine r_getR (pc' := 81) dX11_write_78 rfl fX11_42 rfl (by first | assumption | rfl) (by omega) (by assumption) ?_
  refine r_bipush (pc' := 83) dX11_write_81 rfl (by decide) ?_
  refine r_V1gv (ci := 2) (pc' := 86) dX11_write_83 rfl lX11_437 rfl (by decide) (Nat.le_of_ble_eq_true rfl) (by first | assumption | rfl) (by omega) (tX2_add hw) (fun n83 P83 X83 Y83 e83 le83 => ?_)
  obtain ⟨hg1_83, hg2_83, hg3_83, hg4_83⟩ := e83
  have g1_83 := Eq.symm hg1_83
  have g2_83 := Eq.symm hg2_83
  have g3_83 := Eq.symm hg3_83
  have g4_83 := Eq.symm hg4_83
  clear hg1_83 hg2_83 hg3_83 hg4_83
  subst g1_83 g2_83 g3_83 g4_83
  refine r_aload_n (i := 0) (pc' := 87) dX11_write_86 rfl rfl (.head _) ?_
  refine r_getR (pc' := 90) dX11_write_87 rfl fX11_42 rfl (by first | assumption | rfl) (by omega) (by assumption) ?_
  refine r_bipush (pc' := 92) dX11_write_90 rfl (by decide) ?_
  refine r_V1gv (ci := 2) (pc' := 95) dX11_write_92 rfl lX11_437 rfl (by decide) (Nat.le_of_ble_eq_true rfl) (by first | assumption | rfl) (by omega) (tX2_add hw) (fun n92 P92 X92 Y92 e92 le92 => ?_)
  obtain ⟨hg1_92, hg2_92, hg3_92, hg4_92⟩ := e92
  have g1_92 := Eq.symm hg1_92
  have g2_92 := Eq.symm hg2_92
  have g3_92 := Eq.symm hg3_92
  have g4_92 := Eq.symm hg4_92
  clear hg1_92 hg2_92 hg3_92 hg4_92
  subst g1_92 g2_92 g3_92 g4_92
  refine r_aload_n (i := 0) (pc' := 96) dX11_write_95 rfl rfl (.head _) ?_
  refine r_getR (pc' := 99) dX11_write_96 rfl fX11_42 rfl (by first | assumption | rfl) (by omega) (by assumption) ?_
  refine r_aload_n (i := 0) (pc' := 100) dX11_write_99 rfl rfl (.head _) ?_
  refine r_getR (pc' := 103) dX11_write_100 rfl fX11_10 rfl (by first | assumption | rfl) (by omega) (by assumption) ?_
  refine r_getI (pc' := 106) dX11_write_103 rfl fX11_150 rfl (by first | assumption | rfl) (by omega) ?_
  simp (disch := omega) only [b_add_o, b_num_o, xv_up_row]
  refine r_V1gv (ci := 2) (pc' := 109) dX11_write_106 rfl lX11_439 rfl (by decide) (Nat.le_of_ble_eq_true rfl) (by first | assumption | rfl) (by omega) (tX2_addNumber hw (by omega)) (fun n106 P106 X106 Y106 e106 le106 => ?_)
  obtain ⟨hg1_106, hg2_106, hg3_106, hg4_106⟩ := e106
  have g1_106 := Eq.symm hg1_106
  have g2_106 := Eq.symm hg2_106
  have g3_106 := Eq.symm hg3_106
  have g4_106 := Eq.symm hg4_106
  clear hg1_106 hg2_106 hg3_106 hg4_106
  subst g1_106 g2_106 g3_106 g4_106
  refine r_aload_n (i := 0) (pc' := 110) dX11_write_109 rfl rfl (.head _) ?_
  refine r_getR (pc' := 113) dX11_write_110 rfl fX11_42 rfl (by first | assumption | rfl) (by omega) (by assumption) ?_
  refine r_bipush (pc' := 115) dX11_write_113 rfl (by decide) ?_
  refine r_V1gv (ci := 2) (pc' := 118) dX11_write_115 rfl lX11_437 rfl (by decide) (Nat.le_of_ble_eq_true rfl) (by first | assumption | rfl) (by omega) (tX2_add hw) (fun n115 P115 X115 Y115 e115 le115 => ?_)
  obtain ⟨hg1_115, hg2_115, hg3_115, hg4_115⟩ := e115
  have g1_115 := Eq.symm hg1_115
  have g2_115 := Eq.symm hg2_115
  have g3_115 := Eq.symm hg3_115
  have g4_115 := Eq.symm hg4_115
  clear hg1_115 hg2_115 hg3_115 hg4_115
  subst g1_115 g2_115 g3_115 g4_115
  refine r_aload_n (i := 0) (pc' := 119) dX11_write_118 rfl rfl (.head _) ?_
  refine r_getR (pc' := 122) dX11_write_119 rfl fX11_42 rfl (by first | assumption | rfl) (by omega) (by assumption) ?_
  refine r_bipush (pc' := 124) dX11_write_122 rfl (by decide) ?_
  refine r_V1gv (ci := 2) (pc' := 127) dX11_write_124 rfl lX11_437 rfl (by decide) (Nat.le_of_ble_eq_true rfl) (by first | assumption | rfl) (by omega) (tX2_add hw) (fun n124 P124 X124 Y124 e124 le124 => ?_)
  obtain ⟨hg1_124, hg2_124, hg3_124, hg4_124⟩ := e124
  have g1_124 := Eq.symm hg1_124
  have g2_124 := Eq.symm hg2_124
  have g3_124 := Eq.symm hg3_124
  have g4_124 := Eq.symm hg4_124
  clear hg1_124 hg2_124 hg3_124 hg4_124
  subst g1_124 g2_124 g3_124 g4_124
  refine r_aload_n (i := 0) (pc' := 128) dX11_write_127 rfl rfl (.head _) ?_
  refine r_getR (pc' := 131) dX11_write_128 rfl fX11_42 rfl (by first | assumption | rfl) (by omega) (by assumption) ?_
  refine r_aload_n (i := 0) (pc' := 132) dX11_write_131 rfl rfl (.head _) ?_
  refine r_getR (pc' := 135) dX11_write_132 rfl fX11_10 rfl (by first | assumption | rfl) (by omega) (by assumption) ?_
  refine r_getI (pc' := 138) dX11_write_135 rfl fX11_115 rfl (by first | assumption | rfl) (by omega) ?_
  simp (disch := omega) only [b_add_o, b_num_o, xv_up_row]
  refine r_V1gv (ci := 2) (pc' := 141) dX11_write_138 rfl lX11_439 rfl (by decide) (Nat.le_of_ble_eq_true rfl) (by first | assumption | rfl) (by omega) (tX2_addNumber hw (by omega)) (fun n138 P138 X138 Y138 e138 le138 => ?_)
  obtain ⟨hg1_138, hg2_138, hg3_138, hg4_138⟩ := e138
  have g1_138 := Eq.symm hg1_138
  have g2_138 := Eq.symm hg2_138
  have g3_138 := Eq.symm hg3_138
  have g4_138 := Eq.symm hg4_138
  clear hg1_138 hg2_138 hg3_138 hg4_138
  subst g1_138 g2_138 g3_138 g4_138
  refine r_aload_n (i := 0) (pc' := 142) dX11_write_141 rfl rfl (.head _) ?_
  refine r_getR (pc' := 145) dX11_write_142 rfl fX11_42 rfl (by first | assumption | rfl) (by omega) (by assumption) ?_
  refine r_bipush (pc' := 147) dX11_write_145 rfl (by decide) ?_
  refine r_V1gv (ci := 2) (pc' := 150) dX11_write_147 rfl lX11_437 rfl (by decide) (Nat.le_of_ble_eq_true rfl) (by first | assumption | rfl) (by omega) (tX2_add hw) (fun n147 P147 X147 Y147 e147 le147 => ?_)
  obtain ⟨hg1_147, hg2_147, hg3_147, hg4_147⟩ := e147
  have g1_147 := Eq.symm hg1_147
  have g2_147 := Eq.symm hg2_147
  have g3_147 := Eq.symm hg3_147
  have g4_147 := Eq.symm hg4_147
  clear hg1_147 hg2_147 hg3_147 hg4_147
  subst g1_147 g2_147 g3_147 g4_147
  refine r_iconst (pc' := 151) dX11_write_150 rfl ?_
  refine r_istore_n (i := 1) (pc' := 152) dX11_write_151 rfl rfl rfl (.s1 .nil rfl rfl rfl) ?_
  exact lX11_write hF hb hO hw hb1 (W := wr_h X b) (fun i hi => wr_h_o hi) 20 0 (by omega)
