/-! bytes, the reader -/
def isByt (n : Nat) (P : q_P) (o N : Nat) : Prop := q_sh o = (2, 2) ∧ q_sh (o + 1) = (20, N) ∧ P o 0 = some (o + 1) ∧ o + 2 ≤ n ∧ N ≤ 500
def b_at (X : q_X) (o N : Nat) (i : Int) : Int := if 0 ≤ i ∧ i < xv X o 1 ∧ i < N then xv X (o + 1) i.toNat else -1
def b_add (X : q_X) (o N : Nat) (b : Int) : q_X := if 0 ≤ xv X o 1 ∧ xv X o 1 < N then q_up (q_up X (o + 1) (xv X o 1).toNat (zi (b % 256))) o 1 (zi (xv X o 1 + 1)) else X
def b_word (X : q_X) (o N : Nat) (w : Int) : q_X := b_add (b_add (b_add (b_add X o N (w % 4294967296 / 2 ^ 24)) o N (w % 4294967296 / 2 ^ 16)) o N (w % 4294967296 / 2 ^ 8)) o N w
/-- the reader lies at 444, its tape at 445 -/
def isRd (n : Nat) (P : q_P) : Prop := P 444 0 = some 445 ∧ P 445 0 = some 446 ∧ 481 ≤ n
theorem isRd.b {n : Nat} {P : q_P} (h : isRd n P) : isByt n P 445 500 := ⟨rfl, rfl, h.2.1, by have := h.2.2; omega, by omega⟩
/-- what the reader sees at a place -/
def rd (X : q_X) (a : Int) : Int := b_at X 445 500 a
theorem b_at_in (X : q_X) (o N : Nat) (i : Int) : q_in (b_at X o N i) := by unfold b_at; split; exact xv_in _ _ _; omega
theorem rd_in (X : q_X) (i : Int) : q_in (rd X i) := b_at_in _ _ _ _
abbrev isDig (b : Int) : Prop := 48 ≤ b ∧ b ≤ 57
def rd_fail (X : q_X) (a : Int) : q_X := if xv X 444 2 = -1 then q_up X 444 2 (zi a) else X
def rd_skip (X : q_X) : q_X := if xv X 444 2 = -1 then q_up X 444 1 (zi (xv X 444 1 + 1)) else X
def rd_exp (X : q_X) (b : Int) : q_X := if xv X 444 2 = -1 then (if rd X (xv X 444 1) = b then q_up X 444 1 (zi (xv X 444 1 + 1)) else q_up X 444 2 (zi (xv X 444 1))) else X
set_option maxHeartbeats 4000000 in
set_option maxRecDepth 100000 in
theorem tX2_at {l : Launch} {g : q_G} {n : Nat} {P : q_P} {X : q_X} {Y : q_Y} {o N : Nat} {i : Int} (hb : isByt n P o N) (hi : q_in i) : q_Met l g mX2_at 0 [.ref (g.1 + o), .int (zi i)] n P X Y (q_pv (.int (zi (b_at X o N i))) n P X Y) := by
  obtain ⟨s0, s1, p0, hn, hN⟩ := id hb
  refine q_enter (L := [(0, .ref (g.1 + o)), (1, .int (zi i))]) (by decide) (Nat.le_of_ble_eq_true rfl) rfl ?_
  refine r_iload_n (i := 1) (pc' := 1) dX2_at_0 rfl rfl (.tail _ (.head _)) ?_
  refine r_if_lt (t := 30) (f := 4) dX2_at_1 (by decide) rfl (by first | omega | exact xv_in _ _ _) (fun h1 => ?_) (fun h1 => ?_)
  · refine r_iconst (pc' := 31) dX2_at_30 rfl ?_
    refine r_ireturn dX2_at_31 rfl ?_
    refine ⟨?_, rfl, rfl, rfl, rfl⟩
    unfold b_at
    (repeat' split) <;> first | rfl | (exfalso; omega) | (congr 3; omega)
  · refine r_iload_n (i := 1) (pc' := 5) dX2_at_4 rfl rfl (.tail _ (.head _)) ?_
    refine r_aload_n (i := 0) (pc' := 6) dX2_at_5 rfl rfl (.head _) ?_
    refine r_getI (pc' := 9) dX2_at_6 rfl fX2_21 rfl (by first | assumption | rfl) (by omega) ?_
    refine r_icmp_ge (t := 30) (f := 12) dX2_at_9 (by decide) rfl (by first | omega | exact xv_in _ _ _) (by first | omega | exact xv_in _ _ _) (fun h9 => ?_) (fun h9 => ?_)
    · refine r_iconst (pc' := 31) dX2_at_30 rfl ?_
      refine r_ireturn dX2_at_31 rfl ?_
      refine ⟨?_, rfl, rfl, rfl, rfl⟩
      unfold b_at
      (repeat' split) <;> first | rfl | (exfalso; omega) | (congr 3; omega)
    · refine r_iload_n (i := 1) (pc' := 13) dX2_at_12 rfl rfl (.tail _ (.head _)) ?_
      refine r_aload_n (i := 0) (pc' := 14) dX2_at_13 rfl rfl (.head _) ?_
      refine r_getR (pc' := 17) dX2_at_14 rfl fX2_15 rfl (by first | assumption | rfl) (by omega) (by assumption) ?_
      refine r_alen (pc' := 18) dX2_at_17 rfl (by first | assumption | rfl) (by omega) ?_
      refine r_icmp_ge (t := 30) (f := 21) dX2_at_18 (by decide) rfl (by first | omega | exact xv_in _ _ _) (by first | omega | exact xv_in _ _ _) (fun h18 => ?_) (fun h18 => ?_)
      · refine r_iconst (pc' := 31) dX2_at_30 rfl ?_
        refine r_ireturn dX2_at_31 rfl ?_
        refine ⟨?_, rfl, rfl, rfl, rfl⟩
        unfold b_at
        (repeat' split) <;> first | rfl | (exfalso; omega) | (congr 3; omega)
      · refine r_aload_n (i := 0) (pc' := 22) dX2_at_21 rfl rfl (.head _) ?_
        refine r_getR (pc' := 25) dX2_at_22 rfl fX2_15 rfl (by first | assumption | rfl) (by omega) (by assumption) ?_
        refine r_iload_n (i := 1) (pc' := 26) dX2_at_25 rfl rfl (.tail _ (.head _)) ?_
        refine r_iaload (pc' := 27) dX2_at_26 rfl (by first | assumption | rfl) (by omega) (by omega) (by omega) (by first | decide | omega) rfl ?_
        refine r_goto (t := 31) dX2_at_27 (by decide) ?_
        refine r_ireturn dX2_at_31 rfl ?_
        refine ⟨?_, rfl, rfl, rfl, rfl⟩
        unfold b_at
        (repeat' split) <;> first | rfl | (exfalso; omega) | (congr 3; omega)
set_option maxHeartbeats 4000000 in
set_option maxRecDepth 100000 in
theorem tX2_add {l : Launch} {g : q_G} {n : Nat} {P : q_P} {X : q_X} {Y : q_Y} {o N : Nat} {b : Int} (hb : isByt n P o N) : q_Met l g mX2_add 0 [.ref (g.1 + o), .int (zi b)] n P X Y (q_gv (fun n' P' X' Y' => n' = n ∧ P' = P ∧ Y' = Y ∧ X' = b_add X o N b)) := by
  obtain ⟨s0, s1, p0, hn, hN⟩ := id hb
  refine q_enter (L := [(0, .ref (g.1 + o)), (1, .int (zi b))]) (by decide) (Nat.le_of_ble_eq_true rfl) rfl ?_
  refine r_aload_n (i := 0) (pc' := 1) dX2_add_0 rfl rfl (.head _) ?_
  refine r_getI (pc' := 4) dX2_add_1 rfl fX2_21 rfl (by first | assumption | rfl) (by omega) ?_
  refine r_if_lt (t := 43) (f := 7) dX2_add_4 (by decide) rfl (by first | omega | exact xv_in _ _ _) (fun h4 => ?_) (fun h4 => ?_)
  · refine r_return dX2_add_43 rfl ?_
    refine ⟨rfl, rfl, rfl, rfl, ?_⟩
    unfold b_add; split <;> first | (rw [xv_up_ne _ _ (by omega)]; done) | rfl | (exfalso; omega)
  · refine r_aload_n (i := 0) (pc' := 8) dX2_add_7 rfl rfl (.head _) ?_
    refine r_getI (pc' := 11) dX2_add_8 rfl fX2_21 rfl (by first | assumption | rfl) (by omega) ?_
    refine r_aload_n (i := 0) (pc' := 12) dX2_add_11 rfl rfl (.head _) ?_
    refine r_getR (pc' := 15) dX2_add_12 rfl fX2_15 rfl (by first | assumption | rfl) (by omega) (by assumption) ?_
    refine r_alen (pc' := 16) dX2_add_15 rfl (by first | assumption | rfl) (by omega) ?_
    refine r_icmp_ge (t := 43) (f := 19) dX2_add_16 (by decide) rfl (by first | omega | exact xv_in _ _ _) (by first | omega | exact xv_in _ _ _) (fun h16 => ?_) (fun h16 => ?_)
    · refine r_return dX2_add_43 rfl ?_
      refine ⟨rfl, rfl, rfl, rfl, ?_⟩
      unfold b_add; split <;> first | (rw [xv_up_ne _ _ (by omega)]; done) | rfl | (exfalso; omega)
    · refine r_aload_n (i := 0) (pc' := 20) dX2_add_19 rfl rfl (.head _) ?_
      refine r_getR (pc' := 23) dX2_add_20 rfl fX2_15 rfl (by first | assumption | rfl) (by omega) (by assumption) ?_
      refine r_aload_n (i := 0) (pc' := 24) dX2_add_23 rfl rfl (.head _) ?_
      refine r_getI (pc' := 27) dX2_add_24 rfl fX2_21 rfl (by first | assumption | rfl) (by omega) ?_
      refine r_iload_n (i := 1) (pc' := 28) dX2_add_27 rfl rfl (.tail _ (.head _)) ?_
      refine r_sipush (pc' := 31) dX2_add_28 rfl (by decide) ?_
      refine r_iand (pc' := 32) dX2_add_31 rfl (zi_and255 _) ?_
      refine r_iastore (pc' := 33) dX2_add_32 rfl (by first | assumption | rfl) (by omega) (by omega) (by omega) (by first | decide | omega) rfl ?_
      refine r_aload_n (i := 0) (pc' := 34) dX2_add_33 rfl rfl (.head _) ?_
      refine r_dup (pc' := 35) dX2_add_34 rfl rfl ?_
      refine r_getI (pc' := 38) dX2_add_35 rfl fX2_21 rfl (by first | assumption | rfl) (by omega) ?_
      refine r_iconst (pc' := 39) dX2_add_38 rfl ?_
      refine r_iadd (pc' := 40) dX2_add_39 rfl ?_
      refine r_putI (pc' := 43) dX2_add_40 rfl fX2_21 rfl (by first | assumption | rfl) (by omega) rfl rfl ?_
      refine r_return dX2_add_43 rfl ?_
      refine ⟨rfl, rfl, rfl, rfl, ?_⟩
      unfold b_add; split <;> first | (rw [xv_up_ne _ _ (by omega)]; done) | rfl | (exfalso; omega)
set_option maxHeartbeats 4000000 in
set_option maxRecDepth 100000 in
theorem tX2_addWord {l : Launch} {g : q_G} {n : Nat} {P : q_P} {X : q_X} {Y : q_Y} {o N : Nat} {w : Int} (hb : isByt n P o N) : q_Met l g mX2_addWord 1 [.ref (g.1 + o), .int (zi w)] n P X Y (q_gv (fun n' P' X' Y' => n' = n ∧ P' = P ∧ Y' = Y ∧ X' = b_word X o N w)) := by
  obtain ⟨s0, s1, p0, hn, hN⟩ := id hb
  refine q_enter (L := [(0, .ref (g.1 + o)), (1, .int (zi w))]) (by decide) (Nat.le_of_ble_eq_true rfl) rfl ?_
  refine r_aload_n (i := 0) (pc' := 1) dX2_addWord_0 rfl rfl (.head _) ?_
  refine r_iload_n (i := 1) (pc' := 2) dX2_addWord_1 rfl rfl (.tail _ (.head _)) ?_
  refine r_bipush (pc' := 4) dX2_addWord_2 rfl (by decide) ?_
  refine r_iushr (pc' := 5) dX2_addWord_4 rfl (zi_ushr 24 (by decide) (by decide) _) ?_
  refine r_V1gv (ci := 2) (pc' := 8) dX2_addWord_5 rfl lX2_25 rfl (by decide) (Nat.le_of_ble_eq_true rfl) (by first | assumption | rfl) (by omega) (tX2_add (by assumption)) (fun n5 P5 X5 Y5 e5 le5 => ?_)
  obtain ⟨rfl, rfl, rfl, rfl⟩ := e5
  refine r_aload_n (i := 0) (pc' := 9) dX2_addWord_8 rfl rfl (.head _) ?_
  refine r_iload_n (i := 1) (pc' := 10) dX2_addWord_9 rfl rfl (.tail _ (.head _)) ?_
  refine r_bipush (pc' := 12) dX2_addWord_10 rfl (by decide) ?_
  refine r_iushr (pc' := 13) dX2_addWord_12 rfl (zi_ushr 16 (by decide) (by decide) _) ?_
  refine r_V1gv (ci := 2) (pc' := 16) dX2_addWord_13 rfl lX2_25 rfl (by decide) (Nat.le_of_ble_eq_true rfl) (by first | assumption | rfl) (by omega) (tX2_add (by assumption)) (fun n13 P13 X13 Y13 e13 le13 => ?_)
  obtain ⟨rfl, rfl, rfl, rfl⟩ := e13
  refine r_aload_n (i := 0) (pc' := 17) dX2_addWord_16 rfl rfl (.head _) ?_
  refine r_iload_n (i := 1) (pc' := 18) dX2_addWord_17 rfl rfl (.tail _ (.head _)) ?_
  refine r_bipush (pc' := 20) dX2_addWord_18 rfl (by decide) ?_
  refine r_iushr (pc' := 21) dX2_addWord_20 rfl (zi_ushr 8 (by decide) (by decide) _) ?_
  refine r_V1gv (ci := 2) (pc' := 24) dX2_addWord_21 rfl lX2_25 rfl (by decide) (Nat.le_of_ble_eq_true rfl) (by first | assumption | rfl) (by omega) (tX2_add (by assumption)) (fun n21 P21 X21 Y21 e21 le21 => ?_)
  obtain ⟨rfl, rfl, rfl, rfl⟩ := e21
  refine r_aload_n (i := 0) (pc' := 25) dX2_addWord_24 rfl rfl (.head _) ?_
  refine r_iload_n (i := 1) (pc' := 26) dX2_addWord_25 rfl rfl (.tail _ (.head _)) ?_
  refine r_V1gv (ci := 2) (pc' := 29) dX2_addWord_26 rfl lX2_25 rfl (by decide) (Nat.le_of_ble_eq_true rfl) (by first | assumption | rfl) (by omega) (tX2_add (by assumption)) (fun n26 P26 X26 Y26 e26 le26 => ?_)
  obtain ⟨rfl, rfl, rfl, rfl⟩ := e26
  refine r_return dX2_addWord_29 rfl ?_
  exact ⟨rfl, rfl, rfl, rfl, rfl⟩
set_option maxHeartbeats 4000000 in
set_option maxRecDepth 100000 in
theorem tX9_hasMore {l : Launch} {g : q_G} {n : Nat} {P : q_P} {X : q_X} {Y : q_Y} (hr : isRd n P) : q_Met l g mX9_hasMore 0 [.ref (g.1 + 444)] n P X Y (q_pv (.int (zi (if xv X 444 2 = -1 ∧ xv X 444 1 < xv X 445 1 then 1 else 0))) n P X Y) := by
  obtain ⟨r0, r1, hn⟩ := id hr
  have hb := hr.b
  refine q_enter (L := [(0, .ref (g.1 + 444))]) (by decide) (Nat.le_of_ble_eq_true rfl) rfl ?_
  refine r_aload_n (i := 0) (pc' := 1) dX9_hasMore_0 rfl rfl (.head _) ?_
  refine r_getI (pc' := 4) dX9_hasMore_1 rfl fX9_20 rfl (by first | assumption | rfl) (by omega) ?_
  refine r_iconst (pc' := 5) dX9_hasMore_4 rfl ?_
  refine r_icmp_ne (t := 26) (f := 8) dX9_hasMore_5 (by decide) rfl (by first | omega | exact xv_in _ _ _ | exact rd_in _ _) (by first | omega | exact xv_in _ _ _ | exact rd_in _ _) (fun h5 => ?_) (fun h5 => ?_)
  · refine r_iconst (pc' := 27) dX9_hasMore_26 rfl ?_
    refine r_zreturn dX9_hasMore_27 rfl (by decide) ?_
    refine ⟨?_, rfl, rfl, rfl, rfl⟩
    (repeat' split) <;> first | rfl | (exfalso; omega) | (congr 3; omega)
  · refine r_aload_n (i := 0) (pc' := 9) dX9_hasMore_8 rfl rfl (.head _) ?_
    refine r_getI (pc' := 12) dX9_hasMore_9 rfl fX9_24 rfl (by first | assumption | rfl) (by omega) ?_
    refine r_aload_n (i := 0) (pc' := 13) dX9_hasMore_12 rfl rfl (.head _) ?_
    refine r_getR (pc' := 16) dX9_hasMore_13 rfl fX9_14 rfl (by first | assumption | rfl) (by omega) (by assumption) ?_
    refine r_getI (pc' := 19) dX9_hasMore_16 rfl fX9_27 rfl (by first | assumption | rfl) (by omega) ?_
    refine r_icmp_ge (t := 26) (f := 22) dX9_hasMore_19 (by decide) rfl (by first | omega | exact xv_in _ _ _ | exact rd_in _ _) (by first | omega | exact xv_in _ _ _ | exact rd_in _ _) (fun h19 => ?_) (fun h19 => ?_)
    · refine r_iconst (pc' := 27) dX9_hasMore_26 rfl ?_
      refine r_zreturn dX9_hasMore_27 rfl (by decide) ?_
      refine ⟨?_, rfl, rfl, rfl, rfl⟩
      (repeat' split) <;> first | rfl | (exfalso; omega) | (congr 3; omega)
    · refine r_iconst (pc' := 23) dX9_hasMore_22 rfl ?_
      refine r_goto (t := 27) dX9_hasMore_23 (by decide) ?_
      refine r_zreturn dX9_hasMore_27 rfl (by decide) ?_
      refine ⟨?_, rfl, rfl, rfl, rfl⟩
      (repeat' split) <;> first | rfl | (exfalso; omega) | (congr 3; omega)
set_option maxHeartbeats 4000000 in
set_option maxRecDepth 100000 in
theorem tX9_peek {l : Launch} {g : q_G} {n : Nat} {P : q_P} {X : q_X} {Y : q_Y} (hr : isRd n P) : q_Met l g mX9_peek 1 [.ref (g.1 + 444)] n P X Y (q_pv (.int (zi (rd X (xv X 444 1)))) n P X Y) := by
  obtain ⟨r0, r1, hn⟩ := id hr
  have hb := hr.b
  refine q_enter (L := [(0, .ref (g.1 + 444))]) (by decide) (Nat.le_of_ble_eq_true rfl) rfl ?_
  refine r_aload_n (i := 0) (pc' := 1) dX9_peek_0 rfl rfl (.head _) ?_
  refine r_getR (pc' := 4) dX9_peek_1 rfl fX9_14 rfl (by first | assumption | rfl) (by omega) (by assumption) ?_
  refine r_aload_n (i := 0) (pc' := 5) dX9_peek_4 rfl rfl (.head _) ?_
  refine r_getI (pc' := 8) dX9_peek_5 rfl fX9_24 rfl (by first | assumption | rfl) (by omega) ?_
  refine r_V1p (ci := 2) (pc' := 11) dX9_peek_8 rfl lX9_30 rfl (by decide) (Nat.le_of_ble_eq_true rfl) (by first | assumption | rfl) (by omega) (tX2_at hb (xv_in _ _ _)) ?_
  refine r_ireturn dX9_peek_11 rfl ?_
  exact ⟨rfl, rfl, rfl, rfl, rfl⟩
set_option maxHeartbeats 4000000 in
set_option maxRecDepth 100000 in
theorem tX9_isDigit {l : Launch} {g : q_G} {n : Nat} {P : q_P} {X : q_X} {Y : q_Y} {b : Int} (hb : q_in b) : q_Met l g mX9_isDigit 0 [.int (zi b)] n P X Y (q_pv (.int (zi (if isDig b then 1 else 0))) n P X Y) := by
  skip
  refine q_enter (L := [(0, .int (zi b))]) (by decide) (Nat.le_of_ble_eq_true rfl) rfl ?_
  refine r_iload_n (i := 0) (pc' := 1) dX9_isDigit_0 rfl rfl (.head _) ?_
  refine r_bipush (pc' := 3) dX9_isDigit_1 rfl (by decide) ?_
  refine r_icmp_lt (t := 16) (f := 6) dX9_isDigit_3 (by decide) rfl (by first | omega | exact xv_in _ _ _) (by first | omega | exact xv_in _ _ _) (fun h3 => ?_) (fun h3 => ?_)
  · refine r_iconst (pc' := 17) dX9_isDigit_16 rfl ?_
    refine r_zreturn dX9_isDigit_17 rfl (by decide) ?_
    refine ⟨?_, rfl, rfl, rfl, rfl⟩
    (repeat' split) <;> first | rfl | (exfalso; omega) | (congr 3; omega)
  · refine r_iload_n (i := 0) (pc' := 7) dX9_isDigit_6 rfl rfl (.head _) ?_
    refine r_bipush (pc' := 9) dX9_isDigit_7 rfl (by decide) ?_
    refine r_icmp_gt (t := 16) (f := 12) dX9_isDigit_9 (by decide) rfl (by first | omega | exact xv_in _ _ _) (by first | omega | exact xv_in _ _ _) (fun h9 => ?_) (fun h9 => ?_)
    · refine r_iconst (pc' := 17) dX9_isDigit_16 rfl ?_
      refine r_zreturn dX9_isDigit_17 rfl (by decide) ?_
      refine ⟨?_, rfl, rfl, rfl, rfl⟩
      (repeat' split) <;> first | rfl | (exfalso; omega) | (congr 3; omega)
    · refine r_iconst (pc' := 13) dX9_isDigit_12 rfl ?_
      refine r_goto (t := 17) dX9_isDigit_13 (by decide) ?_
      refine r_zreturn dX9_isDigit_17 rfl (by decide) ?_
      refine ⟨?_, rfl, rfl, rfl, rfl⟩
      (repeat' split) <;> first | rfl | (exfalso; omega) | (congr 3; omega)
set_option maxHeartbeats 4000000 in
set_option maxRecDepth 100000 in
theorem tX9_begin {l : Launch} {g : q_G} {n : Nat} {P : q_P} {X : q_X} {Y : q_Y} (hr : isRd n P) : q_Met l g mX9_begin 0 [.ref (g.1 + 444)] n P X Y (q_gv (fun n' P' X' Y' => n' = n ∧ P' = P ∧ Y' = Y ∧ X' = q_up (q_up X 444 1 (zi 0)) 444 2 (zi (-1)))) := by
  obtain ⟨r0, r1, hn⟩ := id hr
  have hb := hr.b
  refine q_enter (L := [(0, .ref (g.1 + 444))]) (by decide) (Nat.le_of_ble_eq_true rfl) rfl ?_
  refine r_aload_n (i := 0) (pc' := 1) dX9_begin_0 rfl rfl (.head _) ?_
  refine r_iconst (pc' := 2) dX9_begin_1 rfl ?_
  refine r_putI (pc' := 5) dX9_begin_2 rfl fX9_24 rfl (by first | assumption | rfl) (by omega) rfl rfl ?_
  refine r_aload_n (i := 0) (pc' := 6) dX9_begin_5 rfl rfl (.head _) ?_
  refine r_iconst (pc' := 7) dX9_begin_6 rfl ?_
  refine r_putI (pc' := 10) dX9_begin_7 rfl fX9_20 rfl (by first | assumption | rfl) (by omega) rfl rfl ?_
  refine r_return dX9_begin_10 rfl ?_
  refine ⟨rfl, rfl, rfl, rfl, ?_⟩
  (repeat' split) <;> first | rfl | (exfalso; omega)
set_option maxHeartbeats 4000000 in
set_option maxRecDepth 100000 in
theorem tX9_fail {l : Launch} {g : q_G} {n : Nat} {P : q_P} {X : q_X} {Y : q_Y} {a : Int} (hr : isRd n P) : q_Met l g mX9_fail 0 [.ref (g.1 + 444), .int (zi a)] n P X Y (q_gv (fun n' P' X' Y' => n' = n ∧ P' = P ∧ Y' = Y ∧ X' = rd_fail X a)) := by
  obtain ⟨r0, r1, hn⟩ := id hr
  have hb := hr.b
  refine q_enter (L := [(0, .ref (g.1 + 444)), (1, .int (zi a))]) (by decide) (Nat.le_of_ble_eq_true rfl) rfl ?_
  refine r_aload_n (i := 0) (pc' := 1) dX9_fail_0 rfl rfl (.head _) ?_
  refine r_getI (pc' := 4) dX9_fail_1 rfl fX9_20 rfl (by first | assumption | rfl) (by omega) ?_
  refine r_iconst (pc' := 5) dX9_fail_4 rfl ?_
  refine r_icmp_ne (t := 13) (f := 8) dX9_fail_5 (by decide) rfl (by first | omega | exact xv_in _ _ _ | exact rd_in _ _) (by first | omega | exact xv_in _ _ _ | exact rd_in _ _) (fun h5 => ?_) (fun h5 => ?_)
  · refine r_return dX9_fail_13 rfl ?_
    refine ⟨rfl, rfl, rfl, rfl, ?_⟩
    unfold rd_fail; split <;> first | rfl | (exfalso; omega)
  · refine r_aload_n (i := 0) (pc' := 9) dX9_fail_8 rfl rfl (.head _) ?_
    refine r_iload_n (i := 1) (pc' := 10) dX9_fail_9 rfl rfl (.tail _ (.head _)) ?_
    refine r_putI (pc' := 13) dX9_fail_10 rfl fX9_20 rfl (by first | assumption | rfl) (by omega) rfl rfl ?_
    refine r_return dX9_fail_13 rfl ?_
    refine ⟨rfl, rfl, rfl, rfl, ?_⟩
    unfold rd_fail; split <;> first | rfl | (exfalso; omega)
set_option maxHeartbeats 4000000 in
set_option maxRecDepth 100000 in
theorem tX9_skip {l : Launch} {g : q_G} {n : Nat} {P : q_P} {X : q_X} {Y : q_Y} (hr : isRd n P) : q_Met l g mX9_skip 0 [.ref (g.1 + 444)] n P X Y (q_gv (fun n' P' X' Y' => n' = n ∧ P' = P ∧ Y' = Y ∧ X' = rd_skip X)) := by
  obtain ⟨r0, r1, hn⟩ := id hr
  have hb := hr.b
  refine q_enter (L := [(0, .ref (g.1 + 444))]) (by decide) (Nat.le_of_ble_eq_true rfl) rfl ?_
  refine r_aload_n (i := 0) (pc' := 1) dX9_skip_0 rfl rfl (.head _) ?_
  refine r_getI (pc' := 4) dX9_skip_1 rfl fX9_20 rfl (by first | assumption | rfl) (by omega) ?_
  refine r_iconst (pc' := 5) dX9_skip_4 rfl ?_
  refine r_icmp_ne (t := 18) (f := 8) dX9_skip_5 (by decide) rfl (by first | omega | exact xv_in _ _ _ | exact rd_in _ _) (by first | omega | exact xv_in _ _ _ | exact rd_in _ _) (fun h5 => ?_) (fun h5 => ?_)
  · refine r_return dX9_skip_18 rfl ?_
    refine ⟨rfl, rfl, rfl, rfl, ?_⟩
    unfold rd_skip; split <;> first | rfl | (exfalso; omega)
  · refine r_aload_n (i := 0) (pc' := 9) dX9_skip_8 rfl rfl (.head _) ?_
    refine r_dup (pc' := 10) dX9_skip_9 rfl rfl ?_
    refine r_getI (pc' := 13) dX9_skip_10 rfl fX9_24 rfl (by first | assumption | rfl) (by omega) ?_
    refine r_iconst (pc' := 14) dX9_skip_13 rfl ?_
    refine r_iadd (pc' := 15) dX9_skip_14 rfl ?_
    refine r_putI (pc' := 18) dX9_skip_15 rfl fX9_24 rfl (by first | assumption | rfl) (by omega) rfl rfl ?_
    refine r_return dX9_skip_18 rfl ?_
    refine ⟨rfl, rfl, rfl, rfl, ?_⟩
    unfold rd_skip; split <;> first | rfl | (exfalso; omega)
set_option maxHeartbeats 4000000 in
set_option maxRecDepth 100000 in
theorem tX9_expect {l : Launch} {g : q_G} {n : Nat} {P : q_P} {X : q_X} {Y : q_Y} {b : Int} (hr : isRd n P) (hbi : q_in b) : q_Met l g mX9_expect 1 [.ref (g.1 + 444), .int (zi b)] n P X Y (q_gv (fun n' P' X' Y' => n' = n ∧ P' = P ∧ Y' = Y ∧ X' = rd_exp X b)) := by
  obtain ⟨r0, r1, hn⟩ := id hr
  have hb := hr.b
  refine q_enter (L := [(0, .ref (g.1 + 444)), (1, .int (zi b))]) (by decide) (Nat.le_of_ble_eq_true rfl) rfl ?_
  refine r_aload_n (i := 0) (pc' := 1) dX9_expect_0 rfl rfl (.head _) ?_
  refine r_getI (pc' := 4) dX9_expect_1 rfl fX9_20 rfl (by first | assumption | rfl) (by omega) ?_
  refine r_iconst (pc' := 5) dX9_expect_4 rfl ?_
  refine r_icmp_eq (t := 9) (f := 8) dX9_expect_5 (by decide) rfl (by first | omega | exact xv_in _ _ _ | exact b_at_in _ _ _ _) (by first | omega | exact xv_in _ _ _ | exact b_at_in _ _ _ _) (fun h5 => ?_) (fun h5 => ?_)
  · refine r_aload_n (i := 0) (pc' := 10) dX9_expect_9 rfl rfl (.head _) ?_
    refine r_getR (pc' := 13) dX9_expect_10 rfl fX9_14 rfl (by first | assumption | rfl) (by omega) (by assumption) ?_
    refine r_aload_n (i := 0) (pc' := 14) dX9_expect_13 rfl rfl (.head _) ?_
    refine r_getI (pc' := 17) dX9_expect_14 rfl fX9_24 rfl (by first | assumption | rfl) (by omega) ?_
    refine r_V1p (ci := 2) (pc' := 20) dX9_expect_17 rfl lX9_30 rfl (by decide) (Nat.le_of_ble_eq_true rfl) (by first | assumption | rfl) (by omega) (tX2_at hb (xv_in _ _ _)) ?_
    refine r_iload_n (i := 1) (pc' := 21) dX9_expect_20 rfl rfl (.tail _ (.head _)) ?_
    refine r_icmp_ne (t := 37) (f := 24) dX9_expect_21 (by decide) rfl (by first | omega | exact xv_in _ _ _ | exact b_at_in _ _ _ _) (by first | omega | exact xv_in _ _ _ | exact b_at_in _ _ _ _) (fun h21 => ?_) (fun h21 => ?_)
    · refine r_aload_n (i := 0) (pc' := 38) dX9_expect_37 rfl rfl (.head _) ?_
      refine r_aload_n (i := 0) (pc' := 39) dX9_expect_38 rfl rfl (.head _) ?_
      refine r_getI (pc' := 42) dX9_expect_39 rfl fX9_24 rfl (by first | assumption | rfl) (by omega) ?_
      refine r_putI (pc' := 45) dX9_expect_42 rfl fX9_20 rfl (by first | assumption | rfl) (by omega) rfl rfl ?_
      refine r_return dX9_expect_45 rfl ?_
      refine ⟨rfl, rfl, rfl, rfl, ?_⟩
      unfold rd_exp rd; (repeat' split) <;> first | rfl | (exfalso; omega)
    · refine r_aload_n (i := 0) (pc' := 25) dX9_expect_24 rfl rfl (.head _) ?_
      refine r_dup (pc' := 26) dX9_expect_25 rfl rfl ?_
      refine r_getI (pc' := 29) dX9_expect_26 rfl fX9_24 rfl (by first | assumption | rfl) (by omega) ?_
      refine r_iconst (pc' := 30) dX9_expect_29 rfl ?_
      refine r_iadd (pc' := 31) dX9_expect_30 rfl ?_
      refine r_putI (pc' := 34) dX9_expect_31 rfl fX9_24 rfl (by first | assumption | rfl) (by omega) rfl rfl ?_
      refine r_goto (t := 45) dX9_expect_34 (by decide) ?_
      refine r_return dX9_expect_45 rfl ?_
      refine ⟨rfl, rfl, rfl, rfl, ?_⟩
      unfold rd_exp rd; (repeat' split) <;> first | rfl | (exfalso; omega)
  · refine r_return dX9_expect_8 rfl ?_
    refine ⟨rfl, rfl, rfl, rfl, ?_⟩
    unfold rd_exp rd; (repeat' split) <;> first | rfl | (exfalso; omega)
