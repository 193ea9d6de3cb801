/-! the tally lies at 453: hit, parts, likely, gone, order -/
def isTal (n : Nat) (P : q_P) : Prop := P 453 0 = some 454 ∧ P 453 1 = some 455 ∧ P 453 2 = some 456 ∧ P 453 3 = some 457 ∧ P 453 4 = some 458 ∧ 481 ≤ n
abbrev t_ahead (X : q_X) (a b : Int) : Prop := xv X 454 b.toNat < xv X 454 a.toNat ∨ (xv X 454 a.toNat = xv X 454 b.toNat ∧ a < b)
/-- order holds numbers of contracts -/
def tOk (X : q_X) : Prop := (0 ≤ xv X 453 5 ∧ xv X 453 5 ≤ 40) ∧ ∀ i : Nat, (i : Int) < xv X 453 5 → 0 ≤ xv X 458 i ∧ xv X 458 i < 40
def t_tot (X : q_X) (fp : Int) : Nat → Nat → Int → Int
  | 0, _, _ => 0
  | w + 1, i, full => if xv X 457 (xv X 458 i).toNat = 0 then (xv X 456 (xv X 458 i).toNat + if full < fp then xv X 454 (xv X 458 i).toNat else xv X 455 (xv X 458 i).toNat) + t_tot X fp w (i + 1) (full + 1) else t_tot X fp w (i + 1) full
def t_count (X : q_X) (b : Nat) (day : Int) : Int := xv X (b + 2) (xv X b 0).toNat + t_tot X (bk_full X b day) (xv X 453 5).toNat 0 0
def t_room (X : q_X) (b : Nat) : Int := xv X (b + 1) (xv X b 0).toNat - t_count X b (xv X b 1)
def t_shift (X : q_X) (k : Nat) (pay part : Int) : q_X := q_up (q_up X 454 k (zi (xv X 454 k + (part - pay)))) 455 k (zi (xv X 455 k + part))
/-- the books are none of the rest -/
def bApart (b : Nat) : Prop := (1 ≤ b ∧ b + 220 ≤ 441) ∨ 481 ≤ b
theorem bAg_of {X : q_X} {b i : Nat} (hb : bApart b) (hi : 441 ≤ i ∧ i < 481) (j : Nat) (v : Int32) : bAg X (q_up X i j v) b := fun d hd _ => xv_up_row X j v (by unfold bApart at hb; omega)
def t_saved (X : q_X) (b : Nat) (k day : Int) : Int := if ¬ bk_ref X b k = 0 then 0 else t_count X b day - (t_count (q_up X 457 k.toNat (zi 1)) b day + bk_dead X b (con b k.toNat) day)
set_option maxHeartbeats 4000000 in
set_option maxRecDepth 100000 in
theorem tX10_isAhead {l : Launch} {g : q_G} {n : Nat} {P : q_P} {X : q_X} {Y : q_Y} {a b : Int} (ht : isTal n P) (ha : 0 ≤ a ∧ a < 40) (hb : 0 ≤ b ∧ b < 40) : q_Met l g mX10_isAhead 0 [.ref (g.1 + 453), .int (zi a), .int (zi b)] n P X Y (q_pv (.int (zi (if t_ahead X a b then 1 else 0))) n P X Y) := by
  obtain ⟨t0, t1, t2, t3, t4, hnt⟩ := id ht
  refine q_enter (L := [(0, .ref (g.1 + 453)), (1, .int (zi a)), (2, .int (zi b))]) (by decide) (Nat.le_of_ble_eq_true rfl) rfl ?_
  refine r_aload_n (i := 0) (pc' := 1) dX10_isAhead_0 rfl rfl (.head _) ?_
  refine r_getR (pc' := 4) dX10_isAhead_1 rfl fX10_9 rfl (by first | assumption | rfl) (by omega) (by assumption) ?_
  refine r_iload_n (i := 1) (pc' := 5) dX10_isAhead_4 rfl rfl (.tail _ (.head _)) ?_
  refine r_iaload (pc' := 6) dX10_isAhead_5 rfl (by first | assumption | rfl) (by omega) (by omega) (by omega) (by first | decide | omega) rfl ?_
  refine r_aload_n (i := 0) (pc' := 7) dX10_isAhead_6 rfl rfl (.head _) ?_
  refine r_getR (pc' := 10) dX10_isAhead_7 rfl fX10_9 rfl (by first | assumption | rfl) (by omega) (by assumption) ?_
  refine r_iload_n (i := 2) (pc' := 11) dX10_isAhead_10 rfl rfl (.tail _ (.tail _ (.head _))) ?_
  refine r_iaload (pc' := 12) dX10_isAhead_11 rfl (by first | assumption | rfl) (by omega) (by omega) (by omega) (by first | decide | omega) rfl ?_
  refine r_icmp_gt (t := 35) (f := 15) dX10_isAhead_12 (by decide) rfl (by first | omega | exact xv_in _ _ _) (by first | omega | exact xv_in _ _ _) (fun h12 => ?_) (fun h12 => ?_)
  · refine r_iconst (pc' := 36) dX10_isAhead_35 rfl ?_
    refine r_goto (t := 40) dX10_isAhead_36 (by decide) ?_
    refine r_zreturn dX10_isAhead_40 rfl (by decide) ?_
    refine ⟨?_, rfl, rfl, rfl, rfl⟩
    (repeat' split) <;> first | rfl | (exfalso; omega) | (congr 3; omega)
  · refine r_aload_n (i := 0) (pc' := 16) dX10_isAhead_15 rfl rfl (.head _) ?_
    refine r_getR (pc' := 19) dX10_isAhead_16 rfl fX10_9 rfl (by first | assumption | rfl) (by omega) (by assumption) ?_
    refine r_iload_n (i := 1) (pc' := 20) dX10_isAhead_19 rfl rfl (.tail _ (.head _)) ?_
    refine r_iaload (pc' := 21) dX10_isAhead_20 rfl (by first | assumption | rfl) (by omega) (by omega) (by omega) (by first | decide | omega) rfl ?_
    refine r_aload_n (i := 0) (pc' := 22) dX10_isAhead_21 rfl rfl (.head _) ?_
    refine r_getR (pc' := 25) dX10_isAhead_22 rfl fX10_9 rfl (by first | assumption | rfl) (by omega) (by assumption) ?_
    refine r_iload_n (i := 2) (pc' := 26) dX10_isAhead_25 rfl rfl (.tail _ (.tail _ (.head _))) ?_
    refine r_iaload (pc' := 27) dX10_isAhead_26 rfl (by first | assumption | rfl) (by omega) (by omega) (by omega) (by first | decide | omega) rfl ?_
    refine r_icmp_ne (t := 39) (f := 30) dX10_isAhead_27 (by decide) rfl (by first | omega | exact xv_in _ _ _) (by first | omega | exact xv_in _ _ _) (fun h27 => ?_) (fun h27 => ?_)
    · refine r_iconst (pc' := 40) dX10_isAhead_39 rfl ?_
      refine r_zreturn dX10_isAhead_40 rfl (by decide) ?_
      refine ⟨?_, rfl, rfl, rfl, rfl⟩
      (repeat' split) <;> first | rfl | (exfalso; omega) | (congr 3; omega)
    · refine r_iload_n (i := 1) (pc' := 31) dX10_isAhead_30 rfl rfl (.tail _ (.head _)) ?_
      refine r_iload_n (i := 2) (pc' := 32) dX10_isAhead_31 rfl rfl (.tail _ (.tail _ (.head _))) ?_
      refine r_icmp_ge (t := 39) (f := 35) dX10_isAhead_32 (by decide) rfl (by first | omega | exact xv_in _ _ _) (by first | omega | exact xv_in _ _ _) (fun h32 => ?_) (fun h32 => ?_)
      · refine r_iconst (pc' := 40) dX10_isAhead_39 rfl ?_
        refine r_zreturn dX10_isAhead_40 rfl (by decide) ?_
        refine ⟨?_, rfl, rfl, rfl, rfl⟩
        (repeat' split) <;> first | rfl | (exfalso; omega) | (congr 3; omega)
      · refine r_iconst (pc' := 36) dX10_isAhead_35 rfl ?_
        refine r_goto (t := 40) dX10_isAhead_36 (by decide) ?_
        refine r_zreturn dX10_isAhead_40 rfl (by decide) ?_
        refine ⟨?_, rfl, rfl, rfl, rfl⟩
        (repeat' split) <;> first | rfl | (exfalso; omega) | (congr 3; omega)
set_option maxHeartbeats 4000000 in
set_option maxRecDepth 100000 in
theorem tX10_shift {l : Launch} {g : q_G} {n : Nat} {P : q_P} {X : q_X} {Y : q_Y} {k : Nat} {pay part : Int} (ht : isTal n P) (hk : k < 40) : q_Met l g mX10_shift 0 [.ref (g.1 + 453), .int (zi (k : Int)), .int (zi pay), .int (zi part)] n P X Y (q_gv (fun n' P' X' Y' => n' = n ∧ P' = P ∧ Y' = Y ∧ X' = t_shift X k pay part)) := by
  obtain ⟨t0, t1, t2, t3, t4, hnt⟩ := id ht
  refine q_enter (L := [(0, .ref (g.1 + 453)), (1, .int (zi (k : Int))), (2, .int (zi pay)), (3, .int (zi part))]) (by decide) (Nat.le_of_ble_eq_true rfl) rfl ?_
  refine r_iload_n (i := 1) (pc' := 1) dX10_shift_0 rfl rfl (.tail _ (.head _)) ?_
  refine r_if_lt (t := 32) (f := 4) dX10_shift_1 (by decide) rfl (by first | omega | exact xv_in _ _ _) (fun h1 => ?_) (fun h1 => ?_)
  · exfalso; omega
  · refine r_iload_n (i := 1) (pc' := 5) dX10_shift_4 rfl rfl (.tail _ (.head _)) ?_
    refine r_bipush (pc' := 7) dX10_shift_5 rfl (by decide) ?_
    refine r_icmp_ge (t := 32) (f := 10) dX10_shift_7 (by decide) rfl (by first | omega | exact xv_in _ _ _) (by first | omega | exact xv_in _ _ _) (fun h7 => ?_) (fun h7 => ?_)
    · exfalso; omega
    · refine r_aload_n (i := 0) (pc' := 11) dX10_shift_10 rfl rfl (.head _) ?_
      refine r_getR (pc' := 14) dX10_shift_11 rfl fX10_9 rfl (by first | assumption | rfl) (by omega) (by assumption) ?_
      refine r_iload_n (i := 1) (pc' := 15) dX10_shift_14 rfl rfl (.tail _ (.head _)) ?_
      refine r_dup2 (pc' := 16) dX10_shift_15 rfl rfl rfl ?_
      refine r_iaload (pc' := 17) dX10_shift_16 rfl (by first | assumption | rfl) (by omega) (by omega) (by omega) (by first | decide | omega) (Int.toNat_natCast _) ?_
      refine r_iload_n (i := 3) (pc' := 18) dX10_shift_17 rfl rfl (.tail _ (.tail _ (.tail _ (.head _)))) ?_
      refine r_iload_n (i := 2) (pc' := 19) dX10_shift_18 rfl rfl (.tail _ (.tail _ (.head _))) ?_
      refine r_isub (pc' := 20) dX10_shift_19 rfl ?_
      refine r_iadd (pc' := 21) dX10_shift_20 rfl ?_
      refine r_iastore (pc' := 22) dX10_shift_21 rfl (by first | assumption | rfl) (by omega) (by omega) (by omega) (by first | decide | omega) (Int.toNat_natCast _) ?_
      refine r_aload_n (i := 0) (pc' := 23) dX10_shift_22 rfl rfl (.head _) ?_
      refine r_getR (pc' := 26) dX10_shift_23 rfl fX10_15 rfl (by first | assumption | rfl) (by omega) (by assumption) ?_
      refine r_iload_n (i := 1) (pc' := 27) dX10_shift_26 rfl rfl (.tail _ (.head _)) ?_
      refine r_dup2 (pc' := 28) dX10_shift_27 rfl rfl rfl ?_
      refine r_iaload (pc' := 29) dX10_shift_28 rfl (by first | assumption | rfl) (by omega) (by omega) (by omega) (by first | decide | omega) (Int.toNat_natCast _) ?_
      refine r_iload_n (i := 3) (pc' := 30) dX10_shift_29 rfl rfl (.tail _ (.tail _ (.tail _ (.head _)))) ?_
      refine r_iadd (pc' := 31) dX10_shift_30 rfl ?_
      refine r_iastore (pc' := 32) dX10_shift_31 rfl (by first | assumption | rfl) (by omega) (by omega) (by omega) (by first | decide | omega) (Int.toNat_natCast _) ?_
      refine r_return dX10_shift_32 rfl ?_
      refine ⟨rfl, rfl, rfl, rfl, ?_⟩
      rw [t_shift, xv_up_ne _ _ (by omega)]
set_option maxHeartbeats 4000000 in
set_option maxRecDepth 100000 in
theorem lX10_total {l : Launch} {g : q_G} {n : Nat} {P : q_P} {X : q_X} {Y : q_Y} {fp r : Int} (ht : isTal n P) (hT : tOk X) (hf : q_in fp) : ∀ (w i : Nat) (s full : Int), i + w = (xv X 453 5).toNat → 0 ≤ full ∧ full ≤ i → s + t_tot X fp w i full = r → q_Tr l g mX10_total 0 (q_pv (.int (zi r)) n P X Y) 7 [(0, .ref (g.1 + 453)), (1, .int (zi fp)), (2, .int (zi s)), (3, .int (zi full)), (4, .int (zi (i : Int)))] [] n P X Y := by
  obtain ⟨t0, t1, t2, t3, t4, hnt⟩ := id ht
  obtain ⟨hz, ho⟩ := id hT
  intro w
  induction w with
  | zero =>
    intro i s full hk hfu hr
    refine r_iload (pc' := 9) dX10_total_7 rfl (.tail _ (.tail _ (.tail _ (.tail _ (.head _))))) ?_
    refine r_aload_n (i := 0) (pc' := 10) dX10_total_9 rfl rfl (.head _) ?_
    refine r_getI (pc' := 13) dX10_total_10 rfl fX10_28 rfl (by first | assumption | rfl) (by omega) ?_
    refine r_icmp_ge (t := 80) (f := 16) dX10_total_13 (by decide) rfl (by first | omega | exact xv_in _ _ _) (by first | omega | exact xv_in _ _ _) (fun h13 => ?_) (fun h13 => ?_)
    · refine r_iload_n (i := 2) (pc' := 81) dX10_total_80 rfl rfl (.tail _ (.tail _ (.head _))) ?_
      refine r_ireturn dX10_total_81 rfl ?_
      refine ⟨?_, rfl, rfl, rfl, rfl⟩
      rw [← hr]; simp [t_tot]
    · exfalso; omega
  | succ w ih =>
    intro i s full hk hfu hr
    have hoi := ho i (by omega)
    rw [t_tot] at hr
    refine r_iload (pc' := 9) dX10_total_7 rfl (.tail _ (.tail _ (.tail _ (.tail _ (.head _))))) ?_
    refine r_aload_n (i := 0) (pc' := 10) dX10_total_9 rfl rfl (.head _) ?_
    refine r_getI (pc' := 13) dX10_total_10 rfl fX10_28 rfl (by first | assumption | rfl) (by omega) ?_
    refine r_icmp_ge (t := 80) (f := 16) dX10_total_13 (by decide) rfl (by first | omega | exact xv_in _ _ _) (by first | omega | exact xv_in _ _ _) (fun h13 => ?_) (fun h13 => ?_)
    · exfalso; omega
    · refine r_aload_n (i := 0) (pc' := 17) dX10_total_16 rfl rfl (.head _) ?_
      refine r_getR (pc' := 20) dX10_total_17 rfl fX10_25 rfl (by first | assumption | rfl) (by omega) (by assumption) ?_
      refine r_iload (pc' := 22) dX10_total_20 rfl (.tail _ (.tail _ (.tail _ (.tail _ (.head _))))) ?_
      refine r_iaload (pc' := 23) dX10_total_22 rfl (by first | assumption | rfl) (by omega) (by omega) (by omega) (by first | decide | omega) (Int.toNat_natCast _) ?_
      refine r_istore (pc' := 25) dX10_total_23 rfl rfl (.s1 (.s1 (.s1 (.s1 (.s1 .nil rfl rfl rfl) rfl rfl rfl) rfl rfl rfl) rfl rfl rfl) rfl rfl rfl) ?_
      refine r_aload_n (i := 0) (pc' := 26) dX10_total_25 rfl rfl (.head _) ?_
      refine r_getR (pc' := 29) dX10_total_26 rfl fX10_21 rfl (by first | assumption | rfl) (by omega) (by assumption) ?_
      refine r_iload (pc' := 31) dX10_total_29 rfl (.tail _ (.tail _ (.tail _ (.tail _ (.tail _ (.head _)))))) ?_
      refine r_zaload (pc' := 32) dX10_total_31 rfl (by first | assumption | rfl) (by omega) (by omega) (by omega) (by first | decide | omega) rfl ?_
      refine r_if_eq (t := 38) (f := 35) dX10_total_32 (by decide) rfl (by first | omega | exact xv_in _ _ _) (fun h32 => ?_) (fun h32 => ?_)
      · rw [if_pos h32] at hr
        refine r_iload_n (i := 2) (pc' := 39) dX10_total_38 rfl rfl (.tail _ (.tail _ (.head _))) ?_
        refine r_aload_n (i := 0) (pc' := 40) dX10_total_39 rfl rfl (.head _) ?_
        refine r_getR (pc' := 43) dX10_total_40 rfl fX10_18 rfl (by first | assumption | rfl) (by omega) (by assumption) ?_
        refine r_iload (pc' := 45) dX10_total_43 rfl (.tail _ (.tail _ (.tail _ (.tail _ (.tail _ (.head _)))))) ?_
        refine r_iaload (pc' := 46) dX10_total_45 rfl (by first | assumption | rfl) (by omega) (by omega) (by omega) (by first | decide | omega) rfl ?_
        refine r_iload_n (i := 3) (pc' := 47) dX10_total_46 rfl rfl (.tail _ (.tail _ (.tail _ (.head _)))) ?_
        refine r_iload_n (i := 1) (pc' := 48) dX10_total_47 rfl rfl (.tail _ (.head _)) ?_
        refine r_icmp_ge (t := 61) (f := 51) dX10_total_48 (by decide) rfl (by first | omega | exact xv_in _ _ _) (by first | omega | exact xv_in _ _ _) (fun h48 => ?_) (fun h48 => ?_)
        · rw [if_neg (by omega)] at hr
          refine r_aload_n (i := 0) (pc' := 62) dX10_total_61 rfl rfl (.head _) ?_
          refine r_getR (pc' := 65) dX10_total_62 rfl fX10_15 rfl (by first | assumption | rfl) (by omega) (by assumption) ?_
          refine r_iload (pc' := 67) dX10_total_65 rfl (.tail _ (.tail _ (.tail _ (.tail _ (.tail _ (.head _)))))) ?_
          refine r_iaload (pc' := 68) dX10_total_67 rfl (by first | assumption | rfl) (by omega) (by omega) (by omega) (by first | decide | omega) rfl ?_
          refine r_iadd (pc' := 69) dX10_total_68 rfl ?_
          refine r_iadd (pc' := 70) dX10_total_69 rfl ?_
          refine r_istore_n (i := 2) (pc' := 71) dX10_total_70 rfl rfl rfl (.s1 (.s1 (.here (.s1 (.s1 (.s1 .nil rfl rfl rfl) rfl rfl rfl) rfl rfl rfl)) rfl rfl rfl) rfl rfl rfl) ?_
          refine r_iinc (pc' := 74) dX10_total_71 rfl rfl (.tail _ (.tail _ (.tail _ (.head _)))) (.s1 (.s1 (.s1 (.here (.s1 (.s1 .nil rfl rfl rfl) rfl rfl rfl)) rfl rfl rfl) rfl rfl rfl) rfl rfl rfl) ?_
          refine r_iinc (pc' := 77) dX10_total_74 rfl rfl (.tail _ (.tail _ (.tail _ (.tail _ (.head _))))) (.s1 (.s1 (.s1 (.s1 (.here (.s1 .nil rfl rfl rfl)) rfl rfl rfl) rfl rfl rfl) rfl rfl rfl) rfl rfl rfl) ?_
          refine r_goto (t := 7) dX10_total_77 (by decide) ?_
          refine r_sub (.kp (.kp (.kp (.kp (.kp (.dr .nil)))))) ?_
          exact ih (i + 1) _ _ (by omega) (by omega) (by omega)
        · rw [if_pos h48] at hr
          refine r_aload_n (i := 0) (pc' := 52) dX10_total_51 rfl rfl (.head _) ?_
          refine r_getR (pc' := 55) dX10_total_52 rfl fX10_9 rfl (by first | assumption | rfl) (by omega) (by assumption) ?_
          refine r_iload (pc' := 57) dX10_total_55 rfl (.tail _ (.tail _ (.tail _ (.tail _ (.tail _ (.head _)))))) ?_
          refine r_iaload (pc' := 58) dX10_total_57 rfl (by first | assumption | rfl) (by omega) (by omega) (by omega) (by first | decide | omega) rfl ?_
          refine r_goto (t := 68) dX10_total_58 (by decide) ?_
          refine r_iadd (pc' := 69) dX10_total_68 rfl ?_
          refine r_iadd (pc' := 70) dX10_total_69 rfl ?_
          refine r_istore_n (i := 2) (pc' := 71) dX10_total_70 rfl rfl rfl (.s1 (.s1 (.here (.s1 (.s1 (.s1 .nil rfl rfl rfl) rfl rfl rfl) rfl rfl rfl)) rfl rfl rfl) rfl rfl rfl) ?_
          refine r_iinc (pc' := 74) dX10_total_71 rfl rfl (.tail _ (.tail _ (.tail _ (.head _)))) (.s1 (.s1 (.s1 (.here (.s1 (.s1 .nil rfl rfl rfl) rfl rfl rfl)) rfl rfl rfl) rfl rfl rfl) rfl rfl rfl) ?_
          refine r_iinc (pc' := 77) dX10_total_74 rfl rfl (.tail _ (.tail _ (.tail _ (.tail _ (.head _))))) (.s1 (.s1 (.s1 (.s1 (.here (.s1 .nil rfl rfl rfl)) rfl rfl rfl) rfl rfl rfl) rfl rfl rfl) rfl rfl rfl) ?_
          refine r_goto (t := 7) dX10_total_77 (by decide) ?_
          refine r_sub (.kp (.kp (.kp (.kp (.kp (.dr .nil)))))) ?_
          exact ih (i + 1) _ _ (by omega) (by omega) (by omega)
      · rw [if_neg h32] at hr
        refine r_goto (t := 74) dX10_total_35 (by decide) ?_
        refine r_iinc (pc' := 77) dX10_total_74 rfl rfl (.tail _ (.tail _ (.tail _ (.tail _ (.head _))))) (.s1 (.s1 (.s1 (.s1 (.here (.s1 .nil rfl rfl rfl)) rfl rfl rfl) rfl rfl rfl) rfl rfl rfl) rfl rfl rfl) ?_
        refine r_goto (t := 7) dX10_total_77 (by decide) ?_
        refine r_sub (.kp (.kp (.kp (.kp (.kp (.dr .nil)))))) ?_
        exact ih (i + 1) _ _ (by omega) (by omega) (by omega)
set_option maxHeartbeats 4000000 in
set_option maxRecDepth 100000 in
theorem tX10_total {l : Launch} {g : q_G} {n : Nat} {P : q_P} {X : q_X} {Y : q_Y} {fp : Int} (ht : isTal n P) (hT : tOk X) (hf : q_in fp) : q_Met l g mX10_total 0 [.ref (g.1 + 453), .int (zi fp)] n P X Y (q_pv (.int (zi (t_tot X fp (xv X 453 5).toNat 0 0))) n P X Y) := by
  obtain ⟨t0, t1, t2, t3, t4, hnt⟩ := id ht
  refine q_enter (L := [(0, .ref (g.1 + 453)), (1, .int (zi fp))]) (by decide) (Nat.le_of_ble_eq_true rfl) rfl ?_
  refine r_iconst (pc' := 1) dX10_total_0 rfl ?_
  refine r_istore_n (i := 2) (pc' := 2) dX10_total_1 rfl rfl rfl (.s1 (.s1 .nil rfl rfl rfl) rfl rfl rfl) ?_
  refine r_iconst (pc' := 3) dX10_total_2 rfl ?_
  refine r_istore_n (i := 3) (pc' := 4) dX10_total_3 rfl rfl rfl (.s1 (.s1 (.s1 .nil rfl rfl rfl) rfl rfl rfl) rfl rfl rfl) ?_
  refine r_iconst (pc' := 5) dX10_total_4 rfl ?_
  refine r_istore (pc' := 7) dX10_total_5 rfl rfl (.s1 (.s1 (.s1 (.s1 .nil rfl rfl rfl) rfl rfl rfl) rfl rfl rfl) rfl rfl rfl) ?_
  have hz := hT.1
  exact lX10_total ht hT hf (xv X 453 5).toNat 0 0 0 (by omega) (by omega) (Int.zero_add _)
theorem bk_full_in {X : q_X} {b : Nat} (hO : bOk X b) (day : Int) : 1 ≤ bk_full X b day ∧ bk_full X b day ≤ 40 := by
  have := hO.2.2.2.2.2.1
  unfold bk_full; split <;> omega
set_option maxHeartbeats 4000000 in
set_option maxRecDepth 100000 in
theorem tX10_count {l : Launch} {g : q_G} {n : Nat} {P : q_P} {X : q_X} {Y : q_Y} {b : Nat} {day : Int} (hb : isBk n P b) (hO : bOk X b) (ht : isTal n P) (hT : tOk X) (hd : q_in day) : q_Met l g mX10_count 1 [.ref (g.1 + 453), .ref (g.1 + b), .int (zi day)] n P X Y (q_pv (.int (zi (t_count X b day))) n P X Y) := by
  obtain ⟨b0, b1, b2, b3, q7, q8, q9, q11, q12, q13, hn, hpro, hmar, hfor, hcs⟩ := id hb
  obtain ⟨o0, o1, o2, o3, o4, o5, o6, o10, oc, op0, opz, opi, om0, omi, olim⟩ := id hO
  obtain ⟨t0, t1, t2, t3, t4, hnt⟩ := id ht
  refine q_enter (L := [(0, .ref (g.1 + 453)), (1, .ref (g.1 + b)), (2, .int (zi day))]) (by decide) (Nat.le_of_ble_eq_true rfl) rfl ?_
  refine r_aload_n (i := 1) (pc' := 1) dX10_count_0 rfl rfl (.tail _ (.head _)) ?_
  refine r_getR (pc' := 4) dX10_count_1 rfl fX10_82 rfl (by first | assumption | rfl) (by omega) (by assumption) ?_
  refine r_aload_n (i := 1) (pc' := 5) dX10_count_4 rfl rfl (.tail _ (.head _)) ?_
  refine r_getI (pc' := 8) dX10_count_5 rfl fX10_39 rfl (by first | assumption | rfl) (by omega) ?_
  refine r_iaload (pc' := 9) dX10_count_8 rfl (by first | assumption | rfl) (by omega) (by omega) (by omega) (by first | decide | omega) rfl ?_
  refine r_aload_n (i := 0) (pc' := 10) dX10_count_9 rfl rfl (.head _) ?_
  refine r_aload_n (i := 1) (pc' := 11) dX10_count_10 rfl rfl (.tail _ (.head _)) ?_
  refine r_iload_n (i := 2) (pc' := 12) dX10_count_11 rfl rfl (.tail _ (.tail _ (.head _))) ?_
  refine r_V1p (ci := 1) (pc' := 15) dX10_count_12 rfl lX10_85 rfl (by decide) (Nat.le_of_ble_eq_true rfl) (by first | assumption | rfl) (by omega) (tX1_fullPlaces (by assumption) (by omega)) ?_
  refine r_V1p (ci := 10) (pc' := 18) dX10_count_15 rfl lX10_88 rfl (by decide) (Nat.le_of_ble_eq_true rfl) (by first | assumption | rfl) (by omega) (tX10_total (by assumption) (by assumption) (by have := bk_full_in hO (day := day); omega)) ?_
  refine r_iadd (pc' := 19) dX10_count_18 rfl ?_
  refine r_ireturn dX10_count_19 rfl ?_
  refine ⟨?_, rfl, rfl, rfl, rfl⟩
  unfold t_count
  (repeat' split) <;> first | rfl | (exfalso; omega) | (congr 3; omega)
set_option maxHeartbeats 4000000 in
set_option maxRecDepth 100000 in
theorem tX10_room {l : Launch} {g : q_G} {n : Nat} {P : q_P} {X : q_X} {Y : q_Y} {b : Nat} (hb : isBk n P b) (hO : bOk X b) (ht : isTal n P) (hT : tOk X) : q_Met l g mX10_room 2 [.ref (g.1 + 453), .ref (g.1 + b)] n P X Y (q_pv (.int (zi (t_room X b))) n P X Y) := by
  obtain ⟨b0, b1, b2, b3, q7, q8, q9, q11, q12, q13, hn, hpro, hmar, hfor, hcs⟩ := id hb
  obtain ⟨o0, o1, o2, o3, o4, o5, o6, o10, oc, op0, opz, opi, om0, omi, olim⟩ := id hO
  obtain ⟨t0, t1, t2, t3, t4, hnt⟩ := id ht
  refine q_enter (L := [(0, .ref (g.1 + 453)), (1, .ref (g.1 + b))]) (by decide) (Nat.le_of_ble_eq_true rfl) rfl ?_
  refine r_aload_n (i := 1) (pc' := 1) dX10_room_0 rfl rfl (.tail _ (.head _)) ?_
  refine r_getR (pc' := 4) dX10_room_1 rfl fX10_91 rfl (by first | assumption | rfl) (by omega) (by assumption) ?_
  refine r_aload_n (i := 1) (pc' := 5) dX10_room_4 rfl rfl (.tail _ (.head _)) ?_
  refine r_getI (pc' := 8) dX10_room_5 rfl fX10_39 rfl (by first | assumption | rfl) (by omega) ?_
  refine r_iaload (pc' := 9) dX10_room_8 rfl (by first | assumption | rfl) (by omega) (by omega) (by omega) (by first | decide | omega) rfl ?_
  refine r_aload_n (i := 0) (pc' := 10) dX10_room_9 rfl rfl (.head _) ?_
  refine r_aload_n (i := 1) (pc' := 11) dX10_room_10 rfl rfl (.tail _ (.head _)) ?_
  refine r_aload_n (i := 1) (pc' := 12) dX10_room_11 rfl rfl (.tail _ (.head _)) ?_
  refine r_getI (pc' := 15) dX10_room_12 rfl fX10_94 rfl (by first | assumption | rfl) (by omega) ?_
  refine r_V2p (ci := 10) (pc' := 18) dX10_room_15 rfl lX10_97 rfl (by decide) (Nat.le_of_ble_eq_true rfl) (by first | assumption | rfl) (by omega) (tX10_count (by assumption) (by assumption) (by assumption) (by assumption) (by omega)) ?_
  refine r_isub (pc' := 19) dX10_room_18 rfl ?_
  refine r_ireturn dX10_room_19 rfl ?_
  refine ⟨?_, rfl, rfl, rfl, rfl⟩
  unfold t_room
  (repeat' split) <;> first | rfl | (exfalso; omega) | (congr 3; omega)
set_option maxHeartbeats 4000000 in
set_option maxRecDepth 100000 in
theorem tX10_saved {l : Launch} {g : q_G} {n : Nat} {P : q_P} {X : q_X} {Y : q_Y} {b : Nat} {k day : Int} (hb : isBk n P b) (hO : bOk X b) (ht : isTal n P) (hT : tOk X) (hap : bApart b) (hi : q_in k) (hd : q_in day) (hg : bk_ref X b k = 0 → xv X 457 k.toNat = 0) : q_Met l g mX10_saved 4 [.ref (g.1 + 453), .ref (g.1 + b), .int (zi k), .int (zi day)] n P X Y (q_pv (.int (zi (t_saved X b k day))) n P X Y) := by
  obtain ⟨b0, b1, b2, b3, q7, q8, q9, q11, q12, q13, hn, hpro, hmar, hfor, hcs⟩ := id hb
  obtain ⟨o0, o1, o2, o3, o4, o5, o6, o10, oc, op0, opz, opi, om0, omi, olim⟩ := id hO
  obtain ⟨t0, t1, t2, t3, t4, hnt⟩ := id ht
  refine q_enter (L := [(0, .ref (g.1 + 453)), (1, .ref (g.1 + b)), (2, .int (zi k)), (3, .int (zi day))]) (by decide) (Nat.le_of_ble_eq_true rfl) rfl ?_
  refine r_aload_n (i := 1) (pc' := 1) dX10_saved_0 rfl rfl (.tail _ (.head _)) ?_
  refine r_iload_n (i := 2) (pc' := 2) dX10_saved_1 rfl rfl (.tail _ (.tail _ (.head _))) ?_
  by_cases hk : bk_ref X b k = 0
  · have hh := bk_ref_has hk
    have hc := hb.c (k := k.toNat) (by omega)
    obtain ⟨s0, s1, s2, s3, s4, p6, p7, p8, p9, hnc⟩ := id hc
    have hck := hO.c (k := k.toNat) (by omega)
    obtain ⟨hf, hf2, hf3, hf4, hfj, hfs, hfg⟩ := id hck
    refine r_V1p (ci := 1) (pc' := 5) dX10_saved_2 rfl lX10_101 rfl (by decide) (Nat.le_of_ble_eq_true rfl) (by first | assumption | rfl) (by omega) (tX1_findBegun (by assumption) (by assumption) (by first | assumption | omega) (by assumption)) ?_
    refine r_astore (pc' := 7) dX10_saved_5 rfl rfl (.s1 (.s1 (.s1 (.s1 .nil rfl rfl rfl) rfl rfl rfl) rfl rfl rfl) rfl rfl rfl) ?_
    refine r_aload (pc' := 9) dX10_saved_7 rfl (.tail _ (.tail _ (.tail _ (.tail _ (.head _))))) ?_
    refine r_ifnonnull (t := 14) dX10_saved_9 (by decide) ?_
    refine r_aload_n (i := 0) (pc' := 15) dX10_saved_14 rfl rfl (.head _) ?_
    refine r_aload_n (i := 1) (pc' := 16) dX10_saved_15 rfl rfl (.tail _ (.head _)) ?_
    refine r_iload_n (i := 3) (pc' := 17) dX10_saved_16 rfl rfl (.tail _ (.tail _ (.tail _ (.head _)))) ?_
    refine r_V2p (ci := 10) (pc' := 20) dX10_saved_17 rfl lX10_97 rfl (by decide) (Nat.le_of_ble_eq_true rfl) (by first | assumption | rfl) (by omega) (tX10_count (by assumption) (by assumption) (by assumption) (by assumption) (by omega)) ?_
    refine r_istore (pc' := 22) dX10_saved_20 rfl rfl (.s1 (.s1 (.s1 (.s1 (.s1 .nil rfl rfl rfl) rfl rfl rfl) rfl rfl rfl) rfl rfl rfl) rfl rfl rfl) ?_
    refine r_aload_n (i := 0) (pc' := 23) dX10_saved_22 rfl rfl (.head _) ?_
    refine r_getR (pc' := 26) dX10_saved_23 rfl fX10_21 rfl (by first | assumption | rfl) (by omega) (by assumption) ?_
    refine r_iload_n (i := 2) (pc' := 27) dX10_saved_26 rfl rfl (.tail _ (.tail _ (.head _))) ?_
    refine r_iconst (pc' := 28) dX10_saved_27 rfl ?_
    refine r_zastore (pc' := 29) dX10_saved_28 rfl (by first | assumption | rfl) (by omega) (by omega) (by omega) (by first | decide | omega) rfl (by omega) ?_
    have hag := bAg_of (X := X) hap (i := 457) (by omega) k.toNat (zi 1)
    have hO1 := bOk_ag hag hO
    have hag2 := hag.c (k := k.toNat) (by omega)
    have hck1 := cOk_ag hag2 hck
    have hT1 : tOk (q_up X 457 k.toNat (zi 1)) := by
      refine ⟨?_, fun i hi => ?_⟩
      · rw [xv_up_ne _ _ (by omega)]; exact hT.1
      · rw [xv_up_ne _ _ (by omega)] at hi
        rw [xv_up_ne _ _ (by omega)]; exact hT.2 i hi
    refine r_aload_n (i := 0) (pc' := 30) dX10_saved_29 rfl rfl (.head _) ?_
    refine r_aload_n (i := 1) (pc' := 31) dX10_saved_30 rfl rfl (.tail _ (.head _)) ?_
    refine r_iload_n (i := 3) (pc' := 32) dX10_saved_31 rfl rfl (.tail _ (.tail _ (.tail _ (.head _)))) ?_
    refine r_V2p (ci := 10) (pc' := 35) dX10_saved_32 rfl lX10_97 rfl (by decide) (Nat.le_of_ble_eq_true rfl) (by first | assumption | rfl) (by omega) (tX10_count hb hO1 ht hT1 (by omega)) ?_
    refine r_aload_n (i := 1) (pc' := 36) dX10_saved_35 rfl rfl (.tail _ (.head _)) ?_
    refine r_aload (pc' := 38) dX10_saved_36 rfl (.tail _ (.tail _ (.tail _ (.tail _ (.head _))))) ?_
    refine r_iload_n (i := 3) (pc' := 39) dX10_saved_38 rfl rfl (.tail _ (.tail _ (.tail _ (.head _)))) ?_
    refine r_V2p (ci := 1) (pc' := 42) dX10_saved_39 rfl lX10_105 rfl (by decide) (Nat.le_of_ble_eq_true rfl) (by first | assumption | rfl) (by omega) (tX1_deadNow hb hO1 hc hck1 (by omega)) ?_
    rw [show bk_dead (q_up X 457 k.toNat (zi 1)) b (con b k.toNat) day = bk_dead X b (con b k.toNat) day by simp only [bk_dead, bk_dPay_ag hag hag2, bk_dNow_ag hag hag2, hag.z]]
    refine r_iadd (pc' := 43) dX10_saved_42 rfl ?_
    refine r_istore (pc' := 45) dX10_saved_43 rfl rfl (.s1 (.s1 (.s1 (.s1 (.s1 (.s1 .nil rfl rfl rfl) rfl rfl rfl) rfl rfl rfl) rfl rfl rfl) rfl rfl rfl) rfl rfl rfl) ?_
    refine r_aload_n (i := 0) (pc' := 46) dX10_saved_45 rfl rfl (.head _) ?_
    refine r_getR (pc' := 49) dX10_saved_46 rfl fX10_21 rfl (by first | assumption | rfl) (by omega) (by assumption) ?_
    refine r_iload_n (i := 2) (pc' := 50) dX10_saved_49 rfl rfl (.tail _ (.tail _ (.head _))) ?_
    refine r_iconst (pc' := 51) dX10_saved_50 rfl ?_
    refine r_zastore (pc' := 52) dX10_saved_51 rfl (by first | assumption | rfl) (by omega) (by omega) (by omega) (by first | decide | omega) rfl (by omega) ?_
    refine r_eqX (X1 := X) (by rw [q_up_up, ← hg hk, q_up_id]) ?_
    refine r_iload (pc' := 54) dX10_saved_52 rfl (.tail _ (.tail _ (.tail _ (.tail _ (.tail _ (.head _)))))) ?_
    refine r_iload (pc' := 56) dX10_saved_54 rfl (.tail _ (.tail _ (.tail _ (.tail _ (.tail _ (.tail _ (.head _))))))) ?_
    refine r_isub (pc' := 57) dX10_saved_56 rfl ?_
    refine r_ireturn dX10_saved_57 rfl ?_
    refine ⟨?_, rfl, rfl, rfl, rfl⟩
    rw [t_saved]
    first | (rw [if_pos hk]; done) | (rw [if_neg (fun q => q hk)])
  · refine r_V1p (ci := 1) (pc' := 5) dX10_saved_2 rfl lX10_101 rfl (by decide) (Nat.le_of_ble_eq_true rfl) (by first | assumption | rfl) (by omega) (tX1_findBegunN (by assumption) (by assumption) (by first | assumption | omega) (by assumption)) ?_
    refine r_astoreN (pc' := 7) dX10_saved_5 rfl rfl (.s1 (.s1 (.s1 (.s1 .nil rfl rfl rfl) rfl rfl rfl) rfl rfl rfl) rfl rfl rfl) ?_
    refine r_aloadN (pc' := 9) dX10_saved_7 rfl (.tail _ (.tail _ (.tail _ (.tail _ (.head _))))) ?_
    refine r_ifnonnullN (pc' := 12) dX10_saved_9 rfl ?_
    refine r_iconst (pc' := 13) dX10_saved_12 rfl ?_
    refine r_ireturn dX10_saved_13 rfl ?_
    refine ⟨?_, rfl, rfl, rfl, rfl⟩
    rw [t_saved]
    first | (rw [if_pos hk]; done) | (rw [if_neg (fun q => q hk)])
