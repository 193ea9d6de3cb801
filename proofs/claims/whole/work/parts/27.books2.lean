set_option maxHeartbeats 4000000 in
set_option maxRecDepth 100000 in
theorem lX1_manyThatAre {l : Launch} {g : q_G} {n : Nat} {P : q_P} {X : q_X} {Y : q_Y} {b : Nat} {st : Int} (hb : isBk n P b) (hO : bOk X b) (hst : q_in st) {r : Int} : ∀ (w i : Nat) (s : Int), i + w = (xv X b 10).toNat → s + q_sum (fun i => if xv X (con b i) 4 = st then 1 else 0) i w = r → q_Tr l g mX1_manyThatAre 0 (q_pv (.int (zi r)) n P X Y) 4 [(0, .ref (g.1 + b)), (1, .int (zi st)), (2, .int (zi s)), (3, .int (zi (i : Int)))] [] n P X Y := by
  obtain ⟨b0, b1, b2, b3, q7, q8, q9, q11, q12, q13, hn, hpro, hmar, hfor, hcs⟩ := id hb
  obtain ⟨o0, o1, o2, o3, o4, o5, o6, o10, oc, op0, opz, opi, om0, omi, olim⟩ := id hO
  intro w
  induction w with
  | zero =>
    intro i s hk hr
    refine r_iload_n (i := 3) (pc' := 5) dX1_manyThatAre_4 rfl rfl (.tail _ (.tail _ (.tail _ (.head _)))) ?_
    refine r_aload_n (i := 0) (pc' := 6) dX1_manyThatAre_5 rfl rfl (.head _) ?_
    refine r_getI (pc' := 9) dX1_manyThatAre_6 rfl fX1_75 rfl (by first | assumption | rfl) (by omega) ?_
    refine r_icmp_ge (t := 34) (f := 12) dX1_manyThatAre_9 (by decide) rfl (by first | omega | exact xv_in _ _ _) (by first | omega | exact xv_in _ _ _) (fun h9 => ?_) (fun h9 => ?_)
    · refine r_iload_n (i := 2) (pc' := 35) dX1_manyThatAre_34 rfl rfl (.tail _ (.tail _ (.head _))) ?_
      refine r_ireturn dX1_manyThatAre_35 rfl ?_
      refine ⟨?_, rfl, rfl, rfl, rfl⟩
      rw [← hr]; simp [q_sum]
    · exfalso; omega
  | succ w ih =>
    intro i s hk hr
    have hc := hb.c (k := i) (by omega)
    obtain ⟨s0, s1, s2, s3, s4, p6, p7, p8, p9, hnc⟩ := id hc
    have hck := hO.c (k := i) (by omega)
    obtain ⟨hf, hf2, hf3, hf4, hfj, hfs, hfg⟩ := id hck
    refine r_iload_n (i := 3) (pc' := 5) dX1_manyThatAre_4 rfl rfl (.tail _ (.tail _ (.tail _ (.head _)))) ?_
    refine r_aload_n (i := 0) (pc' := 6) dX1_manyThatAre_5 rfl rfl (.head _) ?_
    refine r_getI (pc' := 9) dX1_manyThatAre_6 rfl fX1_75 rfl (by first | assumption | rfl) (by omega) ?_
    refine r_icmp_ge (t := 34) (f := 12) dX1_manyThatAre_9 (by decide) rfl (by first | omega | exact xv_in _ _ _) (by first | omega | exact xv_in _ _ _) (fun h9 => ?_) (fun h9 => ?_)
    · exfalso; omega
    · refine r_aload_n (i := 0) (pc' := 13) dX1_manyThatAre_12 rfl rfl (.head _) ?_
      refine r_getR (pc' := 16) dX1_manyThatAre_13 rfl fX1_36 rfl (by first | assumption | rfl) (by omega) (by assumption) ?_
      refine r_iload_n (i := 3) (pc' := 17) dX1_manyThatAre_16 rfl rfl (.tail _ (.tail _ (.tail _ (.head _)))) ?_
      refine r_aaload (pc' := 18) (v := .ref (g.1 + con b i)) dX1_manyThatAre_17 rfl (by first | assumption | rfl) (by decide) (by omega) (by omega) (by omega) (by first | decide | omega) (Int.toNat_natCast _) (hb.r (k := i) (by omega)) ?_
      refine r_getI (pc' := 21) dX1_manyThatAre_18 rfl fX1_95 rfl (by first | assumption | rfl) (by omega) ?_
      refine r_iload_n (i := 1) (pc' := 22) dX1_manyThatAre_21 rfl rfl (.tail _ (.head _)) ?_
      refine r_icmp_ne (t := 28) (f := 25) dX1_manyThatAre_22 (by decide) rfl (by first | omega | exact xv_in _ _ _) (by first | omega | exact xv_in _ _ _) (fun h22 => ?_) (fun h22 => ?_)
      · refine r_iinc (pc' := 31) dX1_manyThatAre_28 rfl rfl (.tail _ (.tail _ (.tail _ (.head _)))) (.s1 (.s1 (.s1 (.here .nil) rfl rfl rfl) rfl rfl rfl) rfl rfl rfl) ?_
        refine r_goto (t := 4) dX1_manyThatAre_31 (by decide) ?_
        refine ih (i + 1) _ (by omega) ?_
        rw [← hr, q_sum]
        try simp only [*, if_true, if_false, ite_true, ite_false]
        first | omega | (split <;> omega) | skip
      · refine r_iinc (pc' := 28) dX1_manyThatAre_25 rfl rfl (.tail _ (.tail _ (.head _))) (.s1 (.s1 (.here (.s1 .nil rfl rfl rfl)) rfl rfl rfl) rfl rfl rfl) ?_
        refine r_iinc (pc' := 31) dX1_manyThatAre_28 rfl rfl (.tail _ (.tail _ (.tail _ (.head _)))) (.s1 (.s1 (.s1 (.here .nil) rfl rfl rfl) rfl rfl rfl) rfl rfl rfl) ?_
        refine r_goto (t := 4) dX1_manyThatAre_31 (by decide) ?_
        refine ih (i + 1) _ (by omega) ?_
        rw [← hr, q_sum]
        try simp only [*, if_true, if_false, ite_true, ite_false]
        first | omega | (split <;> omega) | skip
set_option maxHeartbeats 4000000 in
set_option maxRecDepth 100000 in
theorem tX1_manyThatAre {l : Launch} {g : q_G} {n : Nat} {P : q_P} {X : q_X} {Y : q_Y} {b : Nat} {st : Int} (hb : isBk n P b) (hO : bOk X b) (hst : q_in st) : q_Met l g mX1_manyThatAre 0 [.ref (g.1 + b), .int (zi st)] n P X Y (q_pv (.int (zi (q_sum (fun i => if xv X (con b i) 4 = st then 1 else 0) 0 ((xv X b 10).toNat)))) n P X Y) := by
  obtain ⟨b0, b1, b2, b3, q7, q8, q9, q11, q12, q13, hn, hpro, hmar, hfor, hcs⟩ := id hb
  obtain ⟨o0, o1, o2, o3, o4, o5, o6, o10, oc, op0, opz, opi, om0, omi, olim⟩ := id hO
  refine q_enter (L := [(0, .ref (g.1 + b)), (1, .int (zi st))]) (by decide) (Nat.le_of_ble_eq_true rfl) rfl ?_
  refine r_iconst (pc' := 1) dX1_manyThatAre_0 rfl ?_
  refine r_istore_n (i := 2) (pc' := 2) dX1_manyThatAre_1 rfl rfl rfl (.s1 (.s1 .nil rfl rfl rfl) rfl rfl rfl) ?_
  refine r_iconst (pc' := 3) dX1_manyThatAre_2 rfl ?_
  refine r_istore_n (i := 3) (pc' := 4) dX1_manyThatAre_3 rfl rfl rfl (.s1 (.s1 (.s1 .nil rfl rfl rfl) rfl rfl rfl) rfl rfl rfl) ?_
  exact lX1_manyThatAre hb hO hst ((xv X b 10).toNat) 0 _ (by omega) (Int.zero_add _)
set_option maxHeartbeats 4000000 in
set_option maxRecDepth 100000 in
theorem lX1_cashOfAll {l : Launch} {g : q_G} {n : Nat} {P : q_P} {X : q_X} {Y : q_Y} {b : Nat} {y : Int} (hb : isBk n P b) (hO : bOk X b) (hy : -1 ≤ y ∧ y ≤ 40) {r : Int} : ∀ (w i : Nat) (s : Int), i + w = (xv X b 10).toNat → s + q_sum (fun i => c_cash X (con b i) y) i w = r → q_Tr l g mX1_cashOfAll 3 (q_pv (.int (zi r)) n P X Y) 4 [(0, .ref (g.1 + b)), (1, .int (zi y)), (2, .int (zi s)), (3, .int (zi (i : Int)))] [] n P X Y := by
  obtain ⟨b0, b1, b2, b3, q7, q8, q9, q11, q12, q13, hn, hpro, hmar, hfor, hcs⟩ := id hb
  obtain ⟨o0, o1, o2, o3, o4, o5, o6, o10, oc, op0, opz, opi, om0, omi, olim⟩ := id hO
  intro w
  induction w with
  | zero =>
    intro i s hk hr
    refine r_iload_n (i := 3) (pc' := 5) dX1_cashOfAll_4 rfl rfl (.tail _ (.tail _ (.tail _ (.head _)))) ?_
    refine r_aload_n (i := 0) (pc' := 6) dX1_cashOfAll_5 rfl rfl (.head _) ?_
    refine r_getI (pc' := 9) dX1_cashOfAll_6 rfl fX1_75 rfl (by first | assumption | rfl) (by omega) ?_
    refine r_icmp_ge (t := 31) (f := 12) dX1_cashOfAll_9 (by decide) rfl (by first | omega | exact xv_in _ _ _) (by first | omega | exact xv_in _ _ _) (fun h9 => ?_) (fun h9 => ?_)
    · refine r_iload_n (i := 2) (pc' := 32) dX1_cashOfAll_31 rfl rfl (.tail _ (.tail _ (.head _))) ?_
      refine r_ireturn dX1_cashOfAll_32 rfl ?_
      refine ⟨?_, rfl, rfl, rfl, rfl⟩
      rw [← hr]; simp [q_sum]
    · exfalso; omega
  | succ w ih =>
    intro i s hk hr
    have hc := hb.c (k := i) (by omega)
    obtain ⟨s0, s1, s2, s3, s4, p6, p7, p8, p9, hnc⟩ := id hc
    have hck := hO.c (k := i) (by omega)
    obtain ⟨hf, hf2, hf3, hf4, hfj, hfs, hfg⟩ := id hck
    refine r_iload_n (i := 3) (pc' := 5) dX1_cashOfAll_4 rfl rfl (.tail _ (.tail _ (.tail _ (.head _)))) ?_
    refine r_aload_n (i := 0) (pc' := 6) dX1_cashOfAll_5 rfl rfl (.head _) ?_
    refine r_getI (pc' := 9) dX1_cashOfAll_6 rfl fX1_75 rfl (by first | assumption | rfl) (by omega) ?_
    refine r_icmp_ge (t := 31) (f := 12) dX1_cashOfAll_9 (by decide) rfl (by first | omega | exact xv_in _ _ _) (by first | omega | exact xv_in _ _ _) (fun h9 => ?_) (fun h9 => ?_)
    · exfalso; omega
    · refine r_iload_n (i := 2) (pc' := 13) dX1_cashOfAll_12 rfl rfl (.tail _ (.tail _ (.head _))) ?_
      refine r_aload_n (i := 0) (pc' := 14) dX1_cashOfAll_13 rfl rfl (.head _) ?_
      refine r_getR (pc' := 17) dX1_cashOfAll_14 rfl fX1_36 rfl (by first | assumption | rfl) (by omega) (by assumption) ?_
      refine r_iload_n (i := 3) (pc' := 18) dX1_cashOfAll_17 rfl rfl (.tail _ (.tail _ (.tail _ (.head _)))) ?_
      refine r_aaload (pc' := 19) (v := .ref (g.1 + con b i)) dX1_cashOfAll_18 rfl (by first | assumption | rfl) (by decide) (by omega) (by omega) (by omega) (by first | decide | omega) (Int.toNat_natCast _) (hb.r (k := i) (by omega)) ?_
      refine r_iload_n (i := 1) (pc' := 20) dX1_cashOfAll_19 rfl rfl (.tail _ (.head _)) ?_
      refine r_V1p (ci := 4) (pc' := 23) dX1_cashOfAll_20 rfl lX1_202 rfl (by decide) (Nat.le_of_ble_eq_true rfl) (by first | assumption | rfl) (by omega) (tX4_cashIn (by assumption) (by assumption) (by omega)) ?_
      refine r_iadd (pc' := 24) dX1_cashOfAll_23 rfl ?_
      refine r_istore_n (i := 2) (pc' := 25) dX1_cashOfAll_24 rfl rfl rfl (.s1 (.s1 (.here (.s1 .nil rfl rfl rfl)) rfl rfl rfl) rfl rfl rfl) ?_
      refine r_iinc (pc' := 28) dX1_cashOfAll_25 rfl rfl (.tail _ (.tail _ (.tail _ (.head _)))) (.s1 (.s1 (.s1 (.here .nil) rfl rfl rfl) rfl rfl rfl) rfl rfl rfl) ?_
      refine r_goto (t := 4) dX1_cashOfAll_28 (by decide) ?_
      refine ih (i + 1) _ (by omega) ?_
      rw [← hr, q_sum]
      try simp only [*, if_true, if_false, ite_true, ite_false]
      first | omega | (split <;> omega) | skip
set_option maxHeartbeats 4000000 in
set_option maxRecDepth 100000 in
theorem tX1_cashOfAll {l : Launch} {g : q_G} {n : Nat} {P : q_P} {X : q_X} {Y : q_Y} {b : Nat} {y : Int} (hb : isBk n P b) (hO : bOk X b) (hy : -1 ≤ y ∧ y ≤ 40) : q_Met l g mX1_cashOfAll 3 [.ref (g.1 + b), .int (zi y)] n P X Y (q_pv (.int (zi (q_sum (fun i => c_cash X (con b i) y) 0 ((xv X b 10).toNat)))) n P X Y) := by
  obtain ⟨b0, b1, b2, b3, q7, q8, q9, q11, q12, q13, hn, hpro, hmar, hfor, hcs⟩ := id hb
  obtain ⟨o0, o1, o2, o3, o4, o5, o6, o10, oc, op0, opz, opi, om0, omi, olim⟩ := id hO
  refine q_enter (L := [(0, .ref (g.1 + b)), (1, .int (zi y))]) (by decide) (Nat.le_of_ble_eq_true rfl) rfl ?_
  refine r_iconst (pc' := 1) dX1_cashOfAll_0 rfl ?_
  refine r_istore_n (i := 2) (pc' := 2) dX1_cashOfAll_1 rfl rfl rfl (.s1 (.s1 .nil rfl rfl rfl) rfl rfl rfl) ?_
  refine r_iconst (pc' := 3) dX1_cashOfAll_2 rfl ?_
  refine r_istore_n (i := 3) (pc' := 4) dX1_cashOfAll_3 rfl rfl rfl (.s1 (.s1 (.s1 .nil rfl rfl rfl) rfl rfl rfl) rfl rfl rfl) ?_
  exact lX1_cashOfAll hb hO hy ((xv X b 10).toNat) 0 _ (by omega) (Int.zero_add _)
set_option maxHeartbeats 4000000 in
set_option maxRecDepth 100000 in
theorem tX1_fullPlaces {l : Launch} {g : q_G} {n : Nat} {P : q_P} {X : q_X} {Y : q_Y} {b : Nat} {day : Int} (hb : isBk n P b) (hd : q_in day) : q_Met l g mX1_fullPlaces 0 [.ref (g.1 + b), .int (zi day)] n P X Y (q_pv (.int (zi (bk_full X b day))) n P X Y) := by
  obtain ⟨b0, b1, b2, b3, q7, q8, q9, q11, q12, q13, hn, hpro, hmar, hfor, hcs⟩ := id hb
  refine q_enter (L := [(0, .ref (g.1 + b)), (1, .int (zi day))]) (by decide) (Nat.le_of_ble_eq_true rfl) rfl ?_
  refine r_iload_n (i := 1) (pc' := 1) dX1_fullPlaces_0 rfl rfl (.tail _ (.head _)) ?_
  refine r_aload_n (i := 0) (pc' := 2) dX1_fullPlaces_1 rfl rfl (.head _) ?_
  refine r_getI (pc' := 5) dX1_fullPlaces_2 rfl fX1_18 rfl (by first | assumption | rfl) (by omega) ?_
  refine r_icmp_ge (t := 15) (f := 8) dX1_fullPlaces_5 (by decide) rfl (by first | omega | exact xv_in _ _ _) (by first | omega | exact xv_in _ _ _) (fun h5 => ?_) (fun h5 => ?_)
  · refine r_bipush (pc' := 17) dX1_fullPlaces_15 rfl (by decide) ?_
    refine r_ireturn dX1_fullPlaces_17 rfl ?_
    refine ⟨?_, rfl, rfl, rfl, rfl⟩
    unfold bk_full
    (repeat' split) <;> first | rfl | (exfalso; omega) | (congr 3; omega)
  · refine r_aload_n (i := 0) (pc' := 9) dX1_fullPlaces_8 rfl rfl (.head _) ?_
    refine r_getI (pc' := 12) dX1_fullPlaces_9 rfl fX1_21 rfl (by first | assumption | rfl) (by omega) ?_
    refine r_goto (t := 17) dX1_fullPlaces_12 (by decide) ?_
    refine r_ireturn dX1_fullPlaces_17 rfl ?_
    refine ⟨?_, rfl, rfl, rfl, rfl⟩
    unfold bk_full
    (repeat' split) <;> first | rfl | (exfalso; omega) | (congr 3; omega)
set_option maxHeartbeats 4000000 in
set_option maxRecDepth 100000 in
theorem tX1_deadPay {l : Launch} {g : q_G} {n : Nat} {P : q_P} {X : q_X} {Y : q_Y} {b c : Nat} {y day : Int} (hb : isBk n P b) (hO : bOk X b) (hc : isCon n P c) (hck : cOk X c) (hy : -1 ≤ y ∧ y ≤ 40) (hd : q_in day) : q_Met l g mX1_deadPay 2 [.ref (g.1 + b), .ref (g.1 + c), .int (zi y), .int (zi day)] n P X Y (q_pv (.int (zi (bk_dPay X b c y day))) n P X Y) := by
  obtain ⟨b0, b1, b2, b3, q7, q8, q9, q11, q12, q13, hn, hpro, hmar, hfor, hcs⟩ := id hb
  obtain ⟨o0, o1, o2, o3, o4, o5, o6, o10, oc, op0, opz, opi, om0, omi, olim⟩ := id hO
  obtain ⟨s0, s1, s2, s3, s4, p6, p7, p8, p9, hnc⟩ := id hc
  obtain ⟨hf, hf2, hf3, hf4, hfj, hfs, hfg⟩ := id hck
  have hsu := hck.sure
  refine q_enter (L := [(0, .ref (g.1 + b)), (1, .ref (g.1 + c)), (2, .int (zi y)), (3, .int (zi day))]) (by decide) (Nat.le_of_ble_eq_true rfl) rfl ?_
  refine r_aload_n (i := 1) (pc' := 1) dX1_deadPay_0 rfl rfl (.tail _ (.head _)) ?_
  refine r_iload_n (i := 2) (pc' := 2) dX1_deadPay_1 rfl rfl (.tail _ (.tail _ (.head _))) ?_
  refine r_V1p (ci := 4) (pc' := 5) dX1_deadPay_2 rfl lX1_155 rfl (by decide) (Nat.le_of_ble_eq_true rfl) (by first | assumption | rfl) (by omega) (tX4_sureBase (by assumption) (by assumption) (by omega) (by assumption)) ?_
  refine r_istore (pc' := 7) dX1_deadPay_5 rfl rfl (.s1 (.s1 (.s1 (.s1 .nil rfl rfl rfl) rfl rfl rfl) rfl rfl rfl) rfl rfl rfl) ?_
  refine r_iload_n (i := 3) (pc' := 8) dX1_deadPay_7 rfl rfl (.tail _ (.tail _ (.tail _ (.head _)))) ?_
  refine r_aload_n (i := 0) (pc' := 9) dX1_deadPay_8 rfl rfl (.head _) ?_
  refine r_getI (pc' := 12) dX1_deadPay_9 rfl fX1_15 rfl (by first | assumption | rfl) (by omega) ?_
  refine r_icmp_lt (t := 26) (f := 15) dX1_deadPay_12 (by decide) rfl (by first | omega | exact xv_in _ _ _) (by first | omega | exact xv_in _ _ _) (fun h12 => ?_) (fun h12 => ?_)
  · refine r_iload (pc' := 28) dX1_deadPay_26 rfl (.tail _ (.tail _ (.tail _ (.tail _ (.head _))))) ?_
    refine r_ireturn dX1_deadPay_28 rfl ?_
    refine ⟨?_, rfl, rfl, rfl, rfl⟩
    unfold bk_dPay
    (repeat' split) <;> first | rfl | (exfalso; omega) | (congr 3; omega)
  · refine r_iload (pc' := 17) dX1_deadPay_15 rfl (.tail _ (.tail _ (.tail _ (.tail _ (.head _))))) ?_
    refine r_aload_n (i := 1) (pc' := 18) dX1_deadPay_17 rfl rfl (.tail _ (.head _)) ?_
    refine r_iload_n (i := 2) (pc' := 19) dX1_deadPay_18 rfl rfl (.tail _ (.tail _ (.head _))) ?_
    refine r_V1p (ci := 4) (pc' := 22) dX1_deadPay_19 rfl lX1_158 rfl (by decide) (Nat.le_of_ble_eq_true rfl) (by first | assumption | rfl) (by omega) (tX4_rosterBonus (by assumption) (by assumption) (by omega)) ?_
    refine r_iadd (pc' := 23) dX1_deadPay_22 rfl ?_
    refine r_goto (t := 28) dX1_deadPay_23 (by decide) ?_
    refine r_ireturn dX1_deadPay_28 rfl ?_
    refine ⟨?_, rfl, rfl, rfl, rfl⟩
    unfold bk_dPay
    (repeat' split) <;> first | rfl | (exfalso; omega) | (congr 3; omega)
set_option maxHeartbeats 4000000 in
set_option maxRecDepth 100000 in
theorem tX1_deadPartsNow {l : Launch} {g : q_G} {n : Nat} {P : q_P} {X : q_X} {Y : q_Y} {b c : Nat} {day : Int} (hb : isBk n P b) (hO : bOk X b) (hc : isCon n P c) (hck : cOk X c) (hd : q_in day) : q_Met l g mX1_deadPartsNow 2 [.ref (g.1 + b), .ref (g.1 + c), .int (zi day)] n P X Y (q_pv (.int (zi (bk_dNow X b c day))) n P X Y) := by
  obtain ⟨b0, b1, b2, b3, q7, q8, q9, q11, q12, q13, hn, hpro, hmar, hfor, hcs⟩ := id hb
  obtain ⟨o0, o1, o2, o3, o4, o5, o6, o10, oc, op0, opz, opi, om0, omi, olim⟩ := id hO
  obtain ⟨s0, s1, s2, s3, s4, p6, p7, p8, p9, hnc⟩ := id hc
  obtain ⟨hf, hf2, hf3, hf4, hfj, hfs, hfg⟩ := id hck
  have hsu := hck.sure
  refine q_enter (L := [(0, .ref (g.1 + b)), (1, .ref (g.1 + c)), (2, .int (zi day))]) (by decide) (Nat.le_of_ble_eq_true rfl) rfl ?_
  refine r_iload_n (i := 2) (pc' := 1) dX1_deadPartsNow_0 rfl rfl (.tail _ (.tail _ (.head _))) ?_
  refine r_aload_n (i := 0) (pc' := 2) dX1_deadPartsNow_1 rfl rfl (.head _) ?_
  refine r_getI (pc' := 5) dX1_deadPartsNow_2 rfl fX1_9 rfl (by first | assumption | rfl) (by omega) ?_
  refine r_icmp_lt (t := 17) (f := 8) dX1_deadPartsNow_5 (by decide) rfl (by first | omega | exact xv_in _ _ _) (by first | omega | exact xv_in _ _ _) (fun h5 => ?_) (fun h5 => ?_)
  · refine r_aload_n (i := 1) (pc' := 18) dX1_deadPartsNow_17 rfl rfl (.tail _ (.head _)) ?_
    refine r_aload_n (i := 0) (pc' := 19) dX1_deadPartsNow_18 rfl rfl (.head _) ?_
    refine r_getI (pc' := 22) dX1_deadPartsNow_19 rfl fX1_63 rfl (by first | assumption | rfl) (by omega) ?_
    refine r_V1p (ci := 4) (pc' := 25) dX1_deadPartsNow_22 rfl lX1_161 rfl (by decide) (Nat.le_of_ble_eq_true rfl) (by first | assumption | rfl) (by omega) (tX4_partsFrom (by assumption) (by assumption) (by omega)) ?_
    refine r_goto (t := 36) dX1_deadPartsNow_25 (by decide) ?_
    refine r_ireturn dX1_deadPartsNow_36 rfl ?_
    refine ⟨?_, rfl, rfl, rfl, rfl⟩
    unfold bk_dNow
    (repeat' split) <;> first | rfl | (exfalso; omega) | (congr 3; omega)
  · refine r_aload_n (i := 0) (pc' := 9) dX1_deadPartsNow_8 rfl rfl (.head _) ?_
    refine r_getI (pc' := 12) dX1_deadPartsNow_9 rfl fX1_63 rfl (by first | assumption | rfl) (by omega) ?_
    refine r_bipush (pc' := 14) dX1_deadPartsNow_12 rfl (by decide) ?_
    refine r_icmp_lt (t := 28) (f := 17) dX1_deadPartsNow_14 (by decide) rfl (by first | omega | exact xv_in _ _ _) (by first | omega | exact xv_in _ _ _) (fun h14 => ?_) (fun h14 => ?_)
    · refine r_aload_n (i := 1) (pc' := 29) dX1_deadPartsNow_28 rfl rfl (.tail _ (.head _)) ?_
      refine r_aload_n (i := 0) (pc' := 30) dX1_deadPartsNow_29 rfl rfl (.head _) ?_
      refine r_getI (pc' := 33) dX1_deadPartsNow_30 rfl fX1_63 rfl (by first | assumption | rfl) (by omega) ?_
      refine r_V1p (ci := 4) (pc' := 36) dX1_deadPartsNow_33 rfl lX1_164 rfl (by decide) (Nat.le_of_ble_eq_true rfl) (by first | assumption | rfl) (by omega) (tX4_partsIn (by assumption) (by assumption) (by omega)) ?_
      refine r_ireturn dX1_deadPartsNow_36 rfl ?_
      refine ⟨?_, rfl, rfl, rfl, rfl⟩
      unfold bk_dNow
      (repeat' split) <;> first | rfl | (exfalso; omega) | (congr 3; omega)
    · refine r_aload_n (i := 1) (pc' := 18) dX1_deadPartsNow_17 rfl rfl (.tail _ (.head _)) ?_
      refine r_aload_n (i := 0) (pc' := 19) dX1_deadPartsNow_18 rfl rfl (.head _) ?_
      refine r_getI (pc' := 22) dX1_deadPartsNow_19 rfl fX1_63 rfl (by first | assumption | rfl) (by omega) ?_
      refine r_V1p (ci := 4) (pc' := 25) dX1_deadPartsNow_22 rfl lX1_161 rfl (by decide) (Nat.le_of_ble_eq_true rfl) (by first | assumption | rfl) (by omega) (tX4_partsFrom (by assumption) (by assumption) (by omega)) ?_
      refine r_goto (t := 36) dX1_deadPartsNow_25 (by decide) ?_
      refine r_ireturn dX1_deadPartsNow_36 rfl ?_
      refine ⟨?_, rfl, rfl, rfl, rfl⟩
      unfold bk_dNow
      (repeat' split) <;> first | rfl | (exfalso; omega) | (congr 3; omega)
set_option maxHeartbeats 4000000 in
set_option maxRecDepth 100000 in
theorem tX1_deadNow {l : Launch} {g : q_G} {n : Nat} {P : q_P} {X : q_X} {Y : q_Y} {b c : Nat} {day : Int} (hb : isBk n P b) (hO : bOk X b) (hc : isCon n P c) (hck : cOk X c) (hd : q_in day) : q_Met l g mX1_deadNow 3 [.ref (g.1 + b), .ref (g.1 + c), .int (zi day)] n P X Y (q_pv (.int (zi (bk_dead X b c day))) n P X Y) := by
  obtain ⟨b0, b1, b2, b3, q7, q8, q9, q11, q12, q13, hn, hpro, hmar, hfor, hcs⟩ := id hb
  obtain ⟨o0, o1, o2, o3, o4, o5, o6, o10, oc, op0, opz, opi, om0, omi, olim⟩ := id hO
  obtain ⟨s0, s1, s2, s3, s4, p6, p7, p8, p9, hnc⟩ := id hc
  obtain ⟨hf, hf2, hf3, hf4, hfj, hfs, hfg⟩ := id hck
  have hsu := hck.sure
  refine q_enter (L := [(0, .ref (g.1 + b)), (1, .ref (g.1 + c)), (2, .int (zi day))]) (by decide) (Nat.le_of_ble_eq_true rfl) rfl ?_
  refine r_aload_n (i := 0) (pc' := 1) dX1_deadNow_0 rfl rfl (.head _) ?_
  refine r_aload_n (i := 1) (pc' := 2) dX1_deadNow_1 rfl rfl (.tail _ (.head _)) ?_
  refine r_aload_n (i := 0) (pc' := 3) dX1_deadNow_2 rfl rfl (.head _) ?_
  refine r_getI (pc' := 6) dX1_deadNow_3 rfl fX1_63 rfl (by first | assumption | rfl) (by omega) ?_
  refine r_iload_n (i := 2) (pc' := 7) dX1_deadNow_6 rfl rfl (.tail _ (.tail _ (.head _))) ?_
  refine r_V3p (ci := 1) (pc' := 10) dX1_deadNow_7 rfl lX1_167 rfl (by decide) (Nat.le_of_ble_eq_true rfl) (by first | assumption | rfl) (by omega) (tX1_deadPay (by assumption) (by assumption) (by assumption) (by assumption) (by omega) (by omega)) ?_
  refine r_aload_n (i := 0) (pc' := 11) dX1_deadNow_10 rfl rfl (.head _) ?_
  refine r_aload_n (i := 1) (pc' := 12) dX1_deadNow_11 rfl rfl (.tail _ (.head _)) ?_
  refine r_iload_n (i := 2) (pc' := 13) dX1_deadNow_12 rfl rfl (.tail _ (.tail _ (.head _))) ?_
  refine r_V2p (ci := 1) (pc' := 16) dX1_deadNow_13 rfl lX1_171 rfl (by decide) (Nat.le_of_ble_eq_true rfl) (by first | assumption | rfl) (by omega) (tX1_deadPartsNow (by assumption) (by assumption) (by assumption) (by assumption) (by omega)) ?_
  refine r_iadd (pc' := 17) dX1_deadNow_16 rfl ?_
  refine r_ireturn dX1_deadNow_17 rfl ?_
  refine ⟨?_, rfl, rfl, rfl, rfl⟩
  unfold bk_dead
  (repeat' split) <;> first | rfl | (exfalso; omega) | (congr 3; omega)
set_option maxHeartbeats 4000000 in
set_option maxRecDepth 100000 in
theorem tX1_deadNext {l : Launch} {g : q_G} {n : Nat} {P : q_P} {X : q_X} {Y : q_Y} {b c : Nat} {day : Int} (hb : isBk n P b) (hO : bOk X b) (hc : isCon n P c) (hck : cOk X c) (hd : q_in day) : q_Met l g mX1_deadNext 3 [.ref (g.1 + b), .ref (g.1 + c), .int (zi day)] n P X Y (q_pv (.int (zi (bk_next X b c day))) n P X Y) := by
  obtain ⟨b0, b1, b2, b3, q7, q8, q9, q11, q12, q13, hn, hpro, hmar, hfor, hcs⟩ := id hb
  obtain ⟨o0, o1, o2, o3, o4, o5, o6, o10, oc, op0, opz, opi, om0, omi, olim⟩ := id hO
  obtain ⟨s0, s1, s2, s3, s4, p6, p7, p8, p9, hnc⟩ := id hc
  obtain ⟨hf, hf2, hf3, hf4, hfj, hfs, hfg⟩ := id hck
  have hsu := hck.sure
  refine q_enter (L := [(0, .ref (g.1 + b)), (1, .ref (g.1 + c)), (2, .int (zi day))]) (by decide) (Nat.le_of_ble_eq_true rfl) rfl ?_
  refine r_aload_n (i := 1) (pc' := 1) dX1_deadNext_0 rfl rfl (.tail _ (.head _)) ?_
  refine r_aload_n (i := 0) (pc' := 2) dX1_deadNext_1 rfl rfl (.head _) ?_
  refine r_getI (pc' := 5) dX1_deadNext_2 rfl fX1_63 rfl (by first | assumption | rfl) (by omega) ?_
  refine r_V1p (ci := 4) (pc' := 8) dX1_deadNext_5 rfl lX1_161 rfl (by decide) (Nat.le_of_ble_eq_true rfl) (by first | assumption | rfl) (by omega) (tX4_partsFrom (by assumption) (by assumption) (by omega)) ?_
  refine r_aload_n (i := 0) (pc' := 9) dX1_deadNext_8 rfl rfl (.head _) ?_
  refine r_aload_n (i := 1) (pc' := 10) dX1_deadNext_9 rfl rfl (.tail _ (.head _)) ?_
  refine r_iload_n (i := 2) (pc' := 11) dX1_deadNext_10 rfl rfl (.tail _ (.tail _ (.head _))) ?_
  refine r_V2p (ci := 1) (pc' := 14) dX1_deadNext_11 rfl lX1_171 rfl (by decide) (Nat.le_of_ble_eq_true rfl) (by first | assumption | rfl) (by omega) (tX1_deadPartsNow (by assumption) (by assumption) (by assumption) (by assumption) (by omega)) ?_
  refine r_isub (pc' := 15) dX1_deadNext_14 rfl ?_
  refine r_ireturn dX1_deadNext_15 rfl ?_
  refine ⟨?_, rfl, rfl, rfl, rfl⟩
  unfold bk_next
  (repeat' split) <;> first | rfl | (exfalso; omega) | (congr 3; omega)
set_option maxHeartbeats 4000000 in
set_option maxRecDepth 100000 in
theorem tX1_deadInAll {l : Launch} {g : q_G} {n : Nat} {P : q_P} {X : q_X} {Y : q_Y} {b c : Nat} (hb : isBk n P b) (hO : bOk X b) (hc : isCon n P c) (hck : cOk X c) : q_Met l g mX1_deadInAll 3 [.ref (g.1 + b), .ref (g.1 + c)] n P X Y (q_pv (.int (zi (bk_all X b c))) n P X Y) := by
  obtain ⟨b0, b1, b2, b3, q7, q8, q9, q11, q12, q13, hn, hpro, hmar, hfor, hcs⟩ := id hb
  obtain ⟨o0, o1, o2, o3, o4, o5, o6, o10, oc, op0, opz, opi, om0, omi, olim⟩ := id hO
  obtain ⟨s0, s1, s2, s3, s4, p6, p7, p8, p9, hnc⟩ := id hc
  obtain ⟨hf, hf2, hf3, hf4, hfj, hfs, hfg⟩ := id hck
  have hsu := hck.sure
  refine q_enter (L := [(0, .ref (g.1 + b)), (1, .ref (g.1 + c))]) (by decide) (Nat.le_of_ble_eq_true rfl) rfl ?_
  refine r_aload_n (i := 0) (pc' := 1) dX1_deadInAll_0 rfl rfl (.head _) ?_
  refine r_aload_n (i := 1) (pc' := 2) dX1_deadInAll_1 rfl rfl (.tail _ (.head _)) ?_
  refine r_aload_n (i := 0) (pc' := 3) dX1_deadInAll_2 rfl rfl (.head _) ?_
  refine r_getI (pc' := 6) dX1_deadInAll_3 rfl fX1_63 rfl (by first | assumption | rfl) (by omega) ?_
  refine r_aload_n (i := 0) (pc' := 7) dX1_deadInAll_6 rfl rfl (.head _) ?_
  refine r_getI (pc' := 10) dX1_deadInAll_7 rfl fX1_66 rfl (by first | assumption | rfl) (by omega) ?_
  refine r_V3p (ci := 1) (pc' := 13) dX1_deadInAll_10 rfl lX1_167 rfl (by decide) (Nat.le_of_ble_eq_true rfl) (by first | assumption | rfl) (by omega) (tX1_deadPay (by assumption) (by assumption) (by assumption) (by assumption) (by omega) (by omega)) ?_
  refine r_aload_n (i := 1) (pc' := 14) dX1_deadInAll_13 rfl rfl (.tail _ (.head _)) ?_
  refine r_aload_n (i := 0) (pc' := 15) dX1_deadInAll_14 rfl rfl (.head _) ?_
  refine r_getI (pc' := 18) dX1_deadInAll_15 rfl fX1_63 rfl (by first | assumption | rfl) (by omega) ?_
  refine r_V1p (ci := 4) (pc' := 21) dX1_deadInAll_18 rfl lX1_161 rfl (by decide) (Nat.le_of_ble_eq_true rfl) (by first | assumption | rfl) (by omega) (tX4_partsFrom (by assumption) (by assumption) (by omega)) ?_
  refine r_iadd (pc' := 22) dX1_deadInAll_21 rfl ?_
  refine r_ireturn dX1_deadInAll_22 rfl ?_
  refine ⟨?_, rfl, rfl, rfl, rfl⟩
  unfold bk_all
  (repeat' split) <;> first | rfl | (exfalso; omega) | (congr 3; omega)
set_option maxHeartbeats 4000000 in
set_option maxRecDepth 100000 in
theorem tX1_mostTurned {l : Launch} {g : q_G} {n : Nat} {P : q_P} {X : q_X} {Y : q_Y} {b c : Nat} (hb : isBk n P b) (hO : bOk X b) (hc : isCon n P c) (hck : cOk X c) : q_Met l g mX1_mostTurned 2 [.ref (g.1 + b), .ref (g.1 + c)] n P X Y (q_pv (.int (zi (bk_most X b c))) n P X Y) := by
  obtain ⟨b0, b1, b2, b3, q7, q8, q9, q11, q12, q13, hn, hpro, hmar, hfor, hcs⟩ := id hb
  obtain ⟨o0, o1, o2, o3, o4, o5, o6, o10, oc, op0, opz, opi, om0, omi, olim⟩ := id hO
  obtain ⟨s0, s1, s2, s3, s4, p6, p7, p8, p9, hnc⟩ := id hc
  obtain ⟨hf, hf2, hf3, hf4, hfj, hfs, hfg⟩ := id hck
  have hsu := hck.sure
  have hbb := c_base_b hck (xv X b 0)
  refine q_enter (L := [(0, .ref (g.1 + b)), (1, .ref (g.1 + c))]) (by decide) (Nat.le_of_ble_eq_true rfl) rfl ?_
  refine r_iconst (pc' := 1) dX1_mostTurned_0 rfl ?_
  refine r_aload_n (i := 1) (pc' := 2) dX1_mostTurned_1 rfl rfl (.tail _ (.head _)) ?_
  refine r_aload_n (i := 0) (pc' := 3) dX1_mostTurned_2 rfl rfl (.head _) ?_
  refine r_getI (pc' := 6) dX1_mostTurned_3 rfl fX1_63 rfl (by first | assumption | rfl) (by omega) ?_
  refine r_V1p (ci := 4) (pc' := 9) dX1_mostTurned_6 rfl lX1_110 rfl (by decide) (Nat.le_of_ble_eq_true rfl) (by first | assumption | rfl) (by omega) (tX4_basePay (by assumption) (by assumption) (by omega)) ?_
  refine r_aload_n (i := 0) (pc' := 10) dX1_mostTurned_9 rfl rfl (.head _) ?_
  refine r_getI (pc' := 13) dX1_mostTurned_10 rfl fX1_24 rfl (by first | assumption | rfl) (by omega) ?_
  refine r_isub (pc' := 14) dX1_mostTurned_13 rfl ?_
  refine r_max (pc' := 17) dX1_mostTurned_14 rfl lX1_187 (by decide) (Nat.le_of_ble_eq_true rfl) (by first | omega | exact xv_in _ _ _) (by first | omega | exact xv_in _ _ _) ?_
  refine r_ireturn dX1_mostTurned_17 rfl ?_
  refine ⟨?_, rfl, rfl, rfl, rfl⟩
  unfold bk_most
  (repeat' split) <;> first | rfl | (exfalso; omega) | (congr 3; omega)
def bk_pref (X : q_X) (b : Nat) (k x : Int) : Int := if ¬ bk_ref X b k = 0 then bk_ref X b k else if x < 1 ∨ 99999 < x then 4 else if c_base X (con b k.toNat) (xv X b 0) - x < xv X b 6 then 5 else 0
def bk_lref (X : q_X) (b : Nat) (k m base bonus : Int) : Int := if ¬ bk_ref X b k = 0 then bk_ref X b k else if m < 1 ∨ 5 < m ∨ base < 0 ∨ 99999 < base ∨ bonus < 0 ∨ 99999 < bonus then 4 else if base < xv X b 6 then 5 else if 10 < xv X (con b k.toNat) 1 + xv X (con b k.toNat) 2 + m ∨ 19 < c_last X (con b k.toNat) + m then 6 else 0
def bk_sref (X : q_X) (b : Nat) (i : Int) : Int := if ¬ (0 ≤ i ∧ i < xv X (b + 10) 0) then 1 else if 40 ≤ xv X b 10 ∨ 20 < xv X b 0 + xv X (b + 12) i.toNat then 6 else 0
theorem bk_ref_in (X : q_X) (b : Nat) (k : Int) : 0 ≤ bk_ref X b k ∧ bk_ref X b k ≤ 3 := by unfold bk_ref; (repeat' split) <;> omega
theorem bk_ref_has {X : q_X} {b : Nat} {k : Int} (h : bk_ref X b k = 0) : bk_has X b k := by unfold bk_ref at h; split at h <;> omega
set_option maxHeartbeats 4000000 in
set_option maxRecDepth 100000 in
theorem tX1_payRefusal {l : Launch} {g : q_G} {n : Nat} {P : q_P} {X : q_X} {Y : q_Y} {b : Nat} {k x : Int} (hb : isBk n P b) (hO : bOk X b) (hi : q_in k) (hx : q_in x) : q_Met l g mX1_payRefusal 2 [.ref (g.1 + b), .int (zi k), .int (zi x)] n P X Y (q_pv (.int (zi (bk_pref X b k x))) n P X Y) := by
  obtain ⟨b0, b1, b2, b3, q7, q8, q9, q11, q12, q13, hn, hpro, hmar, hfor, hcs⟩ := id hb
  obtain ⟨o0, o1, o2, o3, o4, o5, o6, o10, oc, op0, opz, opi, om0, omi, olim⟩ := id hO
  have hri := bk_ref_in X b k
  refine q_enter (L := [(0, .ref (g.1 + b)), (1, .int (zi k)), (2, .int (zi x))]) (by decide) (Nat.le_of_ble_eq_true rfl) rfl ?_
  refine r_aload_n (i := 0) (pc' := 1) dX1_payRefusal_0 rfl rfl (.head _) ?_
  refine r_iload_n (i := 1) (pc' := 2) dX1_payRefusal_1 rfl rfl (.tail _ (.head _)) ?_
  refine r_V1p (ci := 1) (pc' := 5) dX1_payRefusal_2 rfl lX1_91 rfl (by decide) (Nat.le_of_ble_eq_true rfl) (by first | assumption | rfl) (by omega) (tX1_refusal (by assumption) (by assumption) (by first | assumption | omega)) ?_
  refine r_istore_n (i := 3) (pc' := 6) dX1_payRefusal_5 rfl rfl rfl (.s1 (.s1 (.s1 .nil rfl rfl rfl) rfl rfl rfl) rfl rfl rfl) ?_
  refine r_iload_n (i := 3) (pc' := 7) dX1_payRefusal_6 rfl rfl (.tail _ (.tail _ (.tail _ (.head _)))) ?_
  refine r_if_eq (t := 12) (f := 10) dX1_payRefusal_7 (by decide) rfl (by first | omega | exact xv_in _ _ _) (fun h7 => ?_) (fun h7 => ?_)
  · have hh := bk_ref_has h7
    have hc := hb.c (k := k.toNat) (by omega)
    obtain ⟨s0, s1, s2, s3, s4, p6, p7, p8, p9, hnc⟩ := id hc
    have hck := hO.c (k := k.toNat) (by omega)
    obtain ⟨hf, hf2, hf3, hf4, hfj, hfs, hfg⟩ := id hck
    have hbb := c_base_b hck (xv X b 0)
    refine r_iload_n (i := 2) (pc' := 13) dX1_payRefusal_12 rfl rfl (.tail _ (.tail _ (.head _))) ?_
    refine r_iconst (pc' := 14) dX1_payRefusal_13 rfl ?_
    refine r_icmp_lt (t := 23) (f := 17) dX1_payRefusal_14 (by decide) rfl (by first | omega | exact xv_in _ _ _) (by first | omega | exact xv_in _ _ _) (fun h14 => ?_) (fun h14 => ?_)
    · refine r_iconst (pc' := 24) dX1_payRefusal_23 rfl ?_
      refine r_ireturn dX1_payRefusal_24 rfl ?_
      refine ⟨?_, rfl, rfl, rfl, rfl⟩
      unfold bk_pref
      (repeat' split) <;> first | rfl | (exfalso; omega) | (congr 3; omega)
    · refine r_iload_n (i := 2) (pc' := 18) dX1_payRefusal_17 rfl rfl (.tail _ (.tail _ (.head _))) ?_
      refine r_ldc (pc' := 20) dX1_payRefusal_18 rfl kX1_109 ?_
      refine r_icmp_le (t := 25) (f := 23) dX1_payRefusal_20 (by decide) rfl (by first | omega | exact xv_in _ _ _) (by first | omega | exact xv_in _ _ _) (fun h20 => ?_) (fun h20 => ?_)
      · refine r_aload_n (i := 0) (pc' := 26) dX1_payRefusal_25 rfl rfl (.head _) ?_
        refine r_getR (pc' := 29) dX1_payRefusal_26 rfl fX1_36 rfl (by first | assumption | rfl) (by omega) (by assumption) ?_
        refine r_iload_n (i := 1) (pc' := 30) dX1_payRefusal_29 rfl rfl (.tail _ (.head _)) ?_
        refine r_aaload (pc' := 31) (v := .ref (g.1 + con b k.toNat)) dX1_payRefusal_30 rfl (by first | assumption | rfl) (by decide) (by omega) (by omega) (by omega) (by first | decide | omega) rfl (hb.r (k := k.toNat) (by omega)) ?_
        refine r_aload_n (i := 0) (pc' := 32) dX1_payRefusal_31 rfl rfl (.head _) ?_
        refine r_getI (pc' := 35) dX1_payRefusal_32 rfl fX1_63 rfl (by first | assumption | rfl) (by omega) ?_
        refine r_V1p (ci := 4) (pc' := 38) dX1_payRefusal_35 rfl lX1_110 rfl (by decide) (Nat.le_of_ble_eq_true rfl) (by first | assumption | rfl) (by omega) (tX4_basePay (by assumption) (by assumption) (by omega)) ?_
        refine r_iload_n (i := 2) (pc' := 39) dX1_payRefusal_38 rfl rfl (.tail _ (.tail _ (.head _))) ?_
        refine r_isub (pc' := 40) dX1_payRefusal_39 rfl ?_
        refine r_aload_n (i := 0) (pc' := 41) dX1_payRefusal_40 rfl rfl (.head _) ?_
        refine r_getI (pc' := 44) dX1_payRefusal_41 rfl fX1_24 rfl (by first | assumption | rfl) (by omega) ?_
        refine r_icmp_ge (t := 51) (f := 47) dX1_payRefusal_44 (by decide) rfl (by first | omega | exact xv_in _ _ _) (by first | omega | exact xv_in _ _ _) (fun h44 => ?_) (fun h44 => ?_)
        · refine r_iconst (pc' := 52) dX1_payRefusal_51 rfl ?_
          refine r_ireturn dX1_payRefusal_52 rfl ?_
          refine ⟨?_, rfl, rfl, rfl, rfl⟩
          unfold bk_pref
          (repeat' split) <;> first | rfl | (exfalso; omega) | (congr 3; omega)
        · refine r_iconst (pc' := 48) dX1_payRefusal_47 rfl ?_
          refine r_goto (t := 52) dX1_payRefusal_48 (by decide) ?_
          refine r_ireturn dX1_payRefusal_52 rfl ?_
          refine ⟨?_, rfl, rfl, rfl, rfl⟩
          unfold bk_pref
          (repeat' split) <;> first | rfl | (exfalso; omega) | (congr 3; omega)
      · refine r_iconst (pc' := 24) dX1_payRefusal_23 rfl ?_
        refine r_ireturn dX1_payRefusal_24 rfl ?_
        refine ⟨?_, rfl, rfl, rfl, rfl⟩
        unfold bk_pref
        (repeat' split) <;> first | rfl | (exfalso; omega) | (congr 3; omega)
  · refine r_iload_n (i := 3) (pc' := 11) dX1_payRefusal_10 rfl rfl (.tail _ (.tail _ (.tail _ (.head _)))) ?_
    refine r_ireturn dX1_payRefusal_11 rfl ?_
    refine ⟨?_, rfl, rfl, rfl, rfl⟩
    unfold bk_pref
    (repeat' split) <;> first | rfl | (exfalso; omega) | (congr 3; omega)
