set_option maxHeartbeats 4000000 in
set_option maxRecDepth 100000 in
theorem iX7_read {l : Launch} {g : q_G} {n : Nat} {P : q_P} {X : q_X} {Y : q_Y} (hr : isRd n P) {o : Nat} {lp : Int} (hm : isMar n P o) (hoa : o + 5 ≤ 441 ∨ 481 ≤ o) (hlp : q_in lp) {i : Int} : q_Tr l g mX7_read 4 (q_gi (fun r' n' P' X' Y' => n' = n ∧ P' = P ∧ Y' = Y ∧ X' = rdTail X ∧ r' = xv (rdTail X) o 0)) 95 [(0, .ref (g.1 + o)), (1, .ref (g.1 + 444)), (2, .int (zi lp)), (3, .int (zi (i : Int)))] [] n P X Y := by
  obtain ⟨a0, a1, a2, a3, a4, u1, u2, u3, u4, hnm⟩ := id hm
  obtain ⟨r0, r1, hnr⟩ := id hr
  refine r_aload_n (i := 1) (pc' := 96) dX7_read_95 rfl rfl (.tail _ (.head _)) ?_
  refine r_V0p (ci := 9) (pc' := 99) dX7_read_96 rfl lX7_44 rfl (by decide) (Nat.le_of_ble_eq_true rfl) (by first | assumption | rfl) (by omega) (tX9_hasMore hr) ?_
  refine r_bif_eq (t := 110) (f := 102) dX7_read_99 (by decide) rfl (fun h99 => ?_) (fun h99 => ?_)
  · refine r_aload_n (i := 0) (pc' := 111) dX7_read_110 rfl rfl (.head _) ?_
    refine r_getI (pc' := 114) dX7_read_111 rfl fX7_24 rfl (by first | assumption | rfl) (by omega) ?_
    refine r_ireturn dX7_read_114 rfl ?_
    refine ⟨_, rfl, rfl, rfl, rfl, ?_, ?_⟩ <;> (rw [rdTail]; first | rw [if_pos h99] | rw [if_neg h99])
  · refine r_aload_n (i := 1) (pc' := 103) dX7_read_102 rfl rfl (.tail _ (.head _)) ?_
    refine r_aload_n (i := 1) (pc' := 104) dX7_read_103 rfl rfl (.tail _ (.head _)) ?_
    refine r_getI (pc' := 107) dX7_read_104 rfl fX7_62 rfl (by first | assumption | rfl) (by omega) ?_
    refine r_V1gv (ci := 9) (pc' := 110) dX7_read_107 rfl lX7_65 rfl (by decide) (Nat.le_of_ble_eq_true rfl) (by first | assumption | rfl) (by omega) (tX9_fail hr) (fun n107 P107 X107 Y107 e107 le107 => ?_)
    obtain ⟨hg1_107, hg2_107, hg3_107, hg4_107⟩ := e107
    have g1_107 := Eq.symm hg1_107
    have g2_107 := Eq.symm hg2_107
    have g3_107 := Eq.symm hg3_107
    have g4_107 := Eq.symm hg4_107
    clear hg1_107 hg2_107 hg3_107 hg4_107
    subst g1_107 g2_107 g3_107 g4_107
    refine r_aload_n (i := 0) (pc' := 111) dX7_read_110 rfl rfl (.head _) ?_
    refine r_getI (pc' := 114) dX7_read_111 rfl fX7_24 rfl (by first | assumption | rfl) (by omega) ?_
    refine r_ireturn dX7_read_114 rfl ?_
    refine ⟨_, rfl, rfl, rfl, rfl, ?_, ?_⟩ <;> (rw [rdTail]; first | rw [if_pos h99] | rw [if_neg h99])
set_option maxHeartbeats 4000000 in
set_option maxRecDepth 100000 in
theorem lX7_read {l : Launch} {g : q_G} {n : Nat} {P : q_P} {Y : q_Y} (hr : isRd n P) {o : Nat} {lp : Int} (hm : isMar n P o) (hoa : o + 5 ≤ 441 ∨ 481 ≤ o) (hlp : q_in lp) {X0 : q_X} : ∀ (w i : Nat) (X : q_X), i + w = 12 → rOk X → rdTail (mkRd o lp w i X) = X0 → q_Tr l g mX7_read 4 (q_gi (fun r' n' P' X' Y' => n' = n ∧ P' = P ∧ Y' = Y ∧ X' = X0 ∧ r' = xv X0 o 0)) 7 [(0, .ref (g.1 + o)), (1, .ref (g.1 + 444)), (2, .int (zi lp)), (3, .int (zi (i : Int)))] [] n P X Y := by
  obtain ⟨a0, a1, a2, a3, a4, u1, u2, u3, u4, hnm⟩ := id hm
  obtain ⟨r0, r1, hnr⟩ := id hr
  intro w
  induction w with
  | zero =>
    intro i X hk ho he
    subst he
    refine r_iload_n (i := 3) (pc' := 8) dX7_read_7 rfl rfl (.tail _ (.tail _ (.tail _ (.head _)))) ?_
    refine r_bipush (pc' := 10) dX7_read_8 rfl (by decide) ?_
    refine r_icmp_ge (t := 95) (f := 13) dX7_read_10 (by decide) rfl (by first | omega | exact xv_in _ _ _ | exact rd_in _ _) (by first | omega | exact xv_in _ _ _ | exact rd_in _ _) (fun h10 => ?_) (fun h10 => ?_)
    · exact iX7_read hr hm hoa hlp
    · exfalso; omega
  | succ w ih =>
    intro i X hk ho he
    obtain ⟨k1, k2, k3, k4, k5⟩ := ho.mk (o := o) (i := i) (lp := lp) hoa
    rw [mkRd] at he
    refine r_iload_n (i := 3) (pc' := 8) dX7_read_7 rfl rfl (.tail _ (.tail _ (.tail _ (.head _)))) ?_
    refine r_bipush (pc' := 10) dX7_read_8 rfl (by decide) ?_
    refine r_icmp_ge (t := 95) (f := 13) dX7_read_10 (by decide) rfl (by first | omega | exact xv_in _ _ _ | exact rd_in _ _) (by first | omega | exact xv_in _ _ _ | exact rd_in _ _) (fun h10 => ?_) (fun h10 => ?_)
    · exfalso; omega
    · refine r_aload_n (i := 1) (pc' := 14) dX7_read_13 rfl rfl (.tail _ (.head _)) ?_
      refine r_V0p (ci := 9) (pc' := 17) dX7_read_14 rfl lX7_44 rfl (by decide) (Nat.le_of_ble_eq_true rfl) (by first | assumption | rfl) (by omega) (tX9_hasMore hr) ?_
      refine r_bif_eq (t := 95) (f := 20) dX7_read_17 (by decide) rfl (fun h17 => ?_) (fun h17 => ?_)
      · rw [if_neg h17] at he
        subst he
        exact iX7_read hr hm hoa hlp
      · rw [if_pos h17] at he
        refine r_aload_n (i := 0) (pc' := 21) dX7_read_20 rfl rfl (.head _) ?_
        refine r_getR (pc' := 24) dX7_read_21 rfl fX7_11 rfl (by first | assumption | rfl) (by omega) (by assumption) ?_
        refine r_iload_n (i := 3) (pc' := 25) dX7_read_24 rfl rfl (.tail _ (.tail _ (.tail _ (.head _)))) ?_
        refine r_aload_n (i := 1) (pc' := 26) dX7_read_25 rfl rfl (.tail _ (.head _)) ?_
        refine r_iconst (pc' := 27) dX7_read_26 rfl ?_
        refine r_sipush (pc' := 30) dX7_read_27 rfl (by decide) ?_
        refine r_V2gi (ci := 9) (pc' := 33) dX7_read_30 rfl lX7_50 rfl (by decide) (Nat.le_of_ble_eq_true rfl) (by first | assumption | rfl) (by omega) (tX9_numberAndComma hr ho (by omega) (by omega)) (fun r30 n30 P30 X30 Y30 e30 le30 => ?_)
        obtain ⟨hg1_30, hg2_30, hg3_30, hg4_30, hg5_30⟩ := e30
        have g1_30 := Eq.symm hg1_30
        have g2_30 := Eq.symm hg2_30
        have g3_30 := Eq.symm hg3_30
        have g4_30 := Eq.symm hg4_30
        have g5_30 := Eq.symm hg5_30
        clear hg1_30 hg2_30 hg3_30 hg4_30 hg5_30
        subst g1_30 g2_30 g3_30 g4_30 g5_30
        refine r_iastore (pc' := 34) dX7_read_33 rfl (by first | assumption | rfl) (by omega) (by omega) (by omega) (by first | decide | omega) (Int.toNat_natCast _) ?_
        change q_Tr _ _ _ _ _ _ _ _ _ _ (mk1 X o i) _
        refine r_aload_n (i := 0) (pc' := 35) dX7_read_34 rfl rfl (.head _) ?_
        refine r_getR (pc' := 38) dX7_read_35 rfl fX7_15 rfl (by first | assumption | rfl) (by omega) (by assumption) ?_
        refine r_iload_n (i := 3) (pc' := 39) dX7_read_38 rfl rfl (.tail _ (.tail _ (.tail _ (.head _)))) ?_
        refine r_aload_n (i := 1) (pc' := 40) dX7_read_39 rfl rfl (.tail _ (.head _)) ?_
        refine r_iconst (pc' := 41) dX7_read_40 rfl ?_
        refine r_bipush (pc' := 43) dX7_read_41 rfl (by decide) ?_
        refine r_V2gi (ci := 9) (pc' := 46) dX7_read_43 rfl lX7_50 rfl (by decide) (Nat.le_of_ble_eq_true rfl) (by first | assumption | rfl) (by omega) (tX9_numberAndComma hr k1 (by omega) (by omega)) (fun r43 n43 P43 X43 Y43 e43 le43 => ?_)
        obtain ⟨hg1_43, hg2_43, hg3_43, hg4_43, hg5_43⟩ := e43
        have g1_43 := Eq.symm hg1_43
        have g2_43 := Eq.symm hg2_43
        have g3_43 := Eq.symm hg3_43
        have g4_43 := Eq.symm hg4_43
        have g5_43 := Eq.symm hg5_43
        clear hg1_43 hg2_43 hg3_43 hg4_43 hg5_43
        subst g1_43 g2_43 g3_43 g4_43 g5_43
        refine r_iastore (pc' := 47) dX7_read_46 rfl (by first | assumption | rfl) (by omega) (by omega) (by omega) (by first | decide | omega) (Int.toNat_natCast _) ?_
        change q_Tr _ _ _ _ _ _ _ _ _ _ (mk2 (mk1 X o i) o i) _
        refine r_aload_n (i := 0) (pc' := 48) dX7_read_47 rfl rfl (.head _) ?_
        refine r_getR (pc' := 51) dX7_read_48 rfl fX7_18 rfl (by first | assumption | rfl) (by omega) (by assumption) ?_
        refine r_iload_n (i := 3) (pc' := 52) dX7_read_51 rfl rfl (.tail _ (.tail _ (.tail _ (.head _)))) ?_
        refine r_aload_n (i := 1) (pc' := 53) dX7_read_52 rfl rfl (.tail _ (.head _)) ?_
        refine r_iconst (pc' := 54) dX7_read_53 rfl ?_
        refine r_ldc (pc' := 56) dX7_read_54 rfl kX7_54 ?_
        refine r_V2gi (ci := 9) (pc' := 59) dX7_read_56 rfl lX7_50 rfl (by decide) (Nat.le_of_ble_eq_true rfl) (by first | assumption | rfl) (by omega) (tX9_numberAndComma hr k2 (by omega) (by omega)) (fun r56 n56 P56 X56 Y56 e56 le56 => ?_)
        obtain ⟨hg1_56, hg2_56, hg3_56, hg4_56, hg5_56⟩ := e56
        have g1_56 := Eq.symm hg1_56
        have g2_56 := Eq.symm hg2_56
        have g3_56 := Eq.symm hg3_56
        have g4_56 := Eq.symm hg4_56
        have g5_56 := Eq.symm hg5_56
        clear hg1_56 hg2_56 hg3_56 hg4_56 hg5_56
        subst g1_56 g2_56 g3_56 g4_56 g5_56
        refine r_iastore (pc' := 60) dX7_read_59 rfl (by first | assumption | rfl) (by omega) (by omega) (by omega) (by first | decide | omega) (Int.toNat_natCast _) ?_
        change q_Tr _ _ _ _ _ _ _ _ _ _ (mk3 (mk2 (mk1 X o i) o i) o i) _
        refine r_aload_n (i := 0) (pc' := 61) dX7_read_60 rfl rfl (.head _) ?_
        refine r_getR (pc' := 64) dX7_read_61 rfl fX7_21 rfl (by first | assumption | rfl) (by omega) (by assumption) ?_
        refine r_iload_n (i := 3) (pc' := 65) dX7_read_64 rfl rfl (.tail _ (.tail _ (.tail _ (.head _)))) ?_
        refine r_aload_n (i := 1) (pc' := 66) dX7_read_65 rfl rfl (.tail _ (.head _)) ?_
        refine r_iload_n (i := 2) (pc' := 67) dX7_read_66 rfl rfl (.tail _ (.tail _ (.head _))) ?_
        refine r_ldc (pc' := 69) dX7_read_67 rfl kX7_54 ?_
        refine r_V2gi (ci := 9) (pc' := 72) dX7_read_69 rfl lX7_55 rfl (by decide) (Nat.le_of_ble_eq_true rfl) (by first | assumption | rfl) (by omega) (tX9_number hr (by have := (k3).1; have := (k3).2; omega) hlp (by omega)) (fun r69 n69 P69 X69 Y69 e69 le69 => ?_)
        obtain ⟨hg1_69, hg2_69, hg3_69, hg4_69, hg5_69⟩ := e69
        have g1_69 := Eq.symm hg1_69
        have g2_69 := Eq.symm hg2_69
        have g3_69 := Eq.symm hg3_69
        have g4_69 := Eq.symm hg4_69
        have g5_69 := Eq.symm hg5_69
        clear hg1_69 hg2_69 hg3_69 hg4_69 hg5_69
        subst g1_69 g2_69 g3_69 g4_69 g5_69
        refine r_iastore (pc' := 73) dX7_read_72 rfl (by first | assumption | rfl) (by omega) (by omega) (by omega) (by first | decide | omega) (Int.toNat_natCast _) ?_
        change q_Tr _ _ _ _ _ _ _ _ _ _ (mk4 (mk3 (mk2 (mk1 X o i) o i) o i) o i lp) _
        refine r_aload_n (i := 1) (pc' := 74) dX7_read_73 rfl rfl (.tail _ (.head _)) ?_
        refine r_bipush (pc' := 76) dX7_read_74 rfl (by decide) ?_
        refine r_V1gv (ci := 9) (pc' := 79) dX7_read_76 rfl lX7_58 rfl (by decide) (Nat.le_of_ble_eq_true rfl) (by first | assumption | rfl) (by omega) (tX9_expect hr (by omega)) (fun n76 P76 X76 Y76 e76 le76 => ?_)
        obtain ⟨hg1_76, hg2_76, hg3_76, hg4_76⟩ := e76
        have g1_76 := Eq.symm hg1_76
        have g2_76 := Eq.symm hg2_76
        have g3_76 := Eq.symm hg3_76
        have g4_76 := Eq.symm hg4_76
        clear hg1_76 hg2_76 hg3_76 hg4_76
        subst g1_76 g2_76 g3_76 g4_76
        change q_Tr _ _ _ _ _ _ _ _ _ _ (mk5 X o i lp) _
        refine r_aload_n (i := 0) (pc' := 80) dX7_read_79 rfl rfl (.head _) ?_
        refine r_dup (pc' := 81) dX7_read_80 rfl rfl ?_
        refine r_getI (pc' := 84) dX7_read_81 rfl fX7_24 rfl (by first | assumption | rfl) (by omega) ?_
        refine r_iconst (pc' := 85) dX7_read_84 rfl ?_
        refine r_iadd (pc' := 86) dX7_read_85 rfl ?_
        refine r_putI (pc' := 89) dX7_read_86 rfl fX7_24 rfl (by first | assumption | rfl) (by omega) rfl rfl ?_
        change q_Tr _ _ _ _ _ _ _ _ _ _ (mkOne X o i lp) _
        refine r_iinc (pc' := 92) dX7_read_89 rfl rfl (.tail _ (.tail _ (.tail _ (.head _)))) (.s1 (.s1 (.s1 (.here .nil) rfl rfl rfl) rfl rfl rfl) rfl rfl rfl) ?_
        refine r_goto (t := 7) dX7_read_92 (by decide) ?_
        exact ih (i + 1) _ (by omega) k5 he
set_option maxHeartbeats 4000000 in
set_option maxRecDepth 100000 in
theorem tX7_read {l : Launch} {g : q_G} {n : Nat} {P : q_P} {X : q_X} {Y : q_Y} (hr : isRd n P) {o : Nat} {lp : Int} (hm : isMar n P o) (hoa : o + 5 ≤ 441 ∨ 481 ≤ o) (hlp : q_in lp) (ho : rOk X) : q_Met l g mX7_read 4 [.ref (g.1 + o), .ref (g.1 + 444), .int (zi lp)] n P X Y (q_gi (fun r' n' P' X' Y' => n' = n ∧ P' = P ∧ Y' = Y ∧ X' = mkAll X o lp ∧ r' = xv (mkAll X o lp) o 0)) := by
  obtain ⟨a0, a1, a2, a3, a4, u1, u2, u3, u4, hnm⟩ := id hm
  obtain ⟨r0, r1, hnr⟩ := id hr
  refine q_enter (L := [(0, .ref (g.1 + o)), (1, .ref (g.1 + 444)), (2, .int (zi lp))]) (by decide) (Nat.le_of_ble_eq_true rfl) rfl ?_
  refine r_aload_n (i := 0) (pc' := 1) dX7_read_0 rfl rfl (.head _) ?_
  refine r_iconst (pc' := 2) dX7_read_1 rfl ?_
  refine r_putI (pc' := 5) dX7_read_2 rfl fX7_24 rfl (by first | assumption | rfl) (by omega) rfl rfl ?_
  refine r_iconst (pc' := 6) dX7_read_5 rfl ?_
  refine r_istore_n (i := 3) (pc' := 7) dX7_read_6 rfl rfl rfl (.s1 (.s1 (.s1 .nil rfl rfl rfl) rfl rfl rfl) rfl rfl rfl) ?_
  exact lX7_read hr hm hoa hlp 12 0 _ (by omega) (ho.up (by omega)) rfl
set_option maxHeartbeats 4000000 in
set_option maxRecDepth 100000 in
theorem tX0_readAct {l : Launch} {g : q_G} {n : Nat} {P : q_P} {X : q_X} {Y : q_Y} (hr : isRd n P) (ha : isAct n P) {i : Nat} (hi : i < 20) (ho : rOk X) (hm : rMore X) : q_Met l g mX0_readAct 4 [.ref (g.1 + 449), .ref (g.1 + 444), .int (zi (i : Int))] n P X Y (q_gv (fun n' P' X' Y' => n' = n ∧ P' = P ∧ Y' = Y ∧ X' = acAct X i)) := by
  obtain ⟨a1, a2, a3, hna⟩ := id ha
  obtain ⟨r0, r1, hnr⟩ := id hr
  obtain ⟨k1, k2, k3, k4⟩ := ho.act hm i
  refine q_enter (L := [(0, .ref (g.1 + 449)), (1, .ref (g.1 + 444)), (2, .int (zi (i : Int)))]) (by decide) (Nat.le_of_ble_eq_true rfl) rfl ?_
  refine r_aload_n (i := 1) (pc' := 1) dX0_readAct_0 rfl rfl (.tail _ (.head _)) ?_
  refine r_V0p (ci := 9) (pc' := 4) dX0_readAct_1 rfl lX0_45 rfl (by decide) (Nat.le_of_ble_eq_true rfl) (by first | assumption | rfl) (by omega) (tX9_peek (by assumption)) ?_
  refine r_istore_n (i := 3) (pc' := 5) dX0_readAct_4 rfl rfl rfl (.s1 (.s1 (.s1 .nil rfl rfl rfl) rfl rfl rfl) rfl rfl rfl) ?_
  refine r_aload_n (i := 0) (pc' := 6) dX0_readAct_5 rfl rfl (.head _) ?_
  refine r_getR (pc' := 9) dX0_readAct_6 rfl fX0_11 rfl (by first | assumption | rfl) (by omega) (by assumption) ?_
  refine r_iload_n (i := 2) (pc' := 10) dX0_readAct_9 rfl rfl (.tail _ (.tail _ (.head _))) ?_
  refine r_iload_n (i := 3) (pc' := 11) dX0_readAct_10 rfl rfl (.tail _ (.tail _ (.tail _ (.head _)))) ?_
  refine r_iastore (pc' := 12) dX0_readAct_11 rfl (by first | assumption | rfl) (by omega) (by omega) (by omega) (by first | decide | omega) (Int.toNat_natCast _) ?_
  refine r_aload_n (i := 0) (pc' := 13) dX0_readAct_12 rfl rfl (.head _) ?_
  refine r_getR (pc' := 16) dX0_readAct_13 rfl fX0_15 rfl (by first | assumption | rfl) (by omega) (by assumption) ?_
  refine r_iload_n (i := 2) (pc' := 17) dX0_readAct_16 rfl rfl (.tail _ (.tail _ (.head _))) ?_
  refine r_iconst (pc' := 18) dX0_readAct_17 rfl ?_
  refine r_iastore (pc' := 19) dX0_readAct_18 rfl (by first | assumption | rfl) (by omega) (by omega) (by omega) (by first | decide | omega) (Int.toNat_natCast _) ?_
  refine r_aload_n (i := 0) (pc' := 20) dX0_readAct_19 rfl rfl (.head _) ?_
  refine r_getR (pc' := 23) dX0_readAct_20 rfl fX0_18 rfl (by first | assumption | rfl) (by omega) (by assumption) ?_
  refine r_iload_n (i := 2) (pc' := 24) dX0_readAct_23 rfl rfl (.tail _ (.tail _ (.head _))) ?_
  refine r_iconst (pc' := 25) dX0_readAct_24 rfl ?_
  refine r_iastore (pc' := 26) dX0_readAct_25 rfl (by first | assumption | rfl) (by omega) (by omega) (by omega) (by first | decide | omega) (Int.toNat_natCast _) ?_
  change q_Tr _ _ _ _ _ _ _ _ _ _ (ac0 X i) _
  refine r_iload_n (i := 3) (pc' := 27) dX0_readAct_26 rfl rfl (.tail _ (.tail _ (.tail _ (.head _)))) ?_
  by_cases hs27 : rd X (xv X 444 1) = 100 ∨ rd X (xv X 444 1) = 116 ∨ rd X (xv X 444 1) = 120 ∨ rd X (xv X 444 1) = 121
  · rcases hs27 with hs27 | hs27 | hs27 | hs27
    · refine r_look (t := 68) (off := 41) dX0_readAct_27 rfl (by first | omega | exact xv_in _ _ _ | exact rd_in _ _) (by rw [hs27]; rfl) (by decide) ?_
      refine r_aload_n (i := 1) (pc' := 69) dX0_readAct_68 rfl rfl (.tail _ (.head _)) ?_
      refine r_V0gv (ci := 9) (pc' := 72) dX0_readAct_69 rfl lX0_49 rfl (by decide) (Nat.le_of_ble_eq_true rfl) (by first | assumption | rfl) (by omega) (tX9_skip hr) (fun n69 P69 X69 Y69 e69 le69 => ?_)
      obtain ⟨hg1_69, hg2_69, hg3_69, hg4_69⟩ := e69
      have g1_69 := Eq.symm hg1_69
      have g2_69 := Eq.symm hg2_69
      have g3_69 := Eq.symm hg3_69
      have g4_69 := Eq.symm hg4_69
      clear hg1_69 hg2_69 hg3_69 hg4_69
      subst g1_69 g2_69 g3_69 g4_69
      refine r_aload_n (i := 0) (pc' := 73) dX0_readAct_72 rfl rfl (.head _) ?_
      refine r_getR (pc' := 76) dX0_readAct_73 rfl fX0_15 rfl (by first | assumption | rfl) (by omega) (by assumption) ?_
      refine r_iload_n (i := 2) (pc' := 77) dX0_readAct_76 rfl rfl (.tail _ (.tail _ (.head _))) ?_
      refine r_aload_n (i := 1) (pc' := 78) dX0_readAct_77 rfl rfl (.tail _ (.head _)) ?_
      refine r_iconst (pc' := 79) dX0_readAct_78 rfl ?_
      refine r_ldc (pc' := 81) dX0_readAct_79 rfl kX0_52 ?_
      refine r_V2gi (ci := 9) (pc' := 84) dX0_readAct_81 rfl lX0_53 rfl (by decide) (Nat.le_of_ble_eq_true rfl) (by first | assumption | rfl) (by omega) (tX9_number hr (by have := (k1).1; have := (k1).2; omega) (by omega) (by omega)) (fun r81 n81 P81 X81 Y81 e81 le81 => ?_)
      obtain ⟨hg1_81, hg2_81, hg3_81, hg4_81, hg5_81⟩ := e81
      have g1_81 := Eq.symm hg1_81
      have g2_81 := Eq.symm hg2_81
      have g3_81 := Eq.symm hg3_81
      have g4_81 := Eq.symm hg4_81
      have g5_81 := Eq.symm hg5_81
      clear hg1_81 hg2_81 hg3_81 hg4_81 hg5_81
      subst g1_81 g2_81 g3_81 g4_81 g5_81
      refine r_iastore (pc' := 85) dX0_readAct_84 rfl (by first | assumption | rfl) (by omega) (by omega) (by omega) (by first | decide | omega) (Int.toNat_natCast _) ?_
      refine r_goto (t := 136) dX0_readAct_85 (by decide) ?_
      refine r_return dX0_readAct_136 rfl ?_
      refine ⟨rfl, rfl, rfl, rfl, ?_⟩
      rw [acAct]
      first
        | (rw [if_pos (by omega)] <;> rfl)
        | (rw [if_neg (by omega), if_pos (by omega)] <;> rfl)
        | (rw [if_neg (by omega), if_neg (by omega), if_pos (by omega)] <;> rfl)
        | (rw [if_neg (by omega), if_neg (by omega), if_neg (by omega)] <;> rfl)
    · refine r_look (t := 88) (off := 61) dX0_readAct_27 rfl (by first | omega | exact xv_in _ _ _ | exact rd_in _ _) (by rw [hs27]; rfl) (by decide) ?_
      refine r_aload_n (i := 1) (pc' := 89) dX0_readAct_88 rfl rfl (.tail _ (.head _)) ?_
      refine r_V0gv (ci := 9) (pc' := 92) dX0_readAct_89 rfl lX0_49 rfl (by decide) (Nat.le_of_ble_eq_true rfl) (by first | assumption | rfl) (by omega) (tX9_skip hr) (fun n89 P89 X89 Y89 e89 le89 => ?_)
      obtain ⟨hg1_89, hg2_89, hg3_89, hg4_89⟩ := e89
      have g1_89 := Eq.symm hg1_89
      have g2_89 := Eq.symm hg2_89
      have g3_89 := Eq.symm hg3_89
      have g4_89 := Eq.symm hg4_89
      clear hg1_89 hg2_89 hg3_89 hg4_89
      subst g1_89 g2_89 g3_89 g4_89
      refine r_aload_n (i := 0) (pc' := 93) dX0_readAct_92 rfl rfl (.head _) ?_
      refine r_getR (pc' := 96) dX0_readAct_93 rfl fX0_15 rfl (by first | assumption | rfl) (by omega) (by assumption) ?_
      refine r_iload_n (i := 2) (pc' := 97) dX0_readAct_96 rfl rfl (.tail _ (.tail _ (.head _))) ?_
      refine r_aload_n (i := 1) (pc' := 98) dX0_readAct_97 rfl rfl (.tail _ (.head _)) ?_
      refine r_iconst (pc' := 99) dX0_readAct_98 rfl ?_
      refine r_ldc (pc' := 101) dX0_readAct_99 rfl kX0_52 ?_
      refine r_V2gi (ci := 9) (pc' := 104) dX0_readAct_101 rfl lX0_57 rfl (by decide) (Nat.le_of_ble_eq_true rfl) (by first | assumption | rfl) (by omega) (tX9_numberAndComma hr k1 (by omega) (by omega)) (fun r101 n101 P101 X101 Y101 e101 le101 => ?_)
      obtain ⟨hg1_101, hg2_101, hg3_101, hg4_101, hg5_101⟩ := e101
      have g1_101 := Eq.symm hg1_101
      have g2_101 := Eq.symm hg2_101
      have g3_101 := Eq.symm hg3_101
      have g4_101 := Eq.symm hg4_101
      have g5_101 := Eq.symm hg5_101
      clear hg1_101 hg2_101 hg3_101 hg4_101 hg5_101
      subst g1_101 g2_101 g3_101 g4_101 g5_101
      refine r_iastore (pc' := 105) dX0_readAct_104 rfl (by first | assumption | rfl) (by omega) (by omega) (by omega) (by first | decide | omega) (Int.toNat_natCast _) ?_
      change q_Tr _ _ _ _ _ _ _ _ _ _ (ac2 (rd_skip (ac0 X i)) i) _
      refine r_aload_n (i := 0) (pc' := 106) dX0_readAct_105 rfl rfl (.head _) ?_
      refine r_getR (pc' := 109) dX0_readAct_106 rfl fX0_18 rfl (by first | assumption | rfl) (by omega) (by assumption) ?_
      refine r_iload_n (i := 2) (pc' := 110) dX0_readAct_109 rfl rfl (.tail _ (.tail _ (.head _))) ?_
      refine r_aload_n (i := 1) (pc' := 111) dX0_readAct_110 rfl rfl (.tail _ (.head _)) ?_
      refine r_iconst (pc' := 112) dX0_readAct_111 rfl ?_
      refine r_ldc (pc' := 114) dX0_readAct_112 rfl kX0_52 ?_
      refine r_V2gi (ci := 9) (pc' := 117) dX0_readAct_114 rfl lX0_53 rfl (by decide) (Nat.le_of_ble_eq_true rfl) (by first | assumption | rfl) (by omega) (tX9_number hr (by have := (k2).1; have := (k2).2; omega) (by omega) (by omega)) (fun r114 n114 P114 X114 Y114 e114 le114 => ?_)
      obtain ⟨hg1_114, hg2_114, hg3_114, hg4_114, hg5_114⟩ := e114
      have g1_114 := Eq.symm hg1_114
      have g2_114 := Eq.symm hg2_114
      have g3_114 := Eq.symm hg3_114
      have g4_114 := Eq.symm hg4_114
      have g5_114 := Eq.symm hg5_114
      clear hg1_114 hg2_114 hg3_114 hg4_114 hg5_114
      subst g1_114 g2_114 g3_114 g4_114 g5_114
      refine r_iastore (pc' := 118) dX0_readAct_117 rfl (by first | assumption | rfl) (by omega) (by omega) (by omega) (by first | decide | omega) (Int.toNat_natCast _) ?_
      refine r_goto (t := 136) dX0_readAct_118 (by decide) ?_
      refine r_return dX0_readAct_136 rfl ?_
      refine ⟨rfl, rfl, rfl, rfl, ?_⟩
      rw [acAct]
      first
        | (rw [if_pos (by omega)] <;> rfl)
        | (rw [if_neg (by omega), if_pos (by omega)] <;> rfl)
        | (rw [if_neg (by omega), if_neg (by omega), if_pos (by omega)] <;> rfl)
        | (rw [if_neg (by omega), if_neg (by omega), if_neg (by omega)] <;> rfl)
    · refine r_look (t := 68) (off := 41) dX0_readAct_27 rfl (by first | omega | exact xv_in _ _ _ | exact rd_in _ _) (by rw [hs27]; rfl) (by decide) ?_
      refine r_aload_n (i := 1) (pc' := 69) dX0_readAct_68 rfl rfl (.tail _ (.head _)) ?_
      refine r_V0gv (ci := 9) (pc' := 72) dX0_readAct_69 rfl lX0_49 rfl (by decide) (Nat.le_of_ble_eq_true rfl) (by first | assumption | rfl) (by omega) (tX9_skip hr) (fun n69 P69 X69 Y69 e69 le69 => ?_)
      obtain ⟨hg1_69, hg2_69, hg3_69, hg4_69⟩ := e69
      have g1_69 := Eq.symm hg1_69
      have g2_69 := Eq.symm hg2_69
      have g3_69 := Eq.symm hg3_69
      have g4_69 := Eq.symm hg4_69
      clear hg1_69 hg2_69 hg3_69 hg4_69
      subst g1_69 g2_69 g3_69 g4_69
      refine r_aload_n (i := 0) (pc' := 73) dX0_readAct_72 rfl rfl (.head _) ?_
      refine r_getR (pc' := 76) dX0_readAct_73 rfl fX0_15 rfl (by first | assumption | rfl) (by omega) (by assumption) ?_
      refine r_iload_n (i := 2) (pc' := 77) dX0_readAct_76 rfl rfl (.tail _ (.tail _ (.head _))) ?_
      refine r_aload_n (i := 1) (pc' := 78) dX0_readAct_77 rfl rfl (.tail _ (.head _)) ?_
      refine r_iconst (pc' := 79) dX0_readAct_78 rfl ?_
      refine r_ldc (pc' := 81) dX0_readAct_79 rfl kX0_52 ?_
      refine r_V2gi (ci := 9) (pc' := 84) dX0_readAct_81 rfl lX0_53 rfl (by decide) (Nat.le_of_ble_eq_true rfl) (by first | assumption | rfl) (by omega) (tX9_number hr (by have := (k1).1; have := (k1).2; omega) (by omega) (by omega)) (fun r81 n81 P81 X81 Y81 e81 le81 => ?_)
      obtain ⟨hg1_81, hg2_81, hg3_81, hg4_81, hg5_81⟩ := e81
      have g1_81 := Eq.symm hg1_81
      have g2_81 := Eq.symm hg2_81
      have g3_81 := Eq.symm hg3_81
      have g4_81 := Eq.symm hg4_81
      have g5_81 := Eq.symm hg5_81
      clear hg1_81 hg2_81 hg3_81 hg4_81 hg5_81
      subst g1_81 g2_81 g3_81 g4_81 g5_81
      refine r_iastore (pc' := 85) dX0_readAct_84 rfl (by first | assumption | rfl) (by omega) (by omega) (by omega) (by first | decide | omega) (Int.toNat_natCast _) ?_
      refine r_goto (t := 136) dX0_readAct_85 (by decide) ?_
      refine r_return dX0_readAct_136 rfl ?_
      refine ⟨rfl, rfl, rfl, rfl, ?_⟩
      rw [acAct]
      first
        | (rw [if_pos (by omega)] <;> rfl)
        | (rw [if_neg (by omega), if_pos (by omega)] <;> rfl)
        | (rw [if_neg (by omega), if_neg (by omega), if_pos (by omega)] <;> rfl)
        | (rw [if_neg (by omega), if_neg (by omega), if_neg (by omega)] <;> rfl)
    · refine r_look (t := 121) (off := 94) dX0_readAct_27 rfl (by first | omega | exact xv_in _ _ _ | exact rd_in _ _) (by rw [hs27]; rfl) (by decide) ?_
      refine r_aload_n (i := 1) (pc' := 122) dX0_readAct_121 rfl rfl (.tail _ (.head _)) ?_
      refine r_V0gv (ci := 9) (pc' := 125) dX0_readAct_122 rfl lX0_49 rfl (by decide) (Nat.le_of_ble_eq_true rfl) (by first | assumption | rfl) (by omega) (tX9_skip hr) (fun n122 P122 X122 Y122 e122 le122 => ?_)
      obtain ⟨hg1_122, hg2_122, hg3_122, hg4_122⟩ := e122
      have g1_122 := Eq.symm hg1_122
      have g2_122 := Eq.symm hg2_122
      have g3_122 := Eq.symm hg3_122
      have g4_122 := Eq.symm hg4_122
      clear hg1_122 hg2_122 hg3_122 hg4_122
      subst g1_122 g2_122 g3_122 g4_122
      refine r_goto (t := 136) dX0_readAct_125 (by decide) ?_
      refine r_return dX0_readAct_136 rfl ?_
      refine ⟨rfl, rfl, rfl, rfl, ?_⟩
      rw [acAct]
      first
        | (rw [if_pos (by omega)] <;> rfl)
        | (rw [if_neg (by omega), if_pos (by omega)] <;> rfl)
        | (rw [if_neg (by omega), if_neg (by omega), if_pos (by omega)] <;> rfl)
        | (rw [if_neg (by omega), if_neg (by omega), if_neg (by omega)] <;> rfl)
  · refine r_look (t := 128) (off := 101) dX0_readAct_27 rfl (by first | omega | exact xv_in _ _ _ | exact rd_in _ _) (by simp [Op.lookupswitch.offset]; omega) (by decide) ?_
    refine r_aload_n (i := 1) (pc' := 129) dX0_readAct_128 rfl rfl (.tail _ (.head _)) ?_
    refine r_aload_n (i := 1) (pc' := 130) dX0_readAct_129 rfl rfl (.tail _ (.head _)) ?_
    refine r_getI (pc' := 133) dX0_readAct_130 rfl fX0_39 rfl (by first | assumption | rfl) (by omega) ?_
    refine r_V1gv (ci := 9) (pc' := 136) dX0_readAct_133 rfl lX0_42 rfl (by decide) (Nat.le_of_ble_eq_true rfl) (by first | assumption | rfl) (by omega) (tX9_fail hr) (fun n133 P133 X133 Y133 e133 le133 => ?_)
    obtain ⟨hg1_133, hg2_133, hg3_133, hg4_133⟩ := e133
    have g1_133 := Eq.symm hg1_133
    have g2_133 := Eq.symm hg2_133
    have g3_133 := Eq.symm hg3_133
    have g4_133 := Eq.symm hg4_133
    clear hg1_133 hg2_133 hg3_133 hg4_133
    subst g1_133 g2_133 g3_133 g4_133
    refine r_return dX0_readAct_136 rfl ?_
    refine ⟨rfl, rfl, rfl, rfl, ?_⟩
    rw [acAct]
    first
      | (rw [if_pos (by omega)] <;> rfl)
      | (rw [if_neg (by omega), if_pos (by omega)] <;> rfl)
      | (rw [if_neg (by omega), if_neg (by omega), if_pos (by omega)] <;> rfl)
      | (rw [if_neg (by omega), if_neg (by omega), if_neg (by omega)] <;> rfl)
set_option maxHeartbeats 4000000 in
set_option maxRecDepth 100000 in
theorem iX0_read {l : Launch} {g : q_G} {n : Nat} {P : q_P} {X : q_X} {Y : q_Y} (hr : isRd n P) (ha : isAct n P) {i : Int} : q_Tr l g mX0_read 5 (q_gv (fun n' P' X' Y' => n' = n ∧ P' = P ∧ Y' = Y ∧ X' = rdTail X)) 48 [(0, .ref (g.1 + 449)), (1, .ref (g.1 + 444)), (2, .int (zi (i : Int)))] [] n P X Y := by
  obtain ⟨a1, a2, a3, hna⟩ := id ha
  obtain ⟨r0, r1, hnr⟩ := id hr
  refine r_aload_n (i := 1) (pc' := 49) dX0_read_48 rfl rfl (.tail _ (.head _)) ?_
  refine r_V0p (ci := 9) (pc' := 52) dX0_read_49 rfl lX0_25 rfl (by decide) (Nat.le_of_ble_eq_true rfl) (by first | assumption | rfl) (by omega) (tX9_hasMore hr) ?_
  refine r_bif_eq (t := 63) (f := 55) dX0_read_52 (by decide) rfl (fun h52 => ?_) (fun h52 => ?_)
  · refine r_return dX0_read_63 rfl ?_
    refine ⟨rfl, rfl, rfl, rfl, ?_⟩
    rw [rdTail]
    first | rw [if_pos h52] | rw [if_neg h52]
  · refine r_aload_n (i := 1) (pc' := 56) dX0_read_55 rfl rfl (.tail _ (.head _)) ?_
    refine r_aload_n (i := 1) (pc' := 57) dX0_read_56 rfl rfl (.tail _ (.head _)) ?_
    refine r_getI (pc' := 60) dX0_read_57 rfl fX0_39 rfl (by first | assumption | rfl) (by omega) ?_
    refine r_V1gv (ci := 9) (pc' := 63) dX0_read_60 rfl lX0_42 rfl (by decide) (Nat.le_of_ble_eq_true rfl) (by first | assumption | rfl) (by omega) (tX9_fail hr) (fun n60 P60 X60 Y60 e60 le60 => ?_)
    obtain ⟨hg1_60, hg2_60, hg3_60, hg4_60⟩ := e60
    have g1_60 := Eq.symm hg1_60
    have g2_60 := Eq.symm hg2_60
    have g3_60 := Eq.symm hg3_60
    have g4_60 := Eq.symm hg4_60
    clear hg1_60 hg2_60 hg3_60 hg4_60
    subst g1_60 g2_60 g3_60 g4_60
    refine r_return dX0_read_63 rfl ?_
    refine ⟨rfl, rfl, rfl, rfl, ?_⟩
    rw [rdTail]
    first | rw [if_pos h52] | rw [if_neg h52]
set_option maxHeartbeats 4000000 in
set_option maxRecDepth 100000 in
theorem lX0_read {l : Launch} {g : q_G} {n : Nat} {P : q_P} {Y : q_Y} (hr : isRd n P) (ha : isAct n P) {X0 : q_X} : ∀ (w i : Nat) (X : q_X), i + w = 20 → rOk X → rdTail (acRd w i X) = X0 → q_Tr l g mX0_read 5 (q_gv (fun n' P' X' Y' => n' = n ∧ P' = P ∧ Y' = Y ∧ X' = X0)) 7 [(0, .ref (g.1 + 449)), (1, .ref (g.1 + 444)), (2, .int (zi (i : Int)))] [] n P X Y := by
  obtain ⟨a1, a2, a3, hna⟩ := id ha
  obtain ⟨r0, r1, hnr⟩ := id hr
  intro w
  induction w with
  | zero =>
    intro i X hk ho he
    subst he
    refine r_iload_n (i := 2) (pc' := 8) dX0_read_7 rfl rfl (.tail _ (.tail _ (.head _))) ?_
    refine r_bipush (pc' := 10) dX0_read_8 rfl (by decide) ?_
    refine r_icmp_ge (t := 48) (f := 13) dX0_read_10 (by decide) rfl (by first | omega | exact xv_in _ _ _ | exact rd_in _ _) (by first | omega | exact xv_in _ _ _ | exact rd_in _ _) (fun h10 => ?_) (fun h10 => ?_)
    · exact iX0_read hr ha
    · exfalso; omega
  | succ w ih =>
    intro i X hk ho he
    rw [acRd] at he
    refine r_iload_n (i := 2) (pc' := 8) dX0_read_7 rfl rfl (.tail _ (.tail _ (.head _))) ?_
    refine r_bipush (pc' := 10) dX0_read_8 rfl (by decide) ?_
    refine r_icmp_ge (t := 48) (f := 13) dX0_read_10 (by decide) rfl (by first | omega | exact xv_in _ _ _ | exact rd_in _ _) (by first | omega | exact xv_in _ _ _ | exact rd_in _ _) (fun h10 => ?_) (fun h10 => ?_)
    · exfalso; omega
    · refine r_aload_n (i := 1) (pc' := 14) dX0_read_13 rfl rfl (.tail _ (.head _)) ?_
      refine r_V0p (ci := 9) (pc' := 17) dX0_read_14 rfl lX0_25 rfl (by decide) (Nat.le_of_ble_eq_true rfl) (by first | assumption | rfl) (by omega) (tX9_hasMore hr) ?_
      refine r_bif_eq (t := 48) (f := 20) dX0_read_17 (by decide) rfl (fun h17 => ?_) (fun h17 => ?_)
      · rw [if_neg h17] at he
        subst he
        exact iX0_read hr ha
      · rw [if_pos h17] at he
        obtain ⟨k1, k2, k3, k4⟩ := ho.act h17 i
        refine r_aload_n (i := 0) (pc' := 21) dX0_read_20 rfl rfl (.head _) ?_
        refine r_aload_n (i := 1) (pc' := 22) dX0_read_21 rfl rfl (.tail _ (.head _)) ?_
        refine r_iload_n (i := 2) (pc' := 23) dX0_read_22 rfl rfl (.tail _ (.tail _ (.head _))) ?_
        refine r_V2gv (ci := 0) (pc' := 26) dX0_read_23 rfl lX0_31 rfl (by decide) (Nat.le_of_ble_eq_true rfl) (by first | assumption | rfl) (by omega) (tX0_readAct hr ha (by omega) ho h17) (fun n23 P23 X23 Y23 e23 le23 => ?_)
        obtain ⟨hg1_23, hg2_23, hg3_23, hg4_23⟩ := e23
        have g1_23 := Eq.symm hg1_23
        have g2_23 := Eq.symm hg2_23
        have g3_23 := Eq.symm hg3_23
        have g4_23 := Eq.symm hg4_23
        clear hg1_23 hg2_23 hg3_23 hg4_23
        subst g1_23 g2_23 g3_23 g4_23
        refine r_aload_n (i := 1) (pc' := 27) dX0_read_26 rfl rfl (.tail _ (.head _)) ?_
        refine r_bipush (pc' := 29) dX0_read_27 rfl (by decide) ?_
        refine r_V1gv (ci := 9) (pc' := 32) dX0_read_29 rfl lX0_35 rfl (by decide) (Nat.le_of_ble_eq_true rfl) (by first | assumption | rfl) (by omega) (tX9_expect hr (by omega)) (fun n29 P29 X29 Y29 e29 le29 => ?_)
        obtain ⟨hg1_29, hg2_29, hg3_29, hg4_29⟩ := e29
        have g1_29 := Eq.symm hg1_29
        have g2_29 := Eq.symm hg2_29
        have g3_29 := Eq.symm hg3_29
        have g4_29 := Eq.symm hg4_29
        clear hg1_29 hg2_29 hg3_29 hg4_29
        subst g1_29 g2_29 g3_29 g4_29
        refine r_aload_n (i := 0) (pc' := 33) dX0_read_32 rfl rfl (.head _) ?_
        refine r_dup (pc' := 34) dX0_read_33 rfl rfl ?_
        refine r_getI (pc' := 37) dX0_read_34 rfl fX0_21 rfl (by first | assumption | rfl) (by omega) ?_
        refine r_iconst (pc' := 38) dX0_read_37 rfl ?_
        refine r_iadd (pc' := 39) dX0_read_38 rfl ?_
        refine r_putI (pc' := 42) dX0_read_39 rfl fX0_21 rfl (by first | assumption | rfl) (by omega) rfl rfl ?_
        change q_Tr _ _ _ _ _ _ _ _ _ _ (acOne X i) _
        refine r_iinc (pc' := 45) dX0_read_42 rfl rfl (.tail _ (.tail _ (.head _))) (.s1 (.s1 (.here .nil) rfl rfl rfl) rfl rfl rfl) ?_
        refine r_goto (t := 7) dX0_read_45 (by decide) ?_
        exact ih (i + 1) _ (by omega) k4 he
set_option maxHeartbeats 4000000 in
set_option maxRecDepth 100000 in
theorem tX0_read {l : Launch} {g : q_G} {n : Nat} {P : q_P} {X : q_X} {Y : q_Y} (hr : isRd n P) (ha : isAct n P) (ho : rOk X) : q_Met l g mX0_read 5 [.ref (g.1 + 449), .ref (g.1 + 444)] n P X Y (q_gv (fun n' P' X' Y' => n' = n ∧ P' = P ∧ Y' = Y ∧ X' = acAll X)) := by
  obtain ⟨a1, a2, a3, hna⟩ := id ha
  obtain ⟨r0, r1, hnr⟩ := id hr
  refine q_enter (L := [(0, .ref (g.1 + 449)), (1, .ref (g.1 + 444))]) (by decide) (Nat.le_of_ble_eq_true rfl) rfl ?_
  refine r_aload_n (i := 0) (pc' := 1) dX0_read_0 rfl rfl (.head _) ?_
  refine r_iconst (pc' := 2) dX0_read_1 rfl ?_
  refine r_putI (pc' := 5) dX0_read_2 rfl fX0_21 rfl (by first | assumption | rfl) (by omega) rfl rfl ?_
  refine r_iconst (pc' := 6) dX0_read_5 rfl ?_
  refine r_istore_n (i := 2) (pc' := 7) dX0_read_6 rfl rfl rfl (.s1 (.s1 .nil rfl rfl rfl) rfl rfl rfl) ?_
  exact lX0_read hr ha 20 0 _ (by omega) (ho.up (by omega)) rfl
