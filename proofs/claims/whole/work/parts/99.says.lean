theorem fJn_j {t : Int} (h : t = -42 ∨ t = -43 ∨ t = -45) (u v : Int64) : (if 2000000 - t - 2000000 = 43 then u + v else if 2000000 - t - 2000000 = 45 then u - v else u * v) = fJn t u v := by
  rcases h with rfl | rfl | rfl <;> rfl
set_option maxHeartbeats 4000000 in
set_option maxRecDepth 100000 in
theorem lX12_worth {l : Launch} {g : q_G} {n : Nat} {P : q_P} {X : q_X} (hm : isMod n P) {C : q_X} {b : Nat} (hR : RB C b (xv X 468)) (hO : bOk C b) {m : Nat} (hm0 : xv C (b + 15) 0 = (m : Int)) (hm8 : 1 ≤ m ∧ m ≤ 80) (hw : fWF (xv C (b + 16)) m) {lt : Nat → Int64} : ∀ (w i : Nat) (Y : q_Y), i + w = m → (∀ j, j < 6 → Y 473 j = lt j) → (∀ j, j < fH (xv C (b + 16)) i → Y 474 j = fV (xv C (b + 16)) lt i j) → q_Tr l g mX12_worth 1 (q_gl (fun r' n' P' X' Y' => n' = n ∧ P' = P ∧ X' = X ∧ r' = fV (xv C (b + 16)) lt m 0)) 4 [(0, .ref (g.1 + 467)), (1, .int (zi ((fH (xv C (b + 16)) i : Nat) : Int))), (2, .int (zi (i : Int)))] [] n P X Y := by
  obtain ⟨m0, m2, m3, m8, m9, m14, m15, m16, m17, m18, m20, m22, m25, hnm9⟩ := id hm
  obtain ⟨o0, o1, o2, o3, o4, o5, o6, o10, oc, op0, opz, opi, om0, omi, olim⟩ := id hO
  intro w
  induction w with
  | zero =>
    intro i Y hk hlt hp
    obtain rfl : i = m := by omega
    have hh := fH_b hw i (by omega)
    refine r_iload_n (i := 2) (pc' := 5) dX12_worth_4 rfl rfl (.tail _ (.tail _ (.head _))) ?_
    refine r_aload_n (i := 0) (pc' := 6) dX12_worth_5 rfl rfl (.head _) ?_
    refine r_getR (pc' := 9) dX12_worth_6 rfl fX12_3 rfl (by first | assumption | rfl) (by omega) (by assumption) ?_
    refine r_bipush (pc' := 11) dX12_worth_9 rfl (by decide) ?_
    refine r_iaload (pc' := 12) dX12_worth_11 rfl (by first | assumption | rfl) (by omega) (by omega) (by omega) (by first | decide | omega) (show Int.toNat 9 = 9 from rfl) ?_
    rw [hR.cm]
    refine r_icmp_ge (t := 101) (f := 15) dX12_worth_12 (by decide) rfl (by first | omega | exact xv_in _ _ _) (by first | omega | exact xv_in _ _ _) (fun h12 => ?_) (fun h12 => ?_)
    · refine r_aload_n (i := 0) (pc' := 102) dX12_worth_101 rfl rfl (.head _) ?_
      refine r_getR (pc' := 105) dX12_worth_102 rfl fX12_36 rfl (by first | assumption | rfl) (by omega) (by assumption) ?_
      refine r_iconst (pc' := 106) dX12_worth_105 rfl ?_
      refine r_laload (pc' := 107) dX12_worth_106 rfl (by first | assumption | rfl) (by omega) (by omega) (by omega) (by first | decide | omega) (show Int.toNat 0 = 0 from rfl) ?_
      refine r_lreturn dX12_worth_107 rfl ?_
      exact ⟨_, rfl, rfl, rfl, rfl, hp 0 (by have := hh.2 (by omega); omega)⟩
    · exfalso; omega
  | succ w ih =>
    intro i Y hk hlt hp
    have hh := fH_b hw i (by omega)
    obtain ⟨hw1, hw2, hw3⟩ := hw i (by omega)
    have htk := hR.2.2.2.2.2.2.2 i (by omega)
    have hte : fH (xv C (b + 16)) (i + 1) = if xv C (b + 16) i < -6 then fH (xv C (b + 16)) i - 1 else fH (xv C (b + 16)) i + 1 := rfl
    have hve : fV (xv C (b + 16)) lt (i + 1) = if xv C (b + 16) i < -6 then fPu (fV (xv C (b + 16)) lt i) (fH (xv C (b + 16)) i - 2) (fJn (xv C (b + 16) i) (fV (xv C (b + 16)) lt i (fH (xv C (b + 16)) i - 2)) (fV (xv C (b + 16)) lt i (fH (xv C (b + 16)) i - 1))) else fPu (fV (xv C (b + 16)) lt i) (fH (xv C (b + 16)) i) (fVv lt (xv C (b + 16) i)) := rfl
    generalize hhe : fH (xv C (b + 16)) i = h at *
    generalize hT : xv C (b + 16) i = t at *
    refine r_iload_n (i := 2) (pc' := 5) dX12_worth_4 rfl rfl (.tail _ (.tail _ (.head _))) ?_
    refine r_aload_n (i := 0) (pc' := 6) dX12_worth_5 rfl rfl (.head _) ?_
    refine r_getR (pc' := 9) dX12_worth_6 rfl fX12_3 rfl (by first | assumption | rfl) (by omega) (by assumption) ?_
    refine r_bipush (pc' := 11) dX12_worth_9 rfl (by decide) ?_
    refine r_iaload (pc' := 12) dX12_worth_11 rfl (by first | assumption | rfl) (by omega) (by omega) (by omega) (by first | decide | omega) (show Int.toNat 9 = 9 from rfl) ?_
    rw [hR.cm]
    refine r_icmp_ge (t := 101) (f := 15) dX12_worth_12 (by decide) rfl (by first | omega | exact xv_in _ _ _) (by first | omega | exact xv_in _ _ _) (fun h12 => ?_) (fun h12 => ?_)
    · exfalso; omega
    · rcases htk with ⟨t0, t1, ec⟩ | ⟨t0, t1, ec⟩ | ⟨t0, ec⟩
      · rw [if_neg (by omega)] at hte hve
        have h2 := hw3 (by omega)
        refine r_aload_n (i := 0) (pc' := 16) dX12_worth_15 rfl rfl (.head _) ?_
        refine r_getR (pc' := 19) dX12_worth_16 rfl fX12_3 rfl (by first | assumption | rfl) (by omega) (by assumption) ?_
        refine r_bipush (pc' := 21) dX12_worth_19 rfl (by decide) ?_
        refine r_iload_n (i := 2) (pc' := 22) dX12_worth_21 rfl rfl (.tail _ (.tail _ (.head _))) ?_
        refine r_iadd (pc' := 23) dX12_worth_22 rfl ?_
        refine r_iaload (pc' := 24) dX12_worth_23 rfl (by first | assumption | rfl) (by omega) (by omega) (by omega) (by first | decide | omega) (show (50 + (i : Int)).toNat = 50 + i by omega) ?_
        rw [ec]
        refine r_istore_n (i := 3) (pc' := 25) dX12_worth_24 rfl rfl rfl (.s1 (.s1 (.s1 .nil rfl rfl rfl) rfl rfl rfl) rfl rfl rfl) ?_
        refine r_iload_n (i := 3) (pc' := 26) dX12_worth_25 rfl rfl (.tail _ (.tail _ (.tail _ (.head _)))) ?_
        refine r_ldc (pc' := 28) dX12_worth_26 rfl kX12_171 ?_
        refine r_icmp_ge (t := 63) (f := 31) dX12_worth_28 (by decide) rfl (by first | omega | exact xv_in _ _ _) (by first | omega | exact xv_in _ _ _) (fun h28 => ?_) (fun h28 => ?_)
        · exfalso; omega
        · refine r_aload_n (i := 0) (pc' := 32) dX12_worth_31 rfl rfl (.head _) ?_
          refine r_getR (pc' := 35) dX12_worth_32 rfl fX12_36 rfl (by first | assumption | rfl) (by omega) (by assumption) ?_
          refine r_iload_n (i := 1) (pc' := 36) dX12_worth_35 rfl rfl (.tail _ (.head _)) ?_
          refine r_iload_n (i := 3) (pc' := 37) dX12_worth_36 rfl rfl (.tail _ (.tail _ (.tail _ (.head _)))) ?_
          refine r_ldc (pc' := 39) dX12_worth_37 rfl kX12_187 ?_
          refine r_icmp_ge (t := 47) (f := 42) dX12_worth_39 (by decide) rfl (by first | omega | exact xv_in _ _ _) (by first | omega | exact xv_in _ _ _) (fun h39 => ?_) (fun h39 => ?_)
          · exfalso; omega
          · refine r_iload_n (i := 3) (pc' := 43) dX12_worth_42 rfl rfl (.tail _ (.tail _ (.tail _ (.head _)))) ?_
            refine r_i2l (pc' := 44) dX12_worth_43 rfl rfl ?_
            refine r_goto (t := 56) dX12_worth_44 (by decide) ?_
            refine r_lastore (pc' := 57) dX12_worth_56 rfl (by first | assumption | rfl) (by omega) (by omega) (by omega) (by first | decide | omega) (Int.toNat_natCast _) ?_
            refine r_iinc (pc' := 60) dX12_worth_57 rfl rfl (.tail _ (.head _)) (.s1 (.here (.s1 (.s1 .nil rfl rfl rfl) rfl rfl rfl)) rfl rfl rfl) ?_
            refine r_goto (t := 95) dX12_worth_60 (by decide) ?_
            refine r_iinc (pc' := 98) dX12_worth_95 rfl rfl (.tail _ (.tail _ (.head _))) (.s1 (.s1 (.here (.s1 .nil rfl rfl rfl)) rfl rfl rfl) rfl rfl rfl) ?_
            refine r_goto (t := 4) dX12_worth_98 (by decide) ?_
            refine r_sub (.kp (.kp (.kp (.dr .nil)))) ?_
            rw [show ((h : Int) + 1) = ((h + 1 : Nat) : Int) by omega, ← hte]
            refine ih (i + 1) _ (by omega) (fun q hq => by
              rw [q_up_ne _ _ (by omega)]; exact hlt q hq) (fun j hj => ?_)
            rw [hte] at hj
            rw [hve, fPu]
            by_cases e : j = h
            · subst e; rw [q_up_same, if_pos rfl, fVv, if_neg (by omega)]
            · rw [q_up_ne _ _ (by omega), if_neg e, hp _ (by omega)]
      · rw [if_neg (by omega)] at hte hve
        have h2 := hw3 (by omega)
        refine r_aload_n (i := 0) (pc' := 16) dX12_worth_15 rfl rfl (.head _) ?_
        refine r_getR (pc' := 19) dX12_worth_16 rfl fX12_3 rfl (by first | assumption | rfl) (by omega) (by assumption) ?_
        refine r_bipush (pc' := 21) dX12_worth_19 rfl (by decide) ?_
        refine r_iload_n (i := 2) (pc' := 22) dX12_worth_21 rfl rfl (.tail _ (.tail _ (.head _))) ?_
        refine r_iadd (pc' := 23) dX12_worth_22 rfl ?_
        refine r_iaload (pc' := 24) dX12_worth_23 rfl (by first | assumption | rfl) (by omega) (by omega) (by omega) (by first | decide | omega) (show (50 + (i : Int)).toNat = 50 + i by omega) ?_
        rw [ec]
        refine r_istore_n (i := 3) (pc' := 25) dX12_worth_24 rfl rfl rfl (.s1 (.s1 (.s1 .nil rfl rfl rfl) rfl rfl rfl) rfl rfl rfl) ?_
        refine r_iload_n (i := 3) (pc' := 26) dX12_worth_25 rfl rfl (.tail _ (.tail _ (.tail _ (.head _)))) ?_
        refine r_ldc (pc' := 28) dX12_worth_26 rfl kX12_171 ?_
        refine r_icmp_ge (t := 63) (f := 31) dX12_worth_28 (by decide) rfl (by first | omega | exact xv_in _ _ _) (by first | omega | exact xv_in _ _ _) (fun h28 => ?_) (fun h28 => ?_)
        · exfalso; omega
        · refine r_aload_n (i := 0) (pc' := 32) dX12_worth_31 rfl rfl (.head _) ?_
          refine r_getR (pc' := 35) dX12_worth_32 rfl fX12_36 rfl (by first | assumption | rfl) (by omega) (by assumption) ?_
          refine r_iload_n (i := 1) (pc' := 36) dX12_worth_35 rfl rfl (.tail _ (.head _)) ?_
          refine r_iload_n (i := 3) (pc' := 37) dX12_worth_36 rfl rfl (.tail _ (.tail _ (.tail _ (.head _)))) ?_
          refine r_ldc (pc' := 39) dX12_worth_37 rfl kX12_187 ?_
          refine r_icmp_ge (t := 47) (f := 42) dX12_worth_39 (by decide) rfl (by first | omega | exact xv_in _ _ _) (by first | omega | exact xv_in _ _ _) (fun h39 => ?_) (fun h39 => ?_)
          · refine r_aload_n (i := 0) (pc' := 48) dX12_worth_47 rfl rfl (.head _) ?_
            refine r_getR (pc' := 51) dX12_worth_48 rfl fX12_32 rfl (by first | assumption | rfl) (by omega) (by assumption) ?_
            refine r_iload_n (i := 3) (pc' := 52) dX12_worth_51 rfl rfl (.tail _ (.tail _ (.tail _ (.head _)))) ?_
            refine r_ldc (pc' := 54) dX12_worth_52 rfl kX12_187 ?_
            refine r_isub (pc' := 55) dX12_worth_54 rfl ?_
            refine r_laload (pc' := 56) dX12_worth_55 rfl (by first | assumption | rfl) (by omega) (by omega) (by omega) (by first | decide | omega) (show (999999 - t - 1000000).toNat = (-1 - t).toNat by omega) ?_
            refine r_lastore (pc' := 57) dX12_worth_56 rfl (by first | assumption | rfl) (by omega) (by omega) (by omega) (by first | decide | omega) (Int.toNat_natCast _) ?_
            refine r_iinc (pc' := 60) dX12_worth_57 rfl rfl (.tail _ (.head _)) (.s1 (.here (.s1 (.s1 .nil rfl rfl rfl) rfl rfl rfl)) rfl rfl rfl) ?_
            refine r_goto (t := 95) dX12_worth_60 (by decide) ?_
            refine r_iinc (pc' := 98) dX12_worth_95 rfl rfl (.tail _ (.tail _ (.head _))) (.s1 (.s1 (.here (.s1 .nil rfl rfl rfl)) rfl rfl rfl) rfl rfl rfl) ?_
            refine r_goto (t := 4) dX12_worth_98 (by decide) ?_
            refine r_sub (.kp (.kp (.kp (.dr .nil)))) ?_
            rw [show ((h : Int) + 1) = ((h + 1 : Nat) : Int) by omega, ← hte]
            refine ih (i + 1) _ (by omega) (fun q hq => by
              rw [q_up_ne _ _ (by omega)]; exact hlt q hq) (fun j hj => ?_)
            rw [hte] at hj
            rw [hve, fPu]
            by_cases e : j = h
            · subst e; rw [q_up_same, if_pos rfl, fVv, if_pos (by omega), hlt _ (by omega)]
            · rw [q_up_ne _ _ (by omega), if_neg e, hp _ (by omega)]
          · exfalso; omega
      · rw [if_pos (by omega)] at hte hve
        have h2 := hw2 (by omega)
        refine r_aload_n (i := 0) (pc' := 16) dX12_worth_15 rfl rfl (.head _) ?_
        refine r_getR (pc' := 19) dX12_worth_16 rfl fX12_3 rfl (by first | assumption | rfl) (by omega) (by assumption) ?_
        refine r_bipush (pc' := 21) dX12_worth_19 rfl (by decide) ?_
        refine r_iload_n (i := 2) (pc' := 22) dX12_worth_21 rfl rfl (.tail _ (.tail _ (.head _))) ?_
        refine r_iadd (pc' := 23) dX12_worth_22 rfl ?_
        refine r_iaload (pc' := 24) dX12_worth_23 rfl (by first | assumption | rfl) (by omega) (by omega) (by omega) (by first | decide | omega) (show (50 + (i : Int)).toNat = 50 + i by omega) ?_
        rw [ec]
        refine r_istore_n (i := 3) (pc' := 25) dX12_worth_24 rfl rfl rfl (.s1 (.s1 (.s1 .nil rfl rfl rfl) rfl rfl rfl) rfl rfl rfl) ?_
        refine r_iload_n (i := 3) (pc' := 26) dX12_worth_25 rfl rfl (.tail _ (.tail _ (.tail _ (.head _)))) ?_
        refine r_ldc (pc' := 28) dX12_worth_26 rfl kX12_171 ?_
        refine r_icmp_ge (t := 63) (f := 31) dX12_worth_28 (by decide) rfl (by first | omega | exact xv_in _ _ _) (by first | omega | exact xv_in _ _ _) (fun h28 => ?_) (fun h28 => ?_)
        · refine r_iinc (pc' := 66) dX12_worth_63 rfl rfl (.tail _ (.head _)) (.s1 (.here (.s1 (.s1 .nil rfl rfl rfl) rfl rfl rfl)) rfl rfl rfl) ?_
          refine r_aload_n (i := 0) (pc' := 67) dX12_worth_66 rfl rfl (.head _) ?_
          refine r_getR (pc' := 70) dX12_worth_67 rfl fX12_36 rfl (by first | assumption | rfl) (by omega) (by assumption) ?_
          refine r_iload_n (i := 1) (pc' := 71) dX12_worth_70 rfl rfl (.tail _ (.head _)) ?_
          refine r_iconst (pc' := 72) dX12_worth_71 rfl ?_
          refine r_isub (pc' := 73) dX12_worth_72 rfl ?_
          refine r_iload_n (i := 3) (pc' := 74) dX12_worth_73 rfl rfl (.tail _ (.tail _ (.tail _ (.head _)))) ?_
          refine r_ldc (pc' := 76) dX12_worth_74 rfl kX12_171 ?_
          refine r_isub (pc' := 77) dX12_worth_76 rfl ?_
          refine r_aload_n (i := 0) (pc' := 78) dX12_worth_77 rfl rfl (.head _) ?_
          refine r_getR (pc' := 81) dX12_worth_78 rfl fX12_36 rfl (by first | assumption | rfl) (by omega) (by assumption) ?_
          refine r_iload_n (i := 1) (pc' := 82) dX12_worth_81 rfl rfl (.tail _ (.head _)) ?_
          refine r_iconst (pc' := 83) dX12_worth_82 rfl ?_
          refine r_isub (pc' := 84) dX12_worth_83 rfl ?_
          refine r_laload (pc' := 85) dX12_worth_84 rfl (by first | assumption | rfl) (by omega) (by omega) (by omega) (by first | decide | omega) (show ((h : Int) + -1 - 1).toNat = h - 2 by omega) ?_
          refine r_aload_n (i := 0) (pc' := 86) dX12_worth_85 rfl rfl (.head _) ?_
          refine r_getR (pc' := 89) dX12_worth_86 rfl fX12_36 rfl (by first | assumption | rfl) (by omega) (by assumption) ?_
          refine r_iload_n (i := 1) (pc' := 90) dX12_worth_89 rfl rfl (.tail _ (.head _)) ?_
          refine r_laload (pc' := 91) dX12_worth_90 rfl (by first | assumption | rfl) (by omega) (by omega) (by omega) (by first | decide | omega) (show ((h : Int) + -1).toNat = h - 1 by omega) ?_
          refine r_S3p (pc' := 94) dX12_worth_91 rfl lX12_200 (by decide) (Nat.le_of_ble_eq_true rfl) (tX12_joined (by omega)) ?_
          refine r_lastore (pc' := 95) dX12_worth_94 rfl (by first | assumption | rfl) (by omega) (by omega) (by omega) (by first | decide | omega) (show ((h : Int) + -1 - 1).toNat = h - 2 by omega) ?_
          refine r_iinc (pc' := 98) dX12_worth_95 rfl rfl (.tail _ (.tail _ (.head _))) (.s1 (.s1 (.here (.s1 .nil rfl rfl rfl)) rfl rfl rfl) rfl rfl rfl) ?_
          refine r_goto (t := 4) dX12_worth_98 (by decide) ?_
          refine r_sub (.kp (.kp (.kp (.dr .nil)))) ?_
          rw [show ((h : Int) + -1) = ((h - 1 : Nat) : Int) by omega, ← hte]
          refine ih (i + 1) _ (by omega) (fun q hq => by
            rw [q_up_ne _ _ (by omega)]; exact hlt q hq) (fun j hj => ?_)
          rw [hte] at hj
          rw [hve, fPu]
          by_cases e : j = h - 2
          · subst e; rw [q_up_same, if_pos rfl, fJn_j t0, hp _ (by omega), hp _ (by omega)]; try rw [hte]
          · rw [q_up_ne _ _ (by omega), if_neg e, hp _ (by omega)]
        · exfalso; omega
set_option maxHeartbeats 4000000 in
set_option maxRecDepth 100000 in
theorem tX12_worth {l : Launch} {g : q_G} {n : Nat} {P : q_P} {X : q_X} {Y : q_Y} (hm : isMod n P) {C : q_X} {b : Nat} (hR : RB C b (xv X 468)) (hO : bOk C b) {m : Nat} (hm0 : xv C (b + 15) 0 = (m : Int)) (hm8 : 1 ≤ m ∧ m ≤ 80) (hw : fWF (xv C (b + 16)) m) {lt : Nat → Int64} (hlt : ∀ j, j < 6 → Y 473 j = lt j) : q_Met l g mX12_worth 1 [.ref (g.1 + 467)] n P X Y (q_gl (fun r' n' P' X' Y' => n' = n ∧ P' = P ∧ X' = X ∧ r' = fV (xv C (b + 16)) lt m 0)) := by
  obtain ⟨m0, m2, m3, m8, m9, m14, m15, m16, m17, m18, m20, m22, m25, hnm9⟩ := id hm
  obtain ⟨o0, o1, o2, o3, o4, o5, o6, o10, oc, op0, opz, opi, om0, omi, olim⟩ := id hO
  refine q_enter (L := [(0, .ref (g.1 + 467))]) (by decide) (Nat.le_of_ble_eq_true rfl) rfl ?_
  refine r_iconst (pc' := 1) dX12_worth_0 rfl ?_
  refine r_istore_n (i := 1) (pc' := 2) dX12_worth_1 rfl rfl rfl (.s1 .nil rfl rfl rfl) ?_
  refine r_iconst (pc' := 3) dX12_worth_2 rfl ?_
  refine r_istore_n (i := 2) (pc' := 4) dX12_worth_3 rfl rfl rfl (.s1 (.s1 .nil rfl rfl rfl) rfl rfl rfl) ?_
  exact lX12_worth hm hR hO hm0 hm8 hw m 0 Y (by omega) hlt (fun j hj => by simp [fH] at hj)
set_option maxHeartbeats 4000000 in
set_option maxRecDepth 100000 in
theorem tX12_saysOf {l : Launch} {g : q_G} {n : Nat} {P : q_P} {X : q_X} {Y : q_Y} (hm : isMod n P) {C : q_X} {b : Nat} (hR : RB C b (xv X 468)) (hO : bOk C b) {k : Nat} (hk : (k : Int) < xv C b 10) (hv : bLv C b) (hF : bF C b) (hf1 : 1 ≤ xv C (b + 15) 0) : q_Met l g mX12_saysOf 7 [.ref (g.1 + 467), .int (zi (k : Int))] n P X Y (q_gl (fun r' n' P' X' Y' => n' = n ∧ P' = P ∧ hOut X X' ∧ r' = f_says C b k)) := by
  obtain ⟨m0, m2, m3, m8, m9, m14, m15, m16, m17, m18, m20, m22, m25, hnm9⟩ := id hm
  obtain ⟨o0, o1, o2, o3, o4, o5, o6, o10, oc, op0, opz, opi, om0, omi, olim⟩ := id hO
  have hck := hO.c hk
  obtain ⟨hf, hf2, hf3, hf4, hfj, hfs, hfg⟩ := id hck
  refine q_enter (L := [(0, .ref (g.1 + 467)), (1, .int (zi (k : Int)))]) (by decide) (Nat.le_of_ble_eq_true rfl) rfl ?_
  refine r_aload_n (i := 0) (pc' := 1) dX12_saysOf_0 rfl rfl (.head _) ?_
  refine r_getR (pc' := 4) dX12_saysOf_1 rfl fX12_32 rfl (by first | assumption | rfl) (by omega) (by assumption) ?_
  refine r_iconst (pc' := 5) dX12_saysOf_4 rfl ?_
  refine r_aload_n (i := 0) (pc' := 6) dX12_saysOf_5 rfl rfl (.head _) ?_
  refine r_iload_n (i := 1) (pc' := 7) dX12_saysOf_6 rfl rfl (.tail _ (.head _)) ?_
  refine r_aload_n (i := 0) (pc' := 8) dX12_saysOf_7 rfl rfl (.head _) ?_
  refine r_getR (pc' := 11) dX12_saysOf_8 rfl fX12_3 rfl (by first | assumption | rfl) (by omega) (by assumption) ?_
  refine r_iconst (pc' := 12) dX12_saysOf_11 rfl ?_
  refine r_iaload (pc' := 13) dX12_saysOf_12 rfl (by first | assumption | rfl) (by omega) (by omega) (by omega) (by first | decide | omega) (show Int.toNat 0 = 0 from rfl) ?_
  rw [hR.z 0 (by decide)]
  refine r_V2p (ci := 12) (pc' := 16) dX12_saysOf_13 rfl lX12_230 rfl (by decide) (Nat.le_of_ble_eq_true rfl) (by first | assumption | rfl) (by omega) (tX12_hitOf (by assumption) (by assumption) (by assumption) (by assumption) (by omega)) ?_
  refine r_i2l (pc' := 17) dX12_saysOf_16 rfl rfl ?_
  refine r_lastore (pc' := 18) dX12_saysOf_17 rfl (by first | assumption | rfl) (by omega) (by omega) (by omega) (by first | decide | omega) (show Int.toNat 0 = 0 from rfl) ?_
  refine r_aload_n (i := 0) (pc' := 19) dX12_saysOf_18 rfl rfl (.head _) ?_
  refine r_getR (pc' := 22) dX12_saysOf_19 rfl fX12_32 rfl (by first | assumption | rfl) (by omega) (by assumption) ?_
  refine r_iconst (pc' := 23) dX12_saysOf_22 rfl ?_
  refine r_aload_n (i := 0) (pc' := 24) dX12_saysOf_23 rfl rfl (.head _) ?_
  refine r_iload_n (i := 1) (pc' := 25) dX12_saysOf_24 rfl rfl (.tail _ (.head _)) ?_
  refine r_V1p (ci := 12) (pc' := 28) dX12_saysOf_25 rfl lX12_266 rfl (by decide) (Nat.le_of_ble_eq_true rfl) (by first | assumption | rfl) (by omega) (tX12_deadInAll (by assumption) (by assumption) (by assumption) (by assumption)) ?_
  refine r_i2l (pc' := 29) dX12_saysOf_28 rfl rfl ?_
  refine r_lastore (pc' := 30) dX12_saysOf_29 rfl (by first | assumption | rfl) (by omega) (by omega) (by omega) (by first | decide | omega) (show Int.toNat 1 = 1 from rfl) ?_
  refine r_aload_n (i := 0) (pc' := 31) dX12_saysOf_30 rfl rfl (.head _) ?_
  refine r_getR (pc' := 34) dX12_saysOf_31 rfl fX12_32 rfl (by first | assumption | rfl) (by omega) (by assumption) ?_
  refine r_iconst (pc' := 35) dX12_saysOf_34 rfl ?_
  refine r_aload_n (i := 0) (pc' := 36) dX12_saysOf_35 rfl rfl (.head _) ?_
  refine r_iload_n (i := 1) (pc' := 37) dX12_saysOf_36 rfl rfl (.tail _ (.head _)) ?_
  refine r_aload_n (i := 0) (pc' := 38) dX12_saysOf_37 rfl rfl (.head _) ?_
  refine r_getR (pc' := 41) dX12_saysOf_38 rfl fX12_3 rfl (by first | assumption | rfl) (by omega) (by assumption) ?_
  refine r_iconst (pc' := 42) dX12_saysOf_41 rfl ?_
  refine r_iaload (pc' := 43) dX12_saysOf_42 rfl (by first | assumption | rfl) (by omega) (by omega) (by omega) (by first | decide | omega) (show Int.toNat 1 = 1 from rfl) ?_
  rw [hR.z 1 (by decide)]
  refine r_V2gi (ci := 12) (pc' := 46) dX12_saysOf_43 rfl lX12_269 rfl (by decide) (Nat.le_of_ble_eq_true rfl) (by first | assumption | rfl) (by omega) (tX12_savedOn hm hR hO hk (by omega)) (fun r43 n43 P43 X43 Y43 e43 le43 => ?_)
  obtain ⟨h1v, h2v, h3v, ho43, hr43⟩ := e43
  subst h1v h2v h3v hr43
  have hR43 : RB C b (xv X43 468) := by rw [ho43.v (by omega)]; exact hR
  refine r_i2l (pc' := 47) dX12_saysOf_46 rfl rfl ?_
  refine r_lastore (pc' := 48) dX12_saysOf_47 rfl (by first | assumption | rfl) (by omega) (by omega) (by omega) (by first | decide | omega) (show Int.toNat 2 = 2 from rfl) ?_
  refine r_aload_n (i := 0) (pc' := 49) dX12_saysOf_48 rfl rfl (.head _) ?_
  refine r_getR (pc' := 52) dX12_saysOf_49 rfl fX12_32 rfl (by first | assumption | rfl) (by omega) (by assumption) ?_
  refine r_iconst (pc' := 53) dX12_saysOf_52 rfl ?_
  refine r_aload_n (i := 0) (pc' := 54) dX12_saysOf_53 rfl rfl (.head _) ?_
  refine r_iload_n (i := 1) (pc' := 55) dX12_saysOf_54 rfl rfl (.tail _ (.head _)) ?_
  refine r_V1p (ci := 12) (pc' := 58) dX12_saysOf_55 rfl lX12_258 rfl (by decide) (Nat.le_of_ble_eq_true rfl) (by first | assumption | rfl) (by omega) (tX12_yearsLeft hm hR43 hO hk hv) ?_
  refine r_i2l (pc' := 59) dX12_saysOf_58 rfl rfl ?_
  refine r_lastore (pc' := 60) dX12_saysOf_59 rfl (by first | assumption | rfl) (by omega) (by omega) (by omega) (by first | decide | omega) (show Int.toNat 3 = 3 from rfl) ?_
  refine r_aload_n (i := 0) (pc' := 61) dX12_saysOf_60 rfl rfl (.head _) ?_
  refine r_getR (pc' := 64) dX12_saysOf_61 rfl fX12_32 rfl (by first | assumption | rfl) (by omega) (by assumption) ?_
  refine r_iconst (pc' := 65) dX12_saysOf_64 rfl ?_
  refine r_aload_n (i := 0) (pc' := 66) dX12_saysOf_65 rfl rfl (.head _) ?_
  refine r_iload_n (i := 1) (pc' := 67) dX12_saysOf_66 rfl rfl (.tail _ (.head _)) ?_
  refine r_bipush (pc' := 69) dX12_saysOf_67 rfl (by decide) ?_
  refine r_aload_n (i := 0) (pc' := 70) dX12_saysOf_69 rfl rfl (.head _) ?_
  refine r_getR (pc' := 73) dX12_saysOf_70 rfl fX12_3 rfl (by first | assumption | rfl) (by omega) (by assumption) ?_
  refine r_iconst (pc' := 74) dX12_saysOf_73 rfl ?_
  refine r_iaload (pc' := 75) dX12_saysOf_74 rfl (by first | assumption | rfl) (by omega) (by omega) (by omega) (by first | decide | omega) (show Int.toNat 0 = 0 from rfl) ?_
  rw [hR43.z 0 (by decide)]
  refine r_iadd (pc' := 76) dX12_saysOf_75 rfl ?_
  refine r_V2p (ci := 12) (pc' := 79) dX12_saysOf_76 rfl lX12_115 rfl (by decide) (Nat.le_of_ble_eq_true rfl) (by first | assumption | rfl) (by omega) (tO_b hm hR43 hO hk (by omega)) ?_
  refine r_i2l (pc' := 80) dX12_saysOf_79 rfl rfl ?_
  refine r_lastore (pc' := 81) dX12_saysOf_80 rfl (by first | assumption | rfl) (by omega) (by omega) (by omega) (by first | decide | omega) (show Int.toNat 4 = 4 from rfl) ?_
  refine r_aload_n (i := 0) (pc' := 82) dX12_saysOf_81 rfl rfl (.head _) ?_
  refine r_getR (pc' := 85) dX12_saysOf_82 rfl fX12_32 rfl (by first | assumption | rfl) (by omega) (by assumption) ?_
  refine r_iconst (pc' := 86) dX12_saysOf_85 rfl ?_
  refine r_iload_n (i := 1) (pc' := 87) dX12_saysOf_86 rfl rfl (.tail _ (.head _)) ?_
  refine r_i2l (pc' := 88) dX12_saysOf_87 rfl rfl ?_
  refine r_lastore (pc' := 89) dX12_saysOf_88 rfl (by first | assumption | rfl) (by omega) (by omega) (by omega) (by first | decide | omega) (show Int.toNat 5 = 5 from rfl) ?_
  refine r_aload_n (i := 0) (pc' := 90) dX12_saysOf_89 rfl rfl (.head _) ?_
  refine r_V0gl (ci := 12) (pc' := 93) dX12_saysOf_90 rfl lX12_316 rfl (by decide) (Nat.le_of_ble_eq_true rfl) (by first | assumption | rfl) (by omega) (tX12_worth (lt := f_lt C b k) (m := (xv C (b + 15) 0).toNat) hm hR43 hO (by have := hF.1; omega) (by have := hF.1; omega) hF.2 (fun j hj => by
      have hj6 : j = 0 ∨ j = 1 ∨ j = 2 ∨ j = 3 ∨ j = 4 ∨ j = 5 := by omega
      unfold f_lt f_lv
      rcases hj6 with e | e | e | e | e | e <;> subst e <;> simp (disch := omega) only [q_up_ne, q_up_same] <;> rfl)) (fun r90 n90 P90 X90 Y90 e90 le90 => ?_)
  obtain ⟨h1v, h2v, h3v, hr90⟩ := e90
  subst h1v h2v h3v
  refine r_lreturn dX12_saysOf_93 rfl ?_
  refine ⟨_, rfl, rfl, rfl, ho43, ?_⟩
  rw [hr90, f_says]
set_option maxHeartbeats 4000000 in
set_option maxRecDepth 100000 in
theorem tX12_says {l : Launch} {g : q_G} {n : Nat} {P : q_P} {X : q_X} {Y : q_Y} (hm : isMod n P) {C : q_X} {b : Nat} (hR : RB C b (xv X 468)) (hO : bOk C b) {k : Int} (hki : q_in k) (hv : bLv C b) (hF : bF C b) : q_Met l g mX12_says 8 [.ref (g.1 + 467), .int (zi k)] n P X Y (q_gl (fun r' n' P' X' Y' => n' = n ∧ P' = P ∧ hOut X X' ∧ r' = f_saysF C b k)) := by
  obtain ⟨m0, m2, m3, m8, m9, m14, m15, m16, m17, m18, m20, m22, m25, hnm9⟩ := id hm
  obtain ⟨o0, o1, o2, o3, o4, o5, o6, o10, oc, op0, opz, opi, om0, omi, olim⟩ := id hO
  refine q_enter (L := [(0, .ref (g.1 + 467)), (1, .int (zi k))]) (by decide) (Nat.le_of_ble_eq_true rfl) rfl ?_
  refine r_aload_n (i := 0) (pc' := 1) dX12_says_0 rfl rfl (.head _) ?_
  refine r_getR (pc' := 4) dX12_says_1 rfl fX12_3 rfl (by first | assumption | rfl) (by omega) (by assumption) ?_
  refine r_bipush (pc' := 6) dX12_says_4 rfl (by decide) ?_
  refine r_iaload (pc' := 7) dX12_says_6 rfl (by first | assumption | rfl) (by omega) (by omega) (by omega) (by first | decide | omega) (show Int.toNat 8 = 8 from rfl) ?_
  have h8 := hR.2.2.2.2.2.2.1
  have h9 := hR.cm
  have hFb := hF.1
  refine r_if_le (t := 26) (f := 10) dX12_says_7 (by decide) rfl (by first | omega | exact xv_in _ _ _) (fun h7 => ?_) (fun h7 => ?_)
  · refine r_ldc2 (pc' := 29) dX12_says_26 rfl kX12_324 ?_
    refine r_lreturn dX12_says_29 rfl ?_
    refine ⟨_, rfl, rfl, rfl, hOut.rfl, ?_⟩
    rw [f_saysF, if_pos (Or.inl (by omega))]
  · by_cases hk0 : bk_ref C b k = 0
    · have hk := bk_ref_has hk0
      obtain ⟨kn, rfl⟩ : ∃ kn : Nat, k = (kn : Int) := ⟨k.toNat, by omega⟩
      have hkk : (kn : Int) < xv C b 10 := hk.2
      refine r_aload_n (i := 0) (pc' := 11) dX12_says_10 rfl rfl (.head _) ?_
      refine r_iload_n (i := 1) (pc' := 12) dX12_says_11 rfl rfl (.tail _ (.head _)) ?_
      refine r_V1p (ci := 12) (pc' := 15) dX12_says_12 rfl lX12_261 rfl (by decide) (Nat.le_of_ble_eq_true rfl) (by first | assumption | rfl) (by omega) (tX12_canCut (by assumption) (by assumption) (by assumption) (by first | omega | assumption)) ?_
      refine r_bif_eq (t := 26) (f := 18) dX12_says_15 (by decide) rfl (fun h15 => ?_) (fun h15 => ?_)
      · exfalso; omega
      · refine r_aload_n (i := 0) (pc' := 19) dX12_says_18 rfl rfl (.head _) ?_
        refine r_iload_n (i := 1) (pc' := 20) dX12_says_19 rfl rfl (.tail _ (.head _)) ?_
        refine r_V1gl (ci := 12) (pc' := 23) dX12_says_20 rfl lX12_320 rfl (by decide) (Nat.le_of_ble_eq_true rfl) (by first | assumption | rfl) (by omega) (tX12_saysOf hm hR hO hkk hv hF (by omega)) (fun r20 n20 P20 X20 Y20 e20 le20 => ?_)
        obtain ⟨h1v, h2v, ho20, hr20⟩ := e20
        subst h1v h2v
        refine r_goto (t := 29) dX12_says_23 (by decide) ?_
        refine r_lreturn dX12_says_29 rfl ?_
        refine ⟨_, rfl, rfl, rfl, ho20, ?_⟩
        rw [hr20, f_saysF, if_neg (fun q => by rcases q with q | q <;> first | omega | exact q hk0), Int.toNat_natCast]
    · refine r_aload_n (i := 0) (pc' := 11) dX12_says_10 rfl rfl (.head _) ?_
      refine r_iload_n (i := 1) (pc' := 12) dX12_says_11 rfl rfl (.tail _ (.head _)) ?_
      refine r_V1p (ci := 12) (pc' := 15) dX12_says_12 rfl lX12_261 rfl (by decide) (Nat.le_of_ble_eq_true rfl) (by first | assumption | rfl) (by omega) (tX12_canCut (by assumption) (by assumption) (by assumption) (by first | omega | assumption)) ?_
      refine r_bif_eq (t := 26) (f := 18) dX12_says_15 (by decide) rfl (fun h15 => ?_) (fun h15 => ?_)
      · refine r_ldc2 (pc' := 29) dX12_says_26 rfl kX12_324 ?_
        refine r_lreturn dX12_says_29 rfl ?_
        refine ⟨_, rfl, rfl, rfl, hOut.rfl, ?_⟩
        rw [f_saysF, if_pos (Or.inr hk0)]
      · exfalso; omega
