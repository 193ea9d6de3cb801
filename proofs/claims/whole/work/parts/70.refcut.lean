set_option maxHeartbeats 4000000 in
set_option maxRecDepth 100000 in
theorem lX12_deedOf {l : Launch} {g : q_G} {n : Nat} {P : q_P} {X : q_X} {Y : q_Y} (hm : isMod n P) {s : Nat} {K : q_K} (kk : q_Tr l g mX12_deedOf 1 K 35 [(0, .ref (g.1 + 467)), (1, .int (zi (s : Int)))] [] n P (rowS X 7) Y) : ∀ (w i : Nat), i + w = 7 → q_Tr l g mX12_deedOf 1 K 11 [(0, .ref (g.1 + 467)), (1, .int (zi (s : Int))), (2, .int (zi ((i + 1 : Nat) : Int)))] [] n P (rowS X i) Y := by
  obtain ⟨m0, m2, m3, m8, m9, m14, m15, m16, m17, m18, m20, m22, m25, hnm9⟩ := id hm
  intro w
  induction w with
  | zero =>
    intro i hi
    obtain rfl : i = 7 := by omega
    refine r_iload_n (i := 2) (pc' := 12) dX12_deedOf_11 rfl rfl (.tail _ (.tail _ (.head _))) ?_
    refine r_bipush (pc' := 14) dX12_deedOf_12 rfl (by decide) ?_
    refine r_icmp_ge (t := 35) (f := 17) dX12_deedOf_14 (by decide) rfl (by first | omega | exact xv_in _ _ _) (by first | omega | exact xv_in _ _ _) (fun h14 => ?_) (fun h14 => ?_)
    · refine r_sub (.kp (.kp (.dr .nil))) ?_
      exact kk
    · exfalso; omega
  | succ w ih =>
    intro i hi
    refine r_iload_n (i := 2) (pc' := 12) dX12_deedOf_11 rfl rfl (.tail _ (.tail _ (.head _))) ?_
    refine r_bipush (pc' := 14) dX12_deedOf_12 rfl (by decide) ?_
    refine r_icmp_ge (t := 35) (f := 17) dX12_deedOf_14 (by decide) rfl (by first | omega | exact xv_in _ _ _) (by first | omega | exact xv_in _ _ _) (fun h14 => ?_) (fun h14 => ?_)
    · exfalso; omega
    · refine r_aload_n (i := 0) (pc' := 18) dX12_deedOf_17 rfl rfl (.head _) ?_
      refine r_iconst (pc' := 19) dX12_deedOf_18 rfl ?_
      refine r_iload_n (i := 2) (pc' := 20) dX12_deedOf_19 rfl rfl (.tail _ (.tail _ (.head _))) ?_
      refine r_iadd (pc' := 21) dX12_deedOf_20 rfl ?_
      refine r_iconst (pc' := 22) dX12_deedOf_21 rfl ?_
      refine r_iload_n (i := 2) (pc' := 23) dX12_deedOf_22 rfl rfl (.tail _ (.tail _ (.head _))) ?_
      refine r_iadd (pc' := 24) dX12_deedOf_23 rfl ?_
      refine r_iconst (pc' := 25) dX12_deedOf_24 rfl ?_
      refine r_isub (pc' := 26) dX12_deedOf_25 rfl ?_
      rw [show (3 + ((i + 1 : Nat) : Int)) = ((4 + i : Nat) : Int) by omega, show (((4 + i : Nat) : Int) - 1) = ((3 + i : Nat) : Int) by omega]
      refine r_V2gv (ci := 12) (pc' := 29) dX12_deedOf_26 rfl lX12_64 rfl (by decide) (Nat.le_of_ble_eq_true rfl) (by first | assumption | rfl) (by omega) (tX12_copyRow hm (s := 4 + i) (t := 3 + i) (by omega) (by omega)) (fun n26 P26 X26 Y26 e26 le26 => ?_)
      obtain ⟨hg1_26, hg2_26, hg3_26, hg4_26⟩ := e26
      have g1_26 := Eq.symm hg1_26
      have g2_26 := Eq.symm hg2_26
      have g3_26 := Eq.symm hg3_26
      have g4_26 := Eq.symm hg4_26
      clear hg1_26 hg2_26 hg3_26 hg4_26
      subst g1_26 g2_26 g3_26 g4_26
      refine r_iinc (pc' := 32) dX12_deedOf_29 rfl rfl (.tail _ (.tail _ (.head _))) (.s1 (.s1 (.here .nil) rfl rfl rfl) rfl rfl rfl) ?_
      refine r_goto (t := 11) dX12_deedOf_32 (by decide) ?_
      exact ih (i + 1) (by omega)
set_option maxHeartbeats 4000000 in
set_option maxRecDepth 100000 in
theorem tX12_deedOf {l : Launch} {g : q_G} {n : Nat} {P : q_P} {X : q_X} {Y : q_Y} (hm : isMod n P) {s : Nat} (hs : s < 12) (hD : 0 ≤ xv X 467 1 ∧ xv X 467 1 ≤ 8) : q_Met l g mX12_deedOf 1 [.ref (g.1 + 467), .int (zi (s : Int))] n P X Y (q_gv (fun n' P' X' Y' => n' = n ∧ P' = P ∧ Y' = Y ∧ X' = dd X s)) := by
  obtain ⟨m0, m2, m3, m8, m9, m14, m15, m16, m17, m18, m20, m22, m25, hnm9⟩ := id hm
  refine q_enter (L := [(0, .ref (g.1 + 467)), (1, .int (zi (s : Int)))]) (by decide) (Nat.le_of_ble_eq_true rfl) rfl ?_
  refine r_aload_n (i := 0) (pc' := 1) dX12_deedOf_0 rfl rfl (.head _) ?_
  refine r_getI (pc' := 4) dX12_deedOf_1 rfl fX12_61 rfl (by first | assumption | rfl) (by omega) ?_
  refine r_bipush (pc' := 6) dX12_deedOf_4 rfl (by decide) ?_
  refine r_icmp_ne (t := 45) (f := 9) dX12_deedOf_6 (by decide) rfl (by first | omega | exact xv_in _ _ _) (by first | omega | exact xv_in _ _ _) (fun h6 => ?_) (fun h6 => ?_)
  · refine r_aload_n (i := 0) (pc' := 46) dX12_deedOf_45 rfl rfl (.head _) ?_
    refine r_iload_n (i := 1) (pc' := 47) dX12_deedOf_46 rfl rfl (.tail _ (.head _)) ?_
    refine r_iconst (pc' := 48) dX12_deedOf_47 rfl ?_
    refine r_aload_n (i := 0) (pc' := 49) dX12_deedOf_48 rfl rfl (.head _) ?_
    refine r_getI (pc' := 52) dX12_deedOf_49 rfl fX12_61 rfl (by first | assumption | rfl) (by omega) ?_
    refine r_iadd (pc' := 53) dX12_deedOf_52 rfl ?_
    obtain ⟨e1, he1⟩ : ∃ e1 : Nat, xv X 467 1 = (e1 : Int) := ⟨(xv X 467 1).toNat, by omega⟩
    rw [he1, show (3 + (e1 : Int)) = ((3 + e1 : Nat) : Int) by omega]
    refine r_V2gv (ci := 12) (pc' := 56) dX12_deedOf_53 rfl lX12_64 rfl (by decide) (Nat.le_of_ble_eq_true rfl) (by first | assumption | rfl) (by omega) (tX12_copyRow hm (s := s) (t := 3 + e1) (by omega) (by omega)) (fun n53 P53 X53 Y53 e53 le53 => ?_)
    obtain ⟨hg1_53, hg2_53, hg3_53, hg4_53⟩ := e53
    have g1_53 := Eq.symm hg1_53
    have g2_53 := Eq.symm hg2_53
    have g3_53 := Eq.symm hg3_53
    have g4_53 := Eq.symm hg4_53
    clear hg1_53 hg2_53 hg3_53 hg4_53
    subst g1_53 g2_53 g3_53 g4_53
    refine r_aload_n (i := 0) (pc' := 57) dX12_deedOf_56 rfl rfl (.head _) ?_
    refine r_dup (pc' := 58) dX12_deedOf_57 rfl rfl ?_
    refine r_getI (pc' := 61) dX12_deedOf_58 rfl fX12_61 rfl (by first | assumption | rfl) (by omega) ?_
    refine r_iconst (pc' := 62) dX12_deedOf_61 rfl ?_
    refine r_iadd (pc' := 63) dX12_deedOf_62 rfl ?_
    refine r_putI (pc' := 66) dX12_deedOf_63 rfl fX12_61 rfl (by first | assumption | rfl) (by omega) rfl rfl ?_
    refine r_return dX12_deedOf_66 rfl ?_
    refine ⟨rfl, rfl, rfl, rfl, ?_⟩
    have hF : ddF X = X := by unfold ddF; rw [if_neg (by omega)]
    have hc1 : xv (rowC X s (3 + e1)) 467 1 = xv X 467 1 := by unfold xv; rw [rowC_ne _ (by omega)]
    unfold dd
    rw [hF, hc1, he1, Int.toNat_natCast]
  · refine r_iconst (pc' := 10) dX12_deedOf_9 rfl ?_
    refine r_istore_n (i := 2) (pc' := 11) dX12_deedOf_10 rfl rfl rfl (.s1 (.s1 .nil rfl rfl rfl) rfl rfl rfl) ?_
    refine lX12_deedOf hm ?_ 7 0 rfl
    refine r_aload_n (i := 0) (pc' := 36) dX12_deedOf_35 rfl rfl (.head _) ?_
    refine r_dup (pc' := 37) dX12_deedOf_36 rfl rfl ?_
    refine r_getI (pc' := 40) dX12_deedOf_37 rfl fX12_61 rfl (by first | assumption | rfl) (by omega) ?_
    refine r_iconst (pc' := 41) dX12_deedOf_40 rfl ?_
    refine r_isub (pc' := 42) dX12_deedOf_41 rfl ?_
    refine r_putI (pc' := 45) dX12_deedOf_42 rfl fX12_61 rfl (by first | assumption | rfl) (by omega) rfl rfl ?_
    refine r_aload_n (i := 0) (pc' := 46) dX12_deedOf_45 rfl rfl (.head _) ?_
    refine r_iload_n (i := 1) (pc' := 47) dX12_deedOf_46 rfl rfl (.tail _ (.head _)) ?_
    refine r_iconst (pc' := 48) dX12_deedOf_47 rfl ?_
    refine r_aload_n (i := 0) (pc' := 49) dX12_deedOf_48 rfl rfl (.head _) ?_
    refine r_getI (pc' := 52) dX12_deedOf_49 rfl fX12_61 rfl (by first | assumption | rfl) (by omega) ?_
    refine r_iadd (pc' := 53) dX12_deedOf_52 rfl ?_
    have hv7 : xv (rowS X 7) 467 1 = 8 := by unfold xv; rw [rowS_ne _ (by omega)]; assumption
    have hF : ddF X = q_up (rowS X 7) 467 1 (zi 7) := by unfold ddF; rw [if_pos (by assumption)]
    rw [hv7, show (8 - 1 : Int) = 7 by decide, ← hF]
    have hF7 : xv (ddF X) 467 1 = 7 := by rw [hF]; exact xv_up_same _ _ _ (by omega)
    rw [hF7, show (3 + 7 : Int) = ((10 : Nat) : Int) by decide]
    refine r_V2gv (ci := 12) (pc' := 56) dX12_deedOf_53 rfl lX12_64 rfl (by decide) (Nat.le_of_ble_eq_true rfl) (by first | assumption | rfl) (by omega) (tX12_copyRow hm (s := s) (t := 10) (by omega) (by omega)) (fun n53 P53 X53 Y53 e53 le53 => ?_)
    obtain ⟨hg1_53, hg2_53, hg3_53, hg4_53⟩ := e53
    have g1_53 := Eq.symm hg1_53
    have g2_53 := Eq.symm hg2_53
    have g3_53 := Eq.symm hg3_53
    have g4_53 := Eq.symm hg4_53
    clear hg1_53 hg2_53 hg3_53 hg4_53
    subst g1_53 g2_53 g3_53 g4_53
    refine r_aload_n (i := 0) (pc' := 57) dX12_deedOf_56 rfl rfl (.head _) ?_
    refine r_dup (pc' := 58) dX12_deedOf_57 rfl rfl ?_
    refine r_getI (pc' := 61) dX12_deedOf_58 rfl fX12_61 rfl (by first | assumption | rfl) (by omega) ?_
    refine r_iconst (pc' := 62) dX12_deedOf_61 rfl ?_
    refine r_iadd (pc' := 63) dX12_deedOf_62 rfl ?_
    refine r_putI (pc' := 66) dX12_deedOf_63 rfl fX12_61 rfl (by first | assumption | rfl) (by omega) rfl rfl ?_
    refine r_return dX12_deedOf_66 rfl ?_
    refine ⟨rfl, rfl, rfl, rfl, ?_⟩
    have hc1 : xv (rowC (ddF X) s 10) 467 1 = 7 := by rw [← hF7]; unfold xv; rw [rowC_ne _ (by omega)]
    unfold dd
    rw [hc1, hF7]
    rfl
