theorem rowC_xv (X : q_X) {s t : Nat} {a : Nat} (h : a ≠ 468) : xv (rowC X s t) a = xv X a := by funext j; simp only [xv, rowC_ne X h]
set_option maxHeartbeats 4000000 in
set_option maxRecDepth 100000 in
theorem tX12_undo {l : Launch} {g : q_G} {n : Nat} {P : q_P} {X : q_X} {Y : q_Y} (hm : isMod n P) (hD : 0 ≤ xv X 467 1 ∧ xv X 467 1 ≤ 8) : q_Met l g mX12_undo 1 [.ref (g.1 + 467)] n P X Y (q_gi (fun r' n' P' X' Y' => n' = n ∧ P' = P ∧ Y' = Y ∧ if xv X 467 1 = 0 then X' = X ∧ r' = -1 else X' = rowC (q_up X 467 1 (zi (xv X 467 1 - 1))) (3 + (xv X 467 1 - 1).toNat) 0 ∧ r' = xv X 467 1 - 1)) := by
  obtain ⟨m0, m2, m3, m8, m9, m14, m15, m16, m17, m18, m20, m22, m25, hnm9⟩ := id hm
  refine q_enter (L := [(0, .ref (g.1 + 467))]) (by decide) (Nat.le_of_ble_eq_true rfl) rfl ?_
  refine r_aload_n (i := 0) (pc' := 1) dX12_undo_0 rfl rfl (.head _) ?_
  refine r_getI (pc' := 4) dX12_undo_1 rfl fX12_61 rfl (by first | assumption | rfl) (by omega) ?_
  refine r_if_ne (t := 9) (f := 7) dX12_undo_4 (by decide) rfl (by first | omega | exact xv_in _ _ _) (fun h4 => ?_) (fun h4 => ?_)
  · refine r_aload_n (i := 0) (pc' := 10) dX12_undo_9 rfl rfl (.head _) ?_
    refine r_dup (pc' := 11) dX12_undo_10 rfl rfl ?_
    refine r_getI (pc' := 14) dX12_undo_11 rfl fX12_61 rfl (by first | assumption | rfl) (by omega) ?_
    refine r_iconst (pc' := 15) dX12_undo_14 rfl ?_
    refine r_isub (pc' := 16) dX12_undo_15 rfl ?_
    refine r_putI (pc' := 19) dX12_undo_16 rfl fX12_61 rfl (by first | assumption | rfl) (by omega) rfl rfl ?_
    refine r_aload_n (i := 0) (pc' := 20) dX12_undo_19 rfl rfl (.head _) ?_
    refine r_iconst (pc' := 21) dX12_undo_20 rfl ?_
    refine r_aload_n (i := 0) (pc' := 22) dX12_undo_21 rfl rfl (.head _) ?_
    refine r_getI (pc' := 25) dX12_undo_22 rfl fX12_61 rfl (by first | assumption | rfl) (by omega) ?_
    refine r_iadd (pc' := 26) dX12_undo_25 rfl ?_
    rw [xv_up_same _ _ _ (by omega), show 3 + (xv X 467 1 - 1) = ((3 + (xv X 467 1 - 1).toNat : Nat) : Int) by omega]
    refine r_iconst (pc' := 27) dX12_undo_26 rfl ?_
    refine r_V2gv (ci := 12) (pc' := 30) dX12_undo_27 rfl lX12_64 rfl (by decide) (Nat.le_of_ble_eq_true rfl) (by first | assumption | rfl) (by omega) (tX12_copyRow hm (s := 3 + (xv X 467 1 - 1).toNat) (t := 0) (by omega) (by omega)) (fun n27 P27 X27 Y27 e27 le27 => ?_)
    obtain ⟨hg1_27, hg2_27, hg3_27, hg4_27⟩ := e27
    have g1_27 := Eq.symm hg1_27
    have g2_27 := Eq.symm hg2_27
    have g3_27 := Eq.symm hg3_27
    have g4_27 := Eq.symm hg4_27
    clear hg1_27 hg2_27 hg3_27 hg4_27
    subst g1_27 g2_27 g3_27 g4_27
    refine r_aload_n (i := 0) (pc' := 31) dX12_undo_30 rfl rfl (.head _) ?_
    refine r_getI (pc' := 34) dX12_undo_31 rfl fX12_61 rfl (by first | assumption | rfl) (by omega) ?_
    have hu : xv (rowC (q_up X 467 1 (zi (xv X 467 1 - 1))) (3 + (xv X 467 1 - 1).toNat) 0) 467 1 = xv X 467 1 - 1 := by
      rw [rowC_xv _ (by omega)]; exact xv_up_same _ _ _ (by omega)
    rw [hu]
    refine r_ireturn dX12_undo_34 rfl ?_
    refine ⟨_, rfl, rfl, rfl, rfl, ?_⟩
    first
      | (rw [if_pos (by omega)]; exact ⟨rfl, rfl⟩)
      | (rw [if_neg (by omega)]; exact ⟨rfl, rfl⟩)
  · refine r_iconst (pc' := 8) dX12_undo_7 rfl ?_
    refine r_ireturn dX12_undo_8 rfl ?_
    refine ⟨_, rfl, rfl, rfl, rfl, ?_⟩
    first
      | (rw [if_pos (by omega)]; exact ⟨rfl, rfl⟩)
      | (rw [if_neg (by omega)]; exact ⟨rfl, rfl⟩)
set_option maxHeartbeats 4000000 in
set_option maxRecDepth 100000 in
theorem tX12_keep {l : Launch} {g : q_G} {n : Nat} {P : q_P} {X : q_X} {Y : q_Y} (hm : isMod n P) {k : Int} (hk : q_in k) : q_Met l g mX12_keep 1 [.ref (g.1 + 467), .int (zi k)] n P X Y (q_gi (fun r' n' P' X' Y' => n' = n ∧ P' = P ∧ Y' = Y ∧ if 0 ≤ k ∧ k ≤ 1 then X' = q_up (rowC X 0 (1 + k.toNat)) 469 k.toNat (zi 1) ∧ r' = 1 else X' = X ∧ r' = 0)) := by
  obtain ⟨m0, m2, m3, m8, m9, m14, m15, m16, m17, m18, m20, m22, m25, hnm9⟩ := id hm
  refine q_enter (L := [(0, .ref (g.1 + 467)), (1, .int (zi k))]) (by decide) (Nat.le_of_ble_eq_true rfl) rfl ?_
  refine r_iload_n (i := 1) (pc' := 1) dX12_keep_0 rfl rfl (.tail _ (.head _)) ?_
  refine r_i2l (pc' := 2) dX12_keep_1 rfl rfl ?_
  refine r_lconst (pc' := 3) (z := 0) dX12_keep_2 rfl rfl ?_
  refine r_lconst (pc' := 4) (z := 1) dX12_keep_3 rfl rfl ?_
  refine r_S3p (pc' := 7) dX12_keep_4 rfl lX12_68 (by decide) (Nat.le_of_ble_eq_true rfl) (tX12_isIn (by first | exact li_z (by omega) | exact li_z (xv_in _ _ _) | rfl) (by first | exact li_z (by omega) | exact li_z (xv_in _ _ _) | rfl) (by first | exact li_z (by omega) | exact li_z (xv_in _ _ _) | rfl)) ?_
  try simp only [i64_0, i64_1, i64_2, i64_3, i64_4, i64_5, i64_6, i64_7, i64_10, i64_19, i64_40, i64_100, i64_364, i64_9999, i64_99999, i64_999999, i64_m999999]
  refine r_bif_ne (t := 12) (f := 10) dX12_keep_7 (by decide) rfl (fun h7 => ?_) (fun h7 => ?_)
  · refine r_aload_n (i := 0) (pc' := 13) dX12_keep_12 rfl rfl (.head _) ?_
    refine r_iconst (pc' := 14) dX12_keep_13 rfl ?_
    refine r_iconst (pc' := 15) dX12_keep_14 rfl ?_
    refine r_iload_n (i := 1) (pc' := 16) dX12_keep_15 rfl rfl (.tail _ (.head _)) ?_
    refine r_iadd (pc' := 17) dX12_keep_16 rfl ?_
    rw [show 1 + k = ((1 + k.toNat : Nat) : Int) by omega]
    refine r_V2gv (ci := 12) (pc' := 20) dX12_keep_17 rfl lX12_64 rfl (by decide) (Nat.le_of_ble_eq_true rfl) (by first | assumption | rfl) (by omega) (tX12_copyRow hm (s := 0) (t := 1 + k.toNat) (by omega) (by omega)) (fun n17 P17 X17 Y17 e17 le17 => ?_)
    obtain ⟨hg1_17, hg2_17, hg3_17, hg4_17⟩ := e17
    have g1_17 := Eq.symm hg1_17
    have g2_17 := Eq.symm hg2_17
    have g3_17 := Eq.symm hg3_17
    have g4_17 := Eq.symm hg4_17
    clear hg1_17 hg2_17 hg3_17 hg4_17
    subst g1_17 g2_17 g3_17 g4_17
    refine r_aload_n (i := 0) (pc' := 21) dX12_keep_20 rfl rfl (.head _) ?_
    refine r_getR (pc' := 24) dX12_keep_21 rfl fX12_14 rfl (by first | assumption | rfl) (by omega) (by assumption) ?_
    refine r_iload_n (i := 1) (pc' := 25) dX12_keep_24 rfl rfl (.tail _ (.head _)) ?_
    refine r_iconst (pc' := 26) dX12_keep_25 rfl ?_
    refine r_zastore (pc' := 27) dX12_keep_26 rfl (by first | assumption | rfl) (by omega) (by omega) (by omega) (by first | decide | omega) rfl (by first | decide | (split <;> omega) | omega) ?_
    refine r_iconst (pc' := 28) dX12_keep_27 rfl ?_
    refine r_zreturn dX12_keep_28 rfl (by first | decide | (split <;> omega) | omega) ?_
    refine ⟨_, rfl, rfl, rfl, rfl, ?_⟩
    first
      | (rw [if_pos (by omega)]; exact ⟨rfl, rfl⟩)
      | (rw [if_neg (by omega)]; exact ⟨rfl, rfl⟩)
  · refine r_iconst (pc' := 11) dX12_keep_10 rfl ?_
    refine r_zreturn dX12_keep_11 rfl (by first | decide | (split <;> omega) | omega) ?_
    refine ⟨_, rfl, rfl, rfl, rfl, ?_⟩
    first
      | (rw [if_pos (by omega)]; exact ⟨rfl, rfl⟩)
      | (rw [if_neg (by omega)]; exact ⟨rfl, rfl⟩)
set_option maxHeartbeats 4000000 in
set_option maxRecDepth 100000 in
theorem tX12_restore {l : Launch} {g : q_G} {n : Nat} {P : q_P} {X : q_X} {Y : q_Y} (hm : isMod n P) (hD : 0 ≤ xv X 467 1 ∧ xv X 467 1 ≤ 8) {k : Int} (hk : q_in k) : q_Met l g mX12_restore 2 [.ref (g.1 + 467), .int (zi k)] n P X Y (q_gi (fun r' n' P' X' Y' => n' = n ∧ P' = P ∧ Y' = Y ∧ if 0 ≤ k ∧ k ≤ 1 ∧ ¬ xv X 469 k.toNat = 0 then X' = rowC (dd X 0) (1 + k.toNat) 0 ∧ r' = 1 else X' = X ∧ r' = 0)) := by
  obtain ⟨m0, m2, m3, m8, m9, m14, m15, m16, m17, m18, m20, m22, m25, hnm9⟩ := id hm
  refine q_enter (L := [(0, .ref (g.1 + 467)), (1, .int (zi k))]) (by decide) (Nat.le_of_ble_eq_true rfl) rfl ?_
  refine r_iload_n (i := 1) (pc' := 1) dX12_restore_0 rfl rfl (.tail _ (.head _)) ?_
  refine r_i2l (pc' := 2) dX12_restore_1 rfl rfl ?_
  refine r_lconst (pc' := 3) (z := 0) dX12_restore_2 rfl rfl ?_
  refine r_lconst (pc' := 4) (z := 1) dX12_restore_3 rfl rfl ?_
  refine r_S3p (pc' := 7) dX12_restore_4 rfl lX12_68 (by decide) (Nat.le_of_ble_eq_true rfl) (tX12_isIn (by first | exact li_z (by omega) | exact li_z (xv_in _ _ _) | rfl) (by first | exact li_z (by omega) | exact li_z (xv_in _ _ _) | rfl) (by first | exact li_z (by omega) | exact li_z (xv_in _ _ _) | rfl)) ?_
  try simp only [i64_0, i64_1, i64_2, i64_3, i64_4, i64_5, i64_6, i64_7, i64_10, i64_19, i64_40, i64_100, i64_364, i64_9999, i64_99999, i64_999999, i64_m999999]
  refine r_bif_eq (t := 19) (f := 10) dX12_restore_7 (by decide) rfl (fun h7 => ?_) (fun h7 => ?_)
  · refine r_iconst (pc' := 20) dX12_restore_19 rfl ?_
    refine r_zreturn dX12_restore_20 rfl (by first | decide | (split <;> omega) | omega) ?_
    refine ⟨_, rfl, rfl, rfl, rfl, ?_⟩
    first
      | (rw [if_pos (by omega)]; exact ⟨rfl, rfl⟩)
      | (rw [if_neg (by omega)]; exact ⟨rfl, rfl⟩)
  · refine r_aload_n (i := 0) (pc' := 11) dX12_restore_10 rfl rfl (.head _) ?_
    refine r_getR (pc' := 14) dX12_restore_11 rfl fX12_14 rfl (by first | assumption | rfl) (by omega) (by assumption) ?_
    refine r_iload_n (i := 1) (pc' := 15) dX12_restore_14 rfl rfl (.tail _ (.head _)) ?_
    refine r_zaload (pc' := 16) dX12_restore_15 rfl (by first | assumption | rfl) (by omega) (by omega) (by omega) (by first | decide | omega) rfl ?_
    refine r_if_ne (t := 21) (f := 19) dX12_restore_16 (by decide) rfl (by first | omega | exact xv_in _ _ _) (fun h16 => ?_) (fun h16 => ?_)
    · refine r_aload_n (i := 0) (pc' := 22) dX12_restore_21 rfl rfl (.head _) ?_
      refine r_iconst (pc' := 23) dX12_restore_22 rfl ?_
      refine r_V1gv (ci := 12) (pc' := 26) dX12_restore_23 rfl lX12_72 rfl (by decide) (Nat.le_of_ble_eq_true rfl) (by first | assumption | rfl) (by omega) (tX12_deedOf hm (s := 0) (by omega) hD) (fun n23 P23 X23 Y23 e23 le23 => ?_)
      obtain ⟨hg1_23, hg2_23, hg3_23, hg4_23⟩ := e23
      have g1_23 := Eq.symm hg1_23
      have g2_23 := Eq.symm hg2_23
      have g3_23 := Eq.symm hg3_23
      have g4_23 := Eq.symm hg4_23
      clear hg1_23 hg2_23 hg3_23 hg4_23
      subst g1_23 g2_23 g3_23 g4_23
      refine r_aload_n (i := 0) (pc' := 27) dX12_restore_26 rfl rfl (.head _) ?_
      refine r_iconst (pc' := 28) dX12_restore_27 rfl ?_
      refine r_iload_n (i := 1) (pc' := 29) dX12_restore_28 rfl rfl (.tail _ (.head _)) ?_
      refine r_iadd (pc' := 30) dX12_restore_29 rfl ?_
      rw [show 1 + k = ((1 + k.toNat : Nat) : Int) by omega]
      refine r_iconst (pc' := 31) dX12_restore_30 rfl ?_
      refine r_V2gv (ci := 12) (pc' := 34) dX12_restore_31 rfl lX12_64 rfl (by decide) (Nat.le_of_ble_eq_true rfl) (by first | assumption | rfl) (by omega) (tX12_copyRow hm (s := 1 + k.toNat) (t := 0) (by omega) (by omega)) (fun n31 P31 X31 Y31 e31 le31 => ?_)
      obtain ⟨hg1_31, hg2_31, hg3_31, hg4_31⟩ := e31
      have g1_31 := Eq.symm hg1_31
      have g2_31 := Eq.symm hg2_31
      have g3_31 := Eq.symm hg3_31
      have g4_31 := Eq.symm hg4_31
      clear hg1_31 hg2_31 hg3_31 hg4_31
      subst g1_31 g2_31 g3_31 g4_31
      refine r_iconst (pc' := 35) dX12_restore_34 rfl ?_
      refine r_zreturn dX12_restore_35 rfl (by first | decide | (split <;> omega) | omega) ?_
      refine ⟨_, rfl, rfl, rfl, rfl, ?_⟩
      first
        | (rw [if_pos (by omega)]; exact ⟨rfl, rfl⟩)
        | (rw [if_neg (by omega)]; exact ⟨rfl, rfl⟩)
    · refine r_iconst (pc' := 20) dX12_restore_19 rfl ?_
      refine r_zreturn dX12_restore_20 rfl (by first | decide | (split <;> omega) | omega) ?_
      refine ⟨_, rfl, rfl, rfl, rfl, ?_⟩
      first
        | (rw [if_pos (by omega)]; exact ⟨rfl, rfl⟩)
        | (rw [if_neg (by omega)]; exact ⟨rfl, rfl⟩)
set_option maxHeartbeats 4000000 in
set_option maxRecDepth 100000 in
theorem tX12_why {l : Launch} {g : q_G} {n : Nat} {P : q_P} {X : q_X} {Y : q_Y} (hm : isMod n P) : q_Met l g mX12_why 0 [.ref (g.1 + 467)] n P X Y (q_pv (.int (zi (xv X 467 19))) n P X Y) := by
  obtain ⟨m0, m2, m3, m8, m9, m14, m15, m16, m17, m18, m20, m22, m25, hnm9⟩ := id hm
  refine q_enter (L := [(0, .ref (g.1 + 467))]) (by decide) (Nat.le_of_ble_eq_true rfl) rfl ?_
  refine r_aload_n (i := 0) (pc' := 1) dX12_why_0 rfl rfl (.head _) ?_
  refine r_getI (pc' := 4) dX12_why_1 rfl fX12_272 rfl (by first | assumption | rfl) (by omega) ?_
  refine r_ireturn dX12_why_4 rfl ?_
  refine ⟨?_, rfl, rfl, rfl, rfl⟩
  (repeat' split) <;> first | rfl | (exfalso; omega) | (congr 3; omega)
set_option maxHeartbeats 4000000 in
set_option maxRecDepth 100000 in
theorem tX12_ended {l : Launch} {g : q_G} {n : Nat} {P : q_P} {X : q_X} {Y : q_Y} (hm : isMod n P) : q_Met l g mX12_ended 0 [.ref (g.1 + 467)] n P X Y (q_pv (.int (zi (xv X 467 24))) n P X Y) := by
  obtain ⟨m0, m2, m3, m8, m9, m14, m15, m16, m17, m18, m20, m22, m25, hnm9⟩ := id hm
  refine q_enter (L := [(0, .ref (g.1 + 467))]) (by decide) (Nat.le_of_ble_eq_true rfl) rfl ?_
  refine r_aload_n (i := 0) (pc' := 1) dX12_ended_0 rfl rfl (.head _) ?_
  refine r_getI (pc' := 4) dX12_ended_1 rfl fX12_54 rfl (by first | assumption | rfl) (by omega) ?_
  refine r_ireturn dX12_ended_4 rfl ?_
  refine ⟨?_, rfl, rfl, rfl, rfl⟩
  (repeat' split) <;> first | rfl | (exfalso; omega) | (congr 3; omega)
set_option maxHeartbeats 4000000 in
set_option maxRecDepth 100000 in
theorem tX12_fault {l : Launch} {g : q_G} {n : Nat} {P : q_P} {X : q_X} {Y : q_Y} (hm : isMod n P) : q_Met l g mX12_fault 0 [.ref (g.1 + 467)] n P X Y (q_pv (.int (zi (xv X 467 6))) n P X Y) := by
  obtain ⟨m0, m2, m3, m8, m9, m14, m15, m16, m17, m18, m20, m22, m25, hnm9⟩ := id hm
  refine q_enter (L := [(0, .ref (g.1 + 467))]) (by decide) (Nat.le_of_ble_eq_true rfl) rfl ?_
  refine r_aload_n (i := 0) (pc' := 1) dX12_fault_0 rfl rfl (.head _) ?_
  refine r_getI (pc' := 4) dX12_fault_1 rfl fX12_22 rfl (by first | assumption | rfl) (by omega) ?_
  refine r_ireturn dX12_fault_4 rfl ?_
  refine ⟨?_, rfl, rfl, rfl, rfl⟩
  (repeat' split) <;> first | rfl | (exfalso; omega) | (congr 3; omega)
set_option maxHeartbeats 4000000 in
set_option maxRecDepth 100000 in
theorem tX12_end {l : Launch} {g : q_G} {n : Nat} {P : q_P} {X : q_X} {Y : q_Y} (hm : isMod n P) {k : Int} (hk : q_in k) : q_Met l g mX12_end 1 [.ref (g.1 + 467), .int (zi k)] n P X Y (q_gi (fun r' n' P' X' Y' => n' = n ∧ P' = P ∧ Y' = Y ∧ if 0 ≤ k ∧ k ≤ xv X 467 4 then X' = q_up X 467 4 (zi k) ∧ r' = k else X' = X ∧ r' = -1)) := by
  obtain ⟨m0, m2, m3, m8, m9, m14, m15, m16, m17, m18, m20, m22, m25, hnm9⟩ := id hm
  refine q_enter (L := [(0, .ref (g.1 + 467)), (1, .int (zi k))]) (by decide) (Nat.le_of_ble_eq_true rfl) rfl ?_
  refine r_iload_n (i := 1) (pc' := 1) dX12_end_0 rfl rfl (.tail _ (.head _)) ?_
  refine r_i2l (pc' := 2) dX12_end_1 rfl rfl ?_
  refine r_lconst (pc' := 3) (z := 0) dX12_end_2 rfl rfl ?_
  refine r_aload_n (i := 0) (pc' := 4) dX12_end_3 rfl rfl (.head _) ?_
  refine r_getI (pc' := 7) dX12_end_4 rfl fX12_76 rfl (by first | assumption | rfl) (by omega) ?_
  refine r_i2l (pc' := 8) dX12_end_7 rfl rfl ?_
  refine r_S3p (pc' := 11) dX12_end_8 rfl lX12_68 (by decide) (Nat.le_of_ble_eq_true rfl) (tX12_isIn (by first | exact li_z (by omega) | exact li_z (xv_in _ _ _) | rfl) (by first | exact li_z (by omega) | exact li_z (xv_in _ _ _) | rfl) (by first | exact li_z (by omega) | exact li_z (xv_in _ _ _) | rfl)) ?_
  try simp only [i64_0, i64_1, i64_2, i64_3, i64_4, i64_5, i64_6, i64_7, i64_10, i64_19, i64_40, i64_100, i64_364, i64_9999, i64_99999, i64_999999, i64_m999999]
  refine r_bif_ne (t := 16) (f := 14) dX12_end_11 (by decide) rfl (fun h11 => ?_) (fun h11 => ?_)
  · refine r_aload_n (i := 0) (pc' := 17) dX12_end_16 rfl rfl (.head _) ?_
    refine r_iload_n (i := 1) (pc' := 18) dX12_end_17 rfl rfl (.tail _ (.head _)) ?_
    refine r_putI (pc' := 21) dX12_end_18 rfl fX12_76 rfl (by first | assumption | rfl) (by omega) rfl rfl ?_
    refine r_iload_n (i := 1) (pc' := 22) dX12_end_21 rfl rfl (.tail _ (.head _)) ?_
    refine r_ireturn dX12_end_22 rfl ?_
    refine ⟨_, rfl, rfl, rfl, rfl, ?_⟩
    first
      | (rw [if_pos (by omega)]; exact ⟨rfl, rfl⟩)
      | (rw [if_neg (by omega)]; exact ⟨rfl, rfl⟩)
  · refine r_iconst (pc' := 15) dX12_end_14 rfl ?_
    refine r_ireturn dX12_end_15 rfl ?_
    refine ⟨_, rfl, rfl, rfl, rfl, ?_⟩
    first
      | (rw [if_pos (by omega)]; exact ⟨rfl, rfl⟩)
      | (rw [if_neg (by omega)]; exact ⟨rfl, rfl⟩)
