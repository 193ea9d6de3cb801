/-! the reference's tape -/
def mRd (X : q_X) (a : Int) : Int := if a < xv X 467 4 then xv X 470 a.toNat % 256 else -1
set_option maxHeartbeats 4000000 in
set_option maxRecDepth 100000 in
theorem tX12_isFigure {l : Launch} {g : q_G} {n : Nat} {P : q_P} {X : q_X} {Y : q_Y} {c : Int} (hc : q_in c) : q_Met l g mX12_isFigure 0 [.int (zi c)] n P X Y (q_pv (.int (zi (if 48 ≤ c ∧ c ≤ 57 then 1 else 0))) n P X Y) := by
  skip
  refine q_enter (L := [(0, .int (zi c))]) (by decide) (Nat.le_of_ble_eq_true rfl) rfl ?_
  refine r_iload_n (i := 0) (pc' := 1) dX12_isFigure_0 rfl rfl (.head _) ?_
  refine r_bipush (pc' := 3) dX12_isFigure_1 rfl (by decide) ?_
  refine r_icmp_lt (t := 16) (f := 6) dX12_isFigure_3 (by decide) rfl (by first | omega | exact xv_in _ _ _) (by first | omega | exact xv_in _ _ _) (fun h3 => ?_) (fun h3 => ?_)
  · refine r_iconst (pc' := 17) dX12_isFigure_16 rfl ?_
    refine r_zreturn dX12_isFigure_17 rfl (by first | decide | (split <;> omega) | omega) ?_
    refine ⟨?_, rfl, rfl, rfl, rfl⟩
    (repeat' split) <;> first | rfl | (exfalso; omega)
  · refine r_iload_n (i := 0) (pc' := 7) dX12_isFigure_6 rfl rfl (.head _) ?_
    refine r_bipush (pc' := 9) dX12_isFigure_7 rfl (by decide) ?_
    refine r_icmp_gt (t := 16) (f := 12) dX12_isFigure_9 (by decide) rfl (by first | omega | exact xv_in _ _ _) (by first | omega | exact xv_in _ _ _) (fun h9 => ?_) (fun h9 => ?_)
    · refine r_iconst (pc' := 17) dX12_isFigure_16 rfl ?_
      refine r_zreturn dX12_isFigure_17 rfl (by first | decide | (split <;> omega) | omega) ?_
      refine ⟨?_, rfl, rfl, rfl, rfl⟩
      (repeat' split) <;> first | rfl | (exfalso; omega)
    · refine r_iconst (pc' := 13) dX12_isFigure_12 rfl ?_
      refine r_goto (t := 17) dX12_isFigure_13 (by decide) ?_
      refine r_zreturn dX12_isFigure_17 rfl (by first | decide | (split <;> omega) | omega) ?_
      refine ⟨?_, rfl, rfl, rfl, rfl⟩
      (repeat' split) <;> first | rfl | (exfalso; omega)
set_option maxHeartbeats 4000000 in
set_option maxRecDepth 100000 in
theorem tX12_here {l : Launch} {g : q_G} {n : Nat} {P : q_P} {X : q_X} {Y : q_Y} (hm : isMod n P) (hA : 0 ≤ xv X 467 5) (hTp : xv X 467 4 ≤ 500) : q_Met l g mX12_here 0 [.ref (g.1 + 467)] n P X Y (q_pv (.int (zi (mRd X (xv X 467 5)))) n P X Y) := by
  obtain ⟨m0, m2, m3, m8, m9, m14, m15, m16, m17, m18, m20, m22, m25, hnm9⟩ := id hm
  refine q_enter (L := [(0, .ref (g.1 + 467))]) (by decide) (Nat.le_of_ble_eq_true rfl) rfl ?_
  refine r_aload_n (i := 0) (pc' := 1) dX12_here_0 rfl rfl (.head _) ?_
  refine r_getI (pc' := 4) dX12_here_1 rfl fX12_82 rfl (by first | assumption | rfl) (by omega) ?_
  refine r_aload_n (i := 0) (pc' := 5) dX12_here_4 rfl rfl (.head _) ?_
  refine r_getI (pc' := 8) dX12_here_5 rfl fX12_76 rfl (by first | assumption | rfl) (by omega) ?_
  refine r_icmp_ge (t := 27) (f := 11) dX12_here_8 (by decide) rfl (by first | omega | exact xv_in _ _ _) (by first | omega | exact xv_in _ _ _) (fun h8 => ?_) (fun h8 => ?_)
  · refine r_iconst (pc' := 28) dX12_here_27 rfl ?_
    refine r_ireturn dX12_here_28 rfl ?_
    refine ⟨?_, rfl, rfl, rfl, rfl⟩
    unfold mRd
    (repeat' split) <;> first | rfl | (exfalso; omega) | (congr 3; omega)
  · refine r_aload_n (i := 0) (pc' := 12) dX12_here_11 rfl rfl (.head _) ?_
    refine r_getR (pc' := 15) dX12_here_12 rfl fX12_18 rfl (by first | assumption | rfl) (by omega) (by assumption) ?_
    refine r_aload_n (i := 0) (pc' := 16) dX12_here_15 rfl rfl (.head _) ?_
    refine r_getI (pc' := 19) dX12_here_16 rfl fX12_82 rfl (by first | assumption | rfl) (by omega) ?_
    refine r_baload (pc' := 20) dX12_here_19 rfl (by first | assumption | rfl) (by omega) (by omega) (by omega) (by first | decide | omega) rfl ?_
    refine r_sipush (pc' := 23) dX12_here_20 rfl (by decide) ?_
    refine r_iand (pc' := 24) dX12_here_23 rfl (zi_and255 _) ?_
    refine r_goto (t := 28) dX12_here_24 (by decide) ?_
    refine r_ireturn dX12_here_28 rfl ?_
    refine ⟨?_, rfl, rfl, rfl, rfl⟩
    unfold mRd
    (repeat' split) <;> first | rfl | (exfalso; omega) | (congr 3; omega)
set_option maxHeartbeats 4000000 in
set_option maxRecDepth 100000 in
theorem tX12_fails {l : Launch} {g : q_G} {n : Nat} {P : q_P} {X : q_X} {Y : q_Y} (hm : isMod n P) {z : Int} : q_Met l g mX12_fails 0 [.ref (g.1 + 467), .int (zi z)] n P X Y (q_gi (fun r' n' P' X' Y' => n' = n ∧ P' = P ∧ Y' = Y ∧ X' = q_up X 467 6 (zi z) ∧ r' = 0)) := by
  obtain ⟨m0, m2, m3, m8, m9, m14, m15, m16, m17, m18, m20, m22, m25, hnm9⟩ := id hm
  refine q_enter (L := [(0, .ref (g.1 + 467)), (1, .int (zi z))]) (by decide) (Nat.le_of_ble_eq_true rfl) rfl ?_
  refine r_aload_n (i := 0) (pc' := 1) dX12_fails_0 rfl rfl (.head _) ?_
  refine r_iload_n (i := 1) (pc' := 2) dX12_fails_1 rfl rfl (.tail _ (.head _)) ?_
  refine r_putI (pc' := 5) dX12_fails_2 rfl fX12_22 rfl (by first | assumption | rfl) (by omega) rfl rfl ?_
  refine r_iconst (pc' := 6) dX12_fails_5 rfl ?_
  refine r_zreturn dX12_fails_6 rfl (by first | decide | (split <;> omega) | omega) ?_
  exact ⟨_, rfl, rfl, rfl, rfl, rfl, rfl⟩
set_option maxHeartbeats 4000000 in
set_option maxRecDepth 100000 in
theorem tX12_beginText {l : Launch} {g : q_G} {n : Nat} {P : q_P} {X : q_X} {Y : q_Y} (hm : isMod n P) : q_Met l g mX12_beginText 0 [.ref (g.1 + 467)] n P X Y (q_gv (fun n' P' X' Y' => n' = n ∧ P' = P ∧ Y' = Y ∧ X' = q_up (q_up X 467 5 (zi 0)) 467 6 (zi (-1)))) := by
  obtain ⟨m0, m2, m3, m8, m9, m14, m15, m16, m17, m18, m20, m22, m25, hnm9⟩ := id hm
  refine q_enter (L := [(0, .ref (g.1 + 467))]) (by decide) (Nat.le_of_ble_eq_true rfl) rfl ?_
  refine r_aload_n (i := 0) (pc' := 1) dX12_beginText_0 rfl rfl (.head _) ?_
  refine r_iconst (pc' := 2) dX12_beginText_1 rfl ?_
  refine r_putI (pc' := 5) dX12_beginText_2 rfl fX12_82 rfl (by first | assumption | rfl) (by omega) rfl rfl ?_
  refine r_aload_n (i := 0) (pc' := 6) dX12_beginText_5 rfl rfl (.head _) ?_
  refine r_iconst (pc' := 7) dX12_beginText_6 rfl ?_
  refine r_putI (pc' := 10) dX12_beginText_7 rfl fX12_22 rfl (by first | assumption | rfl) (by omega) rfl rfl ?_
  refine r_return dX12_beginText_10 rfl ?_
  exact ⟨rfl, rfl, rfl, rfl, rfl⟩
set_option maxHeartbeats 4000000 in
set_option maxRecDepth 100000 in
theorem tX12_ends {l : Launch} {g : q_G} {n : Nat} {P : q_P} {X : q_X} {Y : q_Y} (hm : isMod n P) : q_Met l g mX12_ends 0 [.ref (g.1 + 467)] n P X Y (q_gi (fun r' n' P' X' Y' => n' = n ∧ P' = P ∧ Y' = Y ∧ X' = q_up X 467 4 (zi 0) ∧ r' = if xv X 467 6 = -1 then 1 else 0)) := by
  obtain ⟨m0, m2, m3, m8, m9, m14, m15, m16, m17, m18, m20, m22, m25, hnm9⟩ := id hm
  refine q_enter (L := [(0, .ref (g.1 + 467))]) (by decide) (Nat.le_of_ble_eq_true rfl) rfl ?_
  refine r_aload_n (i := 0) (pc' := 1) dX12_ends_0 rfl rfl (.head _) ?_
  refine r_iconst (pc' := 2) dX12_ends_1 rfl ?_
  refine r_putI (pc' := 5) dX12_ends_2 rfl fX12_76 rfl (by first | assumption | rfl) (by omega) rfl rfl ?_
  refine r_aload_n (i := 0) (pc' := 6) dX12_ends_5 rfl rfl (.head _) ?_
  refine r_getI (pc' := 9) dX12_ends_6 rfl fX12_22 rfl (by first | assumption | rfl) (by omega) ?_
  rw [xv_up_ne _ _ (by omega)]
  refine r_iconst (pc' := 10) dX12_ends_9 rfl ?_
  refine r_icmp_ne (t := 17) (f := 13) dX12_ends_10 (by decide) rfl (by first | omega | exact xv_in _ _ _) (by first | omega | exact xv_in _ _ _) (fun h10 => ?_) (fun h10 => ?_)
  · refine r_iconst (pc' := 18) dX12_ends_17 rfl ?_
    refine r_zreturn dX12_ends_18 rfl (by first | decide | (split <;> omega) | omega) ?_
    refine ⟨_, rfl, rfl, rfl, rfl, rfl, ?_⟩
    split <;> first | rfl | (exfalso; omega)
  · refine r_iconst (pc' := 14) dX12_ends_13 rfl ?_
    refine r_goto (t := 18) dX12_ends_14 (by decide) ?_
    refine r_zreturn dX12_ends_18 rfl (by first | decide | (split <;> omega) | omega) ?_
    refine ⟨_, rfl, rfl, rfl, rfl, rfl, ?_⟩
    split <;> first | rfl | (exfalso; omega)
set_option maxHeartbeats 4000000 in
set_option maxRecDepth 100000 in
theorem tX12_takes {l : Launch} {g : q_G} {n : Nat} {P : q_P} {X : q_X} {Y : q_Y} (hm : isMod n P) (hA : 0 ≤ xv X 467 5) (hTp : xv X 467 4 ≤ 500) {c : Int} (hc : q_in c) : q_Met l g mX12_takes 1 [.ref (g.1 + 467), .int (zi c)] n P X Y (q_gi (fun r' n' P' X' Y' => n' = n ∧ P' = P ∧ Y' = Y ∧ if mRd X (xv X 467 5) = c then X' = q_up X 467 5 (zi (xv X 467 5 + 1)) ∧ r' = 1 else X' = q_up X 467 6 (zi (xv X 467 5)) ∧ r' = 0)) := by
  obtain ⟨m0, m2, m3, m8, m9, m14, m15, m16, m17, m18, m20, m22, m25, hnm9⟩ := id hm
  refine q_enter (L := [(0, .ref (g.1 + 467)), (1, .int (zi c))]) (by decide) (Nat.le_of_ble_eq_true rfl) rfl ?_
  refine r_aload_n (i := 0) (pc' := 1) dX12_takes_0 rfl rfl (.head _) ?_
  refine r_V0p (ci := 12) (pc' := 4) dX12_takes_1 rfl lX12_85 rfl (by decide) (Nat.le_of_ble_eq_true rfl) (by first | assumption | rfl) (by omega) (tX12_here hm hA hTp) ?_
  refine r_iload_n (i := 1) (pc' := 5) dX12_takes_4 rfl rfl (.tail _ (.head _)) ?_
  refine r_icmp_eq (t := 17) (f := 8) dX12_takes_5 (by decide) rfl (by unfold mRd; split <;> omega) (by first | omega | exact xv_in _ _ _) (fun h5 => ?_) (fun h5 => ?_)
  · refine r_aload_n (i := 0) (pc' := 18) dX12_takes_17 rfl rfl (.head _) ?_
    refine r_dup (pc' := 19) dX12_takes_18 rfl rfl ?_
    refine r_getI (pc' := 22) dX12_takes_19 rfl fX12_82 rfl (by first | assumption | rfl) (by omega) ?_
    refine r_iconst (pc' := 23) dX12_takes_22 rfl ?_
    refine r_iadd (pc' := 24) dX12_takes_23 rfl ?_
    refine r_putI (pc' := 27) dX12_takes_24 rfl fX12_82 rfl (by first | assumption | rfl) (by omega) rfl rfl ?_
    refine r_iconst (pc' := 28) dX12_takes_27 rfl ?_
    refine r_zreturn dX12_takes_28 rfl (by first | decide | (split <;> omega) | omega) ?_
    refine ⟨_, rfl, rfl, rfl, rfl, ?_⟩
    first
      | (rw [if_pos (by assumption)]; exact ⟨rfl, rfl⟩)
      | (rw [if_neg (by assumption)]; exact ⟨rfl, rfl⟩)
  · refine r_aload_n (i := 0) (pc' := 9) dX12_takes_8 rfl rfl (.head _) ?_
    refine r_aload_n (i := 0) (pc' := 10) dX12_takes_9 rfl rfl (.head _) ?_
    refine r_getI (pc' := 13) dX12_takes_10 rfl fX12_82 rfl (by first | assumption | rfl) (by omega) ?_
    refine r_V1gi (ci := 12) (pc' := 16) dX12_takes_13 rfl lX12_89 rfl (by decide) (Nat.le_of_ble_eq_true rfl) (by first | assumption | rfl) (by omega) (tX12_fails hm) (fun r13 n13 P13 X13 Y13 e13 le13 => ?_)
    obtain ⟨h1v, h2v, h3v, h4v, hr13⟩ := e13
    subst h1v h2v h3v h4v hr13
    refine r_zreturn dX12_takes_16 rfl (by first | decide | (split <;> omega) | omega) ?_
    refine ⟨_, rfl, rfl, rfl, rfl, ?_⟩
    first
      | (rw [if_pos (by assumption)]; exact ⟨rfl, rfl⟩)
      | (rw [if_neg (by assumption)]; exact ⟨rfl, rfl⟩)
