set_option maxHeartbeats 4000000 in
set_option maxRecDepth 100000 in
theorem tX12_waitsFor {l : Launch} {g : q_G} {n : Nat} {P : q_P} {X : q_X} {Y : q_Y} (hm : isMod n P) {z : Int} (h : 0 ≤ xv X 467 11 ∧ xv X 467 11 < 80) : q_Met l g mX12_waitsFor 0 [.ref (g.1 + 467), .int (zi z)] n P X Y (q_gv (fun n' P' X' Y' => n' = n ∧ P' = P ∧ Y' = Y ∧ X' = q_up (q_up (q_up X 472 (xv X 467 11).toNat (zi z)) 467 11 (zi (xv X 467 11 + 1))) 467 5 (zi (xv X 467 5 + 1)))) := by
  obtain ⟨m0, m2, m3, m8, m9, m14, m15, m16, m17, m18, m20, m22, m25, hnm9⟩ := id hm
  refine q_enter (L := [(0, .ref (g.1 + 467)), (1, .int (zi z))]) (by decide) (Nat.le_of_ble_eq_true rfl) rfl ?_
  refine r_aload_n (i := 0) (pc' := 1) dX12_waitsFor_0 rfl rfl (.head _) ?_
  refine r_getR (pc' := 4) dX12_waitsFor_1 rfl fX12_29 rfl (by first | assumption | rfl) (by omega) (by assumption) ?_
  refine r_aload_n (i := 0) (pc' := 5) dX12_waitsFor_4 rfl rfl (.head _) ?_
  refine r_getI (pc' := 8) dX12_waitsFor_5 rfl fX12_165 rfl (by first | assumption | rfl) (by omega) ?_
  refine r_iload_n (i := 1) (pc' := 9) dX12_waitsFor_8 rfl rfl (.tail _ (.head _)) ?_
  refine r_iastore (pc' := 10) dX12_waitsFor_9 rfl (by first | assumption | rfl) (by omega) (by omega) (by omega) (by first | decide | omega) rfl ?_
  refine r_aload_n (i := 0) (pc' := 11) dX12_waitsFor_10 rfl rfl (.head _) ?_
  refine r_dup (pc' := 12) dX12_waitsFor_11 rfl rfl ?_
  refine r_getI (pc' := 15) dX12_waitsFor_12 rfl fX12_165 rfl (by first | assumption | rfl) (by omega) ?_
  rw [xv_up_ne _ _ (by omega)]
  refine r_iconst (pc' := 16) dX12_waitsFor_15 rfl ?_
  refine r_iadd (pc' := 17) dX12_waitsFor_16 rfl ?_
  refine r_putI (pc' := 20) dX12_waitsFor_17 rfl fX12_165 rfl (by first | assumption | rfl) (by omega) rfl rfl ?_
  refine r_aload_n (i := 0) (pc' := 21) dX12_waitsFor_20 rfl rfl (.head _) ?_
  refine r_dup (pc' := 22) dX12_waitsFor_21 rfl rfl ?_
  refine r_getI (pc' := 25) dX12_waitsFor_22 rfl fX12_82 rfl (by first | assumption | rfl) (by omega) ?_
  rw [xv_up_ne _ _ (by omega), xv_up_ne _ _ (by omega)]
  refine r_iconst (pc' := 26) dX12_waitsFor_25 rfl ?_
  refine r_iadd (pc' := 27) dX12_waitsFor_26 rfl ?_
  refine r_putI (pc' := 30) dX12_waitsFor_27 rfl fX12_82 rfl (by first | assumption | rfl) (by omega) rfl rfl ?_
  refine r_return dX12_waitsFor_30 rfl ?_
  exact ⟨rfl, rfl, rfl, rfl, rfl⟩
