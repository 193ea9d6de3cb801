set_option maxHeartbeats 4000000 in
set_option maxRecDepth 100000 in
theorem tX12_writes {l : Launch} {g : q_G} {n : Nat} {P : q_P} {X : q_X} {Y : q_Y} (hm : isMod n P) {c : Int} (h : 0 ≤ xv X 467 26 ∧ xv X 467 26 < 300) : q_Met l g mX12_writes 0 [.ref (g.1 + 467), .int (zi c)] n P X Y (q_gv (fun n' P' X' Y' => n' = n ∧ P' = P ∧ Y' = Y ∧ X' = q_up (q_up X 480 (xv X 467 26).toNat (zi (i8 c))) 467 26 (zi (xv X 467 26 + 1)))) := by
  obtain ⟨m0, m2, m3, m8, m9, m14, m15, m16, m17, m18, m20, m22, m25, hnm9⟩ := id hm
  refine q_enter (L := [(0, .ref (g.1 + 467)), (1, .int (zi c))]) (by decide) (Nat.le_of_ble_eq_true rfl) rfl ?_
  refine r_aload_n (i := 0) (pc' := 1) dX12_writes_0 rfl rfl (.head _) ?_
  refine r_getR (pc' := 4) dX12_writes_1 rfl fX12_57 rfl (by first | assumption | rfl) (by omega) (by assumption) ?_
  refine r_aload_n (i := 0) (pc' := 5) dX12_writes_4 rfl rfl (.head _) ?_
  refine r_getI (pc' := 8) dX12_writes_5 rfl fX12_387 rfl (by first | assumption | rfl) (by omega) ?_
  refine r_iload_n (i := 1) (pc' := 9) dX12_writes_8 rfl rfl (.tail _ (.head _)) ?_
  refine r_i2b (pc' := 10) dX12_writes_9 rfl (i8_z c) ?_
  refine r_bastore (pc' := 11) dX12_writes_10 rfl (by first | assumption | rfl) (by omega) (by omega) (by omega) (by first | decide | omega) rfl (by first | (simp only [narrow, i8_i8]; done) | (unfold narrow; rw [i8_i8]) | exact congrArg Value.int (i8_i8 c)) ?_
  refine r_aload_n (i := 0) (pc' := 12) dX12_writes_11 rfl rfl (.head _) ?_
  refine r_dup (pc' := 13) dX12_writes_12 rfl rfl ?_
  refine r_getI (pc' := 16) dX12_writes_13 rfl fX12_387 rfl (by first | assumption | rfl) (by omega) ?_
  rw [xv_up_ne _ _ (by omega)]
  refine r_iconst (pc' := 17) dX12_writes_16 rfl ?_
  refine r_iadd (pc' := 18) dX12_writes_17 rfl ?_
  refine r_putI (pc' := 21) dX12_writes_18 rfl fX12_387 rfl (by first | assumption | rfl) (by omega) rfl rfl ?_
  refine r_return dX12_writes_21 rfl ?_
  exact ⟨rfl, rfl, rfl, rfl, rfl⟩
