set_option maxHeartbeats 4000000 in
set_option maxRecDepth 100000 in
theorem tX12_does {l : Launch} {g : q_G} {n : Nat} {P : q_P} {X : q_X} {Y : q_Y} (hm : isMod n P) {z : Int} (h : 0 ≤ xv X 467 10 ∧ xv X 467 10 < 80) : q_Met l g mX12_does 0 [.ref (g.1 + 467), .int (zi z)] n P X Y (q_gv (fun n' P' X' Y' => n' = n ∧ P' = P ∧ Y' = Y ∧ X' = q_up (q_up X 471 (xv X 467 10).toNat (zi z)) 467 10 (zi (xv X 467 10 + 1)))) := by
  obtain ⟨m0, m2, m3, m8, m9, m14, m15, m16, m17, m18, m20, m22, m25, hnm9⟩ := id hm
  refine q_enter (L := [(0, .ref (g.1 + 467)), (1, .int (zi z))]) (by decide) (Nat.le_of_ble_eq_true rfl) rfl ?_
  refine r_aload_n (i := 0) (pc' := 1) dX12_does_0 rfl rfl (.head _) ?_
  refine r_getR (pc' := 4) dX12_does_1 rfl fX12_26 rfl (by first | assumption | rfl) (by omega) (by assumption) ?_
  refine r_aload_n (i := 0) (pc' := 5) dX12_does_4 rfl rfl (.head _) ?_
  refine r_getI (pc' := 8) dX12_does_5 rfl fX12_162 rfl (by first | assumption | rfl) (by omega) ?_
  refine r_iload_n (i := 1) (pc' := 9) dX12_does_8 rfl rfl (.tail _ (.head _)) ?_
  refine r_iastore (pc' := 10) dX12_does_9 rfl (by first | assumption | rfl) (by omega) (by omega) (by omega) (by first | decide | omega) rfl ?_
  refine r_aload_n (i := 0) (pc' := 11) dX12_does_10 rfl rfl (.head _) ?_
  refine r_dup (pc' := 12) dX12_does_11 rfl rfl ?_
  refine r_getI (pc' := 15) dX12_does_12 rfl fX12_162 rfl (by first | assumption | rfl) (by omega) ?_
  rw [xv_up_ne _ _ (by omega)]
  refine r_iconst (pc' := 16) dX12_does_15 rfl ?_
  refine r_iadd (pc' := 17) dX12_does_16 rfl ?_
  refine r_putI (pc' := 20) dX12_does_17 rfl fX12_162 rfl (by first | assumption | rfl) (by omega) rfl rfl ?_
  refine r_return dX12_does_20 rfl ?_
  exact ⟨rfl, rfl, rfl, rfl, rfl⟩
set_option maxHeartbeats 4000000 in
set_option maxRecDepth 100000 in
theorem tX12_rankOf {l : Launch} {g : q_G} {n : Nat} {P : q_P} {X : q_X} {Y : q_Y} {c : Int} (hc : q_in c) : q_Met l g mX12_rankOf 0 [.int (zi c)] n P X Y (q_pv (.int (zi (if c = 42 then 2 else if c = 43 ∨ c = 45 then 1 else 0))) n P X Y) := by
  skip
  refine q_enter (L := [(0, .int (zi c))]) (by decide) (Nat.le_of_ble_eq_true rfl) rfl ?_
  refine r_iload_n (i := 0) (pc' := 1) dX12_rankOf_0 rfl rfl (.head _) ?_
  refine r_bipush (pc' := 3) dX12_rankOf_1 rfl (by decide) ?_
  refine r_icmp_ne (t := 10) (f := 6) dX12_rankOf_3 (by decide) rfl (by first | omega | exact xv_in _ _ _) (by first | omega | exact xv_in _ _ _) (fun h3 => ?_) (fun h3 => ?_)
  · refine r_iload_n (i := 0) (pc' := 11) dX12_rankOf_10 rfl rfl (.head _) ?_
    refine r_bipush (pc' := 13) dX12_rankOf_11 rfl (by decide) ?_
    refine r_icmp_eq (t := 22) (f := 16) dX12_rankOf_13 (by decide) rfl (by first | omega | exact xv_in _ _ _) (by first | omega | exact xv_in _ _ _) (fun h13 => ?_) (fun h13 => ?_)
    · refine r_iconst (pc' := 23) dX12_rankOf_22 rfl ?_
      refine r_goto (t := 27) dX12_rankOf_23 (by decide) ?_
      refine r_ireturn dX12_rankOf_27 rfl ?_
      refine ⟨?_, rfl, rfl, rfl, rfl⟩
      (repeat' split) <;> first | rfl | (exfalso; omega)
    · refine r_iload_n (i := 0) (pc' := 17) dX12_rankOf_16 rfl rfl (.head _) ?_
      refine r_bipush (pc' := 19) dX12_rankOf_17 rfl (by decide) ?_
      refine r_icmp_ne (t := 26) (f := 22) dX12_rankOf_19 (by decide) rfl (by first | omega | exact xv_in _ _ _) (by first | omega | exact xv_in _ _ _) (fun h19 => ?_) (fun h19 => ?_)
      · refine r_iconst (pc' := 27) dX12_rankOf_26 rfl ?_
        refine r_ireturn dX12_rankOf_27 rfl ?_
        refine ⟨?_, rfl, rfl, rfl, rfl⟩
        (repeat' split) <;> first | rfl | (exfalso; omega)
      · refine r_iconst (pc' := 23) dX12_rankOf_22 rfl ?_
        refine r_goto (t := 27) dX12_rankOf_23 (by decide) ?_
        refine r_ireturn dX12_rankOf_27 rfl ?_
        refine ⟨?_, rfl, rfl, rfl, rfl⟩
        (repeat' split) <;> first | rfl | (exfalso; omega)
  · refine r_iconst (pc' := 7) dX12_rankOf_6 rfl ?_
    refine r_goto (t := 27) dX12_rankOf_7 (by decide) ?_
    refine r_ireturn dX12_rankOf_27 rfl ?_
    refine ⟨?_, rfl, rfl, rfl, rfl⟩
    (repeat' split) <;> first | rfl | (exfalso; omega)
