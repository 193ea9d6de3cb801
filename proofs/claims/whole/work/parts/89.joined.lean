set_option maxHeartbeats 4000000 in
set_option maxRecDepth 100000 in
theorem tX12_joined {l : Launch} {g : q_G} {n : Nat} {P : q_P} {X : q_X} {Y : q_Y} {c : Int} (hc : q_in c) {u v : Int64} : q_Met l g mX12_joined 0 [.int (zi c), .long u, .long v] n P X Y (q_pv (.long (if c = 43 then u + v else if c = 45 then u - v else u * v)) n P X Y) := by
  skip
  refine q_enter (L := [(0, .int (zi c)), (1, .long u), (3, .long v)]) (by decide) (Nat.le_of_ble_eq_true rfl) rfl ?_
  refine r_iload_n (i := 0) (pc' := 1) dX12_joined_0 rfl rfl (.head _) ?_
  refine r_bipush (pc' := 3) dX12_joined_1 rfl (by decide) ?_
  refine r_icmp_ne (t := 12) (f := 6) dX12_joined_3 (by decide) rfl (by first | omega | exact xv_in _ _ _) (by first | omega | exact xv_in _ _ _) (fun h3 => ?_) (fun h3 => ?_)
  · refine r_iload_n (i := 0) (pc' := 13) dX12_joined_12 rfl rfl (.head _) ?_
    refine r_bipush (pc' := 15) dX12_joined_13 rfl (by decide) ?_
    refine r_icmp_ne (t := 24) (f := 18) dX12_joined_15 (by decide) rfl (by first | omega | exact xv_in _ _ _) (by first | omega | exact xv_in _ _ _) (fun h15 => ?_) (fun h15 => ?_)
    · refine r_lload_n (i := 1) (pc' := 25) dX12_joined_24 rfl rfl (.tail _ (.head _)) ?_
      refine r_lload_n (i := 3) (pc' := 26) dX12_joined_25 rfl rfl (.tail _ (.tail _ (.head _))) ?_
      refine r_lmul (pc' := 27) dX12_joined_26 rfl ?_
      refine r_lreturn dX12_joined_27 rfl ?_
      refine ⟨?_, rfl, rfl, rfl, rfl⟩
      (repeat' split) <;> first | rfl | (exfalso; omega)
    · refine r_lload_n (i := 1) (pc' := 19) dX12_joined_18 rfl rfl (.tail _ (.head _)) ?_
      refine r_lload_n (i := 3) (pc' := 20) dX12_joined_19 rfl rfl (.tail _ (.tail _ (.head _))) ?_
      refine r_lsub (pc' := 21) dX12_joined_20 rfl ?_
      refine r_goto (t := 27) dX12_joined_21 (by decide) ?_
      refine r_lreturn dX12_joined_27 rfl ?_
      refine ⟨?_, rfl, rfl, rfl, rfl⟩
      (repeat' split) <;> first | rfl | (exfalso; omega)
  · refine r_lload_n (i := 1) (pc' := 7) dX12_joined_6 rfl rfl (.tail _ (.head _)) ?_
    refine r_lload_n (i := 3) (pc' := 8) dX12_joined_7 rfl rfl (.tail _ (.tail _ (.head _))) ?_
    refine r_ladd (pc' := 9) dX12_joined_8 rfl ?_
    refine r_goto (t := 27) dX12_joined_9 (by decide) ?_
    refine r_lreturn dX12_joined_27 rfl ?_
    refine ⟨?_, rfl, rfl, rfl, rfl⟩
    (repeat' split) <;> first | rfl | (exfalso; omega)
