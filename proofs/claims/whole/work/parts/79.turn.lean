theorem c_spN_id {X : q_X} {c row m : Nat} {x ov : Int} (hm : min 5 ov ≤ (m : Int)) : ∀ d, c_spN X c row x ov (m + d) = c_spN X c row x ov m
  | 0 => rfl
  | d + 1 => by
    rw [show m + (d + 1) = (m + d) + 1 by omega, c_spN, c_piece_eq (by omega), if_pos (by omega), Int.add_zero, q_up_id, c_spN_id hm d]
theorem c_spN_r {X : q_X} {c row : Nat} {x ov : Int} {i : Nat} (h : i ≠ c + 3) (k : Nat) : xv (c_spN X c row x ov k) i = xv X i := by funext j; exact c_spN_f X c row x ov i j h k
set_option maxHeartbeats 4000000 in
set_option maxRecDepth 100000 in
theorem lX12_spreads {l : Launch} {g : q_G} {n : Nat} {P : q_P} {Y : q_Y} (hm : isMod n P) {C D : q_X} {b k y : Nat} {x : Int} (hc : cOk C (con b k)) (hk : (k : Int) < xv C b 10) (hk0 : k < 40) (hT : xv C (b + 15) 0 ≤ 80) (hx : q_in x) (hf0 : xv C (con b k) 0 ≤ y) (hfl : (y : Int) ≤ c_last C (con b k)) (hDb : xv D b = xv C b) (hDc : xv D (con b k) = xv C (con b k)) (hDt : xv D (b + 15) = xv C (b + 15)) {X0 : q_X} : ∀ (w i : Nat) (X : q_X), i + w = (min 5 (c_last C (con b k) - (y : Int) + 1)).toNat → rOut X0 X → RB (c_spN D (con b k) ((y : Int) - xv C (con b k) 0).toNat x (c_last C (con b k) - (y : Int) + 1) i) b (xv X 468) → q_Tr l g mX12_spreads 4 (q_gv (fun n' P' X' Y' => n' = n ∧ P' = P ∧ Y' = Y ∧ rOut X0 X' ∧ RB (c_spN D (con b k) ((y : Int) - xv C (con b k) 0).toNat x (c_last C (con b k) - (y : Int) + 1) (min 5 (c_last C (con b k) - (y : Int) + 1)).toNat) b (xv X' 468))) 28 [(0, .ref (g.1 + 467)), (1, .int (zi (k : Int))), (2, .int (zi x)), (3, .int (zi (y : Int))), (4, .int (zi (min 5 (c_last C (con b k) - (y : Int) + 1)))), (5, .int (zi (i : Int)))] [] n P X Y := by
  obtain ⟨m0, m2, m3, m8, m9, m14, m15, m16, m17, m18, m20, m22, m25, hnm9⟩ := id hm
  obtain ⟨hf, hf2, hf3, hf4, hfj, hfs, hfg⟩ := id hc
  have hlst : c_last C (con b k) = xv C (con b k) 0 + xv C (con b k) 1 + xv C (con b k) 2 - 1 := rfl
  intro w
  induction w with
  | zero =>
    intro i X hi ho hR
    refine r_iload (pc' := 30) dX12_spreads_28 rfl (.tail _ (.tail _ (.tail _ (.tail _ (.tail _ (.head _)))))) ?_
    refine r_iload (pc' := 32) dX12_spreads_30 rfl (.tail _ (.tail _ (.tail _ (.tail _ (.head _))))) ?_
    refine r_icmp_ge (t := 68) (f := 35) dX12_spreads_32 (by decide) rfl (by first | omega | exact xv_in _ _ _) (by first | omega | exact xv_in _ _ _) (fun h32 => ?_) (fun h32 => ?_)
    · refine r_return dX12_spreads_68 rfl ?_
      refine ⟨rfl, rfl, rfl, rfl, ho, ?_⟩
      rw [show i = (min 5 (c_last C (con b k) - (y : Int) + 1)).toNat by omega] at hR
      exact hR
    · exfalso; omega
  | succ w ih =>
    intro i X hi ho hR
    have hcc : xv (c_spN D (con b k) ((y : Int) - xv C (con b k) 0).toNat x (c_last C (con b k) - (y : Int) + 1) i) (con b k) = xv C (con b k) := (c_spN_r (by omega) i).trans hDc
    have hbb : xv (c_spN D (con b k) ((y : Int) - xv C (con b k) 0).toNat x (c_last C (con b k) - (y : Int) + 1) i) b = xv C b := (c_spN_r (by unfold con; omega) i).trans hDb
    have hTT : xv (c_spN D (con b k) ((y : Int) - xv C (con b k) 0).toNat x (c_last C (con b k) - (y : Int) + 1) i) (b + 15) 0 ≤ 80 := by rw [c_spN_r (by unfold con; omega) i, hDt]; exact hT
    have hpv := (hR.y (by rw [hbb]; exact hk) (y := y + i) (by omega)).2.2.1
    have hro : ((y + i : Nat) : Int) - xv C (con b k) 0 = ((((y : Int) - xv C (con b k) 0).toNat + i : Nat) : Int) := by omega
    rw [c_parts, hcc, if_pos (by omega), hro, Int.toNat_natCast] at hpv
    have hnx : ∀ v : Int32, RB (q_up (c_spN D (con b k) ((y : Int) - xv C (con b k) 0).toNat x (c_last C (con b k) - (y : Int) + 1) i) (con b k + 3) (((y : Int) - xv C (con b k) 0).toNat + i) v) b (xv (q_up X 468 (130 + 86 * k + (46 + (y + i))) v) 468) := fun v => by
      have q := hR.upp (k := k) (y := y + i) hTT hk0 (by rw [hcc]; omega) (by omega) v
      rw [hcc, hro, Int.toNat_natCast] at q
      exact q
    refine r_iload (pc' := 30) dX12_spreads_28 rfl (.tail _ (.tail _ (.tail _ (.tail _ (.tail _ (.head _)))))) ?_
    refine r_iload (pc' := 32) dX12_spreads_30 rfl (.tail _ (.tail _ (.tail _ (.tail _ (.head _))))) ?_
    refine r_icmp_ge (t := 68) (f := 35) dX12_spreads_32 (by decide) rfl (by first | omega | exact xv_in _ _ _) (by first | omega | exact xv_in _ _ _) (fun h32 => ?_) (fun h32 => ?_)
    · exfalso; omega
    · refine r_aload_n (i := 0) (pc' := 36) dX12_spreads_35 rfl rfl (.head _) ?_
      refine r_getR (pc' := 39) dX12_spreads_36 rfl fX12_3 rfl (by first | assumption | rfl) (by omega) (by assumption) ?_
      refine r_iload_n (i := 1) (pc' := 40) dX12_spreads_39 rfl rfl (.tail _ (.head _)) ?_
      refine r_bipush (pc' := 42) dX12_spreads_40 rfl (by decide) ?_
      refine r_iload_n (i := 3) (pc' := 43) dX12_spreads_42 rfl rfl (.tail _ (.tail _ (.tail _ (.head _)))) ?_
      refine r_iadd (pc' := 44) dX12_spreads_43 rfl ?_
      refine r_iload (pc' := 46) dX12_spreads_44 rfl (.tail _ (.tail _ (.tail _ (.tail _ (.tail _ (.head _)))))) ?_
      refine r_iadd (pc' := 47) dX12_spreads_46 rfl ?_
      refine r_S2p (pc' := 50) dX12_spreads_47 rfl lX12_111 (by decide) (Nat.le_of_ble_eq_true rfl) (tX12_placeOf ) ?_
      refine r_dup2 (pc' := 51) dX12_spreads_50 rfl rfl rfl ?_
      refine r_iaload (pc' := 52) dX12_spreads_51 rfl (by first | assumption | rfl) (by omega) (by omega) (by omega) (by first | decide | omega) (show _ = 130 + 86 * k + (46 + (y + i)) by omega) ?_
      rw [hpv]
      refine r_iload_n (i := 2) (pc' := 53) dX12_spreads_52 rfl rfl (.tail _ (.tail _ (.head _))) ?_
      refine r_iload (pc' := 55) dX12_spreads_53 rfl (.tail _ (.tail _ (.tail _ (.tail _ (.head _))))) ?_
      refine r_iload (pc' := 57) dX12_spreads_55 rfl (.tail _ (.tail _ (.tail _ (.tail _ (.tail _ (.head _)))))) ?_
      refine r_S3p (pc' := 60) dX12_spreads_57 rfl lX12_128 (by decide) (Nat.le_of_ble_eq_true rfl) (tX12_pieceOf (ov := (c_last C (con b k) - (y : Int) + 1)) hx (by omega) (by omega)) ?_
      refine r_iadd (pc' := 61) dX12_spreads_60 rfl ?_
      refine r_iastore (pc' := 62) dX12_spreads_61 rfl (by first | assumption | rfl) (by omega) (by omega) (by omega) (by first | decide | omega) (show _ = 130 + 86 * k + (46 + (y + i)) by omega) ?_
      refine r_iinc (pc' := 65) dX12_spreads_62 rfl rfl (.tail _ (.tail _ (.tail _ (.tail _ (.tail _ (.head _)))))) (.s1 (.s1 (.s1 (.s1 (.s1 (.here .nil) rfl rfl rfl) rfl rfl rfl) rfl rfl rfl) rfl rfl rfl) rfl rfl rfl) ?_
      refine r_goto (t := 28) dX12_spreads_65 (by decide) ?_
      exact ih (i + 1) _ (by omega) (ho.up (by omega)) (hnx _)
