theorem c_piece_nil (ov i : Int) : c_piece 0 ov i = 0 := by unfold c_piece; (repeat' split) <;> simp
theorem c_spN_0 (X : q_X) (c row : Nat) (ov : Int) : ∀ k, c_spN X c row 0 ov k = X
  | 0 => rfl
  | k + 1 => by rw [c_spN, c_spN_0 X c row ov k, c_piece_nil, Int.add_zero, q_up_id]
theorem c_spread_0 (X : q_X) (c : Nat) (y : Int) : c_spread X c y 0 = X := by
  unfold c_spread
  split
  · rw [Int.add_zero, q_up_id, c_spN_0]
  · rfl
theorem bOk_ext {X : q_X} {b : Nat} {k m ba bo : Int} (hO : bOk X b) (hv : bLv X b) (h : bk_lref X b k m ba bo = 0) : bOk (bk_ext X (con b k.toNat) m.toNat ba) b := by
  obtain ⟨h0, m1, m2, a1, a2, z1, z2, l1, l2, l3⟩ := bk_lref_ref h
  have h2 : bk_lref X b k m ba 0 = 0 := by
    unfold bk_lref
    rw [if_neg (fun q => q h0), if_neg (by omega), if_neg (by omega), if_neg (by omega)]
  have q := bOk_long hO hv h2
  rw [bk_long, c_spread_0] at q
  exact q
set_option maxHeartbeats 4000000 in
set_option maxRecDepth 100000 in
theorem tE_endOf {l : Launch} {g : q_G} {n : Nat} {P : q_P} {X : q_X} {Y : q_Y} (hm : isMod n P) {k : Nat} (hk : k < 40) : q_Met l g mX12_endOf 2 [.ref (g.1 + 467), .int (zi (k : Int))] n P X Y (q_pv (.int (zi (xv X 468 (130 + 86 * k) + xv X 468 (130 + 86 * k + 1)))) n P X Y) := by
  obtain ⟨m0, m2, m3, m8, m9, m14, m15, m16, m17, m18, m20, m22, m25, hnm9⟩ := id hm
  refine q_enter (L := [(0, .ref (g.1 + 467)), (1, .int (zi (k : Int)))]) (by decide) (Nat.le_of_ble_eq_true rfl) rfl ?_
  refine r_aload_n (i := 0) (pc' := 1) dX12_endOf_0 rfl rfl (.head _) ?_
  refine r_iload_n (i := 1) (pc' := 2) dX12_endOf_1 rfl rfl (.tail _ (.head _)) ?_
  refine r_iconst (pc' := 3) dX12_endOf_2 rfl ?_
  refine r_V2p (ci := 12) (pc' := 6) dX12_endOf_3 rfl lX12_115 rfl (by decide) (Nat.le_of_ble_eq_true rfl) (by first | assumption | rfl) (by omega) (tX12_of hm (k := (k : Int)) (w := 0) (by omega) (by omega)) ?_
  rw [show (130 + 86 * (k : Int) + 0).toNat = 130 + 86 * k by omega]
  refine r_aload_n (i := 0) (pc' := 7) dX12_endOf_6 rfl rfl (.head _) ?_
  refine r_iload_n (i := 1) (pc' := 8) dX12_endOf_7 rfl rfl (.tail _ (.head _)) ?_
  refine r_iconst (pc' := 9) dX12_endOf_8 rfl ?_
  refine r_V2p (ci := 12) (pc' := 12) dX12_endOf_9 rfl lX12_115 rfl (by decide) (Nat.le_of_ble_eq_true rfl) (by first | assumption | rfl) (by omega) (tX12_of hm (k := (k : Int)) (w := 1) (by omega) (by omega)) ?_
  rw [show (130 + 86 * (k : Int) + 1).toNat = 130 + 86 * k + 1 by omega]
  refine r_iadd (pc' := 13) dX12_endOf_12 rfl ?_
  refine r_ireturn dX12_endOf_13 rfl ?_
  exact ⟨rfl, rfl, rfl, rfl, rfl⟩
set_option maxHeartbeats 4000000 in
set_option maxRecDepth 100000 in
theorem lX12_longer {l : Launch} {g : q_G} {n : Nat} {P : q_P} {X : q_X} {Y : q_Y} (hm : isMod n P) {k m : Nat} {v x f f1 : Int} (hk : k < 40) (hv : q_in v) (h0 : xv X 468 (130 + 86 * k) = f) (h1 : xv X 468 (130 + 86 * k + 1) = f1) (hf : 0 ≤ f ∧ 0 ≤ f1 ∧ f + f1 + m ≤ 20) {K : q_K} (kk : q_Tr l g mX12_longer 5 K 59 [(0, .ref (g.1 + 467)), (1, .int (zi (k : Int))), (2, .int (zi (m : Int))), (3, .int (zi v)), (4, .int (zi x))] [] n P (lgN X (130 + 86 * k + (6 + (f + f1).toNat)) v m) Y) : ∀ (w i : Nat), i + w = m → q_Tr l g mX12_longer 5 K 26 [(0, .ref (g.1 + 467)), (1, .int (zi (k : Int))), (2, .int (zi (m : Int))), (3, .int (zi v)), (4, .int (zi x)), (5, .int (zi (i : Int)))] [] n P (lgN X (130 + 86 * k + (6 + (f + f1).toNat)) v i) Y := by
  obtain ⟨m0, m2, m3, m8, m9, m14, m15, m16, m17, m18, m20, m22, m25, hnm9⟩ := id hm
  intro w
  induction w with
  | zero =>
    intro i hi
    obtain rfl : i = m := by omega
    refine r_iload (pc' := 28) dX12_longer_26 rfl (.tail _ (.tail _ (.tail _ (.tail _ (.tail _ (.head _)))))) ?_
    refine r_iload_n (i := 2) (pc' := 29) dX12_longer_28 rfl rfl (.tail _ (.tail _ (.head _))) ?_
    refine r_icmp_ge (t := 59) (f := 32) dX12_longer_29 (by decide) rfl (by first | omega | exact xv_in _ _ _) (by first | omega | exact xv_in _ _ _) (fun h29 => ?_) (fun h29 => ?_)
    · refine r_sub (.kp (.kp (.kp (.kp (.kp (.dr .nil)))))) ?_
      exact kk
    · exfalso; omega
  | succ w ih =>
    intro i hi
    have g0 : xv (lgN X (130 + 86 * k + (6 + (f + f1).toNat)) v i) 468 (130 + 86 * k) = f := by rw [lgN_at hv, if_neg (by omega), h0]
    have g1 : xv (lgN X (130 + 86 * k + (6 + (f + f1).toNat)) v i) 468 (130 + 86 * k + 1) = f1 := by rw [lgN_at hv, if_neg (by omega), h1]
    refine r_iload (pc' := 28) dX12_longer_26 rfl (.tail _ (.tail _ (.tail _ (.tail _ (.tail _ (.head _)))))) ?_
    refine r_iload_n (i := 2) (pc' := 29) dX12_longer_28 rfl rfl (.tail _ (.tail _ (.head _))) ?_
    refine r_icmp_ge (t := 59) (f := 32) dX12_longer_29 (by decide) rfl (by first | omega | exact xv_in _ _ _) (by first | omega | exact xv_in _ _ _) (fun h29 => ?_) (fun h29 => ?_)
    · exfalso; omega
    · refine r_aload_n (i := 0) (pc' := 33) dX12_longer_32 rfl rfl (.head _) ?_
      refine r_getR (pc' := 36) dX12_longer_33 rfl fX12_3 rfl (by first | assumption | rfl) (by omega) (by assumption) ?_
      refine r_iload_n (i := 1) (pc' := 37) dX12_longer_36 rfl rfl (.tail _ (.head _)) ?_
      refine r_bipush (pc' := 39) dX12_longer_37 rfl (by decide) ?_
      refine r_aload_n (i := 0) (pc' := 40) dX12_longer_39 rfl rfl (.head _) ?_
      refine r_iload_n (i := 1) (pc' := 41) dX12_longer_40 rfl rfl (.tail _ (.head _)) ?_
      refine r_V1p (ci := 12) (pc' := 44) dX12_longer_41 rfl lX12_132 rfl (by decide) (Nat.le_of_ble_eq_true rfl) (by first | assumption | rfl) (by omega) (tE_endOf hm hk) ?_
      rw [g0, g1]
      refine r_iadd (pc' := 45) dX12_longer_44 rfl ?_
      refine r_iload (pc' := 47) dX12_longer_45 rfl (.tail _ (.tail _ (.tail _ (.tail _ (.tail _ (.head _)))))) ?_
      refine r_iadd (pc' := 48) dX12_longer_47 rfl ?_
      refine r_S2p (pc' := 51) dX12_longer_48 rfl lX12_111 (by decide) (Nat.le_of_ble_eq_true rfl) (tX12_placeOf ) ?_
      refine r_iload_n (i := 3) (pc' := 52) dX12_longer_51 rfl rfl (.tail _ (.tail _ (.tail _ (.head _)))) ?_
      refine r_iastore (pc' := 53) dX12_longer_52 rfl (by first | assumption | rfl) (by omega) (by omega) (by omega) (by first | decide | omega) (show _ = (130 + 86 * k + (6 + (f + f1).toNat)) + i by omega) ?_
      refine r_iinc (pc' := 56) dX12_longer_53 rfl rfl (.tail _ (.tail _ (.tail _ (.tail _ (.tail _ (.head _)))))) (.s1 (.s1 (.s1 (.s1 (.s1 (.here .nil) rfl rfl rfl) rfl rfl rfl) rfl rfl rfl) rfl rfl rfl) rfl rfl rfl) ?_
      refine r_goto (t := 26) dX12_longer_56 (by decide) ?_
      exact ih (i + 1) (by omega)
