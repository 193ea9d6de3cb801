set_option maxHeartbeats 4000000 in
set_option maxRecDepth 100000 in
theorem tX11_turn {l : Launch} {g : q_G} {n : Nat} {P : q_P} {X : q_X} {Y : q_Y} {b : Nat} (hF : isFace n P b) (hb : isBk n P b) (hO : bOk X b) {x : Nat} (hH : isHi n P X x) (hb1 : 1 ≤ b ∧ b + 220 ≤ 441) {k v : Int} (hi : q_in k) (hv : q_in v) : q_Met l g mX11_turn 4 [.ref (g.1 + 0), .int (zi k), .int (zi v)] n P X Y (q_gi (fun r' n' P' X' Y' => if bk_pref X b k v = 0 then DE x b n P (q_up X 0 11 (zi 0)) Y (fun Z => bk_turn Z b k v) (fun Z => c_hit (bk_turn Z b k v) (con b k.toNat) (xv Z b 0)) r' n' P' X' Y' else NO n P (q_up X 0 11 (zi (bk_pref X b k v))) Y r' n' P' X' Y')) := by
  obtain ⟨f0, f2, f3, f4, f5, f6, f7, f8, hn0⟩ := id hF
  obtain ⟨b0, b1, b2, b3, q7, q8, q9, q11, q12, q13, hn, hpro, hmar, hfor, hcs⟩ := id hb
  obtain ⟨o0, o1, o2, o3, o4, o5, o6, o10, oc, op0, opz, opi, om0, omi, olim⟩ := id hO
  obtain ⟨h442, hS, hx, hx1, hz0, hz8⟩ := id hH
  have hn9 := hS.n
  have hin := bk_pref_in X b k v
  refine q_enter (L := [(0, .ref (g.1 + 0)), (1, .int (zi k)), (2, .int (zi v))]) (by decide) (Nat.le_of_ble_eq_true rfl) rfl ?_
  refine r_aload_n (i := 0) (pc' := 1) dX11_turn_0 rfl rfl (.head _) ?_
  refine r_aload_n (i := 0) (pc' := 2) dX11_turn_1 rfl rfl (.head _) ?_
  refine r_getR (pc' := 5) dX11_turn_2 rfl fX11_10 rfl (by first | assumption | rfl) (by omega) (by assumption) ?_
  refine r_iload_n (i := 1) (pc' := 6) dX11_turn_5 rfl rfl (.tail _ (.head _)) ?_
  refine r_iload_n (i := 2) (pc' := 7) dX11_turn_6 rfl rfl (.tail _ (.tail _ (.head _))) ?_
  refine r_V2p (ci := 1) (pc' := 10) dX11_turn_7 rfl lX11_282 rfl (by decide) (Nat.le_of_ble_eq_true rfl) (by first | assumption | rfl) (by omega) (tX1_payRefusal (by assumption) (by assumption) (by omega) (by omega)) ?_
  refine r_putI (pc' := 13) dX11_turn_10 rfl fX11_74 rfl (by first | assumption | rfl) (by omega) rfl rfl ?_
  generalize hX0 : q_up X 0 11 (zi (bk_pref X b k v)) = X0
  have e0 : xv X0 0 11 = bk_pref X b k v := by rw [← hX0]; exact xv_up_same _ _ _ (by omega)
  have hbe0 : bEq X X0 b := by rw [← hX0]; exact bEq.rfl.up (by omega)
  have hO0 := bOk_ag hbe0.ag hO
  have hx10 : xv X0 442 1 = (x : Int) := by rw [← hX0, xv_up_ne _ _ (by omega)]; exact hx1
  have hz10 : 0 ≤ xv X0 442 2 ∧ xv X0 442 2 ≤ 8 := by rw [← hX0, xv_up_ne _ _ (by omega)]; omega
  refine r_aload_n (i := 0) (pc' := 14) dX11_turn_13 rfl rfl (.head _) ?_
  refine r_getR (pc' := 17) dX11_turn_14 rfl fX11_10 rfl (by first | assumption | rfl) (by omega) (by assumption) ?_
  refine r_iload_n (i := 1) (pc' := 18) dX11_turn_17 rfl rfl (.tail _ (.head _)) ?_
  by_cases hk : bk_has X b k
  · have hk0 : bk_has X0 b k := by rw [bk_has, hbe0.v0]; exact hk
    refine r_V1p (ci := 1) (pc' := 21) dX11_turn_18 rfl lX11_168 rfl (by decide) (Nat.le_of_ble_eq_true rfl) (by first | assumption | rfl) (by omega) (tX1_find hb hO0 hk0) ?_
    refine r_astore_n (i := 3) (pc' := 22) dX11_turn_21 rfl rfl rfl (.s1 (.s1 (.s1 .nil rfl rfl rfl) rfl rfl rfl) rfl rfl rfl) ?_
    refine r_aload_n (i := 0) (pc' := 23) dX11_turn_22 rfl rfl (.head _) ?_
    refine r_getI (pc' := 26) dX11_turn_23 rfl fX11_74 rfl (by first | assumption | rfl) (by omega) ?_
    rw [e0]
    refine r_if_ne (t := 33) (f := 29) dX11_turn_26 (by decide) rfl (by first | omega | exact xv_in _ _ _ | assumption) (fun h26 => ?_) (fun h26 => ?_)
    · refine r_iconst (pc' := 34) dX11_turn_33 rfl ?_
      refine r_ireturn dX11_turn_34 rfl ?_
      refine ⟨_, rfl, ?_⟩
      dsimp only
      rw [if_neg (by omega)]
      exact ⟨rfl, rfl, rfl, by first | rfl | exact hX0.symm, rfl⟩
    · refine r_aload_n (i := 3) (pc' := 30) dX11_turn_29 rfl rfl (.tail _ (.tail _ (.tail _ (.head _)))) ?_
      refine r_ifnonnull (t := 35) dX11_turn_30 (by decide) ?_
      refine r_aload_n (i := 0) (pc' := 36) dX11_turn_35 rfl rfl (.head _) ?_
      refine r_getR (pc' := 39) dX11_turn_36 rfl fX11_26 rfl (by first | assumption | rfl) (by omega) (by assumption) ?_
      refine r_aload_n (i := 0) (pc' := 40) dX11_turn_39 rfl rfl (.head _) ?_
      refine r_getR (pc' := 43) dX11_turn_40 rfl fX11_10 rfl (by first | assumption | rfl) (by omega) (by assumption) ?_
      refine r_V1gv (ci := 6) (pc' := 46) dX11_turn_43 rfl lX11_247 rfl (by decide) (Nat.le_of_ble_eq_true rfl) (by first | assumption | rfl) (by omega) (tX6_push (x := x) h442 hS hb hO0 (by omega) hx hx10 hz10) (fun n43 P43 X43 Y43 e43 le43 => ?_)
      have hF1 := e43.face hF
      have hb1' := e43.b hb (by omega)
      have hbe1 := e43.e (by omega) (b2 := b) (by omega)
      have hO1 := bOk_ag hbe1.ag hO0
      have hbe := hbe0.trans hbe1
      have hnn := e43.n
      obtain ⟨g0', g2', g3', g4', g5', g6', g7', g8', hn1⟩ := id hF1
      obtain ⟨-, -, -, -, q7', q8', q9', q11', q12', q13', hnb', hpro', hmar', hfor', hcs'⟩ := id hb1'
      have hpf : bk_pref X b k v = 0 := by omega
      obtain ⟨hr0, hv1, hv2, hv3⟩ := bk_pref_ref hpf
      have hc := hb1'.c (k := k.toNat) (by omega)
      obtain ⟨s0, s1, s2, s3, s4, p6, p7, p8, p9, hnc⟩ := id hc
      have hck := hO1.c (k := k.toNat) (by rw [hbe.v0]; omega)
      obtain ⟨hf, hf2, hf3, hf4, hfj, hfs, hfg⟩ := id hck
      have o0' := hO1.1
      refine r_aload_n (i := 3) (pc' := 47) dX11_turn_46 rfl rfl (.tail _ (.tail _ (.tail _ (.head _)))) ?_
      refine r_aload_n (i := 0) (pc' := 48) dX11_turn_47 rfl rfl (.head _) ?_
      refine r_getR (pc' := 51) dX11_turn_48 rfl fX11_10 rfl (by first | assumption | rfl) (by omega) (by assumption) ?_
      refine r_getI (pc' := 54) dX11_turn_51 rfl fX11_135 rfl (by first | assumption | rfl) (by omega) ?_
      refine r_iload_n (i := 2) (pc' := 55) dX11_turn_54 rfl rfl (.tail _ (.tail _ (.head _))) ?_
      refine r_V2gv (ci := 4) (pc' := 58) dX11_turn_55 rfl lX11_286 rfl (by decide) (Nat.le_of_ble_eq_true rfl) (by first | assumption | rfl) (by omega) (tX4_takeFromBase hc hf (by omega)) (fun n55 P55 X55 Y55 e55 le55 => ?_)
      obtain ⟨rfl, rfl, rfl, rfl⟩ := e55
      change q_Tr _ _ _ _ _ _ _ _ _ _ (bk_low X43 b k v) _
      have hlc : xv (bk_low X43 b k v) (con b k.toNat) = xv X43 (con b k.toNat) := bk_low_o (by omega)
      have hlb : xv (bk_low X43 b k v) b = xv X43 b := bk_low_o (by unfold con; omega)
      have hlast : c_last (bk_low X43 b k v) (con b k.toNat) = c_last X43 (con b k.toNat) := by simp only [c_last, hlc]
      have hlst : c_last X43 (con b k.toNat) = xv X43 (con b k.toNat) 0 + xv X43 (con b k.toNat) 1 + xv X43 (con b k.toNat) 2 - 1 := rfl
      refine r_aload_n (i := 3) (pc' := 59) dX11_turn_58 rfl rfl (.tail _ (.tail _ (.tail _ (.head _)))) ?_
      refine r_aload_n (i := 0) (pc' := 60) dX11_turn_59 rfl rfl (.head _) ?_
      refine r_getR (pc' := 63) dX11_turn_60 rfl fX11_10 rfl (by first | assumption | rfl) (by omega) (by assumption) ?_
      refine r_getI (pc' := 66) dX11_turn_63 rfl fX11_135 rfl (by first | assumption | rfl) (by omega) ?_
      rw [hlb]
      refine r_iload_n (i := 2) (pc' := 67) dX11_turn_66 rfl rfl (.tail _ (.tail _ (.head _))) ?_
      refine r_V2gv (ci := 4) (pc' := 70) dX11_turn_67 rfl lX11_290 rfl (by decide) (Nat.le_of_ble_eq_true rfl) (by first | assumption | rfl) (by omega) (tX4_spread hc (by rw [hlc]; exact hf) (by omega) (by omega) (by rw [hlast]; omega)) (fun n67 P67 X67 Y67 e67 le67 => ?_)
      obtain ⟨rfl, rfl, rfl, rfl⟩ := e67
      change q_Tr _ _ _ _ _ _ _ _ _ _ (bk_turn X43 b k v) _
      have htc : xv (bk_turn X43 b k v) (con b k.toNat) = xv X43 (con b k.toNat) := bk_turn_o (by omega)
      have htb : xv (bk_turn X43 b k v) b = xv X43 b := bk_turn_o (by unfold con; omega)
      refine r_aload_n (i := 3) (pc' := 71) dX11_turn_70 rfl rfl (.tail _ (.tail _ (.tail _ (.head _)))) ?_
      refine r_aload_n (i := 0) (pc' := 72) dX11_turn_71 rfl rfl (.head _) ?_
      refine r_getR (pc' := 75) dX11_turn_72 rfl fX11_10 rfl (by first | assumption | rfl) (by omega) (by assumption) ?_
      refine r_getI (pc' := 78) dX11_turn_75 rfl fX11_135 rfl (by first | assumption | rfl) (by omega) ?_
      rw [htb]
      refine r_V1p (ci := 4) (pc' := 81) dX11_turn_78 rfl lX11_196 rfl (by decide) (Nat.le_of_ble_eq_true rfl) (by first | assumption | rfl) (by omega) (tX4_hit hc (by rw [htc]; exact hf) (by omega)) ?_
      refine r_ireturn dX11_turn_81 rfl ?_
      refine ⟨_, rfl, ?_⟩
      dsimp only
      rw [if_pos (by omega)]
      have h00 : q_up X 0 11 (zi 0) = X0 := by rw [← hX0, hpf]
      rw [h00]
      exact ⟨X43, X43, e43, tOut.rfl, rfl, rfl⟩
  · have hk0 : ¬ bk_has X0 b k := by rw [bk_has, hbe0.v0]; exact hk
    have hn0 := bk_nohas hk
    have hnp : ¬ bk_pref X b k v = 0 := fun q => by have := (bk_pref_ref q).1; omega
    refine r_V1p (ci := 1) (pc' := 21) dX11_turn_18 rfl lX11_168 rfl (by decide) (Nat.le_of_ble_eq_true rfl) (by first | assumption | rfl) (by omega) (tX1_findN hb hO0 (by omega) hk0) ?_
    refine r_astoreN_n (i := 3) (pc' := 22) dX11_turn_21 rfl rfl rfl (.s1 (.s1 (.s1 .nil rfl rfl rfl) rfl rfl rfl) rfl rfl rfl) ?_
    refine r_aload_n (i := 0) (pc' := 23) dX11_turn_22 rfl rfl (.head _) ?_
    refine r_getI (pc' := 26) dX11_turn_23 rfl fX11_74 rfl (by first | assumption | rfl) (by omega) ?_
    rw [e0]
    refine r_if_ne (t := 33) (f := 29) dX11_turn_26 (by decide) rfl (by first | omega | exact xv_in _ _ _ | assumption) (fun h26 => ?_) (fun h26 => ?_)
    · refine r_iconst (pc' := 34) dX11_turn_33 rfl ?_
      refine r_ireturn dX11_turn_34 rfl ?_
      refine ⟨_, rfl, ?_⟩
      dsimp only
      rw [if_neg (by omega)]
      exact ⟨rfl, rfl, rfl, by first | rfl | exact hX0.symm, rfl⟩
    · exfalso; omega
set_option maxHeartbeats 4000000 in
set_option maxRecDepth 100000 in
theorem tX11_lower {l : Launch} {g : q_G} {n : Nat} {P : q_P} {X : q_X} {Y : q_Y} {b : Nat} (hF : isFace n P b) (hb : isBk n P b) (hO : bOk X b) {x : Nat} (hH : isHi n P X x) (hb1 : 1 ≤ b ∧ b + 220 ≤ 441) {k v : Int} (hi : q_in k) (hv : q_in v) : q_Met l g mX11_lower 4 [.ref (g.1 + 0), .int (zi k), .int (zi v)] n P X Y (q_gi (fun r' n' P' X' Y' => if bk_pref X b k v = 0 then DE x b n P (q_up X 0 11 (zi 0)) Y (fun Z => bk_low Z b k v) (fun Z => c_hit (bk_low Z b k v) (con b k.toNat) (xv Z b 0)) r' n' P' X' Y' else NO n P (q_up X 0 11 (zi (bk_pref X b k v))) Y r' n' P' X' Y')) := by
  obtain ⟨f0, f2, f3, f4, f5, f6, f7, f8, hn0⟩ := id hF
  obtain ⟨b0, b1, b2, b3, q7, q8, q9, q11, q12, q13, hn, hpro, hmar, hfor, hcs⟩ := id hb
  obtain ⟨o0, o1, o2, o3, o4, o5, o6, o10, oc, op0, opz, opi, om0, omi, olim⟩ := id hO
  obtain ⟨h442, hS, hx, hx1, hz0, hz8⟩ := id hH
  have hn9 := hS.n
  have hin := bk_pref_in X b k v
  refine q_enter (L := [(0, .ref (g.1 + 0)), (1, .int (zi k)), (2, .int (zi v))]) (by decide) (Nat.le_of_ble_eq_true rfl) rfl ?_
  refine r_aload_n (i := 0) (pc' := 1) dX11_lower_0 rfl rfl (.head _) ?_
  refine r_aload_n (i := 0) (pc' := 2) dX11_lower_1 rfl rfl (.head _) ?_
  refine r_getR (pc' := 5) dX11_lower_2 rfl fX11_10 rfl (by first | assumption | rfl) (by omega) (by assumption) ?_
  refine r_iload_n (i := 1) (pc' := 6) dX11_lower_5 rfl rfl (.tail _ (.head _)) ?_
  refine r_iload_n (i := 2) (pc' := 7) dX11_lower_6 rfl rfl (.tail _ (.tail _ (.head _))) ?_
  refine r_V2p (ci := 1) (pc' := 10) dX11_lower_7 rfl lX11_282 rfl (by decide) (Nat.le_of_ble_eq_true rfl) (by first | assumption | rfl) (by omega) (tX1_payRefusal (by assumption) (by assumption) (by omega) (by omega)) ?_
  refine r_putI (pc' := 13) dX11_lower_10 rfl fX11_74 rfl (by first | assumption | rfl) (by omega) rfl rfl ?_
  generalize hX0 : q_up X 0 11 (zi (bk_pref X b k v)) = X0
  have e0 : xv X0 0 11 = bk_pref X b k v := by rw [← hX0]; exact xv_up_same _ _ _ (by omega)
  have hbe0 : bEq X X0 b := by rw [← hX0]; exact bEq.rfl.up (by omega)
  have hO0 := bOk_ag hbe0.ag hO
  have hx10 : xv X0 442 1 = (x : Int) := by rw [← hX0, xv_up_ne _ _ (by omega)]; exact hx1
  have hz10 : 0 ≤ xv X0 442 2 ∧ xv X0 442 2 ≤ 8 := by rw [← hX0, xv_up_ne _ _ (by omega)]; omega
  refine r_aload_n (i := 0) (pc' := 14) dX11_lower_13 rfl rfl (.head _) ?_
  refine r_getR (pc' := 17) dX11_lower_14 rfl fX11_10 rfl (by first | assumption | rfl) (by omega) (by assumption) ?_
  refine r_iload_n (i := 1) (pc' := 18) dX11_lower_17 rfl rfl (.tail _ (.head _)) ?_
  by_cases hk : bk_has X b k
  · have hk0 : bk_has X0 b k := by rw [bk_has, hbe0.v0]; exact hk
    refine r_V1p (ci := 1) (pc' := 21) dX11_lower_18 rfl lX11_168 rfl (by decide) (Nat.le_of_ble_eq_true rfl) (by first | assumption | rfl) (by omega) (tX1_find hb hO0 hk0) ?_
    refine r_astore_n (i := 3) (pc' := 22) dX11_lower_21 rfl rfl rfl (.s1 (.s1 (.s1 .nil rfl rfl rfl) rfl rfl rfl) rfl rfl rfl) ?_
    refine r_aload_n (i := 0) (pc' := 23) dX11_lower_22 rfl rfl (.head _) ?_
    refine r_getI (pc' := 26) dX11_lower_23 rfl fX11_74 rfl (by first | assumption | rfl) (by omega) ?_
    rw [e0]
    refine r_if_ne (t := 33) (f := 29) dX11_lower_26 (by decide) rfl (by first | omega | exact xv_in _ _ _ | assumption) (fun h26 => ?_) (fun h26 => ?_)
    · refine r_iconst (pc' := 34) dX11_lower_33 rfl ?_
      refine r_ireturn dX11_lower_34 rfl ?_
      refine ⟨_, rfl, ?_⟩
      dsimp only
      rw [if_neg (by omega)]
      exact ⟨rfl, rfl, rfl, by first | rfl | exact hX0.symm, rfl⟩
    · refine r_aload_n (i := 3) (pc' := 30) dX11_lower_29 rfl rfl (.tail _ (.tail _ (.tail _ (.head _)))) ?_
      refine r_ifnonnull (t := 35) dX11_lower_30 (by decide) ?_
      refine r_aload_n (i := 0) (pc' := 36) dX11_lower_35 rfl rfl (.head _) ?_
      refine r_getR (pc' := 39) dX11_lower_36 rfl fX11_26 rfl (by first | assumption | rfl) (by omega) (by assumption) ?_
      refine r_aload_n (i := 0) (pc' := 40) dX11_lower_39 rfl rfl (.head _) ?_
      refine r_getR (pc' := 43) dX11_lower_40 rfl fX11_10 rfl (by first | assumption | rfl) (by omega) (by assumption) ?_
      refine r_V1gv (ci := 6) (pc' := 46) dX11_lower_43 rfl lX11_247 rfl (by decide) (Nat.le_of_ble_eq_true rfl) (by first | assumption | rfl) (by omega) (tX6_push (x := x) h442 hS hb hO0 (by omega) hx hx10 hz10) (fun n43 P43 X43 Y43 e43 le43 => ?_)
      have hF1 := e43.face hF
      have hb1' := e43.b hb (by omega)
      have hbe1 := e43.e (by omega) (b2 := b) (by omega)
      have hO1 := bOk_ag hbe1.ag hO0
      have hbe := hbe0.trans hbe1
      have hnn := e43.n
      obtain ⟨g0', g2', g3', g4', g5', g6', g7', g8', hn1⟩ := id hF1
      obtain ⟨-, -, -, -, q7', q8', q9', q11', q12', q13', hnb', hpro', hmar', hfor', hcs'⟩ := id hb1'
      have hpf : bk_pref X b k v = 0 := by omega
      obtain ⟨hr0, hv1, hv2, hv3⟩ := bk_pref_ref hpf
      have hc := hb1'.c (k := k.toNat) (by omega)
      obtain ⟨s0, s1, s2, s3, s4, p6, p7, p8, p9, hnc⟩ := id hc
      have hck := hO1.c (k := k.toNat) (by rw [hbe.v0]; omega)
      obtain ⟨hf, hf2, hf3, hf4, hfj, hfs, hfg⟩ := id hck
      have o0' := hO1.1
      refine r_aload_n (i := 3) (pc' := 47) dX11_lower_46 rfl rfl (.tail _ (.tail _ (.tail _ (.head _)))) ?_
      refine r_aload_n (i := 0) (pc' := 48) dX11_lower_47 rfl rfl (.head _) ?_
      refine r_getR (pc' := 51) dX11_lower_48 rfl fX11_10 rfl (by first | assumption | rfl) (by omega) (by assumption) ?_
      refine r_getI (pc' := 54) dX11_lower_51 rfl fX11_135 rfl (by first | assumption | rfl) (by omega) ?_
      refine r_iload_n (i := 2) (pc' := 55) dX11_lower_54 rfl rfl (.tail _ (.tail _ (.head _))) ?_
      refine r_V2gv (ci := 4) (pc' := 58) dX11_lower_55 rfl lX11_286 rfl (by decide) (Nat.le_of_ble_eq_true rfl) (by first | assumption | rfl) (by omega) (tX4_takeFromBase hc hf (by omega)) (fun n55 P55 X55 Y55 e55 le55 => ?_)
      obtain ⟨rfl, rfl, rfl, rfl⟩ := e55
      change q_Tr _ _ _ _ _ _ _ _ _ _ (bk_low X43 b k v) _
      have hlc : xv (bk_low X43 b k v) (con b k.toNat) = xv X43 (con b k.toNat) := bk_low_o (by omega)
      have hlb : xv (bk_low X43 b k v) b = xv X43 b := bk_low_o (by unfold con; omega)
      have hlast : c_last (bk_low X43 b k v) (con b k.toNat) = c_last X43 (con b k.toNat) := by simp only [c_last, hlc]
      have hlst : c_last X43 (con b k.toNat) = xv X43 (con b k.toNat) 0 + xv X43 (con b k.toNat) 1 + xv X43 (con b k.toNat) 2 - 1 := rfl
      refine r_aload_n (i := 3) (pc' := 59) dX11_lower_58 rfl rfl (.tail _ (.tail _ (.tail _ (.head _)))) ?_
      refine r_aload_n (i := 0) (pc' := 60) dX11_lower_59 rfl rfl (.head _) ?_
      refine r_getR (pc' := 63) dX11_lower_60 rfl fX11_10 rfl (by first | assumption | rfl) (by omega) (by assumption) ?_
      refine r_getI (pc' := 66) dX11_lower_63 rfl fX11_135 rfl (by first | assumption | rfl) (by omega) ?_
      rw [hlb]
      refine r_V1p (ci := 4) (pc' := 69) dX11_lower_66 rfl lX11_196 rfl (by decide) (Nat.le_of_ble_eq_true rfl) (by first | assumption | rfl) (by omega) (tX4_hit hc (by rw [hlc]; exact hf) (by omega)) ?_
      refine r_ireturn dX11_lower_69 rfl ?_
      refine ⟨_, rfl, ?_⟩
      dsimp only
      rw [if_pos (by omega)]
      have h00 : q_up X 0 11 (zi 0) = X0 := by rw [← hX0, hpf]
      rw [h00]
      exact ⟨X43, X43, e43, tOut.rfl, rfl, rfl⟩
  · have hk0 : ¬ bk_has X0 b k := by rw [bk_has, hbe0.v0]; exact hk
    have hn0 := bk_nohas hk
    have hnp : ¬ bk_pref X b k v = 0 := fun q => by have := (bk_pref_ref q).1; omega
    refine r_V1p (ci := 1) (pc' := 21) dX11_lower_18 rfl lX11_168 rfl (by decide) (Nat.le_of_ble_eq_true rfl) (by first | assumption | rfl) (by omega) (tX1_findN hb hO0 (by omega) hk0) ?_
    refine r_astoreN_n (i := 3) (pc' := 22) dX11_lower_21 rfl rfl rfl (.s1 (.s1 (.s1 .nil rfl rfl rfl) rfl rfl rfl) rfl rfl rfl) ?_
    refine r_aload_n (i := 0) (pc' := 23) dX11_lower_22 rfl rfl (.head _) ?_
    refine r_getI (pc' := 26) dX11_lower_23 rfl fX11_74 rfl (by first | assumption | rfl) (by omega) ?_
    rw [e0]
    refine r_if_ne (t := 33) (f := 29) dX11_lower_26 (by decide) rfl (by first | omega | exact xv_in _ _ _ | assumption) (fun h26 => ?_) (fun h26 => ?_)
    · refine r_iconst (pc' := 34) dX11_lower_33 rfl ?_
      refine r_ireturn dX11_lower_34 rfl ?_
      refine ⟨_, rfl, ?_⟩
      dsimp only
      rw [if_neg (by omega)]
      exact ⟨rfl, rfl, rfl, by first | rfl | exact hX0.symm, rfl⟩
    · exfalso; omega
set_option maxHeartbeats 4000000 in
set_option maxRecDepth 100000 in
theorem tX11_longer {l : Launch} {g : q_G} {n : Nat} {P : q_P} {X : q_X} {Y : q_Y} {b : Nat} (hF : isFace n P b) (hb : isBk n P b) (hO : bOk X b) {x : Nat} (hH : isHi n P X x) (hb1 : 1 ≤ b ∧ b + 220 ≤ 441) {k m ba bo : Int} (hi : q_in k) (hm : q_in m) (hba : q_in ba) (hbo : q_in bo) : q_Met l g mX11_longer 4 [.ref (g.1 + 0), .int (zi k), .int (zi m), .int (zi ba), .int (zi bo)] n P X Y (q_gi (fun r' n' P' X' Y' => if bk_lref X b k m ba bo = 0 then DE x b n P (q_up X 0 11 (zi 0)) Y (fun Z => bk_long Z b k m ba bo) (fun Z => c_last (bk_long Z b k m ba bo) (con b k.toNat)) r' n' P' X' Y' else NO n P (q_up X 0 11 (zi (bk_lref X b k m ba bo))) Y r' n' P' X' Y')) := by
  obtain ⟨f0, f2, f3, f4, f5, f6, f7, f8, hn0⟩ := id hF
  obtain ⟨b0, b1, b2, b3, q7, q8, q9, q11, q12, q13, hn, hpro, hmar, hfor, hcs⟩ := id hb
  obtain ⟨o0, o1, o2, o3, o4, o5, o6, o10, oc, op0, opz, opi, om0, omi, olim⟩ := id hO
  obtain ⟨h442, hS, hx, hx1, hz0, hz8⟩ := id hH
  have hn9 := hS.n
  have hin := bk_lref_in X b k m ba bo
  refine q_enter (L := [(0, .ref (g.1 + 0)), (1, .int (zi k)), (2, .int (zi m)), (3, .int (zi ba)), (4, .int (zi bo))]) (by decide) (Nat.le_of_ble_eq_true rfl) rfl ?_
  refine r_aload_n (i := 0) (pc' := 1) dX11_longer_0 rfl rfl (.head _) ?_
  refine r_aload_n (i := 0) (pc' := 2) dX11_longer_1 rfl rfl (.head _) ?_
  refine r_getR (pc' := 5) dX11_longer_2 rfl fX11_10 rfl (by first | assumption | rfl) (by omega) (by assumption) ?_
  refine r_iload_n (i := 1) (pc' := 6) dX11_longer_5 rfl rfl (.tail _ (.head _)) ?_
  refine r_iload_n (i := 2) (pc' := 7) dX11_longer_6 rfl rfl (.tail _ (.tail _ (.head _))) ?_
  refine r_iload_n (i := 3) (pc' := 8) dX11_longer_7 rfl rfl (.tail _ (.tail _ (.tail _ (.head _)))) ?_
  refine r_iload (pc' := 10) dX11_longer_8 rfl (.tail _ (.tail _ (.tail _ (.tail _ (.head _))))) ?_
  refine r_V4p (ci := 1) (pc' := 13) dX11_longer_10 rfl lX11_293 rfl (by decide) (Nat.le_of_ble_eq_true rfl) (by first | assumption | rfl) (by omega) (tX1_longerRefusal (by assumption) (by assumption) (by omega) (by omega) (by omega) (by omega)) ?_
  refine r_putI (pc' := 16) dX11_longer_13 rfl fX11_74 rfl (by first | assumption | rfl) (by omega) rfl rfl ?_
  generalize hX0 : q_up X 0 11 (zi (bk_lref X b k m ba bo)) = X0
  have e0 : xv X0 0 11 = bk_lref X b k m ba bo := by rw [← hX0]; exact xv_up_same _ _ _ (by omega)
  have hbe0 : bEq X X0 b := by rw [← hX0]; exact bEq.rfl.up (by omega)
  have hO0 := bOk_ag hbe0.ag hO
  have hx10 : xv X0 442 1 = (x : Int) := by rw [← hX0, xv_up_ne _ _ (by omega)]; exact hx1
  have hz10 : 0 ≤ xv X0 442 2 ∧ xv X0 442 2 ≤ 8 := by rw [← hX0, xv_up_ne _ _ (by omega)]; omega
  refine r_aload_n (i := 0) (pc' := 17) dX11_longer_16 rfl rfl (.head _) ?_
  refine r_getR (pc' := 20) dX11_longer_17 rfl fX11_10 rfl (by first | assumption | rfl) (by omega) (by assumption) ?_
  refine r_iload_n (i := 1) (pc' := 21) dX11_longer_20 rfl rfl (.tail _ (.head _)) ?_
  by_cases hk : bk_has X b k
  · have hk0 : bk_has X0 b k := by rw [bk_has, hbe0.v0]; exact hk
    refine r_V1p (ci := 1) (pc' := 24) dX11_longer_21 rfl lX11_168 rfl (by decide) (Nat.le_of_ble_eq_true rfl) (by first | assumption | rfl) (by omega) (tX1_find hb hO0 hk0) ?_
    refine r_astore (pc' := 26) dX11_longer_24 rfl rfl (.s1 (.s1 (.s1 (.s1 (.s1 .nil rfl rfl rfl) rfl rfl rfl) rfl rfl rfl) rfl rfl rfl) rfl rfl rfl) ?_
    refine r_aload_n (i := 0) (pc' := 27) dX11_longer_26 rfl rfl (.head _) ?_
    refine r_getI (pc' := 30) dX11_longer_27 rfl fX11_74 rfl (by first | assumption | rfl) (by omega) ?_
    rw [e0]
    refine r_if_ne (t := 38) (f := 33) dX11_longer_30 (by decide) rfl (by first | omega | exact xv_in _ _ _ | assumption) (fun h30 => ?_) (fun h30 => ?_)
    · refine r_iconst (pc' := 39) dX11_longer_38 rfl ?_
      refine r_ireturn dX11_longer_39 rfl ?_
      refine ⟨_, rfl, ?_⟩
      dsimp only
      rw [if_neg (by omega)]
      exact ⟨rfl, rfl, rfl, by first | rfl | exact hX0.symm, rfl⟩
    · refine r_aload (pc' := 35) dX11_longer_33 rfl (.tail _ (.tail _ (.tail _ (.tail _ (.tail _ (.head _)))))) ?_
      refine r_ifnonnull (t := 40) dX11_longer_35 (by decide) ?_
      refine r_aload_n (i := 0) (pc' := 41) dX11_longer_40 rfl rfl (.head _) ?_
      refine r_getR (pc' := 44) dX11_longer_41 rfl fX11_26 rfl (by first | assumption | rfl) (by omega) (by assumption) ?_
      refine r_aload_n (i := 0) (pc' := 45) dX11_longer_44 rfl rfl (.head _) ?_
      refine r_getR (pc' := 48) dX11_longer_45 rfl fX11_10 rfl (by first | assumption | rfl) (by omega) (by assumption) ?_
      refine r_V1gv (ci := 6) (pc' := 51) dX11_longer_48 rfl lX11_247 rfl (by decide) (Nat.le_of_ble_eq_true rfl) (by first | assumption | rfl) (by omega) (tX6_push (x := x) h442 hS hb hO0 (by omega) hx hx10 hz10) (fun n48 P48 X48 Y48 e48 le48 => ?_)
      have hF1 := e48.face hF
      have hb1' := e48.b hb (by omega)
      have hbe1 := e48.e (by omega) (b2 := b) (by omega)
      have hO1 := bOk_ag hbe1.ag hO0
      have hbe := hbe0.trans hbe1
      have hnn := e48.n
      obtain ⟨g0', g2', g3', g4', g5', g6', g7', g8', hn1⟩ := id hF1
      obtain ⟨-, -, -, -, q7', q8', q9', q11', q12', q13', hnb', hpro', hmar', hfor', hcs'⟩ := id hb1'
      have hpf : bk_lref X b k m ba bo = 0 := by omega
      obtain ⟨hr0, hm1, hm2, ha1, ha2, hz1, hz2, hl1, hl2, hl3⟩ := bk_lref_ref hpf
      have hc := hb1'.c (k := k.toNat) (by omega)
      obtain ⟨s0, s1, s2, s3, s4, p6, p7, p8, p9, hnc⟩ := id hc
      have hck := hO1.c (k := k.toNat) (by rw [hbe.v0]; omega)
      obtain ⟨hf, hf2, hf3, hf4, hfj, hfs, hfg⟩ := id hck
      have o0' := hO1.1
      refine r_aload (pc' := 53) dX11_longer_51 rfl (.tail _ (.tail _ (.tail _ (.tail _ (.tail _ (.head _)))))) ?_
      refine r_iload_n (i := 2) (pc' := 54) dX11_longer_53 rfl rfl (.tail _ (.tail _ (.head _))) ?_
      refine r_iload_n (i := 3) (pc' := 55) dX11_longer_54 rfl rfl (.tail _ (.tail _ (.tail _ (.head _)))) ?_
      refine r_V2gv (ci := 4) (pc' := 58) dX11_longer_55 rfl lX11_297 rfl (by decide) (Nat.le_of_ble_eq_true rfl) (by first | assumption | rfl) (by omega) (tX4_addYearsZ hc (by omega) (by omega)) (fun n55 P55 X55 Y55 e55 le55 => ?_)
      obtain ⟨rfl, rfl, rfl, rfl⟩ := e55
      have hec := bk_ext_c (X := X48) (c := con b k.toNat) (m := m.toNat) (base := ba) (by omega) (by omega)
      have heb : xv (bk_ext X48 (con b k.toNat) m.toNat ba) b = xv X48 b := bk_ext_o (by unfold con; omega)
      have he0 : xv (bk_ext X48 (con b k.toNat) m.toNat ba) (con b k.toNat) 0 = xv X48 (con b k.toNat) 0 := by rw [hec, if_neg (by omega)]
      have he1 : xv (bk_ext X48 (con b k.toNat) m.toNat ba) (con b k.toNat) 1 = xv X48 (con b k.toNat) 1 + m.toNat := by rw [hec, if_pos rfl]
      have he2 : xv (bk_ext X48 (con b k.toNat) m.toNat ba) (con b k.toNat) 2 = xv X48 (con b k.toNat) 2 := by rw [hec, if_neg (by omega)]
      have hel : c_last (bk_ext X48 (con b k.toNat) m.toNat ba) (con b k.toNat) = xv X48 (con b k.toNat) 0 + (xv X48 (con b k.toNat) 1 + m.toNat) + xv X48 (con b k.toNat) 2 - 1 := by simp only [c_last, he0, he1, he2]
      refine r_aload (pc' := 60) dX11_longer_58 rfl (.tail _ (.tail _ (.tail _ (.tail _ (.tail _ (.head _)))))) ?_
      refine r_aload_n (i := 0) (pc' := 61) dX11_longer_60 rfl rfl (.head _) ?_
      refine r_getR (pc' := 64) dX11_longer_61 rfl fX11_10 rfl (by first | assumption | rfl) (by omega) (by assumption) ?_
      refine r_getI (pc' := 67) dX11_longer_64 rfl fX11_135 rfl (by first | assumption | rfl) (by omega) ?_
      rw [heb]
      refine r_iload (pc' := 69) dX11_longer_67 rfl (.tail _ (.tail _ (.tail _ (.tail _ (.head _))))) ?_
      refine r_V2gv (ci := 4) (pc' := 72) dX11_longer_69 rfl lX11_290 rfl (by decide) (Nat.le_of_ble_eq_true rfl) (by first | assumption | rfl) (by omega) (tX4_spread hc (by rw [he0]; exact hf) (by omega) (by omega) (by rw [hel]; omega)) (fun n69 P69 X69 Y69 e69 le69 => ?_)
      obtain ⟨rfl, rfl, rfl, rfl⟩ := e69
      change q_Tr _ _ _ _ _ _ _ _ _ _ (bk_long X48 b k m ba bo) _
      refine r_aload (pc' := 74) dX11_longer_72 rfl (.tail _ (.tail _ (.tail _ (.tail _ (.tail _ (.head _)))))) ?_
      refine r_V0p (ci := 4) (pc' := 77) dX11_longer_74 rfl lX11_300 rfl (by decide) (Nat.le_of_ble_eq_true rfl) (by first | assumption | rfl) (by omega) (tX4_lastYear hc) ?_
      refine r_ireturn dX11_longer_77 rfl ?_
      refine ⟨_, rfl, ?_⟩
      dsimp only
      rw [if_pos (by omega)]
      have h00 : q_up X 0 11 (zi 0) = X0 := by rw [← hX0, hpf]
      rw [h00]
      exact ⟨X48, X48, e48, tOut.rfl, rfl, rfl⟩
  · have hk0 : ¬ bk_has X0 b k := by rw [bk_has, hbe0.v0]; exact hk
    have hn0 := bk_nohas hk
    have hnp : ¬ bk_lref X b k m ba bo = 0 := fun q => by have := (bk_lref_ref q).1; omega
    refine r_V1p (ci := 1) (pc' := 24) dX11_longer_21 rfl lX11_168 rfl (by decide) (Nat.le_of_ble_eq_true rfl) (by first | assumption | rfl) (by omega) (tX1_findN hb hO0 (by omega) hk0) ?_
    refine r_astoreN (pc' := 26) dX11_longer_24 rfl rfl (.s1 (.s1 (.s1 (.s1 (.s1 .nil rfl rfl rfl) rfl rfl rfl) rfl rfl rfl) rfl rfl rfl) rfl rfl rfl) ?_
    refine r_aload_n (i := 0) (pc' := 27) dX11_longer_26 rfl rfl (.head _) ?_
    refine r_getI (pc' := 30) dX11_longer_27 rfl fX11_74 rfl (by first | assumption | rfl) (by omega) ?_
    rw [e0]
    refine r_if_ne (t := 38) (f := 33) dX11_longer_30 (by decide) rfl (by first | omega | exact xv_in _ _ _ | assumption) (fun h30 => ?_) (fun h30 => ?_)
    · refine r_iconst (pc' := 39) dX11_longer_38 rfl ?_
      refine r_ireturn dX11_longer_39 rfl ?_
      refine ⟨_, rfl, ?_⟩
      dsimp only
      rw [if_neg (by omega)]
      exact ⟨rfl, rfl, rfl, by first | rfl | exact hX0.symm, rfl⟩
    · exfalso; omega
set_option maxHeartbeats 4000000 in
set_option maxRecDepth 100000 in
theorem tX11_days {l : Launch} {g : q_G} {n : Nat} {P : q_P} {X : q_X} {Y : q_Y} {b : Nat} (hF : isFace n P b) (hb : isBk n P b) (hO : bOk X b) {x : Nat} (hH : isHi n P X x) (hb1 : 1 ≤ b ∧ b + 220 ≤ 441) {m : Int} (hm : q_in m) : q_Met l g mX11_days 4 [.ref (g.1 + 0), .int (zi m)] n P X Y (q_gi (fun r' n' P' X' Y' => if 1 ≤ m ∧ m ≤ 364 - xv X b 1 then DE x b n P (q_up X 0 11 (zi 0)) Y (fun Z => q_up Z b 1 (zi (xv Z b 1 + m))) (fun Z => xv Z b 1 + m) r' n' P' X' Y' else NO n P (q_up X 0 11 (zi (4))) Y r' n' P' X' Y')) := by
  obtain ⟨f0, f2, f3, f4, f5, f6, f7, f8, hn0⟩ := id hF
  obtain ⟨b0, b1, b2, b3, q7, q8, q9, q11, q12, q13, hn, hpro, hmar, hfor, hcs⟩ := id hb
  obtain ⟨o0, o1, o2, o3, o4, o5, o6, o10, oc, op0, opz, opi, om0, omi, olim⟩ := id hO
  obtain ⟨h442, hS, hx, hx1, hz0, hz8⟩ := id hH
  have hn9 := hS.n
  refine q_enter (L := [(0, .ref (g.1 + 0)), (1, .int (zi m))]) (by decide) (Nat.le_of_ble_eq_true rfl) rfl ?_
  by_cases hok : 1 ≤ m ∧ m ≤ 364 - xv X b 1
  · refine r_aload_n (i := 0) (pc' := 1) dX11_days_0 rfl rfl (.head _) ?_
    refine r_iload_n (i := 1) (pc' := 2) dX11_days_1 rfl rfl (.tail _ (.head _)) ?_
    refine r_iconst (pc' := 3) dX11_days_2 rfl ?_
    refine r_icmp_lt (t := 21) (f := 6) dX11_days_3 (by decide) rfl (by first | omega | exact xv_in _ _ _ | assumption) (by first | omega | exact xv_in _ _ _ | assumption) (fun h3 => ?_) (fun h3 => ?_)
    · exfalso; omega
    · refine r_iload_n (i := 1) (pc' := 7) dX11_days_6 rfl rfl (.tail _ (.head _)) ?_
      refine r_sipush (pc' := 10) dX11_days_7 rfl (by decide) ?_
      refine r_aload_n (i := 0) (pc' := 11) dX11_days_10 rfl rfl (.head _) ?_
      refine r_getR (pc' := 14) dX11_days_11 rfl fX11_10 rfl (by first | assumption | rfl) (by omega) (by assumption) ?_
      refine r_getI (pc' := 17) dX11_days_14 rfl fX11_138 rfl (by first | assumption | rfl) (by omega) ?_
      refine r_isub (pc' := 18) dX11_days_17 rfl ?_
      refine r_icmp_le (t := 25) (f := 21) dX11_days_18 (by decide) rfl (by first | omega | exact xv_in _ _ _ | assumption) (by first | omega | exact xv_in _ _ _ | assumption) (fun h18 => ?_) (fun h18 => ?_)
      · refine r_iconst (pc' := 26) dX11_days_25 rfl ?_
        refine r_putI (pc' := 29) dX11_days_26 rfl fX11_74 rfl (by first | assumption | rfl) (by omega) rfl rfl ?_
        generalize hX0 : q_up X 0 11 (zi (0)) = X0
        have e0 : xv X0 0 11 = 0 := by rw [← hX0]; exact xv_up_same _ _ _ (by omega)
        have hbe0 : bEq X X0 b := by rw [← hX0]; exact bEq.rfl.up (by omega)
        have hO0 := bOk_ag hbe0.ag hO
        have hx10 : xv X0 442 1 = (x : Int) := by rw [← hX0, xv_up_ne _ _ (by omega)]; exact hx1
        have hz10 : 0 ≤ xv X0 442 2 ∧ xv X0 442 2 ≤ 8 := by rw [← hX0, xv_up_ne _ _ (by omega)]; omega
        refine r_aload_n (i := 0) (pc' := 30) dX11_days_29 rfl rfl (.head _) ?_
        refine r_getI (pc' := 33) dX11_days_30 rfl fX11_74 rfl (by first | assumption | rfl) (by omega) ?_
        rw [e0]
        refine r_if_eq (t := 38) (f := 36) dX11_days_33 (by decide) rfl (by first | omega | exact xv_in _ _ _ | assumption) (fun h33 => ?_) (fun h33 => ?_)
        · refine r_aload_n (i := 0) (pc' := 39) dX11_days_38 rfl rfl (.head _) ?_
          refine r_getR (pc' := 42) dX11_days_39 rfl fX11_26 rfl (by first | assumption | rfl) (by omega) (by assumption) ?_
          refine r_aload_n (i := 0) (pc' := 43) dX11_days_42 rfl rfl (.head _) ?_
          refine r_getR (pc' := 46) dX11_days_43 rfl fX11_10 rfl (by first | assumption | rfl) (by omega) (by assumption) ?_
          refine r_V1gv (ci := 6) (pc' := 49) dX11_days_46 rfl lX11_247 rfl (by decide) (Nat.le_of_ble_eq_true rfl) (by first | assumption | rfl) (by omega) (tX6_push (x := x) h442 hS hb hO0 (by omega) hx hx10 hz10) (fun n46 P46 X46 Y46 e46 le46 => ?_)
          have hF1 := e46.face hF
          have hb1' := e46.b hb (by omega)
          have hbe1 := e46.e (by omega) (b2 := b) (by omega)
          have hO1 := bOk_ag hbe1.ag hO0
          have hbe := hbe0.trans hbe1
          have hnn := e46.n
          obtain ⟨g0', g2', g3', g4', g5', g6', g7', g8', hn1⟩ := id hF1
          obtain ⟨-, -, -, -, q7', q8', q9', q11', q12', q13', hnb', hpro', hmar', hfor', hcs'⟩ := id hb1'
          refine r_aload_n (i := 0) (pc' := 50) dX11_days_49 rfl rfl (.head _) ?_
          refine r_getR (pc' := 53) dX11_days_50 rfl fX11_10 rfl (by first | assumption | rfl) (by omega) (by assumption) ?_
          refine r_dup (pc' := 54) dX11_days_53 rfl rfl ?_
          refine r_getI (pc' := 57) dX11_days_54 rfl fX11_138 rfl (by first | assumption | rfl) (by omega) ?_
          refine r_iload_n (i := 1) (pc' := 58) dX11_days_57 rfl rfl (.tail _ (.head _)) ?_
          refine r_iadd (pc' := 59) dX11_days_58 rfl ?_
          refine r_putI (pc' := 62) dX11_days_59 rfl fX11_138 rfl (by first | assumption | rfl) (by omega) rfl rfl ?_
          refine r_aload_n (i := 0) (pc' := 63) dX11_days_62 rfl rfl (.head _) ?_
          refine r_getR (pc' := 66) dX11_days_63 rfl fX11_10 rfl (by first | assumption | rfl) (by omega) (by assumption) ?_
          refine r_getI (pc' := 69) dX11_days_66 rfl fX11_138 rfl (by first | assumption | rfl) (by omega) ?_
          rw [xv_up_same _ _ _ (by rw [hbe.v0]; omega)]
          refine r_ireturn dX11_days_69 rfl ?_
          refine ⟨_, rfl, ?_⟩
          dsimp only
          rw [if_pos (by omega)]
          try rw [hX0]
          exact ⟨X46, X46, e46, tOut.rfl, rfl, rfl⟩
        · exfalso; omega
      · exfalso; omega
  · refine r_aload_n (i := 0) (pc' := 1) dX11_days_0 rfl rfl (.head _) ?_
    refine r_iload_n (i := 1) (pc' := 2) dX11_days_1 rfl rfl (.tail _ (.head _)) ?_
    refine r_iconst (pc' := 3) dX11_days_2 rfl ?_
    refine r_icmp_lt (t := 21) (f := 6) dX11_days_3 (by decide) rfl (by first | omega | exact xv_in _ _ _ | assumption) (by first | omega | exact xv_in _ _ _ | assumption) (fun h3 => ?_) (fun h3 => ?_)
    · refine r_iconst (pc' := 22) dX11_days_21 rfl ?_
      refine r_goto (t := 26) dX11_days_22 (by decide) ?_
      refine r_putI (pc' := 29) dX11_days_26 rfl fX11_74 rfl (by first | assumption | rfl) (by omega) rfl rfl ?_
      generalize hX0 : q_up X 0 11 (zi (4)) = X0
      have e0 : xv X0 0 11 = 4 := by rw [← hX0]; exact xv_up_same _ _ _ (by omega)
      have hbe0 : bEq X X0 b := by rw [← hX0]; exact bEq.rfl.up (by omega)
      have hO0 := bOk_ag hbe0.ag hO
      have hx10 : xv X0 442 1 = (x : Int) := by rw [← hX0, xv_up_ne _ _ (by omega)]; exact hx1
      have hz10 : 0 ≤ xv X0 442 2 ∧ xv X0 442 2 ≤ 8 := by rw [← hX0, xv_up_ne _ _ (by omega)]; omega
      refine r_aload_n (i := 0) (pc' := 30) dX11_days_29 rfl rfl (.head _) ?_
      refine r_getI (pc' := 33) dX11_days_30 rfl fX11_74 rfl (by first | assumption | rfl) (by omega) ?_
      rw [e0]
      refine r_if_eq (t := 38) (f := 36) dX11_days_33 (by decide) rfl (by first | omega | exact xv_in _ _ _ | assumption) (fun h33 => ?_) (fun h33 => ?_)
      · exfalso; omega
      · refine r_iconst (pc' := 37) dX11_days_36 rfl ?_
        refine r_ireturn dX11_days_37 rfl ?_
        refine ⟨_, rfl, ?_⟩
        dsimp only
        rw [if_neg (by omega)]
        exact ⟨rfl, rfl, rfl, by first | rfl | exact hX0.symm, rfl⟩
    · refine r_iload_n (i := 1) (pc' := 7) dX11_days_6 rfl rfl (.tail _ (.head _)) ?_
      refine r_sipush (pc' := 10) dX11_days_7 rfl (by decide) ?_
      refine r_aload_n (i := 0) (pc' := 11) dX11_days_10 rfl rfl (.head _) ?_
      refine r_getR (pc' := 14) dX11_days_11 rfl fX11_10 rfl (by first | assumption | rfl) (by omega) (by assumption) ?_
      refine r_getI (pc' := 17) dX11_days_14 rfl fX11_138 rfl (by first | assumption | rfl) (by omega) ?_
      refine r_isub (pc' := 18) dX11_days_17 rfl ?_
      refine r_icmp_le (t := 25) (f := 21) dX11_days_18 (by decide) rfl (by first | omega | exact xv_in _ _ _ | assumption) (by first | omega | exact xv_in _ _ _ | assumption) (fun h18 => ?_) (fun h18 => ?_)
      · exfalso; omega
      · refine r_iconst (pc' := 22) dX11_days_21 rfl ?_
        refine r_goto (t := 26) dX11_days_22 (by decide) ?_
        refine r_putI (pc' := 29) dX11_days_26 rfl fX11_74 rfl (by first | assumption | rfl) (by omega) rfl rfl ?_
        generalize hX0 : q_up X 0 11 (zi (4)) = X0
        have e0 : xv X0 0 11 = 4 := by rw [← hX0]; exact xv_up_same _ _ _ (by omega)
        have hbe0 : bEq X X0 b := by rw [← hX0]; exact bEq.rfl.up (by omega)
        have hO0 := bOk_ag hbe0.ag hO
        have hx10 : xv X0 442 1 = (x : Int) := by rw [← hX0, xv_up_ne _ _ (by omega)]; exact hx1
        have hz10 : 0 ≤ xv X0 442 2 ∧ xv X0 442 2 ≤ 8 := by rw [← hX0, xv_up_ne _ _ (by omega)]; omega
        refine r_aload_n (i := 0) (pc' := 30) dX11_days_29 rfl rfl (.head _) ?_
        refine r_getI (pc' := 33) dX11_days_30 rfl fX11_74 rfl (by first | assumption | rfl) (by omega) ?_
        rw [e0]
        refine r_if_eq (t := 38) (f := 36) dX11_days_33 (by decide) rfl (by first | omega | exact xv_in _ _ _ | assumption) (fun h33 => ?_) (fun h33 => ?_)
        · exfalso; omega
        · refine r_iconst (pc' := 37) dX11_days_36 rfl ?_
          refine r_ireturn dX11_days_37 rfl ?_
          refine ⟨_, rfl, ?_⟩
          dsimp only
          rw [if_neg (by omega)]
          exact ⟨rfl, rfl, rfl, by first | rfl | exact hX0.symm, rfl⟩
set_option maxHeartbeats 4000000 in
set_option maxRecDepth 100000 in
theorem tX11_year {l : Launch} {g : q_G} {n : Nat} {P : q_P} {X : q_X} {Y : q_Y} {b : Nat} (hF : isFace n P b) (hb : isBk n P b) (hO : bOk X b) {x : Nat} (hH : isHi n P X x) (hb1 : 1 ≤ b ∧ b + 220 ≤ 441) (ht : isTal n P) : q_Met l g mX11_year 4 [.ref (g.1 + 0)] n P X Y (q_gi (fun r' n' P' X' Y' => if xv X b 0 < 19 then DE x b n P (q_up X 0 11 (zi 0)) Y (fun Z => bk_year Z b) (fun Z => bk_yearN Z b) r' n' P' X' Y' else NO n P (q_up X 0 11 (zi (7))) Y r' n' P' X' Y')) := by
  obtain ⟨f0, f2, f3, f4, f5, f6, f7, f8, hn0⟩ := id hF
  obtain ⟨b0, b1, b2, b3, q7, q8, q9, q11, q12, q13, hn, hpro, hmar, hfor, hcs⟩ := id hb
  obtain ⟨o0, o1, o2, o3, o4, o5, o6, o10, oc, op0, opz, opi, om0, omi, olim⟩ := id hO
  obtain ⟨h442, hS, hx, hx1, hz0, hz8⟩ := id hH
  have hn9 := hS.n
  have hap : bApart b := Or.inl (by omega)
  refine q_enter (L := [(0, .ref (g.1 + 0))]) (by decide) (Nat.le_of_ble_eq_true rfl) rfl ?_
  by_cases hok : xv X b 0 < 19
  · refine r_aload_n (i := 0) (pc' := 1) dX11_year_0 rfl rfl (.head _) ?_
    refine r_aload_n (i := 0) (pc' := 2) dX11_year_1 rfl rfl (.head _) ?_
    refine r_getR (pc' := 5) dX11_year_2 rfl fX11_10 rfl (by first | assumption | rfl) (by omega) (by assumption) ?_
    refine r_getI (pc' := 8) dX11_year_5 rfl fX11_135 rfl (by first | assumption | rfl) (by omega) ?_
    refine r_bipush (pc' := 10) dX11_year_8 rfl (by decide) ?_
    refine r_icmp_lt (t := 18) (f := 13) dX11_year_10 (by decide) rfl (by first | omega | exact xv_in _ _ _ | assumption) (by first | omega | exact xv_in _ _ _ | assumption) (fun h10 => ?_) (fun h10 => ?_)
    · refine r_iconst (pc' := 19) dX11_year_18 rfl ?_
      refine r_putI (pc' := 22) dX11_year_19 rfl fX11_74 rfl (by first | assumption | rfl) (by omega) rfl rfl ?_
      generalize hX0 : q_up X 0 11 (zi (0)) = X0
      have e0 : xv X0 0 11 = 0 := by rw [← hX0]; exact xv_up_same _ _ _ (by omega)
      have hbe0 : bEq X X0 b := by rw [← hX0]; exact bEq.rfl.up (by omega)
      have hO0 := bOk_ag hbe0.ag hO
      have hx10 : xv X0 442 1 = (x : Int) := by rw [← hX0, xv_up_ne _ _ (by omega)]; exact hx1
      have hz10 : 0 ≤ xv X0 442 2 ∧ xv X0 442 2 ≤ 8 := by rw [← hX0, xv_up_ne _ _ (by omega)]; omega
      refine r_aload_n (i := 0) (pc' := 23) dX11_year_22 rfl rfl (.head _) ?_
      refine r_getI (pc' := 26) dX11_year_23 rfl fX11_74 rfl (by first | assumption | rfl) (by omega) ?_
      rw [e0]
      refine r_if_eq (t := 31) (f := 29) dX11_year_26 (by decide) rfl (by first | omega | exact xv_in _ _ _ | assumption) (fun h26 => ?_) (fun h26 => ?_)
      · refine r_aload_n (i := 0) (pc' := 32) dX11_year_31 rfl rfl (.head _) ?_
        refine r_getR (pc' := 35) dX11_year_32 rfl fX11_26 rfl (by first | assumption | rfl) (by omega) (by assumption) ?_
        refine r_aload_n (i := 0) (pc' := 36) dX11_year_35 rfl rfl (.head _) ?_
        refine r_getR (pc' := 39) dX11_year_36 rfl fX11_10 rfl (by first | assumption | rfl) (by omega) (by assumption) ?_
        refine r_V1gv (ci := 6) (pc' := 42) dX11_year_39 rfl lX11_247 rfl (by decide) (Nat.le_of_ble_eq_true rfl) (by first | assumption | rfl) (by omega) (tX6_push (x := x) h442 hS hb hO0 (by omega) hx hx10 hz10) (fun n39 P39 X39 Y39 e39 le39 => ?_)
        have hF1 := e39.face hF
        have hb1' := e39.b hb (by omega)
        have hbe1 := e39.e (by omega) (b2 := b) (by omega)
        have hO1 := bOk_ag hbe1.ag hO0
        have hbe := hbe0.trans hbe1
        have hnn := e39.n
        obtain ⟨g0', g2', g3', g4', g5', g6', g7', g8', hn1⟩ := id hF1
        obtain ⟨-, -, -, -, q7', q8', q9', q11', q12', q13', hnb', hpro', hmar', hfor', hcs'⟩ := id hb1'
        have ht' := e39.tal ht
        obtain ⟨t0', t1', t2', t3', t4', hnt'⟩ := id ht'
        refine r_aload_n (i := 0) (pc' := 43) dX11_year_42 rfl rfl (.head _) ?_
        refine r_getR (pc' := 46) dX11_year_43 rfl fX11_56 rfl (by first | assumption | rfl) (by omega) (by assumption) ?_
        refine r_aload_n (i := 0) (pc' := 47) dX11_year_46 rfl rfl (.head _) ?_
        refine r_getR (pc' := 50) dX11_year_47 rfl fX11_10 rfl (by first | assumption | rfl) (by omega) (by assumption) ?_
        refine r_V1gv (ci := 10) (pc' := 53) dX11_year_50 rfl lX11_211 rfl (by decide) (Nat.le_of_ble_eq_true rfl) (by first | assumption | rfl) (by omega) (tX10_load hb1' hO1 ht' hap) (fun n50 P50 X50 Y50 e50 le50 => ?_)
        obtain ⟨rfl, rfl, rfl, ho, htl⟩ := e50
        have hTT := TT.of ho hap hO1 htl
        have hT1 := htl.1
        have hag := ho.ag hap
        have hO2 := bOk_ag hag hO1
        have hbe2 := bEq.to ho hap
        have eb2 : xv X50 b = xv X39 b := hag.z
        refine r_aload_n (i := 0) (pc' := 54) dX11_year_53 rfl rfl (.head _) ?_
        refine r_getR (pc' := 57) dX11_year_54 rfl fX11_10 rfl (by first | assumption | rfl) (by omega) (by assumption) ?_
        refine r_aload_n (i := 0) (pc' := 58) dX11_year_57 rfl rfl (.head _) ?_
        refine r_getR (pc' := 61) dX11_year_58 rfl fX11_56 rfl (by first | assumption | rfl) (by omega) (by assumption) ?_
        refine r_aload_n (i := 0) (pc' := 62) dX11_year_61 rfl rfl (.head _) ?_
        refine r_getR (pc' := 65) dX11_year_62 rfl fX11_10 rfl (by first | assumption | rfl) (by omega) (by assumption) ?_
        refine r_V1p (ci := 10) (pc' := 68) dX11_year_65 rfl lX11_218 rfl (by decide) (Nat.le_of_ble_eq_true rfl) (by first | assumption | rfl) (by omega) (tX10_room hb1' hO2 ht' hT1) ?_
        rw [hTT.room hap, ← bk_room_eq hbe2 (by rw [hbe.v0]; omega), ← zi_nz (bk_room X50 b g0 g0)]
        have hni := nz_in (bk_room X50 b g0 g0)
        refine r_V1gi (ci := 1) (pc' := 71) dX11_year_68 rfl lX11_303 rfl (by decide) (Nat.le_of_ble_eq_true rfl) (by first | assumption | rfl) (by omega) (tX1_passYear hb1' hO2 hni (by rw [eb2, hbe.v0]; omega)) (fun r68 n68 P68 X68 Y68 e68 le68 => ?_)
        obtain ⟨rfl, rfl, rfl, rfl, rfl⟩ := e68
        refine r_ireturn dX11_year_71 rfl ?_
        refine ⟨_, rfl, ?_⟩
        dsimp only
        rw [if_pos (by omega)]
        try rw [hX0]
        exact ⟨X39, X50, e39, ho, rfl, rfl⟩
      · exfalso; omega
    · exfalso; omega
  · refine r_aload_n (i := 0) (pc' := 1) dX11_year_0 rfl rfl (.head _) ?_
    refine r_aload_n (i := 0) (pc' := 2) dX11_year_1 rfl rfl (.head _) ?_
    refine r_getR (pc' := 5) dX11_year_2 rfl fX11_10 rfl (by first | assumption | rfl) (by omega) (by assumption) ?_
    refine r_getI (pc' := 8) dX11_year_5 rfl fX11_135 rfl (by first | assumption | rfl) (by omega) ?_
    refine r_bipush (pc' := 10) dX11_year_8 rfl (by decide) ?_
    refine r_icmp_lt (t := 18) (f := 13) dX11_year_10 (by decide) rfl (by first | omega | exact xv_in _ _ _ | assumption) (by first | omega | exact xv_in _ _ _ | assumption) (fun h10 => ?_) (fun h10 => ?_)
    · exfalso; omega
    · refine r_bipush (pc' := 15) dX11_year_13 rfl (by decide) ?_
      refine r_goto (t := 19) dX11_year_15 (by decide) ?_
      refine r_putI (pc' := 22) dX11_year_19 rfl fX11_74 rfl (by first | assumption | rfl) (by omega) rfl rfl ?_
      generalize hX0 : q_up X 0 11 (zi (7)) = X0
      have e0 : xv X0 0 11 = 7 := by rw [← hX0]; exact xv_up_same _ _ _ (by omega)
      have hbe0 : bEq X X0 b := by rw [← hX0]; exact bEq.rfl.up (by omega)
      have hO0 := bOk_ag hbe0.ag hO
      have hx10 : xv X0 442 1 = (x : Int) := by rw [← hX0, xv_up_ne _ _ (by omega)]; exact hx1
      have hz10 : 0 ≤ xv X0 442 2 ∧ xv X0 442 2 ≤ 8 := by rw [← hX0, xv_up_ne _ _ (by omega)]; omega
      refine r_aload_n (i := 0) (pc' := 23) dX11_year_22 rfl rfl (.head _) ?_
      refine r_getI (pc' := 26) dX11_year_23 rfl fX11_74 rfl (by first | assumption | rfl) (by omega) ?_
      rw [e0]
      refine r_if_eq (t := 31) (f := 29) dX11_year_26 (by decide) rfl (by first | omega | exact xv_in _ _ _ | assumption) (fun h26 => ?_) (fun h26 => ?_)
      · exfalso; omega
      · refine r_iconst (pc' := 30) dX11_year_29 rfl ?_
        refine r_ireturn dX11_year_30 rfl ?_
        refine ⟨_, rfl, ?_⟩
        dsimp only
        rw [if_neg (by omega)]
        exact ⟨rfl, rfl, rfl, by first | rfl | exact hX0.symm, rfl⟩
