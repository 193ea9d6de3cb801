set_option maxHeartbeats 4000000 in
set_option maxRecDepth 100000 in
theorem tX12_refuses {l : Launch} {g : q_G} {n : Nat} {P : q_P} {X : q_X} {Y : q_Y} (hm : isMod n P) {z : Int} (hz : q_in z) : q_Met l g mX12_refuses 0 [.ref (g.1 + 467), .int (zi z)] n P X Y (q_gi (fun r' n' P' X' Y' => n' = n ∧ P' = P ∧ Y' = Y ∧ X' = q_up X 467 19 (zi z) ∧ r' = if z = 0 then 0 else 1)) := by
  obtain ⟨m0, m2, m3, m8, m9, m14, m15, m16, m17, m18, m20, m22, m25, hnm9⟩ := id hm
  refine q_enter (L := [(0, .ref (g.1 + 467)), (1, .int (zi z))]) (by decide) (Nat.le_of_ble_eq_true rfl) rfl ?_
  refine r_aload_n (i := 0) (pc' := 1) dX12_refuses_0 rfl rfl (.head _) ?_
  refine r_iload_n (i := 1) (pc' := 2) dX12_refuses_1 rfl rfl (.tail _ (.head _)) ?_
  refine r_putI (pc' := 5) dX12_refuses_2 rfl fX12_272 rfl (by first | assumption | rfl) (by omega) rfl rfl ?_
  refine r_iload_n (i := 1) (pc' := 6) dX12_refuses_5 rfl rfl (.tail _ (.head _)) ?_
  refine r_if_eq (t := 13) (f := 9) dX12_refuses_6 (by decide) rfl (by first | omega | exact xv_in _ _ _) (fun h6 => ?_) (fun h6 => ?_)
  · refine r_iconst (pc' := 14) dX12_refuses_13 rfl ?_
    refine r_zreturn dX12_refuses_14 rfl (by first | decide | (split <;> omega) | omega) ?_
    refine ⟨_, rfl, rfl, rfl, rfl, rfl, ?_⟩
    split <;> first | rfl | (exfalso; omega)
  · refine r_iconst (pc' := 10) dX12_refuses_9 rfl ?_
    refine r_goto (t := 14) dX12_refuses_10 (by decide) ?_
    refine r_zreturn dX12_refuses_14 rfl (by first | decide | (split <;> omega) | omega) ?_
    refine ⟨_, rfl, rfl, rfl, rfl, rfl, ?_⟩
    split <;> first | rfl | (exfalso; omega)
set_option maxHeartbeats 4000000 in
set_option maxRecDepth 100000 in
theorem tX12_closesFor {l : Launch} {g : q_G} {n : Nat} {P : q_P} {X : q_X} {Y : q_Y} (hm : isMod n P) {k : Nat} (hk : k < 40) {u v : Int} (hv : xv X 468 0 = v) : q_Met l g mX12_closesFor 1 [.ref (g.1 + 467), .int (zi (k : Int)), .int (zi u)] n P X Y (q_gv (fun n' P' X' Y' => n' = n ∧ P' = P ∧ Y' = Y ∧ X' = q_up (q_up X 468 (130 + 86 * k + 4) (zi u)) 468 (130 + 86 * k + 5) (zi v))) := by
  obtain ⟨m0, m2, m3, m8, m9, m14, m15, m16, m17, m18, m20, m22, m25, hnm9⟩ := id hm
  refine q_enter (L := [(0, .ref (g.1 + 467)), (1, .int (zi (k : Int))), (2, .int (zi u))]) (by decide) (Nat.le_of_ble_eq_true rfl) rfl ?_
  refine r_aload_n (i := 0) (pc' := 1) dX12_closesFor_0 rfl rfl (.head _) ?_
  refine r_getR (pc' := 4) dX12_closesFor_1 rfl fX12_3 rfl (by first | assumption | rfl) (by omega) (by assumption) ?_
  refine r_iload_n (i := 1) (pc' := 5) dX12_closesFor_4 rfl rfl (.tail _ (.head _)) ?_
  refine r_iconst (pc' := 6) dX12_closesFor_5 rfl ?_
  refine r_S2p (pc' := 9) dX12_closesFor_6 rfl lX12_111 (by decide) (Nat.le_of_ble_eq_true rfl) (tX12_placeOf ) ?_
  refine r_iload_n (i := 2) (pc' := 10) dX12_closesFor_9 rfl rfl (.tail _ (.tail _ (.head _))) ?_
  refine r_iastore (pc' := 11) dX12_closesFor_10 rfl (by first | assumption | rfl) (by omega) (by omega) (by omega) (by first | decide | omega) (show _ = 130 + 86 * k + 4 by omega) ?_
  refine r_aload_n (i := 0) (pc' := 12) dX12_closesFor_11 rfl rfl (.head _) ?_
  refine r_getR (pc' := 15) dX12_closesFor_12 rfl fX12_3 rfl (by first | assumption | rfl) (by omega) (by assumption) ?_
  refine r_iload_n (i := 1) (pc' := 16) dX12_closesFor_15 rfl rfl (.tail _ (.head _)) ?_
  refine r_iconst (pc' := 17) dX12_closesFor_16 rfl ?_
  refine r_S2p (pc' := 20) dX12_closesFor_17 rfl lX12_111 (by decide) (Nat.le_of_ble_eq_true rfl) (tX12_placeOf ) ?_
  refine r_aload_n (i := 0) (pc' := 21) dX12_closesFor_20 rfl rfl (.head _) ?_
  refine r_getR (pc' := 24) dX12_closesFor_21 rfl fX12_3 rfl (by first | assumption | rfl) (by omega) (by assumption) ?_
  refine r_iconst (pc' := 25) dX12_closesFor_24 rfl ?_
  refine r_iaload (pc' := 26) dX12_closesFor_25 rfl (by first | assumption | rfl) (by omega) (by omega) (by omega) (by first | decide | omega) (show Int.toNat 0 = 0 from rfl) ?_
  rw [xv_up_ne _ _ (by omega), hv]
  refine r_iastore (pc' := 27) dX12_closesFor_26 rfl (by first | assumption | rfl) (by omega) (by omega) (by omega) (by first | decide | omega) (show _ = 130 + 86 * k + 5 by omega) ?_
  refine r_return dX12_closesFor_27 rfl ?_
  exact ⟨rfl, rfl, rfl, rfl, rfl⟩
set_option maxHeartbeats 4000000 in
set_option maxRecDepth 100000 in
theorem tX12_cuts {l : Launch} {g : q_G} {n : Nat} {P : q_P} {X : q_X} {Y : q_Y} (hm : isMod n P) {C : q_X} {b : Nat} (hR : RB C b (xv X 468)) (hO : bOk C b) {k : Nat} (hk : (k : Int) < xv C b 10) (hT : xv C (b + 15) 0 ≤ 80) (hk0 : bk_ref C b (k : Int) = 0) : q_Met l g mX12_cuts 4 [.ref (g.1 + 467), .int (zi (k : Int))] n P X Y (q_gv (fun n' P' X' Y' => n' = n ∧ P' = P ∧ Y' = Y ∧ rOut X X' ∧ RB (bk_rel C b k 0) b (xv X' 468))) := by
  obtain ⟨m0, m2, m3, m8, m9, m14, m15, m16, m17, m18, m20, m22, m25, hnm9⟩ := id hm
  obtain ⟨o0, o1, o2, o3, o4, o5, o6, o10, oc, op0, opz, opi, om0, omi, olim⟩ := id hO
  have hck := hO.c hk
  obtain ⟨hf, hf2, hf3, hf4, hfj, hfs, hfg⟩ := id hck
  refine q_enter (L := [(0, .ref (g.1 + 467)), (1, .int (zi (k : Int)))]) (by decide) (Nat.le_of_ble_eq_true rfl) rfl ?_
  refine r_aload_n (i := 0) (pc' := 1) dX12_cuts_0 rfl rfl (.head _) ?_
  refine r_getR (pc' := 4) dX12_cuts_1 rfl fX12_3 rfl (by first | assumption | rfl) (by omega) (by assumption) ?_
  refine r_iconst (pc' := 5) dX12_cuts_4 rfl ?_
  refine r_iaload (pc' := 6) dX12_cuts_5 rfl (by first | assumption | rfl) (by omega) (by omega) (by omega) (by first | decide | omega) (show Int.toNat 0 = 0 from rfl) ?_
  rw [hR.z 0 (by decide)]
  refine r_istore_n (i := 2) (pc' := 7) dX12_cuts_6 rfl rfl rfl (.s1 (.s1 .nil rfl rfl rfl) rfl rfl rfl) ?_
  refine r_aload_n (i := 0) (pc' := 8) dX12_cuts_7 rfl rfl (.head _) ?_
  refine r_getR (pc' := 11) dX12_cuts_8 rfl fX12_3 rfl (by first | assumption | rfl) (by omega) (by assumption) ?_
  refine r_bipush (pc' := 13) dX12_cuts_11 rfl (by decide) ?_
  refine r_iload_n (i := 2) (pc' := 14) dX12_cuts_13 rfl rfl (.tail _ (.tail _ (.head _))) ?_
  refine r_iadd (pc' := 15) dX12_cuts_14 rfl ?_
  refine r_dup2 (pc' := 16) dX12_cuts_15 rfl rfl rfl ?_
  refine r_iaload (pc' := 17) dX12_cuts_16 rfl (by first | assumption | rfl) (by omega) (by omega) (by omega) (by first | decide | omega) rfl ?_
  rw [hR.dead (by omega)]
  refine r_aload_n (i := 0) (pc' := 18) dX12_cuts_17 rfl rfl (.head _) ?_
  refine r_iload_n (i := 1) (pc' := 19) dX12_cuts_18 rfl rfl (.tail _ (.head _)) ?_
  refine r_aload_n (i := 0) (pc' := 20) dX12_cuts_19 rfl rfl (.head _) ?_
  refine r_getR (pc' := 23) dX12_cuts_20 rfl fX12_3 rfl (by first | assumption | rfl) (by omega) (by assumption) ?_
  refine r_iconst (pc' := 24) dX12_cuts_23 rfl ?_
  refine r_iaload (pc' := 25) dX12_cuts_24 rfl (by first | assumption | rfl) (by omega) (by omega) (by omega) (by first | decide | omega) (show Int.toNat 1 = 1 from rfl) ?_
  rw [hR.z 1 (by decide)]
  refine r_V2p (ci := 12) (pc' := 28) dX12_cuts_25 rfl lX12_218 rfl (by decide) (Nat.le_of_ble_eq_true rfl) (by first | assumption | rfl) (by omega) (tX12_deadNow hm hR hO hk (by omega)) ?_
  refine r_iadd (pc' := 29) dX12_cuts_28 rfl ?_
  refine r_iastore (pc' := 30) dX12_cuts_29 rfl (by first | assumption | rfl) (by omega) (by omega) (by omega) (by first | decide | omega) (show _ = 30 + (xv C b 0).toNat by omega) ?_
  obtain ⟨C2, hC2⟩ : ∃ C2, q_up C (b + 2) (xv C b 0).toNat (zi (xv C (b + 2) (xv C b 0).toNat + bk_dead C b (con b k) (xv C b 1))) = C2 := ⟨_, rfl⟩
  have hR2 : RB C2 b (xv (q_up X 468 (30 + (xv C b 0).toNat) (zi (xv C (b + 2) (xv C b 0).toNat + bk_dead C b (con b k) (xv C b 1)))) 468) := by rw [← hC2]; exact hR.ud hO hT (by omega) _
  have hag : bAg C C2 b := by rw [← hC2]; exact bAg_up _ _ _ _
  have hO2 := bOk_ag hag hO
  have hz2 := hag.z
  have hT2 : xv C2 (b + 15) 0 ≤ 80 := by rw [hag 15 (by omega) (by omega)]; exact hT
  have hro : rOut X (q_up X 468 (30 + (xv C b 0).toNat) (zi (xv C (b + 2) (xv C b 0).toNat + bk_dead C b (con b k) (xv C b 1)))) := rOut.rfl.up (by omega)
  have hd2 : xv C2 (b + 2) (xv C b 0 + 1).toNat = xv C (b + 2) (xv C b 0 + 1).toNat := by rw [← hC2]; exact xv_up_ne _ _ (by omega)
  generalize q_up X 468 (30 + (xv C b 0).toNat) (zi (xv C (b + 2) (xv C b 0).toNat + bk_dead C b (con b k) (xv C b 1))) = X2 at hR2 hro ⊢
  have hy2 : xv X2 468 0 = xv C b 0 := by rw [hR2.z 0 (by decide), hz2]
  refine r_iload_n (i := 2) (pc' := 31) dX12_cuts_30 rfl rfl (.tail _ (.tail _ (.head _))) ?_
  refine r_bipush (pc' := 33) dX12_cuts_31 rfl (by decide) ?_
  refine r_icmp_ge (t := 61) (f := 36) dX12_cuts_33 (by decide) rfl (by first | omega | exact xv_in _ _ _) (by first | omega | exact xv_in _ _ _) (fun h33 => ?_) (fun h33 => ?_)
  · refine r_aload_n (i := 0) (pc' := 62) dX12_cuts_61 rfl rfl (.head _) ?_
    refine r_iload_n (i := 1) (pc' := 63) dX12_cuts_62 rfl rfl (.tail _ (.head _)) ?_
    refine r_iconst (pc' := 64) dX12_cuts_63 rfl ?_
    refine r_V2gv (ci := 12) (pc' := 67) dX12_cuts_64 rfl lX12_275 rfl (by decide) (Nat.le_of_ble_eq_true rfl) (by first | assumption | rfl) (by omega) (tX12_closesFor hm (k := k) (by omega) (v := xv C b 0) (by first | exact hy2 | (rw [xv_up_ne _ _ (by omega)]; exact hy2))) (fun n64 P64 X64 Y64 e64 le64 => ?_)
    obtain ⟨hg1_64, hg2_64, hg3_64, hg4_64⟩ := e64
    have g1_64 := Eq.symm hg1_64
    have g2_64 := Eq.symm hg2_64
    have g3_64 := Eq.symm hg3_64
    have g4_64 := Eq.symm hg4_64
    clear hg1_64 hg2_64 hg3_64 hg4_64
    subst g1_64 g2_64 g3_64 g4_64
    refine r_return dX12_cuts_67 rfl ?_
    refine ⟨rfl, rfl, rfl, rfl, ?_, ?_⟩
    · first
        | exact (hro.up (by omega)).up (by omega)
        | exact ((hro.up (by omega)).up (by omega)).up (by omega)
    · unfold bk_rel
      rw [if_neg (fun q => q hk0)]
      first
        | (rw [if_pos (show xv C b 0 < 19 by omega), Int.toNat_natCast, if_pos rfl, hC2]
           exact RB.us (hR2.ud hO2 hT2 (by omega) _) (bOk_ag (bAg_up _ _ _ _) hO2) (by rw [xv_up_row _ _ _ (by omega)]; exact hT2) (by omega) _ _)
        | (rw [if_neg (show ¬ xv C b 0 < 19 by omega), Int.toNat_natCast, if_pos rfl, hC2]
           exact RB.us hR2 hO2 hT2 (by omega) _ _)
  · refine r_aload_n (i := 0) (pc' := 37) dX12_cuts_36 rfl rfl (.head _) ?_
    refine r_getR (pc' := 40) dX12_cuts_37 rfl fX12_3 rfl (by first | assumption | rfl) (by omega) (by assumption) ?_
    refine r_bipush (pc' := 42) dX12_cuts_40 rfl (by decide) ?_
    refine r_iload_n (i := 2) (pc' := 43) dX12_cuts_42 rfl rfl (.tail _ (.tail _ (.head _))) ?_
    refine r_iadd (pc' := 44) dX12_cuts_43 rfl ?_
    refine r_iconst (pc' := 45) dX12_cuts_44 rfl ?_
    refine r_iadd (pc' := 46) dX12_cuts_45 rfl ?_
    refine r_dup2 (pc' := 47) dX12_cuts_46 rfl rfl rfl ?_
    refine r_iaload (pc' := 48) dX12_cuts_47 rfl (by first | assumption | rfl) (by omega) (by omega) (by omega) (by first | decide | omega) rfl ?_
    rw [show (30 + xv C b 0 + 1).toNat = (30 + (xv C b 0 + 1)).toNat by omega, hR2.dead (by omega), hd2]
    refine r_aload_n (i := 0) (pc' := 49) dX12_cuts_48 rfl rfl (.head _) ?_
    refine r_iload_n (i := 1) (pc' := 50) dX12_cuts_49 rfl rfl (.tail _ (.head _)) ?_
    refine r_aload_n (i := 0) (pc' := 51) dX12_cuts_50 rfl rfl (.head _) ?_
    refine r_getR (pc' := 54) dX12_cuts_51 rfl fX12_3 rfl (by first | assumption | rfl) (by omega) (by assumption) ?_
    refine r_iconst (pc' := 55) dX12_cuts_54 rfl ?_
    refine r_iaload (pc' := 56) dX12_cuts_55 rfl (by first | assumption | rfl) (by omega) (by omega) (by omega) (by first | decide | omega) (show Int.toNat 1 = 1 from rfl) ?_
    rw [hR2.z 1 (by decide), hz2]
    refine r_V2p (ci := 12) (pc' := 59) dX12_cuts_56 rfl lX12_221 rfl (by decide) (Nat.le_of_ble_eq_true rfl) (by first | assumption | rfl) (by omega) (tX12_deadLater hm hR2 hO2 (by rw [hz2]; exact hk) (by omega)) ?_
    rw [bk_next_ag hag (hag.c (by omega))]
    refine r_iadd (pc' := 60) dX12_cuts_59 rfl ?_
    refine r_iastore (pc' := 61) dX12_cuts_60 rfl (by first | assumption | rfl) (by omega) (by omega) (by omega) (by first | decide | omega) (show _ = 30 + (xv C b 0 + 1).toNat by omega) ?_
    refine r_aload_n (i := 0) (pc' := 62) dX12_cuts_61 rfl rfl (.head _) ?_
    refine r_iload_n (i := 1) (pc' := 63) dX12_cuts_62 rfl rfl (.tail _ (.head _)) ?_
    refine r_iconst (pc' := 64) dX12_cuts_63 rfl ?_
    refine r_V2gv (ci := 12) (pc' := 67) dX12_cuts_64 rfl lX12_275 rfl (by decide) (Nat.le_of_ble_eq_true rfl) (by first | assumption | rfl) (by omega) (tX12_closesFor hm (k := k) (by omega) (v := xv C b 0) (by first | exact hy2 | (rw [xv_up_ne _ _ (by omega)]; exact hy2))) (fun n64 P64 X64 Y64 e64 le64 => ?_)
    obtain ⟨hg1_64, hg2_64, hg3_64, hg4_64⟩ := e64
    have g1_64 := Eq.symm hg1_64
    have g2_64 := Eq.symm hg2_64
    have g3_64 := Eq.symm hg3_64
    have g4_64 := Eq.symm hg4_64
    clear hg1_64 hg2_64 hg3_64 hg4_64
    subst g1_64 g2_64 g3_64 g4_64
    refine r_return dX12_cuts_67 rfl ?_
    refine ⟨rfl, rfl, rfl, rfl, ?_, ?_⟩
    · first
        | exact (hro.up (by omega)).up (by omega)
        | exact ((hro.up (by omega)).up (by omega)).up (by omega)
    · unfold bk_rel
      rw [if_neg (fun q => q hk0)]
      first
        | (rw [if_pos (show xv C b 0 < 19 by omega), Int.toNat_natCast, if_pos rfl, hC2]
           exact RB.us (hR2.ud hO2 hT2 (by omega) _) (bOk_ag (bAg_up _ _ _ _) hO2) (by rw [xv_up_row _ _ _ (by omega)]; exact hT2) (by omega) _ _)
        | (rw [if_neg (show ¬ xv C b 0 < 19 by omega), Int.toNat_natCast, if_pos rfl, hC2]
           exact RB.us hR2 hO2 hT2 (by omega) _ _)
def rDE (C' : q_X) (b : Nat) (a : Int) (n : Nat) (P : q_P) (X : q_X) (Y : q_Y) (r' : Int) (n' : Nat) (P' : q_P) (X' : q_X) (Y' : q_Y) : Prop := n' = n ∧ P' = P ∧ Y' = Y ∧ rOut (dd (q_up X 467 19 (zi 0)) 0) X' ∧ RB C' b (xv X' 468) ∧ r' = a
def rNO (w : Int) (n : Nat) (P : q_P) (X : q_X) (Y : q_Y) (r' : Int) (n' : Nat) (P' : q_P) (X' : q_X) (Y' : q_Y) : Prop := n' = n ∧ P' = P ∧ Y' = Y ∧ X' = q_up X 467 19 (zi w) ∧ r' = -1
set_option maxHeartbeats 4000000 in
set_option maxRecDepth 100000 in
theorem tX12_cut {l : Launch} {g : q_G} {n : Nat} {P : q_P} {X : q_X} {Y : q_Y} (hm : isMod n P) {C : q_X} {b : Nat} (hR : RB C b (xv X 468)) (hO : bOk C b) {k : Int} (hki : q_in k) (hT : xv C (b + 15) 0 ≤ 80) (hD : 0 ≤ xv X 467 1 ∧ xv X 467 1 ≤ 8) : q_Met l g mX12_cut 5 [.ref (g.1 + 467), .int (zi k)] n P X Y (q_gi (fun r' n' P' X' Y' => if bk_ref C b k = 0 then rDE (bk_rel C b k 0) b (bk_many (bk_rel C b k 0) b 0 0 (xv (bk_rel C b k 0) b 10).toNat) n P X Y r' n' P' X' Y' else rNO (bk_ref C b k) n P X Y r' n' P' X' Y')) := by
  obtain ⟨m0, m2, m3, m8, m9, m14, m15, m16, m17, m18, m20, m22, m25, hnm9⟩ := id hm
  obtain ⟨o0, o1, o2, o3, o4, o5, o6, o10, oc, op0, opz, opi, om0, omi, olim⟩ := id hO
  have hin := bk_ref_in C b k
  refine q_enter (L := [(0, .ref (g.1 + 467)), (1, .int (zi k))]) (by decide) (Nat.le_of_ble_eq_true rfl) rfl ?_
  by_cases hk0 : bk_ref C b k = 0
  · have hh := bk_ref_has hk0
    obtain ⟨kn, rfl⟩ : ∃ kn : Nat, k = (kn : Int) := ⟨k.toNat, by omega⟩
    have hk : (kn : Int) < xv C b 10 := hh.2
    have hck := hO.c hk
    have hO3 := bOk_rel 0 hO hk0
    have hO4 := bOk_rel 1 hO hk0
    refine r_aload_n (i := 0) (pc' := 1) dX12_cut_0 rfl rfl (.head _) ?_
    refine r_aload_n (i := 0) (pc' := 2) dX12_cut_1 rfl rfl (.head _) ?_
    refine r_iload_n (i := 1) (pc' := 3) dX12_cut_2 rfl rfl (.tail _ (.head _)) ?_
    refine r_V1p (ci := 12) (pc' := 6) dX12_cut_3 rfl lX12_278 rfl (by decide) (Nat.le_of_ble_eq_true rfl) (by first | assumption | rfl) (by omega) (tX12_whyNot (by assumption) (by assumption) (by assumption) (by first | omega | assumption)) ?_
    refine r_V1gi (ci := 12) (pc' := 9) dX12_cut_6 rfl lX12_281 rfl (by decide) (Nat.le_of_ble_eq_true rfl) (by first | assumption | rfl) (by omega) (tX12_refuses hm (by first | exact hin | omega)) (fun r6 n6 P6 X6 Y6 e6 le6 => ?_)
    obtain ⟨h1v, h2v, h3v, h4v, hr6⟩ := e6
    rw [if_pos hk0] at hr6
    rw [hk0] at h4v
    subst h1v h2v h3v h4v hr6
    refine r_if_eq (t := 14) (f := 12) dX12_cut_9 (by decide) rfl (by first | omega | exact xv_in _ _ _) (fun h9 => ?_) (fun h9 => ?_)
    · refine r_aload_n (i := 0) (pc' := 15) dX12_cut_14 rfl rfl (.head _) ?_
      refine r_iconst (pc' := 16) dX12_cut_15 rfl ?_
      refine r_V1gv (ci := 12) (pc' := 19) dX12_cut_16 rfl lX12_72 rfl (by decide) (Nat.le_of_ble_eq_true rfl) (by first | assumption | rfl) (by omega) (tX12_deedOf hm (s := 0) (by omega) (by rw [xv_up_ne _ _ (by omega)]; exact hD)) (fun n16 P16 X16 Y16 e16 le16 => ?_)
      obtain ⟨hg1_16, hg2_16, hg3_16, hg4_16⟩ := e16
      have g1_16 := Eq.symm hg1_16
      have g2_16 := Eq.symm hg2_16
      have g3_16 := Eq.symm hg3_16
      have g4_16 := Eq.symm hg4_16
      clear hg1_16 hg2_16 hg3_16 hg4_16
      subst g1_16 g2_16 g3_16 g4_16
      have hRd := RB.dd (X := q_up X 467 19 (zi 0)) (by rw [xv_up_row _ _ _ (by omega)]; exact hR) hO hT (by rw [xv_up_ne _ _ (by omega)]; exact hD)
      have hrd : rOut (dd (q_up X 467 19 (zi 0)) 0) (dd (q_up X 467 19 (zi 0)) 0) := rOut.rfl
      generalize hXd : dd (q_up X 467 19 (zi 0)) 0 = Xd at hRd hrd ⊢
      refine r_aload_n (i := 0) (pc' := 20) dX12_cut_19 rfl rfl (.head _) ?_
      refine r_iload_n (i := 1) (pc' := 21) dX12_cut_20 rfl rfl (.tail _ (.head _)) ?_
      refine r_V1gv (ci := 12) (pc' := 24) dX12_cut_21 rfl lX12_284 rfl (by decide) (Nat.le_of_ble_eq_true rfl) (by first | assumption | rfl) (by omega) (tX12_cuts hm hRd hO hk hT hk0) (fun n21 P21 X21 Y21 e21 le21 => ?_)
      obtain ⟨h1v, h2v, h3v, hro21, hR21⟩ := e21
      subst h1v h2v h3v
      refine r_aload_n (i := 0) (pc' := 25) dX12_cut_24 rfl rfl (.head _) ?_
      refine r_iconst (pc' := 26) dX12_cut_25 rfl ?_
      refine r_V1p (ci := 12) (pc' := 29) dX12_cut_26 rfl lX12_250 rfl (by decide) (Nat.le_of_ble_eq_true rfl) (by first | assumption | rfl) (by omega) (tX12_howMany hm hR21 hO3 (by omega)) ?_
      refine r_ireturn dX12_cut_29 rfl ?_
      refine ⟨_, rfl, ?_⟩
      dsimp only
      rw [if_pos hk0]
      exact ⟨rfl, rfl, rfl, by rw [hXd]; exact hro21, hR21, rfl⟩
    · exfalso; omega
  · refine r_aload_n (i := 0) (pc' := 1) dX12_cut_0 rfl rfl (.head _) ?_
    refine r_aload_n (i := 0) (pc' := 2) dX12_cut_1 rfl rfl (.head _) ?_
    refine r_iload_n (i := 1) (pc' := 3) dX12_cut_2 rfl rfl (.tail _ (.head _)) ?_
    refine r_V1p (ci := 12) (pc' := 6) dX12_cut_3 rfl lX12_278 rfl (by decide) (Nat.le_of_ble_eq_true rfl) (by first | assumption | rfl) (by omega) (tX12_whyNot (by assumption) (by assumption) (by assumption) (by first | omega | assumption)) ?_
    refine r_V1gi (ci := 12) (pc' := 9) dX12_cut_6 rfl lX12_281 rfl (by decide) (Nat.le_of_ble_eq_true rfl) (by first | assumption | rfl) (by omega) (tX12_refuses hm (by first | exact hin | omega)) (fun r6 n6 P6 X6 Y6 e6 le6 => ?_)
    obtain ⟨h1v, h2v, h3v, h4v, hr6⟩ := e6
    rw [if_neg hk0] at hr6
    subst h1v h2v h3v h4v hr6
    refine r_if_eq (t := 14) (f := 12) dX12_cut_9 (by decide) rfl (by first | omega | exact xv_in _ _ _) (fun h9 => ?_) (fun h9 => ?_)
    · exfalso; omega
    · refine r_iconst (pc' := 13) dX12_cut_12 rfl ?_
      refine r_ireturn dX12_cut_13 rfl ?_
      refine ⟨_, rfl, ?_⟩
      dsimp only
      rw [if_neg hk0]
      exact ⟨rfl, rfl, rfl, rfl, rfl⟩
