set_option maxHeartbeats 4000000 in
set_option maxRecDepth 100000 in
theorem tX12_trade {l : Launch} {g : q_G} {n : Nat} {P : q_P} {X : q_X} {Y : q_Y} (hm : isMod n P) {C : q_X} {b : Nat} (hR : RB C b (xv X 468)) (hO : bOk C b) {k : Int} (hki : q_in k) (hT : xv C (b + 15) 0 ≤ 80) (hD : 0 ≤ xv X 467 1 ∧ xv X 467 1 ≤ 8) : q_Met l g mX12_trade 4 [.ref (g.1 + 467), .int (zi k)] n P X Y (q_gi (fun r' n' P' X' Y' => if bk_ref C b k = 0 then rDE (bk_rel C b k 1) b (bk_many (bk_rel C b k 1) b 0 0 (xv (bk_rel C b k 1) b 10).toNat) n P X Y r' n' P' X' Y' else rNO (bk_ref C b k) n P X Y r' n' P' X' Y')) := by
  obtain ⟨m0, m2, m3, m8, m9, m14, m15, m16, m17, m18, m20, m22, m25, hnm9⟩ := id hm
  obtain ⟨o0, o1, o2, o3, o4, o5, o6, o10, oc, op0, opz, opi, om0, omi, olim⟩ := id hO
  have hin := bk_ref_in C b k
  refine q_enter (L := [(0, .ref (g.1 + 467)), (1, .int (zi k))]) (by decide) (Nat.le_of_ble_eq_true rfl) rfl ?_
  by_cases hk0 : bk_ref C b k = 0
  · have hh := bk_ref_has hk0
    obtain ⟨kn, rfl⟩ : ∃ kn : Nat, k = (kn : Int) := ⟨k.toNat, by omega⟩
    have hk : (kn : Int) < xv C b 10 := hh.2
    have hck := hO.c hk
    have hO3 := bOk_rel 0 hO hk0
    have hO4 := bOk_rel 1 hO hk0
    refine r_aload_n (i := 0) (pc' := 1) dX12_trade_0 rfl rfl (.head _) ?_
    refine r_aload_n (i := 0) (pc' := 2) dX12_trade_1 rfl rfl (.head _) ?_
    refine r_iload_n (i := 1) (pc' := 3) dX12_trade_2 rfl rfl (.tail _ (.head _)) ?_
    refine r_V1p (ci := 12) (pc' := 6) dX12_trade_3 rfl lX12_278 rfl (by decide) (Nat.le_of_ble_eq_true rfl) (by first | assumption | rfl) (by omega) (tX12_whyNot (by assumption) (by assumption) (by assumption) (by first | omega | assumption)) ?_
    refine r_V1gi (ci := 12) (pc' := 9) dX12_trade_6 rfl lX12_281 rfl (by decide) (Nat.le_of_ble_eq_true rfl) (by first | assumption | rfl) (by omega) (tX12_refuses hm (by first | exact hin | omega)) (fun r6 n6 P6 X6 Y6 e6 le6 => ?_)
    obtain ⟨h1v, h2v, h3v, h4v, hr6⟩ := e6
    rw [if_pos hk0] at hr6
    rw [hk0] at h4v
    subst h1v h2v h3v h4v hr6
    refine r_if_eq (t := 14) (f := 12) dX12_trade_9 (by decide) rfl (by first | omega | exact xv_in _ _ _) (fun h9 => ?_) (fun h9 => ?_)
    · refine r_aload_n (i := 0) (pc' := 15) dX12_trade_14 rfl rfl (.head _) ?_
      refine r_iconst (pc' := 16) dX12_trade_15 rfl ?_
      refine r_V1gv (ci := 12) (pc' := 19) dX12_trade_16 rfl lX12_72 rfl (by decide) (Nat.le_of_ble_eq_true rfl) (by first | assumption | rfl) (by omega) (tX12_deedOf hm (s := 0) (by omega) (by rw [xv_up_ne _ _ (by omega)]; exact hD)) (fun n16 P16 X16 Y16 e16 le16 => ?_)
      obtain ⟨hg1_16, hg2_16, hg3_16, hg4_16⟩ := e16
      have g1_16 := Eq.symm hg1_16
      have g2_16 := Eq.symm hg2_16
      have g3_16 := Eq.symm hg3_16
      have g4_16 := Eq.symm hg4_16
      clear hg1_16 hg2_16 hg3_16 hg4_16
      subst g1_16 g2_16 g3_16 g4_16
      have hRd := RB.dd (X := q_up X 467 19 (zi 0)) (by rw [xv_up_row _ _ _ (by omega)]; exact hR) hO hT (by rw [xv_up_ne _ _ (by omega)]; exact hD)
      have hrd : rOut (dd (q_up X 467 19 (zi 0)) 0) (dd (q_up X 467 19 (zi 0)) 0) := rOut.rfl
      generalize hXd : dd (q_up X 467 19 (zi 0)) 0 = Xd at hRd hrd ⊢
      refine r_aload_n (i := 0) (pc' := 20) dX12_trade_19 rfl rfl (.head _) ?_
      refine r_getR (pc' := 23) dX12_trade_20 rfl fX12_3 rfl (by first | assumption | rfl) (by omega) (by assumption) ?_
      refine r_iconst (pc' := 24) dX12_trade_23 rfl ?_
      refine r_iaload (pc' := 25) dX12_trade_24 rfl (by first | assumption | rfl) (by omega) (by omega) (by omega) (by first | decide | omega) (show Int.toNat 0 = 0 from rfl) ?_
      rw [hRd.z 0 (by decide)]
      refine r_istore_n (i := 2) (pc' := 26) dX12_trade_25 rfl rfl rfl (.s1 (.s1 .nil rfl rfl rfl) rfl rfl rfl) ?_
      refine r_aload_n (i := 0) (pc' := 27) dX12_trade_26 rfl rfl (.head _) ?_
      refine r_iload_n (i := 1) (pc' := 28) dX12_trade_27 rfl rfl (.tail _ (.head _)) ?_
      refine r_aload_n (i := 0) (pc' := 29) dX12_trade_28 rfl rfl (.head _) ?_
      refine r_getR (pc' := 32) dX12_trade_29 rfl fX12_3 rfl (by first | assumption | rfl) (by omega) (by assumption) ?_
      refine r_iconst (pc' := 33) dX12_trade_32 rfl ?_
      refine r_iaload (pc' := 34) dX12_trade_33 rfl (by first | assumption | rfl) (by omega) (by omega) (by omega) (by first | decide | omega) (show Int.toNat 1 = 1 from rfl) ?_
      rw [hRd.z 1 (by decide)]
      refine r_V2p (ci := 12) (pc' := 37) dX12_trade_34 rfl lX12_221 rfl (by decide) (Nat.le_of_ble_eq_true rfl) (by first | assumption | rfl) (by omega) (tX12_deadLater hm hRd hO hk (by omega)) ?_
      refine r_istore_n (i := 3) (pc' := 38) dX12_trade_37 rfl rfl rfl (.s1 (.s1 (.s1 .nil rfl rfl rfl) rfl rfl rfl) rfl rfl rfl) ?_
      refine r_aload_n (i := 0) (pc' := 39) dX12_trade_38 rfl rfl (.head _) ?_
      refine r_getR (pc' := 42) dX12_trade_39 rfl fX12_3 rfl (by first | assumption | rfl) (by omega) (by assumption) ?_
      refine r_bipush (pc' := 44) dX12_trade_42 rfl (by decide) ?_
      refine r_iload_n (i := 2) (pc' := 45) dX12_trade_44 rfl rfl (.tail _ (.tail _ (.head _))) ?_
      refine r_iadd (pc' := 46) dX12_trade_45 rfl ?_
      refine r_dup2 (pc' := 47) dX12_trade_46 rfl rfl rfl ?_
      refine r_iaload (pc' := 48) dX12_trade_47 rfl (by first | assumption | rfl) (by omega) (by omega) (by omega) (by first | decide | omega) rfl ?_
      rw [hRd.dead (by omega)]
      refine r_aload_n (i := 0) (pc' := 49) dX12_trade_48 rfl rfl (.head _) ?_
      refine r_iload_n (i := 1) (pc' := 50) dX12_trade_49 rfl rfl (.tail _ (.head _)) ?_
      refine r_iload_n (i := 2) (pc' := 51) dX12_trade_50 rfl rfl (.tail _ (.tail _ (.head _))) ?_
      refine r_V2p (ci := 12) (pc' := 54) dX12_trade_51 rfl lX12_212 rfl (by decide) (Nat.le_of_ble_eq_true rfl) (by first | assumption | rfl) (by omega) (tX12_partsBehind hm hRd hO hk (by omega)) ?_
      refine r_iload_n (i := 3) (pc' := 55) dX12_trade_54 rfl rfl (.tail _ (.tail _ (.tail _ (.head _)))) ?_
      refine r_isub (pc' := 56) dX12_trade_55 rfl ?_
      refine r_iadd (pc' := 57) dX12_trade_56 rfl ?_
      rw [show c_from C (con b kn) (xv C b 0) - bk_next C b (con b kn) (xv C b 1) = bk_dNow C b (con b kn) (xv C b 1) by unfold bk_next; omega]
      refine r_iastore (pc' := 58) dX12_trade_57 rfl (by first | assumption | rfl) (by omega) (by omega) (by omega) (by first | decide | omega) (show _ = 30 + (xv C b 0).toNat by omega) ?_
      obtain ⟨C2, hC2⟩ : ∃ C2, q_up C (b + 2) (xv C b 0).toNat (zi (xv C (b + 2) (xv C b 0).toNat + bk_dNow C b (con b kn) (xv C b 1))) = C2 := ⟨_, rfl⟩
      have hR2 : RB C2 b (xv (q_up Xd 468 (30 + (xv C b 0).toNat) (zi (xv C (b + 2) (xv C b 0).toNat + bk_dNow C b (con b kn) (xv C b 1)))) 468) := by rw [← hC2]; exact hRd.ud hO hT (by omega) _
      have hag : bAg C C2 b := by rw [← hC2]; exact bAg_up _ _ _ _
      have hO2 := bOk_ag hag hO
      have hz2 := hag.z
      have hT2 : xv C2 (b + 15) 0 ≤ 80 := by rw [hag 15 (by omega) (by omega)]; exact hT
      have hro : rOut Xd (q_up Xd 468 (30 + (xv C b 0).toNat) (zi (xv C (b + 2) (xv C b 0).toNat + bk_dNow C b (con b kn) (xv C b 1)))) := rOut.rfl.up (by omega)
      have hd2 : xv C2 (b + 2) (xv C b 0 + 1).toNat = xv C (b + 2) (xv C b 0 + 1).toNat := by rw [← hC2]; exact xv_up_ne _ _ (by omega)
      generalize q_up Xd 468 (30 + (xv C b 0).toNat) (zi (xv C (b + 2) (xv C b 0).toNat + bk_dNow C b (con b kn) (xv C b 1))) = X2 at hR2 hro ⊢
      have hy2 : xv X2 468 0 = xv C b 0 := by rw [hR2.z 0 (by decide), hz2]
      refine r_iload_n (i := 2) (pc' := 59) dX12_trade_58 rfl rfl (.tail _ (.tail _ (.head _))) ?_
      refine r_bipush (pc' := 61) dX12_trade_59 rfl (by decide) ?_
      refine r_icmp_ge (t := 79) (f := 64) dX12_trade_61 (by decide) rfl (by first | omega | exact xv_in _ _ _) (by first | omega | exact xv_in _ _ _) (fun h61 => ?_) (fun h61 => ?_)
      · refine r_aload_n (i := 0) (pc' := 80) dX12_trade_79 rfl rfl (.head _) ?_
        refine r_iload_n (i := 1) (pc' := 81) dX12_trade_80 rfl rfl (.tail _ (.head _)) ?_
        refine r_iconst (pc' := 82) dX12_trade_81 rfl ?_
        refine r_V2gv (ci := 12) (pc' := 85) dX12_trade_82 rfl lX12_275 rfl (by decide) (Nat.le_of_ble_eq_true rfl) (by first | assumption | rfl) (by omega) (tX12_closesFor hm (k := kn) (by omega) (v := xv C b 0) (by first | exact hy2 | (rw [xv_up_ne _ _ (by omega)]; exact hy2))) (fun n82 P82 X82 Y82 e82 le82 => ?_)
        obtain ⟨h1v, h2v, h3v, hX82⟩ := e82
        subst h1v h2v h3v
        have hRe : RB (bk_rel C b (kn : Int) 1) b (xv X82 468) := by
          rw [hX82]
          unfold bk_rel
          rw [if_neg (fun q => q hk0)]
          first
            | (rw [if_pos (show xv C b 0 < 19 by omega), Int.toNat_natCast, if_neg (by omega), hC2]
               exact RB.us (hR2.ud hO2 hT2 (by omega) _) (bOk_ag (bAg_up _ _ _ _) hO2) (by rw [xv_up_row _ _ _ (by omega)]; exact hT2) (by omega) _ _)
            | (rw [if_neg (show ¬ xv C b 0 < 19 by omega), Int.toNat_natCast, if_neg (by omega), hC2]
               exact RB.us hR2 hO2 hT2 (by omega) _ _)
        refine r_aload_n (i := 0) (pc' := 86) dX12_trade_85 rfl rfl (.head _) ?_
        refine r_iconst (pc' := 87) dX12_trade_86 rfl ?_
        refine r_V1p (ci := 12) (pc' := 90) dX12_trade_87 rfl lX12_250 rfl (by decide) (Nat.le_of_ble_eq_true rfl) (by first | assumption | rfl) (by omega) (tX12_howMany hm hRe hO4 (by omega)) ?_
        refine r_ireturn dX12_trade_90 rfl ?_
        refine ⟨_, rfl, ?_⟩
        dsimp only
        rw [if_pos hk0]
        refine ⟨rfl, rfl, rfl, ?_, hRe, rfl⟩
        rw [hXd, hX82]
        first
          | exact (hro.up (by omega)).up (by omega)
          | exact ((hro.up (by omega)).up (by omega)).up (by omega)
      · refine r_aload_n (i := 0) (pc' := 65) dX12_trade_64 rfl rfl (.head _) ?_
        refine r_getR (pc' := 68) dX12_trade_65 rfl fX12_3 rfl (by first | assumption | rfl) (by omega) (by assumption) ?_
        refine r_bipush (pc' := 70) dX12_trade_68 rfl (by decide) ?_
        refine r_iload_n (i := 2) (pc' := 71) dX12_trade_70 rfl rfl (.tail _ (.tail _ (.head _))) ?_
        refine r_iadd (pc' := 72) dX12_trade_71 rfl ?_
        refine r_iconst (pc' := 73) dX12_trade_72 rfl ?_
        refine r_iadd (pc' := 74) dX12_trade_73 rfl ?_
        refine r_dup2 (pc' := 75) dX12_trade_74 rfl rfl rfl ?_
        refine r_iaload (pc' := 76) dX12_trade_75 rfl (by first | assumption | rfl) (by omega) (by omega) (by omega) (by first | decide | omega) rfl ?_
        rw [show (30 + xv C b 0 + 1).toNat = (30 + (xv C b 0 + 1)).toNat by omega, hR2.dead (by omega), hd2]
        refine r_iload_n (i := 3) (pc' := 77) dX12_trade_76 rfl rfl (.tail _ (.tail _ (.tail _ (.head _)))) ?_
        refine r_iadd (pc' := 78) dX12_trade_77 rfl ?_
        refine r_iastore (pc' := 79) dX12_trade_78 rfl (by first | assumption | rfl) (by omega) (by omega) (by omega) (by first | decide | omega) (show _ = 30 + (xv C b 0 + 1).toNat by omega) ?_
        refine r_aload_n (i := 0) (pc' := 80) dX12_trade_79 rfl rfl (.head _) ?_
        refine r_iload_n (i := 1) (pc' := 81) dX12_trade_80 rfl rfl (.tail _ (.head _)) ?_
        refine r_iconst (pc' := 82) dX12_trade_81 rfl ?_
        refine r_V2gv (ci := 12) (pc' := 85) dX12_trade_82 rfl lX12_275 rfl (by decide) (Nat.le_of_ble_eq_true rfl) (by first | assumption | rfl) (by omega) (tX12_closesFor hm (k := kn) (by omega) (v := xv C b 0) (by first | exact hy2 | (rw [xv_up_ne _ _ (by omega)]; exact hy2))) (fun n82 P82 X82 Y82 e82 le82 => ?_)
        obtain ⟨h1v, h2v, h3v, hX82⟩ := e82
        subst h1v h2v h3v
        have hRe : RB (bk_rel C b (kn : Int) 1) b (xv X82 468) := by
          rw [hX82]
          unfold bk_rel
          rw [if_neg (fun q => q hk0)]
          first
            | (rw [if_pos (show xv C b 0 < 19 by omega), Int.toNat_natCast, if_neg (by omega), hC2]
               exact RB.us (hR2.ud hO2 hT2 (by omega) _) (bOk_ag (bAg_up _ _ _ _) hO2) (by rw [xv_up_row _ _ _ (by omega)]; exact hT2) (by omega) _ _)
            | (rw [if_neg (show ¬ xv C b 0 < 19 by omega), Int.toNat_natCast, if_neg (by omega), hC2]
               exact RB.us hR2 hO2 hT2 (by omega) _ _)
        refine r_aload_n (i := 0) (pc' := 86) dX12_trade_85 rfl rfl (.head _) ?_
        refine r_iconst (pc' := 87) dX12_trade_86 rfl ?_
        refine r_V1p (ci := 12) (pc' := 90) dX12_trade_87 rfl lX12_250 rfl (by decide) (Nat.le_of_ble_eq_true rfl) (by first | assumption | rfl) (by omega) (tX12_howMany hm hRe hO4 (by omega)) ?_
        refine r_ireturn dX12_trade_90 rfl ?_
        refine ⟨_, rfl, ?_⟩
        dsimp only
        rw [if_pos hk0]
        refine ⟨rfl, rfl, rfl, ?_, hRe, rfl⟩
        rw [hXd, hX82]
        first
          | exact (hro.up (by omega)).up (by omega)
          | exact ((hro.up (by omega)).up (by omega)).up (by omega)
    · exfalso; omega
  · refine r_aload_n (i := 0) (pc' := 1) dX12_trade_0 rfl rfl (.head _) ?_
    refine r_aload_n (i := 0) (pc' := 2) dX12_trade_1 rfl rfl (.head _) ?_
    refine r_iload_n (i := 1) (pc' := 3) dX12_trade_2 rfl rfl (.tail _ (.head _)) ?_
    refine r_V1p (ci := 12) (pc' := 6) dX12_trade_3 rfl lX12_278 rfl (by decide) (Nat.le_of_ble_eq_true rfl) (by first | assumption | rfl) (by omega) (tX12_whyNot (by assumption) (by assumption) (by assumption) (by first | omega | assumption)) ?_
    refine r_V1gi (ci := 12) (pc' := 9) dX12_trade_6 rfl lX12_281 rfl (by decide) (Nat.le_of_ble_eq_true rfl) (by first | assumption | rfl) (by omega) (tX12_refuses hm (by first | exact hin | omega)) (fun r6 n6 P6 X6 Y6 e6 le6 => ?_)
    obtain ⟨h1v, h2v, h3v, h4v, hr6⟩ := e6
    rw [if_neg hk0] at hr6
    subst h1v h2v h3v h4v hr6
    refine r_if_eq (t := 14) (f := 12) dX12_trade_9 (by decide) rfl (by first | omega | exact xv_in _ _ _) (fun h9 => ?_) (fun h9 => ?_)
    · exfalso; omega
    · refine r_iconst (pc' := 13) dX12_trade_12 rfl ?_
      refine r_ireturn dX12_trade_13 rfl ?_
      refine ⟨_, rfl, ?_⟩
      dsimp only
      rw [if_neg hk0]
      exact ⟨rfl, rfl, rfl, rfl, rfl⟩
