set_option maxHeartbeats 4000000 in
set_option maxRecDepth 100000 in
theorem tX12_spreads {l : Launch} {g : q_G} {n : Nat} {P : q_P} {X : q_X} {Y : q_Y} (hm : isMod n P) {C : q_X} {b : Nat} (hR : RB C b (xv X 468)) (hO : bOk C b) {k : Nat} (hk : (k : Int) < xv C b 10) (hT : xv C (b + 15) 0 ≤ 80) {x y : Int} (hx : q_in x) (hy : 0 ≤ y ∧ y < 20) (hf0 : xv C (con b k) 0 ≤ y) (hfl : y ≤ c_last C (con b k)) : q_Met l g mX12_spreads 4 [.ref (g.1 + 467), .int (zi (k : Int)), .int (zi x), .int (zi y)] n P X Y (q_gv (fun n' P' X' Y' => n' = n ∧ P' = P ∧ Y' = Y ∧ rOut X X' ∧ RB (c_spread C (con b k) y x) b (xv X' 468))) := by
  obtain ⟨m0, m2, m3, m8, m9, m14, m15, m16, m17, m18, m20, m22, m25, hnm9⟩ := id hm
  obtain ⟨o0, o1, o2, o3, o4, o5, o6, o10, oc, op0, opz, opi, om0, omi, olim⟩ := id hO
  have hck := hO.c hk
  obtain ⟨hf, hf2, hf3, hf4, hfj, hfs, hfg⟩ := id hck
  refine q_enter (L := [(0, .ref (g.1 + 467)), (1, .int (zi (k : Int))), (2, .int (zi x)), (3, .int (zi y))]) (by decide) (Nat.le_of_ble_eq_true rfl) rfl ?_
  have hlst : c_last C (con b k) = xv C (con b k) 0 + xv C (con b k) 1 + xv C (con b k) 2 - 1 := rfl
  obtain ⟨yn, rfl⟩ : ∃ yn : Nat, y = (yn : Int) := ⟨y.toNat, by omega⟩
  have hgv := (hR.y hk (y := yn) (by omega)).2.2.2
  rw [c_given, if_pos (by omega)] at hgv
  have hsp : c_spread C (con b k) (yn : Int) x = c_spN (q_up C (con b k + 4) ((yn : Int) - xv C (con b k) 0).toNat (zi (xv C (con b k + 4) ((yn : Int) - xv C (con b k) 0).toNat + x))) (con b k) ((yn : Int) - xv C (con b k) 0).toNat x (c_last C (con b k) - (yn : Int) + 1) (min 5 (c_last C (con b k) - (yn : Int) + 1)).toNat := by
    unfold c_spread
    rw [if_pos (by omega)]
    obtain ⟨d, hd⟩ : ∃ d, min 5 (10 - ((yn : Int) - xv C (con b k) 0).toNat) = (min 5 (c_last C (con b k) - (yn : Int) + 1)).toNat + d := ⟨min 5 (10 - ((yn : Int) - xv C (con b k) 0).toNat) - (min 5 (c_last C (con b k) - (yn : Int) + 1)).toNat, by omega⟩
    rw [hd, c_spN_id (by omega)]
  refine r_aload_n (i := 0) (pc' := 1) dX12_spreads_0 rfl rfl (.head _) ?_
  refine r_iload_n (i := 1) (pc' := 2) dX12_spreads_1 rfl rfl (.tail _ (.head _)) ?_
  refine r_iload_n (i := 3) (pc' := 3) dX12_spreads_2 rfl rfl (.tail _ (.tail _ (.tail _ (.head _)))) ?_
  refine r_V2p (ci := 12) (pc' := 6) dX12_spreads_3 rfl lX12_125 rfl (by decide) (Nat.le_of_ble_eq_true rfl) (by first | assumption | rfl) (by omega) (tX12_partsFrom hm hR hO hk (by omega)) ?_
  refine r_istore (pc' := 8) dX12_spreads_6 rfl rfl (.s1 (.s1 (.s1 (.s1 .nil rfl rfl rfl) rfl rfl rfl) rfl rfl rfl) rfl rfl rfl) ?_
  refine r_aload_n (i := 0) (pc' := 9) dX12_spreads_8 rfl rfl (.head _) ?_
  refine r_getR (pc' := 12) dX12_spreads_9 rfl fX12_3 rfl (by first | assumption | rfl) (by omega) (by assumption) ?_
  refine r_iload_n (i := 1) (pc' := 13) dX12_spreads_12 rfl rfl (.tail _ (.head _)) ?_
  refine r_bipush (pc' := 15) dX12_spreads_13 rfl (by decide) ?_
  refine r_iload_n (i := 3) (pc' := 16) dX12_spreads_15 rfl rfl (.tail _ (.tail _ (.tail _ (.head _)))) ?_
  refine r_iadd (pc' := 17) dX12_spreads_16 rfl ?_
  refine r_S2p (pc' := 20) dX12_spreads_17 rfl lX12_111 (by decide) (Nat.le_of_ble_eq_true rfl) (tX12_placeOf ) ?_
  refine r_dup2 (pc' := 21) dX12_spreads_20 rfl rfl rfl ?_
  refine r_iaload (pc' := 22) dX12_spreads_21 rfl (by first | assumption | rfl) (by omega) (by omega) (by omega) (by first | decide | omega) (show _ = 130 + 86 * k + (66 + yn) by omega) ?_
  rw [hgv]
  refine r_iload_n (i := 2) (pc' := 23) dX12_spreads_22 rfl rfl (.tail _ (.tail _ (.head _))) ?_
  refine r_iadd (pc' := 24) dX12_spreads_23 rfl ?_
  refine r_iastore (pc' := 25) dX12_spreads_24 rfl (by first | assumption | rfl) (by omega) (by omega) (by omega) (by first | decide | omega) (show _ = 130 + 86 * k + (66 + yn) by omega) ?_
  refine r_iconst (pc' := 26) dX12_spreads_25 rfl ?_
  refine r_istore (pc' := 28) dX12_spreads_26 rfl rfl (.s1 (.s1 (.s1 (.s1 (.s1 .nil rfl rfl rfl) rfl rfl rfl) rfl rfl rfl) rfl rfl rfl) rfl rfl rfl) ?_
  rw [hsp]
  exact lX12_spreads hm hck hk (by omega) hT hx hf0 hfl (xv_up_row _ _ _ (by unfold con; omega)) (xv_up_row _ _ _ (by omega)) (xv_up_row _ _ _ (by unfold con; omega)) _ 0 _ (Nat.zero_add _) (rOut.rfl.up (by omega)) (hR.ug hT (by omega) (by omega) (by omega) _)
set_option maxHeartbeats 4000000 in
set_option maxRecDepth 100000 in
theorem tX12_turn {l : Launch} {g : q_G} {n : Nat} {P : q_P} {X : q_X} {Y : q_Y} (hm : isMod n P) {C : q_X} {b : Nat} (hR : RB C b (xv X 468)) (hO : bOk C b) {k : Int} (hki : q_in k) (hT : xv C (b + 15) 0 ≤ 80) (hD : 0 ≤ xv X 467 1 ∧ xv X 467 1 ≤ 8) {v : Int} (hv : q_in v) : q_Met l g mX12_turn 5 [.ref (g.1 + 467), .int (zi k), .int (zi v)] n P X Y (q_gi (fun r' n' P' X' Y' => if bk_pref C b k v = 0 then rDE (bk_turn C b k v) b (c_hit (bk_turn C b k v) (con b k.toNat) (xv C b 0)) n P X Y r' n' P' X' Y' else rNO (bk_pref C b k v) n P X Y r' n' P' X' Y')) := by
  obtain ⟨m0, m2, m3, m8, m9, m14, m15, m16, m17, m18, m20, m22, m25, hnm9⟩ := id hm
  obtain ⟨o0, o1, o2, o3, o4, o5, o6, o10, oc, op0, opz, opi, om0, omi, olim⟩ := id hO
  have hin := bk_pref_in C b k v
  refine q_enter (L := [(0, .ref (g.1 + 467)), (1, .int (zi k)), (2, .int (zi v))]) (by decide) (Nat.le_of_ble_eq_true rfl) rfl ?_
  by_cases hk0 : bk_pref C b k v = 0
  · have hpr := bk_pref_ref hk0
    have hh := bk_ref_has hpr.1
    obtain ⟨kn, rfl⟩ : ∃ kn : Nat, k = (kn : Int) := ⟨k.toNat, by omega⟩
    simp only [Int.toNat_natCast] at hpr
    have hk : (kn : Int) < xv C b 10 := hh.2
    have hck := hO.c hk
    have hpl : c_plays C (con b kn) (xv C b 0) := by
      by_cases g : c_plays C (con b kn) (xv C b 0)
      · exact g
      · have q0 : c_base C (con b kn) (xv C b 0) = 0 := by unfold c_base; rw [if_neg g]
        omega
    have hbs : c_base C (con b kn) (xv C b 0) = xv C (con b kn + 1) (xv C b 0 - xv C (con b kn) 0).toNat := by unfold c_base; rw [if_pos hpl]
    refine r_aload_n (i := 0) (pc' := 1) dX12_turn_0 rfl rfl (.head _) ?_
    refine r_aload_n (i := 0) (pc' := 2) dX12_turn_1 rfl rfl (.head _) ?_
    refine r_iload_n (i := 1) (pc' := 3) dX12_turn_2 rfl rfl (.tail _ (.head _)) ?_
    refine r_iload_n (i := 2) (pc' := 4) dX12_turn_3 rfl rfl (.tail _ (.tail _ (.head _))) ?_
    refine r_V2p (ci := 12) (pc' := 7) dX12_turn_4 rfl lX12_308 rfl (by decide) (Nat.le_of_ble_eq_true rfl) (by first | assumption | rfl) (by omega) (tX12_whyNotLess hm hR hO (by first | assumption | omega) (by first | assumption | omega)) ?_
    refine r_V1gi (ci := 12) (pc' := 10) dX12_turn_7 rfl lX12_281 rfl (by decide) (Nat.le_of_ble_eq_true rfl) (by first | assumption | rfl) (by omega) (tX12_refuses hm (by first | exact hin | omega)) (fun r7 n7 P7 X7 Y7 e7 le7 => ?_)
    obtain ⟨h1v, h2v, h3v, h4v, hr7⟩ := e7
    rw [if_pos hk0] at hr7
    rw [hk0] at h4v
    subst h1v h2v h3v h4v hr7
    refine r_if_eq (t := 15) (f := 13) dX12_turn_10 (by decide) rfl (by first | omega | exact xv_in _ _ _) (fun h10 => ?_) (fun h10 => ?_)
    · refine r_aload_n (i := 0) (pc' := 16) dX12_turn_15 rfl rfl (.head _) ?_
      refine r_iconst (pc' := 17) dX12_turn_16 rfl ?_
      refine r_V1gv (ci := 12) (pc' := 20) dX12_turn_17 rfl lX12_72 rfl (by decide) (Nat.le_of_ble_eq_true rfl) (by first | assumption | rfl) (by omega) (tX12_deedOf hm (s := 0) (by omega) (by rw [xv_up_ne _ _ (by omega)]; exact hD)) (fun n17 P17 X17 Y17 e17 le17 => ?_)
      obtain ⟨hg1_17, hg2_17, hg3_17, hg4_17⟩ := e17
      have g1_17 := Eq.symm hg1_17
      have g2_17 := Eq.symm hg2_17
      have g3_17 := Eq.symm hg3_17
      have g4_17 := Eq.symm hg4_17
      clear hg1_17 hg2_17 hg3_17 hg4_17
      subst g1_17 g2_17 g3_17 g4_17
      have hRd := RB.dd (X := q_up X 467 19 (zi 0)) (by rw [xv_up_row _ _ _ (by omega)]; exact hR) hO hT (by rw [xv_up_ne _ _ (by omega)]; exact hD)
      have hrd : rOut (dd (q_up X 467 19 (zi 0)) 0) (dd (q_up X 467 19 (zi 0)) 0) := rOut.rfl
      generalize hXd : dd (q_up X 467 19 (zi 0)) 0 = Xd at hRd hrd ⊢
      refine r_aload_n (i := 0) (pc' := 21) dX12_turn_20 rfl rfl (.head _) ?_
      refine r_getR (pc' := 24) dX12_turn_21 rfl fX12_3 rfl (by first | assumption | rfl) (by omega) (by assumption) ?_
      refine r_iload_n (i := 1) (pc' := 25) dX12_turn_24 rfl rfl (.tail _ (.head _)) ?_
      refine r_bipush (pc' := 27) dX12_turn_25 rfl (by decide) ?_
      refine r_aload_n (i := 0) (pc' := 28) dX12_turn_27 rfl rfl (.head _) ?_
      refine r_getR (pc' := 31) dX12_turn_28 rfl fX12_3 rfl (by first | assumption | rfl) (by omega) (by assumption) ?_
      refine r_iconst (pc' := 32) dX12_turn_31 rfl ?_
      refine r_iaload (pc' := 33) dX12_turn_32 rfl (by first | assumption | rfl) (by omega) (by omega) (by omega) (by first | decide | omega) (show Int.toNat 0 = 0 from rfl) ?_
      rw [hRd.z 0 (by decide)]
      refine r_iadd (pc' := 34) dX12_turn_33 rfl ?_
      refine r_S2p (pc' := 37) dX12_turn_34 rfl lX12_111 (by decide) (Nat.le_of_ble_eq_true rfl) (tX12_placeOf ) ?_
      refine r_dup2 (pc' := 38) dX12_turn_37 rfl rfl rfl ?_
      refine r_iaload (pc' := 39) dX12_turn_38 rfl (by first | assumption | rfl) (by omega) (by omega) (by omega) (by first | decide | omega) (show _ = 130 + 86 * kn + (6 + (xv C b 0).toNat) by omega) ?_
      rw [(hRd.y hk (y := (xv C b 0).toNat) (by omega)).1, Int.toNat_of_nonneg o0.1]
      refine r_iload_n (i := 2) (pc' := 40) dX12_turn_39 rfl rfl (.tail _ (.tail _ (.head _))) ?_
      refine r_isub (pc' := 41) dX12_turn_40 rfl ?_
      refine r_iastore (pc' := 42) dX12_turn_41 rfl (by first | assumption | rfl) (by omega) (by omega) (by omega) (by first | decide | omega) (show _ = 130 + 86 * kn + (6 + (xv C b 0).toNat) by omega) ?_
      have hlow : bk_low C b (kn : Int) v = q_up C (con b kn + 1) (xv C b 0 - xv C (con b kn) 0).toNat (zi (c_base C (con b kn) (xv C b 0) - v)) := by
        unfold bk_low; rw [Int.toNat_natCast, if_pos hpl, hbs]
      have hR3 : RB (bk_low C b (kn : Int) v) b (xv (q_up Xd 468 (130 + 86 * kn + (6 + (xv C b 0).toNat)) (zi (c_base C (con b kn) (xv C b 0) - v))) 468) := by
        have q := hRd.ub hT (k := kn) (y := (xv C b 0).toNat) (by omega) (by rw [Int.toNat_of_nonneg o0.1]; exact hpl) (by omega) (zi (c_base C (con b kn) (xv C b 0) - v))
        rw [Int.toNat_of_nonneg o0.1] at q
        rw [hlow]; exact q
      have hr3 : rOut Xd (q_up Xd 468 (130 + 86 * kn + (6 + (xv C b 0).toNat)) (zi (c_base C (con b kn) (xv C b 0) - v))) := rOut.rfl.up (by omega)
      have hlb : xv (bk_low C b (kn : Int) v) b = xv C b := bk_low_o (by unfold con; omega)
      generalize q_up Xd 468 (130 + 86 * kn + (6 + (xv C b 0).toNat)) (zi (c_base C (con b kn) (xv C b 0) - v)) = X3 at hR3 hr3 ⊢
      have hO3 : bOk (bk_low C b (kn : Int) v) b := bOk_low hO hk0
      have hlc : xv (bk_low C b (kn : Int) v) (con b kn) = xv C (con b kn) := bk_low_o (by rw [Int.toNat_natCast]; omega)
      have hlT : xv (bk_low C b (kn : Int) v) (b + 15) 0 ≤ 80 := by rw [bk_low_o (by unfold con; omega)]; exact hT
      have hlk : (kn : Int) < xv (bk_low C b (kn : Int) v) b 10 := by rw [hlb]; exact hk
      have hcl : c_last (bk_low C b (kn : Int) v) (con b kn) = c_last C (con b kn) := by simp only [c_last, hlc]
      have hlst : c_last C (con b kn) = xv C (con b kn) 0 + xv C (con b kn) 1 + xv C (con b kn) 2 - 1 := rfl
      have hc2 := hck.2.1
      have hO4 : bOk (bk_turn C b (kn : Int) v) b := bOk_turn hO hk0
      have htb : xv (bk_turn C b (kn : Int) v) b = xv C b := bk_turn_o (by unfold con; omega)
      refine r_aload_n (i := 0) (pc' := 43) dX12_turn_42 rfl rfl (.head _) ?_
      refine r_iload_n (i := 1) (pc' := 44) dX12_turn_43 rfl rfl (.tail _ (.head _)) ?_
      refine r_iload_n (i := 2) (pc' := 45) dX12_turn_44 rfl rfl (.tail _ (.tail _ (.head _))) ?_
      refine r_aload_n (i := 0) (pc' := 46) dX12_turn_45 rfl rfl (.head _) ?_
      refine r_getR (pc' := 49) dX12_turn_46 rfl fX12_3 rfl (by first | assumption | rfl) (by omega) (by assumption) ?_
      refine r_iconst (pc' := 50) dX12_turn_49 rfl ?_
      refine r_iaload (pc' := 51) dX12_turn_50 rfl (by first | assumption | rfl) (by omega) (by omega) (by omega) (by first | decide | omega) (show Int.toNat 0 = 0 from rfl) ?_
      rw [hR3.z 0 (by decide), hlb]
      refine r_V3gv (ci := 12) (pc' := 54) dX12_turn_51 rfl lX12_136 rfl (by decide) (Nat.le_of_ble_eq_true rfl) (by first | assumption | rfl) (by omega) (tX12_spreads hm hR3 hO3 hlk hlT (by omega) (by omega) (by rw [hlc]; exact hpl.1) (by rw [hcl]; omega)) (fun n51 P51 X51 Y51 e51 le51 => ?_)
      obtain ⟨h1v, h2v, h3v, hro51, hR51⟩ := e51
      subst h1v h2v h3v
      replace hR51 : RB (bk_turn C b (kn : Int) v) b (xv X51 468) := hR51
      refine r_aload_n (i := 0) (pc' := 55) dX12_turn_54 rfl rfl (.head _) ?_
      refine r_iload_n (i := 1) (pc' := 56) dX12_turn_55 rfl rfl (.tail _ (.head _)) ?_
      refine r_aload_n (i := 0) (pc' := 57) dX12_turn_56 rfl rfl (.head _) ?_
      refine r_getR (pc' := 60) dX12_turn_57 rfl fX12_3 rfl (by first | assumption | rfl) (by omega) (by assumption) ?_
      refine r_iconst (pc' := 61) dX12_turn_60 rfl ?_
      refine r_iaload (pc' := 62) dX12_turn_61 rfl (by first | assumption | rfl) (by omega) (by omega) (by omega) (by first | decide | omega) (show Int.toNat 0 = 0 from rfl) ?_
      rw [hR51.z 0 (by decide), htb]
      refine r_V2p (ci := 12) (pc' := 65) dX12_turn_62 rfl lX12_230 rfl (by decide) (Nat.le_of_ble_eq_true rfl) (by first | assumption | rfl) (by omega) (tX12_hitOf hm hR51 hO4 (by rw [htb]; exact hk) (by omega)) ?_
      refine r_ireturn dX12_turn_65 rfl ?_
      refine ⟨_, rfl, ?_⟩
      dsimp only
      rw [if_pos hk0]
      exact ⟨rfl, rfl, rfl, by rw [hXd]; exact hr3.trans hro51, hR51, rfl⟩
    · exfalso; omega
  · refine r_aload_n (i := 0) (pc' := 1) dX12_turn_0 rfl rfl (.head _) ?_
    refine r_aload_n (i := 0) (pc' := 2) dX12_turn_1 rfl rfl (.head _) ?_
    refine r_iload_n (i := 1) (pc' := 3) dX12_turn_2 rfl rfl (.tail _ (.head _)) ?_
    refine r_iload_n (i := 2) (pc' := 4) dX12_turn_3 rfl rfl (.tail _ (.tail _ (.head _))) ?_
    refine r_V2p (ci := 12) (pc' := 7) dX12_turn_4 rfl lX12_308 rfl (by decide) (Nat.le_of_ble_eq_true rfl) (by first | assumption | rfl) (by omega) (tX12_whyNotLess hm hR hO (by first | assumption | omega) (by first | assumption | omega)) ?_
    refine r_V1gi (ci := 12) (pc' := 10) dX12_turn_7 rfl lX12_281 rfl (by decide) (Nat.le_of_ble_eq_true rfl) (by first | assumption | rfl) (by omega) (tX12_refuses hm (by first | exact hin | omega)) (fun r7 n7 P7 X7 Y7 e7 le7 => ?_)
    obtain ⟨h1v, h2v, h3v, h4v, hr7⟩ := e7
    rw [if_neg hk0] at hr7
    subst h1v h2v h3v h4v hr7
    refine r_if_eq (t := 15) (f := 13) dX12_turn_10 (by decide) rfl (by first | omega | exact xv_in _ _ _) (fun h10 => ?_) (fun h10 => ?_)
    · exfalso; omega
    · refine r_iconst (pc' := 14) dX12_turn_13 rfl ?_
      refine r_ireturn dX12_turn_14 rfl ?_
      refine ⟨_, rfl, ?_⟩
      dsimp only
      rw [if_neg hk0]
      exact ⟨rfl, rfl, rfl, rfl, rfl⟩
