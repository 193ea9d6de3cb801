theorem RB.upp {C X : q_X} {b k y : Nat} (h : RB C b (xv X 468)) (hT : xv C (b + 15) 0 ≤ 80) (hk0 : k < 40) (hp : 0 ≤ (y : Int) - xv C (con b k) 0 ∧ (y : Int) - xv C (con b k) 0 < 10) (hy : y < 20) (v : Int32) : RB (q_up C (con b k + 3) ((y : Int) - xv C (con b k) 0).toNat v) b (xv (q_up X 468 (130 + 86 * k + (46 + y)) v) 468) := by
  refine h.fc hT (k := k) hk0 (fun a ha => xv_up_row _ _ _ (by omega)) (fun j hj => xv_up_ne _ _ (by omega)) (fun hk => ?_)
  obtain ⟨r0, r1⟩ := h.2.2.1 k hk
  have z0 : xv (q_up C (con b k + 3) ((y : Int) - xv C (con b k) 0).toNat v) (con b k) = xv C (con b k) := xv_up_row _ _ _ (by omega)
  have z1 : xv (q_up C (con b k + 3) ((y : Int) - xv C (con b k) 0).toNat v) (con b k + 1) = xv C (con b k + 1) := xv_up_row _ _ _ (by omega)
  have z2 : xv (q_up C (con b k + 3) ((y : Int) - xv C (con b k) 0).toNat v) (con b k + 2) = xv C (con b k + 2) := xv_up_row _ _ _ (by omega)
  have z4 : xv (q_up C (con b k + 3) ((y : Int) - xv C (con b k) 0).toNat v) (con b k + 4) = xv C (con b k + 4) := xv_up_row _ _ _ (by omega)
  refine ⟨fun j hj => ?_, fun w hw => ?_⟩
  · dsimp only; rw [xv_up_ne _ _ (by omega), z0]; exact r0 j hj
  · obtain ⟨w1, w2, w3, w4⟩ := r1 w hw
    dsimp only at w1 w2 w3 w4 ⊢
    refine ⟨?_, ?_, ?_, ?_⟩
    · rw [xv_up_ne _ _ (by omega), w1]; unfold c_base c_plays; rw [z0, z1]
    · rw [xv_up_ne _ _ (by omega), w2]; unfold c_roster c_plays; rw [z0, z2]
    · by_cases q : w = y
      · subst q
        unfold c_parts
        rw [z0, if_pos hp]; simp only [xv, q_up_same]
      · rw [xv_up_ne _ _ (by omega), w3]
        unfold c_parts
        rw [z0]
        by_cases g : 0 ≤ (w : Int) - xv C (con b k) 0 ∧ (w : Int) - xv C (con b k) 0 < 10
        · rw [if_pos g, if_pos g, xv_up_ne _ _ (by omega)]
        · rw [if_neg g, if_neg g]
    · rw [xv_up_ne _ _ (by omega), w4]; unfold c_given; rw [z0, z4]
theorem RB.ug {C X : q_X} {b k y : Nat} (h : RB C b (xv X 468)) (hT : xv C (b + 15) 0 ≤ 80) (hk0 : k < 40) (hp : 0 ≤ (y : Int) - xv C (con b k) 0 ∧ (y : Int) - xv C (con b k) 0 < 10) (hy : y < 20) (v : Int32) : RB (q_up C (con b k + 4) ((y : Int) - xv C (con b k) 0).toNat v) b (xv (q_up X 468 (130 + 86 * k + (66 + y)) v) 468) := by
  refine h.fc hT (k := k) hk0 (fun a ha => xv_up_row _ _ _ (by omega)) (fun j hj => xv_up_ne _ _ (by omega)) (fun hk => ?_)
  obtain ⟨r0, r1⟩ := h.2.2.1 k hk
  have z0 : xv (q_up C (con b k + 4) ((y : Int) - xv C (con b k) 0).toNat v) (con b k) = xv C (con b k) := xv_up_row _ _ _ (by omega)
  have z1 : xv (q_up C (con b k + 4) ((y : Int) - xv C (con b k) 0).toNat v) (con b k + 1) = xv C (con b k + 1) := xv_up_row _ _ _ (by omega)
  have z2 : xv (q_up C (con b k + 4) ((y : Int) - xv C (con b k) 0).toNat v) (con b k + 2) = xv C (con b k + 2) := xv_up_row _ _ _ (by omega)
  have z3 : xv (q_up C (con b k + 4) ((y : Int) - xv C (con b k) 0).toNat v) (con b k + 3) = xv C (con b k + 3) := xv_up_row _ _ _ (by omega)
  refine ⟨fun j hj => ?_, fun w hw => ?_⟩
  · dsimp only; rw [xv_up_ne _ _ (by omega), z0]; exact r0 j hj
  · obtain ⟨w1, w2, w3, w4⟩ := r1 w hw
    dsimp only at w1 w2 w3 w4 ⊢
    refine ⟨?_, ?_, ?_, ?_⟩
    · rw [xv_up_ne _ _ (by omega), w1]; unfold c_base c_plays; rw [z0, z1]
    · rw [xv_up_ne _ _ (by omega), w2]; unfold c_roster c_plays; rw [z0, z2]
    · rw [xv_up_ne _ _ (by omega), w3]; unfold c_parts; rw [z0, z3]
    · by_cases q : w = y
      · subst q
        unfold c_given
        rw [z0, if_pos hp]; simp only [xv, q_up_same]
      · rw [xv_up_ne _ _ (by omega), w4]
        unfold c_given
        rw [z0]
        by_cases g : 0 ≤ (w : Int) - xv C (con b k) 0 ∧ (w : Int) - xv C (con b k) 0 < 10
        · rw [if_pos g, if_pos g, xv_up_ne _ _ (by omega)]
        · rw [if_neg g, if_neg g]
set_option maxHeartbeats 4000000 in
set_option maxRecDepth 100000 in
theorem tX12_lower {l : Launch} {g : q_G} {n : Nat} {P : q_P} {X : q_X} {Y : q_Y} (hm : isMod n P) {C : q_X} {b : Nat} (hR : RB C b (xv X 468)) (hO : bOk C b) {k : Int} (hki : q_in k) (hT : xv C (b + 15) 0 ≤ 80) (hD : 0 ≤ xv X 467 1 ∧ xv X 467 1 ≤ 8) {v : Int} (hv : q_in v) : q_Met l g mX12_lower 5 [.ref (g.1 + 467), .int (zi k), .int (zi v)] n P X Y (q_gi (fun r' n' P' X' Y' => if bk_pref C b k v = 0 then rDE (bk_low C b k v) b (c_hit (bk_low C b k v) (con b k.toNat) (xv C b 0)) n P X Y r' n' P' X' Y' else rNO (bk_pref C b k v) n P X Y r' n' P' X' Y')) := by
  obtain ⟨m0, m2, m3, m8, m9, m14, m15, m16, m17, m18, m20, m22, m25, hnm9⟩ := id hm
  obtain ⟨o0, o1, o2, o3, o4, o5, o6, o10, oc, op0, opz, opi, om0, omi, olim⟩ := id hO
  have hin := bk_pref_in C b k v
  refine q_enter (L := [(0, .ref (g.1 + 467)), (1, .int (zi k)), (2, .int (zi v))]) (by decide) (Nat.le_of_ble_eq_true rfl) rfl ?_
  by_cases hk0 : bk_pref C b k v = 0
  · have hpr := bk_pref_ref hk0
    have hh := bk_ref_has hpr.1
    obtain ⟨kn, rfl⟩ : ∃ kn : Nat, k = (kn : Int) := ⟨k.toNat, by omega⟩
    simp only [Int.toNat_natCast] at hpr
    have hk : (kn : Int) < xv C b 10 := hh.2
    have hck := hO.c hk
    have hpl : c_plays C (con b kn) (xv C b 0) := by
      by_cases g : c_plays C (con b kn) (xv C b 0)
      · exact g
      · have q0 : c_base C (con b kn) (xv C b 0) = 0 := by unfold c_base; rw [if_neg g]
        omega
    have hbs : c_base C (con b kn) (xv C b 0) = xv C (con b kn + 1) (xv C b 0 - xv C (con b kn) 0).toNat := by unfold c_base; rw [if_pos hpl]
    refine r_aload_n (i := 0) (pc' := 1) dX12_lower_0 rfl rfl (.head _) ?_
    refine r_aload_n (i := 0) (pc' := 2) dX12_lower_1 rfl rfl (.head _) ?_
    refine r_iload_n (i := 1) (pc' := 3) dX12_lower_2 rfl rfl (.tail _ (.head _)) ?_
    refine r_iload_n (i := 2) (pc' := 4) dX12_lower_3 rfl rfl (.tail _ (.tail _ (.head _))) ?_
    refine r_V2p (ci := 12) (pc' := 7) dX12_lower_4 rfl lX12_308 rfl (by decide) (Nat.le_of_ble_eq_true rfl) (by first | assumption | rfl) (by omega) (tX12_whyNotLess hm hR hO (by first | assumption | omega) (by first | assumption | omega)) ?_
    refine r_V1gi (ci := 12) (pc' := 10) dX12_lower_7 rfl lX12_281 rfl (by decide) (Nat.le_of_ble_eq_true rfl) (by first | assumption | rfl) (by omega) (tX12_refuses hm (by first | exact hin | omega)) (fun r7 n7 P7 X7 Y7 e7 le7 => ?_)
    obtain ⟨h1v, h2v, h3v, h4v, hr7⟩ := e7
    rw [if_pos hk0] at hr7
    rw [hk0] at h4v
    subst h1v h2v h3v h4v hr7
    refine r_if_eq (t := 15) (f := 13) dX12_lower_10 (by decide) rfl (by first | omega | exact xv_in _ _ _) (fun h10 => ?_) (fun h10 => ?_)
    · refine r_aload_n (i := 0) (pc' := 16) dX12_lower_15 rfl rfl (.head _) ?_
      refine r_iconst (pc' := 17) dX12_lower_16 rfl ?_
      refine r_V1gv (ci := 12) (pc' := 20) dX12_lower_17 rfl lX12_72 rfl (by decide) (Nat.le_of_ble_eq_true rfl) (by first | assumption | rfl) (by omega) (tX12_deedOf hm (s := 0) (by omega) (by rw [xv_up_ne _ _ (by omega)]; exact hD)) (fun n17 P17 X17 Y17 e17 le17 => ?_)
      obtain ⟨hg1_17, hg2_17, hg3_17, hg4_17⟩ := e17
      have g1_17 := Eq.symm hg1_17
      have g2_17 := Eq.symm hg2_17
      have g3_17 := Eq.symm hg3_17
      have g4_17 := Eq.symm hg4_17
      clear hg1_17 hg2_17 hg3_17 hg4_17
      subst g1_17 g2_17 g3_17 g4_17
      have hRd := RB.dd (X := q_up X 467 19 (zi 0)) (by rw [xv_up_row _ _ _ (by omega)]; exact hR) hO hT (by rw [xv_up_ne _ _ (by omega)]; exact hD)
      have hrd : rOut (dd (q_up X 467 19 (zi 0)) 0) (dd (q_up X 467 19 (zi 0)) 0) := rOut.rfl
      generalize hXd : dd (q_up X 467 19 (zi 0)) 0 = Xd at hRd hrd ⊢
      refine r_aload_n (i := 0) (pc' := 21) dX12_lower_20 rfl rfl (.head _) ?_
      refine r_getR (pc' := 24) dX12_lower_21 rfl fX12_3 rfl (by first | assumption | rfl) (by omega) (by assumption) ?_
      refine r_iload_n (i := 1) (pc' := 25) dX12_lower_24 rfl rfl (.tail _ (.head _)) ?_
      refine r_bipush (pc' := 27) dX12_lower_25 rfl (by decide) ?_
      refine r_aload_n (i := 0) (pc' := 28) dX12_lower_27 rfl rfl (.head _) ?_
      refine r_getR (pc' := 31) dX12_lower_28 rfl fX12_3 rfl (by first | assumption | rfl) (by omega) (by assumption) ?_
      refine r_iconst (pc' := 32) dX12_lower_31 rfl ?_
      refine r_iaload (pc' := 33) dX12_lower_32 rfl (by first | assumption | rfl) (by omega) (by omega) (by omega) (by first | decide | omega) (show Int.toNat 0 = 0 from rfl) ?_
      rw [hRd.z 0 (by decide)]
      refine r_iadd (pc' := 34) dX12_lower_33 rfl ?_
      refine r_S2p (pc' := 37) dX12_lower_34 rfl lX12_111 (by decide) (Nat.le_of_ble_eq_true rfl) (tX12_placeOf ) ?_
      refine r_dup2 (pc' := 38) dX12_lower_37 rfl rfl rfl ?_
      refine r_iaload (pc' := 39) dX12_lower_38 rfl (by first | assumption | rfl) (by omega) (by omega) (by omega) (by first | decide | omega) (show _ = 130 + 86 * kn + (6 + (xv C b 0).toNat) by omega) ?_
      rw [(hRd.y hk (y := (xv C b 0).toNat) (by omega)).1, Int.toNat_of_nonneg o0.1]
      refine r_iload_n (i := 2) (pc' := 40) dX12_lower_39 rfl rfl (.tail _ (.tail _ (.head _))) ?_
      refine r_isub (pc' := 41) dX12_lower_40 rfl ?_
      refine r_iastore (pc' := 42) dX12_lower_41 rfl (by first | assumption | rfl) (by omega) (by omega) (by omega) (by first | decide | omega) (show _ = 130 + 86 * kn + (6 + (xv C b 0).toNat) by omega) ?_
      have hlow : bk_low C b (kn : Int) v = q_up C (con b kn + 1) (xv C b 0 - xv C (con b kn) 0).toNat (zi (c_base C (con b kn) (xv C b 0) - v)) := by
        unfold bk_low; rw [Int.toNat_natCast, if_pos hpl, hbs]
      have hR3 : RB (bk_low C b (kn : Int) v) b (xv (q_up Xd 468 (130 + 86 * kn + (6 + (xv C b 0).toNat)) (zi (c_base C (con b kn) (xv C b 0) - v))) 468) := by
        have q := hRd.ub hT (k := kn) (y := (xv C b 0).toNat) (by omega) (by rw [Int.toNat_of_nonneg o0.1]; exact hpl) (by omega) (zi (c_base C (con b kn) (xv C b 0) - v))
        rw [Int.toNat_of_nonneg o0.1] at q
        rw [hlow]; exact q
      have hr3 : rOut Xd (q_up Xd 468 (130 + 86 * kn + (6 + (xv C b 0).toNat)) (zi (c_base C (con b kn) (xv C b 0) - v))) := rOut.rfl.up (by omega)
      have hlb : xv (bk_low C b (kn : Int) v) b = xv C b := bk_low_o (by unfold con; omega)
      generalize q_up Xd 468 (130 + 86 * kn + (6 + (xv C b 0).toNat)) (zi (c_base C (con b kn) (xv C b 0) - v)) = X3 at hR3 hr3 ⊢
      have hO3 : bOk (bk_low C b (kn : Int) v) b := bOk_low hO hk0
      refine r_aload_n (i := 0) (pc' := 43) dX12_lower_42 rfl rfl (.head _) ?_
      refine r_iload_n (i := 1) (pc' := 44) dX12_lower_43 rfl rfl (.tail _ (.head _)) ?_
      refine r_aload_n (i := 0) (pc' := 45) dX12_lower_44 rfl rfl (.head _) ?_
      refine r_getR (pc' := 48) dX12_lower_45 rfl fX12_3 rfl (by first | assumption | rfl) (by omega) (by assumption) ?_
      refine r_iconst (pc' := 49) dX12_lower_48 rfl ?_
      refine r_iaload (pc' := 50) dX12_lower_49 rfl (by first | assumption | rfl) (by omega) (by omega) (by omega) (by first | decide | omega) (show Int.toNat 0 = 0 from rfl) ?_
      rw [hR3.z 0 (by decide), hlb]
      refine r_V2p (ci := 12) (pc' := 53) dX12_lower_50 rfl lX12_230 rfl (by decide) (Nat.le_of_ble_eq_true rfl) (by first | assumption | rfl) (by omega) (tX12_hitOf hm hR3 hO3 (by rw [hlb]; exact hk) (by omega)) ?_
      refine r_ireturn dX12_lower_53 rfl ?_
      refine ⟨_, rfl, ?_⟩
      dsimp only
      rw [if_pos hk0]
      exact ⟨rfl, rfl, rfl, by rw [hXd]; exact hr3, hR3, rfl⟩
    · exfalso; omega
  · refine r_aload_n (i := 0) (pc' := 1) dX12_lower_0 rfl rfl (.head _) ?_
    refine r_aload_n (i := 0) (pc' := 2) dX12_lower_1 rfl rfl (.head _) ?_
    refine r_iload_n (i := 1) (pc' := 3) dX12_lower_2 rfl rfl (.tail _ (.head _)) ?_
    refine r_iload_n (i := 2) (pc' := 4) dX12_lower_3 rfl rfl (.tail _ (.tail _ (.head _))) ?_
    refine r_V2p (ci := 12) (pc' := 7) dX12_lower_4 rfl lX12_308 rfl (by decide) (Nat.le_of_ble_eq_true rfl) (by first | assumption | rfl) (by omega) (tX12_whyNotLess hm hR hO (by first | assumption | omega) (by first | assumption | omega)) ?_
    refine r_V1gi (ci := 12) (pc' := 10) dX12_lower_7 rfl lX12_281 rfl (by decide) (Nat.le_of_ble_eq_true rfl) (by first | assumption | rfl) (by omega) (tX12_refuses hm (by first | exact hin | omega)) (fun r7 n7 P7 X7 Y7 e7 le7 => ?_)
    obtain ⟨h1v, h2v, h3v, h4v, hr7⟩ := e7
    rw [if_neg hk0] at hr7
    subst h1v h2v h3v h4v hr7
    refine r_if_eq (t := 15) (f := 13) dX12_lower_10 (by decide) rfl (by first | omega | exact xv_in _ _ _) (fun h10 => ?_) (fun h10 => ?_)
    · exfalso; omega
    · refine r_iconst (pc' := 14) dX12_lower_13 rfl ?_
      refine r_ireturn dX12_lower_14 rfl ?_
      refine ⟨_, rfl, ?_⟩
      dsimp only
      rw [if_neg hk0]
      exact ⟨rfl, rfl, rfl, rfl, rfl⟩
