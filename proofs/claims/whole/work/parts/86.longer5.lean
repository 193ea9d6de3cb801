set_option maxHeartbeats 4000000 in
set_option maxRecDepth 100000 in
theorem tX12_longer {l : Launch} {g : q_G} {n : Nat} {P : q_P} {X : q_X} {Y : q_Y} (hm : isMod n P) {C : q_X} {b : Nat} (hR : RB C b (xv X 468)) (hO : bOk C b) {k : Int} (hki : q_in k) (hT : xv C (b + 15) 0 ≤ 80) (hD : 0 ≤ xv X 467 1 ∧ xv X 467 1 ≤ 8) (hL : bLv C b) {m v x : Int} (hm5 : q_in m) (hv : q_in v) (hx : q_in x) : q_Met l g mX12_longer 5 [.ref (g.1 + 467), .int (zi k), .int (zi m), .int (zi v), .int (zi x)] n P X Y (q_gi (fun r' n' P' X' Y' => if bk_lref C b k m v x = 0 then rDE (bk_long C b k m v x) b (c_last (bk_long C b k m v x) (con b k.toNat)) n P X Y r' n' P' X' Y' else rNO (bk_lref C b k m v x) n P X Y r' n' P' X' Y')) := by
  obtain ⟨m0, m2, m3, m8, m9, m14, m15, m16, m17, m18, m20, m22, m25, hnm9⟩ := id hm
  obtain ⟨o0, o1, o2, o3, o4, o5, o6, o10, oc, op0, opz, opi, om0, omi, olim⟩ := id hO
  have hin := bk_lref_in C b k m v x
  refine q_enter (L := [(0, .ref (g.1 + 467)), (1, .int (zi k)), (2, .int (zi m)), (3, .int (zi v)), (4, .int (zi x))]) (by decide) (Nat.le_of_ble_eq_true rfl) rfl ?_
  by_cases hk0 : bk_lref C b k m v x = 0
  · have hpr := bk_lref_ref hk0
    have hh := bk_ref_has hpr.1
    obtain ⟨kn, rfl⟩ : ∃ kn : Nat, k = (kn : Int) := ⟨k.toNat, by omega⟩
    obtain ⟨mn, rfl⟩ : ∃ mn : Nat, m = (mn : Int) := ⟨m.toNat, by omega⟩
    simp only [Int.toNat_natCast] at hpr
    have hk : (kn : Int) < xv C b 10 := hh.2
    have hck := hO.c hk
    have hc0 := hck.1
    have hc1 := hck.2.1
    have hop : xv C (con b kn) 4 = 0 ∧ xv C (con b kn) 0 ≤ xv C b 0 := by
      have q := hpr.1
      unfold bk_ref at q
      rw [if_neg (fun z => z hh), Int.toNat_natCast] at q
      split at q
      · omega
      · split at q <;> omega
    have hlv := hL kn hk hop.1
    have hlst : c_last C (con b kn) = xv C (con b kn) 0 + xv C (con b kn) 1 + xv C (con b kn) 2 - 1 := rfl
    have hO3 : bOk (bk_ext C (con b kn) mn v) b := by have q := bOk_ext hO hL hk0; rw [Int.toNat_natCast, Int.toNat_natCast] at q; exact q
    have hO4 : bOk (bk_long C b (kn : Int) (mn : Int) v x) b := bOk_long hO hL hk0
    have hlng : bk_long C b (kn : Int) (mn : Int) v x = c_spread (bk_ext C (con b kn) mn v) (con b kn) (xv C b 0) x := by rw [bk_long, Int.toNat_natCast, Int.toNat_natCast]
    have heb : xv (bk_ext C (con b kn) mn v) b = xv C b := bk_ext_o (by unfold con; omega)
    have heT : xv (bk_ext C (con b kn) mn v) (b + 15) 0 ≤ 80 := by rw [bk_ext_o (by unfold con; omega)]; exact hT
    have hek := fun j => bk_ext_c (X := C) (c := con b kn) (m := mn) (base := v) (by omega) (by omega) j
    have hle : c_last (bk_ext C (con b kn) mn v) (con b kn) = c_last C (con b kn) + mn := by unfold c_last; rw [hek, hek, hek, if_neg (by omega), if_pos rfl, if_neg (by omega)]; omega
    have hlnb : xv (bk_long C b (kn : Int) (mn : Int) v x) b = xv C b := by rw [hlng, c_spread_o _ _ _ _ (by unfold con; omega), heb]
    refine r_aload_n (i := 0) (pc' := 1) dX12_longer_0 rfl rfl (.head _) ?_
    refine r_aload_n (i := 0) (pc' := 2) dX12_longer_1 rfl rfl (.head _) ?_
    refine r_iload_n (i := 1) (pc' := 3) dX12_longer_2 rfl rfl (.tail _ (.head _)) ?_
    refine r_iload_n (i := 2) (pc' := 4) dX12_longer_3 rfl rfl (.tail _ (.tail _ (.head _))) ?_
    refine r_iload_n (i := 3) (pc' := 5) dX12_longer_4 rfl rfl (.tail _ (.tail _ (.tail _ (.head _)))) ?_
    refine r_iload (pc' := 7) dX12_longer_5 rfl (.tail _ (.tail _ (.tail _ (.tail _ (.head _))))) ?_
    refine r_V4p (ci := 12) (pc' := 10) dX12_longer_7 rfl lX12_313 rfl (by decide) (Nat.le_of_ble_eq_true rfl) (by first | assumption | rfl) (by omega) (tX12_whyNotLonger hm hR hO (by first | assumption | omega) (by first | assumption | omega) (by first | assumption | omega) (by first | assumption | omega)) ?_
    refine r_V1gi (ci := 12) (pc' := 13) dX12_longer_10 rfl lX12_281 rfl (by decide) (Nat.le_of_ble_eq_true rfl) (by first | assumption | rfl) (by omega) (tX12_refuses hm (by first | exact hin | omega)) (fun r10 n10 P10 X10 Y10 e10 le10 => ?_)
    obtain ⟨h1v, h2v, h3v, h4v, hr10⟩ := e10
    rw [if_pos hk0] at hr10
    rw [hk0] at h4v
    subst h1v h2v h3v h4v hr10
    refine r_if_eq (t := 18) (f := 16) dX12_longer_13 (by decide) rfl (by first | omega | exact xv_in _ _ _) (fun h13 => ?_) (fun h13 => ?_)
    · refine r_aload_n (i := 0) (pc' := 19) dX12_longer_18 rfl rfl (.head _) ?_
      refine r_iconst (pc' := 20) dX12_longer_19 rfl ?_
      refine r_V1gv (ci := 12) (pc' := 23) dX12_longer_20 rfl lX12_72 rfl (by decide) (Nat.le_of_ble_eq_true rfl) (by first | assumption | rfl) (by omega) (tX12_deedOf hm (s := 0) (by omega) (by rw [xv_up_ne _ _ (by omega)]; exact hD)) (fun n20 P20 X20 Y20 e20 le20 => ?_)
      obtain ⟨hg1_20, hg2_20, hg3_20, hg4_20⟩ := e20
      have g1_20 := Eq.symm hg1_20
      have g2_20 := Eq.symm hg2_20
      have g3_20 := Eq.symm hg3_20
      have g4_20 := Eq.symm hg4_20
      clear hg1_20 hg2_20 hg3_20 hg4_20
      subst g1_20 g2_20 g3_20 g4_20
      have hRd := RB.dd (X := q_up X 467 19 (zi 0)) (by rw [xv_up_row _ _ _ (by omega)]; exact hR) hO hT (by rw [xv_up_ne _ _ (by omega)]; exact hD)
      have hrd : rOut (dd (q_up X 467 19 (zi 0)) 0) (dd (q_up X 467 19 (zi 0)) 0) := rOut.rfl
      generalize hXd : dd (q_up X 467 19 (zi 0)) 0 = Xd at hRd hrd ⊢
      refine r_iconst (pc' := 24) dX12_longer_23 rfl ?_
      refine r_istore (pc' := 26) dX12_longer_24 rfl rfl (.s1 (.s1 (.s1 (.s1 (.s1 .nil rfl rfl rfl) rfl rfl rfl) rfl rfl rfl) rfl rfl rfl) rfl rfl rfl) ?_
      refine lX12_longer (m := mn) hm (by omega) (by omega) (hRd.f hk (j := 0) (by omega)) (hRd.f hk (j := 1) (by omega)) (by omega) ?_ mn 0 (Nat.zero_add _)
      refine r_aload_n (i := 0) (pc' := 60) dX12_longer_59 rfl rfl (.head _) ?_
      refine r_getR (pc' := 63) dX12_longer_60 rfl fX12_3 rfl (by first | assumption | rfl) (by omega) (by assumption) ?_
      refine r_iload_n (i := 1) (pc' := 64) dX12_longer_63 rfl rfl (.tail _ (.head _)) ?_
      refine r_iconst (pc' := 65) dX12_longer_64 rfl ?_
      refine r_S2p (pc' := 68) dX12_longer_65 rfl lX12_111 (by decide) (Nat.le_of_ble_eq_true rfl) (tX12_placeOf ) ?_
      refine r_dup2 (pc' := 69) dX12_longer_68 rfl rfl rfl ?_
      refine r_iaload (pc' := 70) dX12_longer_69 rfl (by first | assumption | rfl) (by omega) (by omega) (by omega) (by first | decide | omega) (show _ = 130 + 86 * kn + 1 by omega) ?_
      rw [lgN_at (by omega), if_neg (by omega), hRd.f hk (by omega)]
      refine r_iload_n (i := 2) (pc' := 71) dX12_longer_70 rfl rfl (.tail _ (.tail _ (.head _))) ?_
      refine r_iadd (pc' := 72) dX12_longer_71 rfl ?_
      refine r_iastore (pc' := 73) dX12_longer_72 rfl (by first | assumption | rfl) (by omega) (by omega) (by omega) (by first | decide | omega) (show _ = 130 + 86 * kn + 1 by omega) ?_
      have hR3 : RB (bk_ext C (con b kn) mn v) b (xv (q_up (lgN Xd (130 + 86 * kn + (6 + (xv C (con b kn) 0 + xv C (con b kn) 1).toNat)) v mn) 468 (130 + 86 * kn + 1) (zi (xv C (con b kn) 1 + mn))) 468) := hRd.ext hck hT (by omega) (by omega) (by omega) (by omega)
      have hr3 : rOut Xd (q_up (lgN Xd (130 + 86 * kn + (6 + (xv C (con b kn) 0 + xv C (con b kn) 1).toNat)) v mn) 468 (130 + 86 * kn + 1) (zi (xv C (con b kn) 1 + mn))) := (lgN_out rOut.rfl _ (by omega)).up (by omega)
      generalize (q_up (lgN Xd (130 + 86 * kn + (6 + (xv C (con b kn) 0 + xv C (con b kn) 1).toNat)) v mn) 468 (130 + 86 * kn + 1) (zi (xv C (con b kn) 1 + mn))) = X3 at hR3 hr3 ⊢
      refine r_aload_n (i := 0) (pc' := 74) dX12_longer_73 rfl rfl (.head _) ?_
      refine r_iload_n (i := 1) (pc' := 75) dX12_longer_74 rfl rfl (.tail _ (.head _)) ?_
      refine r_iload (pc' := 77) dX12_longer_75 rfl (.tail _ (.tail _ (.tail _ (.tail _ (.head _))))) ?_
      refine r_aload_n (i := 0) (pc' := 78) dX12_longer_77 rfl rfl (.head _) ?_
      refine r_getR (pc' := 81) dX12_longer_78 rfl fX12_3 rfl (by first | assumption | rfl) (by omega) (by assumption) ?_
      refine r_iconst (pc' := 82) dX12_longer_81 rfl ?_
      refine r_iaload (pc' := 83) dX12_longer_82 rfl (by first | assumption | rfl) (by omega) (by omega) (by omega) (by first | decide | omega) (show Int.toNat 0 = 0 from rfl) ?_
      rw [hR3.z 0 (by decide), heb]
      refine r_V3gv (ci := 12) (pc' := 86) dX12_longer_83 rfl lX12_136 rfl (by decide) (Nat.le_of_ble_eq_true rfl) (by first | assumption | rfl) (by omega) (tX12_spreads hm hR3 hO3 (by rw [heb]; exact hk) heT (by omega) (by omega) (by rw [hek, if_neg (by omega)]; exact hop.2) (by rw [hle]; omega)) (fun n83 P83 X83 Y83 e83 le83 => ?_)
      obtain ⟨h1v, h2v, h3v, hro83, hR83⟩ := e83
      subst h1v h2v h3v
      rw [← hlng] at hR83
      refine r_aload_n (i := 0) (pc' := 87) dX12_longer_86 rfl rfl (.head _) ?_
      refine r_iload_n (i := 1) (pc' := 88) dX12_longer_87 rfl rfl (.tail _ (.head _)) ?_
      refine r_V1p (ci := 12) (pc' := 91) dX12_longer_88 rfl lX12_118 rfl (by decide) (Nat.le_of_ble_eq_true rfl) (by first | assumption | rfl) (by omega) (tX12_lastOf hm hR83 hO4 (by rw [hlnb]; exact hk)) ?_
      refine r_ireturn dX12_longer_91 rfl ?_
      refine ⟨_, rfl, ?_⟩
      dsimp only
      rw [if_pos hk0]
      exact ⟨rfl, rfl, rfl, by rw [hXd]; exact hr3.trans hro83, hR83, rfl⟩
    · exfalso; omega
  · refine r_aload_n (i := 0) (pc' := 1) dX12_longer_0 rfl rfl (.head _) ?_
    refine r_aload_n (i := 0) (pc' := 2) dX12_longer_1 rfl rfl (.head _) ?_
    refine r_iload_n (i := 1) (pc' := 3) dX12_longer_2 rfl rfl (.tail _ (.head _)) ?_
    refine r_iload_n (i := 2) (pc' := 4) dX12_longer_3 rfl rfl (.tail _ (.tail _ (.head _))) ?_
    refine r_iload_n (i := 3) (pc' := 5) dX12_longer_4 rfl rfl (.tail _ (.tail _ (.tail _ (.head _)))) ?_
    refine r_iload (pc' := 7) dX12_longer_5 rfl (.tail _ (.tail _ (.tail _ (.tail _ (.head _))))) ?_
    refine r_V4p (ci := 12) (pc' := 10) dX12_longer_7 rfl lX12_313 rfl (by decide) (Nat.le_of_ble_eq_true rfl) (by first | assumption | rfl) (by omega) (tX12_whyNotLonger hm hR hO (by first | assumption | omega) (by first | assumption | omega) (by first | assumption | omega) (by first | assumption | omega)) ?_
    refine r_V1gi (ci := 12) (pc' := 13) dX12_longer_10 rfl lX12_281 rfl (by decide) (Nat.le_of_ble_eq_true rfl) (by first | assumption | rfl) (by omega) (tX12_refuses hm (by first | exact hin | omega)) (fun r10 n10 P10 X10 Y10 e10 le10 => ?_)
    obtain ⟨h1v, h2v, h3v, h4v, hr10⟩ := e10
    rw [if_neg hk0] at hr10
    subst h1v h2v h3v h4v hr10
    refine r_if_eq (t := 18) (f := 16) dX12_longer_13 (by decide) rfl (by first | omega | exact xv_in _ _ _) (fun h13 => ?_) (fun h13 => ?_)
    · exfalso; omega
    · refine r_iconst (pc' := 17) dX12_longer_16 rfl ?_
      refine r_ireturn dX12_longer_17 rfl ?_
      refine ⟨_, rfl, ?_⟩
      dsimp only
      rw [if_neg hk0]
      exact ⟨rfl, rfl, rfl, rfl, rfl⟩
