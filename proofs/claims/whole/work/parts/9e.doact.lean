/-! an act is done -/
def actW (C : q_X) (b : Nat) (kd f s : Int) : Int := if kd = 120 then bk_ref C b f else if kd = 116 then bk_pref C b f s else if kd = 100 then (if 1 ≤ f ∧ f ≤ 364 - xv C b 1 then 0 else 4) else (if xv C b 0 < 19 then 0 else 7)
def actC (C : q_X) (b : Nat) (kd f s : Int) : q_X := if kd = 120 then bk_rel C b f 0 else if kd = 116 then bk_turn C b f s else if kd = 100 then q_up C b 1 (zi (xv C b 1 + f)) else bk_year C b
theorem bA_act {C : q_X} {b : Nat} {kd f s : Int} (hA : bA C b) (h : actW C b kd f s = 0) : bA (actC C b kd f s) b := by
  unfold actW at h
  unfold actC
  split
  · rename_i e; rw [if_pos e] at h; exact bA_rel 0 hA h
  · rename_i e
    rw [if_neg e] at h
    split
    · rename_i e2; rw [if_pos e2] at h; exact bA_turn hA h
    · rename_i e2
      rw [if_neg e2] at h
      split
      · rename_i e3
        rw [if_pos e3] at h
        split at h
        · rename_i q; exact bA_days hA q
        · omega
      · rename_i e3
        rw [if_neg e3] at h
        split at h
        · rename_i q; exact bA_year hA q
        · omega
theorem aw_x {C : q_X} {b : Nat} {f s : Int} : actW C b 120 f s = bk_ref C b f ∧ actC C b 120 f s = bk_rel C b f 0 := ⟨rfl, rfl⟩
theorem aw_t {C : q_X} {b : Nat} {f s : Int} : actW C b 116 f s = bk_pref C b f s ∧ actC C b 116 f s = bk_turn C b f s := ⟨rfl, rfl⟩
theorem aw_d {C : q_X} {b : Nat} {f s : Int} : actW C b 100 f s = (if 1 ≤ f ∧ f ≤ 364 - xv C b 1 then 0 else 4) ∧ actC C b 100 f s = q_up C b 1 (zi (xv C b 1 + f)) := ⟨rfl, rfl⟩
theorem aw_y {C : q_X} {b : Nat} {f s : Int} : actW C b 121 f s = (if xv C b 0 < 19 then 0 else 7) ∧ actC C b 121 f s = bk_year C b := ⟨rfl, rfl⟩
theorem yrN_b (C : q_X) (b : Nat) (hO : bOk C b) : 0 ≤ bk_yearN C b ∧ bk_yearN C b ≤ 40 := by
  have o10 := hO.2.2.2.2.2.2.2.1
  unfold bk_yearN
  have h1 := q_sum_nn (f := fun i => if p_over (bk_p1 C b (nz (bk_room C b g0 g0))) b i then (1 : Int) else 0) (xv C b 10).toNat 0 (fun i _ _ => by split <;> omega)
  have h2 := q_sum_ub (f := fun i => if p_over (bk_p1 C b (nz (bk_room C b g0 g0))) b i then (1 : Int) else 0) (B := 1) (xv C b 10).toNat 0 (fun i _ _ => by split <;> omega)
  omega
set_option maxHeartbeats 4000000 in
set_option maxRecDepth 100000 in
theorem tX12_doAct {l : Launch} {g : q_G} {n : Nat} {P : q_P} {X : q_X} {Y : q_Y} (hm : isMod n P) {C : q_X} {b q : Nat} {kd f s : Int} (hR : RB C b (xv X 468)) (hA : bA C b) (hD : 0 ≤ xv X 467 1 ∧ xv X 467 1 ≤ 8) (hq : q < 20) (hkd : kd = 120 ∨ kd = 116 ∨ kd = 100 ∨ kd = 121) (bf : 0 ≤ f ∧ f ≤ 999999) (bs : 0 ≤ s ∧ s ≤ 999999) (k0 : xv X 479 (3 * q) = kd) (k1 : ¬ kd = 121 → xv X 479 (3 * q + 1) = f) (k2 : kd = 116 → xv X 479 (3 * q + 2) = s) : q_Met l g mX12_doAct 8 [.ref (g.1 + 467), .int (zi (3 * (q : Int)))] n P X Y (q_gi (fun r' n' P' X' Y' => n' = n ∧ P' = P ∧ Y' = Y ∧ if actW C b kd f s = 0 then r' = 1 ∧ rOut (dd (q_up X 467 19 (zi 0)) 0) X' ∧ RB (actC C b kd f s) b (xv X' 468) else r' = 0 ∧ X' = q_up X 467 19 (zi (actW C b kd f s)))) := by
  obtain ⟨m0, m2, m3, m8, m9, m14, m15, m16, m17, m18, m20, m22, m25, hnm9⟩ := id hm
  have hO := hA.1
  have hT := hA.2.2.1.2
  have hL := hA.2.1
  refine q_enter (L := [(0, .ref (g.1 + 467)), (1, .int (zi (3 * (q : Int))))]) (by decide) (Nat.le_of_ble_eq_true rfl) rfl ?_
  rcases hkd with hx | hx | hx | hx
  · subst hx
    rw [aw_x.1, aw_x.2]
    refine r_aload_n (i := 0) (pc' := 1) dX12_doAct_0 rfl rfl (.head _) ?_
    refine r_getR (pc' := 4) dX12_doAct_1 rfl fX12_51 rfl (by first | assumption | rfl) (by omega) (by assumption) ?_
    refine r_iload_n (i := 1) (pc' := 5) dX12_doAct_4 rfl rfl (.tail _ (.head _)) ?_
    refine r_iaload (pc' := 6) dX12_doAct_5 rfl (by first | assumption | rfl) (by omega) (by omega) (by omega) (by first | decide | omega) (show _ = 3 * q by omega) ?_
    rw [k0]
    refine r_look (t := 40) (off := 34) dX12_doAct_6 rfl (by omega) rfl (by decide) ?_
    refine r_aload_n (i := 0) (pc' := 41) dX12_doAct_40 rfl rfl (.head _) ?_
    refine r_aload_n (i := 0) (pc' := 42) dX12_doAct_41 rfl rfl (.head _) ?_
    refine r_getR (pc' := 45) dX12_doAct_42 rfl fX12_51 rfl (by first | assumption | rfl) (by omega) (by assumption) ?_
    refine r_iload_n (i := 1) (pc' := 46) dX12_doAct_45 rfl rfl (.tail _ (.head _)) ?_
    refine r_iconst (pc' := 47) dX12_doAct_46 rfl ?_
    refine r_iadd (pc' := 48) dX12_doAct_47 rfl ?_
    refine r_iaload (pc' := 49) dX12_doAct_48 rfl (by first | assumption | rfl) (by omega) (by omega) (by omega) (by first | decide | omega) (show _ = 3 * q + 1 by omega) ?_
    rw [k1 (by omega)]
    refine r_V1gi (ci := 12) (pc' := 52) dX12_doAct_49 rfl lX12_369 rfl (by decide) (Nat.le_of_ble_eq_true rfl) (by first | assumption | rfl) (by omega) (tX12_cut hm hR hO (by omega) hT hD) (fun r49 n49 P49 X49 Y49 e49 le49 => ?_)
    by_cases hw : bk_ref C b f = 0
    · rw [if_pos hw] at e49
      obtain ⟨h1v, h2v, h3v, hro, hRn, hrr⟩ := e49
      subst h1v h2v h3v
      have hrb := bkm_b (bk_rel C b f 0) b 0 (xv (bk_rel C b f 0) b 10).toNat 0
      have ho10 := (bOk_rel 0 hO hw).2.2.2.2.2.2.2.1
      subst hrr
      refine r_iconst (pc' := 53) dX12_doAct_52 rfl ?_
      refine r_icmp_eq (t := 60) (f := 56) dX12_doAct_53 (by decide) rfl (by first | omega | exact xv_in _ _ _) (by first | omega | exact xv_in _ _ _) (fun h53 => ?_) (fun h53 => ?_)
      · exfalso; omega
      · refine r_iconst (pc' := 57) dX12_doAct_56 rfl ?_
        refine r_goto (t := 61) dX12_doAct_57 (by decide) ?_
        refine r_zreturn dX12_doAct_61 rfl (by first | decide | (split <;> omega) | omega) ?_
        exact ⟨_, rfl, rfl, rfl, rfl, by rw [if_pos hw]; exact ⟨rfl, hro, hRn⟩⟩
    · rw [if_neg hw] at e49
      obtain ⟨h1v, h2v, h3v, hX, hrr⟩ := e49
      subst h1v h2v h3v hrr
      refine r_iconst (pc' := 53) dX12_doAct_52 rfl ?_
      refine r_icmp_eq (t := 60) (f := 56) dX12_doAct_53 (by decide) rfl (by first | omega | exact xv_in _ _ _) (by first | omega | exact xv_in _ _ _) (fun h53 => ?_) (fun h53 => ?_)
      · refine r_iconst (pc' := 61) dX12_doAct_60 rfl ?_
        refine r_zreturn dX12_doAct_61 rfl (by first | decide | (split <;> omega) | omega) ?_
        exact ⟨_, rfl, rfl, rfl, rfl, by rw [if_neg hw]; exact ⟨rfl, hX⟩⟩
      · exfalso; omega
  · subst hx
    rw [aw_t.1, aw_t.2]
    refine r_aload_n (i := 0) (pc' := 1) dX12_doAct_0 rfl rfl (.head _) ?_
    refine r_getR (pc' := 4) dX12_doAct_1 rfl fX12_51 rfl (by first | assumption | rfl) (by omega) (by assumption) ?_
    refine r_iload_n (i := 1) (pc' := 5) dX12_doAct_4 rfl rfl (.tail _ (.head _)) ?_
    refine r_iaload (pc' := 6) dX12_doAct_5 rfl (by first | assumption | rfl) (by omega) (by omega) (by omega) (by first | decide | omega) (show _ = 3 * q by omega) ?_
    rw [k0]
    refine r_look (t := 62) (off := 56) dX12_doAct_6 rfl (by omega) rfl (by decide) ?_
    refine r_aload_n (i := 0) (pc' := 63) dX12_doAct_62 rfl rfl (.head _) ?_
    refine r_aload_n (i := 0) (pc' := 64) dX12_doAct_63 rfl rfl (.head _) ?_
    refine r_getR (pc' := 67) dX12_doAct_64 rfl fX12_51 rfl (by first | assumption | rfl) (by omega) (by assumption) ?_
    refine r_iload_n (i := 1) (pc' := 68) dX12_doAct_67 rfl rfl (.tail _ (.head _)) ?_
    refine r_iconst (pc' := 69) dX12_doAct_68 rfl ?_
    refine r_iadd (pc' := 70) dX12_doAct_69 rfl ?_
    refine r_iaload (pc' := 71) dX12_doAct_70 rfl (by first | assumption | rfl) (by omega) (by omega) (by omega) (by first | decide | omega) (show _ = 3 * q + 1 by omega) ?_
    rw [k1 (by omega)]
    refine r_aload_n (i := 0) (pc' := 72) dX12_doAct_71 rfl rfl (.head _) ?_
    refine r_getR (pc' := 75) dX12_doAct_72 rfl fX12_51 rfl (by first | assumption | rfl) (by omega) (by assumption) ?_
    refine r_iload_n (i := 1) (pc' := 76) dX12_doAct_75 rfl rfl (.tail _ (.head _)) ?_
    refine r_iconst (pc' := 77) dX12_doAct_76 rfl ?_
    refine r_iadd (pc' := 78) dX12_doAct_77 rfl ?_
    refine r_iaload (pc' := 79) dX12_doAct_78 rfl (by first | assumption | rfl) (by omega) (by omega) (by omega) (by first | decide | omega) (show _ = 3 * q + 2 by omega) ?_
    rw [k2 (by omega)]
    refine r_V2gi (ci := 12) (pc' := 82) dX12_doAct_79 rfl lX12_372 rfl (by decide) (Nat.le_of_ble_eq_true rfl) (by first | assumption | rfl) (by omega) (tX12_turn hm hR hO (by omega) hT hD (by omega)) (fun r79 n79 P79 X79 Y79 e79 le79 => ?_)
    by_cases hw : bk_pref C b f s = 0
    · rw [if_pos hw] at e79
      obtain ⟨h1v, h2v, h3v, hro, hRn, hrr⟩ := e79
      subst h1v h2v h3v
      have hpr := bk_pref_ref hw
      have hh := bk_ref_has hpr.1
      have hck := (bOk_turn hO hw).c (k := f.toNat) (by rw [bk_turn_o (by unfold con; omega)]; omega)
      have hrb := c_hit_b hck (xv C b 0)
      subst hrr
      refine r_iconst (pc' := 83) dX12_doAct_82 rfl ?_
      refine r_icmp_eq (t := 90) (f := 86) dX12_doAct_83 (by decide) rfl (by first | omega | exact xv_in _ _ _) (by first | omega | exact xv_in _ _ _) (fun h83 => ?_) (fun h83 => ?_)
      · exfalso; omega
      · refine r_iconst (pc' := 87) dX12_doAct_86 rfl ?_
        refine r_goto (t := 91) dX12_doAct_87 (by decide) ?_
        refine r_zreturn dX12_doAct_91 rfl (by first | decide | (split <;> omega) | omega) ?_
        exact ⟨_, rfl, rfl, rfl, rfl, by rw [if_pos hw]; exact ⟨rfl, hro, hRn⟩⟩
    · rw [if_neg hw] at e79
      obtain ⟨h1v, h2v, h3v, hX, hrr⟩ := e79
      subst h1v h2v h3v hrr
      refine r_iconst (pc' := 83) dX12_doAct_82 rfl ?_
      refine r_icmp_eq (t := 90) (f := 86) dX12_doAct_83 (by decide) rfl (by first | omega | exact xv_in _ _ _) (by first | omega | exact xv_in _ _ _) (fun h83 => ?_) (fun h83 => ?_)
      · refine r_iconst (pc' := 91) dX12_doAct_90 rfl ?_
        refine r_zreturn dX12_doAct_91 rfl (by first | decide | (split <;> omega) | omega) ?_
        exact ⟨_, rfl, rfl, rfl, rfl, by rw [if_neg hw]; exact ⟨rfl, hX⟩⟩
      · exfalso; omega
  · subst hx
    rw [aw_d.1, aw_d.2]
    refine r_aload_n (i := 0) (pc' := 1) dX12_doAct_0 rfl rfl (.head _) ?_
    refine r_getR (pc' := 4) dX12_doAct_1 rfl fX12_51 rfl (by first | assumption | rfl) (by omega) (by assumption) ?_
    refine r_iload_n (i := 1) (pc' := 5) dX12_doAct_4 rfl rfl (.tail _ (.head _)) ?_
    refine r_iaload (pc' := 6) dX12_doAct_5 rfl (by first | assumption | rfl) (by omega) (by omega) (by omega) (by first | decide | omega) (show _ = 3 * q by omega) ?_
    rw [k0]
    refine r_look (t := 92) (off := 86) dX12_doAct_6 rfl (by omega) rfl (by decide) ?_
    refine r_aload_n (i := 0) (pc' := 93) dX12_doAct_92 rfl rfl (.head _) ?_
    refine r_aload_n (i := 0) (pc' := 94) dX12_doAct_93 rfl rfl (.head _) ?_
    refine r_getR (pc' := 97) dX12_doAct_94 rfl fX12_51 rfl (by first | assumption | rfl) (by omega) (by assumption) ?_
    refine r_iload_n (i := 1) (pc' := 98) dX12_doAct_97 rfl rfl (.tail _ (.head _)) ?_
    refine r_iconst (pc' := 99) dX12_doAct_98 rfl ?_
    refine r_iadd (pc' := 100) dX12_doAct_99 rfl ?_
    refine r_iaload (pc' := 101) dX12_doAct_100 rfl (by first | assumption | rfl) (by omega) (by omega) (by omega) (by first | decide | omega) (show _ = 3 * q + 1 by omega) ?_
    rw [k1 (by omega)]
    refine r_V1gi (ci := 12) (pc' := 104) dX12_doAct_101 rfl lX12_375 rfl (by decide) (Nat.le_of_ble_eq_true rfl) (by first | assumption | rfl) (by omega) (tX12_days hm hR hO hT hD (by omega)) (fun r101 n101 P101 X101 Y101 e101 le101 => ?_)
    by_cases hw : 1 ≤ f ∧ f ≤ 364 - xv C b 1
    · rw [if_pos hw] at e101
      obtain ⟨h1v, h2v, h3v, hro, hRn, hrr⟩ := e101
      subst h1v h2v h3v
      have o1 := hO.2.1
      subst hrr
      refine r_iconst (pc' := 105) dX12_doAct_104 rfl ?_
      refine r_icmp_eq (t := 112) (f := 108) dX12_doAct_105 (by decide) rfl (by first | omega | exact xv_in _ _ _) (by first | omega | exact xv_in _ _ _) (fun h105 => ?_) (fun h105 => ?_)
      · exfalso; omega
      · refine r_iconst (pc' := 109) dX12_doAct_108 rfl ?_
        refine r_goto (t := 113) dX12_doAct_109 (by decide) ?_
        refine r_zreturn dX12_doAct_113 rfl (by first | decide | (split <;> omega) | omega) ?_
        exact ⟨_, rfl, rfl, rfl, rfl, by rw [if_pos (by rw [if_pos hw])]; exact ⟨rfl, hro, hRn⟩⟩
    · rw [if_neg hw] at e101
      obtain ⟨h1v, h2v, h3v, hX, hrr⟩ := e101
      subst h1v h2v h3v hrr
      refine r_iconst (pc' := 105) dX12_doAct_104 rfl ?_
      refine r_icmp_eq (t := 112) (f := 108) dX12_doAct_105 (by decide) rfl (by first | omega | exact xv_in _ _ _) (by first | omega | exact xv_in _ _ _) (fun h105 => ?_) (fun h105 => ?_)
      · refine r_iconst (pc' := 113) dX12_doAct_112 rfl ?_
        refine r_zreturn dX12_doAct_113 rfl (by first | decide | (split <;> omega) | omega) ?_
        exact ⟨_, rfl, rfl, rfl, rfl, by rw [if_neg (by rw [if_neg hw]; omega), if_neg hw]; exact ⟨rfl, hX⟩⟩
      · exfalso; omega
  · subst hx
    rw [aw_y.1, aw_y.2]
    refine r_aload_n (i := 0) (pc' := 1) dX12_doAct_0 rfl rfl (.head _) ?_
    refine r_getR (pc' := 4) dX12_doAct_1 rfl fX12_51 rfl (by first | assumption | rfl) (by omega) (by assumption) ?_
    refine r_iload_n (i := 1) (pc' := 5) dX12_doAct_4 rfl rfl (.tail _ (.head _)) ?_
    refine r_iaload (pc' := 6) dX12_doAct_5 rfl (by first | assumption | rfl) (by omega) (by omega) (by omega) (by first | decide | omega) (show _ = 3 * q by omega) ?_
    rw [k0]
    refine r_look (t := 114) (off := 108) dX12_doAct_6 rfl (by omega) rfl (by decide) ?_
    refine r_aload_n (i := 0) (pc' := 115) dX12_doAct_114 rfl rfl (.head _) ?_
    refine r_V0gi (ci := 12) (pc' := 118) dX12_doAct_115 rfl lX12_378 rfl (by decide) (Nat.le_of_ble_eq_true rfl) (by first | assumption | rfl) (by omega) (tX12_year hm hR hO hT hD hL) (fun r115 n115 P115 X115 Y115 e115 le115 => ?_)
    by_cases hw : xv C b 0 < 19
    · rw [if_pos hw] at e115
      obtain ⟨h1v, h2v, h3v, hro, hRn, hrr⟩ := e115
      subst h1v h2v h3v
      have hrb := yrN_b C b hO
      subst hrr
      refine r_iconst (pc' := 119) dX12_doAct_118 rfl ?_
      refine r_icmp_eq (t := 126) (f := 122) dX12_doAct_119 (by decide) rfl (by first | omega | exact xv_in _ _ _) (by first | omega | exact xv_in _ _ _) (fun h119 => ?_) (fun h119 => ?_)
      · exfalso; omega
      · refine r_iconst (pc' := 123) dX12_doAct_122 rfl ?_
        refine r_goto (t := 127) dX12_doAct_123 (by decide) ?_
        refine r_zreturn dX12_doAct_127 rfl (by first | decide | (split <;> omega) | omega) ?_
        exact ⟨_, rfl, rfl, rfl, rfl, by rw [if_pos (by rw [if_pos hw])]; exact ⟨rfl, hro, hRn⟩⟩
    · rw [if_neg hw] at e115
      obtain ⟨h1v, h2v, h3v, hX, hrr⟩ := e115
      subst h1v h2v h3v hrr
      refine r_iconst (pc' := 119) dX12_doAct_118 rfl ?_
      refine r_icmp_eq (t := 126) (f := 122) dX12_doAct_119 (by decide) rfl (by first | omega | exact xv_in _ _ _) (by first | omega | exact xv_in _ _ _) (fun h119 => ?_) (fun h119 => ?_)
      · refine r_iconst (pc' := 127) dX12_doAct_126 rfl ?_
        refine r_zreturn dX12_doAct_127 rfl (by first | decide | (split <;> omega) | omega) ?_
        exact ⟨_, rfl, rfl, rfl, rfl, by rw [if_neg (by rw [if_neg hw]; omega), if_neg hw]; exact ⟨rfl, hX⟩⟩
      · exfalso; omega
