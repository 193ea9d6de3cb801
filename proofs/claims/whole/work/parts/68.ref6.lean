theorem bk_hT_T {C : q_X} {b j : Nat} {T T' : Nat → Bool} (h : T j = T' j) : bk_hT C b T j = bk_hT C b T' j ∧ bk_pT C b T j = bk_pT C b T' j := by
  unfold bk_hT bk_pT; rw [h]; exact ⟨rfl, rfl⟩
theorem bk_cnt_T {C : q_X} {b : Nat} {G G' T T' : Nat → Bool} (h : ∀ j : Nat, (j : Int) < xv C b 10 → G j = G' j ∧ T j = T' j) (day : Int) : bk_cnt C b G T day = bk_cnt C b G' T' day := by
  unfold bk_cnt
  congr 1
  refine u_ct_congr _ (fun j hj => ?_) (fun j hj _ => ⟨(bk_hT_T (h j (by omega)).2).1, rfl, (bk_hT_T (h j (by omega)).2).2⟩)
  rw [(h j (by omega)).1]
theorem cnG_T {C : q_X} {b : Nat} {G G' T T' : Nat → Bool} (h : ∀ j : Nat, (j : Int) < xv C b 10 → G j = G' j ∧ T j = T' j) (day : Int) : cnG C b G T day = cnG C b G' T' day := by
  unfold cnG
  rw [bk_cnt_T h]
  congr 1
  refine q_sum_congr _ _ (fun j _ hj => ?_)
  rw [(h j (by omega)).1]
def roomG (C : q_X) (b : Nat) (G T : Nat → Bool) : Int := xv C (b + 1) (xv C b 0).toNat - cnG C b G T (xv C b 1)
theorem roomG_0 (C : q_X) (b : Nat) (T : Nat → Bool) : roomG C b g0 T = bk_room C b g0 T := by unfold roomG bk_room; rw [cnG_0]
set_option maxHeartbeats 4000000 in
set_option maxRecDepth 100000 in
theorem tX12_roomOf {l : Launch} {g : q_G} {n : Nat} {P : q_P} {X : q_X} {Y : q_Y} (hm : isMod n P) {C : q_X} {b : Nat} (hR : RB C b (xv X 468)) (hO : bOk C b) {cu tu : Int64} {G T : Nat → Bool} (hG : lB cu G) (hT : lB tu T) : q_Met l g mX12_roomOf 6 [.ref (g.1 + 467), .long cu, .long tu] n P X Y (q_gi (fun r' n' P' X' Y' => n' = n ∧ P' = P ∧ Y' = Y ∧ hOut X X' ∧ r' = roomG C b G T)) := by
  obtain ⟨m0, m2, m3, m8, m9, m14, m15, m16, m17, m18, m20, m22, m25, hnm9⟩ := id hm
  obtain ⟨o0, o1, o2, o3, o4, o5, o6, o10, oc, op0, opz, opi, om0, omi, olim⟩ := id hO
  refine q_enter (L := [(0, .ref (g.1 + 467)), (1, .long cu), (3, .long tu)]) (by decide) (Nat.le_of_ble_eq_true rfl) rfl ?_
  refine r_aload_n (i := 0) (pc' := 1) dX12_roomOf_0 rfl rfl (.head _) ?_
  refine r_getR (pc' := 4) dX12_roomOf_1 rfl fX12_3 rfl (by first | assumption | rfl) (by omega) (by assumption) ?_
  refine r_bipush (pc' := 6) dX12_roomOf_4 rfl (by decide) ?_
  refine r_aload_n (i := 0) (pc' := 7) dX12_roomOf_6 rfl rfl (.head _) ?_
  refine r_getR (pc' := 10) dX12_roomOf_7 rfl fX12_3 rfl (by first | assumption | rfl) (by omega) (by assumption) ?_
  refine r_iconst (pc' := 11) dX12_roomOf_10 rfl ?_
  refine r_iaload (pc' := 12) dX12_roomOf_11 rfl (by first | assumption | rfl) (by omega) (by omega) (by omega) (by first | decide | omega) (show Int.toNat 0 = 0 from rfl) ?_
  rw [hR.z 0 (by decide)]
  refine r_iadd (pc' := 13) dX12_roomOf_12 rfl ?_
  refine r_iaload (pc' := 14) dX12_roomOf_13 rfl (by first | assumption | rfl) (by omega) (by omega) (by omega) (by first | decide | omega) rfl ?_
  rw [hR.lim (by omega)]
  refine r_aload_n (i := 0) (pc' := 15) dX12_roomOf_14 rfl rfl (.head _) ?_
  refine r_lload_n (i := 1) (pc' := 16) dX12_roomOf_15 rfl rfl (.tail _ (.head _)) ?_
  refine r_lload_n (i := 3) (pc' := 17) dX12_roomOf_16 rfl rfl (.tail _ (.tail _ (.head _))) ?_
  refine r_aload_n (i := 0) (pc' := 18) dX12_roomOf_17 rfl rfl (.head _) ?_
  refine r_getR (pc' := 21) dX12_roomOf_18 rfl fX12_3 rfl (by first | assumption | rfl) (by omega) (by assumption) ?_
  refine r_iconst (pc' := 22) dX12_roomOf_21 rfl ?_
  refine r_iaload (pc' := 23) dX12_roomOf_22 rfl (by first | assumption | rfl) (by omega) (by omega) (by omega) (by first | decide | omega) (show Int.toNat 1 = 1 from rfl) ?_
  rw [hR.z 1 (by decide)]
  refine r_V3gi (ci := 12) (pc' := 26) dX12_roomOf_23 rfl lX12_241 rfl (by decide) (Nat.le_of_ble_eq_true rfl) (by first | assumption | rfl) (by omega) (tX12_countOf hm hR hO hG hT (by omega)) (fun r23 n23 P23 X23 Y23 e23 le23 => ?_)
  obtain ⟨h1v, h2v, h3v, ho23, hr23⟩ := e23
  subst h1v h2v h3v hr23
  have hR23 : RB C b (xv X23 468) := by rw [ho23.v (by omega)]; exact hR
  refine r_isub (pc' := 27) dX12_roomOf_26 rfl ?_
  refine r_ireturn dX12_roomOf_27 rfl ?_
  exact ⟨_, rfl, rfl, rfl, rfl, ho23, rfl⟩
set_option maxHeartbeats 4000000 in
set_option maxRecDepth 100000 in
theorem tX12_savedOn {l : Launch} {g : q_G} {n : Nat} {P : q_P} {X : q_X} {Y : q_Y} (hm : isMod n P) {C : q_X} {b : Nat} (hR : RB C b (xv X 468)) (hO : bOk C b) {k : Nat} (hk : (k : Int) < xv C b 10) {day : Int} (hday : q_in day) : q_Met l g mX12_savedOn 6 [.ref (g.1 + 467), .int (zi (k : Int)), .int (zi day)] n P X Y (q_gi (fun r' n' P' X' Y' => n' = n ∧ P' = P ∧ Y' = Y ∧ hOut X X' ∧ r' = bk_sav C b k day)) := by
  obtain ⟨m0, m2, m3, m8, m9, m14, m15, m16, m17, m18, m20, m22, m25, hnm9⟩ := id hm
  obtain ⟨o0, o1, o2, o3, o4, o5, o6, o10, oc, op0, opz, opi, om0, omi, olim⟩ := id hO
  have hck := hO.c hk
  obtain ⟨hf, hf2, hf3, hf4, hfj, hfs, hfg⟩ := id hck
  refine q_enter (L := [(0, .ref (g.1 + 467)), (1, .int (zi (k : Int))), (2, .int (zi day))]) (by decide) (Nat.le_of_ble_eq_true rfl) rfl ?_
  refine r_aload_n (i := 0) (pc' := 1) dX12_savedOn_0 rfl rfl (.head _) ?_
  refine r_lconst (pc' := 2) (z := 0) dX12_savedOn_1 rfl rfl ?_
  refine r_lconst (pc' := 3) (z := 0) dX12_savedOn_2 rfl rfl ?_
  refine r_iload_n (i := 2) (pc' := 4) dX12_savedOn_3 rfl rfl (.tail _ (.tail _ (.head _))) ?_
  refine r_V3gi (ci := 12) (pc' := 7) dX12_savedOn_4 rfl lX12_241 rfl (by decide) (Nat.le_of_ble_eq_true rfl) (by first | assumption | rfl) (by omega) (tX12_countOf hm hR hO lB_0 lB_0 (by omega)) (fun r4 n4 P4 X4 Y4 e4 le4 => ?_)
  obtain ⟨h1v, h2v, h3v, ho4, hr4⟩ := e4
  subst h1v h2v h3v hr4
  have hR4 : RB C b (xv X4 468) := by rw [ho4.v (by omega)]; exact hR
  refine r_aload_n (i := 0) (pc' := 8) dX12_savedOn_7 rfl rfl (.head _) ?_
  refine r_lconst (pc' := 9) (z := 1) dX12_savedOn_8 rfl rfl ?_
  refine r_iload_n (i := 1) (pc' := 10) dX12_savedOn_9 rfl rfl (.tail _ (.head _)) ?_
  refine r_lshl (pc' := 11) dX12_savedOn_10 rfl rfl ?_
  refine r_lconst (pc' := 12) (z := 0) dX12_savedOn_11 rfl rfl ?_
  refine r_iload_n (i := 2) (pc' := 13) dX12_savedOn_12 rfl rfl (.tail _ (.tail _ (.head _))) ?_
  refine r_V3gi (ci := 12) (pc' := 16) dX12_savedOn_13 rfl lX12_241 rfl (by decide) (Nat.le_of_ble_eq_true rfl) (by first | assumption | rfl) (by omega) (tX12_countOf hm hR4 hO (lB_1 (by omega)) lB_0 (by omega)) (fun r13 n13 P13 X13 Y13 e13 le13 => ?_)
  obtain ⟨h1v, h2v, h3v, ho13, hr13⟩ := e13
  subst h1v h2v h3v hr13
  have hR13 : RB C b (xv X13 468) := by rw [ho13.v (by omega)]; exact hR4
  refine r_isub (pc' := 17) dX12_savedOn_16 rfl ?_
  refine r_ireturn dX12_savedOn_17 rfl ?_
  refine ⟨_, rfl, rfl, rfl, rfl, ho4.trans ho13, ?_⟩
  rw [cnG_0, cnG_1 _ _ hk]; rfl
set_option maxHeartbeats 4000000 in
set_option maxRecDepth 100000 in
theorem tX12_now {l : Launch} {g : q_G} {n : Nat} {P : q_P} {X : q_X} {Y : q_Y} (hm : isMod n P) {C : q_X} {b : Nat} (hR : RB C b (xv X 468)) (hO : bOk C b) {w : Int} (hw : q_in w) : q_Met l g mX12_now 7 [.ref (g.1 + 467), .int (zi w)] n P X Y (q_gi (fun r' n' P' X' Y' => n' = n ∧ P' = P ∧ Y' = Y ∧ hOut X X' ∧ r' = f_now C b w)) := by
  obtain ⟨m0, m2, m3, m8, m9, m14, m15, m16, m17, m18, m20, m22, m25, hnm9⟩ := id hm
  obtain ⟨o0, o1, o2, o3, o4, o5, o6, o10, oc, op0, opz, opi, om0, omi, olim⟩ := id hO
  refine q_enter (L := [(0, .ref (g.1 + 467)), (1, .int (zi w))]) (by decide) (Nat.le_of_ble_eq_true rfl) rfl ?_
  refine r_iload_n (i := 1) (pc' := 1) dX12_now_0 rfl rfl (.tail _ (.head _)) ?_
  refine r_i2l (pc' := 2) dX12_now_1 rfl rfl ?_
  refine r_lconst (pc' := 3) (z := 0) dX12_now_2 rfl rfl ?_
  refine r_lconst (pc' := 4) (z := 1) dX12_now_3 rfl rfl ?_
  refine r_S3p (pc' := 7) dX12_now_4 rfl lX12_68 (by decide) (Nat.le_of_ble_eq_true rfl) (tX12_isIn (by first | exact li_z (by omega) | exact li_z (xv_in _ _ _) | rfl) (by first | exact li_z (by omega) | exact li_z (xv_in _ _ _) | rfl) (by first | exact li_z (by omega) | exact li_z (xv_in _ _ _) | rfl)) ?_
  try simp only [i64_0, i64_1, i64_2, i64_3, i64_4, i64_5, i64_6, i64_7, i64_10, i64_19, i64_40, i64_100, i64_364, i64_9999, i64_99999, i64_999999, i64_m999999]
  refine r_bif_ne (t := 13) (f := 10) dX12_now_7 (by decide) rfl (fun h7 => ?_) (fun h7 => ?_)
  · refine r_iload_n (i := 1) (pc' := 14) dX12_now_13 rfl rfl (.tail _ (.head _)) ?_
    refine r_if_ne (t := 32) (f := 17) dX12_now_14 (by decide) rfl (by first | omega | exact xv_in _ _ _) (fun h14 => ?_) (fun h14 => ?_)
    · refine r_aload_n (i := 0) (pc' := 33) dX12_now_32 rfl rfl (.head _) ?_
      refine r_lconst (pc' := 34) (z := 0) dX12_now_33 rfl rfl ?_
      refine r_lconst (pc' := 35) (z := 0) dX12_now_34 rfl rfl ?_
      refine r_V2gi (ci := 12) (pc' := 38) dX12_now_35 rfl lX12_246 rfl (by decide) (Nat.le_of_ble_eq_true rfl) (by first | assumption | rfl) (by omega) (tX12_roomOf hm hR hO lB_0 lB_0) (fun r35 n35 P35 X35 Y35 e35 le35 => ?_)
      obtain ⟨h1v, h2v, h3v, ho35, hr35⟩ := e35
      subst h1v h2v h3v hr35
      have hR35 : RB C b (xv X35 468) := by rw [ho35.v (by omega)]; exact hR
      refine r_ireturn dX12_now_38 rfl ?_
      refine ⟨_, rfl, rfl, rfl, rfl, by first | exact ho26 | exact ho35 | exact hOut.rfl, ?_⟩
      unfold f_now
      first
        | (rw [if_pos (by omega), cnG_0]; done)
        | (rw [if_neg (by omega), if_pos (by omega), roomG_0]; done)
        | (rw [if_neg (by omega), if_neg (by omega)]; done)
    · refine r_aload_n (i := 0) (pc' := 18) dX12_now_17 rfl rfl (.head _) ?_
      refine r_lconst (pc' := 19) (z := 0) dX12_now_18 rfl rfl ?_
      refine r_lconst (pc' := 20) (z := 0) dX12_now_19 rfl rfl ?_
      refine r_aload_n (i := 0) (pc' := 21) dX12_now_20 rfl rfl (.head _) ?_
      refine r_getR (pc' := 24) dX12_now_21 rfl fX12_3 rfl (by first | assumption | rfl) (by omega) (by assumption) ?_
      refine r_iconst (pc' := 25) dX12_now_24 rfl ?_
      refine r_iaload (pc' := 26) dX12_now_25 rfl (by first | assumption | rfl) (by omega) (by omega) (by omega) (by first | decide | omega) (show Int.toNat 1 = 1 from rfl) ?_
      rw [hR.z 1 (by decide)]
      refine r_V3gi (ci := 12) (pc' := 29) dX12_now_26 rfl lX12_241 rfl (by decide) (Nat.le_of_ble_eq_true rfl) (by first | assumption | rfl) (by omega) (tX12_countOf hm hR hO lB_0 lB_0 (by omega)) (fun r26 n26 P26 X26 Y26 e26 le26 => ?_)
      obtain ⟨h1v, h2v, h3v, ho26, hr26⟩ := e26
      subst h1v h2v h3v hr26
      have hR26 : RB C b (xv X26 468) := by rw [ho26.v (by omega)]; exact hR
      refine r_goto (t := 38) dX12_now_29 (by decide) ?_
      refine r_ireturn dX12_now_38 rfl ?_
      refine ⟨_, rfl, rfl, rfl, rfl, by first | exact ho26 | exact ho35 | exact hOut.rfl, ?_⟩
      unfold f_now
      first
        | (rw [if_pos (by omega), cnG_0]; done)
        | (rw [if_neg (by omega), if_pos (by omega), roomG_0]; done)
        | (rw [if_neg (by omega), if_neg (by omega)]; done)
  · refine r_ldc (pc' := 12) dX12_now_10 rfl kX12_245 ?_
    refine r_ireturn dX12_now_12 rfl ?_
    refine ⟨_, rfl, rfl, rfl, rfl, by first | exact ho26 | exact ho35 | exact hOut.rfl, ?_⟩
    unfold f_now
    first
      | (rw [if_pos (by omega), cnG_0]; done)
      | (rw [if_neg (by omega), if_pos (by omega), roomG_0]; done)
      | (rw [if_neg (by omega), if_neg (by omega)]; done)
set_option maxHeartbeats 4000000 in
set_option maxRecDepth 100000 in
theorem tX12_would {l : Launch} {g : q_G} {n : Nat} {P : q_P} {X : q_X} {Y : q_Y} (hm : isMod n P) {C : q_X} {b : Nat} (hR : RB C b (xv X 468)) (hO : bOk C b) {k : Int} (hki : q_in k) {w : Int} (hw : q_in w) : q_Met l g mX12_would 7 [.ref (g.1 + 467), .int (zi k), .int (zi w)] n P X Y (q_gi (fun r' n' P' X' Y' => n' = n ∧ P' = P ∧ Y' = Y ∧ hOut X X' ∧ r' = f_wouldT C b k w)) := by
  obtain ⟨m0, m2, m3, m8, m9, m14, m15, m16, m17, m18, m20, m22, m25, hnm9⟩ := id hm
  obtain ⟨o0, o1, o2, o3, o4, o5, o6, o10, oc, op0, opz, opi, om0, omi, olim⟩ := id hO
  refine q_enter (L := [(0, .ref (g.1 + 467)), (1, .int (zi k)), (2, .int (zi w))]) (by decide) (Nat.le_of_ble_eq_true rfl) rfl ?_
  refine r_aload_n (i := 0) (pc' := 1) dX12_would_0 rfl rfl (.head _) ?_
  refine r_iload_n (i := 1) (pc' := 2) dX12_would_1 rfl rfl (.tail _ (.head _)) ?_
  by_cases hk0 : bk_ref C b k = 0
  · have hk := bk_ref_has hk0
    obtain ⟨kn, rfl⟩ : ∃ kn : Nat, k = (kn : Int) := ⟨k.toNat, by omega⟩
    have hkk : (kn : Int) < xv C b 10 := hk.2
    have hck := hO.c hkk
    refine r_V1p (ci := 12) (pc' := 5) dX12_would_2 rfl lX12_261 rfl (by decide) (Nat.le_of_ble_eq_true rfl) (by first | assumption | rfl) (by omega) (tX12_canCut (by assumption) (by assumption) (by assumption) (by first | omega | assumption)) ?_
    refine r_bif_eq (t := 20) (f := 8) dX12_would_5 (by decide) rfl (fun h5 => ?_) (fun h5 => ?_)
    · exfalso; omega
    · refine r_iload_n (i := 2) (pc' := 9) dX12_would_8 rfl rfl (.tail _ (.tail _ (.head _))) ?_
      refine r_i2l (pc' := 10) dX12_would_9 rfl rfl ?_
      refine r_lconst (pc' := 11) (z := 0) dX12_would_10 rfl rfl ?_
      refine r_ldc2 (pc' := 14) dX12_would_11 rfl kX12_264 ?_
      refine r_S3p (pc' := 17) dX12_would_14 rfl lX12_68 (by decide) (Nat.le_of_ble_eq_true rfl) (tX12_isIn (by first | exact li_z (by omega) | exact li_z (xv_in _ _ _) | rfl) (by first | exact li_z (by omega) | exact li_z (xv_in _ _ _) | rfl) (by first | exact li_z (by omega) | exact li_z (xv_in _ _ _) | rfl)) ?_
      try simp only [i64_0, i64_1, i64_2, i64_3, i64_4, i64_5, i64_6, i64_7, i64_10, i64_19, i64_40, i64_100, i64_364, i64_9999, i64_99999, i64_999999, i64_m999999]
      refine r_bif_ne (t := 23) (f := 20) dX12_would_17 (by decide) rfl (fun h17 => ?_) (fun h17 => ?_)
      · refine r_iload_n (i := 2) (pc' := 24) dX12_would_23 rfl rfl (.tail _ (.tail _ (.head _))) ?_
        refine r_if_ne (t := 41) (f := 27) dX12_would_24 (by decide) rfl (by first | omega | exact xv_in _ _ _) (fun h24 => ?_) (fun h24 => ?_)
        · refine r_iload_n (i := 2) (pc' := 42) dX12_would_41 rfl rfl (.tail _ (.tail _ (.head _))) ?_
          refine r_iconst (pc' := 43) dX12_would_42 rfl ?_
          refine r_icmp_ne (t := 60) (f := 46) dX12_would_43 (by decide) rfl (by first | omega | exact xv_in _ _ _) (by first | omega | exact xv_in _ _ _) (fun h43 => ?_) (fun h43 => ?_)
          · refine r_iload_n (i := 2) (pc' := 61) dX12_would_60 rfl rfl (.tail _ (.tail _ (.head _))) ?_
            refine r_iconst (pc' := 62) dX12_would_61 rfl ?_
            refine r_icmp_ne (t := 73) (f := 65) dX12_would_62 (by decide) rfl (by first | omega | exact xv_in _ _ _) (by first | omega | exact xv_in _ _ _) (fun h62 => ?_) (fun h62 => ?_)
            · refine r_aload_n (i := 0) (pc' := 74) dX12_would_73 rfl rfl (.head _) ?_
              refine r_iload_n (i := 1) (pc' := 75) dX12_would_74 rfl rfl (.tail _ (.head _)) ?_
              refine r_aload_n (i := 0) (pc' := 76) dX12_would_75 rfl rfl (.head _) ?_
              refine r_getR (pc' := 79) dX12_would_76 rfl fX12_3 rfl (by first | assumption | rfl) (by omega) (by assumption) ?_
              refine r_iconst (pc' := 80) dX12_would_79 rfl ?_
              refine r_iaload (pc' := 81) dX12_would_80 rfl (by first | assumption | rfl) (by omega) (by omega) (by omega) (by first | decide | omega) (show Int.toNat 1 = 1 from rfl) ?_
              rw [hR.z 1 (by decide)]
              refine r_V2gi (ci := 12) (pc' := 84) dX12_would_81 rfl lX12_269 rfl (by decide) (Nat.le_of_ble_eq_true rfl) (by first | assumption | rfl) (by omega) (tX12_savedOn hm hR hO (by first | assumption | omega) (by omega)) (fun r81 n81 P81 X81 Y81 e81 le81 => ?_)
              obtain ⟨h1v, h2v, h3v, ho81, hr81⟩ := e81
              subst h1v h2v h3v hr81
              have hR81 : RB C b (xv X81 468) := by rw [ho81.v (by omega)]; exact hR
              refine r_ireturn dX12_would_84 rfl ?_
              refine ⟨_, rfl, rfl, rfl, rfl, by first | exact ho81 | exact hOut.rfl, ?_⟩
              unfold f_wouldT f_would
              try simp only [Int.toNat_natCast]
              (repeat' split) <;> first | rfl | (exfalso; omega)
            · refine r_aload_n (i := 0) (pc' := 66) dX12_would_65 rfl rfl (.head _) ?_
              refine r_iload_n (i := 1) (pc' := 67) dX12_would_66 rfl rfl (.tail _ (.head _)) ?_
              refine r_V1p (ci := 12) (pc' := 70) dX12_would_67 rfl lX12_266 rfl (by decide) (Nat.le_of_ble_eq_true rfl) (by first | assumption | rfl) (by omega) (tX12_deadInAll (by assumption) (by assumption) (by assumption) (by assumption)) ?_
              refine r_goto (t := 84) dX12_would_70 (by decide) ?_
              refine r_ireturn dX12_would_84 rfl ?_
              refine ⟨_, rfl, rfl, rfl, rfl, by first | exact ho81 | exact hOut.rfl, ?_⟩
              unfold f_wouldT f_would
              try simp only [Int.toNat_natCast]
              (repeat' split) <;> first | rfl | (exfalso; omega)
          · refine r_aload_n (i := 0) (pc' := 47) dX12_would_46 rfl rfl (.head _) ?_
            refine r_iload_n (i := 1) (pc' := 48) dX12_would_47 rfl rfl (.tail _ (.head _)) ?_
            refine r_aload_n (i := 0) (pc' := 49) dX12_would_48 rfl rfl (.head _) ?_
            refine r_getR (pc' := 52) dX12_would_49 rfl fX12_3 rfl (by first | assumption | rfl) (by omega) (by assumption) ?_
            refine r_iconst (pc' := 53) dX12_would_52 rfl ?_
            refine r_iaload (pc' := 54) dX12_would_53 rfl (by first | assumption | rfl) (by omega) (by omega) (by omega) (by first | decide | omega) (show Int.toNat 1 = 1 from rfl) ?_
            rw [hR.z 1 (by decide)]
            refine r_V2p (ci := 12) (pc' := 57) dX12_would_54 rfl lX12_221 rfl (by decide) (Nat.le_of_ble_eq_true rfl) (by first | assumption | rfl) (by omega) (tX12_deadLater (by assumption) (by assumption) (by assumption) (by assumption) (by first | omega | assumption)) ?_
            refine r_goto (t := 84) dX12_would_57 (by decide) ?_
            refine r_ireturn dX12_would_84 rfl ?_
            refine ⟨_, rfl, rfl, rfl, rfl, by first | exact ho81 | exact hOut.rfl, ?_⟩
            unfold f_wouldT f_would
            try simp only [Int.toNat_natCast]
            (repeat' split) <;> first | rfl | (exfalso; omega)
        · refine r_aload_n (i := 0) (pc' := 28) dX12_would_27 rfl rfl (.head _) ?_
          refine r_iload_n (i := 1) (pc' := 29) dX12_would_28 rfl rfl (.tail _ (.head _)) ?_
          refine r_aload_n (i := 0) (pc' := 30) dX12_would_29 rfl rfl (.head _) ?_
          refine r_getR (pc' := 33) dX12_would_30 rfl fX12_3 rfl (by first | assumption | rfl) (by omega) (by assumption) ?_
          refine r_iconst (pc' := 34) dX12_would_33 rfl ?_
          refine r_iaload (pc' := 35) dX12_would_34 rfl (by first | assumption | rfl) (by omega) (by omega) (by omega) (by first | decide | omega) (show Int.toNat 1 = 1 from rfl) ?_
          rw [hR.z 1 (by decide)]
          refine r_V2p (ci := 12) (pc' := 38) dX12_would_35 rfl lX12_218 rfl (by decide) (Nat.le_of_ble_eq_true rfl) (by first | assumption | rfl) (by omega) (tX12_deadNow (by assumption) (by assumption) (by assumption) (by assumption) (by first | omega | assumption)) ?_
          refine r_goto (t := 84) dX12_would_38 (by decide) ?_
          refine r_ireturn dX12_would_84 rfl ?_
          refine ⟨_, rfl, rfl, rfl, rfl, by first | exact ho81 | exact hOut.rfl, ?_⟩
          unfold f_wouldT f_would
          try simp only [Int.toNat_natCast]
          (repeat' split) <;> first | rfl | (exfalso; omega)
      · refine r_ldc (pc' := 22) dX12_would_20 rfl kX12_245 ?_
        refine r_ireturn dX12_would_22 rfl ?_
        refine ⟨_, rfl, rfl, rfl, rfl, by first | exact ho81 | exact hOut.rfl, ?_⟩
        unfold f_wouldT f_would
        try simp only [Int.toNat_natCast]
        (repeat' split) <;> first | rfl | (exfalso; omega)
  · refine r_V1p (ci := 12) (pc' := 5) dX12_would_2 rfl lX12_261 rfl (by decide) (Nat.le_of_ble_eq_true rfl) (by first | assumption | rfl) (by omega) (tX12_canCut (by assumption) (by assumption) (by assumption) (by first | omega | assumption)) ?_
    refine r_bif_eq (t := 20) (f := 8) dX12_would_5 (by decide) rfl (fun h5 => ?_) (fun h5 => ?_)
    · refine r_ldc (pc' := 22) dX12_would_20 rfl kX12_245 ?_
      refine r_ireturn dX12_would_22 rfl ?_
      refine ⟨_, rfl, rfl, rfl, rfl, by first | exact ho81 | exact hOut.rfl, ?_⟩
      unfold f_wouldT f_would
      try simp only [Int.toNat_natCast]
      (repeat' split) <;> first | rfl | (exfalso; omega)
    · exfalso; omega
set_option maxHeartbeats 4000000 in
set_option maxRecDepth 100000 in
theorem tX12_turned {l : Launch} {g : q_G} {n : Nat} {P : q_P} {X : q_X} {Y : q_Y} (hm : isMod n P) {C : q_X} {b : Nat} (hR : RB C b (xv X 468)) (hO : bOk C b) {k : Int} (hki : q_in k) {w : Int} (hw : q_in w) : q_Met l g mX12_turned 6 [.ref (g.1 + 467), .int (zi k), .int (zi w)] n P X Y (q_gi (fun r' n' P' X' Y' => n' = n ∧ P' = P ∧ Y' = Y ∧ hOut X X' ∧ r' = f_turned C b k w)) := by
  obtain ⟨m0, m2, m3, m8, m9, m14, m15, m16, m17, m18, m20, m22, m25, hnm9⟩ := id hm
  obtain ⟨o0, o1, o2, o3, o4, o5, o6, o10, oc, op0, opz, opi, om0, omi, olim⟩ := id hO
  refine q_enter (L := [(0, .ref (g.1 + 467)), (1, .int (zi k)), (2, .int (zi w))]) (by decide) (Nat.le_of_ble_eq_true rfl) rfl ?_
  refine r_aload_n (i := 0) (pc' := 1) dX12_turned_0 rfl rfl (.head _) ?_
  refine r_iload_n (i := 1) (pc' := 2) dX12_turned_1 rfl rfl (.tail _ (.head _)) ?_
  by_cases hk0 : bk_ref C b k = 0
  · have hk := bk_ref_has hk0
    obtain ⟨kn, rfl⟩ : ∃ kn : Nat, k = (kn : Int) := ⟨k.toNat, by omega⟩
    have hkk : (kn : Int) < xv C b 10 := hk.2
    have hck := hO.c hkk
    refine r_V1p (ci := 12) (pc' := 5) dX12_turned_2 rfl lX12_261 rfl (by decide) (Nat.le_of_ble_eq_true rfl) (by first | assumption | rfl) (by omega) (tX12_canCut (by assumption) (by assumption) (by assumption) (by first | omega | assumption)) ?_
    refine r_bif_eq (t := 18) (f := 8) dX12_turned_5 (by decide) rfl (fun h5 => ?_) (fun h5 => ?_)
    · exfalso; omega
    · refine r_iload_n (i := 2) (pc' := 9) dX12_turned_8 rfl rfl (.tail _ (.tail _ (.head _))) ?_
      refine r_i2l (pc' := 10) dX12_turned_9 rfl rfl ?_
      refine r_lconst (pc' := 11) (z := 0) dX12_turned_10 rfl rfl ?_
      refine r_lconst (pc' := 12) (z := 1) dX12_turned_11 rfl rfl ?_
      refine r_S3p (pc' := 15) dX12_turned_12 rfl lX12_68 (by decide) (Nat.le_of_ble_eq_true rfl) (tX12_isIn (by first | exact li_z (by omega) | exact li_z (xv_in _ _ _) | rfl) (by first | exact li_z (by omega) | exact li_z (xv_in _ _ _) | rfl) (by first | exact li_z (by omega) | exact li_z (xv_in _ _ _) | rfl)) ?_
      try simp only [i64_0, i64_1, i64_2, i64_3, i64_4, i64_5, i64_6, i64_7, i64_10, i64_19, i64_40, i64_100, i64_364, i64_9999, i64_99999, i64_999999, i64_m999999]
      refine r_bif_ne (t := 20) (f := 18) dX12_turned_15 (by decide) rfl (fun h15 => ?_) (fun h15 => ?_)
      · refine r_iload_n (i := 2) (pc' := 21) dX12_turned_20 rfl rfl (.tail _ (.tail _ (.head _))) ?_
        refine r_if_ne (t := 32) (f := 24) dX12_turned_21 (by decide) rfl (by first | omega | exact xv_in _ _ _) (fun h21 => ?_) (fun h21 => ?_)
        · refine r_aload_n (i := 0) (pc' := 33) dX12_turned_32 rfl rfl (.head _) ?_
          refine r_lconst (pc' := 34) (z := 0) dX12_turned_33 rfl rfl ?_
          refine r_lconst (pc' := 35) (z := 0) dX12_turned_34 rfl rfl ?_
          refine r_aload_n (i := 0) (pc' := 36) dX12_turned_35 rfl rfl (.head _) ?_
          refine r_getR (pc' := 39) dX12_turned_36 rfl fX12_3 rfl (by first | assumption | rfl) (by omega) (by assumption) ?_
          refine r_iconst (pc' := 40) dX12_turned_39 rfl ?_
          refine r_iaload (pc' := 41) dX12_turned_40 rfl (by first | assumption | rfl) (by omega) (by omega) (by omega) (by first | decide | omega) (show Int.toNat 1 = 1 from rfl) ?_
          rw [hR.z 1 (by decide)]
          refine r_V3gi (ci := 12) (pc' := 44) dX12_turned_41 rfl lX12_241 rfl (by decide) (Nat.le_of_ble_eq_true rfl) (by first | assumption | rfl) (by omega) (tX12_countOf hm hR hO lB_0 lB_0 (by omega)) (fun r41 n41 P41 X41 Y41 e41 le41 => ?_)
          obtain ⟨h1v, h2v, h3v, ho41, hr41⟩ := e41
          subst h1v h2v h3v hr41
          have hR41 : RB C b (xv X41 468) := by rw [ho41.v (by omega)]; exact hR
          refine r_aload_n (i := 0) (pc' := 45) dX12_turned_44 rfl rfl (.head _) ?_
          refine r_lconst (pc' := 46) (z := 0) dX12_turned_45 rfl rfl ?_
          refine r_lconst (pc' := 47) (z := 1) dX12_turned_46 rfl rfl ?_
          refine r_iload_n (i := 1) (pc' := 48) dX12_turned_47 rfl rfl (.tail _ (.head _)) ?_
          refine r_lshl (pc' := 49) dX12_turned_48 rfl rfl ?_
          refine r_aload_n (i := 0) (pc' := 50) dX12_turned_49 rfl rfl (.head _) ?_
          refine r_getR (pc' := 53) dX12_turned_50 rfl fX12_3 rfl (by first | assumption | rfl) (by omega) (by assumption) ?_
          refine r_iconst (pc' := 54) dX12_turned_53 rfl ?_
          refine r_iaload (pc' := 55) dX12_turned_54 rfl (by first | assumption | rfl) (by omega) (by omega) (by omega) (by first | decide | omega) (show Int.toNat 1 = 1 from rfl) ?_
          rw [hR41.z 1 (by decide)]
          refine r_V3gi (ci := 12) (pc' := 58) dX12_turned_55 rfl lX12_241 rfl (by decide) (Nat.le_of_ble_eq_true rfl) (by first | assumption | rfl) (by omega) (tX12_countOf hm hR41 hO lB_0 (lB_1 (k := kn) (by omega)) (by omega)) (fun r55 n55 P55 X55 Y55 e55 le55 => ?_)
          obtain ⟨h1v, h2v, h3v, ho55, hr55⟩ := e55
          subst h1v h2v h3v hr55
          have hR55 : RB C b (xv X55 468) := by rw [ho55.v (by omega)]; exact hR41
          refine r_isub (pc' := 59) dX12_turned_58 rfl ?_
          refine r_ireturn dX12_turned_59 rfl ?_
          refine ⟨_, rfl, rfl, rfl, rfl, by first | exact ho41.trans ho55 | exact hOut.rfl, ?_⟩
          unfold f_turned
          try simp only [Int.toNat_natCast]
          (repeat' split) <;> first | rfl | (exfalso; omega) | (rw [cnG_0, cnG_0])
        · refine r_aload_n (i := 0) (pc' := 25) dX12_turned_24 rfl rfl (.head _) ?_
          refine r_iload_n (i := 1) (pc' := 26) dX12_turned_25 rfl rfl (.tail _ (.head _)) ?_
          refine r_V1p (ci := 12) (pc' := 29) dX12_turned_26 rfl lX12_227 rfl (by decide) (Nat.le_of_ble_eq_true rfl) (by first | assumption | rfl) (by omega) (tX12_mostOf (by assumption) (by assumption) (by assumption) (by assumption)) ?_
          refine r_goto (t := 59) dX12_turned_29 (by decide) ?_
          refine r_ireturn dX12_turned_59 rfl ?_
          refine ⟨_, rfl, rfl, rfl, rfl, by first | exact ho41.trans ho55 | exact hOut.rfl, ?_⟩
          unfold f_turned
          try simp only [Int.toNat_natCast]
          (repeat' split) <;> first | rfl | (exfalso; omega) | (rw [cnG_0, cnG_0])
      · refine r_iconst (pc' := 19) dX12_turned_18 rfl ?_
        refine r_ireturn dX12_turned_19 rfl ?_
        refine ⟨_, rfl, rfl, rfl, rfl, by first | exact ho41.trans ho55 | exact hOut.rfl, ?_⟩
        unfold f_turned
        try simp only [Int.toNat_natCast]
        (repeat' split) <;> first | rfl | (exfalso; omega) | (rw [cnG_0, cnG_0])
  · refine r_V1p (ci := 12) (pc' := 5) dX12_turned_2 rfl lX12_261 rfl (by decide) (Nat.le_of_ble_eq_true rfl) (by first | assumption | rfl) (by omega) (tX12_canCut (by assumption) (by assumption) (by assumption) (by first | omega | assumption)) ?_
    refine r_bif_eq (t := 18) (f := 8) dX12_turned_5 (by decide) rfl (fun h5 => ?_) (fun h5 => ?_)
    · refine r_iconst (pc' := 19) dX12_turned_18 rfl ?_
      refine r_ireturn dX12_turned_19 rfl ?_
      refine ⟨_, rfl, rfl, rfl, rfl, by first | exact ho41.trans ho55 | exact hOut.rfl, ?_⟩
      unfold f_turned
      try simp only [Int.toNat_natCast]
      (repeat' split) <;> first | rfl | (exfalso; omega) | (rw [cnG_0, cnG_0])
    · exfalso; omega
set_option maxHeartbeats 4000000 in
set_option maxRecDepth 100000 in
theorem lX12_allTurned {l : Launch} {g : q_G} {n : Nat} {P : q_P} {X : q_X} {Y : q_Y} (hm : isMod n P) {C : q_X} {b : Nat} (hR : RB C b (xv X 468)) (hO : bOk C b) : ∀ (w i : Nat) (tu : Int64), i + w = (xv C b 10).toNat → lB tu (fun k => decide (k < i) && decide (bk_ref C b k = 0)) → q_Tr l g mX12_allTurned 7 (q_gi (fun r' n' P' X' Y' => n' = n ∧ P' = P ∧ Y' = Y ∧ hOut X X' ∧ r' = f_allT C b)) 4 [(0, .ref (g.1 + 467)), (1, .long tu), (3, .int (zi (i : Int)))] [] n P X Y := by
  obtain ⟨m0, m2, m3, m8, m9, m14, m15, m16, m17, m18, m20, m22, m25, hnm9⟩ := id hm
  obtain ⟨o0, o1, o2, o3, o4, o5, o6, o10, oc, op0, opz, opi, om0, omi, olim⟩ := id hO
  intro w
  induction w with
  | zero =>
    intro i tu hi hT
    refine r_iload_n (i := 3) (pc' := 5) dX12_allTurned_4 rfl rfl (.tail _ (.tail _ (.head _))) ?_
    refine r_aload_n (i := 0) (pc' := 6) dX12_allTurned_5 rfl rfl (.head _) ?_
    refine r_getR (pc' := 9) dX12_allTurned_6 rfl fX12_3 rfl (by first | assumption | rfl) (by omega) (by assumption) ?_
    refine r_bipush (pc' := 11) dX12_allTurned_9 rfl (by decide) ?_
    refine r_iaload (pc' := 12) dX12_allTurned_11 rfl (by first | assumption | rfl) (by omega) (by omega) (by omega) (by first | decide | omega) (show Int.toNat 7 = 7 from rfl) ?_
    rw [hR.m]
    refine r_icmp_ge (t := 39) (f := 15) dX12_allTurned_12 (by decide) rfl (by first | omega | exact xv_in _ _ _) (by first | omega | exact xv_in _ _ _) (fun h12 => ?_) (fun h12 => ?_)
    · refine r_aload_n (i := 0) (pc' := 40) dX12_allTurned_39 rfl rfl (.head _) ?_
      refine r_lconst (pc' := 41) (z := 0) dX12_allTurned_40 rfl rfl ?_
      refine r_lload_n (i := 1) (pc' := 42) dX12_allTurned_41 rfl rfl (.tail _ (.head _)) ?_
      refine r_V2gi (ci := 12) (pc' := 45) dX12_allTurned_42 rfl lX12_246 rfl (by decide) (Nat.le_of_ble_eq_true rfl) (by first | assumption | rfl) (by omega) (tX12_roomOf hm hR hO lB_0 hT) (fun r42 n42 P42 X42 Y42 e42 le42 => ?_)
      obtain ⟨h1v, h2v, h3v, ho42, hr42⟩ := e42
      subst h1v h2v h3v hr42
      have hR42 : RB C b (xv X42 468) := by rw [ho42.v (by omega)]; exact hR
      refine r_ireturn dX12_allTurned_45 rfl ?_
      refine ⟨_, rfl, rfl, rfl, rfl, ho42, ?_⟩
      rw [roomG_0]
      have hcg := bk_cnt_T (C := C) (b := b) (G := g0) (G' := g0) (T := fun k => decide (k < i) && decide (bk_ref C b (k : Int) = 0)) (T' := fun k => decide (bk_ref C b (k : Int) = 0)) (fun j hj => ⟨rfl, by rw [decide_eq_true (show j < i by omega), Bool.true_and]⟩) (xv C b 1)
      unfold f_allT bk_room
      rw [hcg]
    · exfalso; omega
  | succ w ih =>
    intro i tu hi hT
    refine r_iload_n (i := 3) (pc' := 5) dX12_allTurned_4 rfl rfl (.tail _ (.tail _ (.head _))) ?_
    refine r_aload_n (i := 0) (pc' := 6) dX12_allTurned_5 rfl rfl (.head _) ?_
    refine r_getR (pc' := 9) dX12_allTurned_6 rfl fX12_3 rfl (by first | assumption | rfl) (by omega) (by assumption) ?_
    refine r_bipush (pc' := 11) dX12_allTurned_9 rfl (by decide) ?_
    refine r_iaload (pc' := 12) dX12_allTurned_11 rfl (by first | assumption | rfl) (by omega) (by omega) (by omega) (by first | decide | omega) (show Int.toNat 7 = 7 from rfl) ?_
    rw [hR.m]
    refine r_icmp_ge (t := 39) (f := 15) dX12_allTurned_12 (by decide) rfl (by first | omega | exact xv_in _ _ _) (by first | omega | exact xv_in _ _ _) (fun h12 => ?_) (fun h12 => ?_)
    · exfalso; omega
    · refine r_lload_n (i := 1) (pc' := 16) dX12_allTurned_15 rfl rfl (.tail _ (.head _)) ?_
      refine r_aload_n (i := 0) (pc' := 17) dX12_allTurned_16 rfl rfl (.head _) ?_
      refine r_iload_n (i := 3) (pc' := 18) dX12_allTurned_17 rfl rfl (.tail _ (.tail _ (.head _))) ?_
      refine r_V1p (ci := 12) (pc' := 21) dX12_allTurned_18 rfl lX12_261 rfl (by decide) (Nat.le_of_ble_eq_true rfl) (by first | assumption | rfl) (by omega) (tX12_canCut (by assumption) (by assumption) (by assumption) (by first | omega | assumption)) ?_
      refine r_bif_eq (t := 30) (f := 24) dX12_allTurned_21 (by decide) rfl (fun h21 => ?_) (fun h21 => ?_)
      · refine r_lconst (pc' := 31) (z := 0) dX12_allTurned_30 rfl rfl ?_
        refine r_lor (pc' := 32) dX12_allTurned_31 rfl ?_
        refine r_lstore_n (i := 1) (pc' := 33) dX12_allTurned_32 rfl rfl rfl (.s2 (.here (.s2 .nil rfl (.inr rfl) (.inl rfl))) rfl (.inr rfl) (.inl rfl)) ?_
        refine r_iinc (pc' := 36) dX12_allTurned_33 rfl rfl (.tail _ (.tail _ (.head _))) (.s1 (.s2 (.here .nil) rfl (.inl rfl) (.inr rfl)) rfl rfl rfl) ?_
        refine r_goto (t := 4) dX12_allTurned_36 (by decide) ?_
        first
          | (have hk0 : bk_ref C b (i : Int) = 0 := by assumption
             refine ih (i + 1) _ (by omega) ((lB_or hT (lB_1 (k := i) (by omega))).congr (fun j hj => ?_))
             by_cases e : j = i
             · subst e; simp [g1, hk0]
             · simp [g1, e, show j < i + 1 ↔ j < i by omega])
          | (have hk0 : ¬ bk_ref C b (i : Int) = 0 := by assumption
             refine ih (i + 1) _ (by omega) ((lB_or hT lB_0).congr (fun j hj => ?_))
             by_cases e : j = i
             · subst e; simp [g0, hk0]
             · simp [g0, show j < i + 1 ↔ j < i by omega])
      · refine r_lconst (pc' := 25) (z := 1) dX12_allTurned_24 rfl rfl ?_
        refine r_iload_n (i := 3) (pc' := 26) dX12_allTurned_25 rfl rfl (.tail _ (.tail _ (.head _))) ?_
        refine r_lshl (pc' := 27) dX12_allTurned_26 rfl rfl ?_
        refine r_goto (t := 31) dX12_allTurned_27 (by decide) ?_
        refine r_lor (pc' := 32) dX12_allTurned_31 rfl ?_
        refine r_lstore_n (i := 1) (pc' := 33) dX12_allTurned_32 rfl rfl rfl (.s2 (.here (.s2 .nil rfl (.inr rfl) (.inl rfl))) rfl (.inr rfl) (.inl rfl)) ?_
        refine r_iinc (pc' := 36) dX12_allTurned_33 rfl rfl (.tail _ (.tail _ (.head _))) (.s1 (.s2 (.here .nil) rfl (.inl rfl) (.inr rfl)) rfl rfl rfl) ?_
        refine r_goto (t := 4) dX12_allTurned_36 (by decide) ?_
        first
          | (have hk0 : bk_ref C b (i : Int) = 0 := by assumption
             refine ih (i + 1) _ (by omega) ((lB_or hT (lB_1 (k := i) (by omega))).congr (fun j hj => ?_))
             by_cases e : j = i
             · subst e; simp [g1, hk0]
             · simp [g1, e, show j < i + 1 ↔ j < i by omega])
          | (have hk0 : ¬ bk_ref C b (i : Int) = 0 := by assumption
             refine ih (i + 1) _ (by omega) ((lB_or hT lB_0).congr (fun j hj => ?_))
             by_cases e : j = i
             · subst e; simp [g0, hk0]
             · simp [g0, show j < i + 1 ↔ j < i by omega])
set_option maxHeartbeats 4000000 in
set_option maxRecDepth 100000 in
theorem tX12_allTurned {l : Launch} {g : q_G} {n : Nat} {P : q_P} {X : q_X} {Y : q_Y} (hm : isMod n P) {C : q_X} {b : Nat} (hR : RB C b (xv X 468)) (hO : bOk C b) : q_Met l g mX12_allTurned 7 [.ref (g.1 + 467)] n P X Y (q_gi (fun r' n' P' X' Y' => n' = n ∧ P' = P ∧ Y' = Y ∧ hOut X X' ∧ r' = f_allT C b)) := by
  obtain ⟨m0, m2, m3, m8, m9, m14, m15, m16, m17, m18, m20, m22, m25, hnm9⟩ := id hm
  obtain ⟨o0, o1, o2, o3, o4, o5, o6, o10, oc, op0, opz, opi, om0, omi, olim⟩ := id hO
  refine q_enter (L := [(0, .ref (g.1 + 467))]) (by decide) (Nat.le_of_ble_eq_true rfl) rfl ?_
  refine r_lconst (pc' := 1) (z := 0) dX12_allTurned_0 rfl rfl ?_
  refine r_lstore_n (i := 1) (pc' := 2) dX12_allTurned_1 rfl rfl rfl (.s2 .nil rfl (.inr rfl) (.inl rfl)) ?_
  refine r_iconst (pc' := 3) dX12_allTurned_2 rfl ?_
  refine r_istore_n (i := 3) (pc' := 4) dX12_allTurned_3 rfl rfl rfl (.s1 (.s2 .nil rfl (.inl rfl) (.inr rfl)) rfl rfl rfl) ?_
  exact lX12_allTurned hm hR hO _ 0 0 (Nat.zero_add _) (lB_0.congr (fun j hj => by simp [g0]))
