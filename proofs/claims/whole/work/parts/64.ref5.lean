set_option maxHeartbeats 4000000 in
set_option maxRecDepth 100000 in
theorem tX12_over {l : Launch} {g : q_G} {n : Nat} {P : q_P} {X : q_X} {Y : q_Y} (hm : isMod n P) {C : q_X} {b : Nat} (hR : RB C b (xv X 468)) (hO : bOk C b) {k : Int} (hk : q_in k) : q_Met l g mX12_over 4 [.ref (g.1 + 467), .int (zi k)] n P X Y (q_pv (.int (zi (f_over C b k))) n P X Y) := by
  obtain ⟨m0, m2, m3, m8, m9, m14, m15, m16, m17, m18, m20, m22, m25, hnm9⟩ := id hm
  obtain ⟨o0, o1, o2, o3, o4, o5, o6, o10, oc, op0, opz, opi, om0, omi, olim⟩ := id hO
  refine q_enter (L := [(0, .ref (g.1 + 467)), (1, .int (zi k))]) (by decide) (Nat.le_of_ble_eq_true rfl) rfl ?_
  refine r_iload_n (i := 1) (pc' := 1) dX12_over_0 rfl rfl (.tail _ (.head _)) ?_
  refine r_i2l (pc' := 2) dX12_over_1 rfl rfl ?_
  refine r_lconst (pc' := 3) (z := 1) dX12_over_2 rfl rfl ?_
  refine r_ldc2 (pc' := 6) dX12_over_3 rfl kX12_345 ?_
  refine r_S3p (pc' := 9) dX12_over_6 rfl lX12_68 (by decide) (Nat.le_of_ble_eq_true rfl) (tX12_isIn (by first | exact li_z (by omega) | exact li_z (xv_in _ _ _) | rfl) (by first | exact li_z (by omega) | exact li_z (xv_in _ _ _) | rfl) (by first | exact li_z (by omega) | exact li_z (xv_in _ _ _) | rfl)) ?_
  try simp only [i64_0, i64_1, i64_2, i64_3, i64_4, i64_5, i64_6, i64_7, i64_10, i64_19, i64_40, i64_100, i64_364, i64_9999, i64_99999, i64_999999, i64_m999999]
  refine r_bif_ne (t := 14) (f := 12) dX12_over_9 (by decide) rfl (fun h9 => ?_) (fun h9 => ?_)
  · refine r_iconst (pc' := 15) dX12_over_14 rfl ?_
    refine r_istore_n (i := 2) (pc' := 16) dX12_over_15 rfl rfl rfl (.s1 (.s1 .nil rfl rfl rfl) rfl rfl rfl) ?_
    refine r_iconst (pc' := 17) dX12_over_16 rfl ?_
    refine r_istore_n (i := 3) (pc' := 18) dX12_over_17 rfl rfl rfl (.s1 (.s1 (.s1 .nil rfl rfl rfl) rfl rfl rfl) rfl rfl rfl) ?_
    obtain ⟨kn, rfl⟩ : ∃ kn : Nat, k = (kn : Int) := ⟨k.toNat, by omega⟩
    rw [f_over, if_neg (by omega), Int.toNat_natCast]
    exact lX12_over hm hR hO (k := kn) (by omega) kn 0 (by omega)
  · refine r_iconst (pc' := 13) dX12_over_12 rfl ?_
    refine r_ireturn dX12_over_13 rfl ?_
    refine ⟨?_, rfl, rfl, rfl, rfl⟩
    unfold f_over
    rw [if_pos (by omega)]
set_option maxHeartbeats 4000000 in
set_option maxRecDepth 100000 in
theorem tX12_share {l : Launch} {g : q_G} {n : Nat} {P : q_P} {X : q_X} {Y : q_Y} (hm : isMod n P) {C : q_X} {b : Nat} (hR : RB C b (xv X 468)) (hO : bOk C b) {y : Int} (hy : q_in y) : q_Met l g mX12_share 2 [.ref (g.1 + 467), .int (zi y)] n P X Y (q_pv (.int (zi (f_share C b y))) n P X Y) := by
  obtain ⟨m0, m2, m3, m8, m9, m14, m15, m16, m17, m18, m20, m22, m25, hnm9⟩ := id hm
  obtain ⟨o0, o1, o2, o3, o4, o5, o6, o10, oc, op0, opz, opi, om0, omi, olim⟩ := id hO
  refine q_enter (L := [(0, .ref (g.1 + 467)), (1, .int (zi y))]) (by decide) (Nat.le_of_ble_eq_true rfl) rfl ?_
  refine r_iload_n (i := 1) (pc' := 1) dX12_share_0 rfl rfl (.tail _ (.head _)) ?_
  refine r_S1p (pc' := 4) dX12_share_1 rfl lX12_253 (by decide) (Nat.le_of_ble_eq_true rfl) (tX12_isYear (by omega)) ?_
  refine r_bif_ne (t := 9) (f := 7) dX12_share_4 (by decide) rfl (fun h4 => ?_) (fun h4 => ?_)
  · have hl0 := olim y.toNat (by omega)
    refine r_aload_n (i := 0) (pc' := 10) dX12_share_9 rfl rfl (.head _) ?_
    refine r_getR (pc' := 13) dX12_share_10 rfl fX12_3 rfl (by first | assumption | rfl) (by omega) (by assumption) ?_
    refine r_bipush (pc' := 15) dX12_share_13 rfl (by decide) ?_
    refine r_iload_n (i := 1) (pc' := 16) dX12_share_15 rfl rfl (.tail _ (.head _)) ?_
    refine r_iadd (pc' := 17) dX12_share_16 rfl ?_
    refine r_iaload (pc' := 18) dX12_share_17 rfl (by first | assumption | rfl) (by omega) (by omega) (by omega) (by first | decide | omega) rfl ?_
    rw [hR.lim (by omega)]
    refine r_if_ne (t := 24) (f := 21) dX12_share_18 (by decide) rfl (by first | omega | exact xv_in _ _ _) (fun h18 => ?_) (fun h18 => ?_)
    · refine r_aload_n (i := 0) (pc' := 25) dX12_share_24 rfl rfl (.head _) ?_
      refine r_getR (pc' := 28) dX12_share_25 rfl fX12_3 rfl (by first | assumption | rfl) (by omega) (by assumption) ?_
      refine r_bipush (pc' := 30) dX12_share_28 rfl (by decide) ?_
      refine r_iload_n (i := 1) (pc' := 31) dX12_share_30 rfl rfl (.tail _ (.head _)) ?_
      refine r_iadd (pc' := 32) dX12_share_31 rfl ?_
      refine r_iaload (pc' := 33) dX12_share_32 rfl (by first | assumption | rfl) (by omega) (by omega) (by omega) (by first | decide | omega) rfl ?_
      rw [hR.dead (by omega)]
      refine r_i2l (pc' := 34) dX12_share_33 rfl rfl ?_
      refine r_ldc2 (pc' := 37) dX12_share_34 rfl kX12_361 ?_
      refine r_lmul (pc' := 38) dX12_share_37 rfl ?_
      refine r_aload_n (i := 0) (pc' := 39) dX12_share_38 rfl rfl (.head _) ?_
      refine r_getR (pc' := 42) dX12_share_39 rfl fX12_3 rfl (by first | assumption | rfl) (by omega) (by assumption) ?_
      refine r_bipush (pc' := 44) dX12_share_42 rfl (by decide) ?_
      refine r_iload_n (i := 1) (pc' := 45) dX12_share_44 rfl rfl (.tail _ (.head _)) ?_
      refine r_iadd (pc' := 46) dX12_share_45 rfl ?_
      refine r_iaload (pc' := 47) dX12_share_46 rfl (by first | assumption | rfl) (by omega) (by omega) (by omega) (by first | decide | omega) rfl ?_
      rw [hR.lim (by omega)]
      refine r_i2l (pc' := 48) dX12_share_47 rfl rfl ?_
      refine r_ldiv (pc' := 49) dX12_share_48 rfl (i64_ne0 (xv_in _ _ _) (by omega)) ?_
      refine r_lstore_n (i := 2) (pc' := 50) dX12_share_49 rfl rfl rfl (.s2 (.s2 .nil rfl (.inr rfl) (.inl rfl)) rfl (.inr rfl) (.inl rfl)) ?_
      refine r_lload_n (i := 2) (pc' := 51) dX12_share_50 rfl rfl (.tail _ (.tail _ (.head _))) ?_
      refine r_ldc2 (pc' := 54) dX12_share_51 rfl kX12_363 ?_
      refine r_lcmp (pc' := 55) dX12_share_54 rfl ?_
      rw [lg_cmp_z]
      refine r_if_le (t := 64) (f := 58) dX12_share_55 (by decide) rfl (by split <;> first | omega | (split <;> omega)) (fun h55 => ?_) (fun h55 => ?_)
      · refine r_lload_n (i := 2) (pc' := 65) dX12_share_64 rfl rfl (.tail _ (.tail _ (.head _))) ?_
        refine r_l2i (pc' := 66) dX12_share_65 rfl ((zi_of _).symm) ?_
        refine r_ireturn dX12_share_66 rfl ?_
        refine ⟨?_, rfl, rfl, rfl, rfl⟩
        unfold f_share
        first
          | (rw [if_pos (by omega)]; done)
          | (rw [if_neg (by omega), if_pos (by omega)]; done)
          | (rw [if_neg (c := ¬ (0 ≤ y ∧ y < 20)) (by omega), if_neg (c := xv C (b + 1) y.toNat < 1) (by omega), if_neg ((lg_le_z _ _).mp h55)]; done)
          | (rw [if_neg (c := ¬ (0 ≤ y ∧ y < 20)) (by omega), if_neg (c := xv C (b + 1) y.toNat < 1) (by omega), if_pos (Classical.not_not.mp (fun q => by have := (lg_le_z _ _).mpr q; omega))]; rfl)
      · refine r_ldcw (pc' := 61) dX12_share_58 rfl kX12_365 ?_
        refine r_goto (t := 66) dX12_share_61 (by decide) ?_
        refine r_ireturn dX12_share_66 rfl ?_
        refine ⟨?_, rfl, rfl, rfl, rfl⟩
        unfold f_share
        first
          | (rw [if_pos (by omega)]; done)
          | (rw [if_neg (by omega), if_pos (by omega)]; done)
          | (rw [if_neg (c := ¬ (0 ≤ y ∧ y < 20)) (by omega), if_neg (c := xv C (b + 1) y.toNat < 1) (by omega), if_neg ((lg_le_z _ _).mp h55)]; done)
          | (rw [if_neg (c := ¬ (0 ≤ y ∧ y < 20)) (by omega), if_neg (c := xv C (b + 1) y.toNat < 1) (by omega), if_pos (Classical.not_not.mp (fun q => by have := (lg_le_z _ _).mpr q; omega))]; rfl)
    · refine r_bipush (pc' := 23) dX12_share_21 rfl (by decide) ?_
      refine r_ireturn dX12_share_23 rfl ?_
      refine ⟨?_, rfl, rfl, rfl, rfl⟩
      unfold f_share
      first
        | (rw [if_pos (by omega)]; done)
        | (rw [if_neg (by omega), if_pos (by omega)]; done)
        | (rw [if_neg (c := ¬ (0 ≤ y ∧ y < 20)) (by omega), if_neg (c := xv C (b + 1) y.toNat < 1) (by omega), if_neg ((lg_le_z _ _).mp h55)]; done)
        | (rw [if_neg (c := ¬ (0 ≤ y ∧ y < 20)) (by omega), if_neg (c := xv C (b + 1) y.toNat < 1) (by omega), if_pos (Classical.not_not.mp (fun q => by have := (lg_le_z _ _).mpr q; omega))]; rfl)
  · refine r_iconst (pc' := 8) dX12_share_7 rfl ?_
    refine r_ireturn dX12_share_8 rfl ?_
    refine ⟨?_, rfl, rfl, rfl, rfl⟩
    unfold f_share
    first
      | (rw [if_pos (by omega)]; done)
      | (rw [if_neg (by omega), if_pos (by omega)]; done)
      | (rw [if_neg (c := ¬ (0 ≤ y ∧ y < 20)) (by omega), if_neg (c := xv C (b + 1) y.toNat < 1) (by omega), if_neg ((lg_le_z _ _).mp h55)]; done)
      | (rw [if_neg (c := ¬ (0 ≤ y ∧ y < 20)) (by omega), if_neg (c := xv C (b + 1) y.toNat < 1) (by omega), if_pos (Classical.not_not.mp (fun q => by have := (lg_le_z _ _).mpr q; omega))]; rfl)
set_option maxHeartbeats 4000000 in
set_option maxRecDepth 100000 in
theorem tX12_is {l : Launch} {g : q_G} {n : Nat} {P : q_P} {X : q_X} {Y : q_Y} (hm : isMod n P) {C : q_X} {b : Nat} (hR : RB C b (xv X 468)) (hO : bOk C b) (hde : xv X 467 1 = xv C 442 2) (htp : xv X 467 4 = xv C 445 1) {w : Int} (hw : q_in w) : q_Met l g mX12_is 3 [.ref (g.1 + 467), .int (zi w)] n P X Y (q_pv (.int (zi (f_is C b w))) n P X Y) := by
  obtain ⟨m0, m2, m3, m8, m9, m14, m15, m16, m17, m18, m20, m22, m25, hnm9⟩ := id hm
  obtain ⟨o0, o1, o2, o3, o4, o5, o6, o10, oc, op0, opz, opi, om0, omi, olim⟩ := id hO
  refine q_enter (L := [(0, .ref (g.1 + 467)), (1, .int (zi w))]) (by decide) (Nat.le_of_ble_eq_true rfl) rfl ?_
  refine r_iload_n (i := 1) (pc' := 1) dX12_is_0 rfl rfl (.tail _ (.head _)) ?_
  by_cases hs1 : w < 0 ∨ 12 < w
  · refine r_tout (t := 94) dX12_is_1 (by first | omega | exact xv_in _ _ _) hs1 (by decide) ?_
    refine r_iconst (pc' := 95) dX12_is_94 rfl ?_
    refine r_ireturn dX12_is_95 rfl ?_
    refine ⟨?_, rfl, rfl, rfl, rfl⟩
    unfold f_is
    first
      | (rw [if_pos (by omega)]; done)
      | (rw [if_neg (by omega), if_pos (by omega)]; done)
      | (rw [if_neg (by omega), if_neg (by omega), if_pos (by omega)]; rfl)
      | (rw [if_neg (by omega), if_neg (by omega), if_neg (by omega), if_pos (by omega)]; done)
      | (rw [if_neg (by omega), if_neg (by omega), if_neg (by omega), if_neg (by omega), if_pos (by omega)]; done)
      | (rw [if_neg (by omega), if_neg (by omega), if_neg (by omega), if_neg (by omega), if_neg (by omega)]; done)
  · have hc1 : w = 0 ∨ w = 1 ∨ w = 2 ∨ w = 3 ∨ w = 4 ∨ w = 5 ∨ w = 6 ∨ w = 7 ∨ w = 8 ∨ w = 9 ∨ w = 10 ∨ w = 11 ∨ w = 12 := by omega
    rcases hc1 with hc1 | hc1 | hc1 | hc1 | hc1 | hc1 | hc1 | hc1 | hc1 | hc1 | hc1 | hc1 | hc1
    · refine r_tin (t := 68) (off := 67) dX12_is_1 (by first | omega | exact xv_in _ _ _) (by omega) (by omega) (by rw [hc1]; rfl) (by decide) ?_
      refine r_aload_n (i := 0) (pc' := 69) dX12_is_68 rfl rfl (.head _) ?_
      refine r_getR (pc' := 72) dX12_is_69 rfl fX12_3 rfl (by first | assumption | rfl) (by omega) (by assumption) ?_
      refine r_iload_n (i := 1) (pc' := 73) dX12_is_72 rfl rfl (.tail _ (.head _)) ?_
      refine r_iaload (pc' := 74) dX12_is_73 rfl (by first | assumption | rfl) (by omega) (by omega) (by omega) (by first | decide | omega) rfl ?_
      first | rw [hR.z w.toNat (by omega)] | rw [show w.toNat = 7 by omega, hR.m]
      refine r_ireturn dX12_is_74 rfl ?_
      refine ⟨?_, rfl, rfl, rfl, rfl⟩
      unfold f_is
      first
        | (rw [if_pos (by omega)]; done)
        | (rw [if_neg (by omega), if_pos (by omega)]; done)
        | (rw [if_neg (by omega), if_neg (by omega), if_pos (by omega)]; rfl)
        | (rw [if_neg (by omega), if_neg (by omega), if_neg (by omega), if_pos (by omega)]; done)
        | (rw [if_neg (by omega), if_neg (by omega), if_neg (by omega), if_neg (by omega), if_pos (by omega)]; done)
        | (rw [if_neg (by omega), if_neg (by omega), if_neg (by omega), if_neg (by omega), if_neg (by omega)]; done)
    · refine r_tin (t := 68) (off := 67) dX12_is_1 (by first | omega | exact xv_in _ _ _) (by omega) (by omega) (by rw [hc1]; rfl) (by decide) ?_
      refine r_aload_n (i := 0) (pc' := 69) dX12_is_68 rfl rfl (.head _) ?_
      refine r_getR (pc' := 72) dX12_is_69 rfl fX12_3 rfl (by first | assumption | rfl) (by omega) (by assumption) ?_
      refine r_iload_n (i := 1) (pc' := 73) dX12_is_72 rfl rfl (.tail _ (.head _)) ?_
      refine r_iaload (pc' := 74) dX12_is_73 rfl (by first | assumption | rfl) (by omega) (by omega) (by omega) (by first | decide | omega) rfl ?_
      first | rw [hR.z w.toNat (by omega)] | rw [show w.toNat = 7 by omega, hR.m]
      refine r_ireturn dX12_is_74 rfl ?_
      refine ⟨?_, rfl, rfl, rfl, rfl⟩
      unfold f_is
      first
        | (rw [if_pos (by omega)]; done)
        | (rw [if_neg (by omega), if_pos (by omega)]; done)
        | (rw [if_neg (by omega), if_neg (by omega), if_pos (by omega)]; rfl)
        | (rw [if_neg (by omega), if_neg (by omega), if_neg (by omega), if_pos (by omega)]; done)
        | (rw [if_neg (by omega), if_neg (by omega), if_neg (by omega), if_neg (by omega), if_pos (by omega)]; done)
        | (rw [if_neg (by omega), if_neg (by omega), if_neg (by omega), if_neg (by omega), if_neg (by omega)]; done)
    · refine r_tin (t := 68) (off := 67) dX12_is_1 (by first | omega | exact xv_in _ _ _) (by omega) (by omega) (by rw [hc1]; rfl) (by decide) ?_
      refine r_aload_n (i := 0) (pc' := 69) dX12_is_68 rfl rfl (.head _) ?_
      refine r_getR (pc' := 72) dX12_is_69 rfl fX12_3 rfl (by first | assumption | rfl) (by omega) (by assumption) ?_
      refine r_iload_n (i := 1) (pc' := 73) dX12_is_72 rfl rfl (.tail _ (.head _)) ?_
      refine r_iaload (pc' := 74) dX12_is_73 rfl (by first | assumption | rfl) (by omega) (by omega) (by omega) (by first | decide | omega) rfl ?_
      first | rw [hR.z w.toNat (by omega)] | rw [show w.toNat = 7 by omega, hR.m]
      refine r_ireturn dX12_is_74 rfl ?_
      refine ⟨?_, rfl, rfl, rfl, rfl⟩
      unfold f_is
      first
        | (rw [if_pos (by omega)]; done)
        | (rw [if_neg (by omega), if_pos (by omega)]; done)
        | (rw [if_neg (by omega), if_neg (by omega), if_pos (by omega)]; rfl)
        | (rw [if_neg (by omega), if_neg (by omega), if_neg (by omega), if_pos (by omega)]; done)
        | (rw [if_neg (by omega), if_neg (by omega), if_neg (by omega), if_neg (by omega), if_pos (by omega)]; done)
        | (rw [if_neg (by omega), if_neg (by omega), if_neg (by omega), if_neg (by omega), if_neg (by omega)]; done)
    · refine r_tin (t := 68) (off := 67) dX12_is_1 (by first | omega | exact xv_in _ _ _) (by omega) (by omega) (by rw [hc1]; rfl) (by decide) ?_
      refine r_aload_n (i := 0) (pc' := 69) dX12_is_68 rfl rfl (.head _) ?_
      refine r_getR (pc' := 72) dX12_is_69 rfl fX12_3 rfl (by first | assumption | rfl) (by omega) (by assumption) ?_
      refine r_iload_n (i := 1) (pc' := 73) dX12_is_72 rfl rfl (.tail _ (.head _)) ?_
      refine r_iaload (pc' := 74) dX12_is_73 rfl (by first | assumption | rfl) (by omega) (by omega) (by omega) (by first | decide | omega) rfl ?_
      first | rw [hR.z w.toNat (by omega)] | rw [show w.toNat = 7 by omega, hR.m]
      refine r_ireturn dX12_is_74 rfl ?_
      refine ⟨?_, rfl, rfl, rfl, rfl⟩
      unfold f_is
      first
        | (rw [if_pos (by omega)]; done)
        | (rw [if_neg (by omega), if_pos (by omega)]; done)
        | (rw [if_neg (by omega), if_neg (by omega), if_pos (by omega)]; rfl)
        | (rw [if_neg (by omega), if_neg (by omega), if_neg (by omega), if_pos (by omega)]; done)
        | (rw [if_neg (by omega), if_neg (by omega), if_neg (by omega), if_neg (by omega), if_pos (by omega)]; done)
        | (rw [if_neg (by omega), if_neg (by omega), if_neg (by omega), if_neg (by omega), if_neg (by omega)]; done)
    · refine r_tin (t := 68) (off := 67) dX12_is_1 (by first | omega | exact xv_in _ _ _) (by omega) (by omega) (by rw [hc1]; rfl) (by decide) ?_
      refine r_aload_n (i := 0) (pc' := 69) dX12_is_68 rfl rfl (.head _) ?_
      refine r_getR (pc' := 72) dX12_is_69 rfl fX12_3 rfl (by first | assumption | rfl) (by omega) (by assumption) ?_
      refine r_iload_n (i := 1) (pc' := 73) dX12_is_72 rfl rfl (.tail _ (.head _)) ?_
      refine r_iaload (pc' := 74) dX12_is_73 rfl (by first | assumption | rfl) (by omega) (by omega) (by omega) (by first | decide | omega) rfl ?_
      first | rw [hR.z w.toNat (by omega)] | rw [show w.toNat = 7 by omega, hR.m]
      refine r_ireturn dX12_is_74 rfl ?_
      refine ⟨?_, rfl, rfl, rfl, rfl⟩
      unfold f_is
      first
        | (rw [if_pos (by omega)]; done)
        | (rw [if_neg (by omega), if_pos (by omega)]; done)
        | (rw [if_neg (by omega), if_neg (by omega), if_pos (by omega)]; rfl)
        | (rw [if_neg (by omega), if_neg (by omega), if_neg (by omega), if_pos (by omega)]; done)
        | (rw [if_neg (by omega), if_neg (by omega), if_neg (by omega), if_neg (by omega), if_pos (by omega)]; done)
        | (rw [if_neg (by omega), if_neg (by omega), if_neg (by omega), if_neg (by omega), if_neg (by omega)]; done)
    · refine r_tin (t := 68) (off := 67) dX12_is_1 (by first | omega | exact xv_in _ _ _) (by omega) (by omega) (by rw [hc1]; rfl) (by decide) ?_
      refine r_aload_n (i := 0) (pc' := 69) dX12_is_68 rfl rfl (.head _) ?_
      refine r_getR (pc' := 72) dX12_is_69 rfl fX12_3 rfl (by first | assumption | rfl) (by omega) (by assumption) ?_
      refine r_iload_n (i := 1) (pc' := 73) dX12_is_72 rfl rfl (.tail _ (.head _)) ?_
      refine r_iaload (pc' := 74) dX12_is_73 rfl (by first | assumption | rfl) (by omega) (by omega) (by omega) (by first | decide | omega) rfl ?_
      first | rw [hR.z w.toNat (by omega)] | rw [show w.toNat = 7 by omega, hR.m]
      refine r_ireturn dX12_is_74 rfl ?_
      refine ⟨?_, rfl, rfl, rfl, rfl⟩
      unfold f_is
      first
        | (rw [if_pos (by omega)]; done)
        | (rw [if_neg (by omega), if_pos (by omega)]; done)
        | (rw [if_neg (by omega), if_neg (by omega), if_pos (by omega)]; rfl)
        | (rw [if_neg (by omega), if_neg (by omega), if_neg (by omega), if_pos (by omega)]; done)
        | (rw [if_neg (by omega), if_neg (by omega), if_neg (by omega), if_neg (by omega), if_pos (by omega)]; done)
        | (rw [if_neg (by omega), if_neg (by omega), if_neg (by omega), if_neg (by omega), if_neg (by omega)]; done)
    · refine r_tin (t := 68) (off := 67) dX12_is_1 (by first | omega | exact xv_in _ _ _) (by omega) (by omega) (by rw [hc1]; rfl) (by decide) ?_
      refine r_aload_n (i := 0) (pc' := 69) dX12_is_68 rfl rfl (.head _) ?_
      refine r_getR (pc' := 72) dX12_is_69 rfl fX12_3 rfl (by first | assumption | rfl) (by omega) (by assumption) ?_
      refine r_iload_n (i := 1) (pc' := 73) dX12_is_72 rfl rfl (.tail _ (.head _)) ?_
      refine r_iaload (pc' := 74) dX12_is_73 rfl (by first | assumption | rfl) (by omega) (by omega) (by omega) (by first | decide | omega) rfl ?_
      first | rw [hR.z w.toNat (by omega)] | rw [show w.toNat = 7 by omega, hR.m]
      refine r_ireturn dX12_is_74 rfl ?_
      refine ⟨?_, rfl, rfl, rfl, rfl⟩
      unfold f_is
      first
        | (rw [if_pos (by omega)]; done)
        | (rw [if_neg (by omega), if_pos (by omega)]; done)
        | (rw [if_neg (by omega), if_neg (by omega), if_pos (by omega)]; rfl)
        | (rw [if_neg (by omega), if_neg (by omega), if_neg (by omega), if_pos (by omega)]; done)
        | (rw [if_neg (by omega), if_neg (by omega), if_neg (by omega), if_neg (by omega), if_pos (by omega)]; done)
        | (rw [if_neg (by omega), if_neg (by omega), if_neg (by omega), if_neg (by omega), if_neg (by omega)]; done)
    · refine r_tin (t := 68) (off := 67) dX12_is_1 (by first | omega | exact xv_in _ _ _) (by omega) (by omega) (by rw [hc1]; rfl) (by decide) ?_
      refine r_aload_n (i := 0) (pc' := 69) dX12_is_68 rfl rfl (.head _) ?_
      refine r_getR (pc' := 72) dX12_is_69 rfl fX12_3 rfl (by first | assumption | rfl) (by omega) (by assumption) ?_
      refine r_iload_n (i := 1) (pc' := 73) dX12_is_72 rfl rfl (.tail _ (.head _)) ?_
      refine r_iaload (pc' := 74) dX12_is_73 rfl (by first | assumption | rfl) (by omega) (by omega) (by omega) (by first | decide | omega) rfl ?_
      first | rw [hR.z w.toNat (by omega)] | rw [show w.toNat = 7 by omega, hR.m]
      refine r_ireturn dX12_is_74 rfl ?_
      refine ⟨?_, rfl, rfl, rfl, rfl⟩
      unfold f_is
      first
        | (rw [if_pos (by omega)]; done)
        | (rw [if_neg (by omega), if_pos (by omega)]; done)
        | (rw [if_neg (by omega), if_neg (by omega), if_pos (by omega)]; rfl)
        | (rw [if_neg (by omega), if_neg (by omega), if_neg (by omega), if_pos (by omega)]; done)
        | (rw [if_neg (by omega), if_neg (by omega), if_neg (by omega), if_neg (by omega), if_pos (by omega)]; done)
        | (rw [if_neg (by omega), if_neg (by omega), if_neg (by omega), if_neg (by omega), if_neg (by omega)]; done)
    · refine r_tin (t := 75) (off := 74) dX12_is_1 (by first | omega | exact xv_in _ _ _) (by omega) (by omega) (by rw [hc1]; rfl) (by decide) ?_
      refine r_aload_n (i := 0) (pc' := 76) dX12_is_75 rfl rfl (.head _) ?_
      refine r_iload_n (i := 1) (pc' := 77) dX12_is_76 rfl rfl (.tail _ (.head _)) ?_
      refine r_bipush (pc' := 79) dX12_is_77 rfl (by decide) ?_
      refine r_isub (pc' := 80) dX12_is_79 rfl ?_
      refine r_V1p (ci := 12) (pc' := 83) dX12_is_80 rfl lX12_250 rfl (by decide) (Nat.le_of_ble_eq_true rfl) (by first | assumption | rfl) (by omega) (tX12_howMany (by assumption) (by assumption) (by assumption) (by omega)) ?_
      refine r_ireturn dX12_is_83 rfl ?_
      refine ⟨?_, rfl, rfl, rfl, rfl⟩
      unfold f_is
      first
        | (rw [if_pos (by omega)]; done)
        | (rw [if_neg (by omega), if_pos (by omega)]; done)
        | (rw [if_neg (by omega), if_neg (by omega), if_pos (by omega)]; rfl)
        | (rw [if_neg (by omega), if_neg (by omega), if_neg (by omega), if_pos (by omega)]; done)
        | (rw [if_neg (by omega), if_neg (by omega), if_neg (by omega), if_neg (by omega), if_pos (by omega)]; done)
        | (rw [if_neg (by omega), if_neg (by omega), if_neg (by omega), if_neg (by omega), if_neg (by omega)]; done)
    · refine r_tin (t := 75) (off := 74) dX12_is_1 (by first | omega | exact xv_in _ _ _) (by omega) (by omega) (by rw [hc1]; rfl) (by decide) ?_
      refine r_aload_n (i := 0) (pc' := 76) dX12_is_75 rfl rfl (.head _) ?_
      refine r_iload_n (i := 1) (pc' := 77) dX12_is_76 rfl rfl (.tail _ (.head _)) ?_
      refine r_bipush (pc' := 79) dX12_is_77 rfl (by decide) ?_
      refine r_isub (pc' := 80) dX12_is_79 rfl ?_
      refine r_V1p (ci := 12) (pc' := 83) dX12_is_80 rfl lX12_250 rfl (by decide) (Nat.le_of_ble_eq_true rfl) (by first | assumption | rfl) (by omega) (tX12_howMany (by assumption) (by assumption) (by assumption) (by omega)) ?_
      refine r_ireturn dX12_is_83 rfl ?_
      refine ⟨?_, rfl, rfl, rfl, rfl⟩
      unfold f_is
      first
        | (rw [if_pos (by omega)]; done)
        | (rw [if_neg (by omega), if_pos (by omega)]; done)
        | (rw [if_neg (by omega), if_neg (by omega), if_pos (by omega)]; rfl)
        | (rw [if_neg (by omega), if_neg (by omega), if_neg (by omega), if_pos (by omega)]; done)
        | (rw [if_neg (by omega), if_neg (by omega), if_neg (by omega), if_neg (by omega), if_pos (by omega)]; done)
        | (rw [if_neg (by omega), if_neg (by omega), if_neg (by omega), if_neg (by omega), if_neg (by omega)]; done)
    · refine r_tin (t := 75) (off := 74) dX12_is_1 (by first | omega | exact xv_in _ _ _) (by omega) (by omega) (by rw [hc1]; rfl) (by decide) ?_
      refine r_aload_n (i := 0) (pc' := 76) dX12_is_75 rfl rfl (.head _) ?_
      refine r_iload_n (i := 1) (pc' := 77) dX12_is_76 rfl rfl (.tail _ (.head _)) ?_
      refine r_bipush (pc' := 79) dX12_is_77 rfl (by decide) ?_
      refine r_isub (pc' := 80) dX12_is_79 rfl ?_
      refine r_V1p (ci := 12) (pc' := 83) dX12_is_80 rfl lX12_250 rfl (by decide) (Nat.le_of_ble_eq_true rfl) (by first | assumption | rfl) (by omega) (tX12_howMany (by assumption) (by assumption) (by assumption) (by omega)) ?_
      refine r_ireturn dX12_is_83 rfl ?_
      refine ⟨?_, rfl, rfl, rfl, rfl⟩
      unfold f_is
      first
        | (rw [if_pos (by omega)]; done)
        | (rw [if_neg (by omega), if_pos (by omega)]; done)
        | (rw [if_neg (by omega), if_neg (by omega), if_pos (by omega)]; rfl)
        | (rw [if_neg (by omega), if_neg (by omega), if_neg (by omega), if_pos (by omega)]; done)
        | (rw [if_neg (by omega), if_neg (by omega), if_neg (by omega), if_neg (by omega), if_pos (by omega)]; done)
        | (rw [if_neg (by omega), if_neg (by omega), if_neg (by omega), if_neg (by omega), if_neg (by omega)]; done)
    · refine r_tin (t := 84) (off := 83) dX12_is_1 (by first | omega | exact xv_in _ _ _) (by omega) (by omega) (by rw [hc1]; rfl) (by decide) ?_
      refine r_aload_n (i := 0) (pc' := 85) dX12_is_84 rfl rfl (.head _) ?_
      refine r_getI (pc' := 88) dX12_is_85 rfl fX12_61 rfl (by first | assumption | rfl) (by omega) ?_
      rw [hde]
      refine r_ireturn dX12_is_88 rfl ?_
      refine ⟨?_, rfl, rfl, rfl, rfl⟩
      unfold f_is
      first
        | (rw [if_pos (by omega)]; done)
        | (rw [if_neg (by omega), if_pos (by omega)]; done)
        | (rw [if_neg (by omega), if_neg (by omega), if_pos (by omega)]; rfl)
        | (rw [if_neg (by omega), if_neg (by omega), if_neg (by omega), if_pos (by omega)]; done)
        | (rw [if_neg (by omega), if_neg (by omega), if_neg (by omega), if_neg (by omega), if_pos (by omega)]; done)
        | (rw [if_neg (by omega), if_neg (by omega), if_neg (by omega), if_neg (by omega), if_neg (by omega)]; done)
    · refine r_tin (t := 89) (off := 88) dX12_is_1 (by first | omega | exact xv_in _ _ _) (by omega) (by omega) (by rw [hc1]; rfl) (by decide) ?_
      refine r_aload_n (i := 0) (pc' := 90) dX12_is_89 rfl rfl (.head _) ?_
      refine r_getI (pc' := 93) dX12_is_90 rfl fX12_76 rfl (by first | assumption | rfl) (by omega) ?_
      rw [htp]
      refine r_ireturn dX12_is_93 rfl ?_
      refine ⟨?_, rfl, rfl, rfl, rfl⟩
      unfold f_is
      first
        | (rw [if_pos (by omega)]; done)
        | (rw [if_neg (by omega), if_pos (by omega)]; done)
        | (rw [if_neg (by omega), if_neg (by omega), if_pos (by omega)]; rfl)
        | (rw [if_neg (by omega), if_neg (by omega), if_neg (by omega), if_pos (by omega)]; done)
        | (rw [if_neg (by omega), if_neg (by omega), if_neg (by omega), if_neg (by omega), if_pos (by omega)]; done)
        | (rw [if_neg (by omega), if_neg (by omega), if_neg (by omega), if_neg (by omega), if_neg (by omega)]; done)
