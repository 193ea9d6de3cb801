theorem zi_or0 (x : Int32) : x ||| zi 0 = x := by
  apply zi_ext
  rw [Int32.toBitVec_or, BitVec.toNat_or, zi_tn]
  simp
set_option maxHeartbeats 4000000 in
set_option maxRecDepth 100000 in
theorem lX12_allCash {l : Launch} {g : q_G} {n : Nat} {P : q_P} {X : q_X} {Y : q_Y} (hm : isMod n P) {C : q_X} {b : Nat} (hR : RB C b (xv X 468)) (hO : bOk C b) {y : Int} (hy : 0 ≤ y ∧ y < 20) {r : Int} : ∀ (w i : Nat) (s : Int), i + w = (xv C b 10).toNat → s + q_sum (fun i => c_cash C (con b i) y) i w = r → q_Tr l g mX12_allCash 4 (q_pv (.int (zi r)) n P X Y) 13 [(0, .ref (g.1 + 467)), (1, .int (zi y)), (2, .int (zi s)), (3, .int (zi (i : Int)))] [] n P X Y := by
  obtain ⟨m0, m2, m3, m8, m9, m14, m15, m16, m17, m18, m20, m22, m25, hnm9⟩ := id hm
  obtain ⟨o0, o1, o2, o3, o4, o5, o6, o10, oc, op0, opz, opi, om0, omi, olim⟩ := id hO
  intro w
  induction w with
  | zero =>
    intro i s hk hr
    refine r_iload_n (i := 3) (pc' := 14) dX12_allCash_13 rfl rfl (.tail _ (.tail _ (.tail _ (.head _)))) ?_
    refine r_aload_n (i := 0) (pc' := 15) dX12_allCash_14 rfl rfl (.head _) ?_
    refine r_getR (pc' := 18) dX12_allCash_15 rfl fX12_3 rfl (by first | assumption | rfl) (by omega) (by assumption) ?_
    refine r_bipush (pc' := 20) dX12_allCash_18 rfl (by decide) ?_
    refine r_iaload (pc' := 21) dX12_allCash_20 rfl (by first | assumption | rfl) (by omega) (by omega) (by omega) (by first | decide | omega) (show Int.toNat 7 = 7 from rfl) ?_
    rw [hR.m]
    refine r_icmp_ge (t := 39) (f := 24) dX12_allCash_21 (by decide) rfl (by first | omega | exact xv_in _ _ _) (by first | omega | exact xv_in _ _ _) (fun h21 => ?_) (fun h21 => ?_)
    · refine r_iload_n (i := 2) (pc' := 40) dX12_allCash_39 rfl rfl (.tail _ (.tail _ (.head _))) ?_
      refine r_ireturn dX12_allCash_40 rfl ?_
      refine ⟨?_, rfl, rfl, rfl, rfl⟩
      rw [← hr]; simp [q_sum]
    · exfalso; omega
  | succ w ih =>
    intro i s hk hr
    refine r_iload_n (i := 3) (pc' := 14) dX12_allCash_13 rfl rfl (.tail _ (.tail _ (.tail _ (.head _)))) ?_
    refine r_aload_n (i := 0) (pc' := 15) dX12_allCash_14 rfl rfl (.head _) ?_
    refine r_getR (pc' := 18) dX12_allCash_15 rfl fX12_3 rfl (by first | assumption | rfl) (by omega) (by assumption) ?_
    refine r_bipush (pc' := 20) dX12_allCash_18 rfl (by decide) ?_
    refine r_iaload (pc' := 21) dX12_allCash_20 rfl (by first | assumption | rfl) (by omega) (by omega) (by omega) (by first | decide | omega) (show Int.toNat 7 = 7 from rfl) ?_
    rw [hR.m]
    refine r_icmp_ge (t := 39) (f := 24) dX12_allCash_21 (by decide) rfl (by first | omega | exact xv_in _ _ _) (by first | omega | exact xv_in _ _ _) (fun h21 => ?_) (fun h21 => ?_)
    · exfalso; omega
    · refine r_iload_n (i := 2) (pc' := 25) dX12_allCash_24 rfl rfl (.tail _ (.tail _ (.head _))) ?_
      refine r_aload_n (i := 0) (pc' := 26) dX12_allCash_25 rfl rfl (.head _) ?_
      refine r_iload_n (i := 3) (pc' := 27) dX12_allCash_26 rfl rfl (.tail _ (.tail _ (.tail _ (.head _)))) ?_
      refine r_iload_n (i := 1) (pc' := 28) dX12_allCash_27 rfl rfl (.tail _ (.head _)) ?_
      refine r_V2p (ci := 12) (pc' := 31) dX12_allCash_28 rfl lX12_350 rfl (by decide) (Nat.le_of_ble_eq_true rfl) (by first | assumption | rfl) (by omega) (tX12_cashOf (by assumption) (by assumption) (by assumption) (by assumption) (by omega)) ?_
      refine r_iadd (pc' := 32) dX12_allCash_31 rfl ?_
      refine r_istore_n (i := 2) (pc' := 33) dX12_allCash_32 rfl rfl rfl (.s1 (.s1 (.here (.s1 .nil rfl rfl rfl)) rfl rfl rfl) rfl rfl rfl) ?_
      refine r_iinc (pc' := 36) dX12_allCash_33 rfl rfl (.tail _ (.tail _ (.tail _ (.head _)))) (.s1 (.s1 (.s1 (.here .nil) rfl rfl rfl) rfl rfl rfl) rfl rfl rfl) ?_
      refine r_goto (t := 13) dX12_allCash_36 (by decide) ?_
      refine ih (i + 1) _ (by omega) ?_
      rw [← hr, q_sum]; omega
set_option maxHeartbeats 4000000 in
set_option maxRecDepth 100000 in
theorem tX12_allCash {l : Launch} {g : q_G} {n : Nat} {P : q_P} {X : q_X} {Y : q_Y} (hm : isMod n P) {C : q_X} {b : Nat} (hR : RB C b (xv X 468)) (hO : bOk C b) {y : Int} (hy : q_in y) : q_Met l g mX12_allCash 4 [.ref (g.1 + 467), .int (zi y)] n P X Y (q_pv (.int (zi (if 0 ≤ y ∧ y < 20 then q_sum (fun i => c_cash C (con b i) y) 0 (xv C b 10).toNat else -1))) n P X Y) := by
  obtain ⟨m0, m2, m3, m8, m9, m14, m15, m16, m17, m18, m20, m22, m25, hnm9⟩ := id hm
  obtain ⟨o0, o1, o2, o3, o4, o5, o6, o10, oc, op0, opz, opi, om0, omi, olim⟩ := id hO
  refine q_enter (L := [(0, .ref (g.1 + 467)), (1, .int (zi y))]) (by decide) (Nat.le_of_ble_eq_true rfl) rfl ?_
  refine r_iload_n (i := 1) (pc' := 1) dX12_allCash_0 rfl rfl (.tail _ (.head _)) ?_
  refine r_S1p (pc' := 4) dX12_allCash_1 rfl lX12_253 (by decide) (Nat.le_of_ble_eq_true rfl) (tX12_isYear (by omega)) ?_
  refine r_bif_ne (t := 9) (f := 7) dX12_allCash_4 (by decide) rfl (fun h4 => ?_) (fun h4 => ?_)
  · refine r_iconst (pc' := 10) dX12_allCash_9 rfl ?_
    refine r_istore_n (i := 2) (pc' := 11) dX12_allCash_10 rfl rfl rfl (.s1 (.s1 .nil rfl rfl rfl) rfl rfl rfl) ?_
    refine r_iconst (pc' := 12) dX12_allCash_11 rfl ?_
    refine r_istore_n (i := 3) (pc' := 13) dX12_allCash_12 rfl rfl rfl (.s1 (.s1 (.s1 .nil rfl rfl rfl) rfl rfl rfl) rfl rfl rfl) ?_
    rw [if_pos (by omega)]
    exact lX12_allCash hm hR hO (by omega) (xv C b 10).toNat 0 0 (by omega) (Int.zero_add _)
  · refine r_iconst (pc' := 8) dX12_allCash_7 rfl ?_
    refine r_ireturn dX12_allCash_8 rfl ?_
    refine ⟨?_, rfl, rfl, rfl, rfl⟩
    rw [if_neg (by omega)]
set_option maxHeartbeats 4000000 in
set_option maxRecDepth 100000 in
theorem lX12_floor {l : Launch} {g : q_G} {n : Nat} {P : q_P} {X : q_X} {Y : q_Y} (hm : isMod n P) {C : q_X} {b : Nat} (hR : RB C b (xv X 468)) (hO : bOk C b) {K : q_K} {y : Nat} {v : Int} (hy : y < 20) (kk : q_Tr l g mX12_floor 5 K 72 [(0, .ref (g.1 + 467)), (1, .int (zi (y : Int))), (2, .int (zi v)), (3, .int (zi (f_paid C b y))), (4, .int (zi (f_lims C b y)))] [] n P X Y) : ∀ (w i : Nat) (s t : Int), i + w = y + min 4 (20 - y) → y ≤ i → s + q_sum (f_cashS C b) i w = f_paid C b y → t + q_sum (xv C (b + 1)) i w = f_lims C b y → q_Tr l g mX12_floor 5 K 29 [(0, .ref (g.1 + 467)), (1, .int (zi (y : Int))), (2, .int (zi v)), (3, .int (zi (s))), (4, .int (zi (t))), (5, .int (zi (i : Int)))] [] n P X Y := by
  obtain ⟨m0, m2, m3, m8, m9, m14, m15, m16, m17, m18, m20, m22, m25, hnm9⟩ := id hm
  obtain ⟨o0, o1, o2, o3, o4, o5, o6, o10, oc, op0, opz, opi, om0, omi, olim⟩ := id hO
  intro w
  induction w with
  | zero =>
    intro i s t hk hyi hs ht
    refine r_iload (pc' := 31) dX12_floor_29 rfl (.tail _ (.tail _ (.tail _ (.tail _ (.tail _ (.head _)))))) ?_
    refine r_bipush (pc' := 33) dX12_floor_31 rfl (by decide) ?_
    refine r_iload_n (i := 1) (pc' := 34) dX12_floor_33 rfl rfl (.tail _ (.head _)) ?_
    refine r_iconst (pc' := 35) dX12_floor_34 rfl ?_
    refine r_iadd (pc' := 36) dX12_floor_35 rfl ?_
    refine r_S2p (pc' := 39) dX12_floor_36 rfl lX12_122 (by decide) (Nat.le_of_ble_eq_true rfl) (tX12_lesser (by omega) (by omega)) ?_
    refine r_icmp_ge (t := 72) (f := 42) dX12_floor_39 (by decide) rfl (by first | omega | exact xv_in _ _ _) (by first | omega | exact xv_in _ _ _) (fun h39 => ?_) (fun h39 => ?_)
    · refine r_sub (.kp (.kp (.kp (.kp (.kp (.dr .nil)))))) ?_
      rw [show s = f_paid C b y by rw [← hs]; simp [q_sum], show t = f_lims C b y by rw [← ht]; simp [q_sum]]
      exact kk
    · exfalso; omega
  | succ w ih =>
    intro i s t hk hyi hs ht
    have hl := hR.lim (y := (i : Int)) (by omega)
    rw [Int.toNat_natCast] at hl
    refine r_iload (pc' := 31) dX12_floor_29 rfl (.tail _ (.tail _ (.tail _ (.tail _ (.tail _ (.head _)))))) ?_
    refine r_bipush (pc' := 33) dX12_floor_31 rfl (by decide) ?_
    refine r_iload_n (i := 1) (pc' := 34) dX12_floor_33 rfl rfl (.tail _ (.head _)) ?_
    refine r_iconst (pc' := 35) dX12_floor_34 rfl ?_
    refine r_iadd (pc' := 36) dX12_floor_35 rfl ?_
    refine r_S2p (pc' := 39) dX12_floor_36 rfl lX12_122 (by decide) (Nat.le_of_ble_eq_true rfl) (tX12_lesser (by omega) (by omega)) ?_
    refine r_icmp_ge (t := 72) (f := 42) dX12_floor_39 (by decide) rfl (by first | omega | exact xv_in _ _ _) (by first | omega | exact xv_in _ _ _) (fun h39 => ?_) (fun h39 => ?_)
    · exfalso; omega
    · refine r_iload_n (i := 3) (pc' := 43) dX12_floor_42 rfl rfl (.tail _ (.tail _ (.tail _ (.head _)))) ?_
      refine r_aload_n (i := 0) (pc' := 44) dX12_floor_43 rfl rfl (.head _) ?_
      refine r_iload (pc' := 46) dX12_floor_44 rfl (.tail _ (.tail _ (.tail _ (.tail _ (.tail _ (.head _)))))) ?_
      refine r_V1p (ci := 12) (pc' := 49) dX12_floor_46 rfl lX12_353 rfl (by decide) (Nat.le_of_ble_eq_true rfl) (by first | assumption | rfl) (by omega) (tX12_allCash hm hR hO (by omega)) ?_
      rw [if_pos (by omega), ← f_cashS]
      refine r_iadd (pc' := 50) dX12_floor_49 rfl ?_
      refine r_istore_n (i := 3) (pc' := 51) dX12_floor_50 rfl rfl rfl (.s1 (.s1 (.s1 (.here (.s1 (.s1 .nil rfl rfl rfl) rfl rfl rfl)) rfl rfl rfl) rfl rfl rfl) rfl rfl rfl) ?_
      refine r_iload (pc' := 53) dX12_floor_51 rfl (.tail _ (.tail _ (.tail _ (.tail _ (.head _))))) ?_
      refine r_aload_n (i := 0) (pc' := 54) dX12_floor_53 rfl rfl (.head _) ?_
      refine r_getR (pc' := 57) dX12_floor_54 rfl fX12_3 rfl (by first | assumption | rfl) (by omega) (by assumption) ?_
      refine r_bipush (pc' := 59) dX12_floor_57 rfl (by decide) ?_
      refine r_iload (pc' := 61) dX12_floor_59 rfl (.tail _ (.tail _ (.tail _ (.tail _ (.tail _ (.head _)))))) ?_
      refine r_iadd (pc' := 62) dX12_floor_61 rfl ?_
      refine r_iaload (pc' := 63) dX12_floor_62 rfl (by first | assumption | rfl) (by omega) (by omega) (by omega) (by first | decide | omega) rfl ?_
      rw [hl]
      refine r_iadd (pc' := 64) dX12_floor_63 rfl ?_
      refine r_istore (pc' := 66) dX12_floor_64 rfl rfl (.s1 (.s1 (.s1 (.s1 (.here (.s1 .nil rfl rfl rfl)) rfl rfl rfl) rfl rfl rfl) rfl rfl rfl) rfl rfl rfl) ?_
      refine r_iinc (pc' := 69) dX12_floor_66 rfl rfl (.tail _ (.tail _ (.tail _ (.tail _ (.tail _ (.head _)))))) (.s1 (.s1 (.s1 (.s1 (.s1 (.here .nil) rfl rfl rfl) rfl rfl rfl) rfl rfl rfl) rfl rfl rfl) rfl rfl rfl) ?_
      refine r_goto (t := 29) dX12_floor_69 (by decide) ?_
      refine ih (i + 1) _ _ (by omega) (by omega) ?_ ?_
      · rw [← hs, q_sum]; omega
      · rw [← ht, q_sum]; omega
set_option maxHeartbeats 4000000 in
set_option maxRecDepth 100000 in
theorem tX12_floor {l : Launch} {g : q_G} {n : Nat} {P : q_P} {X : q_X} {Y : q_Y} (hm : isMod n P) {C : q_X} {b : Nat} (hR : RB C b (xv X 468)) (hO : bOk C b) {y w : Int} (hy : q_in y) (hw : q_in w) : q_Met l g mX12_floor 5 [.ref (g.1 + 467), .int (zi y), .int (zi w)] n P X Y (q_pv (.int (zi (f_floor C b y w))) n P X Y) := by
  obtain ⟨m0, m2, m3, m8, m9, m14, m15, m16, m17, m18, m20, m22, m25, hnm9⟩ := id hm
  obtain ⟨o0, o1, o2, o3, o4, o5, o6, o10, oc, op0, opz, opi, om0, omi, olim⟩ := id hO
  refine q_enter (L := [(0, .ref (g.1 + 467)), (1, .int (zi y)), (2, .int (zi w))]) (by decide) (Nat.le_of_ble_eq_true rfl) rfl ?_
  refine r_iload_n (i := 1) (pc' := 1) dX12_floor_0 rfl rfl (.tail _ (.head _)) ?_
  refine r_S1p (pc' := 4) dX12_floor_1 rfl lX12_253 (by decide) (Nat.le_of_ble_eq_true rfl) (tX12_isYear (by omega)) ?_
  refine r_bif_eq (t := 19) (f := 7) dX12_floor_4 (by decide) rfl (fun h4 => ?_) (fun h4 => ?_)
  · refine r_iconst (pc' := 20) dX12_floor_19 rfl ?_
    refine r_ireturn dX12_floor_20 rfl ?_
    refine ⟨?_, rfl, rfl, rfl, rfl⟩
    unfold f_floor
    rw [if_pos (by omega)]
  · refine r_iload_n (i := 2) (pc' := 8) dX12_floor_7 rfl rfl (.tail _ (.tail _ (.head _))) ?_
    refine r_i2l (pc' := 9) dX12_floor_8 rfl rfl ?_
    refine r_lconst (pc' := 10) (z := 0) dX12_floor_9 rfl rfl ?_
    refine r_ldc2 (pc' := 13) dX12_floor_10 rfl kX12_300 ?_
    refine r_S3p (pc' := 16) dX12_floor_13 rfl lX12_68 (by decide) (Nat.le_of_ble_eq_true rfl) (tX12_isIn (by first | exact li_z (by omega) | exact li_z (xv_in _ _ _) | rfl) (by first | exact li_z (by omega) | exact li_z (xv_in _ _ _) | rfl) (by first | exact li_z (by omega) | exact li_z (xv_in _ _ _) | rfl)) ?_
    try simp only [i64_0, i64_1, i64_2, i64_3, i64_4, i64_5, i64_6, i64_7, i64_10, i64_19, i64_40, i64_100, i64_364, i64_9999, i64_99999, i64_999999, i64_m999999]
    refine r_bif_ne (t := 21) (f := 19) dX12_floor_16 (by decide) rfl (fun h16 => ?_) (fun h16 => ?_)
    · refine r_iconst (pc' := 22) dX12_floor_21 rfl ?_
      refine r_istore_n (i := 3) (pc' := 23) dX12_floor_22 rfl rfl rfl (.s1 (.s1 (.s1 .nil rfl rfl rfl) rfl rfl rfl) rfl rfl rfl) ?_
      refine r_iconst (pc' := 24) dX12_floor_23 rfl ?_
      refine r_istore (pc' := 26) dX12_floor_24 rfl rfl (.s1 (.s1 (.s1 (.s1 .nil rfl rfl rfl) rfl rfl rfl) rfl rfl rfl) rfl rfl rfl) ?_
      refine r_iload_n (i := 1) (pc' := 27) dX12_floor_26 rfl rfl (.tail _ (.head _)) ?_
      refine r_istore (pc' := 29) dX12_floor_27 rfl rfl (.s1 (.s1 (.s1 (.s1 (.s1 .nil rfl rfl rfl) rfl rfl rfl) rfl rfl rfl) rfl rfl rfl) rfl rfl rfl) ?_
      obtain ⟨yn, rfl⟩ : ∃ yn : Nat, y = (yn : Int) := ⟨y.toNat, by omega⟩
      have hlb := f_lims_b hO (y := yn) (by omega)
      refine lX12_floor hm hR hO (y := yn) (by omega) ?_ (min 4 (20 - yn)) yn 0 0 (by omega) (by omega) (by rw [f_paid]; omega) (by rw [f_lims]; omega)
      refine r_iload (pc' := 74) dX12_floor_72 rfl (.tail _ (.tail _ (.tail _ (.tail _ (.head _))))) ?_
      refine r_bipush (pc' := 76) dX12_floor_74 rfl (by decide) ?_
      refine r_imul (pc' := 77) dX12_floor_76 rfl ?_
      refine r_bipush (pc' := 79) dX12_floor_77 rfl (by decide) ?_
      refine r_idiv (pc' := 80) dX12_floor_79 rfl (by first | omega | exact xv_in _ _ _) (by first | omega | exact xv_in _ _ _) (by omega) ?_
      refine r_istore (pc' := 82) dX12_floor_80 rfl rfl (.s1 (.s1 (.s1 (.s1 (.s1 .nil rfl rfl rfl) rfl rfl rfl) rfl rfl rfl) rfl rfl rfl) rfl rfl rfl) ?_
      refine r_iload_n (i := 2) (pc' := 83) dX12_floor_82 rfl rfl (.tail _ (.tail _ (.head _))) ?_
      refine r_if_ne (t := 90) (f := 86) dX12_floor_83 (by decide) rfl (by first | omega | exact xv_in _ _ _) (fun h83 => ?_) (fun h83 => ?_)
      · refine r_iload_n (i := 2) (pc' := 91) dX12_floor_90 rfl rfl (.tail _ (.tail _ (.head _))) ?_
        refine r_iconst (pc' := 92) dX12_floor_91 rfl ?_
        refine r_icmp_ne (t := 100) (f := 95) dX12_floor_92 (by decide) rfl (by first | omega | exact xv_in _ _ _) (by first | omega | exact xv_in _ _ _) (fun h92 => ?_) (fun h92 => ?_)
        · refine r_iconst (pc' := 101) dX12_floor_100 rfl ?_
          refine r_iload (pc' := 103) dX12_floor_101 rfl (.tail _ (.tail _ (.tail _ (.tail _ (.tail _ (.head _)))))) ?_
          refine r_iload_n (i := 3) (pc' := 104) dX12_floor_103 rfl rfl (.tail _ (.tail _ (.tail _ (.head _)))) ?_
          refine r_isub (pc' := 105) dX12_floor_104 rfl ?_
          rw [← zi_nz ((f_lims C b yn * 89).tdiv 100 - f_paid C b yn)]
          have hni := nz_in ((f_lims C b yn * 89).tdiv 100 - f_paid C b yn)
          refine r_S2p (pc' := 108) dX12_floor_105 rfl lX12_224 (by decide) (Nat.le_of_ble_eq_true rfl) (tX12_greater (by omega) (by omega)) ?_
          refine r_ireturn dX12_floor_108 rfl ?_
          refine ⟨?_, rfl, rfl, rfl, rfl⟩
          unfold f_floor
          simp only [Int.toNat_natCast]
          (repeat' split) <;> first | rfl | (exfalso; omega)
        · refine r_iload (pc' := 97) dX12_floor_95 rfl (.tail _ (.tail _ (.tail _ (.tail _ (.tail _ (.head _)))))) ?_
          refine r_goto (t := 108) dX12_floor_97 (by decide) ?_
          refine r_ireturn dX12_floor_108 rfl ?_
          refine ⟨?_, rfl, rfl, rfl, rfl⟩
          unfold f_floor
          simp only [Int.toNat_natCast]
          (repeat' split) <;> first | rfl | (exfalso; omega)
      · refine r_iload_n (i := 3) (pc' := 87) dX12_floor_86 rfl rfl (.tail _ (.tail _ (.tail _ (.head _)))) ?_
        refine r_goto (t := 108) dX12_floor_87 (by decide) ?_
        refine r_ireturn dX12_floor_108 rfl ?_
        refine ⟨?_, rfl, rfl, rfl, rfl⟩
        unfold f_floor
        simp only [Int.toNat_natCast]
        (repeat' split) <;> first | rfl | (exfalso; omega)
    · refine r_iconst (pc' := 20) dX12_floor_19 rfl ?_
      refine r_ireturn dX12_floor_20 rfl ?_
      refine ⟨?_, rfl, rfl, rfl, rfl⟩
      unfold f_floor
      rw [if_pos (by omega)]
set_option maxHeartbeats 4000000 in
set_option maxRecDepth 100000 in
theorem lX12_freeYear {l : Launch} {g : q_G} {n : Nat} {P : q_P} {X : q_X} {Y : q_Y} (hm : isMod n P) {C : q_X} {b : Nat} (hR : RB C b (xv X 468)) (hO : bOk C b) {k : Nat} (hk : (k : Int) < xv C b 10) {r : Int} : ∀ (w : Nat) (y : Int), y + w = max y (xv C (con b k) 0 + xv C (con b k) 1) → (0 ≤ y ∧ y ≤ 20) → f_fy C b (con b k) w y = r → q_Tr l g mX12_freeYear 3 (q_pv (.int (zi r)) n P X Y) 34 [(0, .ref (g.1 + 467)), (1, .int (zi (k : Int))), (2, .int (zi y))] [] n P X Y := by
  obtain ⟨m0, m2, m3, m8, m9, m14, m15, m16, m17, m18, m20, m22, m25, hnm9⟩ := id hm
  obtain ⟨o0, o1, o2, o3, o4, o5, o6, o10, oc, op0, opz, opi, om0, omi, olim⟩ := id hO
  have hck := hO.c hk
  obtain ⟨hf, hf2, hf3, hf4, hfj, hfs, hfg⟩ := id hck
  intro w
  induction w with
  | zero =>
    intro y hk1 hy hr
    have hy2 : xv C (con b k) 0 + xv C (con b k) 1 ≤ y := by omega
    refine r_iload_n (i := 2) (pc' := 35) dX12_freeYear_34 rfl rfl (.tail _ (.tail _ (.head _))) ?_
    refine r_aload_n (i := 0) (pc' := 36) dX12_freeYear_35 rfl rfl (.head _) ?_
    refine r_iload_n (i := 1) (pc' := 37) dX12_freeYear_36 rfl rfl (.tail _ (.head _)) ?_
    refine r_V1p (ci := 12) (pc' := 40) dX12_freeYear_37 rfl lX12_132 rfl (by decide) (Nat.le_of_ble_eq_true rfl) (by first | assumption | rfl) (by omega) (tX12_endOf (by assumption) (by assumption) (by assumption) (by assumption)) ?_
    refine r_icmp_ge (t := 98) (f := 43) dX12_freeYear_40 (by decide) rfl (by first | omega | assumption) (by first | omega | assumption) (fun h40 => ?_) (fun h40 => ?_)
    · refine r_bipush (pc' := 100) dX12_freeYear_98 rfl (by decide) ?_
      refine r_ireturn dX12_freeYear_100 rfl ?_
      refine ⟨?_, rfl, rfl, rfl, rfl⟩
      rw [← hr, f_fy]
    · exfalso; omega
  | succ w ih =>
    intro y hk1 hy hr
    have hy2 : y < xv C (con b k) 0 + xv C (con b k) 1 := by omega
    have hhb := c_hit_b hck y
    have hsb := c_sure_b hck y
    have hrb := c_roster_b hck y
    have hfb := c_from_b hck y
    rw [f_fy] at hr
    refine r_iload_n (i := 2) (pc' := 35) dX12_freeYear_34 rfl rfl (.tail _ (.tail _ (.head _))) ?_
    refine r_aload_n (i := 0) (pc' := 36) dX12_freeYear_35 rfl rfl (.head _) ?_
    refine r_iload_n (i := 1) (pc' := 37) dX12_freeYear_36 rfl rfl (.tail _ (.head _)) ?_
    refine r_V1p (ci := 12) (pc' := 40) dX12_freeYear_37 rfl lX12_132 rfl (by decide) (Nat.le_of_ble_eq_true rfl) (by first | assumption | rfl) (by omega) (tX12_endOf (by assumption) (by assumption) (by assumption) (by assumption)) ?_
    refine r_icmp_ge (t := 98) (f := 43) dX12_freeYear_40 (by decide) rfl (by first | omega | exact xv_in _ _ _) (by first | omega | exact xv_in _ _ _) (fun h40 => ?_) (fun h40 => ?_)
    · exfalso; omega
    · refine r_aload_n (i := 0) (pc' := 44) dX12_freeYear_43 rfl rfl (.head _) ?_
      refine r_iload_n (i := 1) (pc' := 45) dX12_freeYear_44 rfl rfl (.tail _ (.head _)) ?_
      refine r_iload_n (i := 2) (pc' := 46) dX12_freeYear_45 rfl rfl (.tail _ (.tail _ (.head _))) ?_
      refine r_V2p (ci := 12) (pc' := 49) dX12_freeYear_46 rfl lX12_215 rfl (by decide) (Nat.le_of_ble_eq_true rfl) (by first | assumption | rfl) (by omega) (tX12_sureOf (by assumption) (by assumption) (by assumption) (by assumption) (by omega)) ?_
      refine r_aload_n (i := 0) (pc' := 50) dX12_freeYear_49 rfl rfl (.head _) ?_
      refine r_getR (pc' := 53) dX12_freeYear_50 rfl fX12_3 rfl (by first | assumption | rfl) (by omega) (by assumption) ?_
      refine r_iconst (pc' := 54) dX12_freeYear_53 rfl ?_
      refine r_iaload (pc' := 55) dX12_freeYear_54 rfl (by first | assumption | rfl) (by omega) (by omega) (by omega) (by first | decide | omega) (show Int.toNat 3 = 3 from rfl) ?_
      rw [hR.z 3 (by decide)]
      refine r_if_ne (t := 70) (f := 58) dX12_freeYear_55 (by decide) rfl (by first | omega | exact xv_in _ _ _) (fun h55 => ?_) (fun h55 => ?_)
      · refine r_iconst (pc' := 71) dX12_freeYear_70 rfl ?_
        refine r_iadd (pc' := 72) dX12_freeYear_71 rfl ?_
        refine r_aload_n (i := 0) (pc' := 73) dX12_freeYear_72 rfl rfl (.head _) ?_
        refine r_iload_n (i := 1) (pc' := 74) dX12_freeYear_73 rfl rfl (.tail _ (.head _)) ?_
        refine r_iload_n (i := 2) (pc' := 75) dX12_freeYear_74 rfl rfl (.tail _ (.tail _ (.head _))) ?_
        refine r_V2p (ci := 12) (pc' := 78) dX12_freeYear_75 rfl lX12_212 rfl (by decide) (Nat.le_of_ble_eq_true rfl) (by first | assumption | rfl) (by omega) (tX12_partsBehind (by assumption) (by assumption) (by assumption) (by assumption) (by omega)) ?_
        refine r_iadd (pc' := 79) dX12_freeYear_78 rfl ?_
        refine r_istore_n (i := 3) (pc' := 80) dX12_freeYear_79 rfl rfl rfl (.s1 (.s1 (.s1 .nil rfl rfl rfl) rfl rfl rfl) rfl rfl rfl) ?_
        refine r_iload_n (i := 3) (pc' := 81) dX12_freeYear_80 rfl rfl (.tail _ (.tail _ (.tail _ (.head _)))) ?_
        refine r_aload_n (i := 0) (pc' := 82) dX12_freeYear_81 rfl rfl (.head _) ?_
        refine r_iload_n (i := 1) (pc' := 83) dX12_freeYear_82 rfl rfl (.tail _ (.head _)) ?_
        refine r_iload_n (i := 2) (pc' := 84) dX12_freeYear_83 rfl rfl (.tail _ (.tail _ (.head _))) ?_
        refine r_V2p (ci := 12) (pc' := 87) dX12_freeYear_84 rfl lX12_230 rfl (by decide) (Nat.le_of_ble_eq_true rfl) (by first | assumption | rfl) (by omega) (tX12_hitOf (by assumption) (by assumption) (by assumption) (by assumption) (by omega)) ?_
        refine r_icmp_ge (t := 92) (f := 90) dX12_freeYear_87 (by decide) rfl (by first | omega | exact xv_in _ _ _) (by first | omega | exact xv_in _ _ _) (fun h87 => ?_) (fun h87 => ?_)
        · rw [if_neg (by unfold bk_dPay; first | (rw [if_pos (by omega)]; omega) | (rw [if_neg (by omega)]; omega))] at hr
          refine r_iinc (pc' := 95) dX12_freeYear_92 rfl rfl (.tail _ (.tail _ (.head _))) (.s1 (.s1 (.here (.s1 .nil rfl rfl rfl)) rfl rfl rfl) rfl rfl rfl) ?_
          refine r_goto (t := 34) dX12_freeYear_95 (by decide) ?_
          refine r_sub (.kp (.kp (.kp (.dr .nil)))) ?_
          exact ih (y + 1) (by omega) (by omega) hr
        · rw [if_pos (by unfold bk_dPay; first | (rw [if_pos (by omega)]; omega) | (rw [if_neg (by omega)]; omega))] at hr
          refine r_iload_n (i := 2) (pc' := 91) dX12_freeYear_90 rfl rfl (.tail _ (.tail _ (.head _))) ?_
          refine r_ireturn dX12_freeYear_91 rfl ?_
          refine ⟨?_, rfl, rfl, rfl, rfl⟩
          rw [← hr]
      · refine r_aload_n (i := 0) (pc' := 59) dX12_freeYear_58 rfl rfl (.head _) ?_
        refine r_iload_n (i := 1) (pc' := 60) dX12_freeYear_59 rfl rfl (.tail _ (.head _)) ?_
        refine r_bipush (pc' := 62) dX12_freeYear_60 rfl (by decide) ?_
        refine r_iload_n (i := 2) (pc' := 63) dX12_freeYear_62 rfl rfl (.tail _ (.tail _ (.head _))) ?_
        refine r_iadd (pc' := 64) dX12_freeYear_63 rfl ?_
        refine r_V2p (ci := 12) (pc' := 67) dX12_freeYear_64 rfl lX12_115 rfl (by decide) (Nat.le_of_ble_eq_true rfl) (by first | assumption | rfl) (by omega) (tO_r hm hR hO (by first | assumption | omega) (by omega)) ?_
        refine r_goto (t := 71) dX12_freeYear_67 (by decide) ?_
        refine r_iadd (pc' := 72) dX12_freeYear_71 rfl ?_
        refine r_aload_n (i := 0) (pc' := 73) dX12_freeYear_72 rfl rfl (.head _) ?_
        refine r_iload_n (i := 1) (pc' := 74) dX12_freeYear_73 rfl rfl (.tail _ (.head _)) ?_
        refine r_iload_n (i := 2) (pc' := 75) dX12_freeYear_74 rfl rfl (.tail _ (.tail _ (.head _))) ?_
        refine r_V2p (ci := 12) (pc' := 78) dX12_freeYear_75 rfl lX12_212 rfl (by decide) (Nat.le_of_ble_eq_true rfl) (by first | assumption | rfl) (by omega) (tX12_partsBehind (by assumption) (by assumption) (by assumption) (by assumption) (by omega)) ?_
        refine r_iadd (pc' := 79) dX12_freeYear_78 rfl ?_
        refine r_istore_n (i := 3) (pc' := 80) dX12_freeYear_79 rfl rfl rfl (.s1 (.s1 (.s1 .nil rfl rfl rfl) rfl rfl rfl) rfl rfl rfl) ?_
        refine r_iload_n (i := 3) (pc' := 81) dX12_freeYear_80 rfl rfl (.tail _ (.tail _ (.tail _ (.head _)))) ?_
        refine r_aload_n (i := 0) (pc' := 82) dX12_freeYear_81 rfl rfl (.head _) ?_
        refine r_iload_n (i := 1) (pc' := 83) dX12_freeYear_82 rfl rfl (.tail _ (.head _)) ?_
        refine r_iload_n (i := 2) (pc' := 84) dX12_freeYear_83 rfl rfl (.tail _ (.tail _ (.head _))) ?_
        refine r_V2p (ci := 12) (pc' := 87) dX12_freeYear_84 rfl lX12_230 rfl (by decide) (Nat.le_of_ble_eq_true rfl) (by first | assumption | rfl) (by omega) (tX12_hitOf (by assumption) (by assumption) (by assumption) (by assumption) (by omega)) ?_
        refine r_icmp_ge (t := 92) (f := 90) dX12_freeYear_87 (by decide) rfl (by first | omega | exact xv_in _ _ _) (by first | omega | exact xv_in _ _ _) (fun h87 => ?_) (fun h87 => ?_)
        · rw [if_neg (by unfold bk_dPay; first | (rw [if_pos (by omega)]; omega) | (rw [if_neg (by omega)]; omega))] at hr
          refine r_iinc (pc' := 95) dX12_freeYear_92 rfl rfl (.tail _ (.tail _ (.head _))) (.s1 (.s1 (.here (.s1 .nil rfl rfl rfl)) rfl rfl rfl) rfl rfl rfl) ?_
          refine r_goto (t := 34) dX12_freeYear_95 (by decide) ?_
          refine r_sub (.kp (.kp (.kp (.dr .nil)))) ?_
          exact ih (y + 1) (by omega) (by omega) hr
        · rw [if_pos (by unfold bk_dPay; first | (rw [if_pos (by omega)]; omega) | (rw [if_neg (by omega)]; omega))] at hr
          refine r_iload_n (i := 2) (pc' := 91) dX12_freeYear_90 rfl rfl (.tail _ (.tail _ (.head _))) ?_
          refine r_ireturn dX12_freeYear_91 rfl ?_
          refine ⟨?_, rfl, rfl, rfl, rfl⟩
          rw [← hr]
set_option maxHeartbeats 4000000 in
set_option maxRecDepth 100000 in
theorem tX12_freeYear {l : Launch} {g : q_G} {n : Nat} {P : q_P} {X : q_X} {Y : q_Y} (hm : isMod n P) {C : q_X} {b : Nat} (hR : RB C b (xv X 468)) (hO : bOk C b) {k : Int} (hki : q_in k) : q_Met l g mX12_freeYear 3 [.ref (g.1 + 467), .int (zi k)] n P X Y (q_pv (.int (zi (f_free C b k))) n P X Y) := by
  obtain ⟨m0, m2, m3, m8, m9, m14, m15, m16, m17, m18, m20, m22, m25, hnm9⟩ := id hm
  obtain ⟨o0, o1, o2, o3, o4, o5, o6, o10, oc, op0, opz, opi, om0, omi, olim⟩ := id hO
  refine q_enter (L := [(0, .ref (g.1 + 467)), (1, .int (zi k))]) (by decide) (Nat.le_of_ble_eq_true rfl) rfl ?_
  refine r_aload_n (i := 0) (pc' := 1) dX12_freeYear_0 rfl rfl (.head _) ?_
  refine r_iload_n (i := 1) (pc' := 2) dX12_freeYear_1 rfl rfl (.tail _ (.head _)) ?_
  by_cases hk : bk_has C b k
  · obtain ⟨kn, rfl⟩ : ∃ kn : Nat, k = (kn : Int) := ⟨k.toNat, by omega⟩
    have hkk : (kn : Int) < xv C b 10 := hk.2
    have hck := hO.c hkk
    obtain ⟨hf, hf2, hf3, hf4, hfj, hfs, hfg⟩ := id hck
    refine r_V1p (ci := 12) (pc' := 5) dX12_freeYear_2 rfl lX12_206 rfl (by decide) (Nat.le_of_ble_eq_true rfl) (by first | assumption | rfl) (by omega) (tX12_isContract (by assumption) (by assumption) (by assumption) (by omega)) ?_
    refine r_bif_eq (t := 16) (f := 8) dX12_freeYear_5 (by decide) rfl (fun h5 => ?_) (fun h5 => ?_)
    · exfalso; omega
    · refine r_aload_n (i := 0) (pc' := 9) dX12_freeYear_8 rfl rfl (.head _) ?_
      refine r_iload_n (i := 1) (pc' := 10) dX12_freeYear_9 rfl rfl (.tail _ (.head _)) ?_
      refine r_V1p (ci := 12) (pc' := 13) dX12_freeYear_10 rfl lX12_209 rfl (by decide) (Nat.le_of_ble_eq_true rfl) (by first | assumption | rfl) (by omega) (tX12_isOpen (by assumption) (by assumption) (by assumption) (by assumption)) ?_
      refine r_bif_ne (t := 18) (f := 16) dX12_freeYear_13 (by decide) rfl (fun h13 => ?_) (fun h13 => ?_)
      · refine r_aload_n (i := 0) (pc' := 19) dX12_freeYear_18 rfl rfl (.head _) ?_
        refine r_getR (pc' := 22) dX12_freeYear_19 rfl fX12_3 rfl (by first | assumption | rfl) (by omega) (by assumption) ?_
        refine r_iconst (pc' := 23) dX12_freeYear_22 rfl ?_
        refine r_iaload (pc' := 24) dX12_freeYear_23 rfl (by first | assumption | rfl) (by omega) (by omega) (by omega) (by first | decide | omega) (show Int.toNat 0 = 0 from rfl) ?_
        rw [hR.z 0 (by decide)]
        refine r_aload_n (i := 0) (pc' := 25) dX12_freeYear_24 rfl rfl (.head _) ?_
        refine r_iload_n (i := 1) (pc' := 26) dX12_freeYear_25 rfl rfl (.tail _ (.head _)) ?_
        refine r_iconst (pc' := 27) dX12_freeYear_26 rfl ?_
        refine r_V2p (ci := 12) (pc' := 30) dX12_freeYear_27 rfl lX12_115 rfl (by decide) (Nat.le_of_ble_eq_true rfl) (by first | assumption | rfl) (by omega) (tO_0 hm hR hO (by first | assumption | omega)) ?_
        refine r_S2p (pc' := 33) dX12_freeYear_30 rfl lX12_224 (by decide) (Nat.le_of_ble_eq_true rfl) (tX12_greater (by omega) (by omega)) ?_
        refine r_istore_n (i := 2) (pc' := 34) dX12_freeYear_33 rfl rfl rfl (.s1 (.s1 .nil rfl rfl rfl) rfl rfl rfl) ?_
        rw [f_free, if_neg (by simp only [Int.toNat_natCast]; omega)]
        simp only [Int.toNat_natCast]
        exact lX12_freeYear hm hR hO hkk _ _ (by omega) (by omega) rfl
      · refine r_iconst (pc' := 17) dX12_freeYear_16 rfl ?_
        refine r_ireturn dX12_freeYear_17 rfl ?_
        refine ⟨?_, rfl, rfl, rfl, rfl⟩
        unfold f_free
        first | (rw [if_pos (Or.inl hk)]; done) | (rw [if_pos (Or.inr (by simp only [Int.toNat_natCast]; omega))]; done)
  · refine r_V1p (ci := 12) (pc' := 5) dX12_freeYear_2 rfl lX12_206 rfl (by decide) (Nat.le_of_ble_eq_true rfl) (by first | assumption | rfl) (by omega) (tX12_isContract (by assumption) (by assumption) (by assumption) (by omega)) ?_
    refine r_bif_eq (t := 16) (f := 8) dX12_freeYear_5 (by decide) rfl (fun h5 => ?_) (fun h5 => ?_)
    · refine r_iconst (pc' := 17) dX12_freeYear_16 rfl ?_
      refine r_ireturn dX12_freeYear_17 rfl ?_
      refine ⟨?_, rfl, rfl, rfl, rfl⟩
      unfold f_free
      first | (rw [if_pos (Or.inl hk)]; done) | (rw [if_pos (Or.inr (by simp only [Int.toNat_natCast]; omega))]; done)
    · exfalso; omega
set_option maxHeartbeats 4000000 in
set_option maxRecDepth 100000 in
theorem lX12_ahead {l : Launch} {g : q_G} {n : Nat} {P : q_P} {X : q_X} {Y : q_Y} (hm : isMod n P) {C : q_X} {b : Nat} (hR : RB C b (xv X 468)) (hO : bOk C b) {y : Int} (hy : 0 ≤ y ∧ y < 20) {r : Int} : ∀ (w i : Nat) (s : Int), i + w = (xv C b 10).toNat → s + q_sum (fun i => if xv C (con b i) 4 = 0 then (if y < xv C (con b i) 0 + xv C (con b i) 1 then c_hit C (con b i) y + q_sum (fun j => if ¬ xv C (b + 8) j = 0 ∧ xv C (b + 5) j = (i : Int) ∧ xv C (b + 6) j = y then xv C (b + 7) j else 0) 0 (xv C (b + 4) 0).toNat else if y = xv C (con b i) 0 + xv C (con b i) 1 then c_from C (con b i) y else 0) else 0) i w = r → q_Tr l g mX12_ahead 3 (q_pv (.int (zi r)) n P X Y) 31 [(0, .ref (g.1 + 467)), (1, .int (zi y)), (2, .int (zi s)), (3, .int (zi (i : Int)))] [] n P X Y := by
  obtain ⟨m0, m2, m3, m8, m9, m14, m15, m16, m17, m18, m20, m22, m25, hnm9⟩ := id hm
  obtain ⟨o0, o1, o2, o3, o4, o5, o6, o10, oc, op0, opz, opi, om0, omi, olim⟩ := id hO
  intro w
  induction w with
  | zero =>
    intro i s hk hr
    refine r_iload_n (i := 3) (pc' := 32) dX12_ahead_31 rfl rfl (.tail _ (.tail _ (.tail _ (.head _)))) ?_
    refine r_aload_n (i := 0) (pc' := 33) dX12_ahead_32 rfl rfl (.head _) ?_
    refine r_getR (pc' := 36) dX12_ahead_33 rfl fX12_3 rfl (by first | assumption | rfl) (by omega) (by assumption) ?_
    refine r_bipush (pc' := 38) dX12_ahead_36 rfl (by decide) ?_
    refine r_iaload (pc' := 39) dX12_ahead_38 rfl (by first | assumption | rfl) (by omega) (by omega) (by omega) (by first | decide | omega) (show Int.toNat 7 = 7 from rfl) ?_
    rw [hR.m]
    refine r_icmp_ge (t := 105) (f := 42) dX12_ahead_39 (by decide) rfl (by first | omega | exact xv_in _ _ _) (by first | omega | exact xv_in _ _ _) (fun h39 => ?_) (fun h39 => ?_)
    · refine r_iload_n (i := 2) (pc' := 106) dX12_ahead_105 rfl rfl (.tail _ (.tail _ (.head _))) ?_
      refine r_ireturn dX12_ahead_106 rfl ?_
      refine ⟨?_, rfl, rfl, rfl, rfl⟩
      rw [← hr]; simp [q_sum]
    · exfalso; omega
  | succ w ih =>
    intro i s hk1 hr
    have hk : (i : Int) < xv C b 10 := by omega
    have hck := hO.c hk
    obtain ⟨hf, hf2, hf3, hf4, hfj, hfs, hfg⟩ := id hck
    refine r_iload_n (i := 3) (pc' := 32) dX12_ahead_31 rfl rfl (.tail _ (.tail _ (.tail _ (.head _)))) ?_
    refine r_aload_n (i := 0) (pc' := 33) dX12_ahead_32 rfl rfl (.head _) ?_
    refine r_getR (pc' := 36) dX12_ahead_33 rfl fX12_3 rfl (by first | assumption | rfl) (by omega) (by assumption) ?_
    refine r_bipush (pc' := 38) dX12_ahead_36 rfl (by decide) ?_
    refine r_iaload (pc' := 39) dX12_ahead_38 rfl (by first | assumption | rfl) (by omega) (by omega) (by omega) (by first | decide | omega) (show Int.toNat 7 = 7 from rfl) ?_
    rw [hR.m]
    refine r_icmp_ge (t := 105) (f := 42) dX12_ahead_39 (by decide) rfl (by first | omega | exact xv_in _ _ _) (by first | omega | exact xv_in _ _ _) (fun h39 => ?_) (fun h39 => ?_)
    · exfalso; omega
    · refine r_aload_n (i := 0) (pc' := 43) dX12_ahead_42 rfl rfl (.head _) ?_
      refine r_iload_n (i := 3) (pc' := 44) dX12_ahead_43 rfl rfl (.tail _ (.tail _ (.tail _ (.head _)))) ?_
      refine r_V1p (ci := 12) (pc' := 47) dX12_ahead_44 rfl lX12_209 rfl (by decide) (Nat.le_of_ble_eq_true rfl) (by first | assumption | rfl) (by omega) (tX12_isOpen (by assumption) (by assumption) (by assumption) (by assumption)) ?_
      refine r_bif_eq (t := 99) (f := 50) dX12_ahead_47 (by decide) rfl (fun h47 => ?_) (fun h47 => ?_)
      · refine r_iinc (pc' := 102) dX12_ahead_99 rfl rfl (.tail _ (.tail _ (.tail _ (.head _)))) (.s1 (.s1 (.s1 (.here .nil) rfl rfl rfl) rfl rfl rfl) rfl rfl rfl) ?_
        refine r_goto (t := 31) dX12_ahead_102 (by decide) ?_
        refine ih (i + 1) _ (by omega) ?_
        rw [← hr, q_sum]
        try dsimp only
        first | (rw [if_pos (by omega), if_pos (by omega)]; omega) | (rw [if_pos (by omega), if_neg (by omega), if_pos (by omega)]; omega) | (rw [if_pos (by omega), if_neg (by omega), if_neg (by omega)]; omega) | (rw [if_neg (by omega)]; omega)
      · refine r_iload_n (i := 2) (pc' := 51) dX12_ahead_50 rfl rfl (.tail _ (.tail _ (.head _))) ?_
        refine r_iload_n (i := 1) (pc' := 52) dX12_ahead_51 rfl rfl (.tail _ (.head _)) ?_
        refine r_aload_n (i := 0) (pc' := 53) dX12_ahead_52 rfl rfl (.head _) ?_
        refine r_iload_n (i := 3) (pc' := 54) dX12_ahead_53 rfl rfl (.tail _ (.tail _ (.tail _ (.head _)))) ?_
        refine r_V1p (ci := 12) (pc' := 57) dX12_ahead_54 rfl lX12_132 rfl (by decide) (Nat.le_of_ble_eq_true rfl) (by first | assumption | rfl) (by omega) (tX12_endOf (by assumption) (by assumption) (by assumption) (by assumption)) ?_
        refine r_icmp_ge (t := 78) (f := 60) dX12_ahead_57 (by decide) rfl (by first | omega | exact xv_in _ _ _) (by first | omega | exact xv_in _ _ _) (fun h57 => ?_) (fun h57 => ?_)
        · refine r_iload_n (i := 1) (pc' := 79) dX12_ahead_78 rfl rfl (.tail _ (.head _)) ?_
          refine r_aload_n (i := 0) (pc' := 80) dX12_ahead_79 rfl rfl (.head _) ?_
          refine r_iload_n (i := 3) (pc' := 81) dX12_ahead_80 rfl rfl (.tail _ (.tail _ (.tail _ (.head _)))) ?_
          refine r_V1p (ci := 12) (pc' := 84) dX12_ahead_81 rfl lX12_132 rfl (by decide) (Nat.le_of_ble_eq_true rfl) (by first | assumption | rfl) (by omega) (tX12_endOf (by assumption) (by assumption) (by assumption) (by assumption)) ?_
          refine r_icmp_ne (t := 96) (f := 87) dX12_ahead_84 (by decide) rfl (by first | omega | exact xv_in _ _ _) (by first | omega | exact xv_in _ _ _) (fun h84 => ?_) (fun h84 => ?_)
          · refine r_iconst (pc' := 97) dX12_ahead_96 rfl ?_
            refine r_iadd (pc' := 98) dX12_ahead_97 rfl ?_
            refine r_istore_n (i := 2) (pc' := 99) dX12_ahead_98 rfl rfl rfl (.s1 (.s1 (.here (.s1 .nil rfl rfl rfl)) rfl rfl rfl) rfl rfl rfl) ?_
            refine r_iinc (pc' := 102) dX12_ahead_99 rfl rfl (.tail _ (.tail _ (.tail _ (.head _)))) (.s1 (.s1 (.s1 (.here .nil) rfl rfl rfl) rfl rfl rfl) rfl rfl rfl) ?_
            refine r_goto (t := 31) dX12_ahead_102 (by decide) ?_
            refine ih (i + 1) _ (by omega) ?_
            rw [← hr, q_sum]
            try dsimp only
            first | (rw [if_pos (by omega), if_pos (by omega)]; omega) | (rw [if_pos (by omega), if_neg (by omega), if_pos (by omega)]; omega) | (rw [if_pos (by omega), if_neg (by omega), if_neg (by omega)]; omega) | (rw [if_neg (by omega)]; omega)
          · refine r_aload_n (i := 0) (pc' := 88) dX12_ahead_87 rfl rfl (.head _) ?_
            refine r_iload_n (i := 3) (pc' := 89) dX12_ahead_88 rfl rfl (.tail _ (.tail _ (.tail _ (.head _)))) ?_
            refine r_iload_n (i := 1) (pc' := 90) dX12_ahead_89 rfl rfl (.tail _ (.head _)) ?_
            refine r_V2p (ci := 12) (pc' := 93) dX12_ahead_90 rfl lX12_212 rfl (by decide) (Nat.le_of_ble_eq_true rfl) (by first | assumption | rfl) (by omega) (tX12_partsBehind (by assumption) (by assumption) (by assumption) (by assumption) (by omega)) ?_
            refine r_goto (t := 97) dX12_ahead_93 (by decide) ?_
            refine r_iadd (pc' := 98) dX12_ahead_97 rfl ?_
            refine r_istore_n (i := 2) (pc' := 99) dX12_ahead_98 rfl rfl rfl (.s1 (.s1 (.here (.s1 .nil rfl rfl rfl)) rfl rfl rfl) rfl rfl rfl) ?_
            refine r_iinc (pc' := 102) dX12_ahead_99 rfl rfl (.tail _ (.tail _ (.tail _ (.head _)))) (.s1 (.s1 (.s1 (.here .nil) rfl rfl rfl) rfl rfl rfl) rfl rfl rfl) ?_
            refine r_goto (t := 31) dX12_ahead_102 (by decide) ?_
            refine ih (i + 1) _ (by omega) ?_
            rw [← hr, q_sum]
            try dsimp only
            first | (rw [if_pos (by omega), if_pos (by omega)]; omega) | (rw [if_pos (by omega), if_neg (by omega), if_pos (by omega)]; omega) | (rw [if_pos (by omega), if_neg (by omega), if_neg (by omega)]; omega) | (rw [if_neg (by omega)]; omega)
        · refine r_aload_n (i := 0) (pc' := 61) dX12_ahead_60 rfl rfl (.head _) ?_
          refine r_iload_n (i := 3) (pc' := 62) dX12_ahead_61 rfl rfl (.tail _ (.tail _ (.tail _ (.head _)))) ?_
          refine r_iload_n (i := 1) (pc' := 63) dX12_ahead_62 rfl rfl (.tail _ (.head _)) ?_
          refine r_V2p (ci := 12) (pc' := 66) dX12_ahead_63 rfl lX12_230 rfl (by decide) (Nat.le_of_ble_eq_true rfl) (by first | assumption | rfl) (by omega) (tX12_hitOf (by assumption) (by assumption) (by assumption) (by assumption) (by omega)) ?_
          refine r_aload_n (i := 0) (pc' := 67) dX12_ahead_66 rfl rfl (.head _) ?_
          refine r_iload_n (i := 3) (pc' := 68) dX12_ahead_67 rfl rfl (.tail _ (.tail _ (.tail _ (.head _)))) ?_
          refine r_iload_n (i := 1) (pc' := 69) dX12_ahead_68 rfl rfl (.tail _ (.head _)) ?_
          refine r_iconst (pc' := 70) dX12_ahead_69 rfl ?_
          refine r_iconst (pc' := 71) dX12_ahead_70 rfl ?_
          refine r_V4p (ci := 12) (pc' := 74) dX12_ahead_71 rfl lX12_237 rfl (by decide) (Nat.le_of_ble_eq_true rfl) (by first | assumption | rfl) (by omega) (tX12_promisesOf hm hR hO (by omega) (by omega) (by omega) (by omega)) ?_
          rw [← pr_of, pr_of_1 hO]
          refine r_iadd (pc' := 75) dX12_ahead_74 rfl ?_
          refine r_goto (t := 97) dX12_ahead_75 (by decide) ?_
          refine r_iadd (pc' := 98) dX12_ahead_97 rfl ?_
          refine r_istore_n (i := 2) (pc' := 99) dX12_ahead_98 rfl rfl rfl (.s1 (.s1 (.here (.s1 .nil rfl rfl rfl)) rfl rfl rfl) rfl rfl rfl) ?_
          refine r_iinc (pc' := 102) dX12_ahead_99 rfl rfl (.tail _ (.tail _ (.tail _ (.head _)))) (.s1 (.s1 (.s1 (.here .nil) rfl rfl rfl) rfl rfl rfl) rfl rfl rfl) ?_
          refine r_goto (t := 31) dX12_ahead_102 (by decide) ?_
          refine ih (i + 1) _ (by omega) ?_
          rw [← hr, q_sum]
          try dsimp only
          first | (rw [if_pos (by omega), if_pos (by omega)]; omega) | (rw [if_pos (by omega), if_neg (by omega), if_pos (by omega)]; omega) | (rw [if_pos (by omega), if_neg (by omega), if_neg (by omega)]; omega) | (rw [if_neg (by omega)]; omega)
set_option maxHeartbeats 4000000 in
set_option maxRecDepth 100000 in
theorem tX12_ahead {l : Launch} {g : q_G} {n : Nat} {P : q_P} {X : q_X} {Y : q_Y} (hm : isMod n P) {C : q_X} {b : Nat} (hR : RB C b (xv X 468)) (hO : bOk C b) {y : Int} (hy : q_in y) : q_Met l g mX12_ahead 3 [.ref (g.1 + 467), .int (zi y)] n P X Y (q_pv (.int (zi (f_ahead C b y))) n P X Y) := by
  obtain ⟨m0, m2, m3, m8, m9, m14, m15, m16, m17, m18, m20, m22, m25, hnm9⟩ := id hm
  obtain ⟨o0, o1, o2, o3, o4, o5, o6, o10, oc, op0, opz, opi, om0, omi, olim⟩ := id hO
  refine q_enter (L := [(0, .ref (g.1 + 467)), (1, .int (zi y))]) (by decide) (Nat.le_of_ble_eq_true rfl) rfl ?_
  refine r_iload_n (i := 1) (pc' := 1) dX12_ahead_0 rfl rfl (.tail _ (.head _)) ?_
  refine r_S1p (pc' := 4) dX12_ahead_1 rfl lX12_253 (by decide) (Nat.le_of_ble_eq_true rfl) (tX12_isYear (by omega)) ?_
  refine r_bif_eq (t := 17) (f := 7) dX12_ahead_4 (by decide) rfl (fun h4 => ?_) (fun h4 => ?_)
  · refine r_iconst (pc' := 18) dX12_ahead_17 rfl ?_
    refine r_ireturn dX12_ahead_18 rfl ?_
    refine ⟨?_, rfl, rfl, rfl, rfl⟩
    unfold f_ahead
    rw [if_neg (by omega)]
  · refine r_iload_n (i := 1) (pc' := 8) dX12_ahead_7 rfl rfl (.tail _ (.head _)) ?_
    refine r_aload_n (i := 0) (pc' := 9) dX12_ahead_8 rfl rfl (.head _) ?_
    refine r_getR (pc' := 12) dX12_ahead_9 rfl fX12_3 rfl (by first | assumption | rfl) (by omega) (by assumption) ?_
    refine r_iconst (pc' := 13) dX12_ahead_12 rfl ?_
    refine r_iaload (pc' := 14) dX12_ahead_13 rfl (by first | assumption | rfl) (by omega) (by omega) (by omega) (by first | decide | omega) (show Int.toNat 0 = 0 from rfl) ?_
    rw [hR.z 0 (by decide)]
    refine r_icmp_gt (t := 19) (f := 17) dX12_ahead_14 (by decide) rfl (by first | omega | exact xv_in _ _ _) (by first | omega | exact xv_in _ _ _) (fun h14 => ?_) (fun h14 => ?_)
    · refine r_aload_n (i := 0) (pc' := 20) dX12_ahead_19 rfl rfl (.head _) ?_
      refine r_getR (pc' := 23) dX12_ahead_20 rfl fX12_3 rfl (by first | assumption | rfl) (by omega) (by assumption) ?_
      refine r_bipush (pc' := 25) dX12_ahead_23 rfl (by decide) ?_
      refine r_iload_n (i := 1) (pc' := 26) dX12_ahead_25 rfl rfl (.tail _ (.head _)) ?_
      refine r_iadd (pc' := 27) dX12_ahead_26 rfl ?_
      refine r_iaload (pc' := 28) dX12_ahead_27 rfl (by first | assumption | rfl) (by omega) (by omega) (by omega) (by first | decide | omega) rfl ?_
      rw [hR.dead (by omega)]
      refine r_istore_n (i := 2) (pc' := 29) dX12_ahead_28 rfl rfl rfl (.s1 (.s1 .nil rfl rfl rfl) rfl rfl rfl) ?_
      refine r_iconst (pc' := 30) dX12_ahead_29 rfl ?_
      refine r_istore_n (i := 3) (pc' := 31) dX12_ahead_30 rfl rfl rfl (.s1 (.s1 (.s1 .nil rfl rfl rfl) rfl rfl rfl) rfl rfl rfl) ?_
      rw [f_ahead, if_pos (by omega)]
      exact lX12_ahead hm hR hO (by omega) (xv C b 10).toNat 0 _ (by omega) (by rw [f_cnt])
    · refine r_iconst (pc' := 18) dX12_ahead_17 rfl ?_
      refine r_ireturn dX12_ahead_18 rfl ?_
      refine ⟨?_, rfl, rfl, rfl, rfl⟩
      unfold f_ahead
      rw [if_neg (by omega)]
set_option maxHeartbeats 4000000 in
set_option maxRecDepth 100000 in
theorem lX12_over {l : Launch} {g : q_G} {n : Nat} {P : q_P} {X : q_X} {Y : q_Y} (hm : isMod n P) {C : q_X} {b : Nat} (hR : RB C b (xv X 468)) (hO : bOk C b) {k : Nat} (hk10 : k ≤ 10) : ∀ (w i : Nat), i + w = k → q_Tr l g mX12_over 4 (q_pv (.int (zi (f_ovb C b k))) n P X Y) 18 [(0, .ref (g.1 + 467)), (1, .int (zi (k : Int))), (2, .int (zi (f_ovb C b i))), (3, .int (zi (i : Int)))] [] n P X Y := by
  obtain ⟨m0, m2, m3, m8, m9, m14, m15, m16, m17, m18, m20, m22, m25, hnm9⟩ := id hm
  obtain ⟨o0, o1, o2, o3, o4, o5, o6, o10, oc, op0, opz, opi, om0, omi, olim⟩ := id hO
  intro w
  induction w with
  | zero =>
    intro i hk
    obtain rfl : i = k := by omega
    refine r_iload_n (i := 3) (pc' := 19) dX12_over_18 rfl rfl (.tail _ (.tail _ (.tail _ (.head _)))) ?_
    refine r_iload_n (i := 1) (pc' := 20) dX12_over_19 rfl rfl (.tail _ (.head _)) ?_
    refine r_icmp_ge (t := 77) (f := 23) dX12_over_20 (by decide) rfl (by first | omega | exact xv_in _ _ _) (by first | omega | exact xv_in _ _ _) (fun h20 => ?_) (fun h20 => ?_)
    · refine r_iload_n (i := 2) (pc' := 78) dX12_over_77 rfl rfl (.tail _ (.tail _ (.head _))) ?_
      refine r_ireturn dX12_over_78 rfl ?_
      exact ⟨rfl, rfl, rfl, rfl, rfl⟩
    · exfalso; omega
  | succ w ih =>
    intro i hk
    refine r_iload_n (i := 3) (pc' := 19) dX12_over_18 rfl rfl (.tail _ (.tail _ (.tail _ (.head _)))) ?_
    refine r_iload_n (i := 1) (pc' := 20) dX12_over_19 rfl rfl (.tail _ (.head _)) ?_
    refine r_icmp_ge (t := 77) (f := 23) dX12_over_20 (by decide) rfl (by first | omega | exact xv_in _ _ _ | exact nz_in _) (by first | omega | exact xv_in _ _ _ | exact nz_in _) (fun h20 => ?_) (fun h20 => ?_)
    · exfalso; omega
    · refine r_aload_n (i := 0) (pc' := 24) dX12_over_23 rfl rfl (.head _) ?_
      refine r_getR (pc' := 27) dX12_over_24 rfl fX12_3 rfl (by first | assumption | rfl) (by omega) (by assumption) ?_
      refine r_iconst (pc' := 28) dX12_over_27 rfl ?_
      refine r_iaload (pc' := 29) dX12_over_28 rfl (by first | assumption | rfl) (by omega) (by omega) (by omega) (by first | decide | omega) (show Int.toNat 0 = 0 from rfl) ?_
      rw [hR.z 0 (by decide)]
      refine r_iconst (pc' := 30) dX12_over_29 rfl ?_
      refine r_iadd (pc' := 31) dX12_over_30 rfl ?_
      refine r_iload_n (i := 3) (pc' := 32) dX12_over_31 rfl rfl (.tail _ (.tail _ (.tail _ (.head _)))) ?_
      refine r_iadd (pc' := 33) dX12_over_32 rfl ?_
      refine r_istore (pc' := 35) dX12_over_33 rfl rfl (.s1 (.s1 (.s1 (.s1 .nil rfl rfl rfl) rfl rfl rfl) rfl rfl rfl) rfl rfl rfl) ?_
      refine r_iload_n (i := 2) (pc' := 36) dX12_over_35 rfl rfl (.tail _ (.tail _ (.head _))) ?_
      refine r_iload (pc' := 38) dX12_over_36 rfl (.tail _ (.tail _ (.tail _ (.tail _ (.head _))))) ?_
      refine r_bipush (pc' := 40) dX12_over_38 rfl (by decide) ?_
      refine r_icmp_gt (t := 68) (f := 43) dX12_over_40 (by decide) rfl (by first | omega | exact xv_in _ _ _ | exact nz_in _) (by first | omega | exact xv_in _ _ _ | exact nz_in _) (fun h40 => ?_) (fun h40 => ?_)
      · refine r_iconst (pc' := 69) dX12_over_68 rfl ?_
        refine r_ior (pc' := 70) dX12_over_69 rfl ((zi_of _).symm) ?_
        refine r_istore_n (i := 2) (pc' := 71) dX12_over_70 rfl rfl rfl (.s1 (.s1 (.here (.s1 (.s1 .nil rfl rfl rfl) rfl rfl rfl)) rfl rfl rfl) rfl rfl rfl) ?_
        refine r_iinc (pc' := 74) dX12_over_71 rfl rfl (.tail _ (.tail _ (.tail _ (.head _)))) (.s1 (.s1 (.s1 (.here (.s1 .nil rfl rfl rfl)) rfl rfl rfl) rfl rfl rfl) rfl rfl rfl) ?_
        refine r_goto (t := 18) dX12_over_74 (by decide) ?_
        refine r_sub (.kp (.kp (.kp (.kp (.dr .nil))))) ?_
        have he := f_ovb.eq_2 C b i
        first
          | (rw [if_pos ⟨by omega, by omega, by omega⟩] at he; rw [← he]; exact ih (i + 1) (by omega))
          | (rw [if_neg (by omega)] at he; try rw [zi_of, zi_or0]
             rw [← he]; exact ih (i + 1) (by omega))
      · refine r_aload_n (i := 0) (pc' := 44) dX12_over_43 rfl rfl (.head _) ?_
        refine r_iload (pc' := 46) dX12_over_44 rfl (.tail _ (.tail _ (.tail _ (.tail _ (.head _))))) ?_
        refine r_V1p (ci := 12) (pc' := 49) dX12_over_46 rfl lX12_347 rfl (by decide) (Nat.le_of_ble_eq_true rfl) (by first | assumption | rfl) (by omega) (tX12_ahead hm hR hO (by omega)) ?_
        rw [f_ahead, if_pos (by omega), ← zi_nz (f_cnt C b _)]
        refine r_aload_n (i := 0) (pc' := 50) dX12_over_49 rfl rfl (.head _) ?_
        refine r_getR (pc' := 53) dX12_over_50 rfl fX12_3 rfl (by first | assumption | rfl) (by omega) (by assumption) ?_
        refine r_bipush (pc' := 55) dX12_over_53 rfl (by decide) ?_
        refine r_iload (pc' := 57) dX12_over_55 rfl (.tail _ (.tail _ (.tail _ (.tail _ (.head _))))) ?_
        refine r_iadd (pc' := 58) dX12_over_57 rfl ?_
        refine r_iaload (pc' := 59) dX12_over_58 rfl (by first | assumption | rfl) (by omega) (by omega) (by omega) (by first | decide | omega) rfl ?_
        rw [hR.lim (by omega)]
        refine r_icmp_le (t := 68) (f := 62) dX12_over_59 (by decide) rfl (by first | omega | exact xv_in _ _ _ | exact nz_in _) (by first | omega | exact xv_in _ _ _ | exact nz_in _) (fun h59 => ?_) (fun h59 => ?_)
        · refine r_iconst (pc' := 69) dX12_over_68 rfl ?_
          refine r_ior (pc' := 70) dX12_over_69 rfl ((zi_of _).symm) ?_
          refine r_istore_n (i := 2) (pc' := 71) dX12_over_70 rfl rfl rfl (.s1 (.s1 (.here (.s1 (.s1 .nil rfl rfl rfl) rfl rfl rfl)) rfl rfl rfl) rfl rfl rfl) ?_
          refine r_iinc (pc' := 74) dX12_over_71 rfl rfl (.tail _ (.tail _ (.tail _ (.head _)))) (.s1 (.s1 (.s1 (.here (.s1 .nil rfl rfl rfl)) rfl rfl rfl) rfl rfl rfl) rfl rfl rfl) ?_
          refine r_goto (t := 18) dX12_over_74 (by decide) ?_
          refine r_sub (.kp (.kp (.kp (.kp (.dr .nil))))) ?_
          have he := f_ovb.eq_2 C b i
          first
            | (rw [if_pos ⟨by omega, by omega, by omega⟩] at he; rw [← he]; exact ih (i + 1) (by omega))
            | (rw [if_neg (by omega)] at he; try rw [zi_of, zi_or0]
               rw [← he]; exact ih (i + 1) (by omega))
        · refine r_iconst (pc' := 63) dX12_over_62 rfl ?_
          refine r_iload_n (i := 3) (pc' := 64) dX12_over_63 rfl rfl (.tail _ (.tail _ (.tail _ (.head _)))) ?_
          refine r_ishl (pc' := 65) dX12_over_64 rfl (zi_shl1 i (by omega)) ?_
          refine r_goto (t := 69) dX12_over_65 (by decide) ?_
          refine r_ior (pc' := 70) dX12_over_69 rfl ((zi_of _).symm) ?_
          refine r_istore_n (i := 2) (pc' := 71) dX12_over_70 rfl rfl rfl (.s1 (.s1 (.here (.s1 (.s1 .nil rfl rfl rfl) rfl rfl rfl)) rfl rfl rfl) rfl rfl rfl) ?_
          refine r_iinc (pc' := 74) dX12_over_71 rfl rfl (.tail _ (.tail _ (.tail _ (.head _)))) (.s1 (.s1 (.s1 (.here (.s1 .nil rfl rfl rfl)) rfl rfl rfl) rfl rfl rfl) rfl rfl rfl) ?_
          refine r_goto (t := 18) dX12_over_74 (by decide) ?_
          refine r_sub (.kp (.kp (.kp (.kp (.dr .nil))))) ?_
          have he := f_ovb.eq_2 C b i
          first
            | (rw [if_pos ⟨by omega, by omega, by omega⟩] at he; rw [← he]; exact ih (i + 1) (by omega))
            | (rw [if_neg (by omega)] at he; try rw [zi_of, zi_or0]
               rw [← he]; exact ih (i + 1) (by omega))
