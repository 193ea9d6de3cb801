set_option maxHeartbeats 4000000 in
set_option maxRecDepth 100000 in
theorem tX12_whyNotLonger {l : Launch} {g : q_G} {n : Nat} {P : q_P} {X : q_X} {Y : q_Y} (hm : isMod n P) {C : q_X} {b : Nat} (hR : RB C b (xv X 468)) (hO : bOk C b) {k : Int} (hki : q_in k) {m v x : Int} (hm5 : q_in m) (hv : q_in v) (hx : q_in x) : q_Met l g mX12_whyNotLonger 4 [.ref (g.1 + 467), .int (zi k), .int (zi m), .int (zi v), .int (zi x)] n P X Y (q_pv (.int (zi (bk_lref C b k m v x))) n P X Y) := by
  obtain ⟨m0, m2, m3, m8, m9, m14, m15, m16, m17, m18, m20, m22, m25, hnm9⟩ := id hm
  obtain ⟨o0, o1, o2, o3, o4, o5, o6, o10, oc, op0, opz, opi, om0, omi, olim⟩ := id hO
  have hin := bk_ref_in C b k
  refine q_enter (L := [(0, .ref (g.1 + 467)), (1, .int (zi k)), (2, .int (zi m)), (3, .int (zi v)), (4, .int (zi x))]) (by decide) (Nat.le_of_ble_eq_true rfl) rfl ?_
  by_cases hk0 : bk_ref C b k = 0
  · have hh := bk_ref_has hk0
    obtain ⟨kn, rfl⟩ : ∃ kn : Nat, k = (kn : Int) := ⟨k.toNat, by omega⟩
    have hk2 : (kn : Int) < xv C b 10 := hh.2
    have hck := hO.c hk2
    have hck0 := hck.1
    have hck1 := hck.2.1
    have hlst : c_last C (con b kn) = xv C (con b kn) 0 + xv C (con b kn) 1 + xv C (con b kn) 2 - 1 := rfl
    refine r_aload_n (i := 0) (pc' := 1) dX12_whyNotLonger_0 rfl rfl (.head _) ?_
    refine r_iload_n (i := 1) (pc' := 2) dX12_whyNotLonger_1 rfl rfl (.tail _ (.head _)) ?_
    refine r_V1p (ci := 12) (pc' := 5) dX12_whyNotLonger_2 rfl lX12_278 rfl (by decide) (Nat.le_of_ble_eq_true rfl) (by first | assumption | rfl) (by omega) (tX12_whyNot (by assumption) (by assumption) (by assumption) (by first | omega | assumption)) ?_
    refine r_istore (pc' := 7) dX12_whyNotLonger_5 rfl rfl (.s1 (.s1 (.s1 (.s1 (.s1 .nil rfl rfl rfl) rfl rfl rfl) rfl rfl rfl) rfl rfl rfl) rfl rfl rfl) ?_
    refine r_iload (pc' := 9) dX12_whyNotLonger_7 rfl (.tail _ (.tail _ (.tail _ (.tail _ (.tail _ (.head _)))))) ?_
    refine r_if_eq (t := 15) (f := 12) dX12_whyNotLonger_9 (by decide) rfl (by first | omega | exact xv_in _ _ _) (fun h9 => ?_) (fun h9 => ?_)
    · refine r_iload_n (i := 2) (pc' := 16) dX12_whyNotLonger_15 rfl rfl (.tail _ (.tail _ (.head _))) ?_
      refine r_i2l (pc' := 17) dX12_whyNotLonger_16 rfl rfl ?_
      refine r_lconst (pc' := 18) (z := 1) dX12_whyNotLonger_17 rfl rfl ?_
      refine r_ldc2 (pc' := 21) dX12_whyNotLonger_18 rfl kX12_311 ?_
      refine r_S3p (pc' := 24) dX12_whyNotLonger_21 rfl lX12_68 (by decide) (Nat.le_of_ble_eq_true rfl) (tX12_isIn (by first | exact li_z (by omega) | exact li_z (xv_in _ _ _) | rfl) (by first | exact li_z (by omega) | exact li_z (xv_in _ _ _) | rfl) (by first | exact li_z (by omega) | exact li_z (xv_in _ _ _) | rfl)) ?_
      try simp only [i64_0, i64_1, i64_2, i64_3, i64_4, i64_5, i64_6, i64_7, i64_10, i64_19, i64_40, i64_100, i64_364, i64_9999, i64_99999, i64_999999, i64_m999999]
      refine r_bif_eq (t := 52) (f := 27) dX12_whyNotLonger_24 (by decide) rfl (fun h24 => ?_) (fun h24 => ?_)
      · refine r_iconst (pc' := 53) dX12_whyNotLonger_52 rfl ?_
        refine r_ireturn dX12_whyNotLonger_53 rfl ?_
        refine ⟨?_, rfl, rfl, rfl, rfl⟩
        unfold bk_lref
        rw [if_neg (fun q => q hk0), Int.toNat_natCast]
        first
          | (rw [if_pos (by omega)]; done)
          | (rw [if_neg (by omega), if_pos (by omega)]; done)
          | (rw [if_neg (by omega), if_neg (by omega), if_pos (by omega)]; done)
          | (rw [if_neg (by omega), if_neg (by omega), if_neg (by omega)]; done)
      · refine r_iload_n (i := 3) (pc' := 28) dX12_whyNotLonger_27 rfl rfl (.tail _ (.tail _ (.tail _ (.head _)))) ?_
        refine r_i2l (pc' := 29) dX12_whyNotLonger_28 rfl rfl ?_
        refine r_lconst (pc' := 30) (z := 0) dX12_whyNotLonger_29 rfl rfl ?_
        refine r_ldc2 (pc' := 33) dX12_whyNotLonger_30 rfl kX12_287 ?_
        refine r_S3p (pc' := 36) dX12_whyNotLonger_33 rfl lX12_68 (by decide) (Nat.le_of_ble_eq_true rfl) (tX12_isIn (by first | exact li_z (by omega) | exact li_z (xv_in _ _ _) | rfl) (by first | exact li_z (by omega) | exact li_z (xv_in _ _ _) | rfl) (by first | exact li_z (by omega) | exact li_z (xv_in _ _ _) | rfl)) ?_
        try simp only [i64_0, i64_1, i64_2, i64_3, i64_4, i64_5, i64_6, i64_7, i64_10, i64_19, i64_40, i64_100, i64_364, i64_9999, i64_99999, i64_999999, i64_m999999]
        refine r_bif_eq (t := 52) (f := 39) dX12_whyNotLonger_36 (by decide) rfl (fun h36 => ?_) (fun h36 => ?_)
        · refine r_iconst (pc' := 53) dX12_whyNotLonger_52 rfl ?_
          refine r_ireturn dX12_whyNotLonger_53 rfl ?_
          refine ⟨?_, rfl, rfl, rfl, rfl⟩
          unfold bk_lref
          rw [if_neg (fun q => q hk0), Int.toNat_natCast]
          first
            | (rw [if_pos (by omega)]; done)
            | (rw [if_neg (by omega), if_pos (by omega)]; done)
            | (rw [if_neg (by omega), if_neg (by omega), if_pos (by omega)]; done)
            | (rw [if_neg (by omega), if_neg (by omega), if_neg (by omega)]; done)
        · refine r_iload (pc' := 41) dX12_whyNotLonger_39 rfl (.tail _ (.tail _ (.tail _ (.tail _ (.head _))))) ?_
          refine r_i2l (pc' := 42) dX12_whyNotLonger_41 rfl rfl ?_
          refine r_lconst (pc' := 43) (z := 0) dX12_whyNotLonger_42 rfl rfl ?_
          refine r_ldc2 (pc' := 46) dX12_whyNotLonger_43 rfl kX12_287 ?_
          refine r_S3p (pc' := 49) dX12_whyNotLonger_46 rfl lX12_68 (by decide) (Nat.le_of_ble_eq_true rfl) (tX12_isIn (by first | exact li_z (by omega) | exact li_z (xv_in _ _ _) | rfl) (by first | exact li_z (by omega) | exact li_z (xv_in _ _ _) | rfl) (by first | exact li_z (by omega) | exact li_z (xv_in _ _ _) | rfl)) ?_
          try simp only [i64_0, i64_1, i64_2, i64_3, i64_4, i64_5, i64_6, i64_7, i64_10, i64_19, i64_40, i64_100, i64_364, i64_9999, i64_99999, i64_999999, i64_m999999]
          refine r_bif_ne (t := 54) (f := 52) dX12_whyNotLonger_49 (by decide) rfl (fun h49 => ?_) (fun h49 => ?_)
          · refine r_iload_n (i := 3) (pc' := 55) dX12_whyNotLonger_54 rfl rfl (.tail _ (.tail _ (.tail _ (.head _)))) ?_
            refine r_aload_n (i := 0) (pc' := 56) dX12_whyNotLonger_55 rfl rfl (.head _) ?_
            refine r_getR (pc' := 59) dX12_whyNotLonger_56 rfl fX12_3 rfl (by first | assumption | rfl) (by omega) (by assumption) ?_
            refine r_bipush (pc' := 61) dX12_whyNotLonger_59 rfl (by decide) ?_
            refine r_iaload (pc' := 62) dX12_whyNotLonger_61 rfl (by first | assumption | rfl) (by omega) (by omega) (by omega) (by first | decide | omega) (show Int.toNat 6 = 6 from rfl) ?_
            rw [hR.z 6 (by decide)]
            refine r_icmp_ge (t := 69) (f := 65) dX12_whyNotLonger_62 (by decide) rfl (by first | omega | exact xv_in _ _ _) (by first | omega | exact xv_in _ _ _) (fun h62 => ?_) (fun h62 => ?_)
            · refine r_aload_n (i := 0) (pc' := 70) dX12_whyNotLonger_69 rfl rfl (.head _) ?_
              refine r_iload_n (i := 1) (pc' := 71) dX12_whyNotLonger_70 rfl rfl (.tail _ (.head _)) ?_
              refine r_iconst (pc' := 72) dX12_whyNotLonger_71 rfl ?_
              refine r_V2p (ci := 12) (pc' := 75) dX12_whyNotLonger_72 rfl lX12_115 rfl (by decide) (Nat.le_of_ble_eq_true rfl) (by first | assumption | rfl) (by omega) (tO_1 hm hR hO (by first | assumption | omega)) ?_
              refine r_aload_n (i := 0) (pc' := 76) dX12_whyNotLonger_75 rfl rfl (.head _) ?_
              refine r_iload_n (i := 1) (pc' := 77) dX12_whyNotLonger_76 rfl rfl (.tail _ (.head _)) ?_
              refine r_iconst (pc' := 78) dX12_whyNotLonger_77 rfl ?_
              refine r_V2p (ci := 12) (pc' := 81) dX12_whyNotLonger_78 rfl lX12_115 rfl (by decide) (Nat.le_of_ble_eq_true rfl) (by first | assumption | rfl) (by omega) (tO_2 hm hR hO (by first | assumption | omega)) ?_
              refine r_iadd (pc' := 82) dX12_whyNotLonger_81 rfl ?_
              refine r_iload_n (i := 2) (pc' := 83) dX12_whyNotLonger_82 rfl rfl (.tail _ (.tail _ (.head _))) ?_
              refine r_iadd (pc' := 84) dX12_whyNotLonger_83 rfl ?_
              refine r_bipush (pc' := 86) dX12_whyNotLonger_84 rfl (by decide) ?_
              refine r_icmp_gt (t := 101) (f := 89) dX12_whyNotLonger_86 (by decide) rfl (by first | omega | exact xv_in _ _ _) (by first | omega | exact xv_in _ _ _) (fun h86 => ?_) (fun h86 => ?_)
              · refine r_bipush (pc' := 103) dX12_whyNotLonger_101 rfl (by decide) ?_
                refine r_goto (t := 107) dX12_whyNotLonger_103 (by decide) ?_
                refine r_ireturn dX12_whyNotLonger_107 rfl ?_
                refine ⟨?_, rfl, rfl, rfl, rfl⟩
                unfold bk_lref
                rw [if_neg (fun q => q hk0), Int.toNat_natCast]
                first
                  | (rw [if_pos (by omega)]; done)
                  | (rw [if_neg (by omega), if_pos (by omega)]; done)
                  | (rw [if_neg (by omega), if_neg (by omega), if_pos (by omega)]; done)
                  | (rw [if_neg (by omega), if_neg (by omega), if_neg (by omega)]; done)
              · refine r_aload_n (i := 0) (pc' := 90) dX12_whyNotLonger_89 rfl rfl (.head _) ?_
                refine r_iload_n (i := 1) (pc' := 91) dX12_whyNotLonger_90 rfl rfl (.tail _ (.head _)) ?_
                refine r_V1p (ci := 12) (pc' := 94) dX12_whyNotLonger_91 rfl lX12_118 rfl (by decide) (Nat.le_of_ble_eq_true rfl) (by first | assumption | rfl) (by omega) (tX12_lastOf hm hR hO hk2) ?_
                refine r_iload_n (i := 2) (pc' := 95) dX12_whyNotLonger_94 rfl rfl (.tail _ (.tail _ (.head _))) ?_
                refine r_iadd (pc' := 96) dX12_whyNotLonger_95 rfl ?_
                refine r_bipush (pc' := 98) dX12_whyNotLonger_96 rfl (by decide) ?_
                refine r_icmp_le (t := 106) (f := 101) dX12_whyNotLonger_98 (by decide) rfl (by first | omega | exact xv_in _ _ _) (by first | omega | exact xv_in _ _ _) (fun h98 => ?_) (fun h98 => ?_)
                · refine r_iconst (pc' := 107) dX12_whyNotLonger_106 rfl ?_
                  refine r_ireturn dX12_whyNotLonger_107 rfl ?_
                  refine ⟨?_, rfl, rfl, rfl, rfl⟩
                  unfold bk_lref
                  rw [if_neg (fun q => q hk0), Int.toNat_natCast]
                  first
                    | (rw [if_pos (by omega)]; done)
                    | (rw [if_neg (by omega), if_pos (by omega)]; done)
                    | (rw [if_neg (by omega), if_neg (by omega), if_pos (by omega)]; done)
                    | (rw [if_neg (by omega), if_neg (by omega), if_neg (by omega)]; done)
                · refine r_bipush (pc' := 103) dX12_whyNotLonger_101 rfl (by decide) ?_
                  refine r_goto (t := 107) dX12_whyNotLonger_103 (by decide) ?_
                  refine r_ireturn dX12_whyNotLonger_107 rfl ?_
                  refine ⟨?_, rfl, rfl, rfl, rfl⟩
                  unfold bk_lref
                  rw [if_neg (fun q => q hk0), Int.toNat_natCast]
                  first
                    | (rw [if_pos (by omega)]; done)
                    | (rw [if_neg (by omega), if_pos (by omega)]; done)
                    | (rw [if_neg (by omega), if_neg (by omega), if_pos (by omega)]; done)
                    | (rw [if_neg (by omega), if_neg (by omega), if_neg (by omega)]; done)
            · refine r_iconst (pc' := 66) dX12_whyNotLonger_65 rfl ?_
              refine r_goto (t := 107) dX12_whyNotLonger_66 (by decide) ?_
              refine r_ireturn dX12_whyNotLonger_107 rfl ?_
              refine ⟨?_, rfl, rfl, rfl, rfl⟩
              unfold bk_lref
              rw [if_neg (fun q => q hk0), Int.toNat_natCast]
              first
                | (rw [if_pos (by omega)]; done)
                | (rw [if_neg (by omega), if_pos (by omega)]; done)
                | (rw [if_neg (by omega), if_neg (by omega), if_pos (by omega)]; done)
                | (rw [if_neg (by omega), if_neg (by omega), if_neg (by omega)]; done)
          · refine r_iconst (pc' := 53) dX12_whyNotLonger_52 rfl ?_
            refine r_ireturn dX12_whyNotLonger_53 rfl ?_
            refine ⟨?_, rfl, rfl, rfl, rfl⟩
            unfold bk_lref
            rw [if_neg (fun q => q hk0), Int.toNat_natCast]
            first
              | (rw [if_pos (by omega)]; done)
              | (rw [if_neg (by omega), if_pos (by omega)]; done)
              | (rw [if_neg (by omega), if_neg (by omega), if_pos (by omega)]; done)
              | (rw [if_neg (by omega), if_neg (by omega), if_neg (by omega)]; done)
    · exfalso; omega
  · refine r_aload_n (i := 0) (pc' := 1) dX12_whyNotLonger_0 rfl rfl (.head _) ?_
    refine r_iload_n (i := 1) (pc' := 2) dX12_whyNotLonger_1 rfl rfl (.tail _ (.head _)) ?_
    refine r_V1p (ci := 12) (pc' := 5) dX12_whyNotLonger_2 rfl lX12_278 rfl (by decide) (Nat.le_of_ble_eq_true rfl) (by first | assumption | rfl) (by omega) (tX12_whyNot (by assumption) (by assumption) (by assumption) (by first | omega | assumption)) ?_
    refine r_istore (pc' := 7) dX12_whyNotLonger_5 rfl rfl (.s1 (.s1 (.s1 (.s1 (.s1 .nil rfl rfl rfl) rfl rfl rfl) rfl rfl rfl) rfl rfl rfl) rfl rfl rfl) ?_
    refine r_iload (pc' := 9) dX12_whyNotLonger_7 rfl (.tail _ (.tail _ (.tail _ (.tail _ (.tail _ (.head _)))))) ?_
    refine r_if_eq (t := 15) (f := 12) dX12_whyNotLonger_9 (by decide) rfl (by first | omega | exact xv_in _ _ _) (fun h9 => ?_) (fun h9 => ?_)
    · exfalso; omega
    · refine r_iload (pc' := 14) dX12_whyNotLonger_12 rfl (.tail _ (.tail _ (.tail _ (.tail _ (.tail _ (.head _)))))) ?_
      refine r_ireturn dX12_whyNotLonger_14 rfl ?_
      refine ⟨?_, rfl, rfl, rfl, rfl⟩
      unfold bk_lref
      rw [if_pos hk0]
