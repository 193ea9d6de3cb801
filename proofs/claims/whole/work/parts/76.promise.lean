set_option maxHeartbeats 4000000 in
set_option maxRecDepth 100000 in
theorem tX12_promise {l : Launch} {g : q_G} {n : Nat} {P : q_P} {X : q_X} {Y : q_Y} (hm : isMod n P) {C : q_X} {b : Nat} (hR : RB C b (xv X 468)) (hO : bOk C b) (hT : xv C (b + 15) 0 ≤ 80) (hD : 0 ≤ xv X 467 1 ∧ xv X 467 1 ≤ 8) {k y a lk : Int} (hk : q_in k) (hy : q_in y) (ha : q_in a) (hl : lk = 0 ∨ lk = 1) : q_Met l g mX12_promise 3 [.ref (g.1 + 467), .int (zi k), .int (zi y), .int (zi a), .int (zi lk)] n P X Y (q_gi (fun r' n' P' X' Y' => if f_promOk C b k y a then rDP (pr_add C (b + 4) k y a lk) b (xv C (b + 4) 0) n P X Y r' n' P' X' Y' else rNP n P X Y r' n' P' X' Y')) := by
  obtain ⟨m0, m2, m3, m8, m9, m14, m15, m16, m17, m18, m20, m22, m25, hnm9⟩ := id hm
  obtain ⟨o0, o1, o2, o3, o4, o5, o6, o10, oc, op0, opz, opi, om0, omi, olim⟩ := id hO
  refine q_enter (L := [(0, .ref (g.1 + 467)), (1, .int (zi k)), (2, .int (zi y)), (3, .int (zi a)), (4, .int (zi lk))]) (by decide) (Nat.le_of_ble_eq_true rfl) rfl ?_
  by_cases hh : bk_has C b k
  · obtain ⟨kn, rfl⟩ : ∃ kn : Nat, k = (kn : Int) := ⟨k.toNat, by omega⟩
    have hkk : (kn : Int) < xv C b 10 := hh.2
    obtain ⟨m, hmm⟩ : ∃ m : Nat, xv C (b + 4) 0 = (m : Int) := ⟨(xv C (b + 4) 0).toNat, by omega⟩
    refine r_aload_n (i := 0) (pc' := 1) dX12_promise_0 rfl rfl (.head _) ?_
    refine r_iload_n (i := 1) (pc' := 2) dX12_promise_1 rfl rfl (.tail _ (.head _)) ?_
    refine r_V1p (ci := 12) (pc' := 5) dX12_promise_2 rfl lX12_206 rfl (by decide) (Nat.le_of_ble_eq_true rfl) (by first | assumption | rfl) (by omega) (tX12_isContract (by assumption) (by assumption) (by assumption) (by omega)) ?_
    refine r_bif_eq (t := 59) (f := 8) dX12_promise_5 (by decide) rfl (fun h5 => ?_) (fun h5 => ?_)
    · exfalso; omega
    · by_cases hok : f_promOk C b (kn : Int) y a
      · have hok2 := hok
        simp only [f_promOk, Int.toNat_natCast] at hok2
        refine r_aload_n (i := 0) (pc' := 9) dX12_promise_8 rfl rfl (.head _) ?_
        refine r_iload_n (i := 1) (pc' := 10) dX12_promise_9 rfl rfl (.tail _ (.head _)) ?_
        refine r_V1p (ci := 12) (pc' := 13) dX12_promise_10 rfl lX12_209 rfl (by decide) (Nat.le_of_ble_eq_true rfl) (by first | assumption | rfl) (by omega) (tX12_isOpen hm hR hO hkk) ?_
        refine r_bif_eq (t := 59) (f := 16) dX12_promise_13 (by decide) rfl (fun h13 => ?_) (fun h13 => ?_)
        · exfalso; omega
        · refine r_iload_n (i := 2) (pc' := 17) dX12_promise_16 rfl rfl (.tail _ (.tail _ (.head _))) ?_
          refine r_i2l (pc' := 18) dX12_promise_17 rfl rfl ?_
          refine r_aload_n (i := 0) (pc' := 19) dX12_promise_18 rfl rfl (.head _) ?_
          refine r_getR (pc' := 22) dX12_promise_19 rfl fX12_3 rfl (by first | assumption | rfl) (by omega) (by assumption) ?_
          refine r_iconst (pc' := 23) dX12_promise_22 rfl ?_
          refine r_iaload (pc' := 24) dX12_promise_23 rfl (by first | assumption | rfl) (by omega) (by omega) (by omega) (by first | decide | omega) (show Int.toNat 0 = 0 from rfl) ?_
          rw [hR.z 0 (by decide)]
          refine r_i2l (pc' := 25) dX12_promise_24 rfl rfl ?_
          refine r_ldc2 (pc' := 28) dX12_promise_25 rfl kX12_204 ?_
          refine r_S3p (pc' := 31) dX12_promise_28 rfl lX12_68 (by decide) (Nat.le_of_ble_eq_true rfl) (tX12_isIn (by first | exact li_z (by omega) | exact li_z (xv_in _ _ _) | rfl) (by first | exact li_z (by omega) | exact li_z (xv_in _ _ _) | rfl) (by first | exact li_z (by omega) | exact li_z (xv_in _ _ _) | rfl)) ?_
          try simp only [i64_0, i64_1, i64_2, i64_3, i64_4, i64_5, i64_6, i64_7, i64_10, i64_19, i64_40, i64_100, i64_364, i64_9999, i64_99999, i64_999999, i64_m999999]
          refine r_bif_eq (t := 59) (f := 34) dX12_promise_31 (by decide) rfl (fun h31 => ?_) (fun h31 => ?_)
          · exfalso; omega
          · refine r_iload_n (i := 3) (pc' := 35) dX12_promise_34 rfl rfl (.tail _ (.tail _ (.tail _ (.head _)))) ?_
            refine r_i2l (pc' := 36) dX12_promise_35 rfl rfl ?_
            refine r_lconst (pc' := 37) (z := 1) dX12_promise_36 rfl rfl ?_
            refine r_ldc2 (pc' := 40) dX12_promise_37 rfl kX12_287 ?_
            refine r_S3p (pc' := 43) dX12_promise_40 rfl lX12_68 (by decide) (Nat.le_of_ble_eq_true rfl) (tX12_isIn (by first | exact li_z (by omega) | exact li_z (xv_in _ _ _) | rfl) (by first | exact li_z (by omega) | exact li_z (xv_in _ _ _) | rfl) (by first | exact li_z (by omega) | exact li_z (xv_in _ _ _) | rfl)) ?_
            try simp only [i64_0, i64_1, i64_2, i64_3, i64_4, i64_5, i64_6, i64_7, i64_10, i64_19, i64_40, i64_100, i64_364, i64_9999, i64_99999, i64_999999, i64_m999999]
            refine r_bif_eq (t := 59) (f := 46) dX12_promise_43 (by decide) rfl (fun h43 => ?_) (fun h43 => ?_)
            · exfalso; omega
            · refine r_aload_n (i := 0) (pc' := 47) dX12_promise_46 rfl rfl (.head _) ?_
              refine r_getR (pc' := 50) dX12_promise_47 rfl fX12_3 rfl (by first | assumption | rfl) (by omega) (by assumption) ?_
              refine r_sipush (pc' := 53) dX12_promise_50 rfl (by decide) ?_
              refine r_iaload (pc' := 54) dX12_promise_53 rfl (by first | assumption | rfl) (by omega) (by omega) (by omega) (by first | decide | omega) (show Int.toNat 3571 = 3571 from rfl) ?_
              rw [hR.pm]
              refine r_bipush (pc' := 56) dX12_promise_54 rfl (by decide) ?_
              refine r_icmp_ne (t := 61) (f := 59) dX12_promise_56 (by decide) rfl (by first | omega | exact xv_in _ _ _) (by first | omega | exact xv_in _ _ _) (fun h56 => ?_) (fun h56 => ?_)
              · refine r_aload_n (i := 0) (pc' := 62) dX12_promise_61 rfl rfl (.head _) ?_
                refine r_iconst (pc' := 63) dX12_promise_62 rfl ?_
                refine r_V1gv (ci := 12) (pc' := 66) dX12_promise_63 rfl lX12_72 rfl (by decide) (Nat.le_of_ble_eq_true rfl) (by first | assumption | rfl) (by omega) (tX12_deedOf hm (s := 0) (by omega) hD) (fun n63 P63 X63 Y63 e63 le63 => ?_)
                obtain ⟨hg1_63, hg2_63, hg3_63, hg4_63⟩ := e63
                have g1_63 := Eq.symm hg1_63
                have g2_63 := Eq.symm hg2_63
                have g3_63 := Eq.symm hg3_63
                have g4_63 := Eq.symm hg4_63
                clear hg1_63 hg2_63 hg3_63 hg4_63
                subst g1_63 g2_63 g3_63 g4_63
                have hRd := RB.dd hR hO hT hD
                have hrd : rOut (dd X 0) (dd X 0) := rOut.rfl
                generalize hXd : dd X 0 = Xd at hRd hrd ⊢
                refine r_sipush (pc' := 69) dX12_promise_66 rfl (by decide) ?_
                refine r_iconst (pc' := 70) dX12_promise_69 rfl ?_
                refine r_aload_n (i := 0) (pc' := 71) dX12_promise_70 rfl rfl (.head _) ?_
                refine r_getR (pc' := 74) dX12_promise_71 rfl fX12_3 rfl (by first | assumption | rfl) (by omega) (by assumption) ?_
                refine r_sipush (pc' := 77) dX12_promise_74 rfl (by decide) ?_
                refine r_iaload (pc' := 78) dX12_promise_77 rfl (by first | assumption | rfl) (by omega) (by omega) (by omega) (by first | decide | omega) (show Int.toNat 3571 = 3571 from rfl) ?_
                rw [hRd.pm.trans hmm]
                refine r_imul (pc' := 79) dX12_promise_78 rfl ?_
                refine r_iadd (pc' := 80) dX12_promise_79 rfl ?_
                refine r_istore (pc' := 82) dX12_promise_80 rfl rfl (.s1 (.s1 (.s1 (.s1 (.s1 .nil rfl rfl rfl) rfl rfl rfl) rfl rfl rfl) rfl rfl rfl) rfl rfl rfl) ?_
                refine r_aload_n (i := 0) (pc' := 83) dX12_promise_82 rfl rfl (.head _) ?_
                refine r_getR (pc' := 86) dX12_promise_83 rfl fX12_3 rfl (by first | assumption | rfl) (by omega) (by assumption) ?_
                refine r_iload (pc' := 88) dX12_promise_86 rfl (.tail _ (.tail _ (.tail _ (.tail _ (.tail _ (.head _)))))) ?_
                refine r_iload_n (i := 1) (pc' := 89) dX12_promise_88 rfl rfl (.tail _ (.head _)) ?_
                refine r_iastore (pc' := 90) dX12_promise_89 rfl (by first | assumption | rfl) (by omega) (by omega) (by omega) (by first | decide | omega) (show _ = 3620 + 5 * m by omega) ?_
                refine r_aload_n (i := 0) (pc' := 91) dX12_promise_90 rfl rfl (.head _) ?_
                refine r_getR (pc' := 94) dX12_promise_91 rfl fX12_3 rfl (by first | assumption | rfl) (by omega) (by assumption) ?_
                refine r_iload (pc' := 96) dX12_promise_94 rfl (.tail _ (.tail _ (.tail _ (.tail _ (.tail _ (.head _)))))) ?_
                refine r_iconst (pc' := 97) dX12_promise_96 rfl ?_
                refine r_iadd (pc' := 98) dX12_promise_97 rfl ?_
                refine r_iload_n (i := 2) (pc' := 99) dX12_promise_98 rfl rfl (.tail _ (.tail _ (.head _))) ?_
                refine r_iastore (pc' := 100) dX12_promise_99 rfl (by first | assumption | rfl) (by omega) (by omega) (by omega) (by first | decide | omega) (show _ = 3620 + 5 * m + 1 by omega) ?_
                refine r_aload_n (i := 0) (pc' := 101) dX12_promise_100 rfl rfl (.head _) ?_
                refine r_getR (pc' := 104) dX12_promise_101 rfl fX12_3 rfl (by first | assumption | rfl) (by omega) (by assumption) ?_
                refine r_iload (pc' := 106) dX12_promise_104 rfl (.tail _ (.tail _ (.tail _ (.tail _ (.tail _ (.head _)))))) ?_
                refine r_iconst (pc' := 107) dX12_promise_106 rfl ?_
                refine r_iadd (pc' := 108) dX12_promise_107 rfl ?_
                refine r_iload_n (i := 3) (pc' := 109) dX12_promise_108 rfl rfl (.tail _ (.tail _ (.tail _ (.head _)))) ?_
                refine r_iastore (pc' := 110) dX12_promise_109 rfl (by first | assumption | rfl) (by omega) (by omega) (by omega) (by first | decide | omega) (show _ = 3620 + 5 * m + 2 by omega) ?_
                refine r_aload_n (i := 0) (pc' := 111) dX12_promise_110 rfl rfl (.head _) ?_
                refine r_getR (pc' := 114) dX12_promise_111 rfl fX12_3 rfl (by first | assumption | rfl) (by omega) (by assumption) ?_
                refine r_iload (pc' := 116) dX12_promise_114 rfl (.tail _ (.tail _ (.tail _ (.tail _ (.tail _ (.head _)))))) ?_
                refine r_iconst (pc' := 117) dX12_promise_116 rfl ?_
                refine r_iadd (pc' := 118) dX12_promise_117 rfl ?_
                refine r_iload (pc' := 120) dX12_promise_118 rfl (.tail _ (.tail _ (.tail _ (.tail _ (.head _))))) ?_
                refine r_if_eq (t := 127) (f := 123) dX12_promise_120 (by decide) rfl (by first | omega | exact xv_in _ _ _) (fun h120 => ?_) (fun h120 => ?_)
                · refine r_iconst (pc' := 128) dX12_promise_127 rfl ?_
                  refine r_iastore (pc' := 129) dX12_promise_128 rfl (by first | assumption | rfl) (by omega) (by omega) (by omega) (by first | decide | omega) (show _ = 3620 + 5 * m + 3 by omega) ?_
                  refine r_aload_n (i := 0) (pc' := 130) dX12_promise_129 rfl rfl (.head _) ?_
                  refine r_getR (pc' := 133) dX12_promise_130 rfl fX12_3 rfl (by first | assumption | rfl) (by omega) (by assumption) ?_
                  refine r_iload (pc' := 135) dX12_promise_133 rfl (.tail _ (.tail _ (.tail _ (.tail _ (.tail _ (.head _)))))) ?_
                  refine r_iconst (pc' := 136) dX12_promise_135 rfl ?_
                  refine r_iadd (pc' := 137) dX12_promise_136 rfl ?_
                  refine r_iconst (pc' := 138) dX12_promise_137 rfl ?_
                  refine r_iastore (pc' := 139) dX12_promise_138 rfl (by first | assumption | rfl) (by omega) (by omega) (by omega) (by first | decide | omega) (show _ = 3620 + 5 * m + 4 by omega) ?_
                  refine r_aload_n (i := 0) (pc' := 140) dX12_promise_139 rfl rfl (.head _) ?_
                  refine r_getR (pc' := 143) dX12_promise_140 rfl fX12_3 rfl (by first | assumption | rfl) (by omega) (by assumption) ?_
                  refine r_sipush (pc' := 146) dX12_promise_143 rfl (by decide) ?_
                  refine r_dup2 (pc' := 147) dX12_promise_146 rfl rfl rfl ?_
                  refine r_iaload (pc' := 148) dX12_promise_147 rfl (by first | assumption | rfl) (by omega) (by omega) (by omega) (by first | decide | omega) (show Int.toNat 3571 = 3571 from rfl) ?_
                  rw [xv_up_ne _ _ (by omega), xv_up_ne _ _ (by omega), xv_up_ne _ _ (by omega), xv_up_ne _ _ (by omega), xv_up_ne _ _ (by omega), hRd.pm.trans hmm]
                  refine r_iconst (pc' := 149) dX12_promise_148 rfl ?_
                  refine r_iadd (pc' := 150) dX12_promise_149 rfl ?_
                  refine r_iastore (pc' := 151) dX12_promise_150 rfl (by first | assumption | rfl) (by omega) (by omega) (by omega) (by first | decide | omega) (show Int.toNat 3571 = 3571 from rfl) ?_
                  refine r_aload_n (i := 0) (pc' := 152) dX12_promise_151 rfl rfl (.head _) ?_
                  refine r_getR (pc' := 155) dX12_promise_152 rfl fX12_3 rfl (by first | assumption | rfl) (by omega) (by assumption) ?_
                  refine r_sipush (pc' := 158) dX12_promise_155 rfl (by decide) ?_
                  refine r_iaload (pc' := 159) dX12_promise_158 rfl (by first | assumption | rfl) (by omega) (by omega) (by omega) (by first | decide | omega) (show Int.toNat 3571 = 3571 from rfl) ?_
                  rw [xv_up_same _ _ _ (by omega)]
                  refine r_iconst (pc' := 160) dX12_promise_159 rfl ?_
                  refine r_isub (pc' := 161) dX12_promise_160 rfl ?_
                  refine r_ireturn dX12_promise_161 rfl ?_
                  refine ⟨_, rfl, ?_⟩
                  dsimp only
                  rw [if_pos hok]
                  refine ⟨rfl, rfl, rfl, by rw [hXd]; exact (((((hrd.up (by omega)).up (by omega)).up (by omega)).up (by omega)).up (by omega)).up (by omega), ?_, by omega⟩
                  first
                    | (obtain rfl : lk = 0 := by omega
                       exact hRd.add hO hT hmm (by omega) _ _ _ _)
                    | (obtain rfl : lk = 1 := by omega
                       exact hRd.add hO hT hmm (by omega) _ _ _ _)
                · refine r_iconst (pc' := 124) dX12_promise_123 rfl ?_
                  refine r_goto (t := 128) dX12_promise_124 (by decide) ?_
                  refine r_iastore (pc' := 129) dX12_promise_128 rfl (by first | assumption | rfl) (by omega) (by omega) (by omega) (by first | decide | omega) (show _ = 3620 + 5 * m + 3 by omega) ?_
                  refine r_aload_n (i := 0) (pc' := 130) dX12_promise_129 rfl rfl (.head _) ?_
                  refine r_getR (pc' := 133) dX12_promise_130 rfl fX12_3 rfl (by first | assumption | rfl) (by omega) (by assumption) ?_
                  refine r_iload (pc' := 135) dX12_promise_133 rfl (.tail _ (.tail _ (.tail _ (.tail _ (.tail _ (.head _)))))) ?_
                  refine r_iconst (pc' := 136) dX12_promise_135 rfl ?_
                  refine r_iadd (pc' := 137) dX12_promise_136 rfl ?_
                  refine r_iconst (pc' := 138) dX12_promise_137 rfl ?_
                  refine r_iastore (pc' := 139) dX12_promise_138 rfl (by first | assumption | rfl) (by omega) (by omega) (by omega) (by first | decide | omega) (show _ = 3620 + 5 * m + 4 by omega) ?_
                  refine r_aload_n (i := 0) (pc' := 140) dX12_promise_139 rfl rfl (.head _) ?_
                  refine r_getR (pc' := 143) dX12_promise_140 rfl fX12_3 rfl (by first | assumption | rfl) (by omega) (by assumption) ?_
                  refine r_sipush (pc' := 146) dX12_promise_143 rfl (by decide) ?_
                  refine r_dup2 (pc' := 147) dX12_promise_146 rfl rfl rfl ?_
                  refine r_iaload (pc' := 148) dX12_promise_147 rfl (by first | assumption | rfl) (by omega) (by omega) (by omega) (by first | decide | omega) (show Int.toNat 3571 = 3571 from rfl) ?_
                  rw [xv_up_ne _ _ (by omega), xv_up_ne _ _ (by omega), xv_up_ne _ _ (by omega), xv_up_ne _ _ (by omega), xv_up_ne _ _ (by omega), hRd.pm.trans hmm]
                  refine r_iconst (pc' := 149) dX12_promise_148 rfl ?_
                  refine r_iadd (pc' := 150) dX12_promise_149 rfl ?_
                  refine r_iastore (pc' := 151) dX12_promise_150 rfl (by first | assumption | rfl) (by omega) (by omega) (by omega) (by first | decide | omega) (show Int.toNat 3571 = 3571 from rfl) ?_
                  refine r_aload_n (i := 0) (pc' := 152) dX12_promise_151 rfl rfl (.head _) ?_
                  refine r_getR (pc' := 155) dX12_promise_152 rfl fX12_3 rfl (by first | assumption | rfl) (by omega) (by assumption) ?_
                  refine r_sipush (pc' := 158) dX12_promise_155 rfl (by decide) ?_
                  refine r_iaload (pc' := 159) dX12_promise_158 rfl (by first | assumption | rfl) (by omega) (by omega) (by omega) (by first | decide | omega) (show Int.toNat 3571 = 3571 from rfl) ?_
                  rw [xv_up_same _ _ _ (by omega)]
                  refine r_iconst (pc' := 160) dX12_promise_159 rfl ?_
                  refine r_isub (pc' := 161) dX12_promise_160 rfl ?_
                  refine r_ireturn dX12_promise_161 rfl ?_
                  refine ⟨_, rfl, ?_⟩
                  dsimp only
                  rw [if_pos hok]
                  refine ⟨rfl, rfl, rfl, by rw [hXd]; exact (((((hrd.up (by omega)).up (by omega)).up (by omega)).up (by omega)).up (by omega)).up (by omega), ?_, by omega⟩
                  first
                    | (obtain rfl : lk = 0 := by omega
                       exact hRd.add hO hT hmm (by omega) _ _ _ _)
                    | (obtain rfl : lk = 1 := by omega
                       exact hRd.add hO hT hmm (by omega) _ _ _ _)
              · exfalso; omega
      · have hok2 := hok
        simp only [f_promOk, Int.toNat_natCast] at hok2
        refine r_aload_n (i := 0) (pc' := 9) dX12_promise_8 rfl rfl (.head _) ?_
        refine r_iload_n (i := 1) (pc' := 10) dX12_promise_9 rfl rfl (.tail _ (.head _)) ?_
        refine r_V1p (ci := 12) (pc' := 13) dX12_promise_10 rfl lX12_209 rfl (by decide) (Nat.le_of_ble_eq_true rfl) (by first | assumption | rfl) (by omega) (tX12_isOpen hm hR hO hkk) ?_
        refine r_bif_eq (t := 59) (f := 16) dX12_promise_13 (by decide) rfl (fun h13 => ?_) (fun h13 => ?_)
        · refine r_iconst (pc' := 60) dX12_promise_59 rfl ?_
          refine r_ireturn dX12_promise_60 rfl ?_
          refine ⟨_, rfl, ?_⟩
          dsimp only
          rw [if_neg hok]
          exact ⟨rfl, rfl, rfl, rfl, rfl⟩
        · refine r_iload_n (i := 2) (pc' := 17) dX12_promise_16 rfl rfl (.tail _ (.tail _ (.head _))) ?_
          refine r_i2l (pc' := 18) dX12_promise_17 rfl rfl ?_
          refine r_aload_n (i := 0) (pc' := 19) dX12_promise_18 rfl rfl (.head _) ?_
          refine r_getR (pc' := 22) dX12_promise_19 rfl fX12_3 rfl (by first | assumption | rfl) (by omega) (by assumption) ?_
          refine r_iconst (pc' := 23) dX12_promise_22 rfl ?_
          refine r_iaload (pc' := 24) dX12_promise_23 rfl (by first | assumption | rfl) (by omega) (by omega) (by omega) (by first | decide | omega) (show Int.toNat 0 = 0 from rfl) ?_
          rw [hR.z 0 (by decide)]
          refine r_i2l (pc' := 25) dX12_promise_24 rfl rfl ?_
          refine r_ldc2 (pc' := 28) dX12_promise_25 rfl kX12_204 ?_
          refine r_S3p (pc' := 31) dX12_promise_28 rfl lX12_68 (by decide) (Nat.le_of_ble_eq_true rfl) (tX12_isIn (by first | exact li_z (by omega) | exact li_z (xv_in _ _ _) | rfl) (by first | exact li_z (by omega) | exact li_z (xv_in _ _ _) | rfl) (by first | exact li_z (by omega) | exact li_z (xv_in _ _ _) | rfl)) ?_
          try simp only [i64_0, i64_1, i64_2, i64_3, i64_4, i64_5, i64_6, i64_7, i64_10, i64_19, i64_40, i64_100, i64_364, i64_9999, i64_99999, i64_999999, i64_m999999]
          refine r_bif_eq (t := 59) (f := 34) dX12_promise_31 (by decide) rfl (fun h31 => ?_) (fun h31 => ?_)
          · refine r_iconst (pc' := 60) dX12_promise_59 rfl ?_
            refine r_ireturn dX12_promise_60 rfl ?_
            refine ⟨_, rfl, ?_⟩
            dsimp only
            rw [if_neg hok]
            exact ⟨rfl, rfl, rfl, rfl, rfl⟩
          · refine r_iload_n (i := 3) (pc' := 35) dX12_promise_34 rfl rfl (.tail _ (.tail _ (.tail _ (.head _)))) ?_
            refine r_i2l (pc' := 36) dX12_promise_35 rfl rfl ?_
            refine r_lconst (pc' := 37) (z := 1) dX12_promise_36 rfl rfl ?_
            refine r_ldc2 (pc' := 40) dX12_promise_37 rfl kX12_287 ?_
            refine r_S3p (pc' := 43) dX12_promise_40 rfl lX12_68 (by decide) (Nat.le_of_ble_eq_true rfl) (tX12_isIn (by first | exact li_z (by omega) | exact li_z (xv_in _ _ _) | rfl) (by first | exact li_z (by omega) | exact li_z (xv_in _ _ _) | rfl) (by first | exact li_z (by omega) | exact li_z (xv_in _ _ _) | rfl)) ?_
            try simp only [i64_0, i64_1, i64_2, i64_3, i64_4, i64_5, i64_6, i64_7, i64_10, i64_19, i64_40, i64_100, i64_364, i64_9999, i64_99999, i64_999999, i64_m999999]
            refine r_bif_eq (t := 59) (f := 46) dX12_promise_43 (by decide) rfl (fun h43 => ?_) (fun h43 => ?_)
            · refine r_iconst (pc' := 60) dX12_promise_59 rfl ?_
              refine r_ireturn dX12_promise_60 rfl ?_
              refine ⟨_, rfl, ?_⟩
              dsimp only
              rw [if_neg hok]
              exact ⟨rfl, rfl, rfl, rfl, rfl⟩
            · refine r_aload_n (i := 0) (pc' := 47) dX12_promise_46 rfl rfl (.head _) ?_
              refine r_getR (pc' := 50) dX12_promise_47 rfl fX12_3 rfl (by first | assumption | rfl) (by omega) (by assumption) ?_
              refine r_sipush (pc' := 53) dX12_promise_50 rfl (by decide) ?_
              refine r_iaload (pc' := 54) dX12_promise_53 rfl (by first | assumption | rfl) (by omega) (by omega) (by omega) (by first | decide | omega) (show Int.toNat 3571 = 3571 from rfl) ?_
              rw [hR.pm]
              refine r_bipush (pc' := 56) dX12_promise_54 rfl (by decide) ?_
              refine r_icmp_ne (t := 61) (f := 59) dX12_promise_56 (by decide) rfl (by first | omega | exact xv_in _ _ _) (by first | omega | exact xv_in _ _ _) (fun h56 => ?_) (fun h56 => ?_)
              · exfalso; omega
              · refine r_iconst (pc' := 60) dX12_promise_59 rfl ?_
                refine r_ireturn dX12_promise_60 rfl ?_
                refine ⟨_, rfl, ?_⟩
                dsimp only
                rw [if_neg hok]
                exact ⟨rfl, rfl, rfl, rfl, rfl⟩
  · refine r_aload_n (i := 0) (pc' := 1) dX12_promise_0 rfl rfl (.head _) ?_
    refine r_iload_n (i := 1) (pc' := 2) dX12_promise_1 rfl rfl (.tail _ (.head _)) ?_
    refine r_V1p (ci := 12) (pc' := 5) dX12_promise_2 rfl lX12_206 rfl (by decide) (Nat.le_of_ble_eq_true rfl) (by first | assumption | rfl) (by omega) (tX12_isContract (by assumption) (by assumption) (by assumption) (by omega)) ?_
    refine r_bif_eq (t := 59) (f := 8) dX12_promise_5 (by decide) rfl (fun h5 => ?_) (fun h5 => ?_)
    · refine r_iconst (pc' := 60) dX12_promise_59 rfl ?_
      refine r_ireturn dX12_promise_60 rfl ?_
      have hok : ¬ f_promOk C b k y a := fun q => hh q.1
      refine ⟨_, rfl, ?_⟩
      dsimp only
      rw [if_neg hok]
      exact ⟨rfl, rfl, rfl, rfl, rfl⟩
    · exfalso; omega
