def rDP (C' : q_X) (b : Nat) (a : Int) (n : Nat) (P : q_P) (X : q_X) (Y : q_Y) (r' : Int) (n' : Nat) (P' : q_P) (X' : q_X) (Y' : q_Y) : Prop := n' = n ∧ P' = P ∧ Y' = Y ∧ rOut (dd X 0) X' ∧ RB C' b (xv X' 468) ∧ r' = a
def rNP (n : Nat) (P : q_P) (X : q_X) (Y : q_Y) (r' : Int) (n' : Nat) (P' : q_P) (X' : q_X) (Y' : q_Y) : Prop := n' = n ∧ P' = P ∧ Y' = Y ∧ X' = X ∧ r' = -1
set_option maxHeartbeats 4000000 in
set_option maxRecDepth 100000 in
theorem tX12_days {l : Launch} {g : q_G} {n : Nat} {P : q_P} {X : q_X} {Y : q_Y} (hm : isMod n P) {C : q_X} {b : Nat} (hR : RB C b (xv X 468)) (hO : bOk C b) (hT : xv C (b + 15) 0 ≤ 80) (hD : 0 ≤ xv X 467 1 ∧ xv X 467 1 ≤ 8) {m : Int} (hq : q_in m) : q_Met l g mX12_days 2 [.ref (g.1 + 467), .int (zi m)] n P X Y (q_gi (fun r' n' P' X' Y' => if 1 ≤ m ∧ m ≤ 364 - xv C b 1 then rDE (q_up C b 1 (zi (xv C b 1 + m))) b (xv C b 1 + m) n P X Y r' n' P' X' Y' else rNO (4) n P X Y r' n' P' X' Y')) := by
  obtain ⟨m0, m2, m3, m8, m9, m14, m15, m16, m17, m18, m20, m22, m25, hnm9⟩ := id hm
  obtain ⟨o0, o1, o2, o3, o4, o5, o6, o10, oc, op0, opz, opi, om0, omi, olim⟩ := id hO
  refine q_enter (L := [(0, .ref (g.1 + 467)), (1, .int (zi m))]) (by decide) (Nat.le_of_ble_eq_true rfl) rfl ?_
  by_cases hok : 1 ≤ m ∧ m ≤ 364 - xv C b 1
  · refine r_aload_n (i := 0) (pc' := 1) dX12_days_0 rfl rfl (.head _) ?_
    refine r_iload_n (i := 1) (pc' := 2) dX12_days_1 rfl rfl (.tail _ (.head _)) ?_
    refine r_iconst (pc' := 3) dX12_days_2 rfl ?_
    refine r_icmp_lt (t := 20) (f := 6) dX12_days_3 (by decide) rfl (by first | omega | exact xv_in _ _ _) (by first | omega | exact xv_in _ _ _) (fun h3 => ?_) (fun h3 => ?_)
    · exfalso; omega
    · refine r_iload_n (i := 1) (pc' := 7) dX12_days_6 rfl rfl (.tail _ (.head _)) ?_
      refine r_sipush (pc' := 10) dX12_days_7 rfl (by decide) ?_
      refine r_aload_n (i := 0) (pc' := 11) dX12_days_10 rfl rfl (.head _) ?_
      refine r_getR (pc' := 14) dX12_days_11 rfl fX12_3 rfl (by first | assumption | rfl) (by omega) (by assumption) ?_
      refine r_iconst (pc' := 15) dX12_days_14 rfl ?_
      refine r_iaload (pc' := 16) dX12_days_15 rfl (by first | assumption | rfl) (by omega) (by omega) (by omega) (by first | decide | omega) (show Int.toNat 1 = 1 from rfl) ?_
      rw [hR.z 1 (by decide)]
      refine r_isub (pc' := 17) dX12_days_16 rfl ?_
      refine r_icmp_le (t := 24) (f := 20) dX12_days_17 (by decide) rfl (by first | omega | exact xv_in _ _ _) (by first | omega | exact xv_in _ _ _) (fun h17 => ?_) (fun h17 => ?_)
      · refine r_iconst (pc' := 25) dX12_days_24 rfl ?_
        refine r_V1gi (ci := 12) (pc' := 28) dX12_days_25 rfl lX12_281 rfl (by decide) (Nat.le_of_ble_eq_true rfl) (by first | assumption | rfl) (by omega) (tX12_refuses hm (by omega)) (fun r25 n25 P25 X25 Y25 e25 le25 => ?_)
        obtain ⟨h1v, h2v, h3v, h4v, hr25⟩ := e25
        rw [if_pos (by omega)] at hr25
        subst h1v h2v h3v h4v hr25
        refine r_if_eq (t := 33) (f := 31) dX12_days_28 (by decide) rfl (by first | omega | exact xv_in _ _ _) (fun h28 => ?_) (fun h28 => ?_)
        · refine r_aload_n (i := 0) (pc' := 34) dX12_days_33 rfl rfl (.head _) ?_
          refine r_iconst (pc' := 35) dX12_days_34 rfl ?_
          refine r_V1gv (ci := 12) (pc' := 38) dX12_days_35 rfl lX12_72 rfl (by decide) (Nat.le_of_ble_eq_true rfl) (by first | assumption | rfl) (by omega) (tX12_deedOf hm (s := 0) (by omega) (by rw [xv_up_ne _ _ (by omega)]; exact hD)) (fun n35 P35 X35 Y35 e35 le35 => ?_)
          obtain ⟨hg1_35, hg2_35, hg3_35, hg4_35⟩ := e35
          have g1_35 := Eq.symm hg1_35
          have g2_35 := Eq.symm hg2_35
          have g3_35 := Eq.symm hg3_35
          have g4_35 := Eq.symm hg4_35
          clear hg1_35 hg2_35 hg3_35 hg4_35
          subst g1_35 g2_35 g3_35 g4_35
          have hRd := RB.dd (X := q_up X 467 19 (zi 0)) (by rw [xv_up_row _ _ _ (by omega)]; exact hR) hO hT (by rw [xv_up_ne _ _ (by omega)]; exact hD)
          have hrd : rOut (dd (q_up X 467 19 (zi 0)) 0) (dd (q_up X 467 19 (zi 0)) 0) := rOut.rfl
          generalize hXd : dd (q_up X 467 19 (zi 0)) 0 = Xd at hRd hrd ⊢
          refine r_aload_n (i := 0) (pc' := 39) dX12_days_38 rfl rfl (.head _) ?_
          refine r_getR (pc' := 42) dX12_days_39 rfl fX12_3 rfl (by first | assumption | rfl) (by omega) (by assumption) ?_
          refine r_iconst (pc' := 43) dX12_days_42 rfl ?_
          refine r_dup2 (pc' := 44) dX12_days_43 rfl rfl rfl ?_
          refine r_iaload (pc' := 45) dX12_days_44 rfl (by first | assumption | rfl) (by omega) (by omega) (by omega) (by first | decide | omega) (show Int.toNat 1 = 1 from rfl) ?_
          rw [hRd.z 1 (by decide)]
          refine r_iload_n (i := 1) (pc' := 46) dX12_days_45 rfl rfl (.tail _ (.head _)) ?_
          refine r_iadd (pc' := 47) dX12_days_46 rfl ?_
          refine r_iastore (pc' := 48) dX12_days_47 rfl (by first | assumption | rfl) (by omega) (by omega) (by omega) (by first | decide | omega) (show Int.toNat 1 = 1 from rfl) ?_
          refine r_aload_n (i := 0) (pc' := 49) dX12_days_48 rfl rfl (.head _) ?_
          refine r_getR (pc' := 52) dX12_days_49 rfl fX12_3 rfl (by first | assumption | rfl) (by omega) (by assumption) ?_
          refine r_iconst (pc' := 53) dX12_days_52 rfl ?_
          refine r_iaload (pc' := 54) dX12_days_53 rfl (by first | assumption | rfl) (by omega) (by omega) (by omega) (by first | decide | omega) (show Int.toNat 1 = 1 from rfl) ?_
          rw [xv_up_same _ _ _ (by omega)]
          refine r_ireturn dX12_days_54 rfl ?_
          refine ⟨_, rfl, ?_⟩
          dsimp only
          rw [if_pos hok]
          exact ⟨rfl, rfl, rfl, by rw [hXd]; exact hrd.up (by omega), hRd.uz (by omega) _, rfl⟩
        · exfalso; omega
      · exfalso; omega
  · refine r_aload_n (i := 0) (pc' := 1) dX12_days_0 rfl rfl (.head _) ?_
    refine r_iload_n (i := 1) (pc' := 2) dX12_days_1 rfl rfl (.tail _ (.head _)) ?_
    refine r_iconst (pc' := 3) dX12_days_2 rfl ?_
    refine r_icmp_lt (t := 20) (f := 6) dX12_days_3 (by decide) rfl (by first | omega | exact xv_in _ _ _) (by first | omega | exact xv_in _ _ _) (fun h3 => ?_) (fun h3 => ?_)
    · refine r_iconst (pc' := 21) dX12_days_20 rfl ?_
      refine r_goto (t := 25) dX12_days_21 (by decide) ?_
      refine r_V1gi (ci := 12) (pc' := 28) dX12_days_25 rfl lX12_281 rfl (by decide) (Nat.le_of_ble_eq_true rfl) (by first | assumption | rfl) (by omega) (tX12_refuses hm (by omega)) (fun r25 n25 P25 X25 Y25 e25 le25 => ?_)
      obtain ⟨h1v, h2v, h3v, h4v, hr25⟩ := e25
      rw [if_neg (by omega)] at hr25
      subst h1v h2v h3v h4v hr25
      refine r_if_eq (t := 33) (f := 31) dX12_days_28 (by decide) rfl (by first | omega | exact xv_in _ _ _) (fun h28 => ?_) (fun h28 => ?_)
      · exfalso; omega
      · refine r_iconst (pc' := 32) dX12_days_31 rfl ?_
        refine r_ireturn dX12_days_32 rfl ?_
        refine ⟨_, rfl, ?_⟩
        dsimp only
        rw [if_neg hok]
        exact ⟨rfl, rfl, rfl, rfl, rfl⟩
    · refine r_iload_n (i := 1) (pc' := 7) dX12_days_6 rfl rfl (.tail _ (.head _)) ?_
      refine r_sipush (pc' := 10) dX12_days_7 rfl (by decide) ?_
      refine r_aload_n (i := 0) (pc' := 11) dX12_days_10 rfl rfl (.head _) ?_
      refine r_getR (pc' := 14) dX12_days_11 rfl fX12_3 rfl (by first | assumption | rfl) (by omega) (by assumption) ?_
      refine r_iconst (pc' := 15) dX12_days_14 rfl ?_
      refine r_iaload (pc' := 16) dX12_days_15 rfl (by first | assumption | rfl) (by omega) (by omega) (by omega) (by first | decide | omega) (show Int.toNat 1 = 1 from rfl) ?_
      rw [hR.z 1 (by decide)]
      refine r_isub (pc' := 17) dX12_days_16 rfl ?_
      refine r_icmp_le (t := 24) (f := 20) dX12_days_17 (by decide) rfl (by first | omega | exact xv_in _ _ _) (by first | omega | exact xv_in _ _ _) (fun h17 => ?_) (fun h17 => ?_)
      · exfalso; omega
      · refine r_iconst (pc' := 21) dX12_days_20 rfl ?_
        refine r_goto (t := 25) dX12_days_21 (by decide) ?_
        refine r_V1gi (ci := 12) (pc' := 28) dX12_days_25 rfl lX12_281 rfl (by decide) (Nat.le_of_ble_eq_true rfl) (by first | assumption | rfl) (by omega) (tX12_refuses hm (by omega)) (fun r25 n25 P25 X25 Y25 e25 le25 => ?_)
        obtain ⟨h1v, h2v, h3v, h4v, hr25⟩ := e25
        rw [if_neg (by omega)] at hr25
        subst h1v h2v h3v h4v hr25
        refine r_if_eq (t := 33) (f := 31) dX12_days_28 (by decide) rfl (by first | omega | exact xv_in _ _ _) (fun h28 => ?_) (fun h28 => ?_)
        · exfalso; omega
        · refine r_iconst (pc' := 32) dX12_days_31 rfl ?_
          refine r_ireturn dX12_days_32 rfl ?_
          refine ⟨_, rfl, ?_⟩
          dsimp only
          rw [if_neg hok]
          exact ⟨rfl, rfl, rfl, rfl, rfl⟩
set_option maxHeartbeats 4000000 in
set_option maxRecDepth 100000 in
theorem tX12_earn {l : Launch} {g : q_G} {n : Nat} {P : q_P} {X : q_X} {Y : q_Y} (hm : isMod n P) {C : q_X} {b : Nat} (hR : RB C b (xv X 468)) (hO : bOk C b) (hT : xv C (b + 15) 0 ≤ 80) (hD : 0 ≤ xv X 467 1 ∧ xv X 467 1 ≤ 8) {i : Int} (hi : q_in i) : q_Met l g mX12_earn 3 [.ref (g.1 + 467), .int (zi i)] n P X Y (q_gi (fun r' n' P' X' Y' => if f_earnOk C b i then rDP (q_up C (b + 9) i.toNat (zi 1)) b (xv C (b + 7) i.toNat) n P X Y r' n' P' X' Y' else rNP n P X Y r' n' P' X' Y')) := by
  obtain ⟨m0, m2, m3, m8, m9, m14, m15, m16, m17, m18, m20, m22, m25, hnm9⟩ := id hm
  obtain ⟨o0, o1, o2, o3, o4, o5, o6, o10, oc, op0, opz, opi, om0, omi, olim⟩ := id hO
  refine q_enter (L := [(0, .ref (g.1 + 467)), (1, .int (zi i))]) (by decide) (Nat.le_of_ble_eq_true rfl) rfl ?_
  refine r_sipush (pc' := 3) dX12_earn_0 rfl (by decide) ?_
  refine r_iconst (pc' := 4) dX12_earn_3 rfl ?_
  refine r_iload_n (i := 1) (pc' := 5) dX12_earn_4 rfl rfl (.tail _ (.head _)) ?_
  refine r_imul (pc' := 6) dX12_earn_5 rfl ?_
  refine r_iadd (pc' := 7) dX12_earn_6 rfl ?_
  refine r_istore_n (i := 2) (pc' := 8) dX12_earn_7 rfl rfl rfl (.s1 (.s1 .nil rfl rfl rfl) rfl rfl rfl) ?_
  by_cases hp : 0 ≤ i ∧ i < xv C (b + 4) 0
  · obtain ⟨j, rfl⟩ : ∃ j : Nat, i = (j : Int) := ⟨i.toNat, by omega⟩
    have hpj := hR.2.2.2.2.1.2 j hp.2
    have hoj := opi j hp.2
    have hzj := opz j (by omega)
    obtain ⟨kn, hkn⟩ : ∃ kn : Nat, xv C (b + 5) j = (kn : Int) := ⟨(xv C (b + 5) j).toNat, by omega⟩
    have hk : (kn : Int) < xv C b 10 := by omega
    refine r_aload_n (i := 0) (pc' := 9) dX12_earn_8 rfl rfl (.head _) ?_
    refine r_iload_n (i := 1) (pc' := 10) dX12_earn_9 rfl rfl (.tail _ (.head _)) ?_
    refine r_V1p (ci := 12) (pc' := 13) dX12_earn_10 rfl lX12_289 rfl (by decide) (Nat.le_of_ble_eq_true rfl) (by first | assumption | rfl) (by omega) (tX12_isPromise (by assumption) (by assumption) (by assumption) (by omega)) ?_
    refine r_bif_eq (t := 58) (f := 16) dX12_earn_13 (by decide) rfl (fun h13 => ?_) (fun h13 => ?_)
    · exfalso; omega
    · by_cases hok : f_earnOk C b (j : Int)
      · have hok2 := hok
        simp only [f_earnOk, Int.toNat_natCast, hkn] at hok2
        refine r_aload_n (i := 0) (pc' := 17) dX12_earn_16 rfl rfl (.head _) ?_
        refine r_getR (pc' := 20) dX12_earn_17 rfl fX12_3 rfl (by first | assumption | rfl) (by omega) (by assumption) ?_
        refine r_iload_n (i := 2) (pc' := 21) dX12_earn_20 rfl rfl (.tail _ (.tail _ (.head _))) ?_
        refine r_iconst (pc' := 22) dX12_earn_21 rfl ?_
        refine r_iadd (pc' := 23) dX12_earn_22 rfl ?_
        refine r_iaload (pc' := 24) dX12_earn_23 rfl (by first | assumption | rfl) (by omega) (by omega) (by omega) (by first | decide | omega) (show _ = 3620 + 5 * j + 4 by omega) ?_
        rw [hpj.2.2.2.2]
        refine r_iconst (pc' := 25) dX12_earn_24 rfl ?_
        refine r_icmp_eq (t := 58) (f := 28) dX12_earn_25 (by decide) rfl (by first | omega | exact xv_in _ _ _) (by first | omega | exact xv_in _ _ _) (fun h25 => ?_) (fun h25 => ?_)
        · exfalso; omega
        · refine r_aload_n (i := 0) (pc' := 29) dX12_earn_28 rfl rfl (.head _) ?_
          refine r_getR (pc' := 32) dX12_earn_29 rfl fX12_3 rfl (by first | assumption | rfl) (by omega) (by assumption) ?_
          refine r_iload_n (i := 2) (pc' := 33) dX12_earn_32 rfl rfl (.tail _ (.tail _ (.head _))) ?_
          refine r_iconst (pc' := 34) dX12_earn_33 rfl ?_
          refine r_iadd (pc' := 35) dX12_earn_34 rfl ?_
          refine r_iaload (pc' := 36) dX12_earn_35 rfl (by first | assumption | rfl) (by omega) (by omega) (by omega) (by first | decide | omega) (show _ = 3620 + 5 * j + 1 by omega) ?_
          rw [hpj.2.1]
          refine r_aload_n (i := 0) (pc' := 37) dX12_earn_36 rfl rfl (.head _) ?_
          refine r_getR (pc' := 40) dX12_earn_37 rfl fX12_3 rfl (by first | assumption | rfl) (by omega) (by assumption) ?_
          refine r_iconst (pc' := 41) dX12_earn_40 rfl ?_
          refine r_iaload (pc' := 42) dX12_earn_41 rfl (by first | assumption | rfl) (by omega) (by omega) (by omega) (by first | decide | omega) (show Int.toNat 0 = 0 from rfl) ?_
          rw [hR.z 0 (by decide)]
          refine r_icmp_ne (t := 58) (f := 45) dX12_earn_42 (by decide) rfl (by first | omega | exact xv_in _ _ _) (by first | omega | exact xv_in _ _ _) (fun h42 => ?_) (fun h42 => ?_)
          · exfalso; omega
          · refine r_aload_n (i := 0) (pc' := 46) dX12_earn_45 rfl rfl (.head _) ?_
            refine r_aload_n (i := 0) (pc' := 47) dX12_earn_46 rfl rfl (.head _) ?_
            refine r_getR (pc' := 50) dX12_earn_47 rfl fX12_3 rfl (by first | assumption | rfl) (by omega) (by assumption) ?_
            refine r_iload_n (i := 2) (pc' := 51) dX12_earn_50 rfl rfl (.tail _ (.tail _ (.head _))) ?_
            refine r_iaload (pc' := 52) dX12_earn_51 rfl (by first | assumption | rfl) (by omega) (by omega) (by omega) (by first | decide | omega) (show _ = 3620 + 5 * j by omega) ?_
            rw [hpj.1, hkn]
            refine r_V1p (ci := 12) (pc' := 55) dX12_earn_52 rfl lX12_209 rfl (by decide) (Nat.le_of_ble_eq_true rfl) (by first | assumption | rfl) (by omega) (tX12_isOpen hm hR hO hk) ?_
            refine r_bif_ne (t := 60) (f := 58) dX12_earn_55 (by decide) rfl (fun h55 => ?_) (fun h55 => ?_)
            · refine r_aload_n (i := 0) (pc' := 61) dX12_earn_60 rfl rfl (.head _) ?_
              refine r_iconst (pc' := 62) dX12_earn_61 rfl ?_
              refine r_V1gv (ci := 12) (pc' := 65) dX12_earn_62 rfl lX12_72 rfl (by decide) (Nat.le_of_ble_eq_true rfl) (by first | assumption | rfl) (by omega) (tX12_deedOf hm (s := 0) (by omega) hD) (fun n62 P62 X62 Y62 e62 le62 => ?_)
              obtain ⟨hg1_62, hg2_62, hg3_62, hg4_62⟩ := e62
              have g1_62 := Eq.symm hg1_62
              have g2_62 := Eq.symm hg2_62
              have g3_62 := Eq.symm hg3_62
              have g4_62 := Eq.symm hg4_62
              clear hg1_62 hg2_62 hg3_62 hg4_62
              subst g1_62 g2_62 g3_62 g4_62
              have hRd := RB.dd hR hO hT hD
              have hrd : rOut (dd X 0) (dd X 0) := rOut.rfl
              generalize hXd : dd X 0 = Xd at hRd hrd ⊢
              refine r_aload_n (i := 0) (pc' := 66) dX12_earn_65 rfl rfl (.head _) ?_
              refine r_getR (pc' := 69) dX12_earn_66 rfl fX12_3 rfl (by first | assumption | rfl) (by omega) (by assumption) ?_
              refine r_iload_n (i := 2) (pc' := 70) dX12_earn_69 rfl rfl (.tail _ (.tail _ (.head _))) ?_
              refine r_iconst (pc' := 71) dX12_earn_70 rfl ?_
              refine r_iadd (pc' := 72) dX12_earn_71 rfl ?_
              refine r_iconst (pc' := 73) dX12_earn_72 rfl ?_
              refine r_iastore (pc' := 74) dX12_earn_73 rfl (by first | assumption | rfl) (by omega) (by omega) (by omega) (by first | decide | omega) (show _ = 3620 + 5 * j + 4 by omega) ?_
              refine r_aload_n (i := 0) (pc' := 75) dX12_earn_74 rfl rfl (.head _) ?_
              refine r_getR (pc' := 78) dX12_earn_75 rfl fX12_3 rfl (by first | assumption | rfl) (by omega) (by assumption) ?_
              refine r_iload_n (i := 2) (pc' := 79) dX12_earn_78 rfl rfl (.tail _ (.tail _ (.head _))) ?_
              refine r_iconst (pc' := 80) dX12_earn_79 rfl ?_
              refine r_iadd (pc' := 81) dX12_earn_80 rfl ?_
              refine r_iaload (pc' := 82) dX12_earn_81 rfl (by first | assumption | rfl) (by omega) (by omega) (by omega) (by first | decide | omega) (show _ = 3620 + 5 * j + 2 by omega) ?_
              rw [xv_up_ne _ _ (by omega), (hRd.2.2.2.2.1.2 j hp.2).2.2.1]
              refine r_ireturn dX12_earn_82 rfl ?_
              refine ⟨_, rfl, ?_⟩
              dsimp only
              rw [if_pos hok, Int.toNat_natCast]
              exact ⟨rfl, rfl, rfl, by rw [hXd]; exact hrd.up (by omega), hRd.ue hO hT _, rfl⟩
            · exfalso; omega
      · have hok2 := hok
        simp only [f_earnOk, Int.toNat_natCast, hkn] at hok2
        refine r_aload_n (i := 0) (pc' := 17) dX12_earn_16 rfl rfl (.head _) ?_
        refine r_getR (pc' := 20) dX12_earn_17 rfl fX12_3 rfl (by first | assumption | rfl) (by omega) (by assumption) ?_
        refine r_iload_n (i := 2) (pc' := 21) dX12_earn_20 rfl rfl (.tail _ (.tail _ (.head _))) ?_
        refine r_iconst (pc' := 22) dX12_earn_21 rfl ?_
        refine r_iadd (pc' := 23) dX12_earn_22 rfl ?_
        refine r_iaload (pc' := 24) dX12_earn_23 rfl (by first | assumption | rfl) (by omega) (by omega) (by omega) (by first | decide | omega) (show _ = 3620 + 5 * j + 4 by omega) ?_
        rw [hpj.2.2.2.2]
        refine r_iconst (pc' := 25) dX12_earn_24 rfl ?_
        refine r_icmp_eq (t := 58) (f := 28) dX12_earn_25 (by decide) rfl (by first | omega | exact xv_in _ _ _) (by first | omega | exact xv_in _ _ _) (fun h25 => ?_) (fun h25 => ?_)
        · refine r_iconst (pc' := 59) dX12_earn_58 rfl ?_
          refine r_ireturn dX12_earn_59 rfl ?_
          refine ⟨_, rfl, ?_⟩
          dsimp only
          rw [if_neg hok]
          exact ⟨rfl, rfl, rfl, rfl, rfl⟩
        · refine r_aload_n (i := 0) (pc' := 29) dX12_earn_28 rfl rfl (.head _) ?_
          refine r_getR (pc' := 32) dX12_earn_29 rfl fX12_3 rfl (by first | assumption | rfl) (by omega) (by assumption) ?_
          refine r_iload_n (i := 2) (pc' := 33) dX12_earn_32 rfl rfl (.tail _ (.tail _ (.head _))) ?_
          refine r_iconst (pc' := 34) dX12_earn_33 rfl ?_
          refine r_iadd (pc' := 35) dX12_earn_34 rfl ?_
          refine r_iaload (pc' := 36) dX12_earn_35 rfl (by first | assumption | rfl) (by omega) (by omega) (by omega) (by first | decide | omega) (show _ = 3620 + 5 * j + 1 by omega) ?_
          rw [hpj.2.1]
          refine r_aload_n (i := 0) (pc' := 37) dX12_earn_36 rfl rfl (.head _) ?_
          refine r_getR (pc' := 40) dX12_earn_37 rfl fX12_3 rfl (by first | assumption | rfl) (by omega) (by assumption) ?_
          refine r_iconst (pc' := 41) dX12_earn_40 rfl ?_
          refine r_iaload (pc' := 42) dX12_earn_41 rfl (by first | assumption | rfl) (by omega) (by omega) (by omega) (by first | decide | omega) (show Int.toNat 0 = 0 from rfl) ?_
          rw [hR.z 0 (by decide)]
          refine r_icmp_ne (t := 58) (f := 45) dX12_earn_42 (by decide) rfl (by first | omega | exact xv_in _ _ _) (by first | omega | exact xv_in _ _ _) (fun h42 => ?_) (fun h42 => ?_)
          · refine r_iconst (pc' := 59) dX12_earn_58 rfl ?_
            refine r_ireturn dX12_earn_59 rfl ?_
            refine ⟨_, rfl, ?_⟩
            dsimp only
            rw [if_neg hok]
            exact ⟨rfl, rfl, rfl, rfl, rfl⟩
          · refine r_aload_n (i := 0) (pc' := 46) dX12_earn_45 rfl rfl (.head _) ?_
            refine r_aload_n (i := 0) (pc' := 47) dX12_earn_46 rfl rfl (.head _) ?_
            refine r_getR (pc' := 50) dX12_earn_47 rfl fX12_3 rfl (by first | assumption | rfl) (by omega) (by assumption) ?_
            refine r_iload_n (i := 2) (pc' := 51) dX12_earn_50 rfl rfl (.tail _ (.tail _ (.head _))) ?_
            refine r_iaload (pc' := 52) dX12_earn_51 rfl (by first | assumption | rfl) (by omega) (by omega) (by omega) (by first | decide | omega) (show _ = 3620 + 5 * j by omega) ?_
            rw [hpj.1, hkn]
            refine r_V1p (ci := 12) (pc' := 55) dX12_earn_52 rfl lX12_209 rfl (by decide) (Nat.le_of_ble_eq_true rfl) (by first | assumption | rfl) (by omega) (tX12_isOpen hm hR hO hk) ?_
            refine r_bif_ne (t := 60) (f := 58) dX12_earn_55 (by decide) rfl (fun h55 => ?_) (fun h55 => ?_)
            · exfalso; omega
            · refine r_iconst (pc' := 59) dX12_earn_58 rfl ?_
              refine r_ireturn dX12_earn_59 rfl ?_
              refine ⟨_, rfl, ?_⟩
              dsimp only
              rw [if_neg hok]
              exact ⟨rfl, rfl, rfl, rfl, rfl⟩
  · refine r_aload_n (i := 0) (pc' := 9) dX12_earn_8 rfl rfl (.head _) ?_
    refine r_iload_n (i := 1) (pc' := 10) dX12_earn_9 rfl rfl (.tail _ (.head _)) ?_
    refine r_V1p (ci := 12) (pc' := 13) dX12_earn_10 rfl lX12_289 rfl (by decide) (Nat.le_of_ble_eq_true rfl) (by first | assumption | rfl) (by omega) (tX12_isPromise (by assumption) (by assumption) (by assumption) (by omega)) ?_
    refine r_bif_eq (t := 58) (f := 16) dX12_earn_13 (by decide) rfl (fun h13 => ?_) (fun h13 => ?_)
    · refine r_iconst (pc' := 59) dX12_earn_58 rfl ?_
      refine r_ireturn dX12_earn_59 rfl ?_
      have hok : ¬ f_earnOk C b i := fun q => hp ⟨q.1, q.2.1⟩
      refine ⟨_, rfl, ?_⟩
      dsimp only
      rw [if_neg hok]
      exact ⟨rfl, rfl, rfl, rfl, rfl⟩
    · exfalso; omega
