/-- an int, the store as it was but for the tally -/
def q_it (r : Int) (n : Nat) (P : q_P) (X : q_X) (Y : q_Y) : q_K := q_gi (fun r' n' P' X' Y' => n' = n ∧ P' = P ∧ Y' = Y ∧ tOut X X' ∧ zi r' = zi r)
theorem tOut.rfl {X : q_X} : tOut X X := fun _ _ => Eq.refl _
def f_now (X : q_X) (b : Nat) (w : Int) : Int := if w = 0 then bk_cnt X b g0 g0 (xv X b 1) else if w = 1 then bk_room X b g0 g0 else -1000000000
def f_wouldT (X : q_X) (b : Nat) (k w : Int) : Int := if ¬ bk_ref X b k = 0 then -1000000000 else if w = 3 then bk_sav X b k.toNat (xv X b 1) else f_would X b k w
def f_turned (X : q_X) (b : Nat) (k w : Int) : Int := if ¬ bk_ref X b k = 0 then -1 else if w = 0 then bk_most X b (con b k.toNat) else if w = 1 then bk_cnt X b g0 g0 (xv X b 1) - bk_cnt X b g0 (g1 k.toNat) (xv X b 1) else -1
def f_dis (X : q_X) (b : Nat) (k much day : Int) : Int := if xv X b 1 ≤ day ∧ much ≤ bk_sav X b k.toNat day then day else -2
def f_last (X : q_X) (b : Nat) (k much : Int) : Int := if ¬ bk_ref X b k = 0 then -1 else max (f_dis X b k much 364) (f_dis X b k much (xv X b 3 - 1))
def f_ranked (X : q_X) (b : Nat) (i : Int) : Int := f_place X b (xv X b 0) i
/-- contract k counts in full -/
abbrev bk_isFull (X : q_X) (b k : Nat) : Prop := bk_op X b k = true ∧ u_rk (xv X b 10).toNat (bk_op X b) (fun k => c_hit X (con b k) (xv X b 0)) k < bk_full X b (xv X b 1)
def f_con (X : q_X) (b : Nat) (k w : Int) : Int := if ¬ bk_has X b k then -1 else if w = 0 then xv X (con b k.toNat) 0 else if w = 1 then xv X (con b k.toNat) 1 else if w = 2 then xv X (con b k.toNat) 2 else if w = 3 then xv X (con b k.toNat) 3 else if w = 4 then xv X (con b k.toNat) 4 else if w = 5 then c_left X (con b k.toNat) (xv X b 0) else if w = 6 then (if xv X (con b k.toNat) 4 = 0 then c_hit X (con b k.toNat) (xv X b 0) else 0) else if w = 7 then (if bk_isFull X b k.toNat then 1 else 0) else -1
def f_tagS (X : q_X) (b : Nat) (m : Nat) : Int := q_sum (fun i => c_hit X (con b (f_place X b (xv X b 0) i).toNat) (xv X b 0)) 0 m
def f_tag (X : q_X) (b : Nat) (m : Int) : Int := if m < 1 ∨ 40 < m then -1 else if min m (bk_many X b 0 0 (xv X b 10).toNat) < 1 then -2 else (f_tagS X b (min m (bk_many X b 0 0 (xv X b 10).toNat)).toNat).tdiv (min m (bk_many X b 0 0 (xv X b 10).toNat))
set_option maxHeartbeats 4000000 in
set_option maxRecDepth 100000 in
theorem tX11_now {l : Launch} {g : q_G} {n : Nat} {P : q_P} {X : q_X} {Y : q_Y} {b : Nat} (hF : isFace n P b) (hb : isBk n P b) (hO : bOk X b) (hap : bApart b) (ht : isTal n P) {w : Int} (hw : q_in w) : q_Met l g mX11_now 4 [.ref (g.1 + 0), .int (zi w)] n P X Y (q_it (f_now X b w) n P X Y) := by
  obtain ⟨f0, f2, f3, f4, f5, f6, f7, f8, hn0⟩ := id hF
  obtain ⟨b0, b1, b2, b3, q7, q8, q9, q11, q12, q13, hn, hpro, hmar, hfor, hcs⟩ := id hb
  obtain ⟨o0, o1, o2, o3, o4, o5, o6, o10, oc, op0, opz, opi, om0, omi, olim⟩ := id hO
  obtain ⟨t0, t1, t2, t3, t4, hnt⟩ := id ht
  refine q_enter (L := [(0, .ref (g.1 + 0)), (1, .int (zi w))]) (by decide) (Nat.le_of_ble_eq_true rfl) rfl ?_
  refine r_aload_n (i := 0) (pc' := 1) dX11_now_0 rfl rfl (.head _) ?_
  refine r_getR (pc' := 4) dX11_now_1 rfl fX11_56 rfl (by first | assumption | rfl) (by omega) (by assumption) ?_
  refine r_aload_n (i := 0) (pc' := 5) dX11_now_4 rfl rfl (.head _) ?_
  refine r_getR (pc' := 8) dX11_now_5 rfl fX11_10 rfl (by first | assumption | rfl) (by omega) (by assumption) ?_
  refine r_V1gv (ci := 10) (pc' := 11) dX11_now_8 rfl lX11_211 rfl (by decide) (Nat.le_of_ble_eq_true rfl) (by first | assumption | rfl) (by omega) (tX10_load hb hO ht hap) (fun n8 P8 X8 Y8 e8 le8 => ?_)
  obtain ⟨rfl, rfl, rfl, ho, htl⟩ := e8
  have hTT := TT.of ho hap hO htl
  have hT1 := htl.1
  have hag := ho.ag hap
  have hO1 := bOk_ag hag hO
  have eb : xv X8 b = xv X b := hag.z
  refine r_iload_n (i := 1) (pc' := 12) dX11_now_11 rfl rfl (.tail _ (.head _)) ?_
  by_cases hs12 : w = 0 ∨ w = 1
  · rcases hs12 with hs12 | hs12
    · refine r_look (t := 40) (off := 28) dX11_now_12 rfl (by first | omega | exact xv_in _ _ _) (by rw [hs12]; rfl) (by decide) ?_
      refine r_aload_n (i := 0) (pc' := 41) dX11_now_40 rfl rfl (.head _) ?_
      refine r_getR (pc' := 44) dX11_now_41 rfl fX11_56 rfl (by first | assumption | rfl) (by omega) (by assumption) ?_
      refine r_aload_n (i := 0) (pc' := 45) dX11_now_44 rfl rfl (.head _) ?_
      refine r_getR (pc' := 48) dX11_now_45 rfl fX11_10 rfl (by first | assumption | rfl) (by omega) (by assumption) ?_
      refine r_aload_n (i := 0) (pc' := 49) dX11_now_48 rfl rfl (.head _) ?_
      refine r_getR (pc' := 52) dX11_now_49 rfl fX11_10 rfl (by first | assumption | rfl) (by omega) (by assumption) ?_
      refine r_getI (pc' := 55) dX11_now_52 rfl fX11_138 rfl (by first | assumption | rfl) (by omega) ?_
      rw [eb]
      refine r_V2p (ci := 10) (pc' := 58) dX11_now_55 rfl lX11_214 rfl (by decide) (Nat.le_of_ble_eq_true rfl) (by first | assumption | rfl) (by omega) (tX10_count hb hO1 ht hT1 (by omega)) ?_
      rw [hTT.cnt hap]
      refine r_ireturn dX11_now_58 rfl ?_
      refine ⟨_, rfl, rfl, rfl, rfl, by first | exact ho | exact tOut.rfl, ?_⟩
      unfold f_now
      (repeat' split) <;> first | rfl | (exfalso; omega)
    · refine r_look (t := 59) (off := 47) dX11_now_12 rfl (by first | omega | exact xv_in _ _ _) (by rw [hs12]; rfl) (by decide) ?_
      refine r_aload_n (i := 0) (pc' := 60) dX11_now_59 rfl rfl (.head _) ?_
      refine r_getR (pc' := 63) dX11_now_60 rfl fX11_56 rfl (by first | assumption | rfl) (by omega) (by assumption) ?_
      refine r_aload_n (i := 0) (pc' := 64) dX11_now_63 rfl rfl (.head _) ?_
      refine r_getR (pc' := 67) dX11_now_64 rfl fX11_10 rfl (by first | assumption | rfl) (by omega) (by assumption) ?_
      refine r_V1p (ci := 10) (pc' := 70) dX11_now_67 rfl lX11_218 rfl (by decide) (Nat.le_of_ble_eq_true rfl) (by first | assumption | rfl) (by omega) (tX10_room hb hO1 ht hT1) ?_
      rw [hTT.room hap]
      refine r_ireturn dX11_now_70 rfl ?_
      refine ⟨_, rfl, rfl, rfl, rfl, by first | exact ho | exact tOut.rfl, ?_⟩
      unfold f_now
      (repeat' split) <;> first | rfl | (exfalso; omega)
  · refine r_look (t := 71) (off := 59) dX11_now_12 rfl (by first | omega | exact xv_in _ _ _) (by simp [Op.lookupswitch.offset]; omega) (by decide) ?_
    refine r_ldc (pc' := 73) dX11_now_71 rfl kX11_221 ?_
    refine r_ireturn dX11_now_73 rfl ?_
    refine ⟨_, rfl, rfl, rfl, rfl, by first | exact ho | exact tOut.rfl, ?_⟩
    unfold f_now
    (repeat' split) <;> first | rfl | (exfalso; omega)
set_option maxHeartbeats 4000000 in
set_option maxRecDepth 100000 in
theorem tX11_would {l : Launch} {g : q_G} {n : Nat} {P : q_P} {X : q_X} {Y : q_Y} {b : Nat} (hF : isFace n P b) (hb : isBk n P b) (hO : bOk X b) (hap : bApart b) (ht : isTal n P) {k w : Int} (hi : q_in k) (hw : q_in w) : q_Met l g mX11_would 5 [.ref (g.1 + 0), .int (zi k), .int (zi w)] n P X Y (q_it (f_wouldT X b k w) n P X Y) := by
  obtain ⟨f0, f2, f3, f4, f5, f6, f7, f8, hn0⟩ := id hF
  obtain ⟨b0, b1, b2, b3, q7, q8, q9, q11, q12, q13, hn, hpro, hmar, hfor, hcs⟩ := id hb
  obtain ⟨o0, o1, o2, o3, o4, o5, o6, o10, oc, op0, opz, opi, om0, omi, olim⟩ := id hO
  obtain ⟨t0, t1, t2, t3, t4, hnt⟩ := id ht
  refine q_enter (L := [(0, .ref (g.1 + 0)), (1, .int (zi k)), (2, .int (zi w))]) (by decide) (Nat.le_of_ble_eq_true rfl) rfl ?_
  refine r_aload_n (i := 0) (pc' := 1) dX11_would_0 rfl rfl (.head _) ?_
  refine r_getR (pc' := 4) dX11_would_1 rfl fX11_10 rfl (by first | assumption | rfl) (by omega) (by assumption) ?_
  refine r_iload_n (i := 1) (pc' := 5) dX11_would_4 rfl rfl (.tail _ (.head _)) ?_
  by_cases hk : bk_ref X b k = 0
  · have hh := bk_ref_has hk
    have hc := hb.c (k := k.toNat) (by omega)
    obtain ⟨s0, s1, s2, s3, s4, p6, p7, p8, p9, hnc⟩ := id hc
    have hck := hO.c (k := k.toNat) (by omega)
    obtain ⟨hf, hf2, hf3, hf4, hfj, hfs, hfg⟩ := id hck
    refine r_V1p (ci := 1) (pc' := 8) dX11_would_5 rfl lX11_222 rfl (by decide) (Nat.le_of_ble_eq_true rfl) (by first | assumption | rfl) (by omega) (tX1_findBegun (by assumption) (by assumption) (by first | assumption | omega) (by assumption)) ?_
    refine r_astore_n (i := 3) (pc' := 9) dX11_would_8 rfl rfl rfl (.s1 (.s1 (.s1 .nil rfl rfl rfl) rfl rfl rfl) rfl rfl rfl) ?_
    refine r_aload_n (i := 3) (pc' := 10) dX11_would_9 rfl rfl (.tail _ (.tail _ (.tail _ (.head _)))) ?_
    refine r_ifnonnull (t := 16) dX11_would_10 (by decide) ?_
    refine r_iload_n (i := 2) (pc' := 17) dX11_would_16 rfl rfl (.tail _ (.tail _ (.head _))) ?_
    by_cases hs17 : w < 0 ∨ 3 < w
    · refine r_tout (t := 120) dX11_would_17 (by first | omega | exact xv_in _ _ _) hs17 (by decide) ?_
      refine r_ldc (pc' := 122) dX11_would_120 rfl kX11_221 ?_
      refine r_ireturn dX11_would_122 rfl ?_
      refine ⟨_, rfl, rfl, rfl, rfl, by first | exact ho | exact tOut.rfl, ?_⟩
      unfold f_wouldT f_would
      (repeat' split) <;> first | rfl | (exfalso; omega)
    · have hc17 : w = 0 ∨ w = 1 ∨ w = 2 ∨ w = 3 := by omega
      rcases hc17 with hc17 | hc17 | hc17 | hc17
      · refine r_tin (t := 48) (off := 31) dX11_would_17 (by first | omega | exact xv_in _ _ _) (by omega) (by omega) (by rw [hc17]; rfl) (by decide) ?_
        refine r_aload_n (i := 0) (pc' := 49) dX11_would_48 rfl rfl (.head _) ?_
        refine r_getR (pc' := 52) dX11_would_49 rfl fX11_10 rfl (by first | assumption | rfl) (by omega) (by assumption) ?_
        refine r_aload_n (i := 3) (pc' := 53) dX11_would_52 rfl rfl (.tail _ (.tail _ (.tail _ (.head _)))) ?_
        refine r_aload_n (i := 0) (pc' := 54) dX11_would_53 rfl rfl (.head _) ?_
        refine r_getR (pc' := 57) dX11_would_54 rfl fX11_10 rfl (by first | assumption | rfl) (by omega) (by assumption) ?_
        refine r_getI (pc' := 60) dX11_would_57 rfl fX11_138 rfl (by first | assumption | rfl) (by omega) ?_
        refine r_V2p (ci := 1) (pc' := 63) dX11_would_60 rfl lX11_225 rfl (by decide) (Nat.le_of_ble_eq_true rfl) (by first | assumption | rfl) (by omega) (tX1_deadNow (by assumption) (by assumption) (by assumption) (by assumption) (by omega)) ?_
        refine r_ireturn dX11_would_63 rfl ?_
        refine ⟨_, rfl, rfl, rfl, rfl, by first | exact ho | exact tOut.rfl, ?_⟩
        unfold f_wouldT f_would
        (repeat' split) <;> first | rfl | (exfalso; omega)
      · refine r_tin (t := 64) (off := 47) dX11_would_17 (by first | omega | exact xv_in _ _ _) (by omega) (by omega) (by rw [hc17]; rfl) (by decide) ?_
        refine r_aload_n (i := 0) (pc' := 65) dX11_would_64 rfl rfl (.head _) ?_
        refine r_getR (pc' := 68) dX11_would_65 rfl fX11_10 rfl (by first | assumption | rfl) (by omega) (by assumption) ?_
        refine r_aload_n (i := 3) (pc' := 69) dX11_would_68 rfl rfl (.tail _ (.tail _ (.tail _ (.head _)))) ?_
        refine r_aload_n (i := 0) (pc' := 70) dX11_would_69 rfl rfl (.head _) ?_
        refine r_getR (pc' := 73) dX11_would_70 rfl fX11_10 rfl (by first | assumption | rfl) (by omega) (by assumption) ?_
        refine r_getI (pc' := 76) dX11_would_73 rfl fX11_138 rfl (by first | assumption | rfl) (by omega) ?_
        refine r_V2p (ci := 1) (pc' := 79) dX11_would_76 rfl lX11_229 rfl (by decide) (Nat.le_of_ble_eq_true rfl) (by first | assumption | rfl) (by omega) (tX1_deadNext (by assumption) (by assumption) (by assumption) (by assumption) (by omega)) ?_
        refine r_ireturn dX11_would_79 rfl ?_
        refine ⟨_, rfl, rfl, rfl, rfl, by first | exact ho | exact tOut.rfl, ?_⟩
        unfold f_wouldT f_would
        (repeat' split) <;> first | rfl | (exfalso; omega)
      · refine r_tin (t := 80) (off := 63) dX11_would_17 (by first | omega | exact xv_in _ _ _) (by omega) (by omega) (by rw [hc17]; rfl) (by decide) ?_
        refine r_aload_n (i := 0) (pc' := 81) dX11_would_80 rfl rfl (.head _) ?_
        refine r_getR (pc' := 84) dX11_would_81 rfl fX11_10 rfl (by first | assumption | rfl) (by omega) (by assumption) ?_
        refine r_aload_n (i := 3) (pc' := 85) dX11_would_84 rfl rfl (.tail _ (.tail _ (.tail _ (.head _)))) ?_
        refine r_V1p (ci := 1) (pc' := 88) dX11_would_85 rfl lX11_232 rfl (by decide) (Nat.le_of_ble_eq_true rfl) (by first | assumption | rfl) (by omega) (tX1_deadInAll (by assumption) (by assumption) (by assumption) (by assumption)) ?_
        refine r_ireturn dX11_would_88 rfl ?_
        refine ⟨_, rfl, rfl, rfl, rfl, by first | exact ho | exact tOut.rfl, ?_⟩
        unfold f_wouldT f_would
        (repeat' split) <;> first | rfl | (exfalso; omega)
      · refine r_tin (t := 89) (off := 72) dX11_would_17 (by first | omega | exact xv_in _ _ _) (by omega) (by omega) (by rw [hc17]; rfl) (by decide) ?_
        refine r_aload_n (i := 0) (pc' := 90) dX11_would_89 rfl rfl (.head _) ?_
        refine r_getR (pc' := 93) dX11_would_90 rfl fX11_56 rfl (by first | assumption | rfl) (by omega) (by assumption) ?_
        refine r_aload_n (i := 0) (pc' := 94) dX11_would_93 rfl rfl (.head _) ?_
        refine r_getR (pc' := 97) dX11_would_94 rfl fX11_10 rfl (by first | assumption | rfl) (by omega) (by assumption) ?_
        refine r_V1gv (ci := 10) (pc' := 100) dX11_would_97 rfl lX11_211 rfl (by decide) (Nat.le_of_ble_eq_true rfl) (by first | assumption | rfl) (by omega) (tX10_load hb hO ht hap) (fun n97 P97 X97 Y97 e97 le97 => ?_)
        obtain ⟨rfl, rfl, rfl, ho, htl⟩ := e97
        have hTT := TT.of ho hap hO htl
        have hT1 := htl.1
        have hag := ho.ag hap
        have hO1 := bOk_ag hag hO
        have eb : xv X97 b = xv X b := hag.z
        refine r_aload_n (i := 0) (pc' := 101) dX11_would_100 rfl rfl (.head _) ?_
        refine r_getR (pc' := 104) dX11_would_101 rfl fX11_56 rfl (by first | assumption | rfl) (by omega) (by assumption) ?_
        refine r_aload_n (i := 0) (pc' := 105) dX11_would_104 rfl rfl (.head _) ?_
        refine r_getR (pc' := 108) dX11_would_105 rfl fX11_10 rfl (by first | assumption | rfl) (by omega) (by assumption) ?_
        refine r_iload_n (i := 1) (pc' := 109) dX11_would_108 rfl rfl (.tail _ (.head _)) ?_
        refine r_aload_n (i := 0) (pc' := 110) dX11_would_109 rfl rfl (.head _) ?_
        refine r_getR (pc' := 113) dX11_would_110 rfl fX11_10 rfl (by first | assumption | rfl) (by omega) (by assumption) ?_
        refine r_getI (pc' := 116) dX11_would_113 rfl fX11_138 rfl (by first | assumption | rfl) (by omega) ?_
        rw [eb]
        refine r_V3p (ci := 10) (pc' := 119) dX11_would_116 rfl lX11_236 rfl (by decide) (Nat.le_of_ble_eq_true rfl) (by first | assumption | rfl) (by omega) (tX10_saved hb hO1 ht hT1 hap (by omega) (by omega) (fun _ => by rw [t_tot_g hTT.s (by omega)])) ?_
        rw [hTT.sav hap hO hk]
        refine r_ireturn dX11_would_119 rfl ?_
        refine ⟨_, rfl, rfl, rfl, rfl, by first | exact ho | exact tOut.rfl, ?_⟩
        unfold f_wouldT f_would
        (repeat' split) <;> first | rfl | (exfalso; omega)
  · refine r_V1p (ci := 1) (pc' := 8) dX11_would_5 rfl lX11_222 rfl (by decide) (Nat.le_of_ble_eq_true rfl) (by first | assumption | rfl) (by omega) (tX1_findBegunN (by assumption) (by assumption) (by first | assumption | omega) (by assumption)) ?_
    refine r_astoreN_n (i := 3) (pc' := 9) dX11_would_8 rfl rfl rfl (.s1 (.s1 (.s1 .nil rfl rfl rfl) rfl rfl rfl) rfl rfl rfl) ?_
    refine r_aloadN_n (i := 3) (pc' := 10) dX11_would_9 rfl rfl (.tail _ (.tail _ (.tail _ (.head _)))) ?_
    refine r_ifnonnullN (pc' := 13) dX11_would_10 rfl ?_
    refine r_ldc (pc' := 15) dX11_would_13 rfl kX11_221 ?_
    refine r_ireturn dX11_would_15 rfl ?_
    refine ⟨_, rfl, rfl, rfl, rfl, by first | exact ho | exact tOut.rfl, ?_⟩
    unfold f_wouldT f_would
    (repeat' split) <;> first | rfl | (exfalso; omega)
