def bk_t3 (X : q_X) (b i : Nat) : q_X := c_spread (c_start (q_up X b 10 (zi (xv X b 10 + 1))) (con b (xv X b 10).toNat) (xv X b 0) (xv X (b + 12) i) 0 0) (con b (xv X b 10).toNat) (xv X b 0) (xv X (b + 13) i)
def bk_take (X : q_X) (b i : Nat) : q_X := mk_rem (c_putN (bk_t3 X b i) (con b (xv X b 10).toNat) 0 (xv X (b + 14) i) (xv X (b + 12) i).toNat) (b + 10) i
set_option maxHeartbeats 4000000 in
set_option maxRecDepth 100000 in
theorem lX1_takeOffer {l : Launch} {g : q_G} {n : Nat} {P : q_P} {X : q_X} {Y : q_Y} {K : q_K} {b i c m : Nat} {B : Int} (hb : isBk n P b) (hc : isCon n P c) (hi : i < 12) (hcb : b + 15 ≤ c) (hm : m ≤ 100) (hy : xv X c 1 = (m : Int)) (hB : xv X (b + 14) i = B) (kk : q_Tr l g mX1_takeOffer 4 K 89 [(0, .ref (g.1 + b)), (1, .int (zi (i : Int))), (2, .ref (g.1 + c))] [] n P (c_putN X c 0 B m) Y) : ∀ (w j : Nat), j + w = m → q_Tr l g mX1_takeOffer 4 K 60 [(0, .ref (g.1 + b)), (1, .int (zi (i : Int))), (2, .ref (g.1 + c)), (3, .int (zi (j : Int)))] [] n P (c_putN X c 0 B j) Y := by
  obtain ⟨b0, b1, b2, b3, q7, q8, q9, q11, q12, q13, hn, hpro, hmar, hfor, hcs⟩ := id hb
  obtain ⟨a0, a1, a2, a3, a4, u1, u2, u3, u4, hnm⟩ := isBk.mar hmar
  obtain ⟨s0, s1, s2, s3, s4, p6, p7, p8, p9, hnc⟩ := id hc
  intro w
  induction w with
  | zero =>
    intro j hk
    have hj := c_putN_f X c 0 B 1 j
    rw [hy] at hj
    refine r_iload_n (i := 3) (pc' := 61) dX1_takeOffer_60 rfl rfl (.tail _ (.tail _ (.tail _ (.head _)))) ?_
    refine r_aload_n (i := 2) (pc' := 62) dX1_takeOffer_61 rfl rfl (.tail _ (.tail _ (.head _))) ?_
    refine r_getI (pc' := 65) dX1_takeOffer_62 rfl fX1_113 rfl (by first | assumption | rfl) (by omega) ?_
    rw [hj]
    refine r_icmp_ge (t := 89) (f := 68) dX1_takeOffer_65 (by decide) rfl (by first | omega | exact xv_in _ _ _) (by first | omega | exact xv_in _ _ _) (fun h65 => ?_) (fun h65 => ?_)
    · refine r_sub (.kp (.kp (.kp (.dr .nil)))) ?_
      rw [show j = m by omega]
      exact kk
    · exfalso; omega
  | succ w ih =>
    intro j hk
    have hj := c_putN_f X c 0 B 1 j
    rw [hy] at hj
    have hr := congrFun (c_putN_o X c 0 B (i := b + 14) (by omega) j) i
    have he : c_putN X c 0 B (j + 1) = c_put (c_putN X c 0 B j) c j B 0 := by rw [c_putN, Int.zero_add]
    refine r_iload_n (i := 3) (pc' := 61) dX1_takeOffer_60 rfl rfl (.tail _ (.tail _ (.tail _ (.head _)))) ?_
    refine r_aload_n (i := 2) (pc' := 62) dX1_takeOffer_61 rfl rfl (.tail _ (.tail _ (.head _))) ?_
    refine r_getI (pc' := 65) dX1_takeOffer_62 rfl fX1_113 rfl (by first | assumption | rfl) (by omega) ?_
    rw [hj]
    refine r_icmp_ge (t := 89) (f := 68) dX1_takeOffer_65 (by decide) rfl (by first | omega | exact xv_in _ _ _) (by first | omega | exact xv_in _ _ _) (fun h65 => ?_) (fun h65 => ?_)
    · exfalso; omega
    · refine r_aload_n (i := 2) (pc' := 69) dX1_takeOffer_68 rfl rfl (.tail _ (.tail _ (.head _))) ?_
      refine r_iload_n (i := 3) (pc' := 70) dX1_takeOffer_69 rfl rfl (.tail _ (.tail _ (.tail _ (.head _)))) ?_
      refine r_aload_n (i := 0) (pc' := 71) dX1_takeOffer_70 rfl rfl (.head _) ?_
      refine r_getR (pc' := 74) dX1_takeOffer_71 rfl fX1_50 rfl (by first | assumption | rfl) (by omega) (by assumption) ?_
      refine r_getR (pc' := 77) dX1_takeOffer_74 rfl fX1_144 rfl (by first | assumption | rfl) (by omega) (by assumption) ?_
      refine r_iload_n (i := 1) (pc' := 78) dX1_takeOffer_77 rfl rfl (.tail _ (.head _)) ?_
      refine r_iaload (pc' := 79) dX1_takeOffer_78 rfl (by first | assumption | rfl) (by omega) (by omega) (by omega) (by first | decide | omega) (Int.toNat_natCast _) ?_
      rw [hr, hB]
      refine r_iconst (pc' := 80) dX1_takeOffer_79 rfl ?_
      refine r_V3gv (ci := 4) (pc' := 83) dX1_takeOffer_80 rfl lX1_147 rfl (by decide) (Nat.le_of_ble_eq_true rfl) (by first | assumption | rfl) (by omega) (tX4_putPay (by assumption) (by omega)) (fun n80 P80 X80 Y80 e80 le80 => ?_)
      obtain ⟨rfl, rfl, rfl, rfl⟩ := e80
      refine r_iinc (pc' := 86) dX1_takeOffer_83 rfl rfl (.tail _ (.tail _ (.tail _ (.head _)))) (.s1 (.s1 (.s1 (.here .nil) rfl rfl rfl) rfl rfl rfl) rfl rfl rfl) ?_
      refine r_goto (t := 60) dX1_takeOffer_86 (by decide) ?_
      rw [← he]
      exact ih (j + 1) (by omega)
set_option maxHeartbeats 4000000 in
set_option maxRecDepth 100000 in
theorem tX1_takeOffer {l : Launch} {g : q_G} {n : Nat} {P : q_P} {X : q_X} {Y : q_Y} {b i : Nat} (hb : isBk n P b) (hO : bOk X b) (hr : bk_sref X b i = 0) : q_Met l g mX1_takeOffer 4 [.ref (g.1 + b), .int (zi (i : Int))] n P X Y (q_gi (fun r' n' P' X' Y' => n' = n ∧ P' = P ∧ Y' = Y ∧ X' = bk_take X b i ∧ r' = xv X b 10)) := by
  obtain ⟨b0, b1, b2, b3, q7, q8, q9, q11, q12, q13, hn, hpro, hmar, hfor, hcs⟩ := id hb
  obtain ⟨o0, o1, o2, o3, o4, o5, o6, o10, oc, op0, opz, opi, om0, omi, olim⟩ := id hO
  obtain ⟨a0, a1, a2, a3, a4, u1, u2, u3, u4, hnm⟩ := isBk.mar hmar
  have hsr : 0 ≤ (i : Int) ∧ (i : Int) < xv X (b + 10) 0 ∧ xv X b 10 < 40 ∧ xv X b 0 + xv X (b + 12) i ≤ 20 := by
    unfold bk_sref at hr
    rw [Int.toNat_natCast] at hr
    split at hr
    · omega
    · split at hr <;> omega
  have hmi := omi i hsr.2.1
  have hc := hb.c (k := (xv X b 10).toNat) (by omega)
  obtain ⟨s0, s1, s2, s3, s4, p6, p7, p8, p9, hnc⟩ := id hc
  refine q_enter (L := [(0, .ref (g.1 + b)), (1, .int (zi (i : Int)))]) (by decide) (Nat.le_of_ble_eq_true rfl) rfl ?_
  refine r_aload_n (i := 0) (pc' := 1) dX1_takeOffer_0 rfl rfl (.head _) ?_
  refine r_V0gr (ci := 1) (pc' := 4) dX1_takeOffer_1 rfl lX1_129 rfl (by decide) (Nat.le_of_ble_eq_true rfl) (by first | assumption | rfl) (by omega) (tX1_addContract (by assumption) (by omega)) (fun r1 n1 P1 X1 Y1 e1 le1 => ?_)
  obtain ⟨rfl, rfl, rfl, rfl, rfl⟩ := e1
  change q_Tr _ _ _ _ _ _ _ (.ref (g.1 + con b (xv X b 10).toNat) :: _) _ _ _ _
  refine r_astore_n (i := 2) (pc' := 5) dX1_takeOffer_4 rfl rfl rfl (.s1 (.s1 .nil rfl rfl rfl) rfl rfl rfl) ?_
  refine r_aload_n (i := 2) (pc' := 6) dX1_takeOffer_5 rfl rfl (.tail _ (.tail _ (.head _))) ?_
  refine r_ifnull (pc' := 9) dX1_takeOffer_6 rfl ?_
  refine r_aload_n (i := 0) (pc' := 10) dX1_takeOffer_9 rfl rfl (.head _) ?_
  refine r_getR (pc' := 13) dX1_takeOffer_10 rfl fX1_50 rfl (by first | assumption | rfl) (by omega) (by assumption) ?_
  refine r_iload_n (i := 1) (pc' := 14) dX1_takeOffer_13 rfl rfl (.tail _ (.head _)) ?_
  refine r_V1p (ci := 7) (pc' := 17) dX1_takeOffer_14 rfl lX1_123 rfl (by decide) (Nat.le_of_ble_eq_true rfl) (by first | assumption | rfl) (by omega) (tX7_has hmar (by omega)) ?_
  rw [show xv (q_up X b 10 (zi (xv X b 10 + 1))) (b + 10) 0 = xv X (b + 10) 0 from xv_up_ne _ _ (by omega)]
  refine r_bif_ne (t := 22) (f := 20) dX1_takeOffer_17 (by decide) rfl (fun h17 => ?_) (fun h17 => ?_)
  · refine r_aload_n (i := 2) (pc' := 23) dX1_takeOffer_22 rfl rfl (.tail _ (.tail _ (.head _))) ?_
    refine r_aload_n (i := 0) (pc' := 24) dX1_takeOffer_23 rfl rfl (.head _) ?_
    generalize hX1 : q_up X b 10 (zi (xv X b 10 + 1)) = X1
    have e1 : ∀ a, a ≠ b → xv X1 a = xv X a := fun a ha => by rw [← hX1]; exact xv_up_row X _ _ ha
    have e1b : xv X1 b 0 = xv X b 0 := by rw [← hX1]; exact xv_up_ne _ _ (by omega)
    have e1s : xv X1 b 10 = xv X b 10 + 1 := by rw [← hX1]; exact xv_up_same _ _ _ (by omega)
    generalize hcc : con b (xv X b 10).toNat = c at *
    have hcb : b + 20 ≤ c := by rw [← hcc]; unfold con; omega
    refine r_getI (pc' := 27) dX1_takeOffer_24 rfl fX1_63 rfl (by first | assumption | rfl) (by omega) ?_
    rw [e1b]
    refine r_aload_n (i := 0) (pc' := 28) dX1_takeOffer_27 rfl rfl (.head _) ?_
    refine r_getR (pc' := 31) dX1_takeOffer_28 rfl fX1_50 rfl (by first | assumption | rfl) (by omega) (by assumption) ?_
    refine r_getR (pc' := 34) dX1_takeOffer_31 rfl fX1_127 rfl (by first | assumption | rfl) (by omega) (by assumption) ?_
    refine r_iload_n (i := 1) (pc' := 35) dX1_takeOffer_34 rfl rfl (.tail _ (.head _)) ?_
    refine r_iaload (pc' := 36) dX1_takeOffer_35 rfl (by first | assumption | rfl) (by omega) (by omega) (by omega) (by first | decide | omega) (Int.toNat_natCast _) ?_
    rw [e1 _ (by omega)]
    refine r_iconst (pc' := 37) dX1_takeOffer_36 rfl ?_
    refine r_iconst (pc' := 38) dX1_takeOffer_37 rfl ?_
    refine r_V4gv (ci := 4) (pc' := 41) dX1_takeOffer_38 rfl lX1_133 rfl (by decide) (Nat.le_of_ble_eq_true rfl) (by first | assumption | rfl) (by omega) (tX4_start (by assumption)) (fun n38 P38 X38 Y38 e38 le38 => ?_)
    obtain ⟨rfl, rfl, rfl, rfl⟩ := e38
    have e2 : ∀ a, (a < c ∨ c + 4 < a) → xv (c_start X1 c (xv X b 0) (xv X (b + 12) i) 0 0) a = xv X1 a := fun a ha => c_start_o _ _ _ _ _ _ ha
    have e2c := c_start_c X1 c (f := xv X b 0) (y := xv X (b + 12) i) (v := 0) (s := 0) (by omega) (by omega) (by omega) (by omega)
    generalize hX2 : c_start X1 c (xv X b 0) (xv X (b + 12) i) 0 0 = X2 at *
    have hl2 : c_last X2 c = xv X b 0 + xv X (b + 12) i - 1 := by simp only [c_last, e2c]; omega
    have hf2 : 0 ≤ xv X2 c 0 ∧ xv X2 c 0 ≤ 19 := by omega
    refine r_aload_n (i := 2) (pc' := 42) dX1_takeOffer_41 rfl rfl (.tail _ (.tail _ (.head _))) ?_
    refine r_aload_n (i := 0) (pc' := 43) dX1_takeOffer_42 rfl rfl (.head _) ?_
    refine r_getI (pc' := 46) dX1_takeOffer_43 rfl fX1_63 rfl (by first | assumption | rfl) (by omega) ?_
    rw [e2 _ (by omega), e1b]
    refine r_aload_n (i := 0) (pc' := 47) dX1_takeOffer_46 rfl rfl (.head _) ?_
    refine r_getR (pc' := 50) dX1_takeOffer_47 rfl fX1_50 rfl (by first | assumption | rfl) (by omega) (by assumption) ?_
    refine r_getR (pc' := 53) dX1_takeOffer_50 rfl fX1_137 rfl (by first | assumption | rfl) (by omega) (by assumption) ?_
    refine r_iload_n (i := 1) (pc' := 54) dX1_takeOffer_53 rfl rfl (.tail _ (.head _)) ?_
    refine r_iaload (pc' := 55) dX1_takeOffer_54 rfl (by first | assumption | rfl) (by omega) (by omega) (by omega) (by first | decide | omega) (Int.toNat_natCast _) ?_
    rw [e2 _ (by omega), e1 _ (by omega)]
    refine r_V2gv (ci := 4) (pc' := 58) dX1_takeOffer_55 rfl lX1_140 rfl (by decide) (Nat.le_of_ble_eq_true rfl) (by first | assumption | rfl) (by omega) (tX4_spread hc hf2 (by omega) (by omega) (by omega)) (fun n55 P55 X55 Y55 e55 le55 => ?_)
    obtain ⟨rfl, rfl, rfl, rfl⟩ := e55
    have e3 : ∀ a, a ≠ c + 3 ∧ a ≠ c + 4 → xv (c_spread X2 c (xv X b 0) (xv X (b + 13) i)) a = xv X2 a := fun a ha => c_spread_o _ _ _ _ ha
    generalize hX3 : c_spread X2 c (xv X b 0) (xv X (b + 13) i) = X3 at *
    refine r_iconst (pc' := 59) dX1_takeOffer_58 rfl ?_
    refine r_istore_n (i := 3) (pc' := 60) dX1_takeOffer_59 rfl rfl rfl (.s1 (.s1 (.s1 .nil rfl rfl rfl) rfl rfl rfl) rfl rfl rfl) ?_
    refine lX1_takeOffer (m := (xv X (b + 12) i).toNat) (B := xv X (b + 14) i) hb hc (by omega) (by omega) (by omega) (by rw [e3 _ (by omega)]; omega) (by rw [e3 _ (by omega), e2 _ (by omega), e1 _ (by omega)]) ?_ (xv X (b + 12) i).toNat 0 (by omega)
    have e4 : ∀ a, a ≠ c + 1 ∧ a ≠ c + 2 → xv (c_putN X3 c 0 (xv X (b + 14) i) (xv X (b + 12) i).toNat) a = xv X3 a := fun a ha => c_putN_o _ _ _ _ ha _
    generalize hX4 : c_putN X3 c 0 (xv X (b + 14) i) (xv X (b + 12) i).toNat = X4 at *
    have h10 : xv X4 (b + 10) 0 = xv X (b + 10) 0 := by rw [e4 _ (by omega), e3 _ (by omega), e2 _ (by omega), e1 _ (by omega)]
    have hbs : xv (mk_rem X4 (b + 10) i) b 10 = xv X b 10 + 1 := by rw [mk_rem, xv_up_ne _ _ (by omega), mk_sh_o _ _ _ _ (by omega), e4 _ (by omega), e3 _ (by omega), e2 _ (by omega), e1s]
    refine r_aload_n (i := 0) (pc' := 90) dX1_takeOffer_89 rfl rfl (.head _) ?_
    refine r_getR (pc' := 93) dX1_takeOffer_90 rfl fX1_50 rfl (by first | assumption | rfl) (by omega) (by assumption) ?_
    refine r_iload_n (i := 1) (pc' := 94) dX1_takeOffer_93 rfl rfl (.tail _ (.head _)) ?_
    refine r_V1gv (ci := 7) (pc' := 97) dX1_takeOffer_94 rfl lX1_151 rfl (by decide) (Nat.le_of_ble_eq_true rfl) (by first | assumption | rfl) (by omega) (tX7_remove hmar (by omega) (by omega)) (fun n94 P94 X94 Y94 e94 le94 => ?_)
    obtain ⟨rfl, rfl, rfl, rfl⟩ := e94
    refine r_aload_n (i := 0) (pc' := 98) dX1_takeOffer_97 rfl rfl (.head _) ?_
    refine r_getI (pc' := 101) dX1_takeOffer_98 rfl fX1_75 rfl (by first | assumption | rfl) (by omega) ?_
    rw [hbs]
    refine r_iconst (pc' := 102) dX1_takeOffer_101 rfl ?_
    refine r_isub (pc' := 103) dX1_takeOffer_102 rfl ?_
    refine r_ireturn dX1_takeOffer_103 rfl ?_
    refine ⟨_, rfl, rfl, rfl, rfl, ?_, ?_⟩
    · rw [bk_take, bk_t3, hcc, hX1, hX2, hX3, hX4]
    · omega
  · exfalso; omega
