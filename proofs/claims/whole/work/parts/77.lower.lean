theorem RB.fc {C C' : q_X} {b k : Nat} {R R' : Nat → Int} (h : RB C b R) (hT : xv C (b + 15) 0 ≤ 80) (hk0 : k < 40) (hC : ∀ a, (a < con b k ∨ con b k + 4 < a) → xv C' a = xv C a) (e : ∀ j, (j < 130 + 86 * k ∨ 130 + 86 * k + 86 ≤ j) → R' j = R j) (hc : (k : Int) < xv C b 10 → RC C' (con b k) (fun j => R' (130 + 86 * k + j))) : RB C' b R' := by
  obtain ⟨⟨h1, h2⟩, h3, h4, h5, h6, h7⟩ := h
  have cz : ∀ d, d < 20 → xv C' (b + d) = xv C (b + d) := fun d hd => hC _ (by unfold con; omega)
  have z0 : xv C' b = xv C b := cz 0 (by omega)
  refine ⟨⟨fun i hi => by rw [e _ (by omega), z0]; exact h1 i hi, by rw [e 7 (by omega), z0]; exact h2⟩, fun y hy => by rw [e _ (by omega), e _ (by omega), cz 1 (by omega), cz 2 (by omega)]; exact h3 y hy, fun i hi => ?_, ?_, ?_, ?_⟩
  · rw [z0] at hi
    by_cases ek : i = k
    · subst ek; exact hc hi
    · have hag : cAg C C' (con b i) := fun d hd => hC _ (by unfold con; omega)
      refine ⟨fun q hq => ?_, fun y hy => ?_⟩
      · dsimp only; rw [e _ (by omega), hag.z]; exact (h4 i hi).1 q hq
      · dsimp only; rw [e _ (by omega), e _ (by omega), e _ (by omega), e _ (by omega), c_base_ag hag, c_roster_ag hag, c_parts_ag hag, c_given_ag hag]; exact (h4 i hi).2 y hy
  · unfold RM
    rw [cz 10 (by omega), cz 11 (by omega), cz 12 (by omega), cz 13 (by omega), cz 14 (by omega)]
    refine ⟨by rw [e _ (by omega)]; exact h5.1, fun i hi => ?_⟩
    rw [e _ (by omega), e _ (by omega), e _ (by omega), e _ (by omega)]; exact h5.2 i hi
  · unfold RP
    rw [cz 4 (by omega), cz 5 (by omega), cz 6 (by omega), cz 7 (by omega), cz 8 (by omega), cz 9 (by omega)]
    refine ⟨by rw [e _ (by omega)]; exact h6.1, fun i hi => ?_⟩
    rw [e _ (by omega), e _ (by omega), e _ (by omega), e _ (by omega), e _ (by omega)]; exact h6.2 i hi
  · unfold RF
    rw [cz 15 (by omega), cz 16 (by omega)]
    refine ⟨by rw [e _ (by omega)]; exact h7.1, by rw [e _ (by omega), e _ (by omega)]; exact h7.2.1, fun i hi => ?_⟩
    rw [e _ (by omega)]; exact h7.2.2 i hi
theorem RB.ub {C X : q_X} {b k y : Nat} (h : RB C b (xv X 468)) (hT : xv C (b + 15) 0 ≤ 80) (hk0 : k < 40) (hp : c_plays C (con b k) (y : Int)) (hy : y < 20) (v : Int32) : RB (q_up C (con b k + 1) ((y : Int) - xv C (con b k) 0).toNat v) b (xv (q_up X 468 (130 + 86 * k + (6 + y)) v) 468) := by
  refine h.fc hT (k := k) hk0 (fun a ha => xv_up_row _ _ _ (by omega)) (fun j hj => xv_up_ne _ _ (by omega)) (fun hk => ?_)
  obtain ⟨r0, r1⟩ := h.2.2.1 k hk
  have z0 : xv (q_up C (con b k + 1) ((y : Int) - xv C (con b k) 0).toNat v) (con b k) = xv C (con b k) := xv_up_row _ _ _ (by omega)
  have z2 : xv (q_up C (con b k + 1) ((y : Int) - xv C (con b k) 0).toNat v) (con b k + 2) = xv C (con b k + 2) := xv_up_row _ _ _ (by omega)
  have z3 : xv (q_up C (con b k + 1) ((y : Int) - xv C (con b k) 0).toNat v) (con b k + 3) = xv C (con b k + 3) := xv_up_row _ _ _ (by omega)
  have z4 : xv (q_up C (con b k + 1) ((y : Int) - xv C (con b k) 0).toNat v) (con b k + 4) = xv C (con b k + 4) := xv_up_row _ _ _ (by omega)
  refine ⟨fun j hj => ?_, fun w hw => ?_⟩
  · dsimp only; rw [xv_up_ne _ _ (by omega), z0]; exact r0 j hj
  · obtain ⟨w1, w2, w3, w4⟩ := r1 w hw
    dsimp only at w1 w2 w3 w4 ⊢
    refine ⟨?_, ?_, ?_, ?_⟩
    · by_cases q : w = y
      · subst q
        unfold c_base c_plays
        rw [z0, if_pos hp]; simp only [xv, q_up_same]
      · rw [xv_up_ne _ _ (by omega), w1]
        unfold c_base c_plays
        rw [z0]
        by_cases g : xv C (con b k) 0 ≤ (w : Int) ∧ (w : Int) - xv C (con b k) 0 < xv C (con b k) 1 ∧ (w : Int) - xv C (con b k) 0 < 10
        · rw [if_pos g, if_pos g, xv_up_ne _ _ (by omega)]
        · rw [if_neg g, if_neg g]
    · rw [xv_up_ne _ _ (by omega), w2]; unfold c_roster c_plays; rw [z0, z2]
    · rw [xv_up_ne _ _ (by omega), w3]; unfold c_parts; rw [z0, z3]
    · rw [xv_up_ne _ _ (by omega), w4]; unfold c_given; rw [z0, z4]
set_option maxHeartbeats 4000000 in
set_option maxRecDepth 100000 in
theorem tX12_whyNotLess {l : Launch} {g : q_G} {n : Nat} {P : q_P} {X : q_X} {Y : q_Y} (hm : isMod n P) {C : q_X} {b : Nat} (hR : RB C b (xv X 468)) (hO : bOk C b) {k : Int} (hki : q_in k) {v : Int} (hv : q_in v) : q_Met l g mX12_whyNotLess 4 [.ref (g.1 + 467), .int (zi k), .int (zi v)] n P X Y (q_pv (.int (zi (bk_pref C b k v))) n P X Y) := by
  obtain ⟨m0, m2, m3, m8, m9, m14, m15, m16, m17, m18, m20, m22, m25, hnm9⟩ := id hm
  obtain ⟨o0, o1, o2, o3, o4, o5, o6, o10, oc, op0, opz, opi, om0, omi, olim⟩ := id hO
  have hin := bk_ref_in C b k
  refine q_enter (L := [(0, .ref (g.1 + 467)), (1, .int (zi k)), (2, .int (zi v))]) (by decide) (Nat.le_of_ble_eq_true rfl) rfl ?_
  by_cases hk0 : bk_ref C b k = 0
  · have hh := bk_ref_has hk0
    obtain ⟨kn, rfl⟩ : ∃ kn : Nat, k = (kn : Int) := ⟨k.toNat, by omega⟩
    have hk2 : (kn : Int) < xv C b 10 := hh.2
    have hck := hO.c hk2
    have hbb := c_base_b hck (xv C b 0)
    refine r_aload_n (i := 0) (pc' := 1) dX12_whyNotLess_0 rfl rfl (.head _) ?_
    refine r_iload_n (i := 1) (pc' := 2) dX12_whyNotLess_1 rfl rfl (.tail _ (.head _)) ?_
    refine r_V1p (ci := 12) (pc' := 5) dX12_whyNotLess_2 rfl lX12_278 rfl (by decide) (Nat.le_of_ble_eq_true rfl) (by first | assumption | rfl) (by omega) (tX12_whyNot (by assumption) (by assumption) (by assumption) (by first | omega | assumption)) ?_
    refine r_istore_n (i := 3) (pc' := 6) dX12_whyNotLess_5 rfl rfl rfl (.s1 (.s1 (.s1 .nil rfl rfl rfl) rfl rfl rfl) rfl rfl rfl) ?_
    refine r_iload_n (i := 3) (pc' := 7) dX12_whyNotLess_6 rfl rfl (.tail _ (.tail _ (.tail _ (.head _)))) ?_
    refine r_if_eq (t := 14) (f := 10) dX12_whyNotLess_7 (by decide) rfl (by first | omega | exact xv_in _ _ _) (fun h7 => ?_) (fun h7 => ?_)
    · refine r_iload_n (i := 2) (pc' := 15) dX12_whyNotLess_14 rfl rfl (.tail _ (.tail _ (.head _))) ?_
      refine r_i2l (pc' := 16) dX12_whyNotLess_15 rfl rfl ?_
      refine r_lconst (pc' := 17) (z := 1) dX12_whyNotLess_16 rfl rfl ?_
      refine r_ldc2 (pc' := 20) dX12_whyNotLess_17 rfl kX12_287 ?_
      refine r_S3p (pc' := 23) dX12_whyNotLess_20 rfl lX12_68 (by decide) (Nat.le_of_ble_eq_true rfl) (tX12_isIn (by first | exact li_z (by omega) | exact li_z (xv_in _ _ _) | rfl) (by first | exact li_z (by omega) | exact li_z (xv_in _ _ _) | rfl) (by first | exact li_z (by omega) | exact li_z (xv_in _ _ _) | rfl)) ?_
      try simp only [i64_0, i64_1, i64_2, i64_3, i64_4, i64_5, i64_6, i64_7, i64_10, i64_19, i64_40, i64_100, i64_364, i64_9999, i64_99999, i64_999999, i64_m999999]
      refine r_bif_ne (t := 30) (f := 26) dX12_whyNotLess_23 (by decide) rfl (fun h23 => ?_) (fun h23 => ?_)
      · refine r_aload_n (i := 0) (pc' := 31) dX12_whyNotLess_30 rfl rfl (.head _) ?_
        refine r_iload_n (i := 1) (pc' := 32) dX12_whyNotLess_31 rfl rfl (.tail _ (.head _)) ?_
        refine r_bipush (pc' := 34) dX12_whyNotLess_32 rfl (by decide) ?_
        refine r_aload_n (i := 0) (pc' := 35) dX12_whyNotLess_34 rfl rfl (.head _) ?_
        refine r_getR (pc' := 38) dX12_whyNotLess_35 rfl fX12_3 rfl (by first | assumption | rfl) (by omega) (by assumption) ?_
        refine r_iconst (pc' := 39) dX12_whyNotLess_38 rfl ?_
        refine r_iaload (pc' := 40) dX12_whyNotLess_39 rfl (by first | assumption | rfl) (by omega) (by omega) (by omega) (by first | decide | omega) (show Int.toNat 0 = 0 from rfl) ?_
        rw [hR.z 0 (by decide)]
        refine r_iadd (pc' := 41) dX12_whyNotLess_40 rfl ?_
        refine r_V2p (ci := 12) (pc' := 44) dX12_whyNotLess_41 rfl lX12_115 rfl (by decide) (Nat.le_of_ble_eq_true rfl) (by first | assumption | rfl) (by omega) (tO_b hm hR hO hk2 (by omega)) ?_
        refine r_iload_n (i := 2) (pc' := 45) dX12_whyNotLess_44 rfl rfl (.tail _ (.tail _ (.head _))) ?_
        refine r_isub (pc' := 46) dX12_whyNotLess_45 rfl ?_
        refine r_aload_n (i := 0) (pc' := 47) dX12_whyNotLess_46 rfl rfl (.head _) ?_
        refine r_getR (pc' := 50) dX12_whyNotLess_47 rfl fX12_3 rfl (by first | assumption | rfl) (by omega) (by assumption) ?_
        refine r_bipush (pc' := 52) dX12_whyNotLess_50 rfl (by decide) ?_
        refine r_iaload (pc' := 53) dX12_whyNotLess_52 rfl (by first | assumption | rfl) (by omega) (by omega) (by omega) (by first | decide | omega) (show Int.toNat 6 = 6 from rfl) ?_
        rw [hR.z 6 (by decide)]
        refine r_icmp_ge (t := 60) (f := 56) dX12_whyNotLess_53 (by decide) rfl (by first | omega | exact xv_in _ _ _) (by first | omega | exact xv_in _ _ _) (fun h53 => ?_) (fun h53 => ?_)
        · refine r_iconst (pc' := 61) dX12_whyNotLess_60 rfl ?_
          refine r_ireturn dX12_whyNotLess_61 rfl ?_
          refine ⟨?_, rfl, rfl, rfl, rfl⟩
          unfold bk_pref
          rw [if_neg (fun q => q hk0), Int.toNat_natCast]
          (repeat' split) <;> first | rfl | (exfalso; omega)
        · refine r_iconst (pc' := 57) dX12_whyNotLess_56 rfl ?_
          refine r_goto (t := 61) dX12_whyNotLess_57 (by decide) ?_
          refine r_ireturn dX12_whyNotLess_61 rfl ?_
          refine ⟨?_, rfl, rfl, rfl, rfl⟩
          unfold bk_pref
          rw [if_neg (fun q => q hk0), Int.toNat_natCast]
          (repeat' split) <;> first | rfl | (exfalso; omega)
      · refine r_iconst (pc' := 27) dX12_whyNotLess_26 rfl ?_
        refine r_goto (t := 61) dX12_whyNotLess_27 (by decide) ?_
        refine r_ireturn dX12_whyNotLess_61 rfl ?_
        refine ⟨?_, rfl, rfl, rfl, rfl⟩
        unfold bk_pref
        rw [if_neg (fun q => q hk0), Int.toNat_natCast]
        (repeat' split) <;> first | rfl | (exfalso; omega)
    · exfalso; omega
  · refine r_aload_n (i := 0) (pc' := 1) dX12_whyNotLess_0 rfl rfl (.head _) ?_
    refine r_iload_n (i := 1) (pc' := 2) dX12_whyNotLess_1 rfl rfl (.tail _ (.head _)) ?_
    refine r_V1p (ci := 12) (pc' := 5) dX12_whyNotLess_2 rfl lX12_278 rfl (by decide) (Nat.le_of_ble_eq_true rfl) (by first | assumption | rfl) (by omega) (tX12_whyNot (by assumption) (by assumption) (by assumption) (by first | omega | assumption)) ?_
    refine r_istore_n (i := 3) (pc' := 6) dX12_whyNotLess_5 rfl rfl rfl (.s1 (.s1 (.s1 .nil rfl rfl rfl) rfl rfl rfl) rfl rfl rfl) ?_
    refine r_iload_n (i := 3) (pc' := 7) dX12_whyNotLess_6 rfl rfl (.tail _ (.tail _ (.tail _ (.head _)))) ?_
    refine r_if_eq (t := 14) (f := 10) dX12_whyNotLess_7 (by decide) rfl (by first | omega | exact xv_in _ _ _) (fun h7 => ?_) (fun h7 => ?_)
    · exfalso; omega
    · refine r_iload_n (i := 3) (pc' := 11) dX12_whyNotLess_10 rfl rfl (.tail _ (.tail _ (.tail _ (.head _)))) ?_
      refine r_goto (t := 61) dX12_whyNotLess_11 (by decide) ?_
      refine r_ireturn dX12_whyNotLess_61 rfl ?_
      refine ⟨?_, rfl, rfl, rfl, rfl⟩
      unfold bk_pref
      rw [if_pos hk0]
