set_option maxHeartbeats 4000000 in
set_option maxRecDepth 100000 in
theorem tX12_whyNotSign {l : Launch} {g : q_G} {n : Nat} {P : q_P} {X : q_X} {Y : q_Y} (hm : isMod n P) {C : q_X} {b : Nat} (hR : RB C b (xv X 468)) (hO : bOk C b) {i : Int} (hi : q_in i) : q_Met l g mX12_whyNotSign 2 [.ref (g.1 + 467), .int (zi i)] n P X Y (q_pv (.int (zi (bk_sref C b i))) n P X Y) := by
  obtain ⟨m0, m2, m3, m8, m9, m14, m15, m16, m17, m18, m20, m22, m25, hnm9⟩ := id hm
  obtain ⟨o0, o1, o2, o3, o4, o5, o6, o10, oc, op0, opz, opi, om0, omi, olim⟩ := id hO
  refine q_enter (L := [(0, .ref (g.1 + 467)), (1, .int (zi i))]) (by decide) (Nat.le_of_ble_eq_true rfl) rfl ?_
  by_cases hp : 0 ≤ i ∧ i < xv C (b + 10) 0
  · obtain ⟨j, rfl⟩ : ∃ j : Nat, i = (j : Int) := ⟨i.toNat, by omega⟩
    have hoj := omi j hp.2
    refine r_aload_n (i := 0) (pc' := 1) dX12_whyNotSign_0 rfl rfl (.head _) ?_
    refine r_iload_n (i := 1) (pc' := 2) dX12_whyNotSign_1 rfl rfl (.tail _ (.head _)) ?_
    refine r_V1p (ci := 12) (pc' := 5) dX12_whyNotSign_2 rfl lX12_294 rfl (by decide) (Nat.le_of_ble_eq_true rfl) (by first | assumption | rfl) (by omega) (tX12_isOffer (by assumption) (by assumption) (by assumption) (by omega)) ?_
    refine r_bif_ne (t := 12) (f := 8) dX12_whyNotSign_5 (by decide) rfl (fun h5 => ?_) (fun h5 => ?_)
    · refine r_aload_n (i := 0) (pc' := 13) dX12_whyNotSign_12 rfl rfl (.head _) ?_
      refine r_getR (pc' := 16) dX12_whyNotSign_13 rfl fX12_3 rfl (by first | assumption | rfl) (by omega) (by assumption) ?_
      refine r_iconst (pc' := 17) dX12_whyNotSign_16 rfl ?_
      refine r_iaload (pc' := 18) dX12_whyNotSign_17 rfl (by first | assumption | rfl) (by omega) (by omega) (by omega) (by first | decide | omega) (show Int.toNat 0 = 0 from rfl) ?_
      rw [hR.z 0 (by decide)]
      refine r_aload_n (i := 0) (pc' := 19) dX12_whyNotSign_18 rfl rfl (.head _) ?_
      refine r_getR (pc' := 22) dX12_whyNotSign_19 rfl fX12_3 rfl (by first | assumption | rfl) (by omega) (by assumption) ?_
      refine r_sipush (pc' := 25) dX12_whyNotSign_22 rfl (by decide) ?_
      refine r_iconst (pc' := 26) dX12_whyNotSign_25 rfl ?_
      refine r_iload_n (i := 1) (pc' := 27) dX12_whyNotSign_26 rfl rfl (.tail _ (.head _)) ?_
      refine r_imul (pc' := 28) dX12_whyNotSign_27 rfl ?_
      refine r_iadd (pc' := 29) dX12_whyNotSign_28 rfl ?_
      refine r_iconst (pc' := 30) dX12_whyNotSign_29 rfl ?_
      refine r_iadd (pc' := 31) dX12_whyNotSign_30 rfl ?_
      refine r_iaload (pc' := 32) dX12_whyNotSign_31 rfl (by first | assumption | rfl) (by omega) (by omega) (by omega) (by first | decide | omega) (show _ = 3572 + 4 * j + 1 by omega) ?_
      rw [(hR.2.2.2.1.2 j hp.2).2.1]
      refine r_iadd (pc' := 33) dX12_whyNotSign_32 rfl ?_
      refine r_bipush (pc' := 35) dX12_whyNotSign_33 rfl (by decide) ?_
      refine r_icmp_gt (t := 50) (f := 38) dX12_whyNotSign_35 (by decide) rfl (by first | omega | exact xv_in _ _ _) (by first | omega | exact xv_in _ _ _) (fun h35 => ?_) (fun h35 => ?_)
      · refine r_bipush (pc' := 52) dX12_whyNotSign_50 rfl (by decide) ?_
        refine r_goto (t := 56) dX12_whyNotSign_52 (by decide) ?_
        refine r_ireturn dX12_whyNotSign_56 rfl ?_
        refine ⟨?_, rfl, rfl, rfl, rfl⟩
        unfold bk_sref
        rw [if_neg (fun q => q hp), Int.toNat_natCast]
        first
          | (rw [if_pos (by omega)]; done)
          | (rw [if_neg (by omega)]; done)
      · refine r_aload_n (i := 0) (pc' := 39) dX12_whyNotSign_38 rfl rfl (.head _) ?_
        refine r_getR (pc' := 42) dX12_whyNotSign_39 rfl fX12_3 rfl (by first | assumption | rfl) (by omega) (by assumption) ?_
        refine r_bipush (pc' := 44) dX12_whyNotSign_42 rfl (by decide) ?_
        refine r_iaload (pc' := 45) dX12_whyNotSign_44 rfl (by first | assumption | rfl) (by omega) (by omega) (by omega) (by first | decide | omega) (show Int.toNat 7 = 7 from rfl) ?_
        rw [hR.m]
        refine r_bipush (pc' := 47) dX12_whyNotSign_45 rfl (by decide) ?_
        refine r_icmp_ne (t := 55) (f := 50) dX12_whyNotSign_47 (by decide) rfl (by first | omega | exact xv_in _ _ _) (by first | omega | exact xv_in _ _ _) (fun h47 => ?_) (fun h47 => ?_)
        · refine r_iconst (pc' := 56) dX12_whyNotSign_55 rfl ?_
          refine r_ireturn dX12_whyNotSign_56 rfl ?_
          refine ⟨?_, rfl, rfl, rfl, rfl⟩
          unfold bk_sref
          rw [if_neg (fun q => q hp), Int.toNat_natCast]
          first
            | (rw [if_pos (by omega)]; done)
            | (rw [if_neg (by omega)]; done)
        · refine r_bipush (pc' := 52) dX12_whyNotSign_50 rfl (by decide) ?_
          refine r_goto (t := 56) dX12_whyNotSign_52 (by decide) ?_
          refine r_ireturn dX12_whyNotSign_56 rfl ?_
          refine ⟨?_, rfl, rfl, rfl, rfl⟩
          unfold bk_sref
          rw [if_neg (fun q => q hp), Int.toNat_natCast]
          first
            | (rw [if_pos (by omega)]; done)
            | (rw [if_neg (by omega)]; done)
    · exfalso; omega
  · refine r_aload_n (i := 0) (pc' := 1) dX12_whyNotSign_0 rfl rfl (.head _) ?_
    refine r_iload_n (i := 1) (pc' := 2) dX12_whyNotSign_1 rfl rfl (.tail _ (.head _)) ?_
    refine r_V1p (ci := 12) (pc' := 5) dX12_whyNotSign_2 rfl lX12_294 rfl (by decide) (Nat.le_of_ble_eq_true rfl) (by first | assumption | rfl) (by omega) (tX12_isOffer (by assumption) (by assumption) (by assumption) (by omega)) ?_
    refine r_bif_ne (t := 12) (f := 8) dX12_whyNotSign_5 (by decide) rfl (fun h5 => ?_) (fun h5 => ?_)
    · exfalso; omega
    · refine r_iconst (pc' := 9) dX12_whyNotSign_8 rfl ?_
      refine r_goto (t := 56) dX12_whyNotSign_9 (by decide) ?_
      refine r_ireturn dX12_whyNotSign_56 rfl ?_
      refine ⟨?_, rfl, rfl, rfl, rfl⟩
      unfold bk_sref
      rw [if_pos hp]
def lgN (X : q_X) (a : Nat) (v : Int) : Nat → q_X
  | 0 => X
  | i + 1 => q_up (lgN X a v i) 468 (a + i) (zi v)
theorem lgN_at {X : q_X} {a : Nat} {v : Int} (hv : q_in v) (j : Nat) : ∀ m, xv (lgN X a v m) 468 j = if a ≤ j ∧ j < a + m then v else xv X 468 j
  | 0 => by rw [lgN, if_neg (by omega)]
  | m + 1 => by
    rw [lgN]
    by_cases h : j = a + m
    · subst h; rw [xv_up_same _ _ _ hv, if_pos (by omega)]
    · rw [xv_up_ne _ _ (by omega), lgN_at hv j m]
      by_cases g : a ≤ j ∧ j < a + m
      · rw [if_pos g, if_pos (by omega)]
      · rw [if_neg g, if_neg (by omega)]
theorem lgN_out {X0 X : q_X} {a : Nat} {v : Int} (h : rOut X0 X) : ∀ m, a + m ≤ 3740 → rOut X0 (lgN X a v m)
  | 0, _ => h
  | m + 1, hm => (lgN_out h m (by omega)).up (by omega)
theorem c_putN_at {X : q_X} {c : Nat} {f v : Int} (hv : q_in v) (hf : 0 ≤ f) (j : Nat) : ∀ m : Nat, f + m ≤ 10 → xv (c_putN X c f v m) (c + 1) j = (if f ≤ (j : Int) ∧ (j : Int) < f + m then v else xv X (c + 1) j) ∧ xv (c_putN X c f v m) (c + 2) j = (if f ≤ (j : Int) ∧ (j : Int) < f + m then 0 else xv X (c + 2) j)
  | 0, _ => by rw [c_putN, if_neg (by omega), if_neg (by omega)]; exact ⟨rfl, rfl⟩
  | m + 1, h => by
    obtain ⟨q1, q2⟩ := c_putN_at (X := X) (c := c) hv hf j m (by omega)
    rw [c_putN, c_put, if_pos (by omega)]
    by_cases e : (j : Int) = f + m
    · have ej : (f + (m : Int)).toNat = j := by omega
      rw [ej, if_pos (by omega), if_pos (by omega), xv_up_ne _ _ (by omega), xv_up_same _ _ _ hv, xv_up_same _ _ _ (by omega)]
      exact ⟨rfl, rfl⟩
    · rw [xv_up_ne _ _ (by omega), xv_up_ne _ _ (by omega), xv_up_ne _ _ (by omega), xv_up_ne _ _ (by omega), q1, q2]
      by_cases g : f ≤ (j : Int) ∧ (j : Int) < f + m
      · rw [if_pos g, if_pos g, if_pos (by omega), if_pos (by omega)]; exact ⟨rfl, rfl⟩
      · rw [if_neg g, if_neg g, if_neg (by omega), if_neg (by omega)]; exact ⟨rfl, rfl⟩
