theorem c_base_first {X : q_X} {c : Nat} (h : cOk X c) : c_base X c (xv X c 0) = xv X (c + 1) 0 := by
  unfold c_base
  have := h.2.1
  rw [if_pos (by omega), show (xv X c 0 - xv X c 0).toNat = 0 by omega]
theorem RB.off {C : q_X} {b : Nat} {R : Nat → Int} (h : RB C b R) {i : Nat} (hi : (i : Int) < xv C (b + 10) 0) : R (3572 + 4 * i) = xv C (b + 11) i ∧ R (3572 + 4 * i + 1) = xv C (b + 12) i ∧ R (3572 + 4 * i + 2) = xv C (b + 13) i ∧ R (3572 + 4 * i + 3) = xv C (b + 14) i := h.2.2.2.1.2 i hi
theorem RB.pro {C : q_X} {b : Nat} {R : Nat → Int} (h : RB C b R) {i : Nat} (hi : (i : Int) < xv C (b + 4) 0) : R (3620 + 5 * i) = xv C (b + 5) i ∧ R (3620 + 5 * i + 1) = xv C (b + 6) i ∧ R (3620 + 5 * i + 2) = xv C (b + 7) i ∧ R (3620 + 5 * i + 3) = xv C (b + 8) i ∧ R (3620 + 5 * i + 4) = xv C (b + 9) i := h.2.2.2.2.1.2 i hi
def pr_of (C : q_X) (b : Nat) (k y l e : Int) : Int := q_sum (fun i => if xv C (b + 5) i = k ∧ xv C (b + 6) i = y ∧ xv C (b + 8) i = l ∧ (e = -1 ∨ xv C (b + 9) i = e) then xv C (b + 7) i else 0) 0 (xv C (b + 4) 0).toNat
theorem pr_of_1 {C : q_X} {b : Nat} (hO : bOk C b) (k y : Int) : pr_of C b k y 1 (-1) = q_sum (fun j => if ¬ xv C (b + 8) j = 0 ∧ xv C (b + 5) j = k ∧ xv C (b + 6) j = y then xv C (b + 7) j else 0) 0 (xv C (b + 4) 0).toNat := by
  have h4 := hO.2.2.2.2.2.2.2.2.2.1
  have hz := hO.2.2.2.2.2.2.2.2.2.2.1
  unfold pr_of
  refine q_sum_congr _ _ (fun i _ hi => ?_)
  have := (hz i (by omega)).1
  by_cases h : xv C (b + 5) i = k ∧ xv C (b + 6) i = y ∧ xv C (b + 8) i = 1
  · rw [if_pos ⟨h.1, h.2.1, h.2.2, Or.inl rfl⟩, if_pos (by omega)]
  · rw [if_neg (fun q => h ⟨q.1, q.2.1, q.2.2.1⟩), if_neg (by omega)]
set_option maxHeartbeats 4000000 in
set_option maxRecDepth 100000 in
theorem tX12_canCut {l : Launch} {g : q_G} {n : Nat} {P : q_P} {X : q_X} {Y : q_Y} (hm : isMod n P) {C : q_X} {b : Nat} (hR : RB C b (xv X 468)) (hO : bOk C b) {k : Int} (hki : q_in k) : q_Met l g mX12_canCut 3 [.ref (g.1 + 467), .int (zi k)] n P X Y (q_pv (.int (zi (if bk_ref C b k = 0 then 1 else 0))) n P X Y) := by
  obtain ⟨m0, m2, m3, m8, m9, m14, m15, m16, m17, m18, m20, m22, m25, hnm9⟩ := id hm
  obtain ⟨o0, o1, o2, o3, o4, o5, o6, o10, oc, op0, opz, opi, om0, omi, olim⟩ := id hO
  refine q_enter (L := [(0, .ref (g.1 + 467)), (1, .int (zi k))]) (by decide) (Nat.le_of_ble_eq_true rfl) rfl ?_
  refine r_aload_n (i := 0) (pc' := 1) dX12_canCut_0 rfl rfl (.head _) ?_
  refine r_iload_n (i := 1) (pc' := 2) dX12_canCut_1 rfl rfl (.tail _ (.head _)) ?_
  by_cases hk : bk_has C b k
  · obtain ⟨kn, rfl⟩ : ∃ kn : Nat, k = (kn : Int) := ⟨k.toNat, by omega⟩
    have hkk : (kn : Int) < xv C b 10 := hk.2
    have hck := hO.c hkk
    obtain ⟨hf, hf2, hf3, hf4, hfj, hfs, hfg⟩ := id hck
    refine r_V1p (ci := 12) (pc' := 5) dX12_canCut_2 rfl lX12_206 rfl (by decide) (Nat.le_of_ble_eq_true rfl) (by first | assumption | rfl) (by omega) (tX12_isContract (by assumption) (by assumption) (by assumption) (by omega)) ?_
    refine r_bif_eq (t := 35) (f := 8) dX12_canCut_5 (by decide) rfl (fun h5 => ?_) (fun h5 => ?_)
    · exfalso; omega
    · refine r_aload_n (i := 0) (pc' := 9) dX12_canCut_8 rfl rfl (.head _) ?_
      refine r_iload_n (i := 1) (pc' := 10) dX12_canCut_9 rfl rfl (.tail _ (.head _)) ?_
      refine r_V1p (ci := 12) (pc' := 13) dX12_canCut_10 rfl lX12_209 rfl (by decide) (Nat.le_of_ble_eq_true rfl) (by first | assumption | rfl) (by omega) (tX12_isOpen (by assumption) (by assumption) (by assumption) (by assumption)) ?_
      refine r_bif_eq (t := 35) (f := 16) dX12_canCut_13 (by decide) rfl (fun h13 => ?_) (fun h13 => ?_)
      · refine r_iconst (pc' := 36) dX12_canCut_35 rfl ?_
        refine r_zreturn dX12_canCut_36 rfl (by first | decide | (split <;> omega) | omega) ?_
        refine ⟨?_, rfl, rfl, rfl, rfl⟩
        unfold bk_ref
        try simp only [Int.toNat_natCast]
        (repeat' split) <;> first | rfl | (exfalso; omega) | (congr 3; omega)
      · refine r_aload_n (i := 0) (pc' := 17) dX12_canCut_16 rfl rfl (.head _) ?_
        refine r_iload_n (i := 1) (pc' := 18) dX12_canCut_17 rfl rfl (.tail _ (.head _)) ?_
        refine r_iconst (pc' := 19) dX12_canCut_18 rfl ?_
        refine r_V2p (ci := 12) (pc' := 22) dX12_canCut_19 rfl lX12_115 rfl (by decide) (Nat.le_of_ble_eq_true rfl) (by first | assumption | rfl) (by omega) (tO_0 hm hR hO (by first | assumption | omega)) ?_
        refine r_aload_n (i := 0) (pc' := 23) dX12_canCut_22 rfl rfl (.head _) ?_
        refine r_getR (pc' := 26) dX12_canCut_23 rfl fX12_3 rfl (by first | assumption | rfl) (by omega) (by assumption) ?_
        refine r_iconst (pc' := 27) dX12_canCut_26 rfl ?_
        refine r_iaload (pc' := 28) dX12_canCut_27 rfl (by first | assumption | rfl) (by omega) (by omega) (by omega) (by first | decide | omega) (show Int.toNat 0 = 0 from rfl) ?_
        rw [hR.z 0 (by decide)]
        refine r_icmp_gt (t := 35) (f := 31) dX12_canCut_28 (by decide) rfl (by first | omega | exact xv_in _ _ _) (by first | omega | exact xv_in _ _ _) (fun h28 => ?_) (fun h28 => ?_)
        · refine r_iconst (pc' := 36) dX12_canCut_35 rfl ?_
          refine r_zreturn dX12_canCut_36 rfl (by first | decide | (split <;> omega) | omega) ?_
          refine ⟨?_, rfl, rfl, rfl, rfl⟩
          unfold bk_ref
          try simp only [Int.toNat_natCast]
          (repeat' split) <;> first | rfl | (exfalso; omega) | (congr 3; omega)
        · refine r_iconst (pc' := 32) dX12_canCut_31 rfl ?_
          refine r_goto (t := 36) dX12_canCut_32 (by decide) ?_
          refine r_zreturn dX12_canCut_36 rfl (by first | decide | (split <;> omega) | omega) ?_
          refine ⟨?_, rfl, rfl, rfl, rfl⟩
          unfold bk_ref
          try simp only [Int.toNat_natCast]
          (repeat' split) <;> first | rfl | (exfalso; omega) | (congr 3; omega)
  · refine r_V1p (ci := 12) (pc' := 5) dX12_canCut_2 rfl lX12_206 rfl (by decide) (Nat.le_of_ble_eq_true rfl) (by first | assumption | rfl) (by omega) (tX12_isContract (by assumption) (by assumption) (by assumption) (by omega)) ?_
    refine r_bif_eq (t := 35) (f := 8) dX12_canCut_5 (by decide) rfl (fun h5 => ?_) (fun h5 => ?_)
    · refine r_iconst (pc' := 36) dX12_canCut_35 rfl ?_
      refine r_zreturn dX12_canCut_36 rfl (by first | decide | (split <;> omega) | omega) ?_
      refine ⟨?_, rfl, rfl, rfl, rfl⟩
      unfold bk_ref
      try simp only [Int.toNat_natCast]
      (repeat' split) <;> first | rfl | (exfalso; omega) | (congr 3; omega)
    · exfalso; omega
set_option maxHeartbeats 4000000 in
set_option maxRecDepth 100000 in
theorem tX12_whyNot {l : Launch} {g : q_G} {n : Nat} {P : q_P} {X : q_X} {Y : q_Y} (hm : isMod n P) {C : q_X} {b : Nat} (hR : RB C b (xv X 468)) (hO : bOk C b) {k : Int} (hki : q_in k) : q_Met l g mX12_whyNot 3 [.ref (g.1 + 467), .int (zi k)] n P X Y (q_pv (.int (zi (bk_ref C b k))) n P X Y) := by
  obtain ⟨m0, m2, m3, m8, m9, m14, m15, m16, m17, m18, m20, m22, m25, hnm9⟩ := id hm
  obtain ⟨o0, o1, o2, o3, o4, o5, o6, o10, oc, op0, opz, opi, om0, omi, olim⟩ := id hO
  refine q_enter (L := [(0, .ref (g.1 + 467)), (1, .int (zi k))]) (by decide) (Nat.le_of_ble_eq_true rfl) rfl ?_
  refine r_aload_n (i := 0) (pc' := 1) dX12_whyNot_0 rfl rfl (.head _) ?_
  refine r_iload_n (i := 1) (pc' := 2) dX12_whyNot_1 rfl rfl (.tail _ (.head _)) ?_
  by_cases hk : bk_has C b k
  · obtain ⟨kn, rfl⟩ : ∃ kn : Nat, k = (kn : Int) := ⟨k.toNat, by omega⟩
    have hkk : (kn : Int) < xv C b 10 := hk.2
    have hck := hO.c hkk
    obtain ⟨hf, hf2, hf3, hf4, hfj, hfs, hfg⟩ := id hck
    refine r_V1p (ci := 12) (pc' := 5) dX12_whyNot_2 rfl lX12_206 rfl (by decide) (Nat.le_of_ble_eq_true rfl) (by first | assumption | rfl) (by omega) (tX12_isContract (by assumption) (by assumption) (by assumption) (by omega)) ?_
    refine r_bif_ne (t := 12) (f := 8) dX12_whyNot_5 (by decide) rfl (fun h5 => ?_) (fun h5 => ?_)
    · refine r_aload_n (i := 0) (pc' := 13) dX12_whyNot_12 rfl rfl (.head _) ?_
      refine r_iload_n (i := 1) (pc' := 14) dX12_whyNot_13 rfl rfl (.tail _ (.head _)) ?_
      refine r_V1p (ci := 12) (pc' := 17) dX12_whyNot_14 rfl lX12_209 rfl (by decide) (Nat.le_of_ble_eq_true rfl) (by first | assumption | rfl) (by omega) (tX12_isOpen (by assumption) (by assumption) (by assumption) (by assumption)) ?_
      refine r_bif_ne (t := 24) (f := 20) dX12_whyNot_17 (by decide) rfl (fun h17 => ?_) (fun h17 => ?_)
      · refine r_aload_n (i := 0) (pc' := 25) dX12_whyNot_24 rfl rfl (.head _) ?_
        refine r_iload_n (i := 1) (pc' := 26) dX12_whyNot_25 rfl rfl (.tail _ (.head _)) ?_
        refine r_iconst (pc' := 27) dX12_whyNot_26 rfl ?_
        refine r_V2p (ci := 12) (pc' := 30) dX12_whyNot_27 rfl lX12_115 rfl (by decide) (Nat.le_of_ble_eq_true rfl) (by first | assumption | rfl) (by omega) (tO_0 hm hR hO (by first | assumption | omega)) ?_
        refine r_aload_n (i := 0) (pc' := 31) dX12_whyNot_30 rfl rfl (.head _) ?_
        refine r_getR (pc' := 34) dX12_whyNot_31 rfl fX12_3 rfl (by first | assumption | rfl) (by omega) (by assumption) ?_
        refine r_iconst (pc' := 35) dX12_whyNot_34 rfl ?_
        refine r_iaload (pc' := 36) dX12_whyNot_35 rfl (by first | assumption | rfl) (by omega) (by omega) (by omega) (by first | decide | omega) (show Int.toNat 0 = 0 from rfl) ?_
        rw [hR.z 0 (by decide)]
        refine r_icmp_le (t := 43) (f := 39) dX12_whyNot_36 (by decide) rfl (by first | omega | exact xv_in _ _ _) (by first | omega | exact xv_in _ _ _) (fun h36 => ?_) (fun h36 => ?_)
        · refine r_iconst (pc' := 44) dX12_whyNot_43 rfl ?_
          refine r_ireturn dX12_whyNot_44 rfl ?_
          refine ⟨?_, rfl, rfl, rfl, rfl⟩
          unfold bk_ref
          try simp only [Int.toNat_natCast]
          (repeat' split) <;> first | rfl | (exfalso; omega) | (congr 3; omega)
        · refine r_iconst (pc' := 40) dX12_whyNot_39 rfl ?_
          refine r_goto (t := 44) dX12_whyNot_40 (by decide) ?_
          refine r_ireturn dX12_whyNot_44 rfl ?_
          refine ⟨?_, rfl, rfl, rfl, rfl⟩
          unfold bk_ref
          try simp only [Int.toNat_natCast]
          (repeat' split) <;> first | rfl | (exfalso; omega) | (congr 3; omega)
      · refine r_iconst (pc' := 21) dX12_whyNot_20 rfl ?_
        refine r_goto (t := 44) dX12_whyNot_21 (by decide) ?_
        refine r_ireturn dX12_whyNot_44 rfl ?_
        refine ⟨?_, rfl, rfl, rfl, rfl⟩
        unfold bk_ref
        try simp only [Int.toNat_natCast]
        (repeat' split) <;> first | rfl | (exfalso; omega) | (congr 3; omega)
    · exfalso; omega
  · refine r_V1p (ci := 12) (pc' := 5) dX12_whyNot_2 rfl lX12_206 rfl (by decide) (Nat.le_of_ble_eq_true rfl) (by first | assumption | rfl) (by omega) (tX12_isContract (by assumption) (by assumption) (by assumption) (by omega)) ?_
    refine r_bif_ne (t := 12) (f := 8) dX12_whyNot_5 (by decide) rfl (fun h5 => ?_) (fun h5 => ?_)
    · exfalso; omega
    · refine r_iconst (pc' := 9) dX12_whyNot_8 rfl ?_
      refine r_goto (t := 44) dX12_whyNot_9 (by decide) ?_
      refine r_ireturn dX12_whyNot_44 rfl ?_
      refine ⟨?_, rfl, rfl, rfl, rfl⟩
      unfold bk_ref
      try simp only [Int.toNat_natCast]
      (repeat' split) <;> first | rfl | (exfalso; omega) | (congr 3; omega)
set_option maxHeartbeats 4000000 in
set_option maxRecDepth 100000 in
theorem tX12_hitOf {l : Launch} {g : q_G} {n : Nat} {P : q_P} {X : q_X} {Y : q_Y} (hm : isMod n P) {C : q_X} {b : Nat} (hR : RB C b (xv X 468)) (hO : bOk C b) {k : Nat} (hk : (k : Int) < xv C b 10) {y : Int} (hy : 0 ≤ y ∧ y < 20) : q_Met l g mX12_hitOf 2 [.ref (g.1 + 467), .int (zi (k : Int)), .int (zi y)] n P X Y (q_pv (.int (zi (c_hit C (con b k) y))) n P X Y) := by
  obtain ⟨m0, m2, m3, m8, m9, m14, m15, m16, m17, m18, m20, m22, m25, hnm9⟩ := id hm
  obtain ⟨o0, o1, o2, o3, o4, o5, o6, o10, oc, op0, opz, opi, om0, omi, olim⟩ := id hO
  have hck := hO.c hk
  obtain ⟨hf, hf2, hf3, hf4, hfj, hfs, hfg⟩ := id hck
  refine q_enter (L := [(0, .ref (g.1 + 467)), (1, .int (zi (k : Int))), (2, .int (zi y))]) (by decide) (Nat.le_of_ble_eq_true rfl) rfl ?_
  refine r_aload_n (i := 0) (pc' := 1) dX12_hitOf_0 rfl rfl (.head _) ?_
  refine r_iload_n (i := 1) (pc' := 2) dX12_hitOf_1 rfl rfl (.tail _ (.head _)) ?_
  refine r_bipush (pc' := 4) dX12_hitOf_2 rfl (by decide) ?_
  refine r_iload_n (i := 2) (pc' := 5) dX12_hitOf_4 rfl rfl (.tail _ (.tail _ (.head _))) ?_
  refine r_iadd (pc' := 6) dX12_hitOf_5 rfl ?_
  refine r_V2p (ci := 12) (pc' := 9) dX12_hitOf_6 rfl lX12_115 rfl (by decide) (Nat.le_of_ble_eq_true rfl) (by first | assumption | rfl) (by omega) (tO_p hm hR hO (by first | assumption | omega) (by omega)) ?_
  refine r_aload_n (i := 0) (pc' := 10) dX12_hitOf_9 rfl rfl (.head _) ?_
  refine r_iload_n (i := 1) (pc' := 11) dX12_hitOf_10 rfl rfl (.tail _ (.head _)) ?_
  refine r_bipush (pc' := 13) dX12_hitOf_11 rfl (by decide) ?_
  refine r_iload_n (i := 2) (pc' := 14) dX12_hitOf_13 rfl rfl (.tail _ (.tail _ (.head _))) ?_
  refine r_iadd (pc' := 15) dX12_hitOf_14 rfl ?_
  refine r_V2p (ci := 12) (pc' := 18) dX12_hitOf_15 rfl lX12_115 rfl (by decide) (Nat.le_of_ble_eq_true rfl) (by first | assumption | rfl) (by omega) (tO_b hm hR hO (by first | assumption | omega) (by omega)) ?_
  refine r_iadd (pc' := 19) dX12_hitOf_18 rfl ?_
  refine r_aload_n (i := 0) (pc' := 20) dX12_hitOf_19 rfl rfl (.head _) ?_
  refine r_iload_n (i := 1) (pc' := 21) dX12_hitOf_20 rfl rfl (.tail _ (.head _)) ?_
  refine r_bipush (pc' := 23) dX12_hitOf_21 rfl (by decide) ?_
  refine r_iload_n (i := 2) (pc' := 24) dX12_hitOf_23 rfl rfl (.tail _ (.tail _ (.head _))) ?_
  refine r_iadd (pc' := 25) dX12_hitOf_24 rfl ?_
  refine r_V2p (ci := 12) (pc' := 28) dX12_hitOf_25 rfl lX12_115 rfl (by decide) (Nat.le_of_ble_eq_true rfl) (by first | assumption | rfl) (by omega) (tO_r hm hR hO (by first | assumption | omega) (by omega)) ?_
  refine r_iadd (pc' := 29) dX12_hitOf_28 rfl ?_
  refine r_ireturn dX12_hitOf_29 rfl ?_
  refine ⟨?_, rfl, rfl, rfl, rfl⟩
  unfold c_hit
  (repeat' split) <;> first | rfl | (exfalso; omega) | (congr 3; omega)
set_option maxHeartbeats 4000000 in
set_option maxRecDepth 100000 in
theorem lX12_partsBehind {l : Launch} {g : q_G} {n : Nat} {P : q_P} {X : q_X} {Y : q_Y} (hm : isMod n P) {C : q_X} {b : Nat} (hR : RB C b (xv X 468)) (hO : bOk C b) {k : Nat} (hk : (k : Int) < xv C b 10) {y0 r : Int} : ∀ (w y : Nat) (s : Int), y + w = 20 → s + q_sum (fun y : Nat => c_parts C (con b k) (y : Int)) y w = r → q_Tr l g mX12_partsBehind 2 (q_pv (.int (zi r)) n P X Y) 5 [(0, .ref (g.1 + 467)), (1, .int (zi (k : Int))), (2, .int (zi y0)), (3, .int (zi s)), (4, .int (zi (y : Int)))] [] n P X Y := by
  obtain ⟨m0, m2, m3, m8, m9, m14, m15, m16, m17, m18, m20, m22, m25, hnm9⟩ := id hm
  obtain ⟨o0, o1, o2, o3, o4, o5, o6, o10, oc, op0, opz, opi, om0, omi, olim⟩ := id hO
  have hck := hO.c hk
  obtain ⟨hf, hf2, hf3, hf4, hfj, hfs, hfg⟩ := id hck
  intro w
  induction w with
  | zero =>
    intro y s hk1 hr
    refine r_iload (pc' := 7) dX12_partsBehind_5 rfl (.tail _ (.tail _ (.tail _ (.tail _ (.head _))))) ?_
    refine r_bipush (pc' := 9) dX12_partsBehind_7 rfl (by decide) ?_
    refine r_icmp_ge (t := 31) (f := 12) dX12_partsBehind_9 (by decide) rfl (by first | omega | exact xv_in _ _ _) (by first | omega | exact xv_in _ _ _) (fun h9 => ?_) (fun h9 => ?_)
    · refine r_iload_n (i := 3) (pc' := 32) dX12_partsBehind_31 rfl rfl (.tail _ (.tail _ (.tail _ (.head _)))) ?_
      refine r_ireturn dX12_partsBehind_32 rfl ?_
      refine ⟨?_, rfl, rfl, rfl, rfl⟩
      rw [← hr]; simp [q_sum]
    · exfalso; omega
  | succ w ih =>
    intro y s hk1 hr
    refine r_iload (pc' := 7) dX12_partsBehind_5 rfl (.tail _ (.tail _ (.tail _ (.tail _ (.head _))))) ?_
    refine r_bipush (pc' := 9) dX12_partsBehind_7 rfl (by decide) ?_
    refine r_icmp_ge (t := 31) (f := 12) dX12_partsBehind_9 (by decide) rfl (by first | omega | exact xv_in _ _ _) (by first | omega | exact xv_in _ _ _) (fun h9 => ?_) (fun h9 => ?_)
    · exfalso; omega
    · refine r_iload_n (i := 3) (pc' := 13) dX12_partsBehind_12 rfl rfl (.tail _ (.tail _ (.tail _ (.head _)))) ?_
      refine r_aload_n (i := 0) (pc' := 14) dX12_partsBehind_13 rfl rfl (.head _) ?_
      refine r_iload_n (i := 1) (pc' := 15) dX12_partsBehind_14 rfl rfl (.tail _ (.head _)) ?_
      refine r_bipush (pc' := 17) dX12_partsBehind_15 rfl (by decide) ?_
      refine r_iload (pc' := 19) dX12_partsBehind_17 rfl (.tail _ (.tail _ (.tail _ (.tail _ (.head _))))) ?_
      refine r_iadd (pc' := 20) dX12_partsBehind_19 rfl ?_
      refine r_V2p (ci := 12) (pc' := 23) dX12_partsBehind_20 rfl lX12_115 rfl (by decide) (Nat.le_of_ble_eq_true rfl) (by first | assumption | rfl) (by omega) (tO_p hm hR hO (by first | assumption | omega) (by omega)) ?_
      refine r_iadd (pc' := 24) dX12_partsBehind_23 rfl ?_
      refine r_istore_n (i := 3) (pc' := 25) dX12_partsBehind_24 rfl rfl rfl (.s1 (.s1 (.s1 (.here (.s1 .nil rfl rfl rfl)) rfl rfl rfl) rfl rfl rfl) rfl rfl rfl) ?_
      refine r_iinc (pc' := 28) dX12_partsBehind_25 rfl rfl (.tail _ (.tail _ (.tail _ (.tail _ (.head _))))) (.s1 (.s1 (.s1 (.s1 (.here .nil) rfl rfl rfl) rfl rfl rfl) rfl rfl rfl) rfl rfl rfl) ?_
      refine r_goto (t := 5) dX12_partsBehind_28 (by decide) ?_
      refine ih (y + 1) _ (by omega) ?_
      rw [← hr, q_sum]; omega
set_option maxHeartbeats 4000000 in
set_option maxRecDepth 100000 in
theorem tX12_partsBehind {l : Launch} {g : q_G} {n : Nat} {P : q_P} {X : q_X} {Y : q_Y} (hm : isMod n P) {C : q_X} {b : Nat} (hR : RB C b (xv X 468)) (hO : bOk C b) {k : Nat} (hk : (k : Int) < xv C b 10) {y : Int} (hy : 0 ≤ y ∧ y ≤ 20) : q_Met l g mX12_partsBehind 2 [.ref (g.1 + 467), .int (zi (k : Int)), .int (zi y)] n P X Y (q_pv (.int (zi (c_from C (con b k) y))) n P X Y) := by
  obtain ⟨m0, m2, m3, m8, m9, m14, m15, m16, m17, m18, m20, m22, m25, hnm9⟩ := id hm
  obtain ⟨o0, o1, o2, o3, o4, o5, o6, o10, oc, op0, opz, opi, om0, omi, olim⟩ := id hO
  have hck := hO.c hk
  obtain ⟨hf, hf2, hf3, hf4, hfj, hfs, hfg⟩ := id hck
  refine q_enter (L := [(0, .ref (g.1 + 467)), (1, .int (zi (k : Int))), (2, .int (zi y))]) (by decide) (Nat.le_of_ble_eq_true rfl) rfl ?_
  refine r_iconst (pc' := 1) dX12_partsBehind_0 rfl ?_
  refine r_istore_n (i := 3) (pc' := 2) dX12_partsBehind_1 rfl rfl rfl (.s1 (.s1 (.s1 .nil rfl rfl rfl) rfl rfl rfl) rfl rfl rfl) ?_
  refine r_iload_n (i := 2) (pc' := 3) dX12_partsBehind_2 rfl rfl (.tail _ (.tail _ (.head _))) ?_
  refine r_istore (pc' := 5) dX12_partsBehind_3 rfl rfl (.s1 (.s1 (.s1 (.s1 .nil rfl rfl rfl) rfl rfl rfl) rfl rfl rfl) rfl rfl rfl) ?_
  have := lX12_partsBehind (l := l) (g := g) (Y := Y) hm hR hO hk (y0 := y) (r := c_from C (con b k) y) (20 - y.toNat) y.toNat 0 (by omega) (by rw [c_from_sum hck _ _ (by omega), Int.toNat_of_nonneg hy.1, Int.zero_add])
  rw [Int.toNat_of_nonneg hy.1] at this
  exact this
set_option maxHeartbeats 4000000 in
set_option maxRecDepth 100000 in
theorem tX12_sureOf {l : Launch} {g : q_G} {n : Nat} {P : q_P} {X : q_X} {Y : q_Y} (hm : isMod n P) {C : q_X} {b : Nat} (hR : RB C b (xv X 468)) (hO : bOk C b) {k : Nat} (hk : (k : Int) < xv C b 10) {y : Int} (hy : 0 ≤ y ∧ y < 20) : q_Met l g mX12_sureOf 2 [.ref (g.1 + 467), .int (zi (k : Int)), .int (zi y)] n P X Y (q_pv (.int (zi (c_sure C (con b k) y))) n P X Y) := by
  obtain ⟨m0, m2, m3, m8, m9, m14, m15, m16, m17, m18, m20, m22, m25, hnm9⟩ := id hm
  obtain ⟨o0, o1, o2, o3, o4, o5, o6, o10, oc, op0, opz, opi, om0, omi, olim⟩ := id hO
  have hck := hO.c hk
  obtain ⟨hf, hf2, hf3, hf4, hfj, hfs, hfg⟩ := id hck
  have hcs := hck.sure
  have hcb := c_base_first hck
  refine q_enter (L := [(0, .ref (g.1 + 467)), (1, .int (zi (k : Int))), (2, .int (zi y))]) (by decide) (Nat.le_of_ble_eq_true rfl) rfl ?_
  refine r_iload_n (i := 2) (pc' := 1) dX12_sureOf_0 rfl rfl (.tail _ (.tail _ (.head _))) ?_
  refine r_aload_n (i := 0) (pc' := 2) dX12_sureOf_1 rfl rfl (.head _) ?_
  refine r_iload_n (i := 1) (pc' := 3) dX12_sureOf_2 rfl rfl (.tail _ (.head _)) ?_
  refine r_iconst (pc' := 4) dX12_sureOf_3 rfl ?_
  refine r_V2p (ci := 12) (pc' := 7) dX12_sureOf_4 rfl lX12_115 rfl (by decide) (Nat.le_of_ble_eq_true rfl) (by first | assumption | rfl) (by omega) (tO_0 hm hR hO (by first | assumption | omega)) ?_
  refine r_icmp_ne (t := 32) (f := 10) dX12_sureOf_7 (by decide) rfl (by first | omega | exact xv_in _ _ _) (by first | omega | exact xv_in _ _ _) (fun h7 => ?_) (fun h7 => ?_)
  · refine r_iconst (pc' := 33) dX12_sureOf_32 rfl ?_
    refine r_ireturn dX12_sureOf_33 rfl ?_
    refine ⟨?_, rfl, rfl, rfl, rfl⟩
    unfold c_sure
    first
      | (rw [if_neg (by omega)]; done)
      | (rw [if_pos (by omega), show y = xv C (con b k) 0 by omega, hcb]; done)
  · refine r_aload_n (i := 0) (pc' := 11) dX12_sureOf_10 rfl rfl (.head _) ?_
    refine r_iload_n (i := 1) (pc' := 12) dX12_sureOf_11 rfl rfl (.tail _ (.head _)) ?_
    refine r_bipush (pc' := 14) dX12_sureOf_12 rfl (by decide) ?_
    refine r_iload_n (i := 2) (pc' := 15) dX12_sureOf_14 rfl rfl (.tail _ (.tail _ (.head _))) ?_
    refine r_iadd (pc' := 16) dX12_sureOf_15 rfl ?_
    refine r_V2p (ci := 12) (pc' := 19) dX12_sureOf_16 rfl lX12_115 rfl (by decide) (Nat.le_of_ble_eq_true rfl) (by first | assumption | rfl) (by omega) (tO_b hm hR hO (by first | assumption | omega) (by omega)) ?_
    refine r_aload_n (i := 0) (pc' := 20) dX12_sureOf_19 rfl rfl (.head _) ?_
    refine r_iload_n (i := 1) (pc' := 21) dX12_sureOf_20 rfl rfl (.tail _ (.head _)) ?_
    refine r_iconst (pc' := 22) dX12_sureOf_21 rfl ?_
    refine r_V2p (ci := 12) (pc' := 25) dX12_sureOf_22 rfl lX12_115 rfl (by decide) (Nat.le_of_ble_eq_true rfl) (by first | assumption | rfl) (by omega) (tO_3 hm hR hO (by first | assumption | omega)) ?_
    refine r_imul (pc' := 26) dX12_sureOf_25 rfl ?_
    refine r_bipush (pc' := 28) dX12_sureOf_26 rfl (by decide) ?_
    refine r_idiv (pc' := 29) dX12_sureOf_28 rfl (by rw [h7, hcb]; exact hcs) (by omega) (by omega) ?_
    refine r_goto (t := 33) dX12_sureOf_29 (by decide) ?_
    refine r_ireturn dX12_sureOf_33 rfl ?_
    refine ⟨?_, rfl, rfl, rfl, rfl⟩
    unfold c_sure
    first
      | (rw [if_neg (by omega)]; done)
      | (rw [if_pos (by omega), show y = xv C (con b k) 0 by omega, hcb]; done)
set_option maxHeartbeats 4000000 in
set_option maxRecDepth 100000 in
theorem tX12_deadNow {l : Launch} {g : q_G} {n : Nat} {P : q_P} {X : q_X} {Y : q_Y} (hm : isMod n P) {C : q_X} {b : Nat} (hR : RB C b (xv X 468)) (hO : bOk C b) {k : Nat} (hk : (k : Int) < xv C b 10) {day : Int} (hd : q_in day) : q_Met l g mX12_deadNow 3 [.ref (g.1 + 467), .int (zi (k : Int)), .int (zi day)] n P X Y (q_pv (.int (zi (bk_dead C b (con b k) day))) n P X Y) := by
  obtain ⟨m0, m2, m3, m8, m9, m14, m15, m16, m17, m18, m20, m22, m25, hnm9⟩ := id hm
  obtain ⟨o0, o1, o2, o3, o4, o5, o6, o10, oc, op0, opz, opi, om0, omi, olim⟩ := id hO
  have hck := hO.c hk
  obtain ⟨hf, hf2, hf3, hf4, hfj, hfs, hfg⟩ := id hck
  refine q_enter (L := [(0, .ref (g.1 + 467)), (1, .int (zi (k : Int))), (2, .int (zi day))]) (by decide) (Nat.le_of_ble_eq_true rfl) rfl ?_
  refine r_aload_n (i := 0) (pc' := 1) dX12_deadNow_0 rfl rfl (.head _) ?_
  refine r_getR (pc' := 4) dX12_deadNow_1 rfl fX12_3 rfl (by first | assumption | rfl) (by omega) (by assumption) ?_
  refine r_iconst (pc' := 5) dX12_deadNow_4 rfl ?_
  refine r_iaload (pc' := 6) dX12_deadNow_5 rfl (by first | assumption | rfl) (by omega) (by omega) (by omega) (by first | decide | omega) (show Int.toNat 0 = 0 from rfl) ?_
  rw [hR.z 0 (by decide)]
  refine r_istore_n (i := 3) (pc' := 7) dX12_deadNow_6 rfl rfl rfl (.s1 (.s1 (.s1 .nil rfl rfl rfl) rfl rfl rfl) rfl rfl rfl) ?_
  refine r_iload_n (i := 2) (pc' := 8) dX12_deadNow_7 rfl rfl (.tail _ (.tail _ (.head _))) ?_
  refine r_aload_n (i := 0) (pc' := 9) dX12_deadNow_8 rfl rfl (.head _) ?_
  refine r_getR (pc' := 12) dX12_deadNow_9 rfl fX12_3 rfl (by first | assumption | rfl) (by omega) (by assumption) ?_
  refine r_iconst (pc' := 13) dX12_deadNow_12 rfl ?_
  refine r_iaload (pc' := 14) dX12_deadNow_13 rfl (by first | assumption | rfl) (by omega) (by omega) (by omega) (by first | decide | omega) (show Int.toNat 2 = 2 from rfl) ?_
  rw [hR.z 2 (by decide)]
  refine r_icmp_lt (t := 23) (f := 17) dX12_deadNow_14 (by decide) rfl (by first | omega | exact xv_in _ _ _) (by first | omega | exact xv_in _ _ _) (fun h14 => ?_) (fun h14 => ?_)
  · refine r_aload_n (i := 0) (pc' := 24) dX12_deadNow_23 rfl rfl (.head _) ?_
    refine r_iload_n (i := 1) (pc' := 25) dX12_deadNow_24 rfl rfl (.tail _ (.head _)) ?_
    refine r_iload_n (i := 3) (pc' := 26) dX12_deadNow_25 rfl rfl (.tail _ (.tail _ (.tail _ (.head _)))) ?_
    refine r_V2p (ci := 12) (pc' := 29) dX12_deadNow_26 rfl lX12_212 rfl (by decide) (Nat.le_of_ble_eq_true rfl) (by first | assumption | rfl) (by omega) (tX12_partsBehind (by assumption) (by assumption) (by assumption) (by assumption) (by omega)) ?_
    refine r_goto (t := 41) dX12_deadNow_29 (by decide) ?_
    refine r_istore (pc' := 43) dX12_deadNow_41 rfl rfl (.s1 (.s1 (.s1 (.s1 .nil rfl rfl rfl) rfl rfl rfl) rfl rfl rfl) rfl rfl rfl) ?_
    refine r_aload_n (i := 0) (pc' := 44) dX12_deadNow_43 rfl rfl (.head _) ?_
    refine r_iload_n (i := 1) (pc' := 45) dX12_deadNow_44 rfl rfl (.tail _ (.head _)) ?_
    refine r_iload_n (i := 3) (pc' := 46) dX12_deadNow_45 rfl rfl (.tail _ (.tail _ (.tail _ (.head _)))) ?_
    refine r_V2p (ci := 12) (pc' := 49) dX12_deadNow_46 rfl lX12_215 rfl (by decide) (Nat.le_of_ble_eq_true rfl) (by first | assumption | rfl) (by omega) (tX12_sureOf (by assumption) (by assumption) (by assumption) (by assumption) (by omega)) ?_
    refine r_iload_n (i := 2) (pc' := 50) dX12_deadNow_49 rfl rfl (.tail _ (.tail _ (.head _))) ?_
    refine r_aload_n (i := 0) (pc' := 51) dX12_deadNow_50 rfl rfl (.head _) ?_
    refine r_getR (pc' := 54) dX12_deadNow_51 rfl fX12_3 rfl (by first | assumption | rfl) (by omega) (by assumption) ?_
    refine r_iconst (pc' := 55) dX12_deadNow_54 rfl ?_
    refine r_iaload (pc' := 56) dX12_deadNow_55 rfl (by first | assumption | rfl) (by omega) (by omega) (by omega) (by first | decide | omega) (show Int.toNat 3 = 3 from rfl) ?_
    rw [hR.z 3 (by decide)]
    refine r_icmp_lt (t := 71) (f := 59) dX12_deadNow_56 (by decide) rfl (by first | omega | exact xv_in _ _ _) (by first | omega | exact xv_in _ _ _) (fun h56 => ?_) (fun h56 => ?_)
    · refine r_iconst (pc' := 72) dX12_deadNow_71 rfl ?_
      refine r_iadd (pc' := 73) dX12_deadNow_72 rfl ?_
      refine r_iload (pc' := 75) dX12_deadNow_73 rfl (.tail _ (.tail _ (.tail _ (.tail _ (.head _))))) ?_
      refine r_iadd (pc' := 76) dX12_deadNow_75 rfl ?_
      refine r_ireturn dX12_deadNow_76 rfl ?_
      refine ⟨?_, rfl, rfl, rfl, rfl⟩
      unfold bk_dead bk_dPay bk_dNow
      (repeat' split) <;> first | rfl | (exfalso; omega) | (congr 3; omega)
    · refine r_aload_n (i := 0) (pc' := 60) dX12_deadNow_59 rfl rfl (.head _) ?_
      refine r_iload_n (i := 1) (pc' := 61) dX12_deadNow_60 rfl rfl (.tail _ (.head _)) ?_
      refine r_bipush (pc' := 63) dX12_deadNow_61 rfl (by decide) ?_
      refine r_iload_n (i := 3) (pc' := 64) dX12_deadNow_63 rfl rfl (.tail _ (.tail _ (.tail _ (.head _)))) ?_
      refine r_iadd (pc' := 65) dX12_deadNow_64 rfl ?_
      refine r_V2p (ci := 12) (pc' := 68) dX12_deadNow_65 rfl lX12_115 rfl (by decide) (Nat.le_of_ble_eq_true rfl) (by first | assumption | rfl) (by omega) (tO_r hm hR hO (by first | assumption | omega) (by omega)) ?_
      refine r_goto (t := 72) dX12_deadNow_68 (by decide) ?_
      refine r_iadd (pc' := 73) dX12_deadNow_72 rfl ?_
      refine r_iload (pc' := 75) dX12_deadNow_73 rfl (.tail _ (.tail _ (.tail _ (.tail _ (.head _))))) ?_
      refine r_iadd (pc' := 76) dX12_deadNow_75 rfl ?_
      refine r_ireturn dX12_deadNow_76 rfl ?_
      refine ⟨?_, rfl, rfl, rfl, rfl⟩
      unfold bk_dead bk_dPay bk_dNow
      (repeat' split) <;> first | rfl | (exfalso; omega) | (congr 3; omega)
  · refine r_iload_n (i := 3) (pc' := 18) dX12_deadNow_17 rfl rfl (.tail _ (.tail _ (.tail _ (.head _)))) ?_
    refine r_bipush (pc' := 20) dX12_deadNow_18 rfl (by decide) ?_
    refine r_icmp_ne (t := 32) (f := 23) dX12_deadNow_20 (by decide) rfl (by first | omega | exact xv_in _ _ _) (by first | omega | exact xv_in _ _ _) (fun h20 => ?_) (fun h20 => ?_)
    · refine r_aload_n (i := 0) (pc' := 33) dX12_deadNow_32 rfl rfl (.head _) ?_
      refine r_iload_n (i := 1) (pc' := 34) dX12_deadNow_33 rfl rfl (.tail _ (.head _)) ?_
      refine r_bipush (pc' := 36) dX12_deadNow_34 rfl (by decide) ?_
      refine r_iload_n (i := 3) (pc' := 37) dX12_deadNow_36 rfl rfl (.tail _ (.tail _ (.tail _ (.head _)))) ?_
      refine r_iadd (pc' := 38) dX12_deadNow_37 rfl ?_
      refine r_V2p (ci := 12) (pc' := 41) dX12_deadNow_38 rfl lX12_115 rfl (by decide) (Nat.le_of_ble_eq_true rfl) (by first | assumption | rfl) (by omega) (tO_p hm hR hO (by first | assumption | omega) (by omega)) ?_
      refine r_istore (pc' := 43) dX12_deadNow_41 rfl rfl (.s1 (.s1 (.s1 (.s1 .nil rfl rfl rfl) rfl rfl rfl) rfl rfl rfl) rfl rfl rfl) ?_
      refine r_aload_n (i := 0) (pc' := 44) dX12_deadNow_43 rfl rfl (.head _) ?_
      refine r_iload_n (i := 1) (pc' := 45) dX12_deadNow_44 rfl rfl (.tail _ (.head _)) ?_
      refine r_iload_n (i := 3) (pc' := 46) dX12_deadNow_45 rfl rfl (.tail _ (.tail _ (.tail _ (.head _)))) ?_
      refine r_V2p (ci := 12) (pc' := 49) dX12_deadNow_46 rfl lX12_215 rfl (by decide) (Nat.le_of_ble_eq_true rfl) (by first | assumption | rfl) (by omega) (tX12_sureOf (by assumption) (by assumption) (by assumption) (by assumption) (by omega)) ?_
      refine r_iload_n (i := 2) (pc' := 50) dX12_deadNow_49 rfl rfl (.tail _ (.tail _ (.head _))) ?_
      refine r_aload_n (i := 0) (pc' := 51) dX12_deadNow_50 rfl rfl (.head _) ?_
      refine r_getR (pc' := 54) dX12_deadNow_51 rfl fX12_3 rfl (by first | assumption | rfl) (by omega) (by assumption) ?_
      refine r_iconst (pc' := 55) dX12_deadNow_54 rfl ?_
      refine r_iaload (pc' := 56) dX12_deadNow_55 rfl (by first | assumption | rfl) (by omega) (by omega) (by omega) (by first | decide | omega) (show Int.toNat 3 = 3 from rfl) ?_
      rw [hR.z 3 (by decide)]
      refine r_icmp_lt (t := 71) (f := 59) dX12_deadNow_56 (by decide) rfl (by first | omega | exact xv_in _ _ _) (by first | omega | exact xv_in _ _ _) (fun h56 => ?_) (fun h56 => ?_)
      · refine r_iconst (pc' := 72) dX12_deadNow_71 rfl ?_
        refine r_iadd (pc' := 73) dX12_deadNow_72 rfl ?_
        refine r_iload (pc' := 75) dX12_deadNow_73 rfl (.tail _ (.tail _ (.tail _ (.tail _ (.head _))))) ?_
        refine r_iadd (pc' := 76) dX12_deadNow_75 rfl ?_
        refine r_ireturn dX12_deadNow_76 rfl ?_
        refine ⟨?_, rfl, rfl, rfl, rfl⟩
        unfold bk_dead bk_dPay bk_dNow
        (repeat' split) <;> first | rfl | (exfalso; omega) | (congr 3; omega)
      · refine r_aload_n (i := 0) (pc' := 60) dX12_deadNow_59 rfl rfl (.head _) ?_
        refine r_iload_n (i := 1) (pc' := 61) dX12_deadNow_60 rfl rfl (.tail _ (.head _)) ?_
        refine r_bipush (pc' := 63) dX12_deadNow_61 rfl (by decide) ?_
        refine r_iload_n (i := 3) (pc' := 64) dX12_deadNow_63 rfl rfl (.tail _ (.tail _ (.tail _ (.head _)))) ?_
        refine r_iadd (pc' := 65) dX12_deadNow_64 rfl ?_
        refine r_V2p (ci := 12) (pc' := 68) dX12_deadNow_65 rfl lX12_115 rfl (by decide) (Nat.le_of_ble_eq_true rfl) (by first | assumption | rfl) (by omega) (tO_r hm hR hO (by first | assumption | omega) (by omega)) ?_
        refine r_goto (t := 72) dX12_deadNow_68 (by decide) ?_
        refine r_iadd (pc' := 73) dX12_deadNow_72 rfl ?_
        refine r_iload (pc' := 75) dX12_deadNow_73 rfl (.tail _ (.tail _ (.tail _ (.tail _ (.head _))))) ?_
        refine r_iadd (pc' := 76) dX12_deadNow_75 rfl ?_
        refine r_ireturn dX12_deadNow_76 rfl ?_
        refine ⟨?_, rfl, rfl, rfl, rfl⟩
        unfold bk_dead bk_dPay bk_dNow
        (repeat' split) <;> first | rfl | (exfalso; omega) | (congr 3; omega)
    · refine r_aload_n (i := 0) (pc' := 24) dX12_deadNow_23 rfl rfl (.head _) ?_
      refine r_iload_n (i := 1) (pc' := 25) dX12_deadNow_24 rfl rfl (.tail _ (.head _)) ?_
      refine r_iload_n (i := 3) (pc' := 26) dX12_deadNow_25 rfl rfl (.tail _ (.tail _ (.tail _ (.head _)))) ?_
      refine r_V2p (ci := 12) (pc' := 29) dX12_deadNow_26 rfl lX12_212 rfl (by decide) (Nat.le_of_ble_eq_true rfl) (by first | assumption | rfl) (by omega) (tX12_partsBehind (by assumption) (by assumption) (by assumption) (by assumption) (by omega)) ?_
      refine r_goto (t := 41) dX12_deadNow_29 (by decide) ?_
      refine r_istore (pc' := 43) dX12_deadNow_41 rfl rfl (.s1 (.s1 (.s1 (.s1 .nil rfl rfl rfl) rfl rfl rfl) rfl rfl rfl) rfl rfl rfl) ?_
      refine r_aload_n (i := 0) (pc' := 44) dX12_deadNow_43 rfl rfl (.head _) ?_
      refine r_iload_n (i := 1) (pc' := 45) dX12_deadNow_44 rfl rfl (.tail _ (.head _)) ?_
      refine r_iload_n (i := 3) (pc' := 46) dX12_deadNow_45 rfl rfl (.tail _ (.tail _ (.tail _ (.head _)))) ?_
      refine r_V2p (ci := 12) (pc' := 49) dX12_deadNow_46 rfl lX12_215 rfl (by decide) (Nat.le_of_ble_eq_true rfl) (by first | assumption | rfl) (by omega) (tX12_sureOf (by assumption) (by assumption) (by assumption) (by assumption) (by omega)) ?_
      refine r_iload_n (i := 2) (pc' := 50) dX12_deadNow_49 rfl rfl (.tail _ (.tail _ (.head _))) ?_
      refine r_aload_n (i := 0) (pc' := 51) dX12_deadNow_50 rfl rfl (.head _) ?_
      refine r_getR (pc' := 54) dX12_deadNow_51 rfl fX12_3 rfl (by first | assumption | rfl) (by omega) (by assumption) ?_
      refine r_iconst (pc' := 55) dX12_deadNow_54 rfl ?_
      refine r_iaload (pc' := 56) dX12_deadNow_55 rfl (by first | assumption | rfl) (by omega) (by omega) (by omega) (by first | decide | omega) (show Int.toNat 3 = 3 from rfl) ?_
      rw [hR.z 3 (by decide)]
      refine r_icmp_lt (t := 71) (f := 59) dX12_deadNow_56 (by decide) rfl (by first | omega | exact xv_in _ _ _) (by first | omega | exact xv_in _ _ _) (fun h56 => ?_) (fun h56 => ?_)
      · refine r_iconst (pc' := 72) dX12_deadNow_71 rfl ?_
        refine r_iadd (pc' := 73) dX12_deadNow_72 rfl ?_
        refine r_iload (pc' := 75) dX12_deadNow_73 rfl (.tail _ (.tail _ (.tail _ (.tail _ (.head _))))) ?_
        refine r_iadd (pc' := 76) dX12_deadNow_75 rfl ?_
        refine r_ireturn dX12_deadNow_76 rfl ?_
        refine ⟨?_, rfl, rfl, rfl, rfl⟩
        unfold bk_dead bk_dPay bk_dNow
        (repeat' split) <;> first | rfl | (exfalso; omega) | (congr 3; omega)
      · refine r_aload_n (i := 0) (pc' := 60) dX12_deadNow_59 rfl rfl (.head _) ?_
        refine r_iload_n (i := 1) (pc' := 61) dX12_deadNow_60 rfl rfl (.tail _ (.head _)) ?_
        refine r_bipush (pc' := 63) dX12_deadNow_61 rfl (by decide) ?_
        refine r_iload_n (i := 3) (pc' := 64) dX12_deadNow_63 rfl rfl (.tail _ (.tail _ (.tail _ (.head _)))) ?_
        refine r_iadd (pc' := 65) dX12_deadNow_64 rfl ?_
        refine r_V2p (ci := 12) (pc' := 68) dX12_deadNow_65 rfl lX12_115 rfl (by decide) (Nat.le_of_ble_eq_true rfl) (by first | assumption | rfl) (by omega) (tO_r hm hR hO (by first | assumption | omega) (by omega)) ?_
        refine r_goto (t := 72) dX12_deadNow_68 (by decide) ?_
        refine r_iadd (pc' := 73) dX12_deadNow_72 rfl ?_
        refine r_iload (pc' := 75) dX12_deadNow_73 rfl (.tail _ (.tail _ (.tail _ (.tail _ (.head _))))) ?_
        refine r_iadd (pc' := 76) dX12_deadNow_75 rfl ?_
        refine r_ireturn dX12_deadNow_76 rfl ?_
        refine ⟨?_, rfl, rfl, rfl, rfl⟩
        unfold bk_dead bk_dPay bk_dNow
        (repeat' split) <;> first | rfl | (exfalso; omega) | (congr 3; omega)
set_option maxHeartbeats 4000000 in
set_option maxRecDepth 100000 in
theorem tX12_deadLater {l : Launch} {g : q_G} {n : Nat} {P : q_P} {X : q_X} {Y : q_Y} (hm : isMod n P) {C : q_X} {b : Nat} (hR : RB C b (xv X 468)) (hO : bOk C b) {k : Nat} (hk : (k : Int) < xv C b 10) {day : Int} (hd : q_in day) : q_Met l g mX12_deadLater 3 [.ref (g.1 + 467), .int (zi (k : Int)), .int (zi day)] n P X Y (q_pv (.int (zi (bk_next C b (con b k) day))) n P X Y) := by
  obtain ⟨m0, m2, m3, m8, m9, m14, m15, m16, m17, m18, m20, m22, m25, hnm9⟩ := id hm
  obtain ⟨o0, o1, o2, o3, o4, o5, o6, o10, oc, op0, opz, opi, om0, omi, olim⟩ := id hO
  have hck := hO.c hk
  obtain ⟨hf, hf2, hf3, hf4, hfj, hfs, hfg⟩ := id hck
  refine q_enter (L := [(0, .ref (g.1 + 467)), (1, .int (zi (k : Int))), (2, .int (zi day))]) (by decide) (Nat.le_of_ble_eq_true rfl) rfl ?_
  refine r_iload_n (i := 2) (pc' := 1) dX12_deadLater_0 rfl rfl (.tail _ (.tail _ (.head _))) ?_
  refine r_aload_n (i := 0) (pc' := 2) dX12_deadLater_1 rfl rfl (.head _) ?_
  refine r_getR (pc' := 5) dX12_deadLater_2 rfl fX12_3 rfl (by first | assumption | rfl) (by omega) (by assumption) ?_
  refine r_iconst (pc' := 6) dX12_deadLater_5 rfl ?_
  refine r_iaload (pc' := 7) dX12_deadLater_6 rfl (by first | assumption | rfl) (by omega) (by omega) (by omega) (by first | decide | omega) (show Int.toNat 2 = 2 from rfl) ?_
  rw [hR.z 2 (by decide)]
  refine r_icmp_lt (t := 21) (f := 10) dX12_deadLater_7 (by decide) rfl (by first | omega | exact xv_in _ _ _) (by first | omega | exact xv_in _ _ _) (fun h7 => ?_) (fun h7 => ?_)
  · refine r_iconst (pc' := 22) dX12_deadLater_21 rfl ?_
    refine r_goto (t := 38) dX12_deadLater_22 (by decide) ?_
    refine r_ireturn dX12_deadLater_38 rfl ?_
    refine ⟨?_, rfl, rfl, rfl, rfl⟩
    have hst := c_from_step (X := C) (c := con b k) (xv C b 0)
    unfold bk_next bk_dNow
    split
    · first | (congr 3; omega) | (exfalso; omega)
    · first | (congr 3; omega) | (exfalso; omega)
  · refine r_aload_n (i := 0) (pc' := 11) dX12_deadLater_10 rfl rfl (.head _) ?_
    refine r_getR (pc' := 14) dX12_deadLater_11 rfl fX12_3 rfl (by first | assumption | rfl) (by omega) (by assumption) ?_
    refine r_iconst (pc' := 15) dX12_deadLater_14 rfl ?_
    refine r_iaload (pc' := 16) dX12_deadLater_15 rfl (by first | assumption | rfl) (by omega) (by omega) (by omega) (by first | decide | omega) (show Int.toNat 0 = 0 from rfl) ?_
    rw [hR.z 0 (by decide)]
    refine r_bipush (pc' := 18) dX12_deadLater_16 rfl (by decide) ?_
    refine r_icmp_ne (t := 25) (f := 21) dX12_deadLater_18 (by decide) rfl (by first | omega | exact xv_in _ _ _) (by first | omega | exact xv_in _ _ _) (fun h18 => ?_) (fun h18 => ?_)
    · refine r_aload_n (i := 0) (pc' := 26) dX12_deadLater_25 rfl rfl (.head _) ?_
      refine r_iload_n (i := 1) (pc' := 27) dX12_deadLater_26 rfl rfl (.tail _ (.head _)) ?_
      refine r_aload_n (i := 0) (pc' := 28) dX12_deadLater_27 rfl rfl (.head _) ?_
      refine r_getR (pc' := 31) dX12_deadLater_28 rfl fX12_3 rfl (by first | assumption | rfl) (by omega) (by assumption) ?_
      refine r_iconst (pc' := 32) dX12_deadLater_31 rfl ?_
      refine r_iaload (pc' := 33) dX12_deadLater_32 rfl (by first | assumption | rfl) (by omega) (by omega) (by omega) (by first | decide | omega) (show Int.toNat 0 = 0 from rfl) ?_
      rw [hR.z 0 (by decide)]
      refine r_iconst (pc' := 34) dX12_deadLater_33 rfl ?_
      refine r_iadd (pc' := 35) dX12_deadLater_34 rfl ?_
      refine r_V2p (ci := 12) (pc' := 38) dX12_deadLater_35 rfl lX12_212 rfl (by decide) (Nat.le_of_ble_eq_true rfl) (by first | assumption | rfl) (by omega) (tX12_partsBehind (by assumption) (by assumption) (by assumption) (by assumption) (by omega)) ?_
      refine r_ireturn dX12_deadLater_38 rfl ?_
      refine ⟨?_, rfl, rfl, rfl, rfl⟩
      have hst := c_from_step (X := C) (c := con b k) (xv C b 0)
      unfold bk_next bk_dNow
      split
      · first | (congr 3; omega) | (exfalso; omega)
      · first | (congr 3; omega) | (exfalso; omega)
    · refine r_iconst (pc' := 22) dX12_deadLater_21 rfl ?_
      refine r_goto (t := 38) dX12_deadLater_22 (by decide) ?_
      refine r_ireturn dX12_deadLater_38 rfl ?_
      refine ⟨?_, rfl, rfl, rfl, rfl⟩
      have hst := c_from_step (X := C) (c := con b k) (xv C b 0)
      unfold bk_next bk_dNow
      split
      · first | (congr 3; omega) | (exfalso; omega)
      · first | (congr 3; omega) | (exfalso; omega)
set_option maxHeartbeats 4000000 in
set_option maxRecDepth 100000 in
theorem tX12_deadInAll {l : Launch} {g : q_G} {n : Nat} {P : q_P} {X : q_X} {Y : q_Y} (hm : isMod n P) {C : q_X} {b : Nat} (hR : RB C b (xv X 468)) (hO : bOk C b) {k : Nat} (hk : (k : Int) < xv C b 10) : q_Met l g mX12_deadInAll 4 [.ref (g.1 + 467), .int (zi (k : Int))] n P X Y (q_pv (.int (zi (bk_all C b (con b k)))) n P X Y) := by
  obtain ⟨m0, m2, m3, m8, m9, m14, m15, m16, m17, m18, m20, m22, m25, hnm9⟩ := id hm
  obtain ⟨o0, o1, o2, o3, o4, o5, o6, o10, oc, op0, opz, opi, om0, omi, olim⟩ := id hO
  have hck := hO.c hk
  obtain ⟨hf, hf2, hf3, hf4, hfj, hfs, hfg⟩ := id hck
  refine q_enter (L := [(0, .ref (g.1 + 467)), (1, .int (zi (k : Int)))]) (by decide) (Nat.le_of_ble_eq_true rfl) rfl ?_
  refine r_aload_n (i := 0) (pc' := 1) dX12_deadInAll_0 rfl rfl (.head _) ?_
  refine r_iload_n (i := 1) (pc' := 2) dX12_deadInAll_1 rfl rfl (.tail _ (.head _)) ?_
  refine r_aload_n (i := 0) (pc' := 3) dX12_deadInAll_2 rfl rfl (.head _) ?_
  refine r_getR (pc' := 6) dX12_deadInAll_3 rfl fX12_3 rfl (by first | assumption | rfl) (by omega) (by assumption) ?_
  refine r_iconst (pc' := 7) dX12_deadInAll_6 rfl ?_
  refine r_iaload (pc' := 8) dX12_deadInAll_7 rfl (by first | assumption | rfl) (by omega) (by omega) (by omega) (by first | decide | omega) (show Int.toNat 1 = 1 from rfl) ?_
  rw [hR.z 1 (by decide)]
  refine r_V2p (ci := 12) (pc' := 11) dX12_deadInAll_8 rfl lX12_218 rfl (by decide) (Nat.le_of_ble_eq_true rfl) (by first | assumption | rfl) (by omega) (tX12_deadNow (by assumption) (by assumption) (by assumption) (by assumption) (by first | omega | assumption)) ?_
  refine r_aload_n (i := 0) (pc' := 12) dX12_deadInAll_11 rfl rfl (.head _) ?_
  refine r_iload_n (i := 1) (pc' := 13) dX12_deadInAll_12 rfl rfl (.tail _ (.head _)) ?_
  refine r_aload_n (i := 0) (pc' := 14) dX12_deadInAll_13 rfl rfl (.head _) ?_
  refine r_getR (pc' := 17) dX12_deadInAll_14 rfl fX12_3 rfl (by first | assumption | rfl) (by omega) (by assumption) ?_
  refine r_iconst (pc' := 18) dX12_deadInAll_17 rfl ?_
  refine r_iaload (pc' := 19) dX12_deadInAll_18 rfl (by first | assumption | rfl) (by omega) (by omega) (by omega) (by first | decide | omega) (show Int.toNat 1 = 1 from rfl) ?_
  rw [hR.z 1 (by decide)]
  refine r_V2p (ci := 12) (pc' := 22) dX12_deadInAll_19 rfl lX12_221 rfl (by decide) (Nat.le_of_ble_eq_true rfl) (by first | assumption | rfl) (by omega) (tX12_deadLater (by assumption) (by assumption) (by assumption) (by assumption) (by first | omega | assumption)) ?_
  refine r_iadd (pc' := 23) dX12_deadInAll_22 rfl ?_
  refine r_ireturn dX12_deadInAll_23 rfl ?_
  refine ⟨?_, rfl, rfl, rfl, rfl⟩
  unfold bk_all bk_next bk_dead
  congr 3; omega
set_option maxHeartbeats 4000000 in
set_option maxRecDepth 100000 in
theorem tX12_mostOf {l : Launch} {g : q_G} {n : Nat} {P : q_P} {X : q_X} {Y : q_Y} (hm : isMod n P) {C : q_X} {b : Nat} (hR : RB C b (xv X 468)) (hO : bOk C b) {k : Nat} (hk : (k : Int) < xv C b 10) : q_Met l g mX12_mostOf 2 [.ref (g.1 + 467), .int (zi (k : Int))] n P X Y (q_pv (.int (zi (bk_most C b (con b k)))) n P X Y) := by
  obtain ⟨m0, m2, m3, m8, m9, m14, m15, m16, m17, m18, m20, m22, m25, hnm9⟩ := id hm
  obtain ⟨o0, o1, o2, o3, o4, o5, o6, o10, oc, op0, opz, opi, om0, omi, olim⟩ := id hO
  have hck := hO.c hk
  obtain ⟨hf, hf2, hf3, hf4, hfj, hfs, hfg⟩ := id hck
  have hbb := c_base_b hck (xv C b 0)
  refine q_enter (L := [(0, .ref (g.1 + 467)), (1, .int (zi (k : Int)))]) (by decide) (Nat.le_of_ble_eq_true rfl) rfl ?_
  refine r_iconst (pc' := 1) dX12_mostOf_0 rfl ?_
  refine r_aload_n (i := 0) (pc' := 2) dX12_mostOf_1 rfl rfl (.head _) ?_
  refine r_iload_n (i := 1) (pc' := 3) dX12_mostOf_2 rfl rfl (.tail _ (.head _)) ?_
  refine r_bipush (pc' := 5) dX12_mostOf_3 rfl (by decide) ?_
  refine r_aload_n (i := 0) (pc' := 6) dX12_mostOf_5 rfl rfl (.head _) ?_
  refine r_getR (pc' := 9) dX12_mostOf_6 rfl fX12_3 rfl (by first | assumption | rfl) (by omega) (by assumption) ?_
  refine r_iconst (pc' := 10) dX12_mostOf_9 rfl ?_
  refine r_iaload (pc' := 11) dX12_mostOf_10 rfl (by first | assumption | rfl) (by omega) (by omega) (by omega) (by first | decide | omega) (show Int.toNat 0 = 0 from rfl) ?_
  rw [hR.z 0 (by decide)]
  refine r_iadd (pc' := 12) dX12_mostOf_11 rfl ?_
  refine r_V2p (ci := 12) (pc' := 15) dX12_mostOf_12 rfl lX12_115 rfl (by decide) (Nat.le_of_ble_eq_true rfl) (by first | assumption | rfl) (by omega) (tO_b hm hR hO (by first | assumption | omega) (by omega)) ?_
  refine r_aload_n (i := 0) (pc' := 16) dX12_mostOf_15 rfl rfl (.head _) ?_
  refine r_getR (pc' := 19) dX12_mostOf_16 rfl fX12_3 rfl (by first | assumption | rfl) (by omega) (by assumption) ?_
  refine r_bipush (pc' := 21) dX12_mostOf_19 rfl (by decide) ?_
  refine r_iaload (pc' := 22) dX12_mostOf_21 rfl (by first | assumption | rfl) (by omega) (by omega) (by omega) (by first | decide | omega) (show Int.toNat 6 = 6 from rfl) ?_
  rw [hR.z 6 (by decide)]
  refine r_isub (pc' := 23) dX12_mostOf_22 rfl ?_
  refine r_S2p (pc' := 26) dX12_mostOf_23 rfl lX12_224 (by decide) (Nat.le_of_ble_eq_true rfl) (tX12_greater (by omega) (by omega)) ?_
  refine r_ireturn dX12_mostOf_26 rfl ?_
  refine ⟨?_, rfl, rfl, rfl, rfl⟩
  unfold bk_most
  (repeat' split) <;> first | rfl | (exfalso; omega) | (congr 3; omega)
set_option maxHeartbeats 4000000 in
set_option maxRecDepth 100000 in
theorem tX12_cashOf {l : Launch} {g : q_G} {n : Nat} {P : q_P} {X : q_X} {Y : q_Y} (hm : isMod n P) {C : q_X} {b : Nat} (hR : RB C b (xv X 468)) (hO : bOk C b) {k : Nat} (hk : (k : Int) < xv C b 10) {y : Int} (hy : 0 ≤ y ∧ y < 20) : q_Met l g mX12_cashOf 3 [.ref (g.1 + 467), .int (zi (k : Int)), .int (zi y)] n P X Y (q_pv (.int (zi (c_cash C (con b k) y))) n P X Y) := by
  obtain ⟨m0, m2, m3, m8, m9, m14, m15, m16, m17, m18, m20, m22, m25, hnm9⟩ := id hm
  obtain ⟨o0, o1, o2, o3, o4, o5, o6, o10, oc, op0, opz, opi, om0, omi, olim⟩ := id hO
  have hck := hO.c hk
  obtain ⟨hf, hf2, hf3, hf4, hfj, hfs, hfg⟩ := id hck
  refine q_enter (L := [(0, .ref (g.1 + 467)), (1, .int (zi (k : Int))), (2, .int (zi y))]) (by decide) (Nat.le_of_ble_eq_true rfl) rfl ?_
  refine r_aload_n (i := 0) (pc' := 1) dX12_cashOf_0 rfl rfl (.head _) ?_
  refine r_iload_n (i := 1) (pc' := 2) dX12_cashOf_1 rfl rfl (.tail _ (.head _)) ?_
  refine r_bipush (pc' := 4) dX12_cashOf_2 rfl (by decide) ?_
  refine r_iload_n (i := 2) (pc' := 5) dX12_cashOf_4 rfl rfl (.tail _ (.tail _ (.head _))) ?_
  refine r_iadd (pc' := 6) dX12_cashOf_5 rfl ?_
  refine r_V2p (ci := 12) (pc' := 9) dX12_cashOf_6 rfl lX12_115 rfl (by decide) (Nat.le_of_ble_eq_true rfl) (by first | assumption | rfl) (by omega) (tO_g hm hR hO (by first | assumption | omega) (by omega)) ?_
  refine r_aload_n (i := 0) (pc' := 10) dX12_cashOf_9 rfl rfl (.head _) ?_
  refine r_iload_n (i := 1) (pc' := 11) dX12_cashOf_10 rfl rfl (.tail _ (.head _)) ?_
  refine r_V1p (ci := 12) (pc' := 14) dX12_cashOf_11 rfl lX12_209 rfl (by decide) (Nat.le_of_ble_eq_true rfl) (by first | assumption | rfl) (by omega) (tX12_isOpen (by assumption) (by assumption) (by assumption) (by assumption)) ?_
  refine r_bif_ne (t := 27) (f := 17) dX12_cashOf_14 (by decide) rfl (fun h14 => ?_) (fun h14 => ?_)
  · refine r_aload_n (i := 0) (pc' := 28) dX12_cashOf_27 rfl rfl (.head _) ?_
    refine r_iload_n (i := 1) (pc' := 29) dX12_cashOf_28 rfl rfl (.tail _ (.head _)) ?_
    refine r_bipush (pc' := 31) dX12_cashOf_29 rfl (by decide) ?_
    refine r_iload_n (i := 2) (pc' := 32) dX12_cashOf_31 rfl rfl (.tail _ (.tail _ (.head _))) ?_
    refine r_iadd (pc' := 33) dX12_cashOf_32 rfl ?_
    refine r_V2p (ci := 12) (pc' := 36) dX12_cashOf_33 rfl lX12_115 rfl (by decide) (Nat.le_of_ble_eq_true rfl) (by first | assumption | rfl) (by omega) (tO_b hm hR hO (by first | assumption | omega) (by omega)) ?_
    refine r_aload_n (i := 0) (pc' := 37) dX12_cashOf_36 rfl rfl (.head _) ?_
    refine r_iload_n (i := 1) (pc' := 38) dX12_cashOf_37 rfl rfl (.tail _ (.head _)) ?_
    refine r_bipush (pc' := 40) dX12_cashOf_38 rfl (by decide) ?_
    refine r_iload_n (i := 2) (pc' := 41) dX12_cashOf_40 rfl rfl (.tail _ (.tail _ (.head _))) ?_
    refine r_iadd (pc' := 42) dX12_cashOf_41 rfl ?_
    refine r_V2p (ci := 12) (pc' := 45) dX12_cashOf_42 rfl lX12_115 rfl (by decide) (Nat.le_of_ble_eq_true rfl) (by first | assumption | rfl) (by omega) (tO_r hm hR hO (by first | assumption | omega) (by omega)) ?_
    refine r_iadd (pc' := 46) dX12_cashOf_45 rfl ?_
    refine r_goto (t := 50) dX12_cashOf_46 (by decide) ?_
    refine r_iadd (pc' := 51) dX12_cashOf_50 rfl ?_
    refine r_ireturn dX12_cashOf_51 rfl ?_
    refine ⟨?_, rfl, rfl, rfl, rfl⟩
    unfold c_cash
    (repeat' split) <;> first | rfl | (exfalso; omega) | (congr 3; omega)
  · refine r_iload_n (i := 2) (pc' := 18) dX12_cashOf_17 rfl rfl (.tail _ (.tail _ (.head _))) ?_
    refine r_aload_n (i := 0) (pc' := 19) dX12_cashOf_18 rfl rfl (.head _) ?_
    refine r_iload_n (i := 1) (pc' := 20) dX12_cashOf_19 rfl rfl (.tail _ (.head _)) ?_
    refine r_iconst (pc' := 21) dX12_cashOf_20 rfl ?_
    refine r_V2p (ci := 12) (pc' := 24) dX12_cashOf_21 rfl lX12_115 rfl (by decide) (Nat.le_of_ble_eq_true rfl) (by first | assumption | rfl) (by omega) (tO_5 hm hR hO (by first | assumption | omega)) ?_
    refine r_icmp_ge (t := 49) (f := 27) dX12_cashOf_24 (by decide) rfl (by first | omega | exact xv_in _ _ _) (by first | omega | exact xv_in _ _ _) (fun h24 => ?_) (fun h24 => ?_)
    · refine r_iconst (pc' := 50) dX12_cashOf_49 rfl ?_
      refine r_iadd (pc' := 51) dX12_cashOf_50 rfl ?_
      refine r_ireturn dX12_cashOf_51 rfl ?_
      refine ⟨?_, rfl, rfl, rfl, rfl⟩
      unfold c_cash
      (repeat' split) <;> first | rfl | (exfalso; omega) | (congr 3; omega)
    · refine r_aload_n (i := 0) (pc' := 28) dX12_cashOf_27 rfl rfl (.head _) ?_
      refine r_iload_n (i := 1) (pc' := 29) dX12_cashOf_28 rfl rfl (.tail _ (.head _)) ?_
      refine r_bipush (pc' := 31) dX12_cashOf_29 rfl (by decide) ?_
      refine r_iload_n (i := 2) (pc' := 32) dX12_cashOf_31 rfl rfl (.tail _ (.tail _ (.head _))) ?_
      refine r_iadd (pc' := 33) dX12_cashOf_32 rfl ?_
      refine r_V2p (ci := 12) (pc' := 36) dX12_cashOf_33 rfl lX12_115 rfl (by decide) (Nat.le_of_ble_eq_true rfl) (by first | assumption | rfl) (by omega) (tO_b hm hR hO (by first | assumption | omega) (by omega)) ?_
      refine r_aload_n (i := 0) (pc' := 37) dX12_cashOf_36 rfl rfl (.head _) ?_
      refine r_iload_n (i := 1) (pc' := 38) dX12_cashOf_37 rfl rfl (.tail _ (.head _)) ?_
      refine r_bipush (pc' := 40) dX12_cashOf_38 rfl (by decide) ?_
      refine r_iload_n (i := 2) (pc' := 41) dX12_cashOf_40 rfl rfl (.tail _ (.tail _ (.head _))) ?_
      refine r_iadd (pc' := 42) dX12_cashOf_41 rfl ?_
      refine r_V2p (ci := 12) (pc' := 45) dX12_cashOf_42 rfl lX12_115 rfl (by decide) (Nat.le_of_ble_eq_true rfl) (by first | assumption | rfl) (by omega) (tO_r hm hR hO (by first | assumption | omega) (by omega)) ?_
      refine r_iadd (pc' := 46) dX12_cashOf_45 rfl ?_
      refine r_goto (t := 50) dX12_cashOf_46 (by decide) ?_
      refine r_iadd (pc' := 51) dX12_cashOf_50 rfl ?_
      refine r_ireturn dX12_cashOf_51 rfl ?_
      refine ⟨?_, rfl, rfl, rfl, rfl⟩
      unfold c_cash
      (repeat' split) <;> first | rfl | (exfalso; omega) | (congr 3; omega)
set_option maxHeartbeats 4000000 in
set_option maxRecDepth 100000 in
theorem tX12_yearsLeft {l : Launch} {g : q_G} {n : Nat} {P : q_P} {X : q_X} {Y : q_Y} (hm : isMod n P) {C : q_X} {b : Nat} (hR : RB C b (xv X 468)) (hO : bOk C b) {k : Nat} (hk : (k : Int) < xv C b 10) (hv : bLv C b) : q_Met l g mX12_yearsLeft 3 [.ref (g.1 + 467), .int (zi (k : Int))] n P X Y (q_pv (.int (zi (c_left C (con b k) (xv C b 0)))) n P X Y) := by
  obtain ⟨m0, m2, m3, m8, m9, m14, m15, m16, m17, m18, m20, m22, m25, hnm9⟩ := id hm
  obtain ⟨o0, o1, o2, o3, o4, o5, o6, o10, oc, op0, opz, opi, om0, omi, olim⟩ := id hO
  have hck := hO.c hk
  obtain ⟨hf, hf2, hf3, hf4, hfj, hfs, hfg⟩ := id hck
  have hlv := hv k hk
  refine q_enter (L := [(0, .ref (g.1 + 467)), (1, .int (zi (k : Int)))]) (by decide) (Nat.le_of_ble_eq_true rfl) rfl ?_
  refine r_aload_n (i := 0) (pc' := 1) dX12_yearsLeft_0 rfl rfl (.head _) ?_
  refine r_iload_n (i := 1) (pc' := 2) dX12_yearsLeft_1 rfl rfl (.tail _ (.head _)) ?_
  refine r_V1p (ci := 12) (pc' := 5) dX12_yearsLeft_2 rfl lX12_209 rfl (by decide) (Nat.le_of_ble_eq_true rfl) (by first | assumption | rfl) (by omega) (tX12_isOpen (by assumption) (by assumption) (by assumption) (by assumption)) ?_
  refine r_bif_eq (t := 38) (f := 8) dX12_yearsLeft_5 (by decide) rfl (fun h5 => ?_) (fun h5 => ?_)
  · refine r_iconst (pc' := 39) dX12_yearsLeft_38 rfl ?_
    refine r_ireturn dX12_yearsLeft_39 rfl ?_
    refine ⟨?_, rfl, rfl, rfl, rfl⟩
    unfold c_left
    (repeat' split) <;> first | rfl | (exfalso; omega) | (congr 3; omega)
  · refine r_aload_n (i := 0) (pc' := 9) dX12_yearsLeft_8 rfl rfl (.head _) ?_
    refine r_iload_n (i := 1) (pc' := 10) dX12_yearsLeft_9 rfl rfl (.tail _ (.head _)) ?_
    refine r_iconst (pc' := 11) dX12_yearsLeft_10 rfl ?_
    refine r_V2p (ci := 12) (pc' := 14) dX12_yearsLeft_11 rfl lX12_115 rfl (by decide) (Nat.le_of_ble_eq_true rfl) (by first | assumption | rfl) (by omega) (tO_0 hm hR hO (by first | assumption | omega)) ?_
    refine r_aload_n (i := 0) (pc' := 15) dX12_yearsLeft_14 rfl rfl (.head _) ?_
    refine r_getR (pc' := 18) dX12_yearsLeft_15 rfl fX12_3 rfl (by first | assumption | rfl) (by omega) (by assumption) ?_
    refine r_iconst (pc' := 19) dX12_yearsLeft_18 rfl ?_
    refine r_iaload (pc' := 20) dX12_yearsLeft_19 rfl (by first | assumption | rfl) (by omega) (by omega) (by omega) (by first | decide | omega) (show Int.toNat 0 = 0 from rfl) ?_
    rw [hR.z 0 (by decide)]
    refine r_icmp_gt (t := 38) (f := 23) dX12_yearsLeft_20 (by decide) rfl (by first | omega | exact xv_in _ _ _) (by first | omega | exact xv_in _ _ _) (fun h20 => ?_) (fun h20 => ?_)
    · refine r_iconst (pc' := 39) dX12_yearsLeft_38 rfl ?_
      refine r_ireturn dX12_yearsLeft_39 rfl ?_
      refine ⟨?_, rfl, rfl, rfl, rfl⟩
      unfold c_left
      (repeat' split) <;> first | rfl | (exfalso; omega) | (congr 3; omega)
    · refine r_aload_n (i := 0) (pc' := 24) dX12_yearsLeft_23 rfl rfl (.head _) ?_
      refine r_iload_n (i := 1) (pc' := 25) dX12_yearsLeft_24 rfl rfl (.tail _ (.head _)) ?_
      refine r_V1p (ci := 12) (pc' := 28) dX12_yearsLeft_25 rfl lX12_132 rfl (by decide) (Nat.le_of_ble_eq_true rfl) (by first | assumption | rfl) (by omega) (tX12_endOf (by assumption) (by assumption) (by assumption) (by assumption)) ?_
      refine r_aload_n (i := 0) (pc' := 29) dX12_yearsLeft_28 rfl rfl (.head _) ?_
      refine r_getR (pc' := 32) dX12_yearsLeft_29 rfl fX12_3 rfl (by first | assumption | rfl) (by omega) (by assumption) ?_
      refine r_iconst (pc' := 33) dX12_yearsLeft_32 rfl ?_
      refine r_iaload (pc' := 34) dX12_yearsLeft_33 rfl (by first | assumption | rfl) (by omega) (by omega) (by omega) (by first | decide | omega) (show Int.toNat 0 = 0 from rfl) ?_
      rw [hR.z 0 (by decide)]
      refine r_isub (pc' := 35) dX12_yearsLeft_34 rfl ?_
      refine r_goto (t := 39) dX12_yearsLeft_35 (by decide) ?_
      refine r_ireturn dX12_yearsLeft_39 rfl ?_
      refine ⟨?_, rfl, rfl, rfl, rfl⟩
      unfold c_left
      (repeat' split) <;> first | rfl | (exfalso; omega) | (congr 3; omega)
set_option maxHeartbeats 4000000 in
set_option maxRecDepth 100000 in
theorem tX12_isPromise {l : Launch} {g : q_G} {n : Nat} {P : q_P} {X : q_X} {Y : q_Y} (hm : isMod n P) {C : q_X} {b : Nat} (hR : RB C b (xv X 468)) (hO : bOk C b) {i : Int} (hi : q_in i) : q_Met l g mX12_isPromise 1 [.ref (g.1 + 467), .int (zi i)] n P X Y (q_pv (.int (zi (if 0 ≤ i ∧ i < xv C (b + 4) 0 then 1 else 0))) n P X Y) := by
  obtain ⟨m0, m2, m3, m8, m9, m14, m15, m16, m17, m18, m20, m22, m25, hnm9⟩ := id hm
  obtain ⟨o0, o1, o2, o3, o4, o5, o6, o10, oc, op0, opz, opi, om0, omi, olim⟩ := id hO
  refine q_enter (L := [(0, .ref (g.1 + 467)), (1, .int (zi i))]) (by decide) (Nat.le_of_ble_eq_true rfl) rfl ?_
  refine r_iload_n (i := 1) (pc' := 1) dX12_isPromise_0 rfl rfl (.tail _ (.head _)) ?_
  refine r_i2l (pc' := 2) dX12_isPromise_1 rfl rfl ?_
  refine r_lconst (pc' := 3) (z := 0) dX12_isPromise_2 rfl rfl ?_
  refine r_aload_n (i := 0) (pc' := 4) dX12_isPromise_3 rfl rfl (.head _) ?_
  refine r_getR (pc' := 7) dX12_isPromise_4 rfl fX12_3 rfl (by first | assumption | rfl) (by omega) (by assumption) ?_
  refine r_sipush (pc' := 10) dX12_isPromise_7 rfl (by decide) ?_
  refine r_iaload (pc' := 11) dX12_isPromise_10 rfl (by first | assumption | rfl) (by omega) (by omega) (by omega) (by first | decide | omega) (show Int.toNat 3571 = 3571 from rfl) ?_
  rw [hR.pm]
  refine r_iconst (pc' := 12) dX12_isPromise_11 rfl ?_
  refine r_isub (pc' := 13) dX12_isPromise_12 rfl ?_
  refine r_i2l (pc' := 14) dX12_isPromise_13 rfl rfl ?_
  refine r_S3p (pc' := 17) dX12_isPromise_14 rfl lX12_68 (by decide) (Nat.le_of_ble_eq_true rfl) (tX12_isIn (by first | exact li_z (by omega) | exact li_z (xv_in _ _ _) | rfl) (by first | exact li_z (by omega) | exact li_z (xv_in _ _ _) | rfl) (by first | exact li_z (by omega) | exact li_z (xv_in _ _ _) | rfl)) ?_
  try simp only [i64_0, i64_1, i64_2, i64_3, i64_4, i64_5, i64_6, i64_7, i64_10, i64_19, i64_40, i64_100, i64_364, i64_9999, i64_99999, i64_999999, i64_m999999]
  refine r_zreturn dX12_isPromise_17 rfl (by first | decide | (split <;> omega) | omega) ?_
  refine ⟨?_, rfl, rfl, rfl, rfl⟩
  (repeat' split) <;> first | rfl | (exfalso; omega)
set_option maxHeartbeats 4000000 in
set_option maxRecDepth 100000 in
theorem tX12_isOffer {l : Launch} {g : q_G} {n : Nat} {P : q_P} {X : q_X} {Y : q_Y} (hm : isMod n P) {C : q_X} {b : Nat} (hR : RB C b (xv X 468)) (hO : bOk C b) {i : Int} (hi : q_in i) : q_Met l g mX12_isOffer 1 [.ref (g.1 + 467), .int (zi i)] n P X Y (q_pv (.int (zi (if 0 ≤ i ∧ i < xv C (b + 10) 0 then 1 else 0))) n P X Y) := by
  obtain ⟨m0, m2, m3, m8, m9, m14, m15, m16, m17, m18, m20, m22, m25, hnm9⟩ := id hm
  obtain ⟨o0, o1, o2, o3, o4, o5, o6, o10, oc, op0, opz, opi, om0, omi, olim⟩ := id hO
  refine q_enter (L := [(0, .ref (g.1 + 467)), (1, .int (zi i))]) (by decide) (Nat.le_of_ble_eq_true rfl) rfl ?_
  refine r_iload_n (i := 1) (pc' := 1) dX12_isOffer_0 rfl rfl (.tail _ (.head _)) ?_
  refine r_i2l (pc' := 2) dX12_isOffer_1 rfl rfl ?_
  refine r_lconst (pc' := 3) (z := 0) dX12_isOffer_2 rfl rfl ?_
  refine r_aload_n (i := 0) (pc' := 4) dX12_isOffer_3 rfl rfl (.head _) ?_
  refine r_getR (pc' := 7) dX12_isOffer_4 rfl fX12_3 rfl (by first | assumption | rfl) (by omega) (by assumption) ?_
  refine r_sipush (pc' := 10) dX12_isOffer_7 rfl (by decide) ?_
  refine r_iaload (pc' := 11) dX12_isOffer_10 rfl (by first | assumption | rfl) (by omega) (by omega) (by omega) (by first | decide | omega) (show Int.toNat 3570 = 3570 from rfl) ?_
  rw [hR.om]
  refine r_iconst (pc' := 12) dX12_isOffer_11 rfl ?_
  refine r_isub (pc' := 13) dX12_isOffer_12 rfl ?_
  refine r_i2l (pc' := 14) dX12_isOffer_13 rfl rfl ?_
  refine r_S3p (pc' := 17) dX12_isOffer_14 rfl lX12_68 (by decide) (Nat.le_of_ble_eq_true rfl) (tX12_isIn (by first | exact li_z (by omega) | exact li_z (xv_in _ _ _) | rfl) (by first | exact li_z (by omega) | exact li_z (xv_in _ _ _) | rfl) (by first | exact li_z (by omega) | exact li_z (xv_in _ _ _) | rfl)) ?_
  try simp only [i64_0, i64_1, i64_2, i64_3, i64_4, i64_5, i64_6, i64_7, i64_10, i64_19, i64_40, i64_100, i64_364, i64_9999, i64_99999, i64_999999, i64_m999999]
  refine r_zreturn dX12_isOffer_17 rfl (by first | decide | (split <;> omega) | omega) ?_
  refine ⟨?_, rfl, rfl, rfl, rfl⟩
  (repeat' split) <;> first | rfl | (exfalso; omega)
set_option maxHeartbeats 4000000 in
set_option maxRecDepth 100000 in
theorem tX12_limit {l : Launch} {g : q_G} {n : Nat} {P : q_P} {X : q_X} {Y : q_Y} (hm : isMod n P) {C : q_X} {b : Nat} (hR : RB C b (xv X 468)) (hO : bOk C b) {y : Int} (hy : q_in y) : q_Met l g mX12_limit 2 [.ref (g.1 + 467), .int (zi y)] n P X Y (q_pv (.int (zi (if 0 ≤ y ∧ y < 20 then xv C (b + 1) y.toNat else -1))) n P X Y) := by
  obtain ⟨m0, m2, m3, m8, m9, m14, m15, m16, m17, m18, m20, m22, m25, hnm9⟩ := id hm
  obtain ⟨o0, o1, o2, o3, o4, o5, o6, o10, oc, op0, opz, opi, om0, omi, olim⟩ := id hO
  refine q_enter (L := [(0, .ref (g.1 + 467)), (1, .int (zi y))]) (by decide) (Nat.le_of_ble_eq_true rfl) rfl ?_
  refine r_iload_n (i := 1) (pc' := 1) dX12_limit_0 rfl rfl (.tail _ (.head _)) ?_
  refine r_S1p (pc' := 4) dX12_limit_1 rfl lX12_253 (by decide) (Nat.le_of_ble_eq_true rfl) (tX12_isYear (by omega)) ?_
  refine r_bif_eq (t := 19) (f := 7) dX12_limit_4 (by decide) rfl (fun h4 => ?_) (fun h4 => ?_)
  · refine r_iconst (pc' := 20) dX12_limit_19 rfl ?_
    refine r_ireturn dX12_limit_20 rfl ?_
    refine ⟨?_, rfl, rfl, rfl, rfl⟩
    (repeat' split) <;> first | rfl | (exfalso; omega) | (congr 3; omega)
  · refine r_aload_n (i := 0) (pc' := 8) dX12_limit_7 rfl rfl (.head _) ?_
    refine r_getR (pc' := 11) dX12_limit_8 rfl fX12_3 rfl (by first | assumption | rfl) (by omega) (by assumption) ?_
    refine r_bipush (pc' := 13) dX12_limit_11 rfl (by decide) ?_
    refine r_iload_n (i := 1) (pc' := 14) dX12_limit_13 rfl rfl (.tail _ (.head _)) ?_
    refine r_iadd (pc' := 15) dX12_limit_14 rfl ?_
    refine r_iaload (pc' := 16) dX12_limit_15 rfl (by first | assumption | rfl) (by omega) (by omega) (by omega) (by first | decide | omega) rfl ?_
    rw [hR.lim (by omega)]
    refine r_goto (t := 20) dX12_limit_16 (by decide) ?_
    refine r_ireturn dX12_limit_20 rfl ?_
    refine ⟨?_, rfl, rfl, rfl, rfl⟩
    (repeat' split) <;> first | rfl | (exfalso; omega) | (congr 3; omega)
set_option maxHeartbeats 4000000 in
set_option maxRecDepth 100000 in
theorem tX12_dead {l : Launch} {g : q_G} {n : Nat} {P : q_P} {X : q_X} {Y : q_Y} (hm : isMod n P) {C : q_X} {b : Nat} (hR : RB C b (xv X 468)) (hO : bOk C b) {y : Int} (hy : q_in y) : q_Met l g mX12_dead 2 [.ref (g.1 + 467), .int (zi y)] n P X Y (q_pv (.int (zi (if 0 ≤ y ∧ y < 20 then xv C (b + 2) y.toNat else -1))) n P X Y) := by
  obtain ⟨m0, m2, m3, m8, m9, m14, m15, m16, m17, m18, m20, m22, m25, hnm9⟩ := id hm
  obtain ⟨o0, o1, o2, o3, o4, o5, o6, o10, oc, op0, opz, opi, om0, omi, olim⟩ := id hO
  refine q_enter (L := [(0, .ref (g.1 + 467)), (1, .int (zi y))]) (by decide) (Nat.le_of_ble_eq_true rfl) rfl ?_
  refine r_iload_n (i := 1) (pc' := 1) dX12_dead_0 rfl rfl (.tail _ (.head _)) ?_
  refine r_S1p (pc' := 4) dX12_dead_1 rfl lX12_253 (by decide) (Nat.le_of_ble_eq_true rfl) (tX12_isYear (by omega)) ?_
  refine r_bif_eq (t := 19) (f := 7) dX12_dead_4 (by decide) rfl (fun h4 => ?_) (fun h4 => ?_)
  · refine r_iconst (pc' := 20) dX12_dead_19 rfl ?_
    refine r_ireturn dX12_dead_20 rfl ?_
    refine ⟨?_, rfl, rfl, rfl, rfl⟩
    (repeat' split) <;> first | rfl | (exfalso; omega) | (congr 3; omega)
  · refine r_aload_n (i := 0) (pc' := 8) dX12_dead_7 rfl rfl (.head _) ?_
    refine r_getR (pc' := 11) dX12_dead_8 rfl fX12_3 rfl (by first | assumption | rfl) (by omega) (by assumption) ?_
    refine r_bipush (pc' := 13) dX12_dead_11 rfl (by decide) ?_
    refine r_iload_n (i := 1) (pc' := 14) dX12_dead_13 rfl rfl (.tail _ (.head _)) ?_
    refine r_iadd (pc' := 15) dX12_dead_14 rfl ?_
    refine r_iaload (pc' := 16) dX12_dead_15 rfl (by first | assumption | rfl) (by omega) (by omega) (by omega) (by first | decide | omega) rfl ?_
    rw [hR.dead (by omega)]
    refine r_goto (t := 20) dX12_dead_16 (by decide) ?_
    refine r_ireturn dX12_dead_20 rfl ?_
    refine ⟨?_, rfl, rfl, rfl, rfl⟩
    (repeat' split) <;> first | rfl | (exfalso; omega) | (congr 3; omega)
