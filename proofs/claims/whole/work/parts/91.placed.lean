/-! answers of the reference -/
theorem bop (C : q_X) (b k : Nat) : bk_op C b k = true ↔ xv C (con b k) 4 = 0 := by simp [bk_op]
theorem pl_rk (C : q_X) (b k : Nat) (y : Int) (s : Nat) : q_sum (fun o => if xv C (con b o) 4 = 0 ∧ (c_hit C (con b k) y < c_hit C (con b o) y ∨ (c_hit C (con b o) y = c_hit C (con b k) y ∧ o < k)) then (1 : Int) else 0) 0 s = u_rk s (bk_op C b) (fun k => c_hit C (con b k) y) k := by
  unfold u_rk
  refine q_sum_congr _ _ (fun i _ _ => ?_)
  by_cases h : xv C (con b i) 4 = 0 ∧ (c_hit C (con b k) y < c_hit C (con b i) y ∨ (c_hit C (con b i) y = c_hit C (con b k) y ∧ i < k))
  · rw [if_pos h, if_pos ⟨(bop C b i).mpr h.1, h.2⟩]
  · rw [if_neg h, if_neg (fun q => h ⟨(bop C b i).mp q.1, q.2⟩)]
theorem lhO_0 (C : q_X) (b : Nat) : lhO C b g0 = bk_op C b := by funext k; simp [lhO, g0]
theorem bk_hT_0 (C : q_X) (b : Nat) : bk_hT C b g0 = fun k => c_hit C (con b k) (xv C b 0) := by funext k; simp [bk_hT, g0]
theorem lfull_0 (C : q_X) (b k : Nat) : (if lfull C b g0 g0 (xv C b 1) k then (1 : Int) else 0) = if bk_isFull C b k then 1 else 0 := by
  simp only [lfull, bk_isFull, lhO_0, bk_hT_0]
set_option maxHeartbeats 4000000 in
set_option maxRecDepth 100000 in
theorem iX12_placed {l : Launch} {g : q_G} {n : Nat} {P : q_P} {X : q_X} {Y : q_Y} (hm : isMod n P) {C : q_X} {b : Nat} (hR : RB C b (xv X 468)) (hO : bOk C b) {k : Nat} (hk : (k : Int) < xv C b 10) {y : Int} (hy : 0 ≤ y ∧ y < 20) {i r : Int} {K : q_K} (kk : q_Tr l g mX12_placed 3 K 105 [(0, .ref (g.1 + 467)), (1, .int (zi i)), (2, .int (zi y)), (3, .int (zi (k : Int))), (4, .int (zi r))] [] n P X Y) : ∀ (w o : Nat) (s : Int), o + w = (xv C b 10).toNat → s + q_sum (fun o => if xv C (con b o) 4 = 0 ∧ (c_hit C (con b k) y < c_hit C (con b o) y ∨ (c_hit C (con b o) y = c_hit C (con b k) y ∧ o < k)) then (1 : Int) else 0) o w = r → q_Tr l g mX12_placed 3 K 30 [(0, .ref (g.1 + 467)), (1, .int (zi i)), (2, .int (zi y)), (3, .int (zi (k : Int))), (4, .int (zi s)), (5, .int (zi (o : Int)))] [] n P X Y := by
  obtain ⟨m0, m2, m3, m8, m9, m14, m15, m16, m17, m18, m20, m22, m25, hnm9⟩ := id hm
  obtain ⟨o0, o1, o2, o3, o4, o5, o6, o10, oc, op0, opz, opi, om0, omi, olim⟩ := id hO
  have hck := hO.c hk
  obtain ⟨hf, hf2, hf3, hf4, hfj, hfs, hfg⟩ := id hck
  have hbk := c_hit_b hck y
  intro w
  induction w with
  | zero =>
    intro o s ho hr
    refine r_iload (pc' := 32) dX12_placed_30 rfl (.tail _ (.tail _ (.tail _ (.tail _ (.tail _ (.head _)))))) ?_
    refine r_aload_n (i := 0) (pc' := 33) dX12_placed_32 rfl rfl (.head _) ?_
    refine r_getR (pc' := 36) dX12_placed_33 rfl fX12_3 rfl (by first | assumption | rfl) (by omega) (by assumption) ?_
    refine r_bipush (pc' := 38) dX12_placed_36 rfl (by decide) ?_
    refine r_iaload (pc' := 39) dX12_placed_38 rfl (by first | assumption | rfl) (by omega) (by omega) (by omega) (by first | decide | omega) (show Int.toNat 7 = 7 from rfl) ?_
    rw [hR.m]
    refine r_icmp_ge (t := 105) (f := 42) dX12_placed_39 (by decide) rfl (by first | omega | exact xv_in _ _ _) (by first | omega | exact xv_in _ _ _) (fun h39 => ?_) (fun h39 => ?_)
    · refine r_sub (.kp (.kp (.kp (.kp (.kp (.dr .nil)))))) ?_
      rw [show s = r by rw [← hr]; simp [q_sum]]
      exact kk
    · exfalso; omega
  | succ w ih =>
    intro o s ho hr
    have hko : (o : Int) < xv C b 10 := by omega
    have hbo := c_hit_b (hO.c hko) y
    refine r_iload (pc' := 32) dX12_placed_30 rfl (.tail _ (.tail _ (.tail _ (.tail _ (.tail _ (.head _)))))) ?_
    refine r_aload_n (i := 0) (pc' := 33) dX12_placed_32 rfl rfl (.head _) ?_
    refine r_getR (pc' := 36) dX12_placed_33 rfl fX12_3 rfl (by first | assumption | rfl) (by omega) (by assumption) ?_
    refine r_bipush (pc' := 38) dX12_placed_36 rfl (by decide) ?_
    refine r_iaload (pc' := 39) dX12_placed_38 rfl (by first | assumption | rfl) (by omega) (by omega) (by omega) (by first | decide | omega) (show Int.toNat 7 = 7 from rfl) ?_
    rw [hR.m]
    refine r_icmp_ge (t := 105) (f := 42) dX12_placed_39 (by decide) rfl (by first | omega | exact xv_in _ _ _) (by first | omega | exact xv_in _ _ _) (fun h39 => ?_) (fun h39 => ?_)
    · exfalso; omega
    · refine r_iload (pc' := 44) dX12_placed_42 rfl (.tail _ (.tail _ (.tail _ (.tail _ (.head _))))) ?_
      refine r_aload_n (i := 0) (pc' := 45) dX12_placed_44 rfl rfl (.head _) ?_
      refine r_iload (pc' := 47) dX12_placed_45 rfl (.tail _ (.tail _ (.tail _ (.tail _ (.tail _ (.head _)))))) ?_
      refine r_V1p (ci := 12) (pc' := 50) dX12_placed_47 rfl lX12_209 rfl (by decide) (Nat.le_of_ble_eq_true rfl) (by first | assumption | rfl) (by omega) (tX12_isOpen (by assumption) (by assumption) (by assumption) (by assumption)) ?_
      refine r_bif_eq (t := 95) (f := 53) dX12_placed_50 (by decide) rfl (fun h50 => ?_) (fun h50 => ?_)
      · refine r_iconst (pc' := 96) dX12_placed_95 rfl ?_
        refine r_iadd (pc' := 97) dX12_placed_96 rfl ?_
        refine r_istore (pc' := 99) dX12_placed_97 rfl rfl (.s1 (.s1 (.s1 (.s1 (.here (.s1 .nil rfl rfl rfl)) rfl rfl rfl) rfl rfl rfl) rfl rfl rfl) rfl rfl rfl) ?_
        refine r_iinc (pc' := 102) dX12_placed_99 rfl rfl (.tail _ (.tail _ (.tail _ (.tail _ (.tail _ (.head _)))))) (.s1 (.s1 (.s1 (.s1 (.s1 (.here .nil) rfl rfl rfl) rfl rfl rfl) rfl rfl rfl) rfl rfl rfl) rfl rfl rfl) ?_
        refine r_goto (t := 30) dX12_placed_102 (by decide) ?_
        refine ih (o + 1) _ (by omega) ?_
        rw [← hr, q_sum]
        try dsimp only
        first | (rw [if_pos (by omega)]; omega) | (rw [if_neg (by omega)]; omega)
      · refine r_aload_n (i := 0) (pc' := 54) dX12_placed_53 rfl rfl (.head _) ?_
        refine r_iload (pc' := 56) dX12_placed_54 rfl (.tail _ (.tail _ (.tail _ (.tail _ (.tail _ (.head _)))))) ?_
        refine r_iload_n (i := 2) (pc' := 57) dX12_placed_56 rfl rfl (.tail _ (.tail _ (.head _))) ?_
        refine r_V2p (ci := 12) (pc' := 60) dX12_placed_57 rfl lX12_230 rfl (by decide) (Nat.le_of_ble_eq_true rfl) (by first | assumption | rfl) (by omega) (tX12_hitOf (by assumption) (by assumption) (by assumption) (by assumption) (by omega)) ?_
        refine r_aload_n (i := 0) (pc' := 61) dX12_placed_60 rfl rfl (.head _) ?_
        refine r_iload_n (i := 3) (pc' := 62) dX12_placed_61 rfl rfl (.tail _ (.tail _ (.tail _ (.head _)))) ?_
        refine r_iload_n (i := 2) (pc' := 63) dX12_placed_62 rfl rfl (.tail _ (.tail _ (.head _))) ?_
        refine r_V2p (ci := 12) (pc' := 66) dX12_placed_63 rfl lX12_230 rfl (by decide) (Nat.le_of_ble_eq_true rfl) (by first | assumption | rfl) (by omega) (tX12_hitOf (by assumption) (by assumption) (by assumption) (by assumption) (by omega)) ?_
        refine r_icmp_gt (t := 91) (f := 69) dX12_placed_66 (by decide) rfl (by first | omega | exact xv_in _ _ _) (by first | omega | exact xv_in _ _ _) (fun h66 => ?_) (fun h66 => ?_)
        · refine r_iconst (pc' := 92) dX12_placed_91 rfl ?_
          refine r_goto (t := 96) dX12_placed_92 (by decide) ?_
          refine r_iadd (pc' := 97) dX12_placed_96 rfl ?_
          refine r_istore (pc' := 99) dX12_placed_97 rfl rfl (.s1 (.s1 (.s1 (.s1 (.here (.s1 .nil rfl rfl rfl)) rfl rfl rfl) rfl rfl rfl) rfl rfl rfl) rfl rfl rfl) ?_
          refine r_iinc (pc' := 102) dX12_placed_99 rfl rfl (.tail _ (.tail _ (.tail _ (.tail _ (.tail _ (.head _)))))) (.s1 (.s1 (.s1 (.s1 (.s1 (.here .nil) rfl rfl rfl) rfl rfl rfl) rfl rfl rfl) rfl rfl rfl) rfl rfl rfl) ?_
          refine r_goto (t := 30) dX12_placed_102 (by decide) ?_
          refine ih (o + 1) _ (by omega) ?_
          rw [← hr, q_sum]
          try dsimp only
          first | (rw [if_pos (by omega)]; omega) | (rw [if_neg (by omega)]; omega)
        · refine r_aload_n (i := 0) (pc' := 70) dX12_placed_69 rfl rfl (.head _) ?_
          refine r_iload (pc' := 72) dX12_placed_70 rfl (.tail _ (.tail _ (.tail _ (.tail _ (.tail _ (.head _)))))) ?_
          refine r_iload_n (i := 2) (pc' := 73) dX12_placed_72 rfl rfl (.tail _ (.tail _ (.head _))) ?_
          refine r_V2p (ci := 12) (pc' := 76) dX12_placed_73 rfl lX12_230 rfl (by decide) (Nat.le_of_ble_eq_true rfl) (by first | assumption | rfl) (by omega) (tX12_hitOf (by assumption) (by assumption) (by assumption) (by assumption) (by omega)) ?_
          refine r_aload_n (i := 0) (pc' := 77) dX12_placed_76 rfl rfl (.head _) ?_
          refine r_iload_n (i := 3) (pc' := 78) dX12_placed_77 rfl rfl (.tail _ (.tail _ (.tail _ (.head _)))) ?_
          refine r_iload_n (i := 2) (pc' := 79) dX12_placed_78 rfl rfl (.tail _ (.tail _ (.head _))) ?_
          refine r_V2p (ci := 12) (pc' := 82) dX12_placed_79 rfl lX12_230 rfl (by decide) (Nat.le_of_ble_eq_true rfl) (by first | assumption | rfl) (by omega) (tX12_hitOf (by assumption) (by assumption) (by assumption) (by assumption) (by omega)) ?_
          refine r_icmp_ne (t := 95) (f := 85) dX12_placed_82 (by decide) rfl (by first | omega | exact xv_in _ _ _) (by first | omega | exact xv_in _ _ _) (fun h82 => ?_) (fun h82 => ?_)
          · refine r_iconst (pc' := 96) dX12_placed_95 rfl ?_
            refine r_iadd (pc' := 97) dX12_placed_96 rfl ?_
            refine r_istore (pc' := 99) dX12_placed_97 rfl rfl (.s1 (.s1 (.s1 (.s1 (.here (.s1 .nil rfl rfl rfl)) rfl rfl rfl) rfl rfl rfl) rfl rfl rfl) rfl rfl rfl) ?_
            refine r_iinc (pc' := 102) dX12_placed_99 rfl rfl (.tail _ (.tail _ (.tail _ (.tail _ (.tail _ (.head _)))))) (.s1 (.s1 (.s1 (.s1 (.s1 (.here .nil) rfl rfl rfl) rfl rfl rfl) rfl rfl rfl) rfl rfl rfl) rfl rfl rfl) ?_
            refine r_goto (t := 30) dX12_placed_102 (by decide) ?_
            refine ih (o + 1) _ (by omega) ?_
            rw [← hr, q_sum]
            try dsimp only
            first | (rw [if_pos (by omega)]; omega) | (rw [if_neg (by omega)]; omega)
          · refine r_iload (pc' := 87) dX12_placed_85 rfl (.tail _ (.tail _ (.tail _ (.tail _ (.tail _ (.head _)))))) ?_
            refine r_iload_n (i := 3) (pc' := 88) dX12_placed_87 rfl rfl (.tail _ (.tail _ (.tail _ (.head _)))) ?_
            refine r_icmp_ge (t := 95) (f := 91) dX12_placed_88 (by decide) rfl (by first | omega | exact xv_in _ _ _) (by first | omega | exact xv_in _ _ _) (fun h88 => ?_) (fun h88 => ?_)
            · refine r_iconst (pc' := 96) dX12_placed_95 rfl ?_
              refine r_iadd (pc' := 97) dX12_placed_96 rfl ?_
              refine r_istore (pc' := 99) dX12_placed_97 rfl rfl (.s1 (.s1 (.s1 (.s1 (.here (.s1 .nil rfl rfl rfl)) rfl rfl rfl) rfl rfl rfl) rfl rfl rfl) rfl rfl rfl) ?_
              refine r_iinc (pc' := 102) dX12_placed_99 rfl rfl (.tail _ (.tail _ (.tail _ (.tail _ (.tail _ (.head _)))))) (.s1 (.s1 (.s1 (.s1 (.s1 (.here .nil) rfl rfl rfl) rfl rfl rfl) rfl rfl rfl) rfl rfl rfl) rfl rfl rfl) ?_
              refine r_goto (t := 30) dX12_placed_102 (by decide) ?_
              refine ih (o + 1) _ (by omega) ?_
              rw [← hr, q_sum]
              try dsimp only
              first | (rw [if_pos (by omega)]; omega) | (rw [if_neg (by omega)]; omega)
            · refine r_iconst (pc' := 92) dX12_placed_91 rfl ?_
              refine r_goto (t := 96) dX12_placed_92 (by decide) ?_
              refine r_iadd (pc' := 97) dX12_placed_96 rfl ?_
              refine r_istore (pc' := 99) dX12_placed_97 rfl rfl (.s1 (.s1 (.s1 (.s1 (.here (.s1 .nil rfl rfl rfl)) rfl rfl rfl) rfl rfl rfl) rfl rfl rfl) rfl rfl rfl) ?_
              refine r_iinc (pc' := 102) dX12_placed_99 rfl rfl (.tail _ (.tail _ (.tail _ (.tail _ (.tail _ (.head _)))))) (.s1 (.s1 (.s1 (.s1 (.s1 (.here .nil) rfl rfl rfl) rfl rfl rfl) rfl rfl rfl) rfl rfl rfl) rfl rfl rfl) ?_
              refine r_goto (t := 30) dX12_placed_102 (by decide) ?_
              refine ih (o + 1) _ (by omega) ?_
              rw [← hr, q_sum]
              try dsimp only
              first | (rw [if_pos (by omega)]; omega) | (rw [if_neg (by omega)]; omega)
set_option maxHeartbeats 4000000 in
set_option maxRecDepth 100000 in
theorem lX12_placed {l : Launch} {g : q_G} {n : Nat} {P : q_P} {X : q_X} {Y : q_Y} (hm : isMod n P) {C : q_X} {b : Nat} (hR : RB C b (xv X 468)) (hO : bOk C b) {y : Int} (hy : 0 ≤ y ∧ y < 20) {i : Int} (hi : q_in i) {r : Int} : ∀ (w k : Nat), k + w = (xv C b 10).toNat → f_pl (xv C b 10).toNat (bk_op C b) (fun k => c_hit C (con b k) y) i w k = r → q_Tr l g mX12_placed 3 (q_pv (.int (zi r)) n P X Y) 2 [(0, .ref (g.1 + 467)), (1, .int (zi i)), (2, .int (zi y)), (3, .int (zi (k : Int)))] [] n P X Y := by
  obtain ⟨m0, m2, m3, m8, m9, m14, m15, m16, m17, m18, m20, m22, m25, hnm9⟩ := id hm
  obtain ⟨o0, o1, o2, o3, o4, o5, o6, o10, oc, op0, opz, opi, om0, omi, olim⟩ := id hO
  intro w
  induction w with
  | zero =>
    intro k hk0 hr
    refine r_iload_n (i := 3) (pc' := 3) dX12_placed_2 rfl rfl (.tail _ (.tail _ (.tail _ (.head _)))) ?_
    refine r_aload_n (i := 0) (pc' := 4) dX12_placed_3 rfl rfl (.head _) ?_
    refine r_getR (pc' := 7) dX12_placed_4 rfl fX12_3 rfl (by first | assumption | rfl) (by omega) (by assumption) ?_
    refine r_bipush (pc' := 9) dX12_placed_7 rfl (by decide) ?_
    refine r_iaload (pc' := 10) dX12_placed_9 rfl (by first | assumption | rfl) (by omega) (by omega) (by omega) (by first | decide | omega) (show Int.toNat 7 = 7 from rfl) ?_
    rw [hR.m]
    refine r_icmp_ge (t := 119) (f := 13) dX12_placed_10 (by decide) rfl (by first | omega | exact xv_in _ _ _) (by first | omega | exact xv_in _ _ _) (fun h10 => ?_) (fun h10 => ?_)
    · refine r_iconst (pc' := 120) dX12_placed_119 rfl ?_
      refine r_ireturn dX12_placed_120 rfl ?_
      refine ⟨?_, rfl, rfl, rfl, rfl⟩
      rw [← hr, f_pl]
    · exfalso; omega
  | succ w ih =>
    intro k hk0 hr
    have hk : (k : Int) < xv C b 10 := by omega
    have hub := u_rkB (s := (xv C b 10).toNat) (O := bk_op C b) (H := fun k => c_hit C (con b k) y) (k := k) (by omega)
    have hrk := pl_rk C b k y (xv C b 10).toNat
    rw [f_pl] at hr
    generalize u_rk (xv C b 10).toNat (bk_op C b) (fun k => c_hit C (con b k) y) k = rk at hub hrk hr
    refine r_iload_n (i := 3) (pc' := 3) dX12_placed_2 rfl rfl (.tail _ (.tail _ (.tail _ (.head _)))) ?_
    refine r_aload_n (i := 0) (pc' := 4) dX12_placed_3 rfl rfl (.head _) ?_
    refine r_getR (pc' := 7) dX12_placed_4 rfl fX12_3 rfl (by first | assumption | rfl) (by omega) (by assumption) ?_
    refine r_bipush (pc' := 9) dX12_placed_7 rfl (by decide) ?_
    refine r_iaload (pc' := 10) dX12_placed_9 rfl (by first | assumption | rfl) (by omega) (by omega) (by omega) (by first | decide | omega) (show Int.toNat 7 = 7 from rfl) ?_
    rw [hR.m]
    refine r_icmp_ge (t := 119) (f := 13) dX12_placed_10 (by decide) rfl (by first | omega | exact xv_in _ _ _) (by first | omega | exact xv_in _ _ _) (fun h10 => ?_) (fun h10 => ?_)
    · exfalso; omega
    · refine r_aload_n (i := 0) (pc' := 14) dX12_placed_13 rfl rfl (.head _) ?_
      refine r_iload_n (i := 3) (pc' := 15) dX12_placed_14 rfl rfl (.tail _ (.tail _ (.tail _ (.head _)))) ?_
      refine r_V1p (ci := 12) (pc' := 18) dX12_placed_15 rfl lX12_209 rfl (by decide) (Nat.le_of_ble_eq_true rfl) (by first | assumption | rfl) (by omega) (tX12_isOpen (by assumption) (by assumption) (by assumption) (by assumption)) ?_
      refine r_bif_ne (t := 24) (f := 21) dX12_placed_18 (by decide) rfl (fun h18 => ?_) (fun h18 => ?_)
      · refine r_iconst (pc' := 25) dX12_placed_24 rfl ?_
        refine r_istore (pc' := 27) dX12_placed_25 rfl rfl (.s1 (.s1 (.s1 (.s1 .nil rfl rfl rfl) rfl rfl rfl) rfl rfl rfl) rfl rfl rfl) ?_
        refine r_iconst (pc' := 28) dX12_placed_27 rfl ?_
        refine r_istore (pc' := 30) dX12_placed_28 rfl rfl (.s1 (.s1 (.s1 (.s1 (.s1 .nil rfl rfl rfl) rfl rfl rfl) rfl rfl rfl) rfl rfl rfl) rfl rfl rfl) ?_
        refine iX12_placed hm hR hO hk hy (r := rk) ?_ (xv C b 10).toNat 0 0 (by omega) (by rw [Int.zero_add, hrk])
        refine r_iload (pc' := 107) dX12_placed_105 rfl (.tail _ (.tail _ (.tail _ (.tail _ (.head _))))) ?_
        refine r_iload_n (i := 1) (pc' := 108) dX12_placed_107 rfl rfl (.tail _ (.head _)) ?_
        refine r_icmp_ne (t := 113) (f := 111) dX12_placed_108 (by decide) rfl (by first | omega | exact xv_in _ _ _) (by first | omega | exact xv_in _ _ _) (fun h108 => ?_) (fun h108 => ?_)
        · refine r_iinc (pc' := 116) dX12_placed_113 rfl rfl (.tail _ (.tail _ (.tail _ (.head _)))) (.s1 (.s1 (.s1 (.here (.s1 .nil rfl rfl rfl)) rfl rfl rfl) rfl rfl rfl) rfl rfl rfl) ?_
          refine r_goto (t := 2) dX12_placed_116 (by decide) ?_
          refine r_sub (.kp (.kp (.kp (.kp (.dr .nil))))) ?_
          first
            | (rw [if_neg (fun q => by have := (bop C b k).mp q.1; omega)] at hr; exact ih (k + 1) (by omega) hr)
            | (rw [if_neg (fun q => by have := q.2; omega)] at hr; exact ih (k + 1) (by omega) hr)
        · refine r_iload_n (i := 3) (pc' := 112) dX12_placed_111 rfl rfl (.tail _ (.tail _ (.tail _ (.head _)))) ?_
          refine r_ireturn dX12_placed_112 rfl ?_
          refine ⟨?_, rfl, rfl, rfl, rfl⟩
          rw [← hr, if_pos ⟨(bop C b k).mpr (by omega), by omega⟩]
      · refine r_goto (t := 113) dX12_placed_21 (by decide) ?_
        refine r_iinc (pc' := 116) dX12_placed_113 rfl rfl (.tail _ (.tail _ (.tail _ (.head _)))) (.s1 (.s1 (.s1 (.here .nil) rfl rfl rfl) rfl rfl rfl) rfl rfl rfl) ?_
        refine r_goto (t := 2) dX12_placed_116 (by decide) ?_
        first
          | (rw [if_neg (fun q => by have := (bop C b k).mp q.1; omega)] at hr; exact ih (k + 1) (by omega) hr)
          | (rw [if_neg (fun q => by have := q.2; omega)] at hr; exact ih (k + 1) (by omega) hr)
set_option maxHeartbeats 4000000 in
set_option maxRecDepth 100000 in
theorem tX12_placed {l : Launch} {g : q_G} {n : Nat} {P : q_P} {X : q_X} {Y : q_Y} (hm : isMod n P) {C : q_X} {b : Nat} (hR : RB C b (xv X 468)) (hO : bOk C b) {i y : Int} (hi : q_in i) (hy : 0 ≤ y ∧ y < 20) : q_Met l g mX12_placed 3 [.ref (g.1 + 467), .int (zi i), .int (zi y)] n P X Y (q_pv (.int (zi (f_place C b y i))) n P X Y) := by
  obtain ⟨m0, m2, m3, m8, m9, m14, m15, m16, m17, m18, m20, m22, m25, hnm9⟩ := id hm
  obtain ⟨o0, o1, o2, o3, o4, o5, o6, o10, oc, op0, opz, opi, om0, omi, olim⟩ := id hO
  refine q_enter (L := [(0, .ref (g.1 + 467)), (1, .int (zi i)), (2, .int (zi y))]) (by decide) (Nat.le_of_ble_eq_true rfl) rfl ?_
  refine r_iconst (pc' := 1) dX12_placed_0 rfl ?_
  refine r_istore_n (i := 3) (pc' := 2) dX12_placed_1 rfl rfl rfl (.s1 (.s1 (.s1 .nil rfl rfl rfl) rfl rfl rfl) rfl rfl rfl) ?_
  exact lX12_placed hm hR hO hy hi _ 0 (Nat.zero_add _) rfl
set_option maxHeartbeats 4000000 in
set_option maxRecDepth 100000 in
theorem tX12_ranked {l : Launch} {g : q_G} {n : Nat} {P : q_P} {X : q_X} {Y : q_Y} (hm : isMod n P) {C : q_X} {b : Nat} (hR : RB C b (xv X 468)) (hO : bOk C b) {i : Int} (hi : q_in i) : q_Met l g mX12_ranked 4 [.ref (g.1 + 467), .int (zi i)] n P X Y (q_pv (.int (zi (f_ranked C b i))) n P X Y) := by
  obtain ⟨m0, m2, m3, m8, m9, m14, m15, m16, m17, m18, m20, m22, m25, hnm9⟩ := id hm
  obtain ⟨o0, o1, o2, o3, o4, o5, o6, o10, oc, op0, opz, opi, om0, omi, olim⟩ := id hO
  refine q_enter (L := [(0, .ref (g.1 + 467)), (1, .int (zi i))]) (by decide) (Nat.le_of_ble_eq_true rfl) rfl ?_
  refine r_aload_n (i := 0) (pc' := 1) dX12_ranked_0 rfl rfl (.head _) ?_
  refine r_iload_n (i := 1) (pc' := 2) dX12_ranked_1 rfl rfl (.tail _ (.head _)) ?_
  refine r_aload_n (i := 0) (pc' := 3) dX12_ranked_2 rfl rfl (.head _) ?_
  refine r_getR (pc' := 6) dX12_ranked_3 rfl fX12_3 rfl (by first | assumption | rfl) (by omega) (by assumption) ?_
  refine r_iconst (pc' := 7) dX12_ranked_6 rfl ?_
  refine r_iaload (pc' := 8) dX12_ranked_7 rfl (by first | assumption | rfl) (by omega) (by omega) (by omega) (by first | decide | omega) (show Int.toNat 0 = 0 from rfl) ?_
  rw [hR.z 0 (by decide)]
  refine r_V2p (ci := 12) (pc' := 11) dX12_ranked_8 rfl lX12_356 rfl (by decide) (Nat.le_of_ble_eq_true rfl) (by first | assumption | rfl) (by omega) (tX12_placed (by assumption) (by assumption) (by assumption) (by omega) (by omega)) ?_
  refine r_ireturn dX12_ranked_11 rfl ?_
  exact ⟨rfl, rfl, rfl, rfl, rfl⟩
theorem bkm_b (C : q_X) (b : Nat) (st : Int) : ∀ (m a : Nat), 0 ≤ bk_many C b st a m ∧ bk_many C b st a m ≤ m
  | 0, a => by simp [bk_many, q_sum]
  | m + 1, a => by
    have := bkm_b C b st m (a + 1)
    unfold bk_many at this ⊢
    rw [q_sum]; split <;> omega
set_option maxHeartbeats 4000000 in
set_option maxRecDepth 100000 in
theorem tX12_dearest {l : Launch} {g : q_G} {n : Nat} {P : q_P} {X : q_X} {Y : q_Y} (hm : isMod n P) {C : q_X} {b : Nat} (hR : RB C b (xv X 468)) (hO : bOk C b) {y : Int} (hy : q_in y) : q_Met l g mX12_dearest 4 [.ref (g.1 + 467), .int (zi y)] n P X Y (q_pv (.int (zi (f_dearest C b y))) n P X Y) := by
  obtain ⟨m0, m2, m3, m8, m9, m14, m15, m16, m17, m18, m20, m22, m25, hnm9⟩ := id hm
  obtain ⟨o0, o1, o2, o3, o4, o5, o6, o10, oc, op0, opz, opi, om0, omi, olim⟩ := id hO
  have hmb := bkm_b C b 0 (xv C b 10).toNat 0
  refine q_enter (L := [(0, .ref (g.1 + 467)), (1, .int (zi y))]) (by decide) (Nat.le_of_ble_eq_true rfl) rfl ?_
  refine r_iload_n (i := 1) (pc' := 1) dX12_dearest_0 rfl rfl (.tail _ (.head _)) ?_
  refine r_S1p (pc' := 4) dX12_dearest_1 rfl lX12_253 (by decide) (Nat.le_of_ble_eq_true rfl) (tX12_isYear (by omega)) ?_
  refine r_bif_ne (t := 11) (f := 7) dX12_dearest_4 (by decide) rfl (fun h4 => ?_) (fun h4 => ?_)
  · refine r_aload_n (i := 0) (pc' := 12) dX12_dearest_11 rfl rfl (.head _) ?_
    refine r_iconst (pc' := 13) dX12_dearest_12 rfl ?_
    refine r_V1p (ci := 12) (pc' := 16) dX12_dearest_13 rfl lX12_250 rfl (by decide) (Nat.le_of_ble_eq_true rfl) (by first | assumption | rfl) (by omega) (tX12_howMany hm hR hO (by omega)) ?_
    rw [← bk_many]
    refine r_if_ne (t := 24) (f := 19) dX12_dearest_16 (by decide) rfl (by first | omega | exact xv_in _ _ _) (fun h16 => ?_) (fun h16 => ?_)
    · refine r_aload_n (i := 0) (pc' := 25) dX12_dearest_24 rfl rfl (.head _) ?_
      refine r_iconst (pc' := 26) dX12_dearest_25 rfl ?_
      refine r_iload_n (i := 1) (pc' := 27) dX12_dearest_26 rfl rfl (.tail _ (.head _)) ?_
      refine r_V2p (ci := 12) (pc' := 30) dX12_dearest_27 rfl lX12_356 rfl (by decide) (Nat.le_of_ble_eq_true rfl) (by first | assumption | rfl) (by omega) (tX12_placed (by assumption) (by assumption) (by assumption) (by omega) (by omega)) ?_
      refine r_ireturn dX12_dearest_30 rfl ?_
      refine ⟨?_, rfl, rfl, rfl, rfl⟩
      unfold f_dearest
      first
        | (rw [if_pos (by omega)]; done)
        | (rw [if_neg (by omega), if_pos (by omega)]; done)
        | (rw [if_neg (by omega), if_neg (by omega)]; done)
    · refine r_bipush (pc' := 21) dX12_dearest_19 rfl (by decide) ?_
      refine r_goto (t := 30) dX12_dearest_21 (by decide) ?_
      refine r_ireturn dX12_dearest_30 rfl ?_
      refine ⟨?_, rfl, rfl, rfl, rfl⟩
      unfold f_dearest
      first
        | (rw [if_pos (by omega)]; done)
        | (rw [if_neg (by omega), if_pos (by omega)]; done)
        | (rw [if_neg (by omega), if_neg (by omega)]; done)
  · refine r_iconst (pc' := 8) dX12_dearest_7 rfl ?_
    refine r_goto (t := 30) dX12_dearest_8 (by decide) ?_
    refine r_ireturn dX12_dearest_30 rfl ?_
    refine ⟨?_, rfl, rfl, rfl, rfl⟩
    unfold f_dearest
    first
      | (rw [if_pos (by omega)]; done)
      | (rw [if_neg (by omega), if_pos (by omega)]; done)
      | (rw [if_neg (by omega), if_neg (by omega)]; done)
set_option maxHeartbeats 4000000 in
set_option maxRecDepth 100000 in
theorem tX12_contract {l : Launch} {g : q_G} {n : Nat} {P : q_P} {X : q_X} {Y : q_Y} (hm : isMod n P) {C : q_X} {b : Nat} (hR : RB C b (xv X 468)) (hO : bOk C b) {k : Int} (hki : q_in k) {w : Int} (hw : q_in w) (hv : bLv C b) : q_Met l g mX12_contract 5 [.ref (g.1 + 467), .int (zi k), .int (zi w)] n P X Y (q_gi (fun r' n' P' X' Y' => n' = n ∧ P' = P ∧ Y' = Y ∧ hOut X X' ∧ r' = f_con C b k w)) := by
  obtain ⟨m0, m2, m3, m8, m9, m14, m15, m16, m17, m18, m20, m22, m25, hnm9⟩ := id hm
  obtain ⟨o0, o1, o2, o3, o4, o5, o6, o10, oc, op0, opz, opi, om0, omi, olim⟩ := id hO
  refine q_enter (L := [(0, .ref (g.1 + 467)), (1, .int (zi k)), (2, .int (zi w))]) (by decide) (Nat.le_of_ble_eq_true rfl) rfl ?_
  refine r_aload_n (i := 0) (pc' := 1) dX12_contract_0 rfl rfl (.head _) ?_
  refine r_iload_n (i := 1) (pc' := 2) dX12_contract_1 rfl rfl (.tail _ (.head _)) ?_
  by_cases hk : bk_has C b k
  · obtain ⟨kn, rfl⟩ : ∃ kn : Nat, k = (kn : Int) := ⟨k.toNat, by omega⟩
    have hkk : (kn : Int) < xv C b 10 := hk.2
    have hck := hO.c hkk
    obtain ⟨hf, hf2, hf3, hf4, hfj, hfs, hfg⟩ := id hck
    refine r_V1p (ci := 12) (pc' := 5) dX12_contract_2 rfl lX12_206 rfl (by decide) (Nat.le_of_ble_eq_true rfl) (by first | assumption | rfl) (by omega) (tX12_isContract (by assumption) (by assumption) (by assumption) (by omega)) ?_
    refine r_bif_eq (t := 20) (f := 8) dX12_contract_5 (by decide) rfl (fun h5 => ?_) (fun h5 => ?_)
    · exfalso; omega
    · refine r_iload_n (i := 2) (pc' := 9) dX12_contract_8 rfl rfl (.tail _ (.tail _ (.head _))) ?_
      refine r_i2l (pc' := 10) dX12_contract_9 rfl rfl ?_
      refine r_lconst (pc' := 11) (z := 0) dX12_contract_10 rfl rfl ?_
      refine r_ldc2 (pc' := 14) dX12_contract_11 rfl kX12_256 ?_
      refine r_S3p (pc' := 17) dX12_contract_14 rfl lX12_68 (by decide) (Nat.le_of_ble_eq_true rfl) (tX12_isIn (by first | exact li_z (by omega) | exact li_z (xv_in _ _ _) | rfl) (by first | exact li_z (by omega) | exact li_z (xv_in _ _ _) | rfl) (by first | exact li_z (by omega) | exact li_z (xv_in _ _ _) | rfl)) ?_
      try simp only [i64_0, i64_1, i64_2, i64_3, i64_4, i64_5, i64_6, i64_7, i64_10, i64_19, i64_40, i64_100, i64_364, i64_9999, i64_99999, i64_999999, i64_m999999]
      refine r_bif_ne (t := 22) (f := 20) dX12_contract_17 (by decide) rfl (fun h17 => ?_) (fun h17 => ?_)
      · refine r_iload_n (i := 2) (pc' := 23) dX12_contract_22 rfl rfl (.tail _ (.tail _ (.head _))) ?_
        refine r_bipush (pc' := 25) dX12_contract_23 rfl (by decide) ?_
        refine r_icmp_ne (t := 55) (f := 28) dX12_contract_25 (by decide) rfl (by first | omega | exact xv_in _ _ _) (by first | omega | exact xv_in _ _ _) (fun h25 => ?_) (fun h25 => ?_)
        · refine r_iload_n (i := 2) (pc' := 56) dX12_contract_55 rfl rfl (.tail _ (.tail _ (.head _))) ?_
          refine r_iconst (pc' := 57) dX12_contract_56 rfl ?_
          refine r_icmp_ge (t := 69) (f := 60) dX12_contract_57 (by decide) rfl (by first | omega | exact xv_in _ _ _) (by first | omega | exact xv_in _ _ _) (fun h57 => ?_) (fun h57 => ?_)
          · refine r_iload_n (i := 2) (pc' := 70) dX12_contract_69 rfl rfl (.tail _ (.tail _ (.head _))) ?_
            refine r_iconst (pc' := 71) dX12_contract_70 rfl ?_
            refine r_icmp_ne (t := 82) (f := 74) dX12_contract_71 (by decide) rfl (by first | omega | exact xv_in _ _ _) (by first | omega | exact xv_in _ _ _) (fun h71 => ?_) (fun h71 => ?_)
            · refine r_aload_n (i := 0) (pc' := 83) dX12_contract_82 rfl rfl (.head _) ?_
              refine r_iload_n (i := 1) (pc' := 84) dX12_contract_83 rfl rfl (.tail _ (.head _)) ?_
              refine r_V1p (ci := 12) (pc' := 87) dX12_contract_84 rfl lX12_209 rfl (by decide) (Nat.le_of_ble_eq_true rfl) (by first | assumption | rfl) (by omega) (tX12_isOpen (by assumption) (by assumption) (by assumption) (by assumption)) ?_
              refine r_bif_eq (t := 104) (f := 90) dX12_contract_87 (by decide) rfl (fun h87 => ?_) (fun h87 => ?_)
              · refine r_iconst (pc' := 105) dX12_contract_104 rfl ?_
                refine r_ireturn dX12_contract_105 rfl ?_
                refine ⟨_, rfl, rfl, rfl, rfl, by first | exact ho | exact hOut.rfl, ?_⟩
                unfold f_con
                first
                  | (rw [if_pos hk]; done)
                  | (rw [if_neg (fun q => q hk), Int.toNat_natCast]
                     first
                       | (have hw7 : w = 7 := by omega
                          subst hw7
                          by_cases hfu : bk_isFull C b kn
                          · rw [if_pos hfu] at h46
                            first
                              | (exfalso; omega)
                              | (rw [if_neg (by omega), if_neg (by omega), if_neg (by omega), if_neg (by omega), if_neg (by omega), if_neg (by omega), if_neg (by omega), if_pos rfl, if_pos hfu]; done)
                          · rw [if_neg hfu] at h46
                            first
                              | (exfalso; omega)
                              | (rw [if_neg (by omega), if_neg (by omega), if_neg (by omega), if_neg (by omega), if_neg (by omega), if_neg (by omega), if_neg (by omega), if_pos rfl, if_neg hfu]; done))
                       | ((repeat' split) <;> first | rfl | (exfalso; omega) | (congr 1; omega)))
              · refine r_aload_n (i := 0) (pc' := 91) dX12_contract_90 rfl rfl (.head _) ?_
                refine r_iload_n (i := 1) (pc' := 92) dX12_contract_91 rfl rfl (.tail _ (.head _)) ?_
                refine r_aload_n (i := 0) (pc' := 93) dX12_contract_92 rfl rfl (.head _) ?_
                refine r_getR (pc' := 96) dX12_contract_93 rfl fX12_3 rfl (by first | assumption | rfl) (by omega) (by assumption) ?_
                refine r_iconst (pc' := 97) dX12_contract_96 rfl ?_
                refine r_iaload (pc' := 98) dX12_contract_97 rfl (by first | assumption | rfl) (by omega) (by omega) (by omega) (by first | decide | omega) (show Int.toNat 0 = 0 from rfl) ?_
                rw [hR.z 0 (by decide)]
                refine r_V2p (ci := 12) (pc' := 101) dX12_contract_98 rfl lX12_230 rfl (by decide) (Nat.le_of_ble_eq_true rfl) (by first | assumption | rfl) (by omega) (tX12_hitOf (by assumption) (by assumption) (by assumption) (by assumption) (by omega)) ?_
                refine r_goto (t := 105) dX12_contract_101 (by decide) ?_
                refine r_ireturn dX12_contract_105 rfl ?_
                refine ⟨_, rfl, rfl, rfl, rfl, by first | exact ho | exact hOut.rfl, ?_⟩
                unfold f_con
                first
                  | (rw [if_pos hk]; done)
                  | (rw [if_neg (fun q => q hk), Int.toNat_natCast]
                     first
                       | (have hw7 : w = 7 := by omega
                          subst hw7
                          by_cases hfu : bk_isFull C b kn
                          · rw [if_pos hfu] at h46
                            first
                              | (exfalso; omega)
                              | (rw [if_neg (by omega), if_neg (by omega), if_neg (by omega), if_neg (by omega), if_neg (by omega), if_neg (by omega), if_neg (by omega), if_pos rfl, if_pos hfu]; done)
                          · rw [if_neg hfu] at h46
                            first
                              | (exfalso; omega)
                              | (rw [if_neg (by omega), if_neg (by omega), if_neg (by omega), if_neg (by omega), if_neg (by omega), if_neg (by omega), if_neg (by omega), if_pos rfl, if_neg hfu]; done))
                       | ((repeat' split) <;> first | rfl | (exfalso; omega) | (congr 1; omega)))
            · refine r_aload_n (i := 0) (pc' := 75) dX12_contract_74 rfl rfl (.head _) ?_
              refine r_iload_n (i := 1) (pc' := 76) dX12_contract_75 rfl rfl (.tail _ (.head _)) ?_
              refine r_V1p (ci := 12) (pc' := 79) dX12_contract_76 rfl lX12_258 rfl (by decide) (Nat.le_of_ble_eq_true rfl) (by first | assumption | rfl) (by omega) (tX12_yearsLeft hm hR hO hkk hv) ?_
              refine r_goto (t := 105) dX12_contract_79 (by decide) ?_
              refine r_ireturn dX12_contract_105 rfl ?_
              refine ⟨_, rfl, rfl, rfl, rfl, by first | exact ho | exact hOut.rfl, ?_⟩
              unfold f_con
              first
                | (rw [if_pos hk]; done)
                | (rw [if_neg (fun q => q hk), Int.toNat_natCast]
                   first
                     | (have hw7 : w = 7 := by omega
                        subst hw7
                        by_cases hfu : bk_isFull C b kn
                        · rw [if_pos hfu] at h46
                          first
                            | (exfalso; omega)
                            | (rw [if_neg (by omega), if_neg (by omega), if_neg (by omega), if_neg (by omega), if_neg (by omega), if_neg (by omega), if_neg (by omega), if_pos rfl, if_pos hfu]; done)
                        · rw [if_neg hfu] at h46
                          first
                            | (exfalso; omega)
                            | (rw [if_neg (by omega), if_neg (by omega), if_neg (by omega), if_neg (by omega), if_neg (by omega), if_neg (by omega), if_neg (by omega), if_pos rfl, if_neg hfu]; done))
                     | ((repeat' split) <;> first | rfl | (exfalso; omega) | (congr 1; omega)))
          · refine r_aload_n (i := 0) (pc' := 61) dX12_contract_60 rfl rfl (.head _) ?_
            refine r_iload_n (i := 1) (pc' := 62) dX12_contract_61 rfl rfl (.tail _ (.head _)) ?_
            refine r_iload_n (i := 2) (pc' := 63) dX12_contract_62 rfl rfl (.tail _ (.tail _ (.head _))) ?_
            refine r_V2p (ci := 12) (pc' := 66) dX12_contract_63 rfl lX12_115 rfl (by decide) (Nat.le_of_ble_eq_true rfl) (by first | assumption | rfl) (by omega) (tX12_of hm (k := (kn : Int)) (w := w) (by omega) (by omega)) ?_
            rw [show (130 + 86 * (kn : Int) + w).toNat = 130 + 86 * kn + w.toNat by omega, hR.f hkk (by omega)]
            refine r_goto (t := 105) dX12_contract_66 (by decide) ?_
            refine r_ireturn dX12_contract_105 rfl ?_
            refine ⟨_, rfl, rfl, rfl, rfl, by first | exact ho | exact hOut.rfl, ?_⟩
            unfold f_con
            first
              | (rw [if_pos hk]; done)
              | (rw [if_neg (fun q => q hk), Int.toNat_natCast]
                 first
                   | (have hw7 : w = 7 := by omega
                      subst hw7
                      by_cases hfu : bk_isFull C b kn
                      · rw [if_pos hfu] at h46
                        first
                          | (exfalso; omega)
                          | (rw [if_neg (by omega), if_neg (by omega), if_neg (by omega), if_neg (by omega), if_neg (by omega), if_neg (by omega), if_neg (by omega), if_pos rfl, if_pos hfu]; done)
                      · rw [if_neg hfu] at h46
                        first
                          | (exfalso; omega)
                          | (rw [if_neg (by omega), if_neg (by omega), if_neg (by omega), if_neg (by omega), if_neg (by omega), if_neg (by omega), if_neg (by omega), if_pos rfl, if_neg hfu]; done))
                   | ((repeat' split) <;> first | rfl | (exfalso; omega) | (congr 1; omega)))
        · refine r_aload_n (i := 0) (pc' := 29) dX12_contract_28 rfl rfl (.head _) ?_
          refine r_lconst (pc' := 30) (z := 0) dX12_contract_29 rfl rfl ?_
          refine r_lconst (pc' := 31) (z := 0) dX12_contract_30 rfl rfl ?_
          refine r_aload_n (i := 0) (pc' := 32) dX12_contract_31 rfl rfl (.head _) ?_
          refine r_getR (pc' := 35) dX12_contract_32 rfl fX12_3 rfl (by first | assumption | rfl) (by omega) (by assumption) ?_
          refine r_iconst (pc' := 36) dX12_contract_35 rfl ?_
          refine r_iaload (pc' := 37) dX12_contract_36 rfl (by first | assumption | rfl) (by omega) (by omega) (by omega) (by first | decide | omega) (show Int.toNat 1 = 1 from rfl) ?_
          rw [hR.z 1 (by decide)]
          refine r_V3gv (ci := 12) (pc' := 40) dX12_contract_37 rfl lX12_233 rfl (by decide) (Nat.le_of_ble_eq_true rfl) (by first | assumption | rfl) (by omega) (tX12_layHits hm hR hO lB_0 lB_0 (by omega)) (fun n37 P37 X37 Y37 e37 le37 => ?_)
          obtain ⟨h1v, h2v, h3v, ho, hL, hL2⟩ := e37
          subst h1v h2v h3v
          refine r_aload_n (i := 0) (pc' := 41) dX12_contract_40 rfl rfl (.head _) ?_
          refine r_getR (pc' := 44) dX12_contract_41 rfl fX12_45 rfl (by first | assumption | rfl) (by omega) (by assumption) ?_
          refine r_iload_n (i := 1) (pc' := 45) dX12_contract_44 rfl rfl (.tail _ (.head _)) ?_
          refine r_zaload (pc' := 46) dX12_contract_45 rfl (by first | assumption | rfl) (by omega) (by omega) (by omega) (by first | decide | omega) (Int.toNat_natCast _) ?_
          rw [hL2 kn (by omega), lfull_0]
          refine r_if_eq (t := 53) (f := 49) dX12_contract_46 (by decide) rfl (by split <;> omega) (fun h46 => ?_) (fun h46 => ?_)
          · refine r_iconst (pc' := 54) dX12_contract_53 rfl ?_
            refine r_ireturn dX12_contract_54 rfl ?_
            refine ⟨_, rfl, rfl, rfl, rfl, by first | exact ho | exact hOut.rfl, ?_⟩
            unfold f_con
            first
              | (rw [if_pos hk]; done)
              | (rw [if_neg (fun q => q hk), Int.toNat_natCast]
                 first
                   | (have hw7 : w = 7 := by omega
                      subst hw7
                      by_cases hfu : bk_isFull C b kn
                      · rw [if_pos hfu] at h46
                        first
                          | (exfalso; omega)
                          | (rw [if_neg (by omega), if_neg (by omega), if_neg (by omega), if_neg (by omega), if_neg (by omega), if_neg (by omega), if_neg (by omega), if_pos rfl, if_pos hfu]; done)
                      · rw [if_neg hfu] at h46
                        first
                          | (exfalso; omega)
                          | (rw [if_neg (by omega), if_neg (by omega), if_neg (by omega), if_neg (by omega), if_neg (by omega), if_neg (by omega), if_neg (by omega), if_pos rfl, if_neg hfu]; done))
                   | ((repeat' split) <;> first | rfl | (exfalso; omega) | (congr 1; omega)))
          · refine r_iconst (pc' := 50) dX12_contract_49 rfl ?_
            refine r_goto (t := 54) dX12_contract_50 (by decide) ?_
            refine r_ireturn dX12_contract_54 rfl ?_
            refine ⟨_, rfl, rfl, rfl, rfl, by first | exact ho | exact hOut.rfl, ?_⟩
            unfold f_con
            first
              | (rw [if_pos hk]; done)
              | (rw [if_neg (fun q => q hk), Int.toNat_natCast]
                 first
                   | (have hw7 : w = 7 := by omega
                      subst hw7
                      by_cases hfu : bk_isFull C b kn
                      · rw [if_pos hfu] at h46
                        first
                          | (exfalso; omega)
                          | (rw [if_neg (by omega), if_neg (by omega), if_neg (by omega), if_neg (by omega), if_neg (by omega), if_neg (by omega), if_neg (by omega), if_pos rfl, if_pos hfu]; done)
                      · rw [if_neg hfu] at h46
                        first
                          | (exfalso; omega)
                          | (rw [if_neg (by omega), if_neg (by omega), if_neg (by omega), if_neg (by omega), if_neg (by omega), if_neg (by omega), if_neg (by omega), if_pos rfl, if_neg hfu]; done))
                   | ((repeat' split) <;> first | rfl | (exfalso; omega) | (congr 1; omega)))
      · refine r_iconst (pc' := 21) dX12_contract_20 rfl ?_
        refine r_ireturn dX12_contract_21 rfl ?_
        refine ⟨_, rfl, rfl, rfl, rfl, by first | exact ho | exact hOut.rfl, ?_⟩
        unfold f_con
        first
          | (rw [if_pos hk]; done)
          | (rw [if_neg (fun q => q hk), Int.toNat_natCast]
             first
               | (have hw7 : w = 7 := by omega
                  subst hw7
                  by_cases hfu : bk_isFull C b kn
                  · rw [if_pos hfu] at h46
                    first
                      | (exfalso; omega)
                      | (rw [if_neg (by omega), if_neg (by omega), if_neg (by omega), if_neg (by omega), if_neg (by omega), if_neg (by omega), if_neg (by omega), if_pos rfl, if_pos hfu]; done)
                  · rw [if_neg hfu] at h46
                    first
                      | (exfalso; omega)
                      | (rw [if_neg (by omega), if_neg (by omega), if_neg (by omega), if_neg (by omega), if_neg (by omega), if_neg (by omega), if_neg (by omega), if_pos rfl, if_neg hfu]; done))
               | ((repeat' split) <;> first | rfl | (exfalso; omega) | (congr 1; omega)))
  · refine r_V1p (ci := 12) (pc' := 5) dX12_contract_2 rfl lX12_206 rfl (by decide) (Nat.le_of_ble_eq_true rfl) (by first | assumption | rfl) (by omega) (tX12_isContract (by assumption) (by assumption) (by assumption) (by omega)) ?_
    refine r_bif_eq (t := 20) (f := 8) dX12_contract_5 (by decide) rfl (fun h5 => ?_) (fun h5 => ?_)
    · refine r_iconst (pc' := 21) dX12_contract_20 rfl ?_
      refine r_ireturn dX12_contract_21 rfl ?_
      refine ⟨_, rfl, rfl, rfl, rfl, by first | exact ho | exact hOut.rfl, ?_⟩
      unfold f_con
      first
        | (rw [if_pos hk]; done)
        | (rw [if_neg (fun q => q hk), Int.toNat_natCast]
           first
             | (have hw7 : w = 7 := by omega
                subst hw7
                by_cases hfu : bk_isFull C b kn
                · rw [if_pos hfu] at h46
                  first
                    | (exfalso; omega)
                    | (rw [if_neg (by omega), if_neg (by omega), if_neg (by omega), if_neg (by omega), if_neg (by omega), if_neg (by omega), if_neg (by omega), if_pos rfl, if_pos hfu]; done)
                · rw [if_neg hfu] at h46
                  first
                    | (exfalso; omega)
                    | (rw [if_neg (by omega), if_neg (by omega), if_neg (by omega), if_neg (by omega), if_neg (by omega), if_neg (by omega), if_neg (by omega), if_pos rfl, if_neg hfu]; done))
             | ((repeat' split) <;> first | rfl | (exfalso; omega) | (congr 1; omega)))
    · exfalso; omega
