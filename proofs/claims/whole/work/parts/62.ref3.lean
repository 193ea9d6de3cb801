set_option maxHeartbeats 4000000 in
set_option maxRecDepth 100000 in
theorem lX12_promisesOf {l : Launch} {g : q_G} {n : Nat} {P : q_P} {X : q_X} {Y : q_Y} (hm : isMod n P) {C : q_X} {b : Nat} (hR : RB C b (xv X 468)) (hO : bOk C b) {k y lk e : Int} (hki : q_in k) (hyi : q_in y) (hli : q_in lk) (hei : q_in e) {r : Int} : ∀ (w i : Nat) (s : Int), i + w = (xv C (b + 4) 0).toNat → s + q_sum (fun i => if xv C (b + 5) i = k ∧ xv C (b + 6) i = y ∧ xv C (b + 8) i = lk ∧ (e = -1 ∨ xv C (b + 9) i = e) then xv C (b + 7) i else 0) i w = r → q_Tr l g mX12_promisesOf 0 (q_pv (.int (zi r)) n P X Y) 6 [(0, .ref (g.1 + 467)), (1, .int (zi k)), (2, .int (zi y)), (3, .int (zi lk)), (4, .int (zi e)), (5, .int (zi s)), (6, .int (zi (i : Int)))] [] n P X Y := by
  obtain ⟨m0, m2, m3, m8, m9, m14, m15, m16, m17, m18, m20, m22, m25, hnm9⟩ := id hm
  obtain ⟨o0, o1, o2, o3, o4, o5, o6, o10, oc, op0, opz, opi, om0, omi, olim⟩ := id hO
  intro w
  induction w with
  | zero =>
    intro i s hk hr
    refine r_iload (pc' := 8) dX12_promisesOf_6 rfl (.tail _ (.tail _ (.tail _ (.tail _ (.tail _ (.tail _ (.head _))))))) ?_
    refine r_aload_n (i := 0) (pc' := 9) dX12_promisesOf_8 rfl rfl (.head _) ?_
    refine r_getR (pc' := 12) dX12_promisesOf_9 rfl fX12_3 rfl (by first | assumption | rfl) (by omega) (by assumption) ?_
    refine r_sipush (pc' := 15) dX12_promisesOf_12 rfl (by decide) ?_
    refine r_iaload (pc' := 16) dX12_promisesOf_15 rfl (by first | assumption | rfl) (by omega) (by omega) (by omega) (by first | decide | omega) (show Int.toNat 3571 = 3571 from rfl) ?_
    rw [hR.pm]
    refine r_icmp_ge (t := 106) (f := 19) dX12_promisesOf_16 (by decide) rfl (by first | omega | exact xv_in _ _ _) (by first | omega | exact xv_in _ _ _) (fun h16 => ?_) (fun h16 => ?_)
    · refine r_iload (pc' := 108) dX12_promisesOf_106 rfl (.tail _ (.tail _ (.tail _ (.tail _ (.tail _ (.head _)))))) ?_
      refine r_ireturn dX12_promisesOf_108 rfl ?_
      refine ⟨?_, rfl, rfl, rfl, rfl⟩
      rw [← hr]; simp [q_sum]
    · exfalso; omega
  | succ w ih =>
    intro i s hk hr
    obtain ⟨hp1, hp2, hp3, hp4, hp5⟩ := hR.pro (i := i) (by omega)
    refine r_iload (pc' := 8) dX12_promisesOf_6 rfl (.tail _ (.tail _ (.tail _ (.tail _ (.tail _ (.tail _ (.head _))))))) ?_
    refine r_aload_n (i := 0) (pc' := 9) dX12_promisesOf_8 rfl rfl (.head _) ?_
    refine r_getR (pc' := 12) dX12_promisesOf_9 rfl fX12_3 rfl (by first | assumption | rfl) (by omega) (by assumption) ?_
    refine r_sipush (pc' := 15) dX12_promisesOf_12 rfl (by decide) ?_
    refine r_iaload (pc' := 16) dX12_promisesOf_15 rfl (by first | assumption | rfl) (by omega) (by omega) (by omega) (by first | decide | omega) (show Int.toNat 3571 = 3571 from rfl) ?_
    rw [hR.pm]
    refine r_icmp_ge (t := 106) (f := 19) dX12_promisesOf_16 (by decide) rfl (by first | omega | exact xv_in _ _ _) (by first | omega | exact xv_in _ _ _) (fun h16 => ?_) (fun h16 => ?_)
    · exfalso; omega
    · refine r_sipush (pc' := 22) dX12_promisesOf_19 rfl (by decide) ?_
      refine r_iconst (pc' := 23) dX12_promisesOf_22 rfl ?_
      refine r_iload (pc' := 25) dX12_promisesOf_23 rfl (.tail _ (.tail _ (.tail _ (.tail _ (.tail _ (.tail _ (.head _))))))) ?_
      refine r_imul (pc' := 26) dX12_promisesOf_25 rfl ?_
      refine r_iadd (pc' := 27) dX12_promisesOf_26 rfl ?_
      refine r_istore (pc' := 29) dX12_promisesOf_27 rfl rfl (.s1 (.s1 (.s1 (.s1 (.s1 (.s1 (.s1 .nil rfl rfl rfl) rfl rfl rfl) rfl rfl rfl) rfl rfl rfl) rfl rfl rfl) rfl rfl rfl) rfl rfl rfl) ?_
      refine r_aload_n (i := 0) (pc' := 30) dX12_promisesOf_29 rfl rfl (.head _) ?_
      refine r_getR (pc' := 33) dX12_promisesOf_30 rfl fX12_3 rfl (by first | assumption | rfl) (by omega) (by assumption) ?_
      refine r_iload (pc' := 35) dX12_promisesOf_33 rfl (.tail _ (.tail _ (.tail _ (.tail _ (.tail _ (.tail _ (.tail _ (.head _)))))))) ?_
      refine r_iaload (pc' := 36) dX12_promisesOf_35 rfl (by first | assumption | rfl) (by omega) (by omega) (by omega) (by first | decide | omega) (show (3620 + 5 * (i : Int)).toNat = 3620 + 5 * i by omega) ?_
      rw [hp1]
      refine r_iload_n (i := 1) (pc' := 37) dX12_promisesOf_36 rfl rfl (.tail _ (.head _)) ?_
      refine r_icmp_ne (t := 100) (f := 40) dX12_promisesOf_37 (by decide) rfl (by first | omega | exact xv_in _ _ _) (by first | omega | exact xv_in _ _ _) (fun h37 => ?_) (fun h37 => ?_)
      · refine r_iinc (pc' := 103) dX12_promisesOf_100 rfl rfl (.tail _ (.tail _ (.tail _ (.tail _ (.tail _ (.tail _ (.head _))))))) (.s1 (.s1 (.s1 (.s1 (.s1 (.s1 (.here (.s1 .nil rfl rfl rfl)) rfl rfl rfl) rfl rfl rfl) rfl rfl rfl) rfl rfl rfl) rfl rfl rfl) rfl rfl rfl) ?_
        refine r_goto (t := 6) dX12_promisesOf_103 (by decide) ?_
        refine r_sub (.kp (.kp (.kp (.kp (.kp (.kp (.kp (.dr .nil)))))))) ?_
        refine ih (i + 1) _ (by omega) ?_
        rw [← hr, q_sum]
        try dsimp only
        first | (rw [if_pos (by omega)]; omega) | (rw [if_neg (by omega)]; omega)
      · refine r_aload_n (i := 0) (pc' := 41) dX12_promisesOf_40 rfl rfl (.head _) ?_
        refine r_getR (pc' := 44) dX12_promisesOf_41 rfl fX12_3 rfl (by first | assumption | rfl) (by omega) (by assumption) ?_
        refine r_iload (pc' := 46) dX12_promisesOf_44 rfl (.tail _ (.tail _ (.tail _ (.tail _ (.tail _ (.tail _ (.tail _ (.head _)))))))) ?_
        refine r_iconst (pc' := 47) dX12_promisesOf_46 rfl ?_
        refine r_iadd (pc' := 48) dX12_promisesOf_47 rfl ?_
        refine r_iaload (pc' := 49) dX12_promisesOf_48 rfl (by first | assumption | rfl) (by omega) (by omega) (by omega) (by first | decide | omega) (show (3620 + 5 * (i : Int) + 1).toNat = 3620 + 5 * i + 1 by omega) ?_
        rw [hp2]
        refine r_iload_n (i := 2) (pc' := 50) dX12_promisesOf_49 rfl rfl (.tail _ (.tail _ (.head _))) ?_
        refine r_icmp_ne (t := 100) (f := 53) dX12_promisesOf_50 (by decide) rfl (by first | omega | exact xv_in _ _ _) (by first | omega | exact xv_in _ _ _) (fun h50 => ?_) (fun h50 => ?_)
        · refine r_iinc (pc' := 103) dX12_promisesOf_100 rfl rfl (.tail _ (.tail _ (.tail _ (.tail _ (.tail _ (.tail _ (.head _))))))) (.s1 (.s1 (.s1 (.s1 (.s1 (.s1 (.here (.s1 .nil rfl rfl rfl)) rfl rfl rfl) rfl rfl rfl) rfl rfl rfl) rfl rfl rfl) rfl rfl rfl) rfl rfl rfl) ?_
          refine r_goto (t := 6) dX12_promisesOf_103 (by decide) ?_
          refine r_sub (.kp (.kp (.kp (.kp (.kp (.kp (.kp (.dr .nil)))))))) ?_
          refine ih (i + 1) _ (by omega) ?_
          rw [← hr, q_sum]
          try dsimp only
          first | (rw [if_pos (by omega)]; omega) | (rw [if_neg (by omega)]; omega)
        · refine r_aload_n (i := 0) (pc' := 54) dX12_promisesOf_53 rfl rfl (.head _) ?_
          refine r_getR (pc' := 57) dX12_promisesOf_54 rfl fX12_3 rfl (by first | assumption | rfl) (by omega) (by assumption) ?_
          refine r_iload (pc' := 59) dX12_promisesOf_57 rfl (.tail _ (.tail _ (.tail _ (.tail _ (.tail _ (.tail _ (.tail _ (.head _)))))))) ?_
          refine r_iconst (pc' := 60) dX12_promisesOf_59 rfl ?_
          refine r_iadd (pc' := 61) dX12_promisesOf_60 rfl ?_
          refine r_iaload (pc' := 62) dX12_promisesOf_61 rfl (by first | assumption | rfl) (by omega) (by omega) (by omega) (by first | decide | omega) (show (3620 + 5 * (i : Int) + 3).toNat = 3620 + 5 * i + 3 by omega) ?_
          rw [hp4]
          refine r_iload_n (i := 3) (pc' := 63) dX12_promisesOf_62 rfl rfl (.tail _ (.tail _ (.tail _ (.head _)))) ?_
          refine r_icmp_ne (t := 100) (f := 66) dX12_promisesOf_63 (by decide) rfl (by first | omega | exact xv_in _ _ _) (by first | omega | exact xv_in _ _ _) (fun h63 => ?_) (fun h63 => ?_)
          · refine r_iinc (pc' := 103) dX12_promisesOf_100 rfl rfl (.tail _ (.tail _ (.tail _ (.tail _ (.tail _ (.tail _ (.head _))))))) (.s1 (.s1 (.s1 (.s1 (.s1 (.s1 (.here (.s1 .nil rfl rfl rfl)) rfl rfl rfl) rfl rfl rfl) rfl rfl rfl) rfl rfl rfl) rfl rfl rfl) rfl rfl rfl) ?_
            refine r_goto (t := 6) dX12_promisesOf_103 (by decide) ?_
            refine r_sub (.kp (.kp (.kp (.kp (.kp (.kp (.kp (.dr .nil)))))))) ?_
            refine ih (i + 1) _ (by omega) ?_
            rw [← hr, q_sum]
            try dsimp only
            first | (rw [if_pos (by omega)]; omega) | (rw [if_neg (by omega)]; omega)
          · refine r_iload (pc' := 68) dX12_promisesOf_66 rfl (.tail _ (.tail _ (.tail _ (.tail _ (.head _))))) ?_
            refine r_iconst (pc' := 69) dX12_promisesOf_68 rfl ?_
            refine r_icmp_eq (t := 86) (f := 72) dX12_promisesOf_69 (by decide) rfl (by first | omega | exact xv_in _ _ _) (by first | omega | exact xv_in _ _ _) (fun h69 => ?_) (fun h69 => ?_)
            · refine r_iload (pc' := 88) dX12_promisesOf_86 rfl (.tail _ (.tail _ (.tail _ (.tail _ (.tail _ (.head _)))))) ?_
              refine r_aload_n (i := 0) (pc' := 89) dX12_promisesOf_88 rfl rfl (.head _) ?_
              refine r_getR (pc' := 92) dX12_promisesOf_89 rfl fX12_3 rfl (by first | assumption | rfl) (by omega) (by assumption) ?_
              refine r_iload (pc' := 94) dX12_promisesOf_92 rfl (.tail _ (.tail _ (.tail _ (.tail _ (.tail _ (.tail _ (.tail _ (.head _)))))))) ?_
              refine r_iconst (pc' := 95) dX12_promisesOf_94 rfl ?_
              refine r_iadd (pc' := 96) dX12_promisesOf_95 rfl ?_
              refine r_iaload (pc' := 97) dX12_promisesOf_96 rfl (by first | assumption | rfl) (by omega) (by omega) (by omega) (by first | decide | omega) (show (3620 + 5 * (i : Int) + 2).toNat = 3620 + 5 * i + 2 by omega) ?_
              rw [hp3]
              refine r_iadd (pc' := 98) dX12_promisesOf_97 rfl ?_
              refine r_istore (pc' := 100) dX12_promisesOf_98 rfl rfl (.s1 (.s1 (.s1 (.s1 (.s1 (.here (.s1 (.s1 .nil rfl rfl rfl) rfl rfl rfl)) rfl rfl rfl) rfl rfl rfl) rfl rfl rfl) rfl rfl rfl) rfl rfl rfl) ?_
              refine r_iinc (pc' := 103) dX12_promisesOf_100 rfl rfl (.tail _ (.tail _ (.tail _ (.tail _ (.tail _ (.tail _ (.head _))))))) (.s1 (.s1 (.s1 (.s1 (.s1 (.s1 (.here (.s1 .nil rfl rfl rfl)) rfl rfl rfl) rfl rfl rfl) rfl rfl rfl) rfl rfl rfl) rfl rfl rfl) rfl rfl rfl) ?_
              refine r_goto (t := 6) dX12_promisesOf_103 (by decide) ?_
              refine r_sub (.kp (.kp (.kp (.kp (.kp (.kp (.kp (.dr .nil)))))))) ?_
              refine ih (i + 1) _ (by omega) ?_
              rw [← hr, q_sum]
              try dsimp only
              first | (rw [if_pos (by omega)]; omega) | (rw [if_neg (by omega)]; omega)
            · refine r_aload_n (i := 0) (pc' := 73) dX12_promisesOf_72 rfl rfl (.head _) ?_
              refine r_getR (pc' := 76) dX12_promisesOf_73 rfl fX12_3 rfl (by first | assumption | rfl) (by omega) (by assumption) ?_
              refine r_iload (pc' := 78) dX12_promisesOf_76 rfl (.tail _ (.tail _ (.tail _ (.tail _ (.tail _ (.tail _ (.tail _ (.head _)))))))) ?_
              refine r_iconst (pc' := 79) dX12_promisesOf_78 rfl ?_
              refine r_iadd (pc' := 80) dX12_promisesOf_79 rfl ?_
              refine r_iaload (pc' := 81) dX12_promisesOf_80 rfl (by first | assumption | rfl) (by omega) (by omega) (by omega) (by first | decide | omega) (show (3620 + 5 * (i : Int) + 4).toNat = 3620 + 5 * i + 4 by omega) ?_
              rw [hp5]
              refine r_iload (pc' := 83) dX12_promisesOf_81 rfl (.tail _ (.tail _ (.tail _ (.tail _ (.head _))))) ?_
              refine r_icmp_ne (t := 100) (f := 86) dX12_promisesOf_83 (by decide) rfl (by first | omega | exact xv_in _ _ _) (by first | omega | exact xv_in _ _ _) (fun h83 => ?_) (fun h83 => ?_)
              · refine r_iinc (pc' := 103) dX12_promisesOf_100 rfl rfl (.tail _ (.tail _ (.tail _ (.tail _ (.tail _ (.tail _ (.head _))))))) (.s1 (.s1 (.s1 (.s1 (.s1 (.s1 (.here (.s1 .nil rfl rfl rfl)) rfl rfl rfl) rfl rfl rfl) rfl rfl rfl) rfl rfl rfl) rfl rfl rfl) rfl rfl rfl) ?_
                refine r_goto (t := 6) dX12_promisesOf_103 (by decide) ?_
                refine r_sub (.kp (.kp (.kp (.kp (.kp (.kp (.kp (.dr .nil)))))))) ?_
                refine ih (i + 1) _ (by omega) ?_
                rw [← hr, q_sum]
                try dsimp only
                first | (rw [if_pos (by omega)]; omega) | (rw [if_neg (by omega)]; omega)
              · refine r_iload (pc' := 88) dX12_promisesOf_86 rfl (.tail _ (.tail _ (.tail _ (.tail _ (.tail _ (.head _)))))) ?_
                refine r_aload_n (i := 0) (pc' := 89) dX12_promisesOf_88 rfl rfl (.head _) ?_
                refine r_getR (pc' := 92) dX12_promisesOf_89 rfl fX12_3 rfl (by first | assumption | rfl) (by omega) (by assumption) ?_
                refine r_iload (pc' := 94) dX12_promisesOf_92 rfl (.tail _ (.tail _ (.tail _ (.tail _ (.tail _ (.tail _ (.tail _ (.head _)))))))) ?_
                refine r_iconst (pc' := 95) dX12_promisesOf_94 rfl ?_
                refine r_iadd (pc' := 96) dX12_promisesOf_95 rfl ?_
                refine r_iaload (pc' := 97) dX12_promisesOf_96 rfl (by first | assumption | rfl) (by omega) (by omega) (by omega) (by first | decide | omega) (show (3620 + 5 * (i : Int) + 2).toNat = 3620 + 5 * i + 2 by omega) ?_
                rw [hp3]
                refine r_iadd (pc' := 98) dX12_promisesOf_97 rfl ?_
                refine r_istore (pc' := 100) dX12_promisesOf_98 rfl rfl (.s1 (.s1 (.s1 (.s1 (.s1 (.here (.s1 (.s1 .nil rfl rfl rfl) rfl rfl rfl)) rfl rfl rfl) rfl rfl rfl) rfl rfl rfl) rfl rfl rfl) rfl rfl rfl) ?_
                refine r_iinc (pc' := 103) dX12_promisesOf_100 rfl rfl (.tail _ (.tail _ (.tail _ (.tail _ (.tail _ (.tail _ (.head _))))))) (.s1 (.s1 (.s1 (.s1 (.s1 (.s1 (.here (.s1 .nil rfl rfl rfl)) rfl rfl rfl) rfl rfl rfl) rfl rfl rfl) rfl rfl rfl) rfl rfl rfl) rfl rfl rfl) ?_
                refine r_goto (t := 6) dX12_promisesOf_103 (by decide) ?_
                refine r_sub (.kp (.kp (.kp (.kp (.kp (.kp (.kp (.dr .nil)))))))) ?_
                refine ih (i + 1) _ (by omega) ?_
                rw [← hr, q_sum]
                try dsimp only
                first | (rw [if_pos (by omega)]; omega) | (rw [if_neg (by omega)]; omega)
set_option maxHeartbeats 4000000 in
set_option maxRecDepth 100000 in
theorem tX12_promisesOf {l : Launch} {g : q_G} {n : Nat} {P : q_P} {X : q_X} {Y : q_Y} (hm : isMod n P) {C : q_X} {b : Nat} (hR : RB C b (xv X 468)) (hO : bOk C b) {k y lk e : Int} (hki : q_in k) (hyi : q_in y) (hli : q_in lk) (hei : q_in e) : q_Met l g mX12_promisesOf 0 [.ref (g.1 + 467), .int (zi k), .int (zi y), .int (zi lk), .int (zi e)] n P X Y (q_pv (.int (zi (q_sum (fun i => if xv C (b + 5) i = k ∧ xv C (b + 6) i = y ∧ xv C (b + 8) i = lk ∧ (e = -1 ∨ xv C (b + 9) i = e) then xv C (b + 7) i else 0) 0 ((xv C (b + 4) 0).toNat)))) n P X Y) := by
  obtain ⟨m0, m2, m3, m8, m9, m14, m15, m16, m17, m18, m20, m22, m25, hnm9⟩ := id hm
  obtain ⟨o0, o1, o2, o3, o4, o5, o6, o10, oc, op0, opz, opi, om0, omi, olim⟩ := id hO
  refine q_enter (L := [(0, .ref (g.1 + 467)), (1, .int (zi k)), (2, .int (zi y)), (3, .int (zi lk)), (4, .int (zi e))]) (by decide) (Nat.le_of_ble_eq_true rfl) rfl ?_
  refine r_iconst (pc' := 1) dX12_promisesOf_0 rfl ?_
  refine r_istore (pc' := 3) dX12_promisesOf_1 rfl rfl (.s1 (.s1 (.s1 (.s1 (.s1 .nil rfl rfl rfl) rfl rfl rfl) rfl rfl rfl) rfl rfl rfl) rfl rfl rfl) ?_
  refine r_iconst (pc' := 4) dX12_promisesOf_3 rfl ?_
  refine r_istore (pc' := 6) dX12_promisesOf_4 rfl rfl (.s1 (.s1 (.s1 (.s1 (.s1 (.s1 .nil rfl rfl rfl) rfl rfl rfl) rfl rfl rfl) rfl rfl rfl) rfl rfl rfl) rfl rfl rfl) ?_
  exact lX12_promisesOf hm hR hO hki hyi hli hei ((xv C (b + 4) 0).toNat) 0 _ (by omega) (Int.zero_add _)
set_option maxHeartbeats 4000000 in
set_option maxRecDepth 100000 in
theorem lX12_howMany {l : Launch} {g : q_G} {n : Nat} {P : q_P} {X : q_X} {Y : q_Y} (hm : isMod n P) {C : q_X} {b : Nat} (hR : RB C b (xv X 468)) (hO : bOk C b) {st : Int} (hst : q_in st) {r : Int} : ∀ (w i : Nat) (s : Int), i + w = (xv C b 10).toNat → s + q_sum (fun i => if xv C (con b i) 4 = st then 1 else 0) i w = r → q_Tr l g mX12_howMany 2 (q_pv (.int (zi r)) n P X Y) 4 [(0, .ref (g.1 + 467)), (1, .int (zi st)), (2, .int (zi s)), (3, .int (zi (i : Int)))] [] n P X Y := by
  obtain ⟨m0, m2, m3, m8, m9, m14, m15, m16, m17, m18, m20, m22, m25, hnm9⟩ := id hm
  obtain ⟨o0, o1, o2, o3, o4, o5, o6, o10, oc, op0, opz, opi, om0, omi, olim⟩ := id hO
  intro w
  induction w with
  | zero =>
    intro i s hk hr
    refine r_iload_n (i := 3) (pc' := 5) dX12_howMany_4 rfl rfl (.tail _ (.tail _ (.tail _ (.head _)))) ?_
    refine r_aload_n (i := 0) (pc' := 6) dX12_howMany_5 rfl rfl (.head _) ?_
    refine r_getR (pc' := 9) dX12_howMany_6 rfl fX12_3 rfl (by first | assumption | rfl) (by omega) (by assumption) ?_
    refine r_bipush (pc' := 11) dX12_howMany_9 rfl (by decide) ?_
    refine r_iaload (pc' := 12) dX12_howMany_11 rfl (by first | assumption | rfl) (by omega) (by omega) (by omega) (by first | decide | omega) (show Int.toNat 7 = 7 from rfl) ?_
    rw [hR.m]
    refine r_icmp_ge (t := 39) (f := 15) dX12_howMany_12 (by decide) rfl (by first | omega | exact xv_in _ _ _) (by first | omega | exact xv_in _ _ _) (fun h12 => ?_) (fun h12 => ?_)
    · refine r_iload_n (i := 2) (pc' := 40) dX12_howMany_39 rfl rfl (.tail _ (.tail _ (.head _))) ?_
      refine r_ireturn dX12_howMany_40 rfl ?_
      refine ⟨?_, rfl, rfl, rfl, rfl⟩
      rw [← hr]; simp [q_sum]
    · exfalso; omega
  | succ w ih =>
    intro i s hk hr
    have hk : (i : Int) < xv C b 10 := by omega
    refine r_iload_n (i := 3) (pc' := 5) dX12_howMany_4 rfl rfl (.tail _ (.tail _ (.tail _ (.head _)))) ?_
    refine r_aload_n (i := 0) (pc' := 6) dX12_howMany_5 rfl rfl (.head _) ?_
    refine r_getR (pc' := 9) dX12_howMany_6 rfl fX12_3 rfl (by first | assumption | rfl) (by omega) (by assumption) ?_
    refine r_bipush (pc' := 11) dX12_howMany_9 rfl (by decide) ?_
    refine r_iaload (pc' := 12) dX12_howMany_11 rfl (by first | assumption | rfl) (by omega) (by omega) (by omega) (by first | decide | omega) (show Int.toNat 7 = 7 from rfl) ?_
    rw [hR.m]
    refine r_icmp_ge (t := 39) (f := 15) dX12_howMany_12 (by decide) rfl (by first | omega | exact xv_in _ _ _) (by first | omega | exact xv_in _ _ _) (fun h12 => ?_) (fun h12 => ?_)
    · exfalso; omega
    · refine r_iload_n (i := 2) (pc' := 16) dX12_howMany_15 rfl rfl (.tail _ (.tail _ (.head _))) ?_
      refine r_aload_n (i := 0) (pc' := 17) dX12_howMany_16 rfl rfl (.head _) ?_
      refine r_iload_n (i := 3) (pc' := 18) dX12_howMany_17 rfl rfl (.tail _ (.tail _ (.tail _ (.head _)))) ?_
      refine r_iconst (pc' := 19) dX12_howMany_18 rfl ?_
      refine r_V2p (ci := 12) (pc' := 22) dX12_howMany_19 rfl lX12_115 rfl (by decide) (Nat.le_of_ble_eq_true rfl) (by first | assumption | rfl) (by omega) (tO_4 hm hR hO (by first | assumption | omega)) ?_
      refine r_iload_n (i := 1) (pc' := 23) dX12_howMany_22 rfl rfl (.tail _ (.head _)) ?_
      refine r_icmp_ne (t := 30) (f := 26) dX12_howMany_23 (by decide) rfl (by first | omega | exact xv_in _ _ _) (by first | omega | exact xv_in _ _ _) (fun h23 => ?_) (fun h23 => ?_)
      · refine r_iconst (pc' := 31) dX12_howMany_30 rfl ?_
        refine r_iadd (pc' := 32) dX12_howMany_31 rfl ?_
        refine r_istore_n (i := 2) (pc' := 33) dX12_howMany_32 rfl rfl rfl (.s1 (.s1 (.here (.s1 .nil rfl rfl rfl)) rfl rfl rfl) rfl rfl rfl) ?_
        refine r_iinc (pc' := 36) dX12_howMany_33 rfl rfl (.tail _ (.tail _ (.tail _ (.head _)))) (.s1 (.s1 (.s1 (.here .nil) rfl rfl rfl) rfl rfl rfl) rfl rfl rfl) ?_
        refine r_goto (t := 4) dX12_howMany_36 (by decide) ?_
        refine ih (i + 1) _ (by omega) ?_
        rw [← hr, q_sum]
        try dsimp only
        first | (rw [if_pos (by omega)]; omega) | (rw [if_neg (by omega)]; omega)
      · refine r_iconst (pc' := 27) dX12_howMany_26 rfl ?_
        refine r_goto (t := 31) dX12_howMany_27 (by decide) ?_
        refine r_iadd (pc' := 32) dX12_howMany_31 rfl ?_
        refine r_istore_n (i := 2) (pc' := 33) dX12_howMany_32 rfl rfl rfl (.s1 (.s1 (.here (.s1 .nil rfl rfl rfl)) rfl rfl rfl) rfl rfl rfl) ?_
        refine r_iinc (pc' := 36) dX12_howMany_33 rfl rfl (.tail _ (.tail _ (.tail _ (.head _)))) (.s1 (.s1 (.s1 (.here .nil) rfl rfl rfl) rfl rfl rfl) rfl rfl rfl) ?_
        refine r_goto (t := 4) dX12_howMany_36 (by decide) ?_
        refine ih (i + 1) _ (by omega) ?_
        rw [← hr, q_sum]
        try dsimp only
        first | (rw [if_pos (by omega)]; omega) | (rw [if_neg (by omega)]; omega)
set_option maxHeartbeats 4000000 in
set_option maxRecDepth 100000 in
theorem tX12_howMany {l : Launch} {g : q_G} {n : Nat} {P : q_P} {X : q_X} {Y : q_Y} (hm : isMod n P) {C : q_X} {b : Nat} (hR : RB C b (xv X 468)) (hO : bOk C b) {st : Int} (hst : q_in st) : q_Met l g mX12_howMany 2 [.ref (g.1 + 467), .int (zi st)] n P X Y (q_pv (.int (zi (q_sum (fun i => if xv C (con b i) 4 = st then 1 else 0) 0 ((xv C b 10).toNat)))) n P X Y) := by
  obtain ⟨m0, m2, m3, m8, m9, m14, m15, m16, m17, m18, m20, m22, m25, hnm9⟩ := id hm
  obtain ⟨o0, o1, o2, o3, o4, o5, o6, o10, oc, op0, opz, opi, om0, omi, olim⟩ := id hO
  refine q_enter (L := [(0, .ref (g.1 + 467)), (1, .int (zi st))]) (by decide) (Nat.le_of_ble_eq_true rfl) rfl ?_
  refine r_iconst (pc' := 1) dX12_howMany_0 rfl ?_
  refine r_istore_n (i := 2) (pc' := 2) dX12_howMany_1 rfl rfl rfl (.s1 (.s1 .nil rfl rfl rfl) rfl rfl rfl) ?_
  refine r_iconst (pc' := 3) dX12_howMany_2 rfl ?_
  refine r_istore_n (i := 3) (pc' := 4) dX12_howMany_3 rfl rfl rfl (.s1 (.s1 (.s1 .nil rfl rfl rfl) rfl rfl rfl) rfl rfl rfl) ?_
  exact lX12_howMany hm hR hO hst ((xv C b 10).toNat) 0 _ (by omega) (Int.zero_add _)
set_option maxHeartbeats 4000000 in
set_option maxRecDepth 100000 in
theorem tX12_hitOfOffer {l : Launch} {g : q_G} {n : Nat} {P : q_P} {X : q_X} {Y : q_Y} (hm : isMod n P) {C : q_X} {b : Nat} (hR : RB C b (xv X 468)) (hO : bOk C b) {i : Nat} (hi : (i : Int) < xv C (b + 10) 0) : q_Met l g mX12_hitOfOffer 1 [.ref (g.1 + 467), .int (zi (i : Int))] n P X Y (q_pv (.int (zi (c_piece (xv C (b + 13) i) (xv C (b + 12) i) 0 + xv C (b + 14) i))) n P X Y) := by
  obtain ⟨m0, m2, m3, m8, m9, m14, m15, m16, m17, m18, m20, m22, m25, hnm9⟩ := id hm
  obtain ⟨o0, o1, o2, o3, o4, o5, o6, o10, oc, op0, opz, opi, om0, omi, olim⟩ := id hO
  obtain ⟨hq1, hq2, hq3, hq4⟩ := hR.off hi
  have hmi := omi i hi
  refine q_enter (L := [(0, .ref (g.1 + 467)), (1, .int (zi (i : Int)))]) (by decide) (Nat.le_of_ble_eq_true rfl) rfl ?_
  refine r_sipush (pc' := 3) dX12_hitOfOffer_0 rfl (by decide) ?_
  refine r_iconst (pc' := 4) dX12_hitOfOffer_3 rfl ?_
  refine r_iload_n (i := 1) (pc' := 5) dX12_hitOfOffer_4 rfl rfl (.tail _ (.head _)) ?_
  refine r_imul (pc' := 6) dX12_hitOfOffer_5 rfl ?_
  refine r_iadd (pc' := 7) dX12_hitOfOffer_6 rfl ?_
  refine r_istore_n (i := 2) (pc' := 8) dX12_hitOfOffer_7 rfl rfl rfl (.s1 (.s1 .nil rfl rfl rfl) rfl rfl rfl) ?_
  refine r_aload_n (i := 0) (pc' := 9) dX12_hitOfOffer_8 rfl rfl (.head _) ?_
  refine r_getR (pc' := 12) dX12_hitOfOffer_9 rfl fX12_3 rfl (by first | assumption | rfl) (by omega) (by assumption) ?_
  refine r_iload_n (i := 2) (pc' := 13) dX12_hitOfOffer_12 rfl rfl (.tail _ (.tail _ (.head _))) ?_
  refine r_iconst (pc' := 14) dX12_hitOfOffer_13 rfl ?_
  refine r_iadd (pc' := 15) dX12_hitOfOffer_14 rfl ?_
  refine r_iaload (pc' := 16) dX12_hitOfOffer_15 rfl (by first | assumption | rfl) (by omega) (by omega) (by omega) (by first | decide | omega) (show (3572 + 4 * (i : Int) + 2).toNat = 3572 + 4 * i + 2 by omega) ?_
  rw [hq3]
  refine r_iconst (pc' := 17) dX12_hitOfOffer_16 rfl ?_
  refine r_aload_n (i := 0) (pc' := 18) dX12_hitOfOffer_17 rfl rfl (.head _) ?_
  refine r_getR (pc' := 21) dX12_hitOfOffer_18 rfl fX12_3 rfl (by first | assumption | rfl) (by omega) (by assumption) ?_
  refine r_iload_n (i := 2) (pc' := 22) dX12_hitOfOffer_21 rfl rfl (.tail _ (.tail _ (.head _))) ?_
  refine r_iconst (pc' := 23) dX12_hitOfOffer_22 rfl ?_
  refine r_iadd (pc' := 24) dX12_hitOfOffer_23 rfl ?_
  refine r_iaload (pc' := 25) dX12_hitOfOffer_24 rfl (by first | assumption | rfl) (by omega) (by omega) (by omega) (by first | decide | omega) (show (3572 + 4 * (i : Int) + 1).toNat = 3572 + 4 * i + 1 by omega) ?_
  rw [hq2]
  refine r_S2p (pc' := 28) dX12_hitOfOffer_25 rfl lX12_122 (by decide) (Nat.le_of_ble_eq_true rfl) (tX12_lesser (by omega) (by omega)) ?_
  refine r_iconst (pc' := 29) dX12_hitOfOffer_28 rfl ?_
  refine r_S3p (pc' := 32) dX12_hitOfOffer_29 rfl lX12_128 (by decide) (Nat.le_of_ble_eq_true rfl) (tX12_pieceOf (ov := xv C (b + 12) i) (by omega) (by omega) (by omega)) ?_
  refine r_aload_n (i := 0) (pc' := 33) dX12_hitOfOffer_32 rfl rfl (.head _) ?_
  refine r_getR (pc' := 36) dX12_hitOfOffer_33 rfl fX12_3 rfl (by first | assumption | rfl) (by omega) (by assumption) ?_
  refine r_iload_n (i := 2) (pc' := 37) dX12_hitOfOffer_36 rfl rfl (.tail _ (.tail _ (.head _))) ?_
  refine r_iconst (pc' := 38) dX12_hitOfOffer_37 rfl ?_
  refine r_iadd (pc' := 39) dX12_hitOfOffer_38 rfl ?_
  refine r_iaload (pc' := 40) dX12_hitOfOffer_39 rfl (by first | assumption | rfl) (by omega) (by omega) (by omega) (by first | decide | omega) (show (3572 + 4 * (i : Int) + 3).toNat = 3572 + 4 * i + 3 by omega) ?_
  rw [hq4]
  refine r_iadd (pc' := 41) dX12_hitOfOffer_40 rfl ?_
  refine r_ireturn dX12_hitOfOffer_41 rfl ?_
  exact ⟨rfl, rfl, rfl, rfl, rfl⟩
set_option maxHeartbeats 4000000 in
set_option maxRecDepth 100000 in
theorem tX12_offer {l : Launch} {g : q_G} {n : Nat} {P : q_P} {X : q_X} {Y : q_Y} (hm : isMod n P) {C : q_X} {b : Nat} (hR : RB C b (xv X 468)) (hO : bOk C b) {i w : Int} (hi : q_in i) (hw : q_in w) : q_Met l g mX12_offer 2 [.ref (g.1 + 467), .int (zi i), .int (zi w)] n P X Y (q_pv (.int (zi (f_offer C b i w))) n P X Y) := by
  obtain ⟨m0, m2, m3, m8, m9, m14, m15, m16, m17, m18, m20, m22, m25, hnm9⟩ := id hm
  obtain ⟨o0, o1, o2, o3, o4, o5, o6, o10, oc, op0, opz, opi, om0, omi, olim⟩ := id hO
  refine q_enter (L := [(0, .ref (g.1 + 467)), (1, .int (zi i)), (2, .int (zi w))]) (by decide) (Nat.le_of_ble_eq_true rfl) rfl ?_
  refine r_aload_n (i := 0) (pc' := 1) dX12_offer_0 rfl rfl (.head _) ?_
  refine r_iload_n (i := 1) (pc' := 2) dX12_offer_1 rfl rfl (.tail _ (.head _)) ?_
  by_cases hi0 : 0 ≤ i ∧ i < xv C (b + 10) 0
  · obtain ⟨ii, rfl⟩ : ∃ ii : Nat, i = (ii : Int) := ⟨i.toNat, by omega⟩
    have hii : (ii : Int) < xv C (b + 10) 0 := hi0.2
    obtain ⟨hq1, hq2, hq3, hq4⟩ := hR.off hii
    have hmi := omi ii hii
    refine r_V1p (ci := 12) (pc' := 5) dX12_offer_2 rfl lX12_294 rfl (by decide) (Nat.le_of_ble_eq_true rfl) (by first | assumption | rfl) (by omega) (tX12_isOffer (by assumption) (by assumption) (by assumption) (by omega)) ?_
    refine r_bif_eq (t := 20) (f := 8) dX12_offer_5 (by decide) rfl (fun h5 => ?_) (fun h5 => ?_)
    · exfalso; omega
    · refine r_iload_n (i := 2) (pc' := 9) dX12_offer_8 rfl rfl (.tail _ (.tail _ (.head _))) ?_
      refine r_i2l (pc' := 10) dX12_offer_9 rfl rfl ?_
      refine r_lconst (pc' := 11) (z := 0) dX12_offer_10 rfl rfl ?_
      refine r_ldc2 (pc' := 14) dX12_offer_11 rfl kX12_292 ?_
      refine r_S3p (pc' := 17) dX12_offer_14 rfl lX12_68 (by decide) (Nat.le_of_ble_eq_true rfl) (tX12_isIn (by first | exact li_z (by omega) | exact li_z (xv_in _ _ _) | rfl) (by first | exact li_z (by omega) | exact li_z (xv_in _ _ _) | rfl) (by first | exact li_z (by omega) | exact li_z (xv_in _ _ _) | rfl)) ?_
      try simp only [i64_0, i64_1, i64_2, i64_3, i64_4, i64_5, i64_6, i64_7, i64_10, i64_19, i64_40, i64_100, i64_364, i64_9999, i64_99999, i64_999999, i64_m999999]
      refine r_bif_ne (t := 24) (f := 20) dX12_offer_17 (by decide) rfl (fun h17 => ?_) (fun h17 => ?_)
      · refine r_iload_n (i := 2) (pc' := 25) dX12_offer_24 rfl rfl (.tail _ (.tail _ (.head _))) ?_
        refine r_iconst (pc' := 26) dX12_offer_25 rfl ?_
        refine r_icmp_ne (t := 37) (f := 29) dX12_offer_26 (by decide) rfl (by first | omega | exact xv_in _ _ _) (by first | omega | exact xv_in _ _ _) (fun h26 => ?_) (fun h26 => ?_)
        · refine r_aload_n (i := 0) (pc' := 38) dX12_offer_37 rfl rfl (.head _) ?_
          refine r_getR (pc' := 41) dX12_offer_38 rfl fX12_3 rfl (by first | assumption | rfl) (by omega) (by assumption) ?_
          refine r_sipush (pc' := 44) dX12_offer_41 rfl (by decide) ?_
          refine r_iconst (pc' := 45) dX12_offer_44 rfl ?_
          refine r_iload_n (i := 1) (pc' := 46) dX12_offer_45 rfl rfl (.tail _ (.head _)) ?_
          refine r_imul (pc' := 47) dX12_offer_46 rfl ?_
          refine r_iadd (pc' := 48) dX12_offer_47 rfl ?_
          refine r_iload_n (i := 2) (pc' := 49) dX12_offer_48 rfl rfl (.tail _ (.tail _ (.head _))) ?_
          refine r_iadd (pc' := 50) dX12_offer_49 rfl ?_
          refine r_iaload (pc' := 51) dX12_offer_50 rfl (by first | assumption | rfl) (by omega) (by omega) (by omega) (by first | decide | omega) rfl ?_
          have hww : w = 0 ∨ w = 1 ∨ w = 2 ∨ w = 3 := by omega
          have ev : xv X 468 (3572 + 4 * (ii : Int) + w).toNat = if w = 0 then xv C (b + 11) ii else if w = 1 then xv C (b + 12) ii else if w = 2 then xv C (b + 13) ii else xv C (b + 14) ii := by
            rcases hww with e | e | e | e <;> subst e
            · rw [if_pos rfl, ← hq1]; congr 1 <;> omega
            · rw [if_neg (by omega), if_pos rfl, ← hq2]; congr 1
            · rw [if_neg (by omega), if_neg (by omega), if_pos rfl, ← hq3]; congr 1
            · rw [if_neg (by omega), if_neg (by omega), if_neg (by omega), ← hq4]; congr 1
          rw [ev]
          refine r_ireturn dX12_offer_51 rfl ?_
          refine ⟨?_, rfl, rfl, rfl, rfl⟩
          unfold f_offer
          try simp only [Int.toNat_natCast]
          (repeat' split) <;> first | rfl | (exfalso; omega) | (congr 3; omega)
        · refine r_aload_n (i := 0) (pc' := 30) dX12_offer_29 rfl rfl (.head _) ?_
          refine r_iload_n (i := 1) (pc' := 31) dX12_offer_30 rfl rfl (.tail _ (.head _)) ?_
          refine r_V1p (ci := 12) (pc' := 34) dX12_offer_31 rfl lX12_297 rfl (by decide) (Nat.le_of_ble_eq_true rfl) (by first | assumption | rfl) (by omega) (tX12_hitOfOffer (by assumption) (by assumption) (by assumption) (by omega)) ?_
          refine r_goto (t := 51) dX12_offer_34 (by decide) ?_
          refine r_ireturn dX12_offer_51 rfl ?_
          refine ⟨?_, rfl, rfl, rfl, rfl⟩
          unfold f_offer
          try simp only [Int.toNat_natCast]
          (repeat' split) <;> first | rfl | (exfalso; omega) | (congr 3; omega)
      · refine r_iconst (pc' := 21) dX12_offer_20 rfl ?_
        refine r_goto (t := 51) dX12_offer_21 (by decide) ?_
        refine r_ireturn dX12_offer_51 rfl ?_
        refine ⟨?_, rfl, rfl, rfl, rfl⟩
        unfold f_offer
        try simp only [Int.toNat_natCast]
        (repeat' split) <;> first | rfl | (exfalso; omega) | (congr 3; omega)
  · refine r_V1p (ci := 12) (pc' := 5) dX12_offer_2 rfl lX12_294 rfl (by decide) (Nat.le_of_ble_eq_true rfl) (by first | assumption | rfl) (by omega) (tX12_isOffer (by assumption) (by assumption) (by assumption) (by omega)) ?_
    refine r_bif_eq (t := 20) (f := 8) dX12_offer_5 (by decide) rfl (fun h5 => ?_) (fun h5 => ?_)
    · refine r_iconst (pc' := 21) dX12_offer_20 rfl ?_
      refine r_goto (t := 51) dX12_offer_21 (by decide) ?_
      refine r_ireturn dX12_offer_51 rfl ?_
      refine ⟨?_, rfl, rfl, rfl, rfl⟩
      unfold f_offer
      try simp only [Int.toNat_natCast]
      (repeat' split) <;> first | rfl | (exfalso; omega) | (congr 3; omega)
    · exfalso; omega
set_option maxHeartbeats 4000000 in
set_option maxRecDepth 100000 in
theorem tX12_promised {l : Launch} {g : q_G} {n : Nat} {P : q_P} {X : q_X} {Y : q_Y} (hm : isMod n P) {C : q_X} {b : Nat} (hR : RB C b (xv X 468)) (hO : bOk C b) {i w : Int} (hi : q_in i) (hw : q_in w) : q_Met l g mX12_promised 2 [.ref (g.1 + 467), .int (zi i), .int (zi w)] n P X Y (q_pv (.int (zi (f_promised C b i w))) n P X Y) := by
  obtain ⟨m0, m2, m3, m8, m9, m14, m15, m16, m17, m18, m20, m22, m25, hnm9⟩ := id hm
  obtain ⟨o0, o1, o2, o3, o4, o5, o6, o10, oc, op0, opz, opi, om0, omi, olim⟩ := id hO
  refine q_enter (L := [(0, .ref (g.1 + 467)), (1, .int (zi i)), (2, .int (zi w))]) (by decide) (Nat.le_of_ble_eq_true rfl) rfl ?_
  refine r_aload_n (i := 0) (pc' := 1) dX12_promised_0 rfl rfl (.head _) ?_
  refine r_iload_n (i := 1) (pc' := 2) dX12_promised_1 rfl rfl (.tail _ (.head _)) ?_
  by_cases hi0 : 0 ≤ i ∧ i < xv C (b + 4) 0
  · obtain ⟨ii, rfl⟩ : ∃ ii : Nat, i = (ii : Int) := ⟨i.toNat, by omega⟩
    have hii : (ii : Int) < xv C (b + 4) 0 := hi0.2
    obtain ⟨hq1, hq2, hq3, hq4, hq5⟩ := hR.pro hii
    have hmi := opi ii hii
    refine r_V1p (ci := 12) (pc' := 5) dX12_promised_2 rfl lX12_289 rfl (by decide) (Nat.le_of_ble_eq_true rfl) (by first | assumption | rfl) (by omega) (tX12_isPromise (by assumption) (by assumption) (by assumption) (by omega)) ?_
    refine r_bif_eq (t := 37) (f := 8) dX12_promised_5 (by decide) rfl (fun h5 => ?_) (fun h5 => ?_)
    · exfalso; omega
    · refine r_iload_n (i := 2) (pc' := 9) dX12_promised_8 rfl rfl (.tail _ (.tail _ (.head _))) ?_
      refine r_i2l (pc' := 10) dX12_promised_9 rfl rfl ?_
      refine r_lconst (pc' := 11) (z := 0) dX12_promised_10 rfl rfl ?_
      refine r_ldc2 (pc' := 14) dX12_promised_11 rfl kX12_292 ?_
      refine r_S3p (pc' := 17) dX12_promised_14 rfl lX12_68 (by decide) (Nat.le_of_ble_eq_true rfl) (tX12_isIn (by first | exact li_z (by omega) | exact li_z (xv_in _ _ _) | rfl) (by first | exact li_z (by omega) | exact li_z (xv_in _ _ _) | rfl) (by first | exact li_z (by omega) | exact li_z (xv_in _ _ _) | rfl)) ?_
      try simp only [i64_0, i64_1, i64_2, i64_3, i64_4, i64_5, i64_6, i64_7, i64_10, i64_19, i64_40, i64_100, i64_364, i64_9999, i64_99999, i64_999999, i64_m999999]
      refine r_bif_eq (t := 37) (f := 20) dX12_promised_17 (by decide) rfl (fun h17 => ?_) (fun h17 => ?_)
      · refine r_iconst (pc' := 38) dX12_promised_37 rfl ?_
        refine r_ireturn dX12_promised_38 rfl ?_
        refine ⟨?_, rfl, rfl, rfl, rfl⟩
        unfold f_promised
        try simp only [Int.toNat_natCast]
        (repeat' split) <;> first | rfl | (exfalso; omega) | (congr 3; omega)
      · refine r_aload_n (i := 0) (pc' := 21) dX12_promised_20 rfl rfl (.head _) ?_
        refine r_getR (pc' := 24) dX12_promised_21 rfl fX12_3 rfl (by first | assumption | rfl) (by omega) (by assumption) ?_
        refine r_sipush (pc' := 27) dX12_promised_24 rfl (by decide) ?_
        refine r_iconst (pc' := 28) dX12_promised_27 rfl ?_
        refine r_iload_n (i := 1) (pc' := 29) dX12_promised_28 rfl rfl (.tail _ (.head _)) ?_
        refine r_imul (pc' := 30) dX12_promised_29 rfl ?_
        refine r_iadd (pc' := 31) dX12_promised_30 rfl ?_
        refine r_iload_n (i := 2) (pc' := 32) dX12_promised_31 rfl rfl (.tail _ (.tail _ (.head _))) ?_
        refine r_iadd (pc' := 33) dX12_promised_32 rfl ?_
        refine r_iaload (pc' := 34) dX12_promised_33 rfl (by first | assumption | rfl) (by omega) (by omega) (by omega) (by first | decide | omega) rfl ?_
        have hww : w = 0 ∨ w = 1 ∨ w = 2 ∨ w = 3 ∨ w = 4 := by omega
        have ev : xv X 468 (3620 + 5 * (ii : Int) + w).toNat = if w = 0 then xv C (b + 5) ii else if w = 1 then xv C (b + 6) ii else if w = 2 then xv C (b + 7) ii else if w = 3 then xv C (b + 8) ii else xv C (b + 9) ii := by
          rcases hww with e | e | e | e | e <;> subst e
          · rw [if_pos rfl, ← hq1]; congr 1 <;> omega
          · rw [if_neg (by omega), if_pos rfl, ← hq2]; congr 1
          · rw [if_neg (by omega), if_neg (by omega), if_pos rfl, ← hq3]; congr 1
          · rw [if_neg (by omega), if_neg (by omega), if_neg (by omega), if_pos rfl, ← hq4]; congr 1
          · rw [if_neg (by omega), if_neg (by omega), if_neg (by omega), if_neg (by omega), ← hq5]; congr 1
        rw [ev]
        refine r_goto (t := 38) dX12_promised_34 (by decide) ?_
        refine r_ireturn dX12_promised_38 rfl ?_
        refine ⟨?_, rfl, rfl, rfl, rfl⟩
        unfold f_promised
        try simp only [Int.toNat_natCast]
        (repeat' split) <;> first | rfl | (exfalso; omega) | (congr 3; omega)
  · refine r_V1p (ci := 12) (pc' := 5) dX12_promised_2 rfl lX12_289 rfl (by decide) (Nat.le_of_ble_eq_true rfl) (by first | assumption | rfl) (by omega) (tX12_isPromise (by assumption) (by assumption) (by assumption) (by omega)) ?_
    refine r_bif_eq (t := 37) (f := 8) dX12_promised_5 (by decide) rfl (fun h5 => ?_) (fun h5 => ?_)
    · refine r_iconst (pc' := 38) dX12_promised_37 rfl ?_
      refine r_ireturn dX12_promised_38 rfl ?_
      refine ⟨?_, rfl, rfl, rfl, rfl⟩
      unfold f_promised
      try simp only [Int.toNat_natCast]
      (repeat' split) <;> first | rfl | (exfalso; omega) | (congr 3; omega)
    · exfalso; omega
set_option maxHeartbeats 4000000 in
set_option maxRecDepth 100000 in
theorem tX12_pay {l : Launch} {g : q_G} {n : Nat} {P : q_P} {X : q_X} {Y : q_Y} (hm : isMod n P) {C : q_X} {b : Nat} (hR : RB C b (xv X 468)) (hO : bOk C b) {k : Int} (hki : q_in k) {y w : Int} (hy : q_in y) (hw : q_in w) : q_Met l g mX12_pay 3 [.ref (g.1 + 467), .int (zi k), .int (zi y), .int (zi w)] n P X Y (q_pv (.int (zi (f_pay C b k y w))) n P X Y) := by
  obtain ⟨m0, m2, m3, m8, m9, m14, m15, m16, m17, m18, m20, m22, m25, hnm9⟩ := id hm
  obtain ⟨o0, o1, o2, o3, o4, o5, o6, o10, oc, op0, opz, opi, om0, omi, olim⟩ := id hO
  refine q_enter (L := [(0, .ref (g.1 + 467)), (1, .int (zi k)), (2, .int (zi y)), (3, .int (zi w))]) (by decide) (Nat.le_of_ble_eq_true rfl) rfl ?_
  refine r_aload_n (i := 0) (pc' := 1) dX12_pay_0 rfl rfl (.head _) ?_
  refine r_iload_n (i := 1) (pc' := 2) dX12_pay_1 rfl rfl (.tail _ (.head _)) ?_
  by_cases hk : bk_has C b k
  · obtain ⟨kn, rfl⟩ : ∃ kn : Nat, k = (kn : Int) := ⟨k.toNat, by omega⟩
    have hkk : (kn : Int) < xv C b 10 := hk.2
    have hck := hO.c hkk
    obtain ⟨hf, hf2, hf3, hf4, hfj, hfs, hfg⟩ := id hck
    refine r_V1p (ci := 12) (pc' := 5) dX12_pay_2 rfl lX12_206 rfl (by decide) (Nat.le_of_ble_eq_true rfl) (by first | assumption | rfl) (by omega) (tX12_isContract (by assumption) (by assumption) (by assumption) (by omega)) ?_
    refine r_bif_eq (t := 15) (f := 8) dX12_pay_5 (by decide) rfl (fun h5 => ?_) (fun h5 => ?_)
    · exfalso; omega
    · refine r_iload_n (i := 2) (pc' := 9) dX12_pay_8 rfl rfl (.tail _ (.tail _ (.head _))) ?_
      refine r_S1p (pc' := 12) dX12_pay_9 rfl lX12_253 (by decide) (Nat.le_of_ble_eq_true rfl) (tX12_isYear (by omega)) ?_
      refine r_bif_ne (t := 17) (f := 15) dX12_pay_12 (by decide) rfl (fun h12 => ?_) (fun h12 => ?_)
      · refine r_iload_n (i := 3) (pc' := 18) dX12_pay_17 rfl rfl (.tail _ (.tail _ (.tail _ (.head _)))) ?_
        by_cases hs18 : w < 0 ∨ 3 < w
        · refine r_tout (t := 85) dX12_pay_18 (by first | omega | exact xv_in _ _ _) hs18 (by decide) ?_
          refine r_iconst (pc' := 86) dX12_pay_85 rfl ?_
          refine r_ireturn dX12_pay_86 rfl ?_
          refine ⟨?_, rfl, rfl, rfl, rfl⟩
          unfold f_pay
          try simp only [Int.toNat_natCast]
          (repeat' split) <;> first | rfl | (exfalso; omega) | (congr 3; omega)
        · have hc18 : w = 0 ∨ w = 1 ∨ w = 2 ∨ w = 3 := by omega
          rcases hc18 with hc18 | hc18 | hc18 | hc18
          · refine r_tin (t := 48) (off := 30) dX12_pay_18 (by first | omega | exact xv_in _ _ _) (by omega) (by omega) (by rw [hc18]; rfl) (by decide) ?_
            refine r_aload_n (i := 0) (pc' := 49) dX12_pay_48 rfl rfl (.head _) ?_
            refine r_iload_n (i := 1) (pc' := 50) dX12_pay_49 rfl rfl (.tail _ (.head _)) ?_
            refine r_bipush (pc' := 52) dX12_pay_50 rfl (by decide) ?_
            refine r_iload_n (i := 2) (pc' := 53) dX12_pay_52 rfl rfl (.tail _ (.tail _ (.head _))) ?_
            refine r_iadd (pc' := 54) dX12_pay_53 rfl ?_
            refine r_V2p (ci := 12) (pc' := 57) dX12_pay_54 rfl lX12_115 rfl (by decide) (Nat.le_of_ble_eq_true rfl) (by first | assumption | rfl) (by omega) (tO_b hm hR hO (by first | assumption | omega) (by omega)) ?_
            refine r_ireturn dX12_pay_57 rfl ?_
            refine ⟨?_, rfl, rfl, rfl, rfl⟩
            unfold f_pay
            try simp only [Int.toNat_natCast]
            (repeat' split) <;> first | rfl | (exfalso; omega) | (congr 3; omega)
          · refine r_tin (t := 58) (off := 40) dX12_pay_18 (by first | omega | exact xv_in _ _ _) (by omega) (by omega) (by rw [hc18]; rfl) (by decide) ?_
            refine r_aload_n (i := 0) (pc' := 59) dX12_pay_58 rfl rfl (.head _) ?_
            refine r_iload_n (i := 1) (pc' := 60) dX12_pay_59 rfl rfl (.tail _ (.head _)) ?_
            refine r_bipush (pc' := 62) dX12_pay_60 rfl (by decide) ?_
            refine r_iload_n (i := 2) (pc' := 63) dX12_pay_62 rfl rfl (.tail _ (.tail _ (.head _))) ?_
            refine r_iadd (pc' := 64) dX12_pay_63 rfl ?_
            refine r_V2p (ci := 12) (pc' := 67) dX12_pay_64 rfl lX12_115 rfl (by decide) (Nat.le_of_ble_eq_true rfl) (by first | assumption | rfl) (by omega) (tO_r hm hR hO (by first | assumption | omega) (by omega)) ?_
            refine r_ireturn dX12_pay_67 rfl ?_
            refine ⟨?_, rfl, rfl, rfl, rfl⟩
            unfold f_pay
            try simp only [Int.toNat_natCast]
            (repeat' split) <;> first | rfl | (exfalso; omega) | (congr 3; omega)
          · refine r_tin (t := 68) (off := 50) dX12_pay_18 (by first | omega | exact xv_in _ _ _) (by omega) (by omega) (by rw [hc18]; rfl) (by decide) ?_
            refine r_aload_n (i := 0) (pc' := 69) dX12_pay_68 rfl rfl (.head _) ?_
            refine r_iload_n (i := 1) (pc' := 70) dX12_pay_69 rfl rfl (.tail _ (.head _)) ?_
            refine r_bipush (pc' := 72) dX12_pay_70 rfl (by decide) ?_
            refine r_iload_n (i := 2) (pc' := 73) dX12_pay_72 rfl rfl (.tail _ (.tail _ (.head _))) ?_
            refine r_iadd (pc' := 74) dX12_pay_73 rfl ?_
            refine r_V2p (ci := 12) (pc' := 77) dX12_pay_74 rfl lX12_115 rfl (by decide) (Nat.le_of_ble_eq_true rfl) (by first | assumption | rfl) (by omega) (tO_p hm hR hO (by first | assumption | omega) (by omega)) ?_
            refine r_ireturn dX12_pay_77 rfl ?_
            refine ⟨?_, rfl, rfl, rfl, rfl⟩
            unfold f_pay
            try simp only [Int.toNat_natCast]
            (repeat' split) <;> first | rfl | (exfalso; omega) | (congr 3; omega)
          · refine r_tin (t := 78) (off := 60) dX12_pay_18 (by first | omega | exact xv_in _ _ _) (by omega) (by omega) (by rw [hc18]; rfl) (by decide) ?_
            refine r_aload_n (i := 0) (pc' := 79) dX12_pay_78 rfl rfl (.head _) ?_
            refine r_iload_n (i := 1) (pc' := 80) dX12_pay_79 rfl rfl (.tail _ (.head _)) ?_
            refine r_iload_n (i := 2) (pc' := 81) dX12_pay_80 rfl rfl (.tail _ (.tail _ (.head _))) ?_
            refine r_V2p (ci := 12) (pc' := 84) dX12_pay_81 rfl lX12_230 rfl (by decide) (Nat.le_of_ble_eq_true rfl) (by first | assumption | rfl) (by omega) (tX12_hitOf (by assumption) (by assumption) (by assumption) (by assumption) (by omega)) ?_
            refine r_ireturn dX12_pay_84 rfl ?_
            refine ⟨?_, rfl, rfl, rfl, rfl⟩
            unfold f_pay
            try simp only [Int.toNat_natCast]
            (repeat' split) <;> first | rfl | (exfalso; omega) | (congr 3; omega)
      · refine r_iconst (pc' := 16) dX12_pay_15 rfl ?_
        refine r_ireturn dX12_pay_16 rfl ?_
        refine ⟨?_, rfl, rfl, rfl, rfl⟩
        unfold f_pay
        try simp only [Int.toNat_natCast]
        (repeat' split) <;> first | rfl | (exfalso; omega) | (congr 3; omega)
  · refine r_V1p (ci := 12) (pc' := 5) dX12_pay_2 rfl lX12_206 rfl (by decide) (Nat.le_of_ble_eq_true rfl) (by first | assumption | rfl) (by omega) (tX12_isContract (by assumption) (by assumption) (by assumption) (by omega)) ?_
    refine r_bif_eq (t := 15) (f := 8) dX12_pay_5 (by decide) rfl (fun h5 => ?_) (fun h5 => ?_)
    · refine r_iconst (pc' := 16) dX12_pay_15 rfl ?_
      refine r_ireturn dX12_pay_16 rfl ?_
      refine ⟨?_, rfl, rfl, rfl, rfl⟩
      unfold f_pay
      try simp only [Int.toNat_natCast]
      (repeat' split) <;> first | rfl | (exfalso; omega) | (congr 3; omega)
    · exfalso; omega
set_option maxHeartbeats 4000000 in
set_option maxRecDepth 100000 in
theorem tX12_cash {l : Launch} {g : q_G} {n : Nat} {P : q_P} {X : q_X} {Y : q_Y} (hm : isMod n P) {C : q_X} {b : Nat} (hR : RB C b (xv X 468)) (hO : bOk C b) {k : Int} (hki : q_in k) {y : Int} (hy : q_in y) : q_Met l g mX12_cash 4 [.ref (g.1 + 467), .int (zi k), .int (zi y)] n P X Y (q_pv (.int (zi (f_cash C b k y))) n P X Y) := by
  obtain ⟨m0, m2, m3, m8, m9, m14, m15, m16, m17, m18, m20, m22, m25, hnm9⟩ := id hm
  obtain ⟨o0, o1, o2, o3, o4, o5, o6, o10, oc, op0, opz, opi, om0, omi, olim⟩ := id hO
  refine q_enter (L := [(0, .ref (g.1 + 467)), (1, .int (zi k)), (2, .int (zi y))]) (by decide) (Nat.le_of_ble_eq_true rfl) rfl ?_
  refine r_aload_n (i := 0) (pc' := 1) dX12_cash_0 rfl rfl (.head _) ?_
  refine r_iload_n (i := 1) (pc' := 2) dX12_cash_1 rfl rfl (.tail _ (.head _)) ?_
  by_cases hk : bk_has C b k
  · obtain ⟨kn, rfl⟩ : ∃ kn : Nat, k = (kn : Int) := ⟨k.toNat, by omega⟩
    have hkk : (kn : Int) < xv C b 10 := hk.2
    have hck := hO.c hkk
    obtain ⟨hf, hf2, hf3, hf4, hfj, hfs, hfg⟩ := id hck
    refine r_V1p (ci := 12) (pc' := 5) dX12_cash_2 rfl lX12_206 rfl (by decide) (Nat.le_of_ble_eq_true rfl) (by first | assumption | rfl) (by omega) (tX12_isContract (by assumption) (by assumption) (by assumption) (by omega)) ?_
    refine r_bif_eq (t := 24) (f := 8) dX12_cash_5 (by decide) rfl (fun h5 => ?_) (fun h5 => ?_)
    · exfalso; omega
    · refine r_iload_n (i := 2) (pc' := 9) dX12_cash_8 rfl rfl (.tail _ (.tail _ (.head _))) ?_
      refine r_S1p (pc' := 12) dX12_cash_9 rfl lX12_253 (by decide) (Nat.le_of_ble_eq_true rfl) (tX12_isYear (by omega)) ?_
      refine r_bif_eq (t := 24) (f := 15) dX12_cash_12 (by decide) rfl (fun h12 => ?_) (fun h12 => ?_)
      · refine r_iconst (pc' := 25) dX12_cash_24 rfl ?_
        refine r_ireturn dX12_cash_25 rfl ?_
        refine ⟨?_, rfl, rfl, rfl, rfl⟩
        unfold f_cash
        try simp only [Int.toNat_natCast]
        (repeat' split) <;> first | rfl | (exfalso; omega) | (congr 3; omega)
      · refine r_aload_n (i := 0) (pc' := 16) dX12_cash_15 rfl rfl (.head _) ?_
        refine r_iload_n (i := 1) (pc' := 17) dX12_cash_16 rfl rfl (.tail _ (.head _)) ?_
        refine r_iload_n (i := 2) (pc' := 18) dX12_cash_17 rfl rfl (.tail _ (.tail _ (.head _))) ?_
        refine r_V2p (ci := 12) (pc' := 21) dX12_cash_18 rfl lX12_350 rfl (by decide) (Nat.le_of_ble_eq_true rfl) (by first | assumption | rfl) (by omega) (tX12_cashOf (by assumption) (by assumption) (by assumption) (by assumption) (by omega)) ?_
        refine r_goto (t := 25) dX12_cash_21 (by decide) ?_
        refine r_ireturn dX12_cash_25 rfl ?_
        refine ⟨?_, rfl, rfl, rfl, rfl⟩
        unfold f_cash
        try simp only [Int.toNat_natCast]
        (repeat' split) <;> first | rfl | (exfalso; omega) | (congr 3; omega)
  · refine r_V1p (ci := 12) (pc' := 5) dX12_cash_2 rfl lX12_206 rfl (by decide) (Nat.le_of_ble_eq_true rfl) (by first | assumption | rfl) (by omega) (tX12_isContract (by assumption) (by assumption) (by assumption) (by omega)) ?_
    refine r_bif_eq (t := 24) (f := 8) dX12_cash_5 (by decide) rfl (fun h5 => ?_) (fun h5 => ?_)
    · refine r_iconst (pc' := 25) dX12_cash_24 rfl ?_
      refine r_ireturn dX12_cash_25 rfl ?_
      refine ⟨?_, rfl, rfl, rfl, rfl⟩
      unfold f_cash
      try simp only [Int.toNat_natCast]
      (repeat' split) <;> first | rfl | (exfalso; omega) | (congr 3; omega)
    · exfalso; omega
set_option maxHeartbeats 4000000 in
set_option maxRecDepth 100000 in
theorem tX12_bestDay {l : Launch} {g : q_G} {n : Nat} {P : q_P} {X : q_X} {Y : q_Y} (hm : isMod n P) {C : q_X} {b : Nat} (hR : RB C b (xv X 468)) (hO : bOk C b) {k : Int} (hki : q_in k) : q_Met l g mX12_bestDay 4 [.ref (g.1 + 467), .int (zi k)] n P X Y (q_pv (.int (zi (f_best C b k))) n P X Y) := by
  obtain ⟨m0, m2, m3, m8, m9, m14, m15, m16, m17, m18, m20, m22, m25, hnm9⟩ := id hm
  obtain ⟨o0, o1, o2, o3, o4, o5, o6, o10, oc, op0, opz, opi, om0, omi, olim⟩ := id hO
  refine q_enter (L := [(0, .ref (g.1 + 467)), (1, .int (zi k))]) (by decide) (Nat.le_of_ble_eq_true rfl) rfl ?_
  refine r_aload_n (i := 0) (pc' := 1) dX12_bestDay_0 rfl rfl (.head _) ?_
  refine r_iload_n (i := 1) (pc' := 2) dX12_bestDay_1 rfl rfl (.tail _ (.head _)) ?_
  by_cases hk0 : bk_ref C b k = 0
  · have hk := bk_ref_has hk0
    obtain ⟨kn, rfl⟩ : ∃ kn : Nat, k = (kn : Int) := ⟨k.toNat, by omega⟩
    have hkk : (kn : Int) < xv C b 10 := hk.2
    have hck := hO.c hkk
    have hd1 := bk_dead_b (b := b) hck (xv C b 2)
    have hd2 := bk_dead_b (b := b) hck (xv C b 1)
    refine r_V1p (ci := 12) (pc' := 5) dX12_bestDay_2 rfl lX12_261 rfl (by decide) (Nat.le_of_ble_eq_true rfl) (by first | assumption | rfl) (by omega) (tX12_canCut (by assumption) (by assumption) (by assumption) (by first | omega | assumption)) ?_
    refine r_bif_ne (t := 10) (f := 8) dX12_bestDay_5 (by decide) rfl (fun h5 => ?_) (fun h5 => ?_)
    · refine r_aload_n (i := 0) (pc' := 11) dX12_bestDay_10 rfl rfl (.head _) ?_
      refine r_getR (pc' := 14) dX12_bestDay_11 rfl fX12_3 rfl (by first | assumption | rfl) (by omega) (by assumption) ?_
      refine r_iconst (pc' := 15) dX12_bestDay_14 rfl ?_
      refine r_iaload (pc' := 16) dX12_bestDay_15 rfl (by first | assumption | rfl) (by omega) (by omega) (by omega) (by first | decide | omega) (show Int.toNat 1 = 1 from rfl) ?_
      rw [hR.z 1 (by decide)]
      refine r_aload_n (i := 0) (pc' := 17) dX12_bestDay_16 rfl rfl (.head _) ?_
      refine r_getR (pc' := 20) dX12_bestDay_17 rfl fX12_3 rfl (by first | assumption | rfl) (by omega) (by assumption) ?_
      refine r_iconst (pc' := 21) dX12_bestDay_20 rfl ?_
      refine r_iaload (pc' := 22) dX12_bestDay_21 rfl (by first | assumption | rfl) (by omega) (by omega) (by omega) (by first | decide | omega) (show Int.toNat 2 = 2 from rfl) ?_
      rw [hR.z 2 (by decide)]
      refine r_icmp_ge (t := 54) (f := 25) dX12_bestDay_22 (by decide) rfl (by first | omega | exact xv_in _ _ _) (by first | omega | exact xv_in _ _ _) (fun h22 => ?_) (fun h22 => ?_)
      · refine r_iconst (pc' := 55) dX12_bestDay_54 rfl ?_
        refine r_ireturn dX12_bestDay_55 rfl ?_
        refine ⟨?_, rfl, rfl, rfl, rfl⟩
        unfold f_best
        try simp only [Int.toNat_natCast]
        (repeat' split) <;> first | rfl | (exfalso; omega) | (congr 3; omega)
      · refine r_aload_n (i := 0) (pc' := 26) dX12_bestDay_25 rfl rfl (.head _) ?_
        refine r_iload_n (i := 1) (pc' := 27) dX12_bestDay_26 rfl rfl (.tail _ (.head _)) ?_
        refine r_aload_n (i := 0) (pc' := 28) dX12_bestDay_27 rfl rfl (.head _) ?_
        refine r_getR (pc' := 31) dX12_bestDay_28 rfl fX12_3 rfl (by first | assumption | rfl) (by omega) (by assumption) ?_
        refine r_iconst (pc' := 32) dX12_bestDay_31 rfl ?_
        refine r_iaload (pc' := 33) dX12_bestDay_32 rfl (by first | assumption | rfl) (by omega) (by omega) (by omega) (by first | decide | omega) (show Int.toNat 2 = 2 from rfl) ?_
        rw [hR.z 2 (by decide)]
        refine r_V2p (ci := 12) (pc' := 36) dX12_bestDay_33 rfl lX12_218 rfl (by decide) (Nat.le_of_ble_eq_true rfl) (by first | assumption | rfl) (by omega) (tX12_deadNow (by assumption) (by assumption) (by assumption) (by assumption) (by first | omega | assumption)) ?_
        refine r_aload_n (i := 0) (pc' := 37) dX12_bestDay_36 rfl rfl (.head _) ?_
        refine r_iload_n (i := 1) (pc' := 38) dX12_bestDay_37 rfl rfl (.tail _ (.head _)) ?_
        refine r_aload_n (i := 0) (pc' := 39) dX12_bestDay_38 rfl rfl (.head _) ?_
        refine r_getR (pc' := 42) dX12_bestDay_39 rfl fX12_3 rfl (by first | assumption | rfl) (by omega) (by assumption) ?_
        refine r_iconst (pc' := 43) dX12_bestDay_42 rfl ?_
        refine r_iaload (pc' := 44) dX12_bestDay_43 rfl (by first | assumption | rfl) (by omega) (by omega) (by omega) (by first | decide | omega) (show Int.toNat 1 = 1 from rfl) ?_
        rw [hR.z 1 (by decide)]
        refine r_V2p (ci := 12) (pc' := 47) dX12_bestDay_44 rfl lX12_218 rfl (by decide) (Nat.le_of_ble_eq_true rfl) (by first | assumption | rfl) (by omega) (tX12_deadNow (by assumption) (by assumption) (by assumption) (by assumption) (by first | omega | assumption)) ?_
        refine r_icmp_ge (t := 54) (f := 50) dX12_bestDay_47 (by decide) rfl (by first | omega | exact xv_in _ _ _) (by first | omega | exact xv_in _ _ _) (fun h47 => ?_) (fun h47 => ?_)
        · refine r_iconst (pc' := 55) dX12_bestDay_54 rfl ?_
          refine r_ireturn dX12_bestDay_55 rfl ?_
          refine ⟨?_, rfl, rfl, rfl, rfl⟩
          unfold f_best
          try simp only [Int.toNat_natCast]
          (repeat' split) <;> first | rfl | (exfalso; omega) | (congr 3; omega)
        · refine r_iconst (pc' := 51) dX12_bestDay_50 rfl ?_
          refine r_goto (t := 55) dX12_bestDay_51 (by decide) ?_
          refine r_ireturn dX12_bestDay_55 rfl ?_
          refine ⟨?_, rfl, rfl, rfl, rfl⟩
          unfold f_best
          try simp only [Int.toNat_natCast]
          (repeat' split) <;> first | rfl | (exfalso; omega) | (congr 3; omega)
    · exfalso; omega
  · refine r_V1p (ci := 12) (pc' := 5) dX12_bestDay_2 rfl lX12_261 rfl (by decide) (Nat.le_of_ble_eq_true rfl) (by first | assumption | rfl) (by omega) (tX12_canCut (by assumption) (by assumption) (by assumption) (by first | omega | assumption)) ?_
    refine r_bif_ne (t := 10) (f := 8) dX12_bestDay_5 (by decide) rfl (fun h5 => ?_) (fun h5 => ?_)
    · exfalso; omega
    · refine r_iconst (pc' := 9) dX12_bestDay_8 rfl ?_
      refine r_ireturn dX12_bestDay_9 rfl ?_
      refine ⟨?_, rfl, rfl, rfl, rfl⟩
      unfold f_best
      try simp only [Int.toNat_natCast]
      (repeat' split) <;> first | rfl | (exfalso; omega) | (congr 3; omega)
set_option maxHeartbeats 4000000 in
set_option maxRecDepth 100000 in
theorem tX12_piece {l : Launch} {g : q_G} {n : Nat} {P : q_P} {X : q_X} {Y : q_Y} (hm : isMod n P) {C : q_X} {b : Nat} (hR : RB C b (xv X 468)) (hO : bOk C b) {k : Int} (hki : q_in k) {x i : Int} (hx : q_in x) (hi : q_in i) : q_Met l g mX12_piece 4 [.ref (g.1 + 467), .int (zi k), .int (zi x), .int (zi i)] n P X Y (q_pv (.int (zi (f_piece C b k x i))) n P X Y) := by
  obtain ⟨m0, m2, m3, m8, m9, m14, m15, m16, m17, m18, m20, m22, m25, hnm9⟩ := id hm
  obtain ⟨o0, o1, o2, o3, o4, o5, o6, o10, oc, op0, opz, opi, om0, omi, olim⟩ := id hO
  refine q_enter (L := [(0, .ref (g.1 + 467)), (1, .int (zi k)), (2, .int (zi x)), (3, .int (zi i))]) (by decide) (Nat.le_of_ble_eq_true rfl) rfl ?_
  refine r_aload_n (i := 0) (pc' := 1) dX12_piece_0 rfl rfl (.head _) ?_
  refine r_iload_n (i := 1) (pc' := 2) dX12_piece_1 rfl rfl (.tail _ (.head _)) ?_
  by_cases hk0 : bk_ref C b k = 0
  · have hk := bk_ref_has hk0
    obtain ⟨kn, rfl⟩ : ∃ kn : Nat, k = (kn : Int) := ⟨k.toNat, by omega⟩
    have hkk : (kn : Int) < xv C b 10 := hk.2
    have hck := hO.c hkk
    obtain ⟨hf, hf2, hf3, hf4, hfj, hfs, hfg⟩ := id hck
    have hlst : c_last C (con b kn) = xv C (con b kn) 0 + xv C (con b kn) 1 + xv C (con b kn) 2 - 1 := rfl
    refine r_V1p (ci := 12) (pc' := 5) dX12_piece_2 rfl lX12_261 rfl (by decide) (Nat.le_of_ble_eq_true rfl) (by first | assumption | rfl) (by omega) (tX12_canCut (by assumption) (by assumption) (by assumption) (by first | omega | assumption)) ?_
    refine r_bif_eq (t := 51) (f := 8) dX12_piece_5 (by decide) rfl (fun h5 => ?_) (fun h5 => ?_)
    · exfalso; omega
    · refine r_iload_n (i := 2) (pc' := 9) dX12_piece_8 rfl rfl (.tail _ (.tail _ (.head _))) ?_
      refine r_i2l (pc' := 10) dX12_piece_9 rfl rfl ?_
      refine r_lconst (pc' := 11) (z := 1) dX12_piece_10 rfl rfl ?_
      refine r_ldc2 (pc' := 14) dX12_piece_11 rfl kX12_287 ?_
      refine r_S3p (pc' := 17) dX12_piece_14 rfl lX12_68 (by decide) (Nat.le_of_ble_eq_true rfl) (tX12_isIn (by first | exact li_z (by omega) | exact li_z (xv_in _ _ _) | rfl) (by first | exact li_z (by omega) | exact li_z (xv_in _ _ _) | rfl) (by first | exact li_z (by omega) | exact li_z (xv_in _ _ _) | rfl)) ?_
      try simp only [i64_0, i64_1, i64_2, i64_3, i64_4, i64_5, i64_6, i64_7, i64_10, i64_19, i64_40, i64_100, i64_364, i64_9999, i64_99999, i64_999999, i64_m999999]
      refine r_bif_eq (t := 51) (f := 20) dX12_piece_17 (by decide) rfl (fun h17 => ?_) (fun h17 => ?_)
      · refine r_iconst (pc' := 52) dX12_piece_51 rfl ?_
        refine r_ireturn dX12_piece_52 rfl ?_
        refine ⟨?_, rfl, rfl, rfl, rfl⟩
        unfold f_piece
        try simp only [Int.toNat_natCast]
        (repeat' split) <;> first | rfl | (exfalso; omega) | (congr 3; omega)
      · refine r_iload_n (i := 3) (pc' := 21) dX12_piece_20 rfl rfl (.tail _ (.tail _ (.tail _ (.head _)))) ?_
        refine r_i2l (pc' := 22) dX12_piece_21 rfl rfl ?_
        refine r_lconst (pc' := 23) (z := 0) dX12_piece_22 rfl rfl ?_
        refine r_ldc2 (pc' := 26) dX12_piece_23 rfl kX12_292 ?_
        refine r_S3p (pc' := 29) dX12_piece_26 rfl lX12_68 (by decide) (Nat.le_of_ble_eq_true rfl) (tX12_isIn (by first | exact li_z (by omega) | exact li_z (xv_in _ _ _) | rfl) (by first | exact li_z (by omega) | exact li_z (xv_in _ _ _) | rfl) (by first | exact li_z (by omega) | exact li_z (xv_in _ _ _) | rfl)) ?_
        try simp only [i64_0, i64_1, i64_2, i64_3, i64_4, i64_5, i64_6, i64_7, i64_10, i64_19, i64_40, i64_100, i64_364, i64_9999, i64_99999, i64_999999, i64_m999999]
        refine r_bif_eq (t := 51) (f := 32) dX12_piece_29 (by decide) rfl (fun h29 => ?_) (fun h29 => ?_)
        · refine r_iconst (pc' := 52) dX12_piece_51 rfl ?_
          refine r_ireturn dX12_piece_52 rfl ?_
          refine ⟨?_, rfl, rfl, rfl, rfl⟩
          unfold f_piece
          try simp only [Int.toNat_natCast]
          (repeat' split) <;> first | rfl | (exfalso; omega) | (congr 3; omega)
        · refine r_iload_n (i := 2) (pc' := 33) dX12_piece_32 rfl rfl (.tail _ (.tail _ (.head _))) ?_
          refine r_aload_n (i := 0) (pc' := 34) dX12_piece_33 rfl rfl (.head _) ?_
          refine r_iload_n (i := 1) (pc' := 35) dX12_piece_34 rfl rfl (.tail _ (.head _)) ?_
          refine r_aload_n (i := 0) (pc' := 36) dX12_piece_35 rfl rfl (.head _) ?_
          refine r_getR (pc' := 39) dX12_piece_36 rfl fX12_3 rfl (by first | assumption | rfl) (by omega) (by assumption) ?_
          refine r_iconst (pc' := 40) dX12_piece_39 rfl ?_
          refine r_iaload (pc' := 41) dX12_piece_40 rfl (by first | assumption | rfl) (by omega) (by omega) (by omega) (by first | decide | omega) (show Int.toNat 0 = 0 from rfl) ?_
          rw [hR.z 0 (by decide)]
          refine r_V2p (ci := 12) (pc' := 44) dX12_piece_41 rfl lX12_125 rfl (by decide) (Nat.le_of_ble_eq_true rfl) (by first | assumption | rfl) (by omega) (tX12_partsFrom (by assumption) (by assumption) (by assumption) (by assumption) (by omega)) ?_
          refine r_iload_n (i := 3) (pc' := 45) dX12_piece_44 rfl rfl (.tail _ (.tail _ (.tail _ (.head _)))) ?_
          refine r_S3p (pc' := 48) dX12_piece_45 rfl lX12_128 (by decide) (Nat.le_of_ble_eq_true rfl) (tX12_pieceOf (by omega) (by omega) (by omega)) ?_
          refine r_goto (t := 52) dX12_piece_48 (by decide) ?_
          refine r_ireturn dX12_piece_52 rfl ?_
          refine ⟨?_, rfl, rfl, rfl, rfl⟩
          unfold f_piece
          try simp only [Int.toNat_natCast]
          (repeat' split) <;> first | rfl | (exfalso; omega) | (congr 3; omega)
  · refine r_V1p (ci := 12) (pc' := 5) dX12_piece_2 rfl lX12_261 rfl (by decide) (Nat.le_of_ble_eq_true rfl) (by first | assumption | rfl) (by omega) (tX12_canCut (by assumption) (by assumption) (by assumption) (by first | omega | assumption)) ?_
    refine r_bif_eq (t := 51) (f := 8) dX12_piece_5 (by decide) rfl (fun h5 => ?_) (fun h5 => ?_)
    · refine r_iconst (pc' := 52) dX12_piece_51 rfl ?_
      refine r_ireturn dX12_piece_52 rfl ?_
      refine ⟨?_, rfl, rfl, rfl, rfl⟩
      unfold f_piece
      try simp only [Int.toNat_natCast]
      (repeat' split) <;> first | rfl | (exfalso; omega) | (congr 3; omega)
    · exfalso; omega
set_option maxHeartbeats 4000000 in
set_option maxRecDepth 100000 in
theorem tX12_coins {l : Launch} {g : q_G} {n : Nat} {P : q_P} {X : q_X} {Y : q_Y} (hm : isMod n P) {C : q_X} {b : Nat} (hR : RB C b (xv X 468)) (hO : bOk C b) {k : Int} (hki : q_in k) {w : Int} (hw : q_in w) : q_Met l g mX12_coins 3 [.ref (g.1 + 467), .int (zi k), .int (zi w)] n P X Y (q_pv (.int (zi (f_coins C b k w))) n P X Y) := by
  obtain ⟨m0, m2, m3, m8, m9, m14, m15, m16, m17, m18, m20, m22, m25, hnm9⟩ := id hm
  obtain ⟨o0, o1, o2, o3, o4, o5, o6, o10, oc, op0, opz, opi, om0, omi, olim⟩ := id hO
  refine q_enter (L := [(0, .ref (g.1 + 467)), (1, .int (zi k)), (2, .int (zi w))]) (by decide) (Nat.le_of_ble_eq_true rfl) rfl ?_
  refine r_aload_n (i := 0) (pc' := 1) dX12_coins_0 rfl rfl (.head _) ?_
  refine r_iload_n (i := 1) (pc' := 2) dX12_coins_1 rfl rfl (.tail _ (.head _)) ?_
  by_cases hk : bk_has C b k
  · obtain ⟨kn, rfl⟩ : ∃ kn : Nat, k = (kn : Int) := ⟨k.toNat, by omega⟩
    have hkk : (kn : Int) < xv C b 10 := hk.2
    have hck := hO.c hkk
    obtain ⟨hf, hf2, hf3, hf4, hfj, hfs, hfg⟩ := id hck
    have hfz : c_from C (con b kn) 0 = c_from C (con b kn) (xv C (con b kn) 0) := by unfold c_from; rw [show max 0 (0 - xv C (con b kn) 0) = max 0 (xv C (con b kn) 0 - xv C (con b kn) 0) by omega]
    refine r_V1p (ci := 12) (pc' := 5) dX12_coins_2 rfl lX12_206 rfl (by decide) (Nat.le_of_ble_eq_true rfl) (by first | assumption | rfl) (by omega) (tX12_isContract (by assumption) (by assumption) (by assumption) (by omega)) ?_
    refine r_bif_eq (t := 20) (f := 8) dX12_coins_5 (by decide) rfl (fun h5 => ?_) (fun h5 => ?_)
    · exfalso; omega
    · refine r_iload_n (i := 2) (pc' := 9) dX12_coins_8 rfl rfl (.tail _ (.tail _ (.head _))) ?_
      refine r_i2l (pc' := 10) dX12_coins_9 rfl rfl ?_
      refine r_lconst (pc' := 11) (z := 0) dX12_coins_10 rfl rfl ?_
      refine r_ldc2 (pc' := 14) dX12_coins_11 rfl kX12_264 ?_
      refine r_S3p (pc' := 17) dX12_coins_14 rfl lX12_68 (by decide) (Nat.le_of_ble_eq_true rfl) (tX12_isIn (by first | exact li_z (by omega) | exact li_z (xv_in _ _ _) | rfl) (by first | exact li_z (by omega) | exact li_z (xv_in _ _ _) | rfl) (by first | exact li_z (by omega) | exact li_z (xv_in _ _ _) | rfl)) ?_
      try simp only [i64_0, i64_1, i64_2, i64_3, i64_4, i64_5, i64_6, i64_7, i64_10, i64_19, i64_40, i64_100, i64_364, i64_9999, i64_99999, i64_999999, i64_m999999]
      refine r_bif_ne (t := 22) (f := 20) dX12_coins_17 (by decide) rfl (fun h17 => ?_) (fun h17 => ?_)
      · refine r_aload_n (i := 0) (pc' := 23) dX12_coins_22 rfl rfl (.head _) ?_
        refine r_iload_n (i := 1) (pc' := 24) dX12_coins_23 rfl rfl (.tail _ (.head _)) ?_
        refine r_V1p (ci := 12) (pc' := 27) dX12_coins_24 rfl lX12_209 rfl (by decide) (Nat.le_of_ble_eq_true rfl) (by first | assumption | rfl) (by omega) (tX12_isOpen (by assumption) (by assumption) (by assumption) (by assumption)) ?_
        refine r_bif_eq (t := 41) (f := 30) dX12_coins_27 (by decide) rfl (fun h27 => ?_) (fun h27 => ?_)
        · refine r_aload_n (i := 0) (pc' := 42) dX12_coins_41 rfl rfl (.head _) ?_
          refine r_iload_n (i := 1) (pc' := 43) dX12_coins_42 rfl rfl (.tail _ (.head _)) ?_
          refine r_iconst (pc' := 44) dX12_coins_43 rfl ?_
          refine r_V2p (ci := 12) (pc' := 47) dX12_coins_44 rfl lX12_115 rfl (by decide) (Nat.le_of_ble_eq_true rfl) (by first | assumption | rfl) (by omega) (tO_5 hm hR hO (by first | assumption | omega)) ?_
          refine r_istore_n (i := 3) (pc' := 48) dX12_coins_47 rfl rfl rfl (.s1 (.s1 (.s1 .nil rfl rfl rfl) rfl rfl rfl) rfl rfl rfl) ?_
          refine r_aload_n (i := 0) (pc' := 49) dX12_coins_48 rfl rfl (.head _) ?_
          refine r_iload_n (i := 1) (pc' := 50) dX12_coins_49 rfl rfl (.tail _ (.head _)) ?_
          refine r_iload_n (i := 3) (pc' := 51) dX12_coins_50 rfl rfl (.tail _ (.tail _ (.tail _ (.head _)))) ?_
          refine r_V2p (ci := 12) (pc' := 54) dX12_coins_51 rfl lX12_212 rfl (by decide) (Nat.le_of_ble_eq_true rfl) (by first | assumption | rfl) (by omega) (tX12_partsBehind (by assumption) (by assumption) (by assumption) (by assumption) (by omega)) ?_
          refine r_istore (pc' := 56) dX12_coins_54 rfl rfl (.s1 (.s1 (.s1 (.s1 .nil rfl rfl rfl) rfl rfl rfl) rfl rfl rfl) rfl rfl rfl) ?_
          refine r_iload_n (i := 2) (pc' := 57) dX12_coins_56 rfl rfl (.tail _ (.tail _ (.head _))) ?_
          refine r_if_ne (t := 69) (f := 60) dX12_coins_57 (by decide) rfl (by first | omega | exact xv_in _ _ _) (fun h57 => ?_) (fun h57 => ?_)
          · refine r_iload_n (i := 2) (pc' := 70) dX12_coins_69 rfl rfl (.tail _ (.tail _ (.head _))) ?_
            refine r_iconst (pc' := 71) dX12_coins_70 rfl ?_
            refine r_icmp_ne (t := 86) (f := 74) dX12_coins_71 (by decide) rfl (by first | omega | exact xv_in _ _ _) (by first | omega | exact xv_in _ _ _) (fun h71 => ?_) (fun h71 => ?_)
            · refine r_iload_n (i := 2) (pc' := 87) dX12_coins_86 rfl rfl (.tail _ (.tail _ (.head _))) ?_
              refine r_iconst (pc' := 88) dX12_coins_87 rfl ?_
              refine r_icmp_ne (t := 95) (f := 91) dX12_coins_88 (by decide) rfl (by first | omega | exact xv_in _ _ _) (by first | omega | exact xv_in _ _ _) (fun h88 => ?_) (fun h88 => ?_)
              · refine r_iconst (pc' := 96) dX12_coins_95 rfl ?_
                refine r_aload_n (i := 0) (pc' := 97) dX12_coins_96 rfl rfl (.head _) ?_
                refine r_iload_n (i := 1) (pc' := 98) dX12_coins_97 rfl rfl (.tail _ (.head _)) ?_
                refine r_V1p (ci := 12) (pc' := 101) dX12_coins_98 rfl lX12_209 rfl (by decide) (Nat.le_of_ble_eq_true rfl) (by first | assumption | rfl) (by omega) (tX12_isOpen (by assumption) (by assumption) (by assumption) (by assumption)) ?_
                refine r_icmp_ne (t := 108) (f := 104) dX12_coins_101 (by decide) rfl (by first | omega | exact xv_in _ _ _) (by first | omega | exact xv_in _ _ _) (fun h101 => ?_) (fun h101 => ?_)
                · refine r_iload (pc' := 110) dX12_coins_108 rfl (.tail _ (.tail _ (.tail _ (.tail _ (.head _))))) ?_
                  refine r_ireturn dX12_coins_110 rfl ?_
                  refine ⟨?_, rfl, rfl, rfl, rfl⟩
                  unfold f_coins
                  try simp only [Int.toNat_natCast]
                  (repeat' split) <;> first | rfl | (exfalso; omega) | (congr 3; omega)
                · refine r_iconst (pc' := 105) dX12_coins_104 rfl ?_
                  refine r_goto (t := 110) dX12_coins_105 (by decide) ?_
                  refine r_ireturn dX12_coins_110 rfl ?_
                  refine ⟨?_, rfl, rfl, rfl, rfl⟩
                  unfold f_coins
                  try simp only [Int.toNat_natCast]
                  (repeat' split) <;> first | rfl | (exfalso; omega) | (congr 3; omega)
              · refine r_iconst (pc' := 92) dX12_coins_91 rfl ?_
                refine r_goto (t := 96) dX12_coins_92 (by decide) ?_
                refine r_aload_n (i := 0) (pc' := 97) dX12_coins_96 rfl rfl (.head _) ?_
                refine r_iload_n (i := 1) (pc' := 98) dX12_coins_97 rfl rfl (.tail _ (.head _)) ?_
                refine r_V1p (ci := 12) (pc' := 101) dX12_coins_98 rfl lX12_209 rfl (by decide) (Nat.le_of_ble_eq_true rfl) (by first | assumption | rfl) (by omega) (tX12_isOpen (by assumption) (by assumption) (by assumption) (by assumption)) ?_
                refine r_icmp_ne (t := 108) (f := 104) dX12_coins_101 (by decide) rfl (by first | omega | exact xv_in _ _ _) (by first | omega | exact xv_in _ _ _) (fun h101 => ?_) (fun h101 => ?_)
                · refine r_iload (pc' := 110) dX12_coins_108 rfl (.tail _ (.tail _ (.tail _ (.tail _ (.head _))))) ?_
                  refine r_ireturn dX12_coins_110 rfl ?_
                  refine ⟨?_, rfl, rfl, rfl, rfl⟩
                  unfold f_coins
                  try simp only [Int.toNat_natCast]
                  (repeat' split) <;> first | rfl | (exfalso; omega) | (congr 3; omega)
                · refine r_iconst (pc' := 105) dX12_coins_104 rfl ?_
                  refine r_goto (t := 110) dX12_coins_105 (by decide) ?_
                  refine r_ireturn dX12_coins_110 rfl ?_
                  refine ⟨?_, rfl, rfl, rfl, rfl⟩
                  unfold f_coins
                  try simp only [Int.toNat_natCast]
                  (repeat' split) <;> first | rfl | (exfalso; omega) | (congr 3; omega)
            · refine r_aload_n (i := 0) (pc' := 75) dX12_coins_74 rfl rfl (.head _) ?_
              refine r_iload_n (i := 1) (pc' := 76) dX12_coins_75 rfl rfl (.tail _ (.head _)) ?_
              refine r_iconst (pc' := 77) dX12_coins_76 rfl ?_
              refine r_V2p (ci := 12) (pc' := 80) dX12_coins_77 rfl lX12_212 rfl (by decide) (Nat.le_of_ble_eq_true rfl) (by first | assumption | rfl) (by omega) (tX12_partsBehind (by assumption) (by assumption) (by assumption) (by assumption) (by omega)) ?_
              rw [hfz]
              refine r_iload (pc' := 82) dX12_coins_80 rfl (.tail _ (.tail _ (.tail _ (.tail _ (.head _))))) ?_
              refine r_isub (pc' := 83) dX12_coins_82 rfl ?_
              refine r_goto (t := 110) dX12_coins_83 (by decide) ?_
              refine r_ireturn dX12_coins_110 rfl ?_
              refine ⟨?_, rfl, rfl, rfl, rfl⟩
              unfold f_coins
              try simp only [Int.toNat_natCast]
              (repeat' split) <;> first | rfl | (exfalso; omega) | (congr 3; omega)
          · refine r_aload_n (i := 0) (pc' := 61) dX12_coins_60 rfl rfl (.head _) ?_
            refine r_iload_n (i := 1) (pc' := 62) dX12_coins_61 rfl rfl (.tail _ (.head _)) ?_
            refine r_iconst (pc' := 63) dX12_coins_62 rfl ?_
            refine r_V2p (ci := 12) (pc' := 66) dX12_coins_63 rfl lX12_212 rfl (by decide) (Nat.le_of_ble_eq_true rfl) (by first | assumption | rfl) (by omega) (tX12_partsBehind (by assumption) (by assumption) (by assumption) (by assumption) (by omega)) ?_
            rw [hfz]
            refine r_goto (t := 110) dX12_coins_66 (by decide) ?_
            refine r_ireturn dX12_coins_110 rfl ?_
            refine ⟨?_, rfl, rfl, rfl, rfl⟩
            unfold f_coins
            try simp only [Int.toNat_natCast]
            (repeat' split) <;> first | rfl | (exfalso; omega) | (congr 3; omega)
        · refine r_aload_n (i := 0) (pc' := 31) dX12_coins_30 rfl rfl (.head _) ?_
          refine r_getR (pc' := 34) dX12_coins_31 rfl fX12_3 rfl (by first | assumption | rfl) (by omega) (by assumption) ?_
          refine r_iconst (pc' := 35) dX12_coins_34 rfl ?_
          refine r_iaload (pc' := 36) dX12_coins_35 rfl (by first | assumption | rfl) (by omega) (by omega) (by omega) (by first | decide | omega) (show Int.toNat 0 = 0 from rfl) ?_
          rw [hR.z 0 (by decide)]
          refine r_iconst (pc' := 37) dX12_coins_36 rfl ?_
          refine r_iadd (pc' := 38) dX12_coins_37 rfl ?_
          refine r_goto (t := 47) dX12_coins_38 (by decide) ?_
          refine r_istore_n (i := 3) (pc' := 48) dX12_coins_47 rfl rfl rfl (.s1 (.s1 (.s1 .nil rfl rfl rfl) rfl rfl rfl) rfl rfl rfl) ?_
          refine r_aload_n (i := 0) (pc' := 49) dX12_coins_48 rfl rfl (.head _) ?_
          refine r_iload_n (i := 1) (pc' := 50) dX12_coins_49 rfl rfl (.tail _ (.head _)) ?_
          refine r_iload_n (i := 3) (pc' := 51) dX12_coins_50 rfl rfl (.tail _ (.tail _ (.tail _ (.head _)))) ?_
          refine r_V2p (ci := 12) (pc' := 54) dX12_coins_51 rfl lX12_212 rfl (by decide) (Nat.le_of_ble_eq_true rfl) (by first | assumption | rfl) (by omega) (tX12_partsBehind (by assumption) (by assumption) (by assumption) (by assumption) (by omega)) ?_
          refine r_istore (pc' := 56) dX12_coins_54 rfl rfl (.s1 (.s1 (.s1 (.s1 .nil rfl rfl rfl) rfl rfl rfl) rfl rfl rfl) rfl rfl rfl) ?_
          refine r_iload_n (i := 2) (pc' := 57) dX12_coins_56 rfl rfl (.tail _ (.tail _ (.head _))) ?_
          refine r_if_ne (t := 69) (f := 60) dX12_coins_57 (by decide) rfl (by first | omega | exact xv_in _ _ _) (fun h57 => ?_) (fun h57 => ?_)
          · refine r_iload_n (i := 2) (pc' := 70) dX12_coins_69 rfl rfl (.tail _ (.tail _ (.head _))) ?_
            refine r_iconst (pc' := 71) dX12_coins_70 rfl ?_
            refine r_icmp_ne (t := 86) (f := 74) dX12_coins_71 (by decide) rfl (by first | omega | exact xv_in _ _ _) (by first | omega | exact xv_in _ _ _) (fun h71 => ?_) (fun h71 => ?_)
            · refine r_iload_n (i := 2) (pc' := 87) dX12_coins_86 rfl rfl (.tail _ (.tail _ (.head _))) ?_
              refine r_iconst (pc' := 88) dX12_coins_87 rfl ?_
              refine r_icmp_ne (t := 95) (f := 91) dX12_coins_88 (by decide) rfl (by first | omega | exact xv_in _ _ _) (by first | omega | exact xv_in _ _ _) (fun h88 => ?_) (fun h88 => ?_)
              · refine r_iconst (pc' := 96) dX12_coins_95 rfl ?_
                refine r_aload_n (i := 0) (pc' := 97) dX12_coins_96 rfl rfl (.head _) ?_
                refine r_iload_n (i := 1) (pc' := 98) dX12_coins_97 rfl rfl (.tail _ (.head _)) ?_
                refine r_V1p (ci := 12) (pc' := 101) dX12_coins_98 rfl lX12_209 rfl (by decide) (Nat.le_of_ble_eq_true rfl) (by first | assumption | rfl) (by omega) (tX12_isOpen (by assumption) (by assumption) (by assumption) (by assumption)) ?_
                refine r_icmp_ne (t := 108) (f := 104) dX12_coins_101 (by decide) rfl (by first | omega | exact xv_in _ _ _) (by first | omega | exact xv_in _ _ _) (fun h101 => ?_) (fun h101 => ?_)
                · refine r_iload (pc' := 110) dX12_coins_108 rfl (.tail _ (.tail _ (.tail _ (.tail _ (.head _))))) ?_
                  refine r_ireturn dX12_coins_110 rfl ?_
                  refine ⟨?_, rfl, rfl, rfl, rfl⟩
                  unfold f_coins
                  try simp only [Int.toNat_natCast]
                  (repeat' split) <;> first | rfl | (exfalso; omega) | (congr 3; omega)
                · refine r_iconst (pc' := 105) dX12_coins_104 rfl ?_
                  refine r_goto (t := 110) dX12_coins_105 (by decide) ?_
                  refine r_ireturn dX12_coins_110 rfl ?_
                  refine ⟨?_, rfl, rfl, rfl, rfl⟩
                  unfold f_coins
                  try simp only [Int.toNat_natCast]
                  (repeat' split) <;> first | rfl | (exfalso; omega) | (congr 3; omega)
              · refine r_iconst (pc' := 92) dX12_coins_91 rfl ?_
                refine r_goto (t := 96) dX12_coins_92 (by decide) ?_
                refine r_aload_n (i := 0) (pc' := 97) dX12_coins_96 rfl rfl (.head _) ?_
                refine r_iload_n (i := 1) (pc' := 98) dX12_coins_97 rfl rfl (.tail _ (.head _)) ?_
                refine r_V1p (ci := 12) (pc' := 101) dX12_coins_98 rfl lX12_209 rfl (by decide) (Nat.le_of_ble_eq_true rfl) (by first | assumption | rfl) (by omega) (tX12_isOpen (by assumption) (by assumption) (by assumption) (by assumption)) ?_
                refine r_icmp_ne (t := 108) (f := 104) dX12_coins_101 (by decide) rfl (by first | omega | exact xv_in _ _ _) (by first | omega | exact xv_in _ _ _) (fun h101 => ?_) (fun h101 => ?_)
                · refine r_iload (pc' := 110) dX12_coins_108 rfl (.tail _ (.tail _ (.tail _ (.tail _ (.head _))))) ?_
                  refine r_ireturn dX12_coins_110 rfl ?_
                  refine ⟨?_, rfl, rfl, rfl, rfl⟩
                  unfold f_coins
                  try simp only [Int.toNat_natCast]
                  (repeat' split) <;> first | rfl | (exfalso; omega) | (congr 3; omega)
                · refine r_iconst (pc' := 105) dX12_coins_104 rfl ?_
                  refine r_goto (t := 110) dX12_coins_105 (by decide) ?_
                  refine r_ireturn dX12_coins_110 rfl ?_
                  refine ⟨?_, rfl, rfl, rfl, rfl⟩
                  unfold f_coins
                  try simp only [Int.toNat_natCast]
                  (repeat' split) <;> first | rfl | (exfalso; omega) | (congr 3; omega)
            · refine r_aload_n (i := 0) (pc' := 75) dX12_coins_74 rfl rfl (.head _) ?_
              refine r_iload_n (i := 1) (pc' := 76) dX12_coins_75 rfl rfl (.tail _ (.head _)) ?_
              refine r_iconst (pc' := 77) dX12_coins_76 rfl ?_
              refine r_V2p (ci := 12) (pc' := 80) dX12_coins_77 rfl lX12_212 rfl (by decide) (Nat.le_of_ble_eq_true rfl) (by first | assumption | rfl) (by omega) (tX12_partsBehind (by assumption) (by assumption) (by assumption) (by assumption) (by omega)) ?_
              rw [hfz]
              refine r_iload (pc' := 82) dX12_coins_80 rfl (.tail _ (.tail _ (.tail _ (.tail _ (.head _))))) ?_
              refine r_isub (pc' := 83) dX12_coins_82 rfl ?_
              refine r_goto (t := 110) dX12_coins_83 (by decide) ?_
              refine r_ireturn dX12_coins_110 rfl ?_
              refine ⟨?_, rfl, rfl, rfl, rfl⟩
              unfold f_coins
              try simp only [Int.toNat_natCast]
              (repeat' split) <;> first | rfl | (exfalso; omega) | (congr 3; omega)
          · refine r_aload_n (i := 0) (pc' := 61) dX12_coins_60 rfl rfl (.head _) ?_
            refine r_iload_n (i := 1) (pc' := 62) dX12_coins_61 rfl rfl (.tail _ (.head _)) ?_
            refine r_iconst (pc' := 63) dX12_coins_62 rfl ?_
            refine r_V2p (ci := 12) (pc' := 66) dX12_coins_63 rfl lX12_212 rfl (by decide) (Nat.le_of_ble_eq_true rfl) (by first | assumption | rfl) (by omega) (tX12_partsBehind (by assumption) (by assumption) (by assumption) (by assumption) (by omega)) ?_
            rw [hfz]
            refine r_goto (t := 110) dX12_coins_66 (by decide) ?_
            refine r_ireturn dX12_coins_110 rfl ?_
            refine ⟨?_, rfl, rfl, rfl, rfl⟩
            unfold f_coins
            try simp only [Int.toNat_natCast]
            (repeat' split) <;> first | rfl | (exfalso; omega) | (congr 3; omega)
      · refine r_iconst (pc' := 21) dX12_coins_20 rfl ?_
        refine r_ireturn dX12_coins_21 rfl ?_
        refine ⟨?_, rfl, rfl, rfl, rfl⟩
        unfold f_coins
        try simp only [Int.toNat_natCast]
        (repeat' split) <;> first | rfl | (exfalso; omega) | (congr 3; omega)
  · refine r_V1p (ci := 12) (pc' := 5) dX12_coins_2 rfl lX12_206 rfl (by decide) (Nat.le_of_ble_eq_true rfl) (by first | assumption | rfl) (by omega) (tX12_isContract (by assumption) (by assumption) (by assumption) (by omega)) ?_
    refine r_bif_eq (t := 20) (f := 8) dX12_coins_5 (by decide) rfl (fun h5 => ?_) (fun h5 => ?_)
    · refine r_iconst (pc' := 21) dX12_coins_20 rfl ?_
      refine r_ireturn dX12_coins_21 rfl ?_
      refine ⟨?_, rfl, rfl, rfl, rfl⟩
      unfold f_coins
      try simp only [Int.toNat_natCast]
      (repeat' split) <;> first | rfl | (exfalso; omega) | (congr 3; omega)
    · exfalso; omega
