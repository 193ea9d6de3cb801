theorem bit_lt {s i m : Nat} (h : p_bit s i) (hs : s < 2 ^ m) : i < m := by
  apply Classical.byContradiction
  intro q
  have h1 : 2 ^ m ≤ 2 ^ i := Nat.pow_le_pow_right (n := 2) (by omega) (by omega)
  unfold p_bit at h
  rw [Nat.div_eq_of_lt (by omega)] at h
  omega
theorem p_sumS_10 {f : Nat → Int} {s m : Nat} (hm : m ≤ 10) (hs : s < 2 ^ m) : p_sumS f s 10 = p_sumS f s m := by
  unfold p_sumS
  have e := q_sum_add (fun i => if p_bit s i then f i else 0) m (10 - m) 0
  rw [show m + (10 - m) = 10 by omega] at e
  rw [e, q_sum_0 (10 - m) (0 + m) (fun i hi _ => if_neg (fun q => by have := bit_lt q hs; omega))]; omega
theorem ch_off_d {C : q_X} {b m : Nat} {room : Int} (hO : bOk C b) (hm : (m : Int) = min 10 (xv C (b + 10) 0)) : ∀ s, 0 ≤ (ch_off C b m room s).1 ∧ (ch_off C b m room s).1 ≤ 99990
  | 0 => by simp [ch_off]
  | s + 1 => by
    have h1 := ch_off_d (room := room) hO hm s
    have hw := p_sumS_b (f := xv C (b + 11)) (s := s + 1) (m := m) (B := 9999) (fun i hi => by have := hO.2.2.2.2.2.2.2.2.2.2.2.2.2.1 i (by omega); omega)
    rw [ch_off]
    split
    · exact ⟨hw.1, by omega⟩
    · exact h1
set_option maxHeartbeats 4000000 in
set_option maxRecDepth 100000 in
theorem l1X12_buys {l : Launch} {g : q_G} {n : Nat} {P : q_P} {X : q_X} {Y : q_Y} (hm : isMod n P) {C : q_X} {b : Nat} (hR : RB C b (xv X 468)) (hO : bOk C b) {K : q_K} {v room bt mo ht : Int} {s m : Nat} (hm10 : (m : Int) = min 10 (xv C (b + 10) 0)) (hs : s < 2 ^ m) (hs2 : s < 10000) {a1 a2 : Int} (kk : q_Tr l g mX12_buys 7 K 120 [(0, .ref (g.1 + 467)), (1, .int (zi v)), (2, .int (zi room)), (3, .int (zi bt)), (4, .int (zi mo)), (5, .int (zi ht)), (6, .int (zi (s : Int))), (7, .int (zi a1)), (8, .int (zi a2))] [] n P X Y) : ∀ (w i : Nat) (x y : Int), i + w = 10 → x + q_sum (fun i => if p_bit s i then xv C (b + 11) i else 0) i w = a1 → y + q_sum (fun i => if p_bit s i then of_hit C b i else 0) i w = a2 → q_Tr l g mX12_buys 7 K 65 [(0, .ref (g.1 + 467)), (1, .int (zi v)), (2, .int (zi room)), (3, .int (zi bt)), (4, .int (zi mo)), (5, .int (zi ht)), (6, .int (zi (s : Int))), (7, .int (zi x)), (8, .int (zi y)), (9, .int (zi (i : Int)))] [] n P X Y := by
  obtain ⟨m0, m2, m3, m8, m9, m14, m15, m16, m17, m18, m20, m22, m25, hnm9⟩ := id hm
  obtain ⟨o0, o1, o2, o3, o4, o5, o6, o10, oc, op0, opz, opi, om0, omi, olim⟩ := id hO
  intro w
  induction w with
  | zero =>
    intro i x y hi h1 h2
    refine r_iload (pc' := 67) dX12_buys_65 rfl (.tail _ (.tail _ (.tail _ (.tail _ (.tail _ (.tail _ (.tail _ (.tail _ (.tail _ (.head _)))))))))) ?_
    refine r_bipush (pc' := 69) dX12_buys_67 rfl (by decide) ?_
    refine r_icmp_ge (t := 120) (f := 72) dX12_buys_69 (by decide) rfl (by first | omega | exact xv_in _ _ _) (by first | omega | exact xv_in _ _ _) (fun h69 => ?_) (fun h69 => ?_)
    · refine r_sub (.kp (.kp (.kp (.kp (.kp (.kp (.kp (.kp (.kp (.dr .nil)))))))))) ?_
      rw [show x = a1 by rw [← h1]; simp [q_sum], show y = a2 by rw [← h2]; simp [q_sum]]
      exact kk
    · exfalso; omega
  | succ w ih =>
    intro i x y hi h1 h2
    rw [q_sum] at h1 h2
    refine r_iload (pc' := 67) dX12_buys_65 rfl (.tail _ (.tail _ (.tail _ (.tail _ (.tail _ (.tail _ (.tail _ (.tail _ (.tail _ (.head _)))))))))) ?_
    refine r_bipush (pc' := 69) dX12_buys_67 rfl (by decide) ?_
    refine r_icmp_ge (t := 120) (f := 72) dX12_buys_69 (by decide) rfl (by first | omega | exact xv_in _ _ _) (by first | omega | exact xv_in _ _ _) (fun h69 => ?_) (fun h69 => ?_)
    · exfalso; omega
    · by_cases hbi : p_bit s i
      · have hio : (i : Int) < xv C (b + 10) 0 := by have := bit_lt hbi hs; omega
        obtain ⟨hq1, hq2, hq3, hq4⟩ := hR.off hio
        rw [if_pos hbi] at h1 h2
        have hbi2 : s / 2 ^ i % 2 = 1 := hbi
        refine r_iload (pc' := 74) dX12_buys_72 rfl (.tail _ (.tail _ (.tail _ (.tail _ (.tail _ (.tail _ (.head _))))))) ?_
        refine r_iload (pc' := 76) dX12_buys_74 rfl (.tail _ (.tail _ (.tail _ (.tail _ (.tail _ (.tail _ (.tail _ (.tail _ (.tail _ (.head _)))))))))) ?_
        refine r_ishr (pc' := 77) dX12_buys_76 rfl (p_shr (by omega) (by omega)) ?_
        refine r_iconst (pc' := 78) dX12_buys_77 rfl ?_
        refine r_iand (pc' := 79) dX12_buys_78 rfl (p_and1 _) ?_
        refine r_if_ne (t := 85) (f := 82) dX12_buys_79 (by decide) rfl (by first | omega | exact xv_in _ _ _) (fun h79 => ?_) (fun h79 => ?_)
        · refine r_iload (pc' := 87) dX12_buys_85 rfl (.tail _ (.tail _ (.tail _ (.tail _ (.tail _ (.tail _ (.tail _ (.head _)))))))) ?_
          refine r_aload_n (i := 0) (pc' := 88) dX12_buys_87 rfl rfl (.head _) ?_
          refine r_getR (pc' := 91) dX12_buys_88 rfl fX12_3 rfl (by first | assumption | rfl) (by omega) (by assumption) ?_
          refine r_sipush (pc' := 94) dX12_buys_91 rfl (by decide) ?_
          refine r_iconst (pc' := 95) dX12_buys_94 rfl ?_
          refine r_iload (pc' := 97) dX12_buys_95 rfl (.tail _ (.tail _ (.tail _ (.tail _ (.tail _ (.tail _ (.tail _ (.tail _ (.tail _ (.head _)))))))))) ?_
          refine r_imul (pc' := 98) dX12_buys_97 rfl ?_
          refine r_iadd (pc' := 99) dX12_buys_98 rfl ?_
          refine r_iaload (pc' := 100) dX12_buys_99 rfl (by first | assumption | rfl) (by omega) (by omega) (by omega) (by first | decide | omega) (show (3572 + 4 * (i : Int)).toNat = 3572 + 4 * i by omega) ?_
          rw [hq1]
          refine r_iadd (pc' := 101) dX12_buys_100 rfl ?_
          refine r_istore (pc' := 103) dX12_buys_101 rfl rfl (.s1 (.s1 (.s1 (.s1 (.s1 (.s1 (.s1 (.here (.s1 (.s1 .nil rfl rfl rfl) rfl rfl rfl)) rfl rfl rfl) rfl rfl rfl) rfl rfl rfl) rfl rfl rfl) rfl rfl rfl) rfl rfl rfl) rfl rfl rfl) ?_
          refine r_iload (pc' := 105) dX12_buys_103 rfl (.tail _ (.tail _ (.tail _ (.tail _ (.tail _ (.tail _ (.tail _ (.tail _ (.head _))))))))) ?_
          refine r_aload_n (i := 0) (pc' := 106) dX12_buys_105 rfl rfl (.head _) ?_
          refine r_iload (pc' := 108) dX12_buys_106 rfl (.tail _ (.tail _ (.tail _ (.tail _ (.tail _ (.tail _ (.tail _ (.tail _ (.tail _ (.head _)))))))))) ?_
          refine r_V1p (ci := 12) (pc' := 111) dX12_buys_108 rfl lX12_297 rfl (by decide) (Nat.le_of_ble_eq_true rfl) (by first | assumption | rfl) (by omega) (tX12_hitOfOffer hm hR hO hio) ?_
          rw [← of_hit]
          refine r_iadd (pc' := 112) dX12_buys_111 rfl ?_
          refine r_istore (pc' := 114) dX12_buys_112 rfl rfl (.s1 (.s1 (.s1 (.s1 (.s1 (.s1 (.s1 (.s1 (.here (.s1 .nil rfl rfl rfl)) rfl rfl rfl) rfl rfl rfl) rfl rfl rfl) rfl rfl rfl) rfl rfl rfl) rfl rfl rfl) rfl rfl rfl) rfl rfl rfl) ?_
          refine r_iinc (pc' := 117) dX12_buys_114 rfl rfl (.tail _ (.tail _ (.tail _ (.tail _ (.tail _ (.tail _ (.tail _ (.tail _ (.tail _ (.head _)))))))))) (.s1 (.s1 (.s1 (.s1 (.s1 (.s1 (.s1 (.s1 (.s1 (.here .nil) rfl rfl rfl) rfl rfl rfl) rfl rfl rfl) rfl rfl rfl) rfl rfl rfl) rfl rfl rfl) rfl rfl rfl) rfl rfl rfl) rfl rfl rfl) ?_
          refine r_goto (t := 65) dX12_buys_117 (by decide) ?_
          exact ih (i + 1) _ _ (by omega) (by omega) (by omega)
        · exfalso; omega
      · rw [if_neg hbi] at h1 h2
        have hbi2 : ¬ s / 2 ^ i % 2 = 1 := hbi
        refine r_iload (pc' := 74) dX12_buys_72 rfl (.tail _ (.tail _ (.tail _ (.tail _ (.tail _ (.tail _ (.head _))))))) ?_
        refine r_iload (pc' := 76) dX12_buys_74 rfl (.tail _ (.tail _ (.tail _ (.tail _ (.tail _ (.tail _ (.tail _ (.tail _ (.tail _ (.head _)))))))))) ?_
        refine r_ishr (pc' := 77) dX12_buys_76 rfl (p_shr (by omega) (by omega)) ?_
        refine r_iconst (pc' := 78) dX12_buys_77 rfl ?_
        refine r_iand (pc' := 79) dX12_buys_78 rfl (p_and1 _) ?_
        refine r_if_ne (t := 85) (f := 82) dX12_buys_79 (by decide) rfl (by first | omega | exact xv_in _ _ _) (fun h79 => ?_) (fun h79 => ?_)
        · exfalso; omega
        · refine r_goto (t := 114) dX12_buys_82 (by decide) ?_
          refine r_iinc (pc' := 117) dX12_buys_114 rfl rfl (.tail _ (.tail _ (.tail _ (.tail _ (.tail _ (.tail _ (.tail _ (.tail _ (.tail _ (.head _)))))))))) (.s1 (.s1 (.s1 (.s1 (.s1 (.s1 (.s1 (.s1 (.s1 (.here .nil) rfl rfl rfl) rfl rfl rfl) rfl rfl rfl) rfl rfl rfl) rfl rfl rfl) rfl rfl rfl) rfl rfl rfl) rfl rfl rfl) rfl rfl rfl) ?_
          refine r_goto (t := 65) dX12_buys_117 (by decide) ?_
          exact ih (i + 1) _ _ (by omega) (by omega) (by omega)
set_option maxHeartbeats 4000000 in
set_option maxRecDepth 100000 in
theorem lX12_buys {l : Launch} {g : q_G} {n : Nat} {P : q_P} {X : q_X} {Y : q_Y} (hm : isMod n P) {C : q_X} {b : Nat} (hR : RB C b (xv X 468)) (hO : bOk C b) {m : Nat} (hm10 : (m : Int) = min 10 (xv C (b + 10) 0)) {v room : Int} (hro : q_in room) (hv : 0 ≤ v ∧ v ≤ 2) {X0 : q_X} (ho : hOut X0 X) {Z : Nat} (hZe : 2 ^ m = Z) : ∀ (w s : Nat), s + 1 + w = Z → q_Tr l g mX12_buys 7 (q_gi (fun r' n' P' X' Y' => n' = n ∧ P' = P ∧ Y' = Y ∧ hOut X0 X' ∧ r' = (if v = 0 then (ch_off C b m room (Z - 1)).1 else if v = 1 then ((ch_off C b m room (Z - 1)).2.1 : Int) else (ch_off C b m room (Z - 1)).2.2))) 36 [(0, .ref (g.1 + 467)), (1, .int (zi v)), (2, .int (zi room)), (3, .int (zi ((ch_off C b m room s).2.1 : Int))), (4, .int (zi (ch_off C b m room s).1)), (5, .int (zi (ch_off C b m room s).2.2)), (6, .int (zi ((s + 1 : Nat) : Int)))] [] n P X Y := by
  obtain ⟨m0, m2, m3, m8, m9, m14, m15, m16, m17, m18, m20, m22, m25, hnm9⟩ := id hm
  obtain ⟨o0, o1, o2, o3, o4, o5, o6, o10, oc, op0, opz, opi, om0, omi, olim⟩ := id hO
  have hZ : 2 ^ m ≤ 1024 := Nat.pow_le_pow_right (n := 2) (by omega) (show m ≤ 10 by omega)
  have hpw : (2 : Int) ^ m = (Z : Int) := by rw [← hZe, Int.natCast_pow]; rfl
  rw [hZe] at hZ
  intro w
  induction w with
  | zero =>
    intro s hi
    refine r_iload (pc' := 38) dX12_buys_36 rfl (.tail _ (.tail _ (.tail _ (.tail _ (.tail _ (.tail _ (.head _))))))) ?_
    refine r_iconst (pc' := 39) dX12_buys_38 rfl ?_
    refine r_bipush (pc' := 41) dX12_buys_39 rfl (by decide) ?_
    refine r_aload_n (i := 0) (pc' := 42) dX12_buys_41 rfl rfl (.head _) ?_
    refine r_getR (pc' := 45) dX12_buys_42 rfl fX12_3 rfl (by first | assumption | rfl) (by omega) (by assumption) ?_
    refine r_sipush (pc' := 48) dX12_buys_45 rfl (by decide) ?_
    refine r_iaload (pc' := 49) dX12_buys_48 rfl (by first | assumption | rfl) (by omega) (by omega) (by omega) (by first | decide | omega) (show Int.toNat 3570 = 3570 from rfl) ?_
    rw [hR.om]
    refine r_S2p (pc' := 52) dX12_buys_49 rfl lX12_122 (by decide) (Nat.le_of_ble_eq_true rfl) (tX12_lesser (by omega) (by omega)) ?_
    rw [← hm10]
    refine r_ishl (pc' := 53) dX12_buys_52 rfl (zi_shl1 m (by omega)) ?_
    rw [hpw]
    refine r_icmp_ge (t := 172) (f := 56) dX12_buys_53 (by decide) rfl (by first | omega | exact xv_in _ _ _) (by first | omega | exact xv_in _ _ _) (fun h53 => ?_) (fun h53 => ?_)
    · refine r_iload_n (i := 1) (pc' := 173) dX12_buys_172 rfl rfl (.tail _ (.head _)) ?_
      refine r_if_ne (t := 181) (f := 176) dX12_buys_173 (by decide) rfl (by first | omega | exact xv_in _ _ _) (fun h173 => ?_) (fun h173 => ?_)
      · refine r_iload_n (i := 1) (pc' := 182) dX12_buys_181 rfl rfl (.tail _ (.head _)) ?_
        refine r_iconst (pc' := 183) dX12_buys_182 rfl ?_
        refine r_icmp_ne (t := 190) (f := 186) dX12_buys_183 (by decide) rfl (by first | omega | exact xv_in _ _ _) (by first | omega | exact xv_in _ _ _) (fun h183 => ?_) (fun h183 => ?_)
        · refine r_iload (pc' := 192) dX12_buys_190 rfl (.tail _ (.tail _ (.tail _ (.tail _ (.tail _ (.head _)))))) ?_
          refine r_ireturn dX12_buys_192 rfl ?_
          refine ⟨_, rfl, rfl, rfl, rfl, ho, ?_⟩
          rw [show Z - 1 = s by omega]
          first
            | (rw [if_pos (by omega)]; done)
            | (rw [if_neg (by omega), if_pos (by omega)]; done)
            | (rw [if_neg (by omega), if_neg (by omega)]; done)
        · refine r_iload_n (i := 3) (pc' := 187) dX12_buys_186 rfl rfl (.tail _ (.tail _ (.tail _ (.head _)))) ?_
          refine r_goto (t := 192) dX12_buys_187 (by decide) ?_
          refine r_ireturn dX12_buys_192 rfl ?_
          refine ⟨_, rfl, rfl, rfl, rfl, ho, ?_⟩
          rw [show Z - 1 = s by omega]
          first
            | (rw [if_pos (by omega)]; done)
            | (rw [if_neg (by omega), if_pos (by omega)]; done)
            | (rw [if_neg (by omega), if_neg (by omega)]; done)
      · refine r_iload (pc' := 178) dX12_buys_176 rfl (.tail _ (.tail _ (.tail _ (.tail _ (.head _))))) ?_
        refine r_goto (t := 192) dX12_buys_178 (by decide) ?_
        refine r_ireturn dX12_buys_192 rfl ?_
        refine ⟨_, rfl, rfl, rfl, rfl, ho, ?_⟩
        rw [show Z - 1 = s by omega]
        first
          | (rw [if_pos (by omega)]; done)
          | (rw [if_neg (by omega), if_pos (by omega)]; done)
          | (rw [if_neg (by omega), if_neg (by omega)]; done)
    · exfalso; omega
  | succ w ih =>
    intro s hi
    have ih := ih (s + 1) (by omega)
    have hw := p_sumS_b (f := xv C (b + 11)) (s := s + 1) (m := m) (B := 9999) (fun i hi => by have := omi i (by omega); omega)
    have hp := p_sumS_b (f := of_hit C b) (s := s + 1) (m := m) (B := 199998) (fun i hi => of_hit_b hO (by omega))
    have hcb := ch_off_d hO (room := room) hm10 s
    have hob := ch_off_b C b m room s
    have b1 := p_pop_b (s + 1)
    have b2 := p_pop_b (ch_off C b m room s).2.1
    have s1 := p_sumS_10 (f := xv C (b + 11)) (s := s + 1) (m := m) (by omega) (by omega)
    have s2 := p_sumS_10 (f := of_hit C b) (s := s + 1) (m := m) (by omega) (by omega)
    have hcs := ch_off.eq_2 C b m room s
    generalize hS1 : p_sumS (xv C (b + 11)) (s + 1) m = mu at *
    generalize hS2 : p_sumS (of_hit C b) (s + 1) m = pr at *
    refine r_iload (pc' := 38) dX12_buys_36 rfl (.tail _ (.tail _ (.tail _ (.tail _ (.tail _ (.tail _ (.head _))))))) ?_
    refine r_iconst (pc' := 39) dX12_buys_38 rfl ?_
    refine r_bipush (pc' := 41) dX12_buys_39 rfl (by decide) ?_
    refine r_aload_n (i := 0) (pc' := 42) dX12_buys_41 rfl rfl (.head _) ?_
    refine r_getR (pc' := 45) dX12_buys_42 rfl fX12_3 rfl (by first | assumption | rfl) (by omega) (by assumption) ?_
    refine r_sipush (pc' := 48) dX12_buys_45 rfl (by decide) ?_
    refine r_iaload (pc' := 49) dX12_buys_48 rfl (by first | assumption | rfl) (by omega) (by omega) (by omega) (by first | decide | omega) (show Int.toNat 3570 = 3570 from rfl) ?_
    rw [hR.om]
    refine r_S2p (pc' := 52) dX12_buys_49 rfl lX12_122 (by decide) (Nat.le_of_ble_eq_true rfl) (tX12_lesser (by omega) (by omega)) ?_
    rw [← hm10]
    refine r_ishl (pc' := 53) dX12_buys_52 rfl (zi_shl1 m (by omega)) ?_
    rw [hpw]
    refine r_icmp_ge (t := 172) (f := 56) dX12_buys_53 (by decide) rfl (by first | omega | exact xv_in _ _ _) (by first | omega | exact xv_in _ _ _) (fun h53 => ?_) (fun h53 => ?_)
    · exfalso; omega
    · refine r_iconst (pc' := 57) dX12_buys_56 rfl ?_
      refine r_istore (pc' := 59) dX12_buys_57 rfl rfl (.s1 (.s1 (.s1 (.s1 (.s1 (.s1 (.s1 .nil rfl rfl rfl) rfl rfl rfl) rfl rfl rfl) rfl rfl rfl) rfl rfl rfl) rfl rfl rfl) rfl rfl rfl) ?_
      refine r_iconst (pc' := 60) dX12_buys_59 rfl ?_
      refine r_istore (pc' := 62) dX12_buys_60 rfl rfl (.s1 (.s1 (.s1 (.s1 (.s1 (.s1 (.s1 (.s1 .nil rfl rfl rfl) rfl rfl rfl) rfl rfl rfl) rfl rfl rfl) rfl rfl rfl) rfl rfl rfl) rfl rfl rfl) rfl rfl rfl) ?_
      refine r_iconst (pc' := 63) dX12_buys_62 rfl ?_
      refine r_istore (pc' := 65) dX12_buys_63 rfl rfl (.s1 (.s1 (.s1 (.s1 (.s1 (.s1 (.s1 (.s1 (.s1 .nil rfl rfl rfl) rfl rfl rfl) rfl rfl rfl) rfl rfl rfl) rfl rfl rfl) rfl rfl rfl) rfl rfl rfl) rfl rfl rfl) rfl rfl rfl) ?_
      refine l1X12_buys hm hR hO hm10 (s := s + 1) (by omega) (by omega) (a1 := mu) (a2 := pr) ?_ 10 0 0 0 (Nat.zero_add _) (by rw [Int.zero_add, ← s1]; rfl) (by rw [Int.zero_add, ← s2]; rfl)
      refine r_iload (pc' := 122) dX12_buys_120 rfl (.tail _ (.tail _ (.tail _ (.tail _ (.tail _ (.tail _ (.tail _ (.tail _ (.head _))))))))) ?_
      refine r_iload_n (i := 2) (pc' := 123) dX12_buys_122 rfl rfl (.tail _ (.tail _ (.head _))) ?_
      refine r_icmp_gt (t := 166) (f := 126) dX12_buys_123 (by decide) rfl (by first | omega | exact xv_in _ _ _) (by first | omega | exact xv_in _ _ _) (fun h123 => ?_) (fun h123 => ?_)
      · refine r_iinc (pc' := 169) dX12_buys_166 rfl rfl (.tail _ (.tail _ (.tail _ (.tail _ (.tail _ (.tail _ (.head _))))))) (.s1 (.s1 (.s1 (.s1 (.s1 (.s1 (.here (.s1 (.s1 .nil rfl rfl rfl) rfl rfl rfl)) rfl rfl rfl) rfl rfl rfl) rfl rfl rfl) rfl rfl rfl) rfl rfl rfl) rfl rfl rfl) ?_
        refine r_goto (t := 36) dX12_buys_169 (by decide) ?_
        refine r_sub (.kp (.kp (.kp (.kp (.kp (.kp (.kp (.dr (.dr .nil))))))))) ?_
        first
          | (rw [if_neg (by omega)] at hcs; rw [hcs] at ih; exact ih)
          | (rw [if_pos (by omega)] at hcs; rw [hcs] at ih; exact ih)
      · refine r_iload (pc' := 128) dX12_buys_126 rfl (.tail _ (.tail _ (.tail _ (.tail _ (.tail _ (.tail _ (.tail _ (.head _)))))))) ?_
        refine r_iload (pc' := 130) dX12_buys_128 rfl (.tail _ (.tail _ (.tail _ (.tail _ (.head _))))) ?_
        refine r_icmp_lt (t := 166) (f := 133) dX12_buys_130 (by decide) rfl (by first | omega | exact xv_in _ _ _) (by first | omega | exact xv_in _ _ _) (fun h130 => ?_) (fun h130 => ?_)
        · refine r_iinc (pc' := 169) dX12_buys_166 rfl rfl (.tail _ (.tail _ (.tail _ (.tail _ (.tail _ (.tail _ (.head _))))))) (.s1 (.s1 (.s1 (.s1 (.s1 (.s1 (.here (.s1 (.s1 .nil rfl rfl rfl) rfl rfl rfl)) rfl rfl rfl) rfl rfl rfl) rfl rfl rfl) rfl rfl rfl) rfl rfl rfl) rfl rfl rfl) ?_
          refine r_goto (t := 36) dX12_buys_169 (by decide) ?_
          refine r_sub (.kp (.kp (.kp (.kp (.kp (.kp (.kp (.dr (.dr .nil))))))))) ?_
          first
            | (rw [if_neg (by omega)] at hcs; rw [hcs] at ih; exact ih)
            | (rw [if_pos (by omega)] at hcs; rw [hcs] at ih; exact ih)
        · refine r_iload (pc' := 135) dX12_buys_133 rfl (.tail _ (.tail _ (.tail _ (.tail _ (.tail _ (.tail _ (.tail _ (.head _)))))))) ?_
          refine r_iload (pc' := 137) dX12_buys_135 rfl (.tail _ (.tail _ (.tail _ (.tail _ (.head _))))) ?_
          refine r_icmp_ne (t := 155) (f := 140) dX12_buys_137 (by decide) rfl (by first | omega | exact xv_in _ _ _) (by first | omega | exact xv_in _ _ _) (fun h137 => ?_) (fun h137 => ?_)
          · refine r_iload (pc' := 157) dX12_buys_155 rfl (.tail _ (.tail _ (.tail _ (.tail _ (.tail _ (.tail _ (.head _))))))) ?_
            refine r_istore_n (i := 3) (pc' := 158) dX12_buys_157 rfl rfl rfl (.s1 (.s1 (.s1 (.here (.s1 (.s1 (.s1 (.s1 (.s1 .nil rfl rfl rfl) rfl rfl rfl) rfl rfl rfl) rfl rfl rfl) rfl rfl rfl)) rfl rfl rfl) rfl rfl rfl) rfl rfl rfl) ?_
            refine r_iload (pc' := 160) dX12_buys_158 rfl (.tail _ (.tail _ (.tail _ (.tail _ (.tail _ (.tail _ (.tail _ (.head _)))))))) ?_
            refine r_istore (pc' := 162) dX12_buys_160 rfl rfl (.s1 (.s1 (.s1 (.s1 (.here (.s1 (.s1 (.s1 (.s1 .nil rfl rfl rfl) rfl rfl rfl) rfl rfl rfl) rfl rfl rfl)) rfl rfl rfl) rfl rfl rfl) rfl rfl rfl) rfl rfl rfl) ?_
            refine r_iload (pc' := 164) dX12_buys_162 rfl (.tail _ (.tail _ (.tail _ (.tail _ (.tail _ (.tail _ (.tail _ (.tail _ (.head _))))))))) ?_
            refine r_istore (pc' := 166) dX12_buys_164 rfl rfl (.s1 (.s1 (.s1 (.s1 (.s1 (.here (.s1 (.s1 (.s1 .nil rfl rfl rfl) rfl rfl rfl) rfl rfl rfl)) rfl rfl rfl) rfl rfl rfl) rfl rfl rfl) rfl rfl rfl) rfl rfl rfl) ?_
            refine r_iinc (pc' := 169) dX12_buys_166 rfl rfl (.tail _ (.tail _ (.tail _ (.tail _ (.tail _ (.tail _ (.head _))))))) (.s1 (.s1 (.s1 (.s1 (.s1 (.s1 (.here (.s1 (.s1 .nil rfl rfl rfl) rfl rfl rfl)) rfl rfl rfl) rfl rfl rfl) rfl rfl rfl) rfl rfl rfl) rfl rfl rfl) rfl rfl rfl) ?_
            refine r_goto (t := 36) dX12_buys_169 (by decide) ?_
            refine r_sub (.kp (.kp (.kp (.kp (.kp (.kp (.kp (.dr (.dr .nil))))))))) ?_
            first
              | (rw [if_neg (by omega)] at hcs; rw [hcs] at ih; exact ih)
              | (rw [if_pos (by omega)] at hcs; rw [hcs] at ih; exact ih)
          · refine r_iload (pc' := 142) dX12_buys_140 rfl (.tail _ (.tail _ (.tail _ (.tail _ (.tail _ (.tail _ (.head _))))))) ?_
            refine r_S1p (pc' := 145) dX12_buys_142 rfl lX12_302 (by decide) (Nat.le_of_ble_eq_true rfl) (tX12_bits (by omega)) ?_
            rw [← p_pop]
            refine r_iload_n (i := 3) (pc' := 146) dX12_buys_145 rfl rfl (.tail _ (.tail _ (.tail _ (.head _)))) ?_
            refine r_S1p (pc' := 149) dX12_buys_146 rfl lX12_302 (by decide) (Nat.le_of_ble_eq_true rfl) (tX12_bits (by omega)) ?_
            rw [← p_pop]
            refine r_icmp_lt (t := 155) (f := 152) dX12_buys_149 (by decide) rfl (by first | omega | exact xv_in _ _ _) (by first | omega | exact xv_in _ _ _) (fun h149 => ?_) (fun h149 => ?_)
            · refine r_iload (pc' := 157) dX12_buys_155 rfl (.tail _ (.tail _ (.tail _ (.tail _ (.tail _ (.tail _ (.head _))))))) ?_
              refine r_istore_n (i := 3) (pc' := 158) dX12_buys_157 rfl rfl rfl (.s1 (.s1 (.s1 (.here (.s1 (.s1 (.s1 (.s1 (.s1 .nil rfl rfl rfl) rfl rfl rfl) rfl rfl rfl) rfl rfl rfl) rfl rfl rfl)) rfl rfl rfl) rfl rfl rfl) rfl rfl rfl) ?_
              refine r_iload (pc' := 160) dX12_buys_158 rfl (.tail _ (.tail _ (.tail _ (.tail _ (.tail _ (.tail _ (.tail _ (.head _)))))))) ?_
              refine r_istore (pc' := 162) dX12_buys_160 rfl rfl (.s1 (.s1 (.s1 (.s1 (.here (.s1 (.s1 (.s1 (.s1 .nil rfl rfl rfl) rfl rfl rfl) rfl rfl rfl) rfl rfl rfl)) rfl rfl rfl) rfl rfl rfl) rfl rfl rfl) rfl rfl rfl) ?_
              refine r_iload (pc' := 164) dX12_buys_162 rfl (.tail _ (.tail _ (.tail _ (.tail _ (.tail _ (.tail _ (.tail _ (.tail _ (.head _))))))))) ?_
              refine r_istore (pc' := 166) dX12_buys_164 rfl rfl (.s1 (.s1 (.s1 (.s1 (.s1 (.here (.s1 (.s1 (.s1 .nil rfl rfl rfl) rfl rfl rfl) rfl rfl rfl)) rfl rfl rfl) rfl rfl rfl) rfl rfl rfl) rfl rfl rfl) rfl rfl rfl) ?_
              refine r_iinc (pc' := 169) dX12_buys_166 rfl rfl (.tail _ (.tail _ (.tail _ (.tail _ (.tail _ (.tail _ (.head _))))))) (.s1 (.s1 (.s1 (.s1 (.s1 (.s1 (.here (.s1 (.s1 .nil rfl rfl rfl) rfl rfl rfl)) rfl rfl rfl) rfl rfl rfl) rfl rfl rfl) rfl rfl rfl) rfl rfl rfl) rfl rfl rfl) ?_
              refine r_goto (t := 36) dX12_buys_169 (by decide) ?_
              refine r_sub (.kp (.kp (.kp (.kp (.kp (.kp (.kp (.dr (.dr .nil))))))))) ?_
              first
                | (rw [if_neg (by omega)] at hcs; rw [hcs] at ih; exact ih)
                | (rw [if_pos (by omega)] at hcs; rw [hcs] at ih; exact ih)
            · refine r_goto (t := 166) dX12_buys_152 (by decide) ?_
              refine r_iinc (pc' := 169) dX12_buys_166 rfl rfl (.tail _ (.tail _ (.tail _ (.tail _ (.tail _ (.tail _ (.head _))))))) (.s1 (.s1 (.s1 (.s1 (.s1 (.s1 (.here (.s1 (.s1 .nil rfl rfl rfl) rfl rfl rfl)) rfl rfl rfl) rfl rfl rfl) rfl rfl rfl) rfl rfl rfl) rfl rfl rfl) rfl rfl rfl) ?_
              refine r_goto (t := 36) dX12_buys_169 (by decide) ?_
              refine r_sub (.kp (.kp (.kp (.kp (.kp (.kp (.kp (.dr (.dr .nil))))))))) ?_
              first
                | (rw [if_neg (by omega)] at hcs; rw [hcs] at ih; exact ih)
                | (rw [if_pos (by omega)] at hcs; rw [hcs] at ih; exact ih)
set_option maxHeartbeats 4000000 in
set_option maxRecDepth 100000 in
theorem tX12_buys {l : Launch} {g : q_G} {n : Nat} {P : q_P} {X : q_X} {Y : q_Y} (hm : isMod n P) {C : q_X} {b : Nat} (hR : RB C b (xv X 468)) (hO : bOk C b) {v : Int} (hv : q_in v) : q_Met l g mX12_buys 7 [.ref (g.1 + 467), .int (zi v)] n P X Y (q_gi (fun r' n' P' X' Y' => n' = n ∧ P' = P ∧ Y' = Y ∧ hOut X X' ∧ r' = f_buys C b v)) := by
  obtain ⟨m0, m2, m3, m8, m9, m14, m15, m16, m17, m18, m20, m22, m25, hnm9⟩ := id hm
  obtain ⟨o0, o1, o2, o3, o4, o5, o6, o10, oc, op0, opz, opi, om0, omi, olim⟩ := id hO
  refine q_enter (L := [(0, .ref (g.1 + 467)), (1, .int (zi v))]) (by decide) (Nat.le_of_ble_eq_true rfl) rfl ?_
  refine r_iload_n (i := 1) (pc' := 1) dX12_buys_0 rfl rfl (.tail _ (.head _)) ?_
  refine r_i2l (pc' := 2) dX12_buys_1 rfl rfl ?_
  refine r_lconst (pc' := 3) (z := 0) dX12_buys_2 rfl rfl ?_
  refine r_ldc2 (pc' := 6) dX12_buys_3 rfl kX12_300 ?_
  refine r_S3p (pc' := 9) dX12_buys_6 rfl lX12_68 (by decide) (Nat.le_of_ble_eq_true rfl) (tX12_isIn (by first | exact li_z (by omega) | exact li_z (xv_in _ _ _) | rfl) (by first | exact li_z (by omega) | exact li_z (xv_in _ _ _) | rfl) (by first | exact li_z (by omega) | exact li_z (xv_in _ _ _) | rfl)) ?_
  try simp only [i64_0, i64_1, i64_2, i64_3, i64_4, i64_5, i64_6, i64_7, i64_10, i64_19, i64_40, i64_100, i64_364, i64_9999, i64_99999, i64_999999, i64_m999999]
  refine r_bif_ne (t := 14) (f := 12) dX12_buys_9 (by decide) rfl (fun h9 => ?_) (fun h9 => ?_)
  · refine r_iconst (pc' := 15) dX12_buys_14 rfl ?_
    refine r_aload_n (i := 0) (pc' := 16) dX12_buys_15 rfl rfl (.head _) ?_
    refine r_lconst (pc' := 17) (z := 0) dX12_buys_16 rfl rfl ?_
    refine r_lconst (pc' := 18) (z := 0) dX12_buys_17 rfl rfl ?_
    refine r_V2gi (ci := 12) (pc' := 21) dX12_buys_18 rfl lX12_246 rfl (by decide) (Nat.le_of_ble_eq_true rfl) (by first | assumption | rfl) (by omega) (tX12_roomOf hm hR hO lB_0 lB_0) (fun r18 n18 P18 X18 Y18 e18 le18 => ?_)
    obtain ⟨h1v, h2v, h3v, ho18, hr18⟩ := e18
    subst h1v h2v h3v hr18
    have hR18 : RB C b (xv X18 468) := by rw [ho18.v (by omega)]; exact hR
    rw [roomG_0, ← zi_nz (bk_room C b g0 g0)]
    refine r_S2p (pc' := 24) dX12_buys_21 rfl lX12_224 (by decide) (Nat.le_of_ble_eq_true rfl) (tX12_greater (by omega) (nz_in _)) ?_
    refine r_istore_n (i := 2) (pc' := 25) dX12_buys_24 rfl rfl rfl (.s1 (.s1 .nil rfl rfl rfl) rfl rfl rfl) ?_
    refine r_iconst (pc' := 26) dX12_buys_25 rfl ?_
    refine r_istore_n (i := 3) (pc' := 27) dX12_buys_26 rfl rfl rfl (.s1 (.s1 (.s1 .nil rfl rfl rfl) rfl rfl rfl) rfl rfl rfl) ?_
    refine r_iconst (pc' := 28) dX12_buys_27 rfl ?_
    refine r_istore (pc' := 30) dX12_buys_28 rfl rfl (.s1 (.s1 (.s1 (.s1 .nil rfl rfl rfl) rfl rfl rfl) rfl rfl rfl) rfl rfl rfl) ?_
    refine r_iconst (pc' := 31) dX12_buys_30 rfl ?_
    refine r_istore (pc' := 33) dX12_buys_31 rfl rfl (.s1 (.s1 (.s1 (.s1 (.s1 .nil rfl rfl rfl) rfl rfl rfl) rfl rfl rfl) rfl rfl rfl) rfl rfl rfl) ?_
    refine r_iconst (pc' := 34) dX12_buys_33 rfl ?_
    refine r_istore (pc' := 36) dX12_buys_34 rfl rfl (.s1 (.s1 (.s1 (.s1 (.s1 (.s1 .nil rfl rfl rfl) rfl rfl rfl) rfl rfl rfl) rfl rfl rfl) rfl rfl rfl) rfl rfl rfl) ?_
    have hz1 : 1 ≤ 2 ^ buyM C b := Nat.one_le_two_pow
    have hni := nz_in (bk_room C b g0 g0)
    have hq := lX12_buys (l := l) (g := g) (Y := Y18) hm hR18 hO (m := buyM C b) (by show ((min 10 (xv C (b + 10) 0)).toNat : Int) = _; omega) (v := v) (room := max 0 (nz (bk_room C b g0 g0))) (by omega) (by omega) ho18 rfl (2 ^ buyM C b - 1) 0 (by omega)
    rw [f_buys, if_neg (by omega)]
    exact hq
  · refine r_iconst (pc' := 13) dX12_buys_12 rfl ?_
    refine r_ireturn dX12_buys_13 rfl ?_
    refine ⟨_, rfl, rfl, rfl, rfl, hOut.rfl, ?_⟩
    unfold f_buys
    rw [if_pos (by omega)]
