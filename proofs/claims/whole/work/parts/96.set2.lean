theorem ch_set_d {C : q_X} {b : Nat} {L : List Nat} (hO : bOk C b) (hL : LOk C b L) (goal : Int) : ∀ s, 0 ≤ (ch_set C b L goal s).2.1 ∧ (ch_set C b L goal s).2.1 ≤ 22999770
  | 0 => by simp [ch_set]
  | s + 1 => by
    have h1 := ch_set_d hO hL goal s
    have h2 := ch_dead_b hO hL s
    rw [ch_set]
    (repeat' split) <;> first | exact h1 | exact h2
theorem ch_fit_d {C : q_X} {b : Nat} {L : List Nat} (hO : bOk C b) (hL : LOk C b L) (goal : Int) : ∀ s, (0 ≤ (ch_fit C b L goal s).2.1 ∧ (ch_fit C b L goal s).2.1 ≤ 22999770)
  | 0 => by simp [ch_fit]
  | s + 1 => by
    have h1 := ch_fit_d hO hL goal s
    have h2 := ch_dead_b hO hL (dgN 1 s L.length)
    rw [ch_fit]
    (repeat' split) <;> first | exact h1 | exact h2
set_option maxHeartbeats 4000000 in
set_option maxRecDepth 100000 in
theorem lX12_set {l : Launch} {g : q_G} {n : Nat} {P : q_P} {Y : q_Y} (hm : isMod n P) {C : q_X} {b : Nat} (hO : bOk C b) {L : List Nat} (hL : LOk C b L) {goal v : Int} (hgo : q_in goal) (hv : v = 0 ∨ v = 1) {X0 : q_X} {Z : Nat} (hZe : 2 ^ L.length = Z) : ∀ (w s : Nat) (bt lt : Int) (X : q_X), s + w = Z → aOut X0 X → RB C b (xv X 468) → sL X L → sR bt lt (ch_set C b L goal s) → q_Tr l g mX12_set 7 (q_gi (fun r' n' P' X' Y' => n' = n ∧ P' = P ∧ Y' = Y ∧ aOut X0 X' ∧ r' = (if (ch_set C b L goal Z).1 = true then (if v = 0 then (ch_set C b L goal Z).2.1 else ((ch_set C b L goal Z).2.2 : Int)) else -2))) 34 [(0, .ref (g.1 + 467)), (1, .int (zi goal)), (2, .int (zi v)), (3, .int (zi bt)), (4, .int (zi lt)), (5, .int (zi (s : Int)))] [] n P X Y := by
  obtain ⟨m0, m2, m3, m8, m9, m14, m15, m16, m17, m18, m20, m22, m25, hnm9⟩ := id hm
  obtain ⟨o0, o1, o2, o3, o4, o5, o6, o10, oc, op0, opz, opi, om0, omi, olim⟩ := id hO
  have hLl := hL.1
  have hZ : 2 ^ L.length ≤ 1024 := Nat.pow_le_pow_right (n := 2) (by omega) hL.1
  have hpw : (2 : Int) ^ L.length = (Z : Int) := by rw [← hZe, Int.natCast_pow]; rfl
  rw [hZe] at hZ
  intro w
  induction w with
  | zero =>
    intro s bt lt X hi ho hR hS hr
    obtain rfl : s = Z := by omega
    have hcb := ch_set_b C b L goal s
    rcases hr with ⟨f1, rfl, rfl⟩ | ⟨f1, rfl⟩
    · refine r_iload (pc' := 36) dX12_set_34 rfl (.tail _ (.tail _ (.tail _ (.tail _ (.tail _ (.head _)))))) ?_
      refine r_iconst (pc' := 37) dX12_set_36 rfl ?_
      refine r_aload_n (i := 0) (pc' := 38) dX12_set_37 rfl rfl (.head _) ?_
      refine r_getI (pc' := 41) dX12_set_38 rfl fX12_333 rfl (by first | assumption | rfl) (by omega) ?_
      rw [hS.1]
      refine r_ishl (pc' := 42) dX12_set_41 rfl (zi_shl1 L.length (by omega)) ?_
      rw [hpw]
      refine r_icmp_ge (t := 116) (f := 45) dX12_set_42 (by decide) rfl (by first | omega | exact xv_in _ _ _) (by first | omega | exact xv_in _ _ _) (fun h42 => ?_) (fun h42 => ?_)
      · refine r_iload_n (i := 3) (pc' := 117) dX12_set_116 rfl rfl (.tail _ (.tail _ (.tail _ (.head _)))) ?_
        refine r_bipush (pc' := 119) dX12_set_117 rfl (by decide) ?_
        refine r_icmp_ne (t := 127) (f := 122) dX12_set_119 (by decide) rfl (by first | omega | exact xv_in _ _ _) (by first | omega | exact xv_in _ _ _) (fun h119 => ?_) (fun h119 => ?_)
        · refine r_iload_n (i := 2) (pc' := 128) dX12_set_127 rfl rfl (.tail _ (.tail _ (.head _))) ?_
          refine r_if_ne (t := 136) (f := 131) dX12_set_128 (by decide) rfl (by first | omega | exact xv_in _ _ _) (fun h128 => ?_) (fun h128 => ?_)
          · refine r_iload_n (i := 3) (pc' := 137) dX12_set_136 rfl rfl (.tail _ (.tail _ (.tail _ (.head _)))) ?_
            refine r_ireturn dX12_set_137 rfl ?_
            refine ⟨_, rfl, rfl, rfl, rfl, ho, ?_⟩
            rw [if_pos f1]
            first
              | (rw [if_pos (by omega)]; done)
              | (rw [if_neg (by omega)]; done)
          · refine r_iload (pc' := 133) dX12_set_131 rfl (.tail _ (.tail _ (.tail _ (.tail _ (.head _))))) ?_
            refine r_goto (t := 137) dX12_set_133 (by decide) ?_
            refine r_ireturn dX12_set_137 rfl ?_
            refine ⟨_, rfl, rfl, rfl, rfl, ho, ?_⟩
            rw [if_pos f1]
            first
              | (rw [if_pos (by omega)]; done)
              | (rw [if_neg (by omega)]; done)
        · exfalso; omega
      · exfalso; omega
    · refine r_iload (pc' := 36) dX12_set_34 rfl (.tail _ (.tail _ (.tail _ (.tail _ (.tail _ (.head _)))))) ?_
      refine r_iconst (pc' := 37) dX12_set_36 rfl ?_
      refine r_aload_n (i := 0) (pc' := 38) dX12_set_37 rfl rfl (.head _) ?_
      refine r_getI (pc' := 41) dX12_set_38 rfl fX12_333 rfl (by first | assumption | rfl) (by omega) ?_
      rw [hS.1]
      refine r_ishl (pc' := 42) dX12_set_41 rfl (zi_shl1 L.length (by omega)) ?_
      rw [hpw]
      refine r_icmp_ge (t := 116) (f := 45) dX12_set_42 (by decide) rfl (by first | omega | exact xv_in _ _ _) (by first | omega | exact xv_in _ _ _) (fun h42 => ?_) (fun h42 => ?_)
      · refine r_iload_n (i := 3) (pc' := 117) dX12_set_116 rfl rfl (.tail _ (.tail _ (.tail _ (.head _)))) ?_
        refine r_bipush (pc' := 119) dX12_set_117 rfl (by decide) ?_
        refine r_icmp_ne (t := 127) (f := 122) dX12_set_119 (by decide) rfl (by first | omega | exact xv_in _ _ _) (by first | omega | exact xv_in _ _ _) (fun h119 => ?_) (fun h119 => ?_)
        · exfalso; omega
        · refine r_bipush (pc' := 124) dX12_set_122 rfl (by decide) ?_
          refine r_goto (t := 137) dX12_set_124 (by decide) ?_
          refine r_ireturn dX12_set_137 rfl ?_
          refine ⟨_, rfl, rfl, rfl, rfl, ho, ?_⟩
          rw [if_neg (by rw [f1]; decide)]
      · exfalso; omega
  | succ w ih =>
    intro s bt lt X hi ho hR hS hr
    have hcb := ch_set_b C b L goal s
    have hdb := ch_dead_b hO hL s
    have hpp := p_pop_b s
    have hpp2 := p_pop_b (ch_set C b L goal s).2.2
    refine r_iload (pc' := 36) dX12_set_34 rfl (.tail _ (.tail _ (.tail _ (.tail _ (.tail _ (.head _)))))) ?_
    refine r_iconst (pc' := 37) dX12_set_36 rfl ?_
    refine r_aload_n (i := 0) (pc' := 38) dX12_set_37 rfl rfl (.head _) ?_
    refine r_getI (pc' := 41) dX12_set_38 rfl fX12_333 rfl (by first | assumption | rfl) (by omega) ?_
    rw [hS.1]
    refine r_ishl (pc' := 42) dX12_set_41 rfl (zi_shl1 L.length (by omega)) ?_
    rw [hpw]
    refine r_icmp_ge (t := 116) (f := 45) dX12_set_42 (by decide) rfl (by first | omega | exact nz_in _ | exact xv_in _ _ _) (by first | omega | exact nz_in _ | exact xv_in _ _ _) (fun h42 => ?_) (fun h42 => ?_)
    · exfalso; omega
    · rcases hr with ⟨f1, rfl, rfl⟩ | ⟨f1, rfl⟩
      · have hlb := ch_set_d hO hL goal s
        refine r_aload_n (i := 0) (pc' := 46) dX12_set_45 rfl rfl (.head _) ?_
        refine r_iload (pc' := 48) dX12_set_46 rfl (.tail _ (.tail _ (.tail _ (.tail _ (.tail _ (.head _)))))) ?_
        refine r_V1p (ci := 12) (pc' := 51) dX12_set_48 rfl lX12_339 rfl (by decide) (Nat.le_of_ble_eq_true rfl) (by first | assumption | rfl) (by omega) (tX12_deadOf hm hR hO hS hL (st := s) (by omega)) ?_
        rw [← p_sumS, ← ch_dead]
        refine r_istore (pc' := 53) dX12_set_51 rfl rfl (.s1 (.s1 (.s1 (.s1 (.s1 (.s1 .nil rfl rfl rfl) rfl rfl rfl) rfl rfl rfl) rfl rfl rfl) rfl rfl rfl) rfl rfl rfl) ?_
        refine r_iload_n (i := 3) (pc' := 54) dX12_set_53 rfl rfl (.tail _ (.tail _ (.tail _ (.head _)))) ?_
        refine r_bipush (pc' := 56) dX12_set_54 rfl (by decide) ?_
        refine r_icmp_eq (t := 85) (f := 59) dX12_set_56 (by decide) rfl (by first | omega | exact nz_in _ | exact xv_in _ _ _) (by first | omega | exact nz_in _ | exact xv_in _ _ _) (fun h56 => ?_) (fun h56 => ?_)
        · exfalso; omega
        · refine r_iload (pc' := 61) dX12_set_59 rfl (.tail _ (.tail _ (.tail _ (.tail _ (.tail _ (.tail _ (.head _))))))) ?_
          refine r_iload (pc' := 63) dX12_set_61 rfl (.tail _ (.tail _ (.tail _ (.tail _ (.head _))))) ?_
          refine r_icmp_gt (t := 110) (f := 66) dX12_set_63 (by decide) rfl (by first | omega | exact nz_in _ | exact xv_in _ _ _) (by first | omega | exact nz_in _ | exact xv_in _ _ _) (fun h63 => ?_) (fun h63 => ?_)
          · refine r_iinc (pc' := 113) dX12_set_110 rfl rfl (.tail _ (.tail _ (.tail _ (.tail _ (.tail _ (.head _)))))) (.s1 (.s1 (.s1 (.s1 (.s1 (.here (.s1 .nil rfl rfl rfl)) rfl rfl rfl) rfl rfl rfl) rfl rfl rfl) rfl rfl rfl) rfl rfl rfl) ?_
            refine r_goto (t := 34) dX12_set_113 (by decide) ?_
            refine r_sub (.kp (.kp (.kp (.kp (.kp (.kp (.dr .nil))))))) ?_
            first
              | (refine ih (s + 1) _ _ _ (by omega) ho hR hS ?_
                 rw [ch_set, if_pos ⟨f1, by omega⟩]; exact Or.inl ⟨f1, rfl, rfl⟩)
              | (refine ih (s + 1) _ _ _ (by omega) (ho.trans ho93.a) hR93 (hS.h ho93) ?_
                 rw [ch_set, if_neg hne, if_neg (by omega)]
                 first | exact Or.inl ⟨f1, rfl, rfl⟩ | exact Or.inr ⟨f1, rfl⟩)
              | (refine ih (s + 1) _ _ _ (by omega) (ho.trans ho93.a) hR93 (hS.h ho93) ?_
                 rw [ch_set, if_neg hne, if_pos (by omega)]
                 exact Or.inl ⟨rfl, rfl, rfl⟩)
          · refine r_iload (pc' := 68) dX12_set_66 rfl (.tail _ (.tail _ (.tail _ (.tail _ (.tail _ (.tail _ (.head _))))))) ?_
            refine r_iload (pc' := 70) dX12_set_68 rfl (.tail _ (.tail _ (.tail _ (.tail _ (.head _))))) ?_
            refine r_icmp_ne (t := 85) (f := 73) dX12_set_70 (by decide) rfl (by first | omega | exact nz_in _ | exact xv_in _ _ _) (by first | omega | exact nz_in _ | exact xv_in _ _ _) (fun h70 => ?_) (fun h70 => ?_)
            · have hne : ¬ ((ch_set C b L goal s).1 = true ∧ ¬ (ch_dead C b L s < (ch_set C b L goal s).2.1 ∨ (ch_dead C b L s = (ch_set C b L goal s).2.1 ∧ p_pop s < p_pop (ch_set C b L goal s).2.2))) := by
                intro q
                first
                  | (rw [f1] at q; exact absurd q.1 (by decide))
                  | exact q.2 (by omega)
              refine r_aload_n (i := 0) (pc' := 86) dX12_set_85 rfl rfl (.head _) ?_
              refine r_aload_n (i := 0) (pc' := 87) dX12_set_86 rfl rfl (.head _) ?_
              refine r_iload (pc' := 89) dX12_set_87 rfl (.tail _ (.tail _ (.tail _ (.tail _ (.tail _ (.head _)))))) ?_
              refine r_V1gl (ci := 12) (pc' := 92) dX12_set_89 rfl lX12_342 rfl (by decide) (Nat.le_of_ble_eq_true rfl) (by first | assumption | rfl) (by omega) (tX12_contractsOf hm hO hS hL (st := s) (by omega)) (fun r89 n89 P89 X89 Y89 e89 le89 => ?_)
              obtain ⟨h1v, h2v, h3v, h4v, hG89⟩ := e89
              subst h1v h2v h3v h4v
              refine r_lconst (pc' := 93) (z := 0) dX12_set_92 rfl rfl ?_
              refine r_V2gi (ci := 12) (pc' := 96) dX12_set_93 rfl lX12_246 rfl (by decide) (Nat.le_of_ble_eq_true rfl) (by first | assumption | rfl) (by omega) (tX12_roomOf hm hR hO hG89 lB_0) (fun r93 n93 P93 X93 Y93 e93 le93 => ?_)
              obtain ⟨h1v, h2v, h3v, ho93, hr93⟩ := e93
              subst h1v h2v h3v hr93
              have hR93 : RB C b (xv X93 468) := by rw [ho93.v (by omega)]; exact hR
              skip
              rw [roomG_set hL, ← zi_nz (bk_room C b (gS L s) g0 - ch_now C b L s)]
              refine r_iload_n (i := 1) (pc' := 97) dX12_set_96 rfl rfl (.tail _ (.head _)) ?_
              refine r_icmp_ge (t := 103) (f := 100) dX12_set_97 (by decide) rfl (by first | omega | exact nz_in _ | exact xv_in _ _ _) (by first | omega | exact nz_in _ | exact xv_in _ _ _) (fun h97 => ?_) (fun h97 => ?_)
              · refine r_iload (pc' := 105) dX12_set_103 rfl (.tail _ (.tail _ (.tail _ (.tail _ (.tail _ (.head _)))))) ?_
                refine r_istore_n (i := 3) (pc' := 106) dX12_set_105 rfl rfl rfl (.s1 (.s1 (.s1 (.here (.s1 (.s1 (.s1 .nil rfl rfl rfl) rfl rfl rfl) rfl rfl rfl)) rfl rfl rfl) rfl rfl rfl) rfl rfl rfl) ?_
                refine r_iload (pc' := 108) dX12_set_106 rfl (.tail _ (.tail _ (.tail _ (.tail _ (.tail _ (.tail _ (.head _))))))) ?_
                refine r_istore (pc' := 110) dX12_set_108 rfl rfl (.s1 (.s1 (.s1 (.s1 (.here (.s1 (.s1 .nil rfl rfl rfl) rfl rfl rfl)) rfl rfl rfl) rfl rfl rfl) rfl rfl rfl) rfl rfl rfl) ?_
                refine r_iinc (pc' := 113) dX12_set_110 rfl rfl (.tail _ (.tail _ (.tail _ (.tail _ (.tail _ (.head _)))))) (.s1 (.s1 (.s1 (.s1 (.s1 (.here (.s1 .nil rfl rfl rfl)) rfl rfl rfl) rfl rfl rfl) rfl rfl rfl) rfl rfl rfl) rfl rfl rfl) ?_
                refine r_goto (t := 34) dX12_set_113 (by decide) ?_
                refine r_sub (.kp (.kp (.kp (.kp (.kp (.kp (.dr .nil))))))) ?_
                first
                  | (refine ih (s + 1) _ _ _ (by omega) ho hR hS ?_
                     rw [ch_set, if_pos ⟨f1, by omega⟩]; exact Or.inl ⟨f1, rfl, rfl⟩)
                  | (refine ih (s + 1) _ _ _ (by omega) (ho.trans ho93.a) hR93 (hS.h ho93) ?_
                     rw [ch_set, if_neg hne, if_neg (by omega)]
                     first | exact Or.inl ⟨f1, rfl, rfl⟩ | exact Or.inr ⟨f1, rfl⟩)
                  | (refine ih (s + 1) _ _ _ (by omega) (ho.trans ho93.a) hR93 (hS.h ho93) ?_
                     rw [ch_set, if_neg hne, if_pos (by omega)]
                     exact Or.inl ⟨rfl, rfl, rfl⟩)
              · refine r_goto (t := 110) dX12_set_100 (by decide) ?_
                refine r_iinc (pc' := 113) dX12_set_110 rfl rfl (.tail _ (.tail _ (.tail _ (.tail _ (.tail _ (.head _)))))) (.s1 (.s1 (.s1 (.s1 (.s1 (.here (.s1 .nil rfl rfl rfl)) rfl rfl rfl) rfl rfl rfl) rfl rfl rfl) rfl rfl rfl) rfl rfl rfl) ?_
                refine r_goto (t := 34) dX12_set_113 (by decide) ?_
                refine r_sub (.kp (.kp (.kp (.kp (.kp (.kp (.dr .nil))))))) ?_
                first
                  | (refine ih (s + 1) _ _ _ (by omega) ho hR hS ?_
                     rw [ch_set, if_pos ⟨f1, by omega⟩]; exact Or.inl ⟨f1, rfl, rfl⟩)
                  | (refine ih (s + 1) _ _ _ (by omega) (ho.trans ho93.a) hR93 (hS.h ho93) ?_
                     rw [ch_set, if_neg hne, if_neg (by omega)]
                     first | exact Or.inl ⟨f1, rfl, rfl⟩ | exact Or.inr ⟨f1, rfl⟩)
                  | (refine ih (s + 1) _ _ _ (by omega) (ho.trans ho93.a) hR93 (hS.h ho93) ?_
                     rw [ch_set, if_neg hne, if_pos (by omega)]
                     exact Or.inl ⟨rfl, rfl, rfl⟩)
            · refine r_iload (pc' := 75) dX12_set_73 rfl (.tail _ (.tail _ (.tail _ (.tail _ (.tail _ (.head _)))))) ?_
              refine r_S1p (pc' := 78) dX12_set_75 rfl lX12_302 (by decide) (Nat.le_of_ble_eq_true rfl) (tX12_bits (by omega)) ?_
              rw [← p_pop]
              refine r_iload_n (i := 3) (pc' := 79) dX12_set_78 rfl rfl (.tail _ (.tail _ (.tail _ (.head _)))) ?_
              refine r_S1p (pc' := 82) dX12_set_79 rfl lX12_302 (by decide) (Nat.le_of_ble_eq_true rfl) (tX12_bits (by omega)) ?_
              rw [← p_pop]
              refine r_icmp_ge (t := 110) (f := 85) dX12_set_82 (by decide) rfl (by first | omega | exact nz_in _ | exact xv_in _ _ _) (by first | omega | exact nz_in _ | exact xv_in _ _ _) (fun h82 => ?_) (fun h82 => ?_)
              · refine r_iinc (pc' := 113) dX12_set_110 rfl rfl (.tail _ (.tail _ (.tail _ (.tail _ (.tail _ (.head _)))))) (.s1 (.s1 (.s1 (.s1 (.s1 (.here (.s1 .nil rfl rfl rfl)) rfl rfl rfl) rfl rfl rfl) rfl rfl rfl) rfl rfl rfl) rfl rfl rfl) ?_
                refine r_goto (t := 34) dX12_set_113 (by decide) ?_
                refine r_sub (.kp (.kp (.kp (.kp (.kp (.kp (.dr .nil))))))) ?_
                first
                  | (refine ih (s + 1) _ _ _ (by omega) ho hR hS ?_
                     rw [ch_set, if_pos ⟨f1, by omega⟩]; exact Or.inl ⟨f1, rfl, rfl⟩)
                  | (refine ih (s + 1) _ _ _ (by omega) (ho.trans ho93.a) hR93 (hS.h ho93) ?_
                     rw [ch_set, if_neg hne, if_neg (by omega)]
                     first | exact Or.inl ⟨f1, rfl, rfl⟩ | exact Or.inr ⟨f1, rfl⟩)
                  | (refine ih (s + 1) _ _ _ (by omega) (ho.trans ho93.a) hR93 (hS.h ho93) ?_
                     rw [ch_set, if_neg hne, if_pos (by omega)]
                     exact Or.inl ⟨rfl, rfl, rfl⟩)
              · have hne : ¬ ((ch_set C b L goal s).1 = true ∧ ¬ (ch_dead C b L s < (ch_set C b L goal s).2.1 ∨ (ch_dead C b L s = (ch_set C b L goal s).2.1 ∧ p_pop s < p_pop (ch_set C b L goal s).2.2))) := by
                  intro q
                  first
                    | (rw [f1] at q; exact absurd q.1 (by decide))
                    | exact q.2 (by omega)
                refine r_aload_n (i := 0) (pc' := 86) dX12_set_85 rfl rfl (.head _) ?_
                refine r_aload_n (i := 0) (pc' := 87) dX12_set_86 rfl rfl (.head _) ?_
                refine r_iload (pc' := 89) dX12_set_87 rfl (.tail _ (.tail _ (.tail _ (.tail _ (.tail _ (.head _)))))) ?_
                refine r_V1gl (ci := 12) (pc' := 92) dX12_set_89 rfl lX12_342 rfl (by decide) (Nat.le_of_ble_eq_true rfl) (by first | assumption | rfl) (by omega) (tX12_contractsOf hm hO hS hL (st := s) (by omega)) (fun r89 n89 P89 X89 Y89 e89 le89 => ?_)
                obtain ⟨h1v, h2v, h3v, h4v, hG89⟩ := e89
                subst h1v h2v h3v h4v
                refine r_lconst (pc' := 93) (z := 0) dX12_set_92 rfl rfl ?_
                refine r_V2gi (ci := 12) (pc' := 96) dX12_set_93 rfl lX12_246 rfl (by decide) (Nat.le_of_ble_eq_true rfl) (by first | assumption | rfl) (by omega) (tX12_roomOf hm hR hO hG89 lB_0) (fun r93 n93 P93 X93 Y93 e93 le93 => ?_)
                obtain ⟨h1v, h2v, h3v, ho93, hr93⟩ := e93
                subst h1v h2v h3v hr93
                have hR93 : RB C b (xv X93 468) := by rw [ho93.v (by omega)]; exact hR
                skip
                rw [roomG_set hL, ← zi_nz (bk_room C b (gS L s) g0 - ch_now C b L s)]
                refine r_iload_n (i := 1) (pc' := 97) dX12_set_96 rfl rfl (.tail _ (.head _)) ?_
                refine r_icmp_ge (t := 103) (f := 100) dX12_set_97 (by decide) rfl (by first | omega | exact nz_in _ | exact xv_in _ _ _) (by first | omega | exact nz_in _ | exact xv_in _ _ _) (fun h97 => ?_) (fun h97 => ?_)
                · refine r_iload (pc' := 105) dX12_set_103 rfl (.tail _ (.tail _ (.tail _ (.tail _ (.tail _ (.head _)))))) ?_
                  refine r_istore_n (i := 3) (pc' := 106) dX12_set_105 rfl rfl rfl (.s1 (.s1 (.s1 (.here (.s1 (.s1 (.s1 .nil rfl rfl rfl) rfl rfl rfl) rfl rfl rfl)) rfl rfl rfl) rfl rfl rfl) rfl rfl rfl) ?_
                  refine r_iload (pc' := 108) dX12_set_106 rfl (.tail _ (.tail _ (.tail _ (.tail _ (.tail _ (.tail _ (.head _))))))) ?_
                  refine r_istore (pc' := 110) dX12_set_108 rfl rfl (.s1 (.s1 (.s1 (.s1 (.here (.s1 (.s1 .nil rfl rfl rfl) rfl rfl rfl)) rfl rfl rfl) rfl rfl rfl) rfl rfl rfl) rfl rfl rfl) ?_
                  refine r_iinc (pc' := 113) dX12_set_110 rfl rfl (.tail _ (.tail _ (.tail _ (.tail _ (.tail _ (.head _)))))) (.s1 (.s1 (.s1 (.s1 (.s1 (.here (.s1 .nil rfl rfl rfl)) rfl rfl rfl) rfl rfl rfl) rfl rfl rfl) rfl rfl rfl) rfl rfl rfl) ?_
                  refine r_goto (t := 34) dX12_set_113 (by decide) ?_
                  refine r_sub (.kp (.kp (.kp (.kp (.kp (.kp (.dr .nil))))))) ?_
                  first
                    | (refine ih (s + 1) _ _ _ (by omega) ho hR hS ?_
                       rw [ch_set, if_pos ⟨f1, by omega⟩]; exact Or.inl ⟨f1, rfl, rfl⟩)
                    | (refine ih (s + 1) _ _ _ (by omega) (ho.trans ho93.a) hR93 (hS.h ho93) ?_
                       rw [ch_set, if_neg hne, if_neg (by omega)]
                       first | exact Or.inl ⟨f1, rfl, rfl⟩ | exact Or.inr ⟨f1, rfl⟩)
                    | (refine ih (s + 1) _ _ _ (by omega) (ho.trans ho93.a) hR93 (hS.h ho93) ?_
                       rw [ch_set, if_neg hne, if_pos (by omega)]
                       exact Or.inl ⟨rfl, rfl, rfl⟩)
                · refine r_goto (t := 110) dX12_set_100 (by decide) ?_
                  refine r_iinc (pc' := 113) dX12_set_110 rfl rfl (.tail _ (.tail _ (.tail _ (.tail _ (.tail _ (.head _)))))) (.s1 (.s1 (.s1 (.s1 (.s1 (.here (.s1 .nil rfl rfl rfl)) rfl rfl rfl) rfl rfl rfl) rfl rfl rfl) rfl rfl rfl) rfl rfl rfl) ?_
                  refine r_goto (t := 34) dX12_set_113 (by decide) ?_
                  refine r_sub (.kp (.kp (.kp (.kp (.kp (.kp (.dr .nil))))))) ?_
                  first
                    | (refine ih (s + 1) _ _ _ (by omega) ho hR hS ?_
                       rw [ch_set, if_pos ⟨f1, by omega⟩]; exact Or.inl ⟨f1, rfl, rfl⟩)
                    | (refine ih (s + 1) _ _ _ (by omega) (ho.trans ho93.a) hR93 (hS.h ho93) ?_
                       rw [ch_set, if_neg hne, if_neg (by omega)]
                       first | exact Or.inl ⟨f1, rfl, rfl⟩ | exact Or.inr ⟨f1, rfl⟩)
                    | (refine ih (s + 1) _ _ _ (by omega) (ho.trans ho93.a) hR93 (hS.h ho93) ?_
                       rw [ch_set, if_neg hne, if_pos (by omega)]
                       exact Or.inl ⟨rfl, rfl, rfl⟩)
      · refine r_aload_n (i := 0) (pc' := 46) dX12_set_45 rfl rfl (.head _) ?_
        refine r_iload (pc' := 48) dX12_set_46 rfl (.tail _ (.tail _ (.tail _ (.tail _ (.tail _ (.head _)))))) ?_
        refine r_V1p (ci := 12) (pc' := 51) dX12_set_48 rfl lX12_339 rfl (by decide) (Nat.le_of_ble_eq_true rfl) (by first | assumption | rfl) (by omega) (tX12_deadOf hm hR hO hS hL (st := s) (by omega)) ?_
        rw [← p_sumS, ← ch_dead]
        refine r_istore (pc' := 53) dX12_set_51 rfl rfl (.s1 (.s1 (.s1 (.s1 (.s1 (.s1 .nil rfl rfl rfl) rfl rfl rfl) rfl rfl rfl) rfl rfl rfl) rfl rfl rfl) rfl rfl rfl) ?_
        refine r_iload_n (i := 3) (pc' := 54) dX12_set_53 rfl rfl (.tail _ (.tail _ (.tail _ (.head _)))) ?_
        refine r_bipush (pc' := 56) dX12_set_54 rfl (by decide) ?_
        refine r_icmp_eq (t := 85) (f := 59) dX12_set_56 (by decide) rfl (by first | omega | exact nz_in _ | exact xv_in _ _ _) (by first | omega | exact nz_in _ | exact xv_in _ _ _) (fun h56 => ?_) (fun h56 => ?_)
        · have hne : ¬ ((ch_set C b L goal s).1 = true ∧ ¬ (ch_dead C b L s < (ch_set C b L goal s).2.1 ∨ (ch_dead C b L s = (ch_set C b L goal s).2.1 ∧ p_pop s < p_pop (ch_set C b L goal s).2.2))) := by
            intro q
            first
              | (rw [f1] at q; exact absurd q.1 (by decide))
              | exact q.2 (by omega)
          refine r_aload_n (i := 0) (pc' := 86) dX12_set_85 rfl rfl (.head _) ?_
          refine r_aload_n (i := 0) (pc' := 87) dX12_set_86 rfl rfl (.head _) ?_
          refine r_iload (pc' := 89) dX12_set_87 rfl (.tail _ (.tail _ (.tail _ (.tail _ (.tail _ (.head _)))))) ?_
          refine r_V1gl (ci := 12) (pc' := 92) dX12_set_89 rfl lX12_342 rfl (by decide) (Nat.le_of_ble_eq_true rfl) (by first | assumption | rfl) (by omega) (tX12_contractsOf hm hO hS hL (st := s) (by omega)) (fun r89 n89 P89 X89 Y89 e89 le89 => ?_)
          obtain ⟨h1v, h2v, h3v, h4v, hG89⟩ := e89
          subst h1v h2v h3v h4v
          refine r_lconst (pc' := 93) (z := 0) dX12_set_92 rfl rfl ?_
          refine r_V2gi (ci := 12) (pc' := 96) dX12_set_93 rfl lX12_246 rfl (by decide) (Nat.le_of_ble_eq_true rfl) (by first | assumption | rfl) (by omega) (tX12_roomOf hm hR hO hG89 lB_0) (fun r93 n93 P93 X93 Y93 e93 le93 => ?_)
          obtain ⟨h1v, h2v, h3v, ho93, hr93⟩ := e93
          subst h1v h2v h3v hr93
          have hR93 : RB C b (xv X93 468) := by rw [ho93.v (by omega)]; exact hR
          skip
          rw [roomG_set hL, ← zi_nz (bk_room C b (gS L s) g0 - ch_now C b L s)]
          refine r_iload_n (i := 1) (pc' := 97) dX12_set_96 rfl rfl (.tail _ (.head _)) ?_
          refine r_icmp_ge (t := 103) (f := 100) dX12_set_97 (by decide) rfl (by first | omega | exact nz_in _ | exact xv_in _ _ _) (by first | omega | exact nz_in _ | exact xv_in _ _ _) (fun h97 => ?_) (fun h97 => ?_)
          · refine r_iload (pc' := 105) dX12_set_103 rfl (.tail _ (.tail _ (.tail _ (.tail _ (.tail _ (.head _)))))) ?_
            refine r_istore_n (i := 3) (pc' := 106) dX12_set_105 rfl rfl rfl (.s1 (.s1 (.s1 (.here (.s1 (.s1 (.s1 .nil rfl rfl rfl) rfl rfl rfl) rfl rfl rfl)) rfl rfl rfl) rfl rfl rfl) rfl rfl rfl) ?_
            refine r_iload (pc' := 108) dX12_set_106 rfl (.tail _ (.tail _ (.tail _ (.tail _ (.tail _ (.tail _ (.head _))))))) ?_
            refine r_istore (pc' := 110) dX12_set_108 rfl rfl (.s1 (.s1 (.s1 (.s1 (.here (.s1 (.s1 .nil rfl rfl rfl) rfl rfl rfl)) rfl rfl rfl) rfl rfl rfl) rfl rfl rfl) rfl rfl rfl) ?_
            refine r_iinc (pc' := 113) dX12_set_110 rfl rfl (.tail _ (.tail _ (.tail _ (.tail _ (.tail _ (.head _)))))) (.s1 (.s1 (.s1 (.s1 (.s1 (.here (.s1 .nil rfl rfl rfl)) rfl rfl rfl) rfl rfl rfl) rfl rfl rfl) rfl rfl rfl) rfl rfl rfl) ?_
            refine r_goto (t := 34) dX12_set_113 (by decide) ?_
            refine r_sub (.kp (.kp (.kp (.kp (.kp (.kp (.dr .nil))))))) ?_
            first
              | (refine ih (s + 1) _ _ _ (by omega) ho hR hS ?_
                 rw [ch_set, if_pos ⟨f1, by omega⟩]; exact Or.inl ⟨f1, rfl, rfl⟩)
              | (refine ih (s + 1) _ _ _ (by omega) (ho.trans ho93.a) hR93 (hS.h ho93) ?_
                 rw [ch_set, if_neg hne, if_neg (by omega)]
                 first | exact Or.inl ⟨f1, rfl, rfl⟩ | exact Or.inr ⟨f1, rfl⟩)
              | (refine ih (s + 1) _ _ _ (by omega) (ho.trans ho93.a) hR93 (hS.h ho93) ?_
                 rw [ch_set, if_neg hne, if_pos (by omega)]
                 exact Or.inl ⟨rfl, rfl, rfl⟩)
          · refine r_goto (t := 110) dX12_set_100 (by decide) ?_
            refine r_iinc (pc' := 113) dX12_set_110 rfl rfl (.tail _ (.tail _ (.tail _ (.tail _ (.tail _ (.head _)))))) (.s1 (.s1 (.s1 (.s1 (.s1 (.here (.s1 .nil rfl rfl rfl)) rfl rfl rfl) rfl rfl rfl) rfl rfl rfl) rfl rfl rfl) rfl rfl rfl) ?_
            refine r_goto (t := 34) dX12_set_113 (by decide) ?_
            refine r_sub (.kp (.kp (.kp (.kp (.kp (.kp (.dr .nil))))))) ?_
            first
              | (refine ih (s + 1) _ _ _ (by omega) ho hR hS ?_
                 rw [ch_set, if_pos ⟨f1, by omega⟩]; exact Or.inl ⟨f1, rfl, rfl⟩)
              | (refine ih (s + 1) _ _ _ (by omega) (ho.trans ho93.a) hR93 (hS.h ho93) ?_
                 rw [ch_set, if_neg hne, if_neg (by omega)]
                 first | exact Or.inl ⟨f1, rfl, rfl⟩ | exact Or.inr ⟨f1, rfl⟩)
              | (refine ih (s + 1) _ _ _ (by omega) (ho.trans ho93.a) hR93 (hS.h ho93) ?_
                 rw [ch_set, if_neg hne, if_pos (by omega)]
                 exact Or.inl ⟨rfl, rfl, rfl⟩)
        · exfalso; omega
set_option maxHeartbeats 4000000 in
set_option maxRecDepth 100000 in
theorem tX12_set {l : Launch} {g : q_G} {n : Nat} {P : q_P} {X : q_X} {Y : q_Y} (hm : isMod n P) {C : q_X} {b : Nat} (hR : RB C b (xv X 468)) (hO : bOk C b) {goal v : Int} (hgo : q_in goal) (hv : q_in v) : q_Met l g mX12_set 7 [.ref (g.1 + 467), .int (zi goal), .int (zi v)] n P X Y (q_gi (fun r' n' P' X' Y' => n' = n ∧ P' = P ∧ Y' = Y ∧ aOut X X' ∧ r' = f_set C b goal v)) := by
  obtain ⟨m0, m2, m3, m8, m9, m14, m15, m16, m17, m18, m20, m22, m25, hnm9⟩ := id hm
  obtain ⟨o0, o1, o2, o3, o4, o5, o6, o10, oc, op0, opz, opi, om0, omi, olim⟩ := id hO
  refine q_enter (L := [(0, .ref (g.1 + 467)), (1, .int (zi goal)), (2, .int (zi v))]) (by decide) (Nat.le_of_ble_eq_true rfl) rfl ?_
  refine r_iload_n (i := 1) (pc' := 1) dX12_set_0 rfl rfl (.tail _ (.head _)) ?_
  refine r_S1p (pc' := 4) dX12_set_1 rfl lX12_330 (by decide) (Nat.le_of_ble_eq_true rfl) (tX12_isGoal (by omega)) ?_
  refine r_bif_eq (t := 17) (f := 7) dX12_set_4 (by decide) rfl (fun h4 => ?_) (fun h4 => ?_)
  · refine r_iconst (pc' := 18) dX12_set_17 rfl ?_
    refine r_ireturn dX12_set_18 rfl ?_
    refine ⟨_, rfl, rfl, rfl, rfl, aOut.rfl, ?_⟩
    unfold f_set
    rw [if_pos (by omega)]
  · refine r_iload_n (i := 2) (pc' := 8) dX12_set_7 rfl rfl (.tail _ (.tail _ (.head _))) ?_
    refine r_i2l (pc' := 9) dX12_set_8 rfl rfl ?_
    refine r_lconst (pc' := 10) (z := 0) dX12_set_9 rfl rfl ?_
    refine r_lconst (pc' := 11) (z := 1) dX12_set_10 rfl rfl ?_
    refine r_S3p (pc' := 14) dX12_set_11 rfl lX12_68 (by decide) (Nat.le_of_ble_eq_true rfl) (tX12_isIn (by first | exact li_z (by omega) | exact li_z (xv_in _ _ _) | rfl) (by first | exact li_z (by omega) | exact li_z (xv_in _ _ _) | rfl) (by first | exact li_z (by omega) | exact li_z (xv_in _ _ _) | rfl)) ?_
    try simp only [i64_0, i64_1, i64_2, i64_3, i64_4, i64_5, i64_6, i64_7, i64_10, i64_19, i64_40, i64_100, i64_364, i64_9999, i64_99999, i64_999999, i64_m999999]
    refine r_bif_ne (t := 19) (f := 17) dX12_set_14 (by decide) rfl (fun h14 => ?_) (fun h14 => ?_)
    · refine r_aload_n (i := 0) (pc' := 20) dX12_set_19 rfl rfl (.head _) ?_
      refine r_bipush (pc' := 22) dX12_set_20 rfl (by decide) ?_
      refine r_V1gv (ci := 12) (pc' := 25) dX12_set_22 rfl lX12_336 rfl (by decide) (Nat.le_of_ble_eq_true rfl) (by first | assumption | rfl) (by omega) (tX12_laySome (m := 10) hm hR hO (by omega)) (fun n22 P22 X22 Y22 e22 le22 => ?_)
      obtain ⟨h1v, h2v, h3v, ho, hS⟩ := e22
      subst h1v h2v h3v
      have hR2 : RB C b (xv X22 468) := by rw [ho.v (by omega)]; exact hR
      refine r_bipush (pc' := 27) dX12_set_25 rfl (by decide) ?_
      refine r_istore_n (i := 3) (pc' := 28) dX12_set_27 rfl rfl rfl (.s1 (.s1 (.s1 .nil rfl rfl rfl) rfl rfl rfl) rfl rfl rfl) ?_
      refine r_iconst (pc' := 29) dX12_set_28 rfl ?_
      refine r_istore (pc' := 31) dX12_set_29 rfl rfl (.s1 (.s1 (.s1 (.s1 .nil rfl rfl rfl) rfl rfl rfl) rfl rfl rfl) rfl rfl rfl) ?_
      refine r_iconst (pc' := 32) dX12_set_31 rfl ?_
      refine r_istore (pc' := 34) dX12_set_32 rfl rfl (.s1 (.s1 (.s1 (.s1 (.s1 .nil rfl rfl rfl) rfl rfl rfl) rfl rfl rfl) rfl rfl rfl) rfl rfl rfl) ?_
      rw [f_set, if_neg (by omega)]
      exact lX12_set hm hO (LOk_who (by omega)) hgo (by omega) rfl _ 0 _ _ _ (Nat.zero_add _) ho hR2 hS (Or.inr ⟨rfl, rfl⟩)
    · refine r_iconst (pc' := 18) dX12_set_17 rfl ?_
      refine r_ireturn dX12_set_18 rfl ?_
      refine ⟨_, rfl, rfl, rfl, rfl, aOut.rfl, ?_⟩
      unfold f_set
      rw [if_pos (by omega)]
