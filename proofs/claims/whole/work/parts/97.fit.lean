def fRs (bt bu lt : Int) (r : Bool × Int × Nat × Nat) : Prop := (r.1 = true ∧ bt = (r.2.2.1 : Int) ∧ bu = (r.2.2.2 : Int) ∧ lt = r.2.1) ∨ (r.1 = false ∧ bt = -2)
theorem ch_fit_c {C : q_X} {b : Nat} {L : List Nat} (hL : L.length ≤ 10) (goal : Int) : ∀ s, (ch_fit C b L goal s).2.2.1 < 1024
  | 0 => by simp [ch_fit]
  | s + 1 => by
    have h1 := ch_fit_c (C := C) (b := b) hL goal s
    have h2 := dgN_b 1 s L.length hL
    rw [ch_fit]
    (repeat' split) <;> first | exact h1 | exact h2
set_option maxHeartbeats 4000000 in
set_option maxRecDepth 100000 in
theorem l0X12_fit {l : Launch} {g : q_G} {n : Nat} {P : q_P} {X : q_X} {Y : q_Y} (hm : isMod n P) {K : q_K} {goal v bt bu lt : Int} {z : Nat} (hz : xv X 467 21 = (z : Int)) (hz6 : z ≤ 6) (kk : q_Tr l g mX12_fit 7 K 66 [(0, .ref (g.1 + 467)), (1, .int (zi goal)), (2, .int (zi v)), (3, .int (zi bt)), (4, .int (zi bu)), (5, .int (zi lt)), (6, .int (zi ((3 ^ z : Nat) : Int))), (7, .int (zi 0))] [] n P X Y) : ∀ (w i : Nat), i + w = z → q_Tr l g mX12_fit 7 K 42 [(0, .ref (g.1 + 467)), (1, .int (zi goal)), (2, .int (zi v)), (3, .int (zi bt)), (4, .int (zi bu)), (5, .int (zi lt)), (6, .int (zi ((3 ^ i : Nat) : Int))), (7, .int (zi (i : Int)))] [] n P X Y := by
  obtain ⟨m0, m2, m3, m8, m9, m14, m15, m16, m17, m18, m20, m22, m25, hnm9⟩ := id hm
  intro w
  induction w with
  | zero =>
    intro i hi
    obtain rfl : i = z := by omega
    refine r_iload (pc' := 44) dX12_fit_42 rfl (.tail _ (.tail _ (.tail _ (.tail _ (.tail _ (.tail _ (.tail _ (.head _)))))))) ?_
    refine r_aload_n (i := 0) (pc' := 45) dX12_fit_44 rfl rfl (.head _) ?_
    refine r_getI (pc' := 48) dX12_fit_45 rfl fX12_333 rfl (by first | assumption | rfl) (by omega) ?_
    rw [hz]
    refine r_icmp_ge (t := 63) (f := 51) dX12_fit_48 (by decide) rfl (by first | omega | exact xv_in _ _ _) (by first | omega | exact xv_in _ _ _) (fun h48 => ?_) (fun h48 => ?_)
    · refine r_iconst (pc' := 64) dX12_fit_63 rfl ?_
      refine r_istore (pc' := 66) dX12_fit_64 rfl rfl (.s1 (.s1 (.s1 (.s1 (.s1 (.s1 (.s1 (.here .nil) rfl rfl rfl) rfl rfl rfl) rfl rfl rfl) rfl rfl rfl) rfl rfl rfl) rfl rfl rfl) rfl rfl rfl) ?_
      exact kk
    · exfalso; omega
  | succ w ih =>
    intro i hi
    have ih := ih (i + 1) (by omega)
    rw [Nat.pow_succ] at ih
    refine r_iload (pc' := 44) dX12_fit_42 rfl (.tail _ (.tail _ (.tail _ (.tail _ (.tail _ (.tail _ (.tail _ (.head _)))))))) ?_
    refine r_aload_n (i := 0) (pc' := 45) dX12_fit_44 rfl rfl (.head _) ?_
    refine r_getI (pc' := 48) dX12_fit_45 rfl fX12_333 rfl (by first | assumption | rfl) (by omega) ?_
    rw [hz]
    refine r_icmp_ge (t := 63) (f := 51) dX12_fit_48 (by decide) rfl (by first | omega | exact xv_in _ _ _) (by first | omega | exact xv_in _ _ _) (fun h48 => ?_) (fun h48 => ?_)
    · exfalso; omega
    · refine r_iload (pc' := 53) dX12_fit_51 rfl (.tail _ (.tail _ (.tail _ (.tail _ (.tail _ (.tail _ (.head _))))))) ?_
      refine r_iconst (pc' := 54) dX12_fit_53 rfl ?_
      refine r_imul (pc' := 55) dX12_fit_54 rfl ?_
      refine r_istore (pc' := 57) dX12_fit_55 rfl rfl (.s1 (.s1 (.s1 (.s1 (.s1 (.s1 (.here (.s1 .nil rfl rfl rfl)) rfl rfl rfl) rfl rfl rfl) rfl rfl rfl) rfl rfl rfl) rfl rfl rfl) rfl rfl rfl) ?_
      refine r_iinc (pc' := 60) dX12_fit_57 rfl rfl (.tail _ (.tail _ (.tail _ (.tail _ (.tail _ (.tail _ (.tail _ (.head _)))))))) (.s1 (.s1 (.s1 (.s1 (.s1 (.s1 (.s1 (.here .nil) rfl rfl rfl) rfl rfl rfl) rfl rfl rfl) rfl rfl rfl) rfl rfl rfl) rfl rfl rfl) rfl rfl rfl) ?_
      refine r_goto (t := 42) dX12_fit_60 (by decide) ?_
      exact ih
set_option maxHeartbeats 4000000 in
set_option maxRecDepth 100000 in
theorem l1X12_fit {l : Launch} {g : q_G} {n : Nat} {P : q_P} {X : q_X} {Y : q_Y} (hm : isMod n P) {K : q_K} {goal v bt bu lt q6 : Int} {s z : Nat} (hs : s < 100000) (hz : xv X 467 21 = (z : Int)) (hz6 : z ≤ 6) (kk : q_Tr l g mX12_fit 7 K 149 [(0, .ref (g.1 + 467)), (1, .int (zi goal)), (2, .int (zi v)), (3, .int (zi bt)), (4, .int (zi bu)), (5, .int (zi lt)), (6, .int (zi q6)), (7, .int (zi (s : Int))), (8, .int (zi (dgN 1 s z : Int))), (9, .int (zi (dgN 2 s z : Int)))] [] n P X Y) : ∀ (w i : Nat), i + w = z → q_Tr l g mX12_fit 7 K 86 [(0, .ref (g.1 + 467)), (1, .int (zi goal)), (2, .int (zi v)), (3, .int (zi bt)), (4, .int (zi bu)), (5, .int (zi lt)), (6, .int (zi q6)), (7, .int (zi (s : Int))), (8, .int (zi (dgN 1 s i : Int))), (9, .int (zi (dgN 2 s i : Int))), (10, .int (zi ((s / 3 ^ i : Nat) : Int))), (11, .int (zi (i : Int)))] [] n P X Y := by
  obtain ⟨m0, m2, m3, m8, m9, m14, m15, m16, m17, m18, m20, m22, m25, hnm9⟩ := id hm
  intro w
  induction w with
  | zero =>
    intro i hi
    obtain rfl : i = z := by omega
    refine r_iload (pc' := 88) dX12_fit_86 rfl (.tail _ (.tail _ (.tail _ (.tail _ (.tail _ (.tail _ (.tail _ (.tail _ (.tail _ (.tail _ (.tail _ (.head _)))))))))))) ?_
    refine r_aload_n (i := 0) (pc' := 89) dX12_fit_88 rfl rfl (.head _) ?_
    refine r_getI (pc' := 92) dX12_fit_89 rfl fX12_333 rfl (by first | assumption | rfl) (by omega) ?_
    rw [hz]
    refine r_icmp_ge (t := 149) (f := 95) dX12_fit_92 (by decide) rfl (by first | omega | exact xv_in _ _ _) (by first | omega | exact xv_in _ _ _) (fun h92 => ?_) (fun h92 => ?_)
    · refine r_sub (.kp (.kp (.kp (.kp (.kp (.kp (.kp (.kp (.kp (.kp (.dr (.dr .nil)))))))))))) ?_
      exact kk
    · exfalso; omega
  | succ w ih =>
    intro i hi
    have hrb : s / 3 ^ i ≤ s := Nat.div_le_self _ _
    have e1 : s / 3 ^ (i + 1) = s / 3 ^ i / 3 := by rw [Nat.pow_succ, Nat.div_div_eq_div_mul]
    have e2 : dgN 1 s (i + 1) = dgN 1 s i + if s / 3 ^ i % 3 = 1 then 2 ^ i else 0 := rfl
    have e3 : dgN 2 s (i + 1) = dgN 2 s i + if s / 3 ^ i % 3 = 2 then 2 ^ i else 0 := rfl
    have ih := ih (i + 1) (by omega)
    have hl1 := dgN_lt 1 s i
    have hl2 := dgN_lt 2 s i
    rw [e1, e2, e3] at ih
    generalize s / 3 ^ i = r at *
    generalize dgN 1 s i = D1 at *
    generalize dgN 2 s i = D2 at *
    refine r_iload (pc' := 88) dX12_fit_86 rfl (.tail _ (.tail _ (.tail _ (.tail _ (.tail _ (.tail _ (.tail _ (.tail _ (.tail _ (.tail _ (.tail _ (.head _)))))))))))) ?_
    refine r_aload_n (i := 0) (pc' := 89) dX12_fit_88 rfl rfl (.head _) ?_
    refine r_getI (pc' := 92) dX12_fit_89 rfl fX12_333 rfl (by first | assumption | rfl) (by omega) ?_
    rw [hz]
    refine r_icmp_ge (t := 149) (f := 95) dX12_fit_92 (by decide) rfl (by first | omega | exact xv_in _ _ _) (by first | omega | exact xv_in _ _ _) (fun h92 => ?_) (fun h92 => ?_)
    · exfalso; omega
    · rcases (show r % 3 = 1 ∨ r % 3 = 2 ∨ r % 3 = 0 by omega) with h3 | h3 | h3
      · refine r_iload (pc' := 97) dX12_fit_95 rfl (.tail _ (.tail _ (.tail _ (.tail _ (.tail _ (.tail _ (.tail _ (.tail _ (.head _))))))))) ?_
        refine r_iload (pc' := 99) dX12_fit_97 rfl (.tail _ (.tail _ (.tail _ (.tail _ (.tail _ (.tail _ (.tail _ (.tail _ (.tail _ (.tail _ (.head _))))))))))) ?_
        refine r_iconst (pc' := 100) dX12_fit_99 rfl ?_
        refine r_irem (pc' := 101) dX12_fit_100 rfl (by first | omega | exact xv_in _ _ _) (by first | omega | exact xv_in _ _ _) (by omega) ?_
        rw [show ((r : Nat) : Int).tmod 3 = ((r % 3 : Nat) : Int) from rfl]
        refine r_iconst (pc' := 102) dX12_fit_101 rfl ?_
        refine r_icmp_ne (t := 112) (f := 105) dX12_fit_102 (by decide) rfl (by first | omega | exact xv_in _ _ _) (by first | omega | exact xv_in _ _ _) (fun h102 => ?_) (fun h102 => ?_)
        · exfalso; omega
        · refine r_iconst (pc' := 106) dX12_fit_105 rfl ?_
          refine r_iload (pc' := 108) dX12_fit_106 rfl (.tail _ (.tail _ (.tail _ (.tail _ (.tail _ (.tail _ (.tail _ (.tail _ (.tail _ (.tail _ (.tail _ (.head _)))))))))))) ?_
          refine r_ishl (pc' := 109) dX12_fit_108 rfl (zi_shl1 i (by omega)) ?_
          refine r_goto (t := 113) dX12_fit_109 (by decide) ?_
          refine r_ior (pc' := 114) dX12_fit_113 rfl (zi_or1 (by omega) hl1) ?_
          refine r_istore (pc' := 116) dX12_fit_114 rfl rfl (.s1 (.s1 (.s1 (.s1 (.s1 (.s1 (.s1 (.s1 (.here (.s1 (.s1 (.s1 .nil rfl rfl rfl) rfl rfl rfl) rfl rfl rfl)) rfl rfl rfl) rfl rfl rfl) rfl rfl rfl) rfl rfl rfl) rfl rfl rfl) rfl rfl rfl) rfl rfl rfl) rfl rfl rfl) ?_
          refine r_iload (pc' := 118) dX12_fit_116 rfl (.tail _ (.tail _ (.tail _ (.tail _ (.tail _ (.tail _ (.tail _ (.tail _ (.tail _ (.head _)))))))))) ?_
          refine r_iload (pc' := 120) dX12_fit_118 rfl (.tail _ (.tail _ (.tail _ (.tail _ (.tail _ (.tail _ (.tail _ (.tail _ (.tail _ (.tail _ (.head _))))))))))) ?_
          refine r_iconst (pc' := 121) dX12_fit_120 rfl ?_
          refine r_irem (pc' := 122) dX12_fit_121 rfl (by first | omega | exact xv_in _ _ _) (by first | omega | exact xv_in _ _ _) (by omega) ?_
          rw [show ((r : Nat) : Int).tmod 3 = ((r % 3 : Nat) : Int) from rfl]
          refine r_iconst (pc' := 123) dX12_fit_122 rfl ?_
          refine r_icmp_ne (t := 133) (f := 126) dX12_fit_123 (by decide) rfl (by first | omega | exact xv_in _ _ _) (by first | omega | exact xv_in _ _ _) (fun h123 => ?_) (fun h123 => ?_)
          · refine r_iconst (pc' := 134) dX12_fit_133 rfl ?_
            refine r_ior (pc' := 135) dX12_fit_134 rfl (zi_or0 _) ?_
            refine r_istore (pc' := 137) dX12_fit_135 rfl rfl (.s1 (.s1 (.s1 (.s1 (.s1 (.s1 (.s1 (.s1 (.s1 (.here (.s1 (.s1 .nil rfl rfl rfl) rfl rfl rfl)) rfl rfl rfl) rfl rfl rfl) rfl rfl rfl) rfl rfl rfl) rfl rfl rfl) rfl rfl rfl) rfl rfl rfl) rfl rfl rfl) rfl rfl rfl) ?_
            refine r_iload (pc' := 139) dX12_fit_137 rfl (.tail _ (.tail _ (.tail _ (.tail _ (.tail _ (.tail _ (.tail _ (.tail _ (.tail _ (.tail _ (.head _))))))))))) ?_
            refine r_iconst (pc' := 140) dX12_fit_139 rfl ?_
            refine r_idiv (pc' := 141) dX12_fit_140 rfl (by first | omega | exact xv_in _ _ _) (by first | omega | exact xv_in _ _ _) (by omega) ?_
            rw [show ((r : Nat) : Int).tdiv 3 = ((r / 3 : Nat) : Int) from rfl]
            refine r_istore (pc' := 143) dX12_fit_141 rfl rfl (.s1 (.s1 (.s1 (.s1 (.s1 (.s1 (.s1 (.s1 (.s1 (.s1 (.here (.s1 .nil rfl rfl rfl)) rfl rfl rfl) rfl rfl rfl) rfl rfl rfl) rfl rfl rfl) rfl rfl rfl) rfl rfl rfl) rfl rfl rfl) rfl rfl rfl) rfl rfl rfl) rfl rfl rfl) ?_
            refine r_iinc (pc' := 146) dX12_fit_143 rfl rfl (.tail _ (.tail _ (.tail _ (.tail _ (.tail _ (.tail _ (.tail _ (.tail _ (.tail _ (.tail _ (.tail _ (.head _)))))))))))) (.s1 (.s1 (.s1 (.s1 (.s1 (.s1 (.s1 (.s1 (.s1 (.s1 (.s1 (.here .nil) rfl rfl rfl) rfl rfl rfl) rfl rfl rfl) rfl rfl rfl) rfl rfl rfl) rfl rfl rfl) rfl rfl rfl) rfl rfl rfl) rfl rfl rfl) rfl rfl rfl) rfl rfl rfl) ?_
            refine r_goto (t := 86) dX12_fit_146 (by decide) ?_
            rw [if_pos h3, if_neg (by omega), Nat.add_zero] at ih
            exact ih
          · exfalso; omega
      · refine r_iload (pc' := 97) dX12_fit_95 rfl (.tail _ (.tail _ (.tail _ (.tail _ (.tail _ (.tail _ (.tail _ (.tail _ (.head _))))))))) ?_
        refine r_iload (pc' := 99) dX12_fit_97 rfl (.tail _ (.tail _ (.tail _ (.tail _ (.tail _ (.tail _ (.tail _ (.tail _ (.tail _ (.tail _ (.head _))))))))))) ?_
        refine r_iconst (pc' := 100) dX12_fit_99 rfl ?_
        refine r_irem (pc' := 101) dX12_fit_100 rfl (by first | omega | exact xv_in _ _ _) (by first | omega | exact xv_in _ _ _) (by omega) ?_
        rw [show ((r : Nat) : Int).tmod 3 = ((r % 3 : Nat) : Int) from rfl]
        refine r_iconst (pc' := 102) dX12_fit_101 rfl ?_
        refine r_icmp_ne (t := 112) (f := 105) dX12_fit_102 (by decide) rfl (by first | omega | exact xv_in _ _ _) (by first | omega | exact xv_in _ _ _) (fun h102 => ?_) (fun h102 => ?_)
        · refine r_iconst (pc' := 113) dX12_fit_112 rfl ?_
          refine r_ior (pc' := 114) dX12_fit_113 rfl (zi_or0 _) ?_
          refine r_istore (pc' := 116) dX12_fit_114 rfl rfl (.s1 (.s1 (.s1 (.s1 (.s1 (.s1 (.s1 (.s1 (.here (.s1 (.s1 (.s1 .nil rfl rfl rfl) rfl rfl rfl) rfl rfl rfl)) rfl rfl rfl) rfl rfl rfl) rfl rfl rfl) rfl rfl rfl) rfl rfl rfl) rfl rfl rfl) rfl rfl rfl) rfl rfl rfl) ?_
          refine r_iload (pc' := 118) dX12_fit_116 rfl (.tail _ (.tail _ (.tail _ (.tail _ (.tail _ (.tail _ (.tail _ (.tail _ (.tail _ (.head _)))))))))) ?_
          refine r_iload (pc' := 120) dX12_fit_118 rfl (.tail _ (.tail _ (.tail _ (.tail _ (.tail _ (.tail _ (.tail _ (.tail _ (.tail _ (.tail _ (.head _))))))))))) ?_
          refine r_iconst (pc' := 121) dX12_fit_120 rfl ?_
          refine r_irem (pc' := 122) dX12_fit_121 rfl (by first | omega | exact xv_in _ _ _) (by first | omega | exact xv_in _ _ _) (by omega) ?_
          rw [show ((r : Nat) : Int).tmod 3 = ((r % 3 : Nat) : Int) from rfl]
          refine r_iconst (pc' := 123) dX12_fit_122 rfl ?_
          refine r_icmp_ne (t := 133) (f := 126) dX12_fit_123 (by decide) rfl (by first | omega | exact xv_in _ _ _) (by first | omega | exact xv_in _ _ _) (fun h123 => ?_) (fun h123 => ?_)
          · exfalso; omega
          · refine r_iconst (pc' := 127) dX12_fit_126 rfl ?_
            refine r_iload (pc' := 129) dX12_fit_127 rfl (.tail _ (.tail _ (.tail _ (.tail _ (.tail _ (.tail _ (.tail _ (.tail _ (.tail _ (.tail _ (.tail _ (.head _)))))))))))) ?_
            refine r_ishl (pc' := 130) dX12_fit_129 rfl (zi_shl1 i (by omega)) ?_
            refine r_goto (t := 134) dX12_fit_130 (by decide) ?_
            refine r_ior (pc' := 135) dX12_fit_134 rfl (zi_or1 (by omega) hl2) ?_
            refine r_istore (pc' := 137) dX12_fit_135 rfl rfl (.s1 (.s1 (.s1 (.s1 (.s1 (.s1 (.s1 (.s1 (.s1 (.here (.s1 (.s1 .nil rfl rfl rfl) rfl rfl rfl)) rfl rfl rfl) rfl rfl rfl) rfl rfl rfl) rfl rfl rfl) rfl rfl rfl) rfl rfl rfl) rfl rfl rfl) rfl rfl rfl) rfl rfl rfl) ?_
            refine r_iload (pc' := 139) dX12_fit_137 rfl (.tail _ (.tail _ (.tail _ (.tail _ (.tail _ (.tail _ (.tail _ (.tail _ (.tail _ (.tail _ (.head _))))))))))) ?_
            refine r_iconst (pc' := 140) dX12_fit_139 rfl ?_
            refine r_idiv (pc' := 141) dX12_fit_140 rfl (by first | omega | exact xv_in _ _ _) (by first | omega | exact xv_in _ _ _) (by omega) ?_
            rw [show ((r : Nat) : Int).tdiv 3 = ((r / 3 : Nat) : Int) from rfl]
            refine r_istore (pc' := 143) dX12_fit_141 rfl rfl (.s1 (.s1 (.s1 (.s1 (.s1 (.s1 (.s1 (.s1 (.s1 (.s1 (.here (.s1 .nil rfl rfl rfl)) rfl rfl rfl) rfl rfl rfl) rfl rfl rfl) rfl rfl rfl) rfl rfl rfl) rfl rfl rfl) rfl rfl rfl) rfl rfl rfl) rfl rfl rfl) rfl rfl rfl) ?_
            refine r_iinc (pc' := 146) dX12_fit_143 rfl rfl (.tail _ (.tail _ (.tail _ (.tail _ (.tail _ (.tail _ (.tail _ (.tail _ (.tail _ (.tail _ (.tail _ (.head _)))))))))))) (.s1 (.s1 (.s1 (.s1 (.s1 (.s1 (.s1 (.s1 (.s1 (.s1 (.s1 (.here .nil) rfl rfl rfl) rfl rfl rfl) rfl rfl rfl) rfl rfl rfl) rfl rfl rfl) rfl rfl rfl) rfl rfl rfl) rfl rfl rfl) rfl rfl rfl) rfl rfl rfl) rfl rfl rfl) ?_
            refine r_goto (t := 86) dX12_fit_146 (by decide) ?_
            rw [if_neg (by omega), if_pos h3, Nat.add_zero] at ih
            exact ih
        · exfalso; omega
      · refine r_iload (pc' := 97) dX12_fit_95 rfl (.tail _ (.tail _ (.tail _ (.tail _ (.tail _ (.tail _ (.tail _ (.tail _ (.head _))))))))) ?_
        refine r_iload (pc' := 99) dX12_fit_97 rfl (.tail _ (.tail _ (.tail _ (.tail _ (.tail _ (.tail _ (.tail _ (.tail _ (.tail _ (.tail _ (.head _))))))))))) ?_
        refine r_iconst (pc' := 100) dX12_fit_99 rfl ?_
        refine r_irem (pc' := 101) dX12_fit_100 rfl (by first | omega | exact xv_in _ _ _) (by first | omega | exact xv_in _ _ _) (by omega) ?_
        rw [show ((r : Nat) : Int).tmod 3 = ((r % 3 : Nat) : Int) from rfl]
        refine r_iconst (pc' := 102) dX12_fit_101 rfl ?_
        refine r_icmp_ne (t := 112) (f := 105) dX12_fit_102 (by decide) rfl (by first | omega | exact xv_in _ _ _) (by first | omega | exact xv_in _ _ _) (fun h102 => ?_) (fun h102 => ?_)
        · refine r_iconst (pc' := 113) dX12_fit_112 rfl ?_
          refine r_ior (pc' := 114) dX12_fit_113 rfl (zi_or0 _) ?_
          refine r_istore (pc' := 116) dX12_fit_114 rfl rfl (.s1 (.s1 (.s1 (.s1 (.s1 (.s1 (.s1 (.s1 (.here (.s1 (.s1 (.s1 .nil rfl rfl rfl) rfl rfl rfl) rfl rfl rfl)) rfl rfl rfl) rfl rfl rfl) rfl rfl rfl) rfl rfl rfl) rfl rfl rfl) rfl rfl rfl) rfl rfl rfl) rfl rfl rfl) ?_
          refine r_iload (pc' := 118) dX12_fit_116 rfl (.tail _ (.tail _ (.tail _ (.tail _ (.tail _ (.tail _ (.tail _ (.tail _ (.tail _ (.head _)))))))))) ?_
          refine r_iload (pc' := 120) dX12_fit_118 rfl (.tail _ (.tail _ (.tail _ (.tail _ (.tail _ (.tail _ (.tail _ (.tail _ (.tail _ (.tail _ (.head _))))))))))) ?_
          refine r_iconst (pc' := 121) dX12_fit_120 rfl ?_
          refine r_irem (pc' := 122) dX12_fit_121 rfl (by first | omega | exact xv_in _ _ _) (by first | omega | exact xv_in _ _ _) (by omega) ?_
          rw [show ((r : Nat) : Int).tmod 3 = ((r % 3 : Nat) : Int) from rfl]
          refine r_iconst (pc' := 123) dX12_fit_122 rfl ?_
          refine r_icmp_ne (t := 133) (f := 126) dX12_fit_123 (by decide) rfl (by first | omega | exact xv_in _ _ _) (by first | omega | exact xv_in _ _ _) (fun h123 => ?_) (fun h123 => ?_)
          · refine r_iconst (pc' := 134) dX12_fit_133 rfl ?_
            refine r_ior (pc' := 135) dX12_fit_134 rfl (zi_or0 _) ?_
            refine r_istore (pc' := 137) dX12_fit_135 rfl rfl (.s1 (.s1 (.s1 (.s1 (.s1 (.s1 (.s1 (.s1 (.s1 (.here (.s1 (.s1 .nil rfl rfl rfl) rfl rfl rfl)) rfl rfl rfl) rfl rfl rfl) rfl rfl rfl) rfl rfl rfl) rfl rfl rfl) rfl rfl rfl) rfl rfl rfl) rfl rfl rfl) rfl rfl rfl) ?_
            refine r_iload (pc' := 139) dX12_fit_137 rfl (.tail _ (.tail _ (.tail _ (.tail _ (.tail _ (.tail _ (.tail _ (.tail _ (.tail _ (.tail _ (.head _))))))))))) ?_
            refine r_iconst (pc' := 140) dX12_fit_139 rfl ?_
            refine r_idiv (pc' := 141) dX12_fit_140 rfl (by first | omega | exact xv_in _ _ _) (by first | omega | exact xv_in _ _ _) (by omega) ?_
            rw [show ((r : Nat) : Int).tdiv 3 = ((r / 3 : Nat) : Int) from rfl]
            refine r_istore (pc' := 143) dX12_fit_141 rfl rfl (.s1 (.s1 (.s1 (.s1 (.s1 (.s1 (.s1 (.s1 (.s1 (.s1 (.here (.s1 .nil rfl rfl rfl)) rfl rfl rfl) rfl rfl rfl) rfl rfl rfl) rfl rfl rfl) rfl rfl rfl) rfl rfl rfl) rfl rfl rfl) rfl rfl rfl) rfl rfl rfl) rfl rfl rfl) ?_
            refine r_iinc (pc' := 146) dX12_fit_143 rfl rfl (.tail _ (.tail _ (.tail _ (.tail _ (.tail _ (.tail _ (.tail _ (.tail _ (.tail _ (.tail _ (.tail _ (.head _)))))))))))) (.s1 (.s1 (.s1 (.s1 (.s1 (.s1 (.s1 (.s1 (.s1 (.s1 (.s1 (.here .nil) rfl rfl rfl) rfl rfl rfl) rfl rfl rfl) rfl rfl rfl) rfl rfl rfl) rfl rfl rfl) rfl rfl rfl) rfl rfl rfl) rfl rfl rfl) rfl rfl rfl) rfl rfl rfl) ?_
            refine r_goto (t := 86) dX12_fit_146 (by decide) ?_
            rw [if_neg (by omega), if_neg (by omega), Nat.add_zero, Nat.add_zero] at ih
            exact ih
          · exfalso; omega
        · exfalso; omega
set_option maxHeartbeats 4000000 in
set_option maxRecDepth 100000 in
theorem lX12_fit {l : Launch} {g : q_G} {n : Nat} {P : q_P} {Y : q_Y} (hm : isMod n P) {C : q_X} {b : Nat} (hO : bOk C b) {L : List Nat} (hL : LOk C b L) (hL6 : L.length ≤ 6) {goal v : Int} (hgo : q_in goal) (hv : 0 ≤ v ∧ v ≤ 2) {X0 : q_X} {Z : Nat} (hZe : 3 ^ L.length = Z) : ∀ (w s : Nat) (bt bu lt : Int) (X : q_X), s + w = Z → aOut X0 X → RB C b (xv X 468) → sL X L → fRs bt bu lt (ch_fit C b L goal s) → q_Tr l g mX12_fit 7 (q_gi (fun r' n' P' X' Y' => n' = n ∧ P' = P ∧ Y' = Y ∧ aOut X0 X' ∧ r' = (if (ch_fit C b L goal Z).1 = true then (if v = 0 then (ch_fit C b L goal Z).2.1 else if v = 1 then ((ch_fit C b L goal Z).2.2.1 : Int) else ((ch_fit C b L goal Z).2.2.2 : Int)) else -2))) 66 [(0, .ref (g.1 + 467)), (1, .int (zi goal)), (2, .int (zi v)), (3, .int (zi bt)), (4, .int (zi bu)), (5, .int (zi lt)), (6, .int (zi (Z : Int))), (7, .int (zi (s : Int)))] [] n P X Y := by
  obtain ⟨m0, m2, m3, m8, m9, m14, m15, m16, m17, m18, m20, m22, m25, hnm9⟩ := id hm
  obtain ⟨o0, o1, o2, o3, o4, o5, o6, o10, oc, op0, opz, opi, om0, omi, olim⟩ := id hO
  have hLl := hL.1
  have hZ : 3 ^ L.length ≤ 729 := Nat.pow_le_pow_right (n := 3) (by omega) hL6
  rw [hZe] at hZ
  intro w
  induction w with
  | zero =>
    intro s bt bu lt X hi ho hR hS hr
    obtain rfl : s = Z := by omega
    have hcc := ch_fit_c (C := C) (b := b) hLl goal s
    rcases hr with ⟨f1, rfl, rfl, rfl⟩ | ⟨f1, rfl⟩
    · refine r_iload (pc' := 68) dX12_fit_66 rfl (.tail _ (.tail _ (.tail _ (.tail _ (.tail _ (.tail _ (.tail _ (.head _)))))))) ?_
      refine r_iload (pc' := 70) dX12_fit_68 rfl (.tail _ (.tail _ (.tail _ (.tail _ (.tail _ (.tail _ (.head _))))))) ?_
      refine r_icmp_ge (t := 210) (f := 73) dX12_fit_70 (by decide) rfl (by first | omega | exact xv_in _ _ _) (by first | omega | exact xv_in _ _ _) (fun h70 => ?_) (fun h70 => ?_)
      · refine r_iload_n (i := 3) (pc' := 211) dX12_fit_210 rfl rfl (.tail _ (.tail _ (.tail _ (.head _)))) ?_
        refine r_bipush (pc' := 213) dX12_fit_211 rfl (by decide) ?_
        refine r_icmp_ne (t := 221) (f := 216) dX12_fit_213 (by decide) rfl (by first | omega | exact xv_in _ _ _) (by first | omega | exact xv_in _ _ _) (fun h213 => ?_) (fun h213 => ?_)
        · refine r_iload_n (i := 2) (pc' := 222) dX12_fit_221 rfl rfl (.tail _ (.tail _ (.head _))) ?_
          refine r_if_ne (t := 230) (f := 225) dX12_fit_222 (by decide) rfl (by first | omega | exact xv_in _ _ _) (fun h222 => ?_) (fun h222 => ?_)
          · refine r_iload_n (i := 2) (pc' := 231) dX12_fit_230 rfl rfl (.tail _ (.tail _ (.head _))) ?_
            refine r_iconst (pc' := 232) dX12_fit_231 rfl ?_
            refine r_icmp_ne (t := 239) (f := 235) dX12_fit_232 (by decide) rfl (by first | omega | exact xv_in _ _ _) (by first | omega | exact xv_in _ _ _) (fun h232 => ?_) (fun h232 => ?_)
            · refine r_iload (pc' := 241) dX12_fit_239 rfl (.tail _ (.tail _ (.tail _ (.tail _ (.head _))))) ?_
              refine r_ireturn dX12_fit_241 rfl ?_
              refine ⟨_, rfl, rfl, rfl, rfl, ho, ?_⟩
              rw [if_pos f1]
              first
                | (rw [if_pos (by omega)]; done)
                | (rw [if_neg (by omega), if_pos (by omega)]; done)
                | (rw [if_neg (by omega), if_neg (by omega)]; done)
            · refine r_iload_n (i := 3) (pc' := 236) dX12_fit_235 rfl rfl (.tail _ (.tail _ (.tail _ (.head _)))) ?_
              refine r_goto (t := 241) dX12_fit_236 (by decide) ?_
              refine r_ireturn dX12_fit_241 rfl ?_
              refine ⟨_, rfl, rfl, rfl, rfl, ho, ?_⟩
              rw [if_pos f1]
              first
                | (rw [if_pos (by omega)]; done)
                | (rw [if_neg (by omega), if_pos (by omega)]; done)
                | (rw [if_neg (by omega), if_neg (by omega)]; done)
          · refine r_iload (pc' := 227) dX12_fit_225 rfl (.tail _ (.tail _ (.tail _ (.tail _ (.tail _ (.head _)))))) ?_
            refine r_goto (t := 241) dX12_fit_227 (by decide) ?_
            refine r_ireturn dX12_fit_241 rfl ?_
            refine ⟨_, rfl, rfl, rfl, rfl, ho, ?_⟩
            rw [if_pos f1]
            first
              | (rw [if_pos (by omega)]; done)
              | (rw [if_neg (by omega), if_pos (by omega)]; done)
              | (rw [if_neg (by omega), if_neg (by omega)]; done)
        · exfalso; omega
      · exfalso; omega
    · refine r_iload (pc' := 68) dX12_fit_66 rfl (.tail _ (.tail _ (.tail _ (.tail _ (.tail _ (.tail _ (.tail _ (.head _)))))))) ?_
      refine r_iload (pc' := 70) dX12_fit_68 rfl (.tail _ (.tail _ (.tail _ (.tail _ (.tail _ (.tail _ (.head _))))))) ?_
      refine r_icmp_ge (t := 210) (f := 73) dX12_fit_70 (by decide) rfl (by first | omega | exact xv_in _ _ _) (by first | omega | exact xv_in _ _ _) (fun h70 => ?_) (fun h70 => ?_)
      · refine r_iload_n (i := 3) (pc' := 211) dX12_fit_210 rfl rfl (.tail _ (.tail _ (.tail _ (.head _)))) ?_
        refine r_bipush (pc' := 213) dX12_fit_211 rfl (by decide) ?_
        refine r_icmp_ne (t := 221) (f := 216) dX12_fit_213 (by decide) rfl (by first | omega | exact xv_in _ _ _) (by first | omega | exact xv_in _ _ _) (fun h213 => ?_) (fun h213 => ?_)
        · exfalso; omega
        · refine r_bipush (pc' := 218) dX12_fit_216 rfl (by decide) ?_
          refine r_goto (t := 241) dX12_fit_218 (by decide) ?_
          refine r_ireturn dX12_fit_241 rfl ?_
          refine ⟨_, rfl, rfl, rfl, rfl, ho, ?_⟩
          rw [if_neg (by rw [f1]; decide)]
      · exfalso; omega
  | succ w ih =>
    intro s bt bu lt X hi ho hR hS hr
    have b1 := dgN_b 1 s L.length hLl
    have b2 := dgN_b 2 s L.length hLl
    have hdb := ch_dead_b hO hL (dgN 1 s L.length)
    have hcc := ch_fit_c (C := C) (b := b) hLl goal s
    have ih := ih (s + 1)
    rw [ch_fit] at ih
    refine r_iload (pc' := 68) dX12_fit_66 rfl (.tail _ (.tail _ (.tail _ (.tail _ (.tail _ (.tail _ (.tail _ (.head _)))))))) ?_
    refine r_iload (pc' := 70) dX12_fit_68 rfl (.tail _ (.tail _ (.tail _ (.tail _ (.tail _ (.tail _ (.head _))))))) ?_
    refine r_icmp_ge (t := 210) (f := 73) dX12_fit_70 (by decide) rfl (by first | omega | exact xv_in _ _ _) (by first | omega | exact xv_in _ _ _) (fun h70 => ?_) (fun h70 => ?_)
    · exfalso; omega
    · refine r_iconst (pc' := 74) dX12_fit_73 rfl ?_
      refine r_istore (pc' := 76) dX12_fit_74 rfl rfl (.s1 (.s1 (.s1 (.s1 (.s1 (.s1 (.s1 (.s1 .nil rfl rfl rfl) rfl rfl rfl) rfl rfl rfl) rfl rfl rfl) rfl rfl rfl) rfl rfl rfl) rfl rfl rfl) rfl rfl rfl) ?_
      refine r_iconst (pc' := 77) dX12_fit_76 rfl ?_
      refine r_istore (pc' := 79) dX12_fit_77 rfl rfl (.s1 (.s1 (.s1 (.s1 (.s1 (.s1 (.s1 (.s1 (.s1 .nil rfl rfl rfl) rfl rfl rfl) rfl rfl rfl) rfl rfl rfl) rfl rfl rfl) rfl rfl rfl) rfl rfl rfl) rfl rfl rfl) rfl rfl rfl) ?_
      refine r_iload (pc' := 81) dX12_fit_79 rfl (.tail _ (.tail _ (.tail _ (.tail _ (.tail _ (.tail _ (.tail _ (.head _)))))))) ?_
      refine r_istore (pc' := 83) dX12_fit_81 rfl rfl (.s1 (.s1 (.s1 (.s1 (.s1 (.s1 (.s1 (.s1 (.s1 (.s1 .nil rfl rfl rfl) rfl rfl rfl) rfl rfl rfl) rfl rfl rfl) rfl rfl rfl) rfl rfl rfl) rfl rfl rfl) rfl rfl rfl) rfl rfl rfl) rfl rfl rfl) ?_
      refine r_iconst (pc' := 84) dX12_fit_83 rfl ?_
      refine r_istore (pc' := 86) dX12_fit_84 rfl rfl (.s1 (.s1 (.s1 (.s1 (.s1 (.s1 (.s1 (.s1 (.s1 (.s1 (.s1 .nil rfl rfl rfl) rfl rfl rfl) rfl rfl rfl) rfl rfl rfl) rfl rfl rfl) rfl rfl rfl) rfl rfl rfl) rfl rfl rfl) rfl rfl rfl) rfl rfl rfl) rfl rfl rfl) ?_
      have hin := l1X12_fit (l := l) (g := g) (Y := Y) (K := q_gi (fun r' n' P' X' Y' => n' = n ∧ P' = P ∧ Y' = Y ∧ aOut X0 X' ∧ r' = (if (ch_fit C b L goal Z).1 = true then (if v = 0 then (ch_fit C b L goal Z).2.1 else if v = 1 then ((ch_fit C b L goal Z).2.2.1 : Int) else ((ch_fit C b L goal Z).2.2.2 : Int)) else -2))) (goal := goal) (v := v) (bt := bt) (bu := bu) (lt := lt) (q6 := (Z : Int)) (s := s) hm (by omega) hS.1 hL6
      generalize hc1 : dgN 1 s L.length = cu at *
      generalize hc2 : dgN 2 s L.length = tu at *
      have hi0 := hin ?_ L.length 0 (Nat.zero_add _)
      · rw [Nat.pow_zero, Nat.div_one] at hi0
        exact hi0
      refine r_aload_n (i := 0) (pc' := 150) dX12_fit_149 rfl rfl (.head _) ?_
      refine r_iload (pc' := 152) dX12_fit_150 rfl (.tail _ (.tail _ (.tail _ (.tail _ (.tail _ (.tail _ (.tail _ (.tail _ (.head _))))))))) ?_
      refine r_V1p (ci := 12) (pc' := 155) dX12_fit_152 rfl lX12_339 rfl (by decide) (Nat.le_of_ble_eq_true rfl) (by first | assumption | rfl) (by omega) (tX12_deadOf hm hR hO hS hL (st := cu) (by omega)) ?_
      rw [← p_sumS, ← ch_dead]
      refine r_istore (pc' := 157) dX12_fit_155 rfl rfl (.s1 (.s1 (.s1 (.s1 (.s1 (.s1 (.s1 (.s1 (.s1 (.s1 .nil rfl rfl rfl) rfl rfl rfl) rfl rfl rfl) rfl rfl rfl) rfl rfl rfl) rfl rfl rfl) rfl rfl rfl) rfl rfl rfl) rfl rfl rfl) rfl rfl rfl) ?_
      rcases hr with ⟨f1, rfl, rfl, rfl⟩ | ⟨f1, rfl⟩
      · have hlb := ch_fit_d hO hL goal s
        refine r_iload_n (i := 3) (pc' := 158) dX12_fit_157 rfl rfl (.tail _ (.tail _ (.tail _ (.head _)))) ?_
        refine r_bipush (pc' := 160) dX12_fit_158 rfl (by decide) ?_
        refine r_icmp_eq (t := 170) (f := 163) dX12_fit_160 (by decide) rfl (by first | omega | exact nz_in _ | exact xv_in _ _ _) (by first | omega | exact nz_in _ | exact xv_in _ _ _) (fun h160 => ?_) (fun h160 => ?_)
        · exfalso; omega
        · refine r_iload (pc' := 165) dX12_fit_163 rfl (.tail _ (.tail _ (.tail _ (.tail _ (.tail _ (.tail _ (.tail _ (.tail _ (.tail _ (.tail _ (.head _))))))))))) ?_
          refine r_iload (pc' := 167) dX12_fit_165 rfl (.tail _ (.tail _ (.tail _ (.tail _ (.tail _ (.head _)))))) ?_
          refine r_icmp_ge (t := 204) (f := 170) dX12_fit_167 (by decide) rfl (by first | omega | exact nz_in _ | exact xv_in _ _ _) (by first | omega | exact nz_in _ | exact xv_in _ _ _) (fun h167 => ?_) (fun h167 => ?_)
          · refine r_iinc (pc' := 207) dX12_fit_204 rfl rfl (.tail _ (.tail _ (.tail _ (.tail _ (.tail _ (.tail _ (.tail _ (.head _)))))))) (.s1 (.s1 (.s1 (.s1 (.s1 (.s1 (.s1 (.here (.s1 (.s1 (.s1 .nil rfl rfl rfl) rfl rfl rfl) rfl rfl rfl)) rfl rfl rfl) rfl rfl rfl) rfl rfl rfl) rfl rfl rfl) rfl rfl rfl) rfl rfl rfl) rfl rfl rfl) ?_
            refine r_goto (t := 66) dX12_fit_207 (by decide) ?_
            refine r_sub (.kp (.kp (.kp (.kp (.kp (.kp (.kp (.kp (.dr (.dr (.dr .nil))))))))))) ?_
            first
              | (refine ih _ _ _ _ (by omega) ho hR hS ?_
                 rw [if_pos ⟨f1, by omega⟩]; exact Or.inl ⟨f1, rfl, rfl, rfl⟩)
              | (refine ih _ _ _ _ (by omega) (ho.trans ho183.a) hR183 (hS.h ho183) ?_
                 rw [if_neg hne, if_neg (by omega)]
                 first | exact Or.inl ⟨f1, rfl, rfl, rfl⟩ | exact Or.inr ⟨f1, rfl⟩)
              | (refine ih _ _ _ _ (by omega) (ho.trans ho183.a) hR183 (hS.h ho183) ?_
                 rw [if_neg hne, if_pos (by omega)]
                 exact Or.inl ⟨rfl, rfl, rfl, rfl⟩)
          · have hne : ¬ ((ch_fit C b L goal s).1 = true ∧ (ch_fit C b L goal s).2.1 ≤ ch_dead C b L cu) := by
              intro q
              first
                | (rw [f1] at q; exact absurd q.1 (by decide))
                | (have := q.2; omega)
            refine r_aload_n (i := 0) (pc' := 171) dX12_fit_170 rfl rfl (.head _) ?_
            refine r_aload_n (i := 0) (pc' := 172) dX12_fit_171 rfl rfl (.head _) ?_
            refine r_iload (pc' := 174) dX12_fit_172 rfl (.tail _ (.tail _ (.tail _ (.tail _ (.tail _ (.tail _ (.tail _ (.tail _ (.head _))))))))) ?_
            refine r_V1gl (ci := 12) (pc' := 177) dX12_fit_174 rfl lX12_342 rfl (by decide) (Nat.le_of_ble_eq_true rfl) (by first | assumption | rfl) (by omega) (tX12_contractsOf hm hO hS hL (st := cu) (by omega)) (fun r174 n174 P174 X174 Y174 e174 le174 => ?_)
            obtain ⟨h1v, h2v, h3v, h4v, hG174⟩ := e174
            subst h1v h2v h3v h4v
            refine r_aload_n (i := 0) (pc' := 178) dX12_fit_177 rfl rfl (.head _) ?_
            refine r_iload (pc' := 180) dX12_fit_178 rfl (.tail _ (.tail _ (.tail _ (.tail _ (.tail _ (.tail _ (.tail _ (.tail _ (.tail _ (.head _)))))))))) ?_
            refine r_V1gl (ci := 12) (pc' := 183) dX12_fit_180 rfl lX12_342 rfl (by decide) (Nat.le_of_ble_eq_true rfl) (by first | assumption | rfl) (by omega) (tX12_contractsOf hm hO hS hL (st := tu) (by omega)) (fun r180 n180 P180 X180 Y180 e180 le180 => ?_)
            obtain ⟨h1v, h2v, h3v, h4v, hG180⟩ := e180
            subst h1v h2v h3v h4v
            refine r_V2gi (ci := 12) (pc' := 186) dX12_fit_183 rfl lX12_246 rfl (by decide) (Nat.le_of_ble_eq_true rfl) (by first | assumption | rfl) (by omega) (tX12_roomOf hm hR hO hG174 hG180) (fun r183 n183 P183 X183 Y183 e183 le183 => ?_)
            obtain ⟨h1v, h2v, h3v, ho183, hr183⟩ := e183
            subst h1v h2v h3v hr183
            have hR183 : RB C b (xv X183 468) := by rw [ho183.v (by omega)]; exact hR
            rw [roomG_set hL, ← zi_nz (bk_room C b (gS L cu) (gS L tu) - ch_now C b L cu)]
            refine r_iload_n (i := 1) (pc' := 187) dX12_fit_186 rfl rfl (.tail _ (.head _)) ?_
            refine r_icmp_ge (t := 193) (f := 190) dX12_fit_187 (by decide) rfl (by first | omega | exact nz_in _ | exact xv_in _ _ _) (by first | omega | exact nz_in _ | exact xv_in _ _ _) (fun h187 => ?_) (fun h187 => ?_)
            · refine r_iload (pc' := 195) dX12_fit_193 rfl (.tail _ (.tail _ (.tail _ (.tail _ (.tail _ (.tail _ (.tail _ (.tail _ (.head _))))))))) ?_
              refine r_istore_n (i := 3) (pc' := 196) dX12_fit_195 rfl rfl rfl (.s1 (.s1 (.s1 (.here (.s1 (.s1 (.s1 (.s1 (.s1 (.s1 (.s1 .nil rfl rfl rfl) rfl rfl rfl) rfl rfl rfl) rfl rfl rfl) rfl rfl rfl) rfl rfl rfl) rfl rfl rfl)) rfl rfl rfl) rfl rfl rfl) rfl rfl rfl) ?_
              refine r_iload (pc' := 198) dX12_fit_196 rfl (.tail _ (.tail _ (.tail _ (.tail _ (.tail _ (.tail _ (.tail _ (.tail _ (.tail _ (.head _)))))))))) ?_
              refine r_istore (pc' := 200) dX12_fit_198 rfl rfl (.s1 (.s1 (.s1 (.s1 (.here (.s1 (.s1 (.s1 (.s1 (.s1 (.s1 .nil rfl rfl rfl) rfl rfl rfl) rfl rfl rfl) rfl rfl rfl) rfl rfl rfl) rfl rfl rfl)) rfl rfl rfl) rfl rfl rfl) rfl rfl rfl) rfl rfl rfl) ?_
              refine r_iload (pc' := 202) dX12_fit_200 rfl (.tail _ (.tail _ (.tail _ (.tail _ (.tail _ (.tail _ (.tail _ (.tail _ (.tail _ (.tail _ (.head _))))))))))) ?_
              refine r_istore (pc' := 204) dX12_fit_202 rfl rfl (.s1 (.s1 (.s1 (.s1 (.s1 (.here (.s1 (.s1 (.s1 (.s1 (.s1 .nil rfl rfl rfl) rfl rfl rfl) rfl rfl rfl) rfl rfl rfl) rfl rfl rfl)) rfl rfl rfl) rfl rfl rfl) rfl rfl rfl) rfl rfl rfl) rfl rfl rfl) ?_
              refine r_iinc (pc' := 207) dX12_fit_204 rfl rfl (.tail _ (.tail _ (.tail _ (.tail _ (.tail _ (.tail _ (.tail _ (.head _)))))))) (.s1 (.s1 (.s1 (.s1 (.s1 (.s1 (.s1 (.here (.s1 (.s1 (.s1 .nil rfl rfl rfl) rfl rfl rfl) rfl rfl rfl)) rfl rfl rfl) rfl rfl rfl) rfl rfl rfl) rfl rfl rfl) rfl rfl rfl) rfl rfl rfl) rfl rfl rfl) ?_
              refine r_goto (t := 66) dX12_fit_207 (by decide) ?_
              refine r_sub (.kp (.kp (.kp (.kp (.kp (.kp (.kp (.kp (.dr (.dr (.dr .nil))))))))))) ?_
              first
                | (refine ih _ _ _ _ (by omega) ho hR hS ?_
                   rw [if_pos ⟨f1, by omega⟩]; exact Or.inl ⟨f1, rfl, rfl, rfl⟩)
                | (refine ih _ _ _ _ (by omega) (ho.trans ho183.a) hR183 (hS.h ho183) ?_
                   rw [if_neg hne, if_neg (by omega)]
                   first | exact Or.inl ⟨f1, rfl, rfl, rfl⟩ | exact Or.inr ⟨f1, rfl⟩)
                | (refine ih _ _ _ _ (by omega) (ho.trans ho183.a) hR183 (hS.h ho183) ?_
                   rw [if_neg hne, if_pos (by omega)]
                   exact Or.inl ⟨rfl, rfl, rfl, rfl⟩)
            · refine r_goto (t := 204) dX12_fit_190 (by decide) ?_
              refine r_iinc (pc' := 207) dX12_fit_204 rfl rfl (.tail _ (.tail _ (.tail _ (.tail _ (.tail _ (.tail _ (.tail _ (.head _)))))))) (.s1 (.s1 (.s1 (.s1 (.s1 (.s1 (.s1 (.here (.s1 (.s1 (.s1 .nil rfl rfl rfl) rfl rfl rfl) rfl rfl rfl)) rfl rfl rfl) rfl rfl rfl) rfl rfl rfl) rfl rfl rfl) rfl rfl rfl) rfl rfl rfl) rfl rfl rfl) ?_
              refine r_goto (t := 66) dX12_fit_207 (by decide) ?_
              refine r_sub (.kp (.kp (.kp (.kp (.kp (.kp (.kp (.kp (.dr (.dr (.dr .nil))))))))))) ?_
              first
                | (refine ih _ _ _ _ (by omega) ho hR hS ?_
                   rw [if_pos ⟨f1, by omega⟩]; exact Or.inl ⟨f1, rfl, rfl, rfl⟩)
                | (refine ih _ _ _ _ (by omega) (ho.trans ho183.a) hR183 (hS.h ho183) ?_
                   rw [if_neg hne, if_neg (by omega)]
                   first | exact Or.inl ⟨f1, rfl, rfl, rfl⟩ | exact Or.inr ⟨f1, rfl⟩)
                | (refine ih _ _ _ _ (by omega) (ho.trans ho183.a) hR183 (hS.h ho183) ?_
                   rw [if_neg hne, if_pos (by omega)]
                   exact Or.inl ⟨rfl, rfl, rfl, rfl⟩)
      · refine r_iload_n (i := 3) (pc' := 158) dX12_fit_157 rfl rfl (.tail _ (.tail _ (.tail _ (.head _)))) ?_
        refine r_bipush (pc' := 160) dX12_fit_158 rfl (by decide) ?_
        refine r_icmp_eq (t := 170) (f := 163) dX12_fit_160 (by decide) rfl (by first | omega | exact nz_in _ | exact xv_in _ _ _) (by first | omega | exact nz_in _ | exact xv_in _ _ _) (fun h160 => ?_) (fun h160 => ?_)
        · have hne : ¬ ((ch_fit C b L goal s).1 = true ∧ (ch_fit C b L goal s).2.1 ≤ ch_dead C b L cu) := by
            intro q
            first
              | (rw [f1] at q; exact absurd q.1 (by decide))
              | (have := q.2; omega)
          refine r_aload_n (i := 0) (pc' := 171) dX12_fit_170 rfl rfl (.head _) ?_
          refine r_aload_n (i := 0) (pc' := 172) dX12_fit_171 rfl rfl (.head _) ?_
          refine r_iload (pc' := 174) dX12_fit_172 rfl (.tail _ (.tail _ (.tail _ (.tail _ (.tail _ (.tail _ (.tail _ (.tail _ (.head _))))))))) ?_
          refine r_V1gl (ci := 12) (pc' := 177) dX12_fit_174 rfl lX12_342 rfl (by decide) (Nat.le_of_ble_eq_true rfl) (by first | assumption | rfl) (by omega) (tX12_contractsOf hm hO hS hL (st := cu) (by omega)) (fun r174 n174 P174 X174 Y174 e174 le174 => ?_)
          obtain ⟨h1v, h2v, h3v, h4v, hG174⟩ := e174
          subst h1v h2v h3v h4v
          refine r_aload_n (i := 0) (pc' := 178) dX12_fit_177 rfl rfl (.head _) ?_
          refine r_iload (pc' := 180) dX12_fit_178 rfl (.tail _ (.tail _ (.tail _ (.tail _ (.tail _ (.tail _ (.tail _ (.tail _ (.tail _ (.head _)))))))))) ?_
          refine r_V1gl (ci := 12) (pc' := 183) dX12_fit_180 rfl lX12_342 rfl (by decide) (Nat.le_of_ble_eq_true rfl) (by first | assumption | rfl) (by omega) (tX12_contractsOf hm hO hS hL (st := tu) (by omega)) (fun r180 n180 P180 X180 Y180 e180 le180 => ?_)
          obtain ⟨h1v, h2v, h3v, h4v, hG180⟩ := e180
          subst h1v h2v h3v h4v
          refine r_V2gi (ci := 12) (pc' := 186) dX12_fit_183 rfl lX12_246 rfl (by decide) (Nat.le_of_ble_eq_true rfl) (by first | assumption | rfl) (by omega) (tX12_roomOf hm hR hO hG174 hG180) (fun r183 n183 P183 X183 Y183 e183 le183 => ?_)
          obtain ⟨h1v, h2v, h3v, ho183, hr183⟩ := e183
          subst h1v h2v h3v hr183
          have hR183 : RB C b (xv X183 468) := by rw [ho183.v (by omega)]; exact hR
          rw [roomG_set hL, ← zi_nz (bk_room C b (gS L cu) (gS L tu) - ch_now C b L cu)]
          refine r_iload_n (i := 1) (pc' := 187) dX12_fit_186 rfl rfl (.tail _ (.head _)) ?_
          refine r_icmp_ge (t := 193) (f := 190) dX12_fit_187 (by decide) rfl (by first | omega | exact nz_in _ | exact xv_in _ _ _) (by first | omega | exact nz_in _ | exact xv_in _ _ _) (fun h187 => ?_) (fun h187 => ?_)
          · refine r_iload (pc' := 195) dX12_fit_193 rfl (.tail _ (.tail _ (.tail _ (.tail _ (.tail _ (.tail _ (.tail _ (.tail _ (.head _))))))))) ?_
            refine r_istore_n (i := 3) (pc' := 196) dX12_fit_195 rfl rfl rfl (.s1 (.s1 (.s1 (.here (.s1 (.s1 (.s1 (.s1 (.s1 (.s1 (.s1 .nil rfl rfl rfl) rfl rfl rfl) rfl rfl rfl) rfl rfl rfl) rfl rfl rfl) rfl rfl rfl) rfl rfl rfl)) rfl rfl rfl) rfl rfl rfl) rfl rfl rfl) ?_
            refine r_iload (pc' := 198) dX12_fit_196 rfl (.tail _ (.tail _ (.tail _ (.tail _ (.tail _ (.tail _ (.tail _ (.tail _ (.tail _ (.head _)))))))))) ?_
            refine r_istore (pc' := 200) dX12_fit_198 rfl rfl (.s1 (.s1 (.s1 (.s1 (.here (.s1 (.s1 (.s1 (.s1 (.s1 (.s1 .nil rfl rfl rfl) rfl rfl rfl) rfl rfl rfl) rfl rfl rfl) rfl rfl rfl) rfl rfl rfl)) rfl rfl rfl) rfl rfl rfl) rfl rfl rfl) rfl rfl rfl) ?_
            refine r_iload (pc' := 202) dX12_fit_200 rfl (.tail _ (.tail _ (.tail _ (.tail _ (.tail _ (.tail _ (.tail _ (.tail _ (.tail _ (.tail _ (.head _))))))))))) ?_
            refine r_istore (pc' := 204) dX12_fit_202 rfl rfl (.s1 (.s1 (.s1 (.s1 (.s1 (.here (.s1 (.s1 (.s1 (.s1 (.s1 .nil rfl rfl rfl) rfl rfl rfl) rfl rfl rfl) rfl rfl rfl) rfl rfl rfl)) rfl rfl rfl) rfl rfl rfl) rfl rfl rfl) rfl rfl rfl) rfl rfl rfl) ?_
            refine r_iinc (pc' := 207) dX12_fit_204 rfl rfl (.tail _ (.tail _ (.tail _ (.tail _ (.tail _ (.tail _ (.tail _ (.head _)))))))) (.s1 (.s1 (.s1 (.s1 (.s1 (.s1 (.s1 (.here (.s1 (.s1 (.s1 .nil rfl rfl rfl) rfl rfl rfl) rfl rfl rfl)) rfl rfl rfl) rfl rfl rfl) rfl rfl rfl) rfl rfl rfl) rfl rfl rfl) rfl rfl rfl) rfl rfl rfl) ?_
            refine r_goto (t := 66) dX12_fit_207 (by decide) ?_
            refine r_sub (.kp (.kp (.kp (.kp (.kp (.kp (.kp (.kp (.dr (.dr (.dr .nil))))))))))) ?_
            first
              | (refine ih _ _ _ _ (by omega) ho hR hS ?_
                 rw [if_pos ⟨f1, by omega⟩]; exact Or.inl ⟨f1, rfl, rfl, rfl⟩)
              | (refine ih _ _ _ _ (by omega) (ho.trans ho183.a) hR183 (hS.h ho183) ?_
                 rw [if_neg hne, if_neg (by omega)]
                 first | exact Or.inl ⟨f1, rfl, rfl, rfl⟩ | exact Or.inr ⟨f1, rfl⟩)
              | (refine ih _ _ _ _ (by omega) (ho.trans ho183.a) hR183 (hS.h ho183) ?_
                 rw [if_neg hne, if_pos (by omega)]
                 exact Or.inl ⟨rfl, rfl, rfl, rfl⟩)
          · refine r_goto (t := 204) dX12_fit_190 (by decide) ?_
            refine r_iinc (pc' := 207) dX12_fit_204 rfl rfl (.tail _ (.tail _ (.tail _ (.tail _ (.tail _ (.tail _ (.tail _ (.head _)))))))) (.s1 (.s1 (.s1 (.s1 (.s1 (.s1 (.s1 (.here (.s1 (.s1 (.s1 .nil rfl rfl rfl) rfl rfl rfl) rfl rfl rfl)) rfl rfl rfl) rfl rfl rfl) rfl rfl rfl) rfl rfl rfl) rfl rfl rfl) rfl rfl rfl) rfl rfl rfl) ?_
            refine r_goto (t := 66) dX12_fit_207 (by decide) ?_
            refine r_sub (.kp (.kp (.kp (.kp (.kp (.kp (.kp (.kp (.dr (.dr (.dr .nil))))))))))) ?_
            first
              | (refine ih _ _ _ _ (by omega) ho hR hS ?_
                 rw [if_pos ⟨f1, by omega⟩]; exact Or.inl ⟨f1, rfl, rfl, rfl⟩)
              | (refine ih _ _ _ _ (by omega) (ho.trans ho183.a) hR183 (hS.h ho183) ?_
                 rw [if_neg hne, if_neg (by omega)]
                 first | exact Or.inl ⟨f1, rfl, rfl, rfl⟩ | exact Or.inr ⟨f1, rfl⟩)
              | (refine ih _ _ _ _ (by omega) (ho.trans ho183.a) hR183 (hS.h ho183) ?_
                 rw [if_neg hne, if_pos (by omega)]
                 exact Or.inl ⟨rfl, rfl, rfl, rfl⟩)
        · exfalso; omega
set_option maxHeartbeats 4000000 in
set_option maxRecDepth 100000 in
theorem tX12_fit {l : Launch} {g : q_G} {n : Nat} {P : q_P} {X : q_X} {Y : q_Y} (hm : isMod n P) {C : q_X} {b : Nat} (hR : RB C b (xv X 468)) (hO : bOk C b) {goal v : Int} (hgo : q_in goal) (hv : q_in v) : q_Met l g mX12_fit 7 [.ref (g.1 + 467), .int (zi goal), .int (zi v)] n P X Y (q_gi (fun r' n' P' X' Y' => n' = n ∧ P' = P ∧ Y' = Y ∧ aOut X X' ∧ r' = f_fit C b goal v)) := by
  obtain ⟨m0, m2, m3, m8, m9, m14, m15, m16, m17, m18, m20, m22, m25, hnm9⟩ := id hm
  obtain ⟨o0, o1, o2, o3, o4, o5, o6, o10, oc, op0, opz, opi, om0, omi, olim⟩ := id hO
  refine q_enter (L := [(0, .ref (g.1 + 467)), (1, .int (zi goal)), (2, .int (zi v))]) (by decide) (Nat.le_of_ble_eq_true rfl) rfl ?_
  refine r_iload_n (i := 1) (pc' := 1) dX12_fit_0 rfl rfl (.tail _ (.head _)) ?_
  refine r_S1p (pc' := 4) dX12_fit_1 rfl lX12_330 (by decide) (Nat.le_of_ble_eq_true rfl) (tX12_isGoal (by omega)) ?_
  refine r_bif_eq (t := 19) (f := 7) dX12_fit_4 (by decide) rfl (fun h4 => ?_) (fun h4 => ?_)
  · refine r_iconst (pc' := 20) dX12_fit_19 rfl ?_
    refine r_ireturn dX12_fit_20 rfl ?_
    refine ⟨_, rfl, rfl, rfl, rfl, aOut.rfl, ?_⟩
    unfold f_fit
    rw [if_pos (by omega)]
  · refine r_iload_n (i := 2) (pc' := 8) dX12_fit_7 rfl rfl (.tail _ (.tail _ (.head _))) ?_
    refine r_i2l (pc' := 9) dX12_fit_8 rfl rfl ?_
    refine r_lconst (pc' := 10) (z := 0) dX12_fit_9 rfl rfl ?_
    refine r_ldc2 (pc' := 13) dX12_fit_10 rfl kX12_300 ?_
    refine r_S3p (pc' := 16) dX12_fit_13 rfl lX12_68 (by decide) (Nat.le_of_ble_eq_true rfl) (tX12_isIn (by first | exact li_z (by omega) | exact li_z (xv_in _ _ _) | rfl) (by first | exact li_z (by omega) | exact li_z (xv_in _ _ _) | rfl) (by first | exact li_z (by omega) | exact li_z (xv_in _ _ _) | rfl)) ?_
    try simp only [i64_0, i64_1, i64_2, i64_3, i64_4, i64_5, i64_6, i64_7, i64_10, i64_19, i64_40, i64_100, i64_364, i64_9999, i64_99999, i64_999999, i64_m999999]
    refine r_bif_ne (t := 21) (f := 19) dX12_fit_16 (by decide) rfl (fun h16 => ?_) (fun h16 => ?_)
    · refine r_aload_n (i := 0) (pc' := 22) dX12_fit_21 rfl rfl (.head _) ?_
      refine r_bipush (pc' := 24) dX12_fit_22 rfl (by decide) ?_
      refine r_V1gv (ci := 12) (pc' := 27) dX12_fit_24 rfl lX12_336 rfl (by decide) (Nat.le_of_ble_eq_true rfl) (by first | assumption | rfl) (by omega) (tX12_laySome (m := 6) hm hR hO (by omega)) (fun n24 P24 X24 Y24 e24 le24 => ?_)
      obtain ⟨h1v, h2v, h3v, ho, hS⟩ := e24
      subst h1v h2v h3v
      have hR2 : RB C b (xv X24 468) := by rw [ho.v (by omega)]; exact hR
      refine r_bipush (pc' := 29) dX12_fit_27 rfl (by decide) ?_
      refine r_istore_n (i := 3) (pc' := 30) dX12_fit_29 rfl rfl rfl (.s1 (.s1 (.s1 .nil rfl rfl rfl) rfl rfl rfl) rfl rfl rfl) ?_
      refine r_iconst (pc' := 31) dX12_fit_30 rfl ?_
      refine r_istore (pc' := 33) dX12_fit_31 rfl rfl (.s1 (.s1 (.s1 (.s1 .nil rfl rfl rfl) rfl rfl rfl) rfl rfl rfl) rfl rfl rfl) ?_
      refine r_iconst (pc' := 34) dX12_fit_33 rfl ?_
      refine r_istore (pc' := 36) dX12_fit_34 rfl rfl (.s1 (.s1 (.s1 (.s1 (.s1 .nil rfl rfl rfl) rfl rfl rfl) rfl rfl rfl) rfl rfl rfl) rfl rfl rfl) ?_
      refine r_iconst (pc' := 37) dX12_fit_36 rfl ?_
      refine r_istore (pc' := 39) dX12_fit_37 rfl rfl (.s1 (.s1 (.s1 (.s1 (.s1 (.s1 .nil rfl rfl rfl) rfl rfl rfl) rfl rfl rfl) rfl rfl rfl) rfl rfl rfl) rfl rfl rfl) ?_
      refine r_iconst (pc' := 40) dX12_fit_39 rfl ?_
      refine r_istore (pc' := 42) dX12_fit_40 rfl rfl (.s1 (.s1 (.s1 (.s1 (.s1 (.s1 (.s1 .nil rfl rfl rfl) rfl rfl rfl) rfl rfl rfl) rfl rfl rfl) rfl rfl rfl) rfl rfl rfl) rfl rfl rfl) ?_
      have hl6 := (whoL_len C b 6 (xv C b 10).toNat).1
      rw [f_fit, if_neg (by omega)]
      refine l0X12_fit hm hS.1 hl6 ?_ _ 0 (Nat.zero_add _)
      exact lX12_fit hm hO (LOk_who (by omega)) hl6 hgo (by omega) rfl _ 0 _ _ _ _ (Nat.zero_add _) ho hR2 hS (Or.inr ⟨rfl, rfl⟩)
    · refine r_iconst (pc' := 20) dX12_fit_19 rfl ?_
      refine r_ireturn dX12_fit_20 rfl ?_
      refine ⟨_, rfl, rfl, rfl, rfl, aOut.rfl, ?_⟩
      unfold f_fit
      rw [if_pos (by omega)]
