set_option maxHeartbeats 4000000 in
set_option maxRecDepth 100000 in
theorem lX5_value {l : Launch} {g : q_G} {n : Nat} {P : q_P} {X : q_X} {Y : q_Y} {f : Nat} (hf : isFor n P f) {m : Nat} (hm : xv X f 0 = (m : Int)) (hm8 : 1 ≤ m ∧ m ≤ 80) (hw : fWF (xv X (f + 1)) m) : ∀ (w i : Nat) (Y1 : q_Y), i + w = m → (∀ a, a ≠ f + 4 → Y1 a = Y a) → (∀ j, j < fH (xv X (f + 1)) i → Y1 (f + 4) j = fV (xv X (f + 1)) (fLv X f) i j) → q_Tr l g mX5_value 1 (q_gl (fun r' n' P' X' Y' => n' = n ∧ P' = P ∧ X' = X ∧ (∀ a, a ≠ f + 4 → Y' a = Y a) ∧ r' = fV (xv X (f + 1)) (fLv X f) m 0)) 4 [(0, .ref (g.1 + f)), (1, .int (zi ((fH (xv X (f + 1)) i : Nat) : Int))), (2, .int (zi (i : Int)))] [] n P X Y1 := by
  obtain ⟨s0, s1, s2, s3, s4, p1, p2, p4, p5, hnf⟩ := id hf
  intro w
  induction w with
  | zero =>
    intro i Y1 hk hY hp
    obtain rfl : i = m := by omega
    have hh := fH_b hw i (by omega)
    refine r_iload_n (i := 2) (pc' := 5) dX5_value_4 rfl rfl (.tail _ (.tail _ (.head _))) ?_
    refine r_aload_n (i := 0) (pc' := 6) dX5_value_5 rfl rfl (.head _) ?_
    refine r_getI (pc' := 9) dX5_value_6 rfl fX5_25 rfl (by first | assumption | rfl) (by omega) ?_
    refine r_icmp_ge (t := 107) (f := 12) dX5_value_9 (by decide) rfl (by first | omega | exact xv_in _ _ _) (by first | omega | exact xv_in _ _ _) (fun h9 => ?_) (fun h9 => ?_)
    · refine r_aload_n (i := 0) (pc' := 108) dX5_value_107 rfl rfl (.head _) ?_
      refine r_getR (pc' := 111) dX5_value_108 rfl fX5_21 rfl (by first | assumption | rfl) (by omega) (by assumption) ?_
      refine r_iconst (pc' := 112) dX5_value_111 rfl ?_
      refine r_laload (pc' := 113) dX5_value_112 rfl (by first | assumption | rfl) (by omega) (by omega) (by omega) (by first | decide | omega) (show Int.toNat 0 = 0 from rfl) ?_
      refine r_lreturn dX5_value_113 rfl ?_
      exact ⟨_, rfl, rfl, rfl, rfl, hY, hp 0 (by have := hh.2 (by omega); omega)⟩
    · exfalso; omega
  | succ w ih =>
    intro i Y1 hk hY hp
    have hh := fH_b hw i (by omega)
    obtain ⟨hw1, hw2, hw3⟩ := hw i (by omega)
    have hte : fH (xv X (f + 1)) (i + 1) = if xv X (f + 1) i < -6 then fH (xv X (f + 1)) i - 1 else fH (xv X (f + 1)) i + 1 := rfl
    have hve : fV (xv X (f + 1)) (fLv X f) (i + 1) = if xv X (f + 1) i < -6 then fPu (fV (xv X (f + 1)) (fLv X f) i) (fH (xv X (f + 1)) i - 2) (fJn (xv X (f + 1) i) (fV (xv X (f + 1)) (fLv X f) i (fH (xv X (f + 1)) i - 2)) (fV (xv X (f + 1)) (fLv X f) i (fH (xv X (f + 1)) i - 1))) else fPu (fV (xv X (f + 1)) (fLv X f) i) (fH (xv X (f + 1)) i) (fVv (fLv X f) (xv X (f + 1) i)) := rfl
    generalize hhe : fH (xv X (f + 1)) i = h at *
    refine r_iload_n (i := 2) (pc' := 5) dX5_value_4 rfl rfl (.tail _ (.tail _ (.head _))) ?_
    refine r_aload_n (i := 0) (pc' := 6) dX5_value_5 rfl rfl (.head _) ?_
    refine r_getI (pc' := 9) dX5_value_6 rfl fX5_25 rfl (by first | assumption | rfl) (by omega) ?_
    refine r_icmp_ge (t := 107) (f := 12) dX5_value_9 (by decide) rfl (by first | omega | exact xv_in _ _ _) (by first | omega | exact xv_in _ _ _) (fun h9 => ?_) (fun h9 => ?_)
    · exfalso; omega
    · refine r_iload_n (i := 2) (pc' := 13) dX5_value_12 rfl rfl (.tail _ (.tail _ (.head _))) ?_
      refine r_bipush (pc' := 15) dX5_value_13 rfl (by decide) ?_
      refine r_icmp_ge (t := 107) (f := 18) dX5_value_15 (by decide) rfl (by first | omega | exact xv_in _ _ _) (by first | omega | exact xv_in _ _ _) (fun h15 => ?_) (fun h15 => ?_)
      · exfalso; omega
      · refine r_aload_n (i := 0) (pc' := 19) dX5_value_18 rfl rfl (.head _) ?_
        refine r_getR (pc' := 22) dX5_value_19 rfl fX5_11 rfl (by first | assumption | rfl) (by omega) (by assumption) ?_
        refine r_iload_n (i := 2) (pc' := 23) dX5_value_22 rfl rfl (.tail _ (.tail _ (.head _))) ?_
        refine r_iaload (pc' := 24) dX5_value_23 rfl (by first | assumption | rfl) (by omega) (by omega) (by omega) (by first | decide | omega) (Int.toNat_natCast _) ?_
        refine r_istore_n (i := 3) (pc' := 25) dX5_value_24 rfl rfl rfl (.s1 (.s1 (.s1 .nil rfl rfl rfl) rfl rfl rfl) rfl rfl rfl) ?_
        by_cases ht : xv X (f + 1) i < -6
        · have h2 := hw2 ht
          rw [if_pos ht] at hte hve
          refine r_iload_n (i := 3) (pc' := 26) dX5_value_25 rfl rfl (.tail _ (.tail _ (.tail _ (.head _)))) ?_
          refine r_bipush (pc' := 28) dX5_value_26 rfl (by decide) ?_
          refine r_icmp_ge (t := 68) (f := 31) dX5_value_28 (by decide) rfl (by first | omega | exact xv_in _ _ _) (by first | omega | exact xv_in _ _ _) (fun h28 => ?_) (fun h28 => ?_)
          · exfalso; omega
          · refine r_iload_n (i := 1) (pc' := 32) dX5_value_31 rfl rfl (.tail _ (.head _)) ?_
            refine r_iconst (pc' := 33) dX5_value_32 rfl ?_
            refine r_isub (pc' := 34) dX5_value_33 rfl ?_
            refine r_iconst (pc' := 35) dX5_value_34 rfl ?_
            refine r_max (pc' := 38) dX5_value_35 rfl lX5_97 (by decide) (Nat.le_of_ble_eq_true rfl) (by first | omega | exact xv_in _ _ _) (by first | omega | exact xv_in _ _ _) ?_
            rw [show max ((h : Int) - 1) 1 = ((h - 1 : Nat) : Int) by omega]
            refine r_istore_n (i := 1) (pc' := 39) dX5_value_38 rfl rfl rfl (.s1 (.here (.s1 (.s1 .nil rfl rfl rfl) rfl rfl rfl)) rfl rfl rfl) ?_
            refine r_aload_n (i := 0) (pc' := 40) dX5_value_39 rfl rfl (.head _) ?_
            refine r_getR (pc' := 43) dX5_value_40 rfl fX5_21 rfl (by first | assumption | rfl) (by omega) (by assumption) ?_
            refine r_iload_n (i := 1) (pc' := 44) dX5_value_43 rfl rfl (.tail _ (.head _)) ?_
            refine r_iconst (pc' := 45) dX5_value_44 rfl ?_
            refine r_isub (pc' := 46) dX5_value_45 rfl ?_
            refine r_iload_n (i := 3) (pc' := 47) dX5_value_46 rfl rfl (.tail _ (.tail _ (.tail _ (.head _)))) ?_
            refine r_aload_n (i := 0) (pc' := 48) dX5_value_47 rfl rfl (.head _) ?_
            refine r_getR (pc' := 51) dX5_value_48 rfl fX5_21 rfl (by first | assumption | rfl) (by omega) (by assumption) ?_
            refine r_iload_n (i := 1) (pc' := 52) dX5_value_51 rfl rfl (.tail _ (.head _)) ?_
            refine r_iconst (pc' := 53) dX5_value_52 rfl ?_
            refine r_isub (pc' := 54) dX5_value_53 rfl ?_
            refine r_laload (pc' := 55) dX5_value_54 rfl (by first | assumption | rfl) (by omega) (by omega) (by omega) (by first | decide | omega) (show (((h - 1 : Nat) : Int) - 1).toNat = h - 2 by omega) ?_
            refine r_aload_n (i := 0) (pc' := 56) dX5_value_55 rfl rfl (.head _) ?_
            refine r_getR (pc' := 59) dX5_value_56 rfl fX5_21 rfl (by first | assumption | rfl) (by omega) (by assumption) ?_
            refine r_iload_n (i := 1) (pc' := 60) dX5_value_59 rfl rfl (.tail _ (.head _)) ?_
            refine r_laload (pc' := 61) dX5_value_60 rfl (by first | assumption | rfl) (by omega) (by omega) (by omega) (by first | decide | omega) (show (((h - 1 : Nat) : Int)).toNat = h - 1 by omega) ?_
            refine r_S3p (pc' := 64) dX5_value_61 rfl lX5_102 (by decide) (Nat.le_of_ble_eq_true rfl) (tX5_join (xv_in _ _ _)) ?_
            refine r_lastore (pc' := 65) dX5_value_64 rfl (by first | assumption | rfl) (by omega) (by omega) (by omega) (by first | decide | omega) (show (((h - 1 : Nat) : Int) - 1).toNat = h - 2 by omega) ?_
            refine r_goto (t := 101) dX5_value_65 (by decide) ?_
            refine r_iinc (pc' := 104) dX5_value_101 rfl rfl (.tail _ (.tail _ (.head _))) (.s1 (.s1 (.here (.s1 .nil rfl rfl rfl)) rfl rfl rfl) rfl rfl rfl) ?_
            refine r_goto (t := 4) dX5_value_104 (by decide) ?_
            refine r_sub (.kp (.kp (.kp (.dr .nil)))) ?_
            rw [← hte]
            refine ih (i + 1) _ (by omega) (fun a ha => by
              rw [← hY a ha]; funext q; exact q_up_ne _ _ (by omega)) (fun j hj => ?_)
            rw [hte] at hj
            rw [hve, fPu]
            by_cases e : j = h - 2
            · subst e; rw [q_up_same, if_pos rfl, hp _ (by omega), hp _ (by omega)]; try rw [hte]
            · rw [q_up_ne _ _ (by omega), if_neg e, hp _ (by omega)]
        · have h2 := hw3 ht
          rw [if_neg ht] at hte hve
          refine r_iload_n (i := 3) (pc' := 26) dX5_value_25 rfl rfl (.tail _ (.tail _ (.tail _ (.head _)))) ?_
          refine r_bipush (pc' := 28) dX5_value_26 rfl (by decide) ?_
          refine r_icmp_ge (t := 68) (f := 31) dX5_value_28 (by decide) rfl (by first | omega | exact xv_in _ _ _) (by first | omega | exact xv_in _ _ _) (fun h28 => ?_) (fun h28 => ?_)
          · refine r_iload_n (i := 1) (pc' := 69) dX5_value_68 rfl rfl (.tail _ (.head _)) ?_
            refine r_bipush (pc' := 71) dX5_value_69 rfl (by decide) ?_
            refine r_icmp_ge (t := 101) (f := 74) dX5_value_71 (by decide) rfl (by first | omega | exact xv_in _ _ _) (by first | omega | exact xv_in _ _ _) (fun h71 => ?_) (fun h71 => ?_)
            · exfalso; omega
            · refine r_aload_n (i := 0) (pc' := 75) dX5_value_74 rfl rfl (.head _) ?_
              refine r_getR (pc' := 78) dX5_value_75 rfl fX5_21 rfl (by first | assumption | rfl) (by omega) (by assumption) ?_
              refine r_iload_n (i := 1) (pc' := 79) dX5_value_78 rfl rfl (.tail _ (.head _)) ?_
              refine r_iload_n (i := 3) (pc' := 80) dX5_value_79 rfl rfl (.tail _ (.tail _ (.tail _ (.head _)))) ?_
              refine r_if_ge (t := 95) (f := 83) dX5_value_80 (by decide) rfl (by first | omega | exact xv_in _ _ _) (fun h80 => ?_) (fun h80 => ?_)
              · refine r_iload_n (i := 3) (pc' := 96) dX5_value_95 rfl rfl (.tail _ (.tail _ (.tail _ (.head _)))) ?_
                refine r_i2l (pc' := 97) dX5_value_96 rfl rfl ?_
                refine r_lastore (pc' := 98) dX5_value_97 rfl (by first | assumption | rfl) (by omega) (by omega) (by omega) (by first | decide | omega) (show ((h : Int)).toNat = h by omega) ?_
                refine r_iinc (pc' := 101) dX5_value_98 rfl rfl (.tail _ (.head _)) (.s1 (.here (.s1 (.s1 .nil rfl rfl rfl) rfl rfl rfl)) rfl rfl rfl) ?_
                refine r_iinc (pc' := 104) dX5_value_101 rfl rfl (.tail _ (.tail _ (.head _))) (.s1 (.s1 (.here (.s1 .nil rfl rfl rfl)) rfl rfl rfl) rfl rfl rfl) ?_
                refine r_goto (t := 4) dX5_value_104 (by decide) ?_
                refine r_sub (.kp (.kp (.kp (.dr .nil)))) ?_
                rw [show ((h : Int) + 1) = ((h + 1 : Nat) : Int) by omega, ← hte]
                refine ih (i + 1) _ (by omega) (fun a ha => by
                  rw [← hY a ha]; funext q; exact q_up_ne _ _ (by omega)) (fun j hj => ?_)
                rw [hte] at hj
                rw [hve, fPu]
                by_cases e : j = h
                · subst e; rw [q_up_same, if_pos rfl, fVv]
                  first
                    | (rw [if_pos (by omega), zi_xv]; done)
                    | (rw [if_neg (by omega)]; done)
                · rw [q_up_ne _ _ (by omega), if_neg e, hp _ (by omega)]
              · refine r_aload_n (i := 0) (pc' := 84) dX5_value_83 rfl rfl (.head _) ?_
                refine r_getR (pc' := 87) dX5_value_84 rfl fX5_18 rfl (by first | assumption | rfl) (by omega) (by assumption) ?_
                refine r_iconst (pc' := 88) dX5_value_87 rfl ?_
                refine r_iload_n (i := 3) (pc' := 89) dX5_value_88 rfl rfl (.tail _ (.tail _ (.tail _ (.head _)))) ?_
                refine r_isub (pc' := 90) dX5_value_89 rfl ?_
                refine r_iaload (pc' := 91) dX5_value_90 rfl (by first | assumption | rfl) (by omega) (by omega) (by omega) (by first | decide | omega) rfl ?_
                refine r_i2l (pc' := 92) dX5_value_91 rfl rfl ?_
                refine r_goto (t := 97) dX5_value_92 (by decide) ?_
                refine r_lastore (pc' := 98) dX5_value_97 rfl (by first | assumption | rfl) (by omega) (by omega) (by omega) (by first | decide | omega) (show ((h : Int)).toNat = h by omega) ?_
                refine r_iinc (pc' := 101) dX5_value_98 rfl rfl (.tail _ (.head _)) (.s1 (.here (.s1 (.s1 .nil rfl rfl rfl) rfl rfl rfl)) rfl rfl rfl) ?_
                refine r_iinc (pc' := 104) dX5_value_101 rfl rfl (.tail _ (.tail _ (.head _))) (.s1 (.s1 (.here (.s1 .nil rfl rfl rfl)) rfl rfl rfl) rfl rfl rfl) ?_
                refine r_goto (t := 4) dX5_value_104 (by decide) ?_
                refine r_sub (.kp (.kp (.kp (.dr .nil)))) ?_
                rw [show ((h : Int) + 1) = ((h + 1 : Nat) : Int) by omega, ← hte]
                refine ih (i + 1) _ (by omega) (fun a ha => by
                  rw [← hY a ha]; funext q; exact q_up_ne _ _ (by omega)) (fun j hj => ?_)
                rw [hte] at hj
                rw [hve, fPu]
                by_cases e : j = h
                · subst e; rw [q_up_same, if_pos rfl, fVv]
                  first
                    | (rw [if_pos (by omega), zi_xv]; done)
                    | (rw [if_neg (by omega)]; done)
                · rw [q_up_ne _ _ (by omega), if_neg e, hp _ (by omega)]
          · exfalso; omega
set_option maxHeartbeats 4000000 in
set_option maxRecDepth 100000 in
theorem tX5_value {l : Launch} {g : q_G} {n : Nat} {P : q_P} {X : q_X} {Y : q_Y} {f : Nat} (hf : isFor n P f) {m : Nat} (hm : xv X f 0 = (m : Int)) (hm8 : 1 ≤ m ∧ m ≤ 80) (hw : fWF (xv X (f + 1)) m) : q_Met l g mX5_value 1 [.ref (g.1 + f)] n P X Y (q_gl (fun r' n' P' X' Y' => n' = n ∧ P' = P ∧ X' = X ∧ (∀ a, a ≠ f + 4 → Y' a = Y a) ∧ r' = fV (xv X (f + 1)) (fLv X f) m 0)) := by
  obtain ⟨s0, s1, s2, s3, s4, p1, p2, p4, p5, hnf⟩ := id hf
  refine q_enter (L := [(0, .ref (g.1 + f))]) (by decide) (Nat.le_of_ble_eq_true rfl) rfl ?_
  refine r_iconst (pc' := 1) dX5_value_0 rfl ?_
  refine r_istore_n (i := 1) (pc' := 2) dX5_value_1 rfl rfl rfl (.s1 .nil rfl rfl rfl) ?_
  refine r_iconst (pc' := 3) dX5_value_2 rfl ?_
  refine r_istore_n (i := 2) (pc' := 4) dX5_value_3 rfl rfl rfl (.s1 (.s1 .nil rfl rfl rfl) rfl rfl rfl) ?_
  exact lX5_value hf hm hm8 hw m 0 Y (by omega) (fun _ _ => rfl) (fun j hj => by simp [fH] at hj)
