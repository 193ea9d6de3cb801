set_option maxHeartbeats 4000000 in
set_option maxRecDepth 100000 in
theorem lX4_start {l : Launch} {g : q_G} {n : Nat} {P : q_P} {X : q_X} {Y : q_Y} {c : Nat} {f y v s : Int} (hc : isCon n P c) : ∀ (k i : Nat), i + k = 10 → q_Tr l g mX4_start 0 (q_gv (fun n' P' X' Y' => n' = n ∧ P' = P ∧ Y' = Y ∧ X' = c_start X c f y v s)) 34 [(0, .ref (g.1 + c)), (1, .int (zi f)), (2, .int (zi y)), (3, .int (zi v)), (4, .int (zi s)), (5, .int (zi (i : Int)))] [] n P (c_zero (q_up (q_up (q_up (q_up (q_up (q_up X c 0 (zi f)) c 1 (zi y)) c 2 (zi v)) c 3 (zi s)) c 4 (zi 0)) c 5 (zi 0)) c i) Y := by
  obtain ⟨s0, s1, s2, s3, s4, p6, p7, p8, p9, hn⟩ := id hc
  intro k
  induction k with
  | zero =>
    intro i hk
    refine r_iload (pc' := 36) dX4_start_34 rfl (.tail _ (.tail _ (.tail _ (.tail _ (.tail _ (.head _)))))) ?_
    refine r_bipush (pc' := 38) dX4_start_36 rfl (by decide) ?_
    refine r_icmp_ge (t := 79) (f := 41) dX4_start_38 (by decide) rfl (by first | omega | exact xv_in _ _ _) (by first | omega | exact xv_in _ _ _) (fun h38 => ?_) (fun h38 => ?_)
    · refine r_return dX4_start_79 rfl ?_
      exact ⟨rfl, rfl, rfl, rfl, by rw [show i = 10 by omega]; rfl⟩
    · exfalso; omega
  | succ k ih =>
    intro i hk
    refine r_iload (pc' := 36) dX4_start_34 rfl (.tail _ (.tail _ (.tail _ (.tail _ (.tail _ (.head _)))))) ?_
    refine r_bipush (pc' := 38) dX4_start_36 rfl (by decide) ?_
    refine r_icmp_ge (t := 79) (f := 41) dX4_start_38 (by decide) rfl (by first | omega | exact xv_in _ _ _) (by first | omega | exact xv_in _ _ _) (fun h38 => ?_) (fun h38 => ?_)
    · exfalso; omega
    · refine r_aload_n (i := 0) (pc' := 42) dX4_start_41 rfl rfl (.head _) ?_
      refine r_getR (pc' := 45) dX4_start_42 rfl fX4_11 rfl (by first | assumption | rfl) (by omega) (by assumption) ?_
      refine r_iload (pc' := 47) dX4_start_45 rfl (.tail _ (.tail _ (.tail _ (.tail _ (.tail _ (.head _)))))) ?_
      refine r_iconst (pc' := 48) dX4_start_47 rfl ?_
      refine r_iastore (pc' := 49) dX4_start_48 rfl (by first | assumption | rfl) (by omega) (by omega) (by omega) (by first | decide | omega) (Int.toNat_natCast _) ?_
      refine r_aload_n (i := 0) (pc' := 50) dX4_start_49 rfl rfl (.head _) ?_
      refine r_getR (pc' := 53) dX4_start_50 rfl fX4_15 rfl (by first | assumption | rfl) (by omega) (by assumption) ?_
      refine r_iload (pc' := 55) dX4_start_53 rfl (.tail _ (.tail _ (.tail _ (.tail _ (.tail _ (.head _)))))) ?_
      refine r_iconst (pc' := 56) dX4_start_55 rfl ?_
      refine r_iastore (pc' := 57) dX4_start_56 rfl (by first | assumption | rfl) (by omega) (by omega) (by omega) (by first | decide | omega) (Int.toNat_natCast _) ?_
      refine r_aload_n (i := 0) (pc' := 58) dX4_start_57 rfl rfl (.head _) ?_
      refine r_getR (pc' := 61) dX4_start_58 rfl fX4_18 rfl (by first | assumption | rfl) (by omega) (by assumption) ?_
      refine r_iload (pc' := 63) dX4_start_61 rfl (.tail _ (.tail _ (.tail _ (.tail _ (.tail _ (.head _)))))) ?_
      refine r_iconst (pc' := 64) dX4_start_63 rfl ?_
      refine r_iastore (pc' := 65) dX4_start_64 rfl (by first | assumption | rfl) (by omega) (by omega) (by omega) (by first | decide | omega) (Int.toNat_natCast _) ?_
      refine r_aload_n (i := 0) (pc' := 66) dX4_start_65 rfl rfl (.head _) ?_
      refine r_getR (pc' := 69) dX4_start_66 rfl fX4_21 rfl (by first | assumption | rfl) (by omega) (by assumption) ?_
      refine r_iload (pc' := 71) dX4_start_69 rfl (.tail _ (.tail _ (.tail _ (.tail _ (.tail _ (.head _)))))) ?_
      refine r_iconst (pc' := 72) dX4_start_71 rfl ?_
      refine r_iastore (pc' := 73) dX4_start_72 rfl (by first | assumption | rfl) (by omega) (by omega) (by omega) (by first | decide | omega) (Int.toNat_natCast _) ?_
      refine r_iinc (pc' := 76) dX4_start_73 rfl rfl (.tail _ (.tail _ (.tail _ (.tail _ (.tail _ (.head _)))))) (.s1 (.s1 (.s1 (.s1 (.s1 (.here .nil) rfl rfl rfl) rfl rfl rfl) rfl rfl rfl) rfl rfl rfl) rfl rfl rfl) ?_
      refine r_goto (t := 34) dX4_start_76 (by decide) ?_
      rw [c_zero_s]
      exact ih (i + 1) (by omega)
set_option maxHeartbeats 4000000 in
set_option maxRecDepth 100000 in
theorem tX4_start {l : Launch} {g : q_G} {n : Nat} {P : q_P} {X : q_X} {Y : q_Y} {c : Nat} {f y v s : Int} (hc : isCon n P c) : q_Met l g mX4_start 0 [.ref (g.1 + c), .int (zi f), .int (zi y), .int (zi v), .int (zi s)] n P X Y (q_gv (fun n' P' X' Y' => n' = n ∧ P' = P ∧ Y' = Y ∧ X' = c_start X c f y v s)) := by
  obtain ⟨s0, s1, s2, s3, s4, p6, p7, p8, p9, hn⟩ := id hc
  refine q_enter (L := [(0, .ref (g.1 + c)), (1, .int (zi f)), (2, .int (zi y)), (3, .int (zi v)), (4, .int (zi s))]) (by decide) (Nat.le_of_ble_eq_true rfl) rfl ?_
  refine r_aload_n (i := 0) (pc' := 1) dX4_start_0 rfl rfl (.head _) ?_
  refine r_iload_n (i := 1) (pc' := 2) dX4_start_1 rfl rfl (.tail _ (.head _)) ?_
  refine r_putI (pc' := 5) dX4_start_2 rfl fX4_24 rfl (by first | assumption | rfl) (by omega) rfl rfl ?_
  refine r_aload_n (i := 0) (pc' := 6) dX4_start_5 rfl rfl (.head _) ?_
  refine r_iload_n (i := 2) (pc' := 7) dX4_start_6 rfl rfl (.tail _ (.tail _ (.head _))) ?_
  refine r_putI (pc' := 10) dX4_start_7 rfl fX4_28 rfl (by first | assumption | rfl) (by omega) rfl rfl ?_
  refine r_aload_n (i := 0) (pc' := 11) dX4_start_10 rfl rfl (.head _) ?_
  refine r_iload_n (i := 3) (pc' := 12) dX4_start_11 rfl rfl (.tail _ (.tail _ (.tail _ (.head _)))) ?_
  refine r_putI (pc' := 15) dX4_start_12 rfl fX4_31 rfl (by first | assumption | rfl) (by omega) rfl rfl ?_
  refine r_aload_n (i := 0) (pc' := 16) dX4_start_15 rfl rfl (.head _) ?_
  refine r_iload (pc' := 18) dX4_start_16 rfl (.tail _ (.tail _ (.tail _ (.tail _ (.head _))))) ?_
  refine r_putI (pc' := 21) dX4_start_18 rfl fX4_34 rfl (by first | assumption | rfl) (by omega) rfl rfl ?_
  refine r_aload_n (i := 0) (pc' := 22) dX4_start_21 rfl rfl (.head _) ?_
  refine r_iconst (pc' := 23) dX4_start_22 rfl ?_
  refine r_putI (pc' := 26) dX4_start_23 rfl fX4_37 rfl (by first | assumption | rfl) (by omega) rfl rfl ?_
  refine r_aload_n (i := 0) (pc' := 27) dX4_start_26 rfl rfl (.head _) ?_
  refine r_iconst (pc' := 28) dX4_start_27 rfl ?_
  refine r_putI (pc' := 31) dX4_start_28 rfl fX4_40 rfl (by first | assumption | rfl) (by omega) rfl rfl ?_
  refine r_iconst (pc' := 32) dX4_start_31 rfl ?_
  refine r_istore (pc' := 34) dX4_start_32 rfl rfl (.s1 (.s1 (.s1 (.s1 (.s1 .nil rfl rfl rfl) rfl rfl rfl) rfl rfl rfl) rfl rfl rfl) rfl rfl rfl) ?_
  have := lX4_start (l := l) (g := g) (Y := Y) (f := f) (y := y) (v := v) (s := s) (X := X) hc 10 0 (by omega)
  rw [c_zero_0] at this
  exact this
set_option maxHeartbeats 4000000 in
set_option maxRecDepth 100000 in
theorem tX4_copyFrom {l : Launch} {g : q_G} {n : Nat} {P : q_P} {X : q_X} {Y : q_Y} {c o : Nat} (hc : isCon n P c) (ho : isCon n P o) (hd : c + 5 ≤ o ∨ o + 5 ≤ c) : q_Met l g mX4_copyFrom 1 [.ref (g.1 + c), .ref (g.1 + o)] n P X Y (q_gv (fun n' P' X' Y' => n' = n ∧ P' = P ∧ Y' = Y ∧ X' = c_copy X c o)) := by
  obtain ⟨s0, s1, s2, s3, s4, p6, p7, p8, p9, hn⟩ := id hc
  obtain ⟨t0, t1, t2, t3, t4, o6, o7, o8, o9, hno⟩ := id ho
  refine q_enter (L := [(0, .ref (g.1 + c)), (1, .ref (g.1 + o))]) (by decide) (Nat.le_of_ble_eq_true rfl) rfl ?_
  refine r_aload_n (i := 0) (pc' := 1) dX4_copyFrom_0 rfl rfl (.head _) ?_
  refine r_aload_n (i := 1) (pc' := 2) dX4_copyFrom_1 rfl rfl (.tail _ (.head _)) ?_
  refine r_getI (pc' := 5) dX4_copyFrom_2 rfl fX4_24 rfl (by first | assumption | rfl) (by omega) ?_
  refine r_putI (pc' := 8) dX4_copyFrom_5 rfl fX4_24 rfl (by first | assumption | rfl) (by omega) rfl rfl ?_
  refine r_aload_n (i := 0) (pc' := 9) dX4_copyFrom_8 rfl rfl (.head _) ?_
  refine r_aload_n (i := 1) (pc' := 10) dX4_copyFrom_9 rfl rfl (.tail _ (.head _)) ?_
  refine r_getI (pc' := 13) dX4_copyFrom_10 rfl fX4_28 rfl (by first | assumption | rfl) (by omega) ?_
  refine r_putI (pc' := 16) dX4_copyFrom_13 rfl fX4_28 rfl (by first | assumption | rfl) (by omega) rfl rfl ?_
  refine r_aload_n (i := 0) (pc' := 17) dX4_copyFrom_16 rfl rfl (.head _) ?_
  refine r_aload_n (i := 1) (pc' := 18) dX4_copyFrom_17 rfl rfl (.tail _ (.head _)) ?_
  refine r_getI (pc' := 21) dX4_copyFrom_18 rfl fX4_31 rfl (by first | assumption | rfl) (by omega) ?_
  refine r_putI (pc' := 24) dX4_copyFrom_21 rfl fX4_31 rfl (by first | assumption | rfl) (by omega) rfl rfl ?_
  refine r_aload_n (i := 0) (pc' := 25) dX4_copyFrom_24 rfl rfl (.head _) ?_
  refine r_aload_n (i := 1) (pc' := 26) dX4_copyFrom_25 rfl rfl (.tail _ (.head _)) ?_
  refine r_getI (pc' := 29) dX4_copyFrom_26 rfl fX4_34 rfl (by first | assumption | rfl) (by omega) ?_
  refine r_putI (pc' := 32) dX4_copyFrom_29 rfl fX4_34 rfl (by first | assumption | rfl) (by omega) rfl rfl ?_
  refine r_aload_n (i := 0) (pc' := 33) dX4_copyFrom_32 rfl rfl (.head _) ?_
  refine r_aload_n (i := 1) (pc' := 34) dX4_copyFrom_33 rfl rfl (.tail _ (.head _)) ?_
  refine r_getI (pc' := 37) dX4_copyFrom_34 rfl fX4_37 rfl (by first | assumption | rfl) (by omega) ?_
  refine r_putI (pc' := 40) dX4_copyFrom_37 rfl fX4_37 rfl (by first | assumption | rfl) (by omega) rfl rfl ?_
  refine r_aload_n (i := 0) (pc' := 41) dX4_copyFrom_40 rfl rfl (.head _) ?_
  refine r_aload_n (i := 1) (pc' := 42) dX4_copyFrom_41 rfl rfl (.tail _ (.head _)) ?_
  refine r_getI (pc' := 45) dX4_copyFrom_42 rfl fX4_40 rfl (by first | assumption | rfl) (by omega) ?_
  refine r_putI (pc' := 48) dX4_copyFrom_45 rfl fX4_40 rfl (by first | assumption | rfl) (by omega) rfl rfl ?_
  refine r_aload_n (i := 1) (pc' := 49) dX4_copyFrom_48 rfl rfl (.tail _ (.head _)) ?_
  refine r_getR (pc' := 52) dX4_copyFrom_49 rfl fX4_11 rfl (by first | assumption | rfl) (by omega) (by assumption) ?_
  refine r_iconst (pc' := 53) dX4_copyFrom_52 rfl ?_
  refine r_aload_n (i := 0) (pc' := 54) dX4_copyFrom_53 rfl rfl (.head _) ?_
  refine r_getR (pc' := 57) dX4_copyFrom_54 rfl fX4_11 rfl (by first | assumption | rfl) (by omega) (by assumption) ?_
  refine r_iconst (pc' := 58) dX4_copyFrom_57 rfl ?_
  refine r_bipush (pc' := 60) dX4_copyFrom_58 rfl (by decide) ?_
  refine q_copyW (k := 20) (t0 := 0) (ty := .int) (pc' := 63) dX4_copyFrom_60 rfl lX4_43 sys_nat sys_stat sys_init (by decide) (Nat.le_of_ble_eq_true rfl) (by decide) rfl rfl (by assumption) (by assumption) (by omega) (by omega) (by decide) (fun _ _ => rfl) ?_
  refine r_aload_n (i := 1) (pc' := 64) dX4_copyFrom_63 rfl rfl (.tail _ (.head _)) ?_
  refine r_getR (pc' := 67) dX4_copyFrom_64 rfl fX4_15 rfl (by first | assumption | rfl) (by omega) (by assumption) ?_
  refine r_iconst (pc' := 68) dX4_copyFrom_67 rfl ?_
  refine r_aload_n (i := 0) (pc' := 69) dX4_copyFrom_68 rfl rfl (.head _) ?_
  refine r_getR (pc' := 72) dX4_copyFrom_69 rfl fX4_15 rfl (by first | assumption | rfl) (by omega) (by assumption) ?_
  refine r_iconst (pc' := 73) dX4_copyFrom_72 rfl ?_
  refine r_bipush (pc' := 75) dX4_copyFrom_73 rfl (by decide) ?_
  refine q_copyW (k := 20) (t0 := 0) (ty := .int) (pc' := 78) dX4_copyFrom_75 rfl lX4_43 sys_nat sys_stat sys_init (by decide) (Nat.le_of_ble_eq_true rfl) (by decide) rfl rfl (by assumption) (by assumption) (by omega) (by omega) (by decide) (fun _ _ => rfl) ?_
  refine r_aload_n (i := 1) (pc' := 79) dX4_copyFrom_78 rfl rfl (.tail _ (.head _)) ?_
  refine r_getR (pc' := 82) dX4_copyFrom_79 rfl fX4_18 rfl (by first | assumption | rfl) (by omega) (by assumption) ?_
  refine r_iconst (pc' := 83) dX4_copyFrom_82 rfl ?_
  refine r_aload_n (i := 0) (pc' := 84) dX4_copyFrom_83 rfl rfl (.head _) ?_
  refine r_getR (pc' := 87) dX4_copyFrom_84 rfl fX4_18 rfl (by first | assumption | rfl) (by omega) (by assumption) ?_
  refine r_iconst (pc' := 88) dX4_copyFrom_87 rfl ?_
  refine r_bipush (pc' := 90) dX4_copyFrom_88 rfl (by decide) ?_
  refine q_copyW (k := 20) (t0 := 0) (ty := .int) (pc' := 93) dX4_copyFrom_90 rfl lX4_43 sys_nat sys_stat sys_init (by decide) (Nat.le_of_ble_eq_true rfl) (by decide) rfl rfl (by assumption) (by assumption) (by omega) (by omega) (by decide) (fun _ _ => rfl) ?_
  refine r_aload_n (i := 1) (pc' := 94) dX4_copyFrom_93 rfl rfl (.tail _ (.head _)) ?_
  refine r_getR (pc' := 97) dX4_copyFrom_94 rfl fX4_21 rfl (by first | assumption | rfl) (by omega) (by assumption) ?_
  refine r_iconst (pc' := 98) dX4_copyFrom_97 rfl ?_
  refine r_aload_n (i := 0) (pc' := 99) dX4_copyFrom_98 rfl rfl (.head _) ?_
  refine r_getR (pc' := 102) dX4_copyFrom_99 rfl fX4_21 rfl (by first | assumption | rfl) (by omega) (by assumption) ?_
  refine r_iconst (pc' := 103) dX4_copyFrom_102 rfl ?_
  refine r_bipush (pc' := 105) dX4_copyFrom_103 rfl (by decide) ?_
  refine q_copyW (k := 20) (t0 := 0) (ty := .int) (pc' := 108) dX4_copyFrom_105 rfl lX4_43 sys_nat sys_stat sys_init (by decide) (Nat.le_of_ble_eq_true rfl) (by decide) rfl rfl (by assumption) (by assumption) (by omega) (by omega) (by decide) (fun _ _ => rfl) ?_
  refine r_return dX4_copyFrom_108 rfl ?_
  refine ⟨rfl, rfl, rfl, rfl, ?_⟩
  simp (disch := omega) only [xv_up_ne, zi_xv, q_up_ne]
  funext i j
  simp only [c_copy]
  by_cases h1 : i = c
  · subst h1
    rw [if_neg (by omega), if_neg (by omega), if_neg (by omega), if_neg (by omega)]
    by_cases h2 : j < 6
    · have : j = 0 ∨ j = 1 ∨ j = 2 ∨ j = 3 ∨ j = 4 ∨ j = 5 := by omega
      rw [if_pos ⟨rfl, h2⟩]
      rcases this with e | e | e | e | e | e <;> subst e <;> simp [q_up]
    · rw [if_neg (by omega), if_neg (by omega), q_up_ne _ _ (by omega), q_up_ne _ _ (by omega), q_up_ne _ _ (by omega), q_up_ne _ _ (by omega), q_up_ne _ _ (by omega), q_up_ne _ _ (by omega)]
  · rw [if_neg (show ¬ (i = c ∧ j < 6) by omega)]
    by_cases h3 : c < i ∧ i ≤ c + 4 ∧ j < 10
    · rw [if_pos h3]
      have : i = c + 1 ∨ i = c + 2 ∨ i = c + 3 ∨ i = c + 4 := by omega
      rcases this with e | e | e | e <;> subst e <;> simp [h3.2.2, show ¬ o + 1 = c by omega, show ¬ o + 2 = c by omega, show ¬ o + 3 = c by omega, show ¬ o + 4 = c by omega, show c + 1 - c = 1 by omega, show c + 2 - c = 2 by omega, show c + 3 - c = 3 by omega, show c + 4 - c = 4 by omega]
    · rw [if_neg h3, if_neg (by omega), if_neg (by omega), if_neg (by omega), if_neg (by omega), q_up_ne _ _ (by omega), q_up_ne _ _ (by omega), q_up_ne _ _ (by omega), q_up_ne _ _ (by omega), q_up_ne _ _ (by omega), q_up_ne _ _ (by omega)]
theorem c_put_f (X : q_X) (c : Nat) (i b r : Int) (j : Nat) : xv (c_put X c i b r) c j = xv X c j := by
  unfold c_put; split
  · rw [xv_up_ne _ _ (by omega), xv_up_ne _ _ (by omega)]
  · rfl
theorem c_putN_f (X : q_X) (c : Nat) (a b : Int) (j : Nat) : ∀ k, xv (c_putN X c a b k) c j = xv X c j
  | 0 => rfl
  | k + 1 => by rw [c_putN, c_put_f, c_putN_f X c a b j k]
set_option maxHeartbeats 4000000 in
set_option maxRecDepth 100000 in
theorem lX4_addYears {l : Launch} {g : q_G} {n : Nat} {P : q_P} {X : q_X} {Y : q_Y} {c m : Nat} {b : Int} (hc : isCon n P c) (hm : m ≤ 100) (hy : 0 ≤ xv X c 1 ∧ xv X c 1 ≤ 100) : ∀ (k i : Nat), i + k = m → q_Tr l g mX4_addYears 1 (q_gv (fun n' P' X' Y' => n' = n ∧ P' = P ∧ Y' = Y ∧ X' = q_up (c_putN X c (xv X c 1) b m) c 1 (zi (xv X c 1 + m)))) 2 [(0, .ref (g.1 + c)), (1, .int (zi (m : Int))), (2, .int (zi b)), (3, .int (zi (i : Int)))] [] n P (c_putN X c (xv X c 1) b i) Y := by
  obtain ⟨s0, s1, s2, s3, s4, p6, p7, p8, p9, hn⟩ := id hc
  intro k
  induction k with
  | zero =>
    intro i hk
    refine r_iload_n (i := 3) (pc' := 3) dX4_addYears_2 rfl rfl (.tail _ (.tail _ (.tail _ (.head _)))) ?_
    refine r_iload_n (i := 1) (pc' := 4) dX4_addYears_3 rfl rfl (.tail _ (.head _)) ?_
    refine r_icmp_ge (t := 25) (f := 7) dX4_addYears_4 (by decide) rfl (by first | omega | exact xv_in _ _ _) (by first | omega | exact xv_in _ _ _) (fun h4 => ?_) (fun h4 => ?_)
    · refine r_aload_n (i := 0) (pc' := 26) dX4_addYears_25 rfl rfl (.head _) ?_
      refine r_dup (pc' := 27) dX4_addYears_26 rfl rfl ?_
      refine r_getI (pc' := 30) dX4_addYears_27 rfl fX4_28 rfl (by first | assumption | rfl) (by omega) ?_
      refine r_iload_n (i := 1) (pc' := 31) dX4_addYears_30 rfl rfl (.tail _ (.head _)) ?_
      refine r_iadd (pc' := 32) dX4_addYears_31 rfl ?_
      refine r_putI (pc' := 35) dX4_addYears_32 rfl fX4_28 rfl (by first | assumption | rfl) (by omega) rfl rfl ?_
      refine r_return dX4_addYears_35 rfl ?_
      refine ⟨rfl, rfl, rfl, rfl, ?_⟩
      rw [c_putN_f, show i = m by omega]
    · exfalso; omega
  | succ k ih =>
    intro i hk
    refine r_iload_n (i := 3) (pc' := 3) dX4_addYears_2 rfl rfl (.tail _ (.tail _ (.tail _ (.head _)))) ?_
    refine r_iload_n (i := 1) (pc' := 4) dX4_addYears_3 rfl rfl (.tail _ (.head _)) ?_
    refine r_icmp_ge (t := 25) (f := 7) dX4_addYears_4 (by decide) rfl (by first | omega | exact xv_in _ _ _) (by first | omega | exact xv_in _ _ _) (fun h4 => ?_) (fun h4 => ?_)
    · exfalso; omega
    · refine r_aload_n (i := 0) (pc' := 8) dX4_addYears_7 rfl rfl (.head _) ?_
      refine r_aload_n (i := 0) (pc' := 9) dX4_addYears_8 rfl rfl (.head _) ?_
      refine r_getI (pc' := 12) dX4_addYears_9 rfl fX4_28 rfl (by first | assumption | rfl) (by omega) ?_
      rw [c_putN_f]
      refine r_iload_n (i := 3) (pc' := 13) dX4_addYears_12 rfl rfl (.tail _ (.tail _ (.tail _ (.head _)))) ?_
      refine r_iadd (pc' := 14) dX4_addYears_13 rfl ?_
      refine r_iload_n (i := 2) (pc' := 15) dX4_addYears_14 rfl rfl (.tail _ (.tail _ (.head _))) ?_
      refine r_iconst (pc' := 16) dX4_addYears_15 rfl ?_
      refine r_V3gv (ci := 4) (pc' := 19) dX4_addYears_16 rfl lX4_73 rfl (by decide) (Nat.le_of_ble_eq_true rfl) (by first | assumption | rfl) (by omega) (tX4_putPay (by assumption) (by omega)) (fun n16 P16 X16 Y16 e16 le16 => ?_)
      obtain ⟨rfl, rfl, rfl, rfl⟩ := e16
      refine r_iinc (pc' := 22) dX4_addYears_19 rfl rfl (.tail _ (.tail _ (.tail _ (.head _)))) (.s1 (.s1 (.s1 (.here .nil) rfl rfl rfl) rfl rfl rfl) rfl rfl rfl) ?_
      refine r_goto (t := 2) dX4_addYears_22 (by decide) ?_
      exact ih (i + 1) (by omega)
set_option maxHeartbeats 4000000 in
set_option maxRecDepth 100000 in
theorem tX4_addYears {l : Launch} {g : q_G} {n : Nat} {P : q_P} {X : q_X} {Y : q_Y} {c m : Nat} {b : Int} (hc : isCon n P c) (hm : m ≤ 100) (hy : 0 ≤ xv X c 1 ∧ xv X c 1 ≤ 100) : q_Met l g mX4_addYears 1 [.ref (g.1 + c), .int (zi (m : Int)), .int (zi b)] n P X Y (q_gv (fun n' P' X' Y' => n' = n ∧ P' = P ∧ Y' = Y ∧ X' = q_up (c_putN X c (xv X c 1) b m) c 1 (zi (xv X c 1 + m)))) := by
  obtain ⟨s0, s1, s2, s3, s4, p6, p7, p8, p9, hn⟩ := id hc
  refine q_enter (L := [(0, .ref (g.1 + c)), (1, .int (zi (m : Int))), (2, .int (zi b))]) (by decide) (Nat.le_of_ble_eq_true rfl) rfl ?_
  refine r_iconst (pc' := 1) dX4_addYears_0 rfl ?_
  refine r_istore_n (i := 3) (pc' := 2) dX4_addYears_1 rfl rfl rfl (.s1 (.s1 (.s1 .nil rfl rfl rfl) rfl rfl rfl) rfl rfl rfl) ?_
  exact lX4_addYears hc hm hy m 0 (by omega)
theorem c_spN_f (X : q_X) (c row : Nat) (b ov : Int) (i j : Nat) (h : i ≠ c + 3) : ∀ k, xv (c_spN X c row b ov k) i j = xv X i j
  | 0 => rfl
  | k + 1 => by rw [c_spN, xv_up_ne _ _ (by omega), c_spN_f X c row b ov i j h k]
theorem c_last_of {X X' : q_X} {c : Nat} (h : ∀ j, xv X' c j = xv X c j) : c_last X' c = c_last X c := by simp only [c_last, h]
set_option maxHeartbeats 4000000 in
set_option maxRecDepth 100000 in
theorem lX4_spread {l : Launch} {g : q_G} {n : Nat} {P : q_P} {X : q_X} {Y : q_Y} {c row : Nat} {y b : Int} (hc : isCon n P c) (hr : row < 10) (hb : q_in b) (hl : -100 ≤ c_last X c ∧ c_last X c ≤ 100) (hy : -1 ≤ y ∧ y ≤ 40) : ∀ (k i : Nat), i + k = min 5 (10 - row) → q_Tr l g mX4_spread 3 (q_gv (fun n' P' X' Y' => n' = n ∧ P' = P ∧ Y' = Y ∧ X' = c_spN (q_up X (c + 4) row (zi (xv X (c + 4) row + b))) c row b (c_last X c - y + 1) (min 5 (10 - row)))) 31 [(0, .ref (g.1 + c)), (1, .int (zi y)), (2, .int (zi b)), (3, .int (zi (row : Int))), (4, .int (zi (i : Int)))] [] n P (c_spN (q_up X (c + 4) row (zi (xv X (c + 4) row + b))) c row b (c_last X c - y + 1) i) Y := by
  obtain ⟨s0, s1, s2, s3, s4, p6, p7, p8, p9, hn⟩ := id hc
  intro k
  have hlst : ∀ i, c_last (c_spN (q_up X (c + 4) row (zi (xv X (c + 4) row + b))) c row b (c_last X c - y + 1) i) c = c_last X c := fun i => c_last_of (fun j => by rw [c_spN_f _ _ _ _ _ _ _ (by omega), xv_up_ne _ _ (by omega)])
  induction k with
  | zero =>
    intro i hk
    refine r_iload (pc' := 33) dX4_spread_31 rfl (.tail _ (.tail _ (.tail _ (.tail _ (.head _))))) ?_
    refine r_iconst (pc' := 34) dX4_spread_33 rfl ?_
    refine r_icmp_ge (t := 72) (f := 37) dX4_spread_34 (by decide) rfl (by first | omega | exact xv_in _ _ _) (by first | omega | exact xv_in _ _ _) (fun h34 => ?_) (fun h34 => ?_)
    · refine r_return dX4_spread_72 rfl ?_
      exact ⟨rfl, rfl, rfl, rfl, by rw [show i = min 5 (10 - row) by omega]⟩
    · refine r_iload_n (i := 3) (pc' := 38) dX4_spread_37 rfl rfl (.tail _ (.tail _ (.tail _ (.head _)))) ?_
      refine r_iload (pc' := 40) dX4_spread_38 rfl (.tail _ (.tail _ (.tail _ (.tail _ (.head _))))) ?_
      refine r_iadd (pc' := 41) dX4_spread_40 rfl ?_
      refine r_bipush (pc' := 43) dX4_spread_41 rfl (by decide) ?_
      refine r_icmp_ge (t := 72) (f := 46) dX4_spread_43 (by decide) rfl (by first | omega | exact xv_in _ _ _) (by first | omega | exact xv_in _ _ _) (fun h43 => ?_) (fun h43 => ?_)
      · refine r_return dX4_spread_72 rfl ?_
        exact ⟨rfl, rfl, rfl, rfl, by rw [show i = min 5 (10 - row) by omega]⟩
      · exfalso; omega
  | succ k ih =>
    intro i hk
    have hl' := hlst i
    refine r_iload (pc' := 33) dX4_spread_31 rfl (.tail _ (.tail _ (.tail _ (.tail _ (.head _))))) ?_
    refine r_iconst (pc' := 34) dX4_spread_33 rfl ?_
    refine r_icmp_ge (t := 72) (f := 37) dX4_spread_34 (by decide) rfl (by first | omega | exact xv_in _ _ _) (by first | omega | exact xv_in _ _ _) (fun h34 => ?_) (fun h34 => ?_)
    · exfalso; omega
    · refine r_iload_n (i := 3) (pc' := 38) dX4_spread_37 rfl rfl (.tail _ (.tail _ (.tail _ (.head _)))) ?_
      refine r_iload (pc' := 40) dX4_spread_38 rfl (.tail _ (.tail _ (.tail _ (.tail _ (.head _))))) ?_
      refine r_iadd (pc' := 41) dX4_spread_40 rfl ?_
      refine r_bipush (pc' := 43) dX4_spread_41 rfl (by decide) ?_
      refine r_icmp_ge (t := 72) (f := 46) dX4_spread_43 (by decide) rfl (by first | omega | exact xv_in _ _ _) (by first | omega | exact xv_in _ _ _) (fun h43 => ?_) (fun h43 => ?_)
      · exfalso; omega
      · refine r_aload_n (i := 0) (pc' := 47) dX4_spread_46 rfl rfl (.head _) ?_
        refine r_getR (pc' := 50) dX4_spread_47 rfl fX4_18 rfl (by first | assumption | rfl) (by omega) (by assumption) ?_
        refine r_iload_n (i := 3) (pc' := 51) dX4_spread_50 rfl rfl (.tail _ (.tail _ (.tail _ (.head _)))) ?_
        refine r_iload (pc' := 53) dX4_spread_51 rfl (.tail _ (.tail _ (.tail _ (.tail _ (.head _))))) ?_
        refine r_iadd (pc' := 54) dX4_spread_53 rfl ?_
        refine r_dup2 (pc' := 55) dX4_spread_54 rfl rfl rfl ?_
        refine r_iaload (pc' := 56) dX4_spread_55 rfl (by first | assumption | rfl) (by omega) (by omega) (by omega) (by first | decide | omega) (show ((row : Int) + (i : Int)).toNat = row + i by omega) ?_
        refine r_aload_n (i := 0) (pc' := 57) dX4_spread_56 rfl rfl (.head _) ?_
        refine r_iload_n (i := 2) (pc' := 58) dX4_spread_57 rfl rfl (.tail _ (.tail _ (.head _))) ?_
        refine r_iload_n (i := 1) (pc' := 59) dX4_spread_58 rfl rfl (.tail _ (.head _)) ?_
        refine r_iload (pc' := 61) dX4_spread_59 rfl (.tail _ (.tail _ (.tail _ (.tail _ (.head _))))) ?_
        refine r_V3p (ci := 4) (pc' := 64) dX4_spread_61 rfl lX4_88 rfl (by decide) (Nat.le_of_ble_eq_true rfl) (by first | assumption | rfl) (by omega) (tX4_partOf (by assumption) (by omega) (by rw [hl']; omega) (by omega) (by omega)) ?_
        rw [hl']
        refine r_iadd (pc' := 65) dX4_spread_64 rfl ?_
        refine r_iastore (pc' := 66) dX4_spread_65 rfl (by first | assumption | rfl) (by omega) (by omega) (by omega) (by first | decide | omega) (show ((row : Int) + (i : Int)).toNat = row + i by omega) ?_
        refine r_iinc (pc' := 69) dX4_spread_66 rfl rfl (.tail _ (.tail _ (.tail _ (.tail _ (.head _))))) (.s1 (.s1 (.s1 (.s1 (.here .nil) rfl rfl rfl) rfl rfl rfl) rfl rfl rfl) rfl rfl rfl) ?_
        refine r_goto (t := 31) dX4_spread_69 (by decide) ?_
        exact ih (i + 1) (by omega)
set_option maxHeartbeats 4000000 in
set_option maxRecDepth 100000 in
theorem tX4_spread {l : Launch} {g : q_G} {n : Nat} {P : q_P} {X : q_X} {Y : q_Y} {c : Nat} {y b : Int} (hc : isCon n P c) (hf : 0 ≤ xv X c 0 ∧ xv X c 0 ≤ 19) (hy : -1 ≤ y ∧ y ≤ 40) (hb : q_in b) (hl : -100 ≤ c_last X c ∧ c_last X c ≤ 100) : q_Met l g mX4_spread 3 [.ref (g.1 + c), .int (zi y), .int (zi b)] n P X Y (q_gv (fun n' P' X' Y' => n' = n ∧ P' = P ∧ Y' = Y ∧ X' = c_spread X c y b)) := by
  obtain ⟨s0, s1, s2, s3, s4, p6, p7, p8, p9, hn⟩ := id hc
  refine q_enter (L := [(0, .ref (g.1 + c)), (1, .int (zi y)), (2, .int (zi b))]) (by decide) (Nat.le_of_ble_eq_true rfl) rfl ?_
  refine r_iload_n (i := 1) (pc' := 1) dX4_spread_0 rfl rfl (.tail _ (.head _)) ?_
  refine r_aload_n (i := 0) (pc' := 2) dX4_spread_1 rfl rfl (.head _) ?_
  refine r_getI (pc' := 5) dX4_spread_2 rfl fX4_24 rfl (by first | assumption | rfl) (by omega) ?_
  refine r_isub (pc' := 6) dX4_spread_5 rfl ?_
  refine r_istore_n (i := 3) (pc' := 7) dX4_spread_6 rfl rfl rfl (.s1 (.s1 (.s1 .nil rfl rfl rfl) rfl rfl rfl) rfl rfl rfl) ?_
  refine r_iload_n (i := 3) (pc' := 8) dX4_spread_7 rfl rfl (.tail _ (.tail _ (.tail _ (.head _)))) ?_
  refine r_if_lt (t := 17) (f := 11) dX4_spread_8 (by decide) rfl (by first | omega | exact xv_in _ _ _) (fun h8 => ?_) (fun h8 => ?_)
  · refine r_return dX4_spread_17 rfl ?_
    refine ⟨rfl, rfl, rfl, rfl, ?_⟩
    unfold c_spread; split <;> first | rfl | (exfalso; omega)
  · refine r_iload_n (i := 3) (pc' := 12) dX4_spread_11 rfl rfl (.tail _ (.tail _ (.tail _ (.head _)))) ?_
    refine r_bipush (pc' := 14) dX4_spread_12 rfl (by decide) ?_
    refine r_icmp_lt (t := 18) (f := 17) dX4_spread_14 (by decide) rfl (by first | omega | exact xv_in _ _ _) (by first | omega | exact xv_in _ _ _) (fun h14 => ?_) (fun h14 => ?_)
    · have hpos : 0 ≤ y - xv X c 0 ∧ y - xv X c 0 < 10 := by omega
      rw [c_spread, if_pos hpos]
      generalize hrow : (y - xv X c 0).toNat = row
      rw [show y - xv X c 0 = (row : Int) by omega]
      refine r_aload_n (i := 0) (pc' := 19) dX4_spread_18 rfl rfl (.head _) ?_
      refine r_getR (pc' := 22) dX4_spread_19 rfl fX4_21 rfl (by first | assumption | rfl) (by omega) (by assumption) ?_
      refine r_iload_n (i := 3) (pc' := 23) dX4_spread_22 rfl rfl (.tail _ (.tail _ (.tail _ (.head _)))) ?_
      refine r_dup2 (pc' := 24) dX4_spread_23 rfl rfl rfl ?_
      refine r_iaload (pc' := 25) dX4_spread_24 rfl (by first | assumption | rfl) (by omega) (by omega) (by omega) (by first | decide | omega) (Int.toNat_natCast _) ?_
      refine r_iload_n (i := 2) (pc' := 26) dX4_spread_25 rfl rfl (.tail _ (.tail _ (.head _))) ?_
      refine r_iadd (pc' := 27) dX4_spread_26 rfl ?_
      refine r_iastore (pc' := 28) dX4_spread_27 rfl (by first | assumption | rfl) (by omega) (by omega) (by omega) (by first | decide | omega) (Int.toNat_natCast _) ?_
      refine r_iconst (pc' := 29) dX4_spread_28 rfl ?_
      refine r_istore (pc' := 31) dX4_spread_29 rfl rfl (.s1 (.s1 (.s1 (.s1 .nil rfl rfl rfl) rfl rfl rfl) rfl rfl rfl) rfl rfl rfl) ?_
      exact lX4_spread hc (by omega) hb hl (by omega) (min 5 (10 - row)) 0 (by omega)
    · refine r_return dX4_spread_17 rfl ?_
      refine ⟨rfl, rfl, rfl, rfl, ?_⟩
      unfold c_spread; split <;> first | rfl | (exfalso; omega)
