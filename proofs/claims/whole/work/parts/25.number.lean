theorem r_eqX {l : Launch} {g : q_G} {y : q_M} {d : Nat} {K : q_K} {pc : Nat} {L : List (Nat × Value)} {S : List Value} {n : Nat} {P : q_P} {X X1 : q_X} {Y : q_Y} (h : X = X1) (k : q_Tr l g y d K pc L S n P X1 Y) : q_Tr l g y d K pc L S n P X Y := h ▸ k
theorem rd_fail_eq {X : q_X} {a : Int} (h : xv X 444 2 = -1) : rd_fail X a = q_up X 444 2 (zi a) := by rw [rd_fail, if_pos h]
theorem q_up_up {α : Type} (X : Nat → Nat → α) (i j : Nat) (u v : α) : q_up (q_up X i j u) i j v = q_up X i j v := by
  funext a b; simp only [q_up]; split <;> rfl
theorem q_up_id (X : q_X) (i j : Nat) : q_up X i j (zi (xv X i j)) = X := by
  funext a b; simp only [q_up, zi_xv]; split
  · rename_i h; rw [h.1, h.2]
  · rfl
theorem rd_up (X : q_X) (j : Nat) (v : Int32) (b : Int) : rd (q_up X 444 j v) b = rd X b := by
  simp only [rd, b_at]; rw [xv_up_ne _ _ (by omega), xv_up_ne _ _ (by omega)]
def p_dig (t : Int → Int) : Nat → Int → Int → Int × Int
  | 0, a, v => (a, v)
  | k + 1, a, v => if isDig (t a) then p_dig t k (a + 1) (v * 10 + t a - 48) else (a, v)
theorem p_dig_b (t : Int → Int) : ∀ (k : Nat) (a v : Int), 0 ≤ v → a ≤ (p_dig t k a v).1 ∧ (p_dig t k a v).1 ≤ a + k ∧ 0 ≤ (p_dig t k a v).2 ∧ (p_dig t k a v).2 < (v + 1) * 10 ^ k
  | 0, a, v, h => by simp only [p_dig]; omega
  | k + 1, a, v, h => by
    simp only [p_dig]
    split
    · rename_i hd
      obtain ⟨h1, h2, h3, h4⟩ := p_dig_b t k (a + 1) (v * 10 + t a - 48) (by omega)
      refine ⟨by omega, by omega, h3, Int.lt_of_lt_of_le h4 ?_⟩
      rw [Int.pow_succ, Int.mul_comm (10 ^ k) 10, ← Int.mul_assoc]
      exact Int.mul_le_mul_of_nonneg_right (by omega) (Int.pow_nonneg (by omega))
    · refine ⟨by omega, by omega, h, ?_⟩
      have hp : (1 : Int) ≤ 10 ^ (k + 1) := by have := Nat.one_le_pow (k + 1) 10 (by omega); exact_mod_cast this
      have : (v + 1) * 1 ≤ (v + 1) * 10 ^ (k + 1) := Int.mul_le_mul_of_nonneg_left hp (by omega)
      omega
theorem p_dig_6 (t : Int → Int) (a : Int) : a ≤ (p_dig t 6 a 0).1 ∧ (p_dig t 6 a 0).1 ≤ a + 6 ∧ 0 ≤ (p_dig t 6 a 0).2 ∧ (p_dig t 6 a 0).2 ≤ 999999 := by
  obtain ⟨h1, h2, h3, h4⟩ := p_dig_b t 6 a 0 (by omega)
  exact ⟨h1, by omega, h3, by have : ((0 : Int) + 1) * 10 ^ 6 = 1000000 := by decide
                              omega⟩
/-- a number: its value, and the store behind it -/
def rd_numV (X : q_X) (lo hi : Int) : Int := if xv X 444 2 = -1 ∧ ¬ ((p_dig (rd X) 6 (xv X 444 1) 0).1 = xv X 444 1 ∨ isDig (rd X (p_dig (rd X) 6 (xv X 444 1) 0).1)) ∧ lo ≤ (p_dig (rd X) 6 (xv X 444 1) 0).2 ∧ (p_dig (rd X) 6 (xv X 444 1) 0).2 ≤ hi then (p_dig (rd X) 6 (xv X 444 1) 0).2 else 0
def rd_numX (X : q_X) (lo hi : Int) : q_X := if xv X 444 2 = -1 then
    (if (p_dig (rd X) 6 (xv X 444 1) 0).1 = xv X 444 1 ∨ isDig (rd X (p_dig (rd X) 6 (xv X 444 1) 0).1) then q_up (q_up X 444 1 (zi (p_dig (rd X) 6 (xv X 444 1) 0).1)) 444 2 (zi (p_dig (rd X) 6 (xv X 444 1) 0).1)
     else if lo ≤ (p_dig (rd X) 6 (xv X 444 1) 0).2 ∧ (p_dig (rd X) 6 (xv X 444 1) 0).2 ≤ hi then q_up X 444 1 (zi (p_dig (rd X) 6 (xv X 444 1) 0).1)
     else q_up (q_up X 444 1 (zi (p_dig (rd X) 6 (xv X 444 1) 0).1)) 444 2 (zi (xv X 444 1))) else X
set_option maxHeartbeats 4000000 in
set_option maxRecDepth 100000 in
theorem tX9_finish {l : Launch} {g : q_G} {n : Nat} {P : q_P} {X : q_X} {Y : q_Y} (hr : isRd n P) : q_Met l g mX9_finish 0 [.ref (g.1 + 444)] n P X Y (q_gi (fun r' n' P' X' Y' => n' = n ∧ P' = P ∧ Y' = Y ∧ X' = q_up X 445 1 (zi 0) ∧ r' = xv X 444 2)) := by
  obtain ⟨r0, r1, hn⟩ := id hr
  have hb := hr.b
  refine q_enter (L := [(0, .ref (g.1 + 444))]) (by decide) (Nat.le_of_ble_eq_true rfl) rfl ?_
  refine r_aload_n (i := 0) (pc' := 1) dX9_finish_0 rfl rfl (.head _) ?_
  refine r_getR (pc' := 4) dX9_finish_1 rfl fX9_14 rfl (by first | assumption | rfl) (by omega) (by assumption) ?_
  refine r_iconst (pc' := 5) dX9_finish_4 rfl ?_
  refine r_putI (pc' := 8) dX9_finish_5 rfl fX9_27 rfl (by first | assumption | rfl) (by omega) rfl rfl ?_
  refine r_aload_n (i := 0) (pc' := 9) dX9_finish_8 rfl rfl (.head _) ?_
  refine r_getI (pc' := 12) dX9_finish_9 rfl fX9_20 rfl (by first | assumption | rfl) (by omega) ?_
  refine r_ireturn dX9_finish_12 rfl ?_
  refine ⟨_, rfl, rfl, rfl, rfl, ?_, ?_⟩
  · rfl
  · rw [xv_up_ne _ _ (by omega)]
set_option maxHeartbeats 4000000 in
set_option maxRecDepth 100000 in
theorem lX9_number {l : Launch} {g : q_G} {n : Nat} {P : q_P} {X : q_X} {Y : q_Y} {K : q_K} {lo hi st a' v' : Int} (hr : isRd n P) (kk : q_Tr l g mX9_number 2 K 69 [(0, .ref (g.1 + 444)), (1, .int (zi lo)), (2, .int (zi hi)), (3, .int (zi st)), (4, .int (zi v'))] [] n P (q_up X 444 1 (zi a')) Y) : ∀ (k i : Nat) (a v : Int), i + k = 6 → -1000 ≤ a ∧ a ≤ 1000 + i → p_dig (rd X) k a v = (a', v') → q_Tr l g mX9_number 2 K 21 [(0, .ref (g.1 + 444)), (1, .int (zi lo)), (2, .int (zi hi)), (3, .int (zi st)), (4, .int (zi v)), (5, .int (zi (i : Int)))] [] n P (q_up X 444 1 (zi a)) Y := by
  obtain ⟨r0, r1, hn⟩ := id hr
  have hb := hr.b
  intro k
  induction k with
  | zero =>
    intro i a v hk ha hp
    cases hp
    refine r_iload (pc' := 23) dX9_number_21 rfl (.tail _ (.tail _ (.tail _ (.tail _ (.tail _ (.head _)))))) ?_
    refine r_bipush (pc' := 25) dX9_number_23 rfl (by decide) ?_
    refine r_icmp_ge (t := 69) (f := 28) dX9_number_25 (by decide) rfl (by first | omega | exact xv_in _ _ _ | exact rd_in _ _) (by first | omega | exact xv_in _ _ _ | exact rd_in _ _) (fun h25 => ?_) (fun h25 => ?_)
    · refine r_sub (.kp (.kp (.kp (.kp (.kp (.dr .nil)))))) ?_
      exact kk
    · exfalso; omega
  | succ k ih =>
    intro i a v hk ha hp
    rw [p_dig] at hp
    refine r_iload (pc' := 23) dX9_number_21 rfl (.tail _ (.tail _ (.tail _ (.tail _ (.tail _ (.head _)))))) ?_
    refine r_bipush (pc' := 25) dX9_number_23 rfl (by decide) ?_
    refine r_icmp_ge (t := 69) (f := 28) dX9_number_25 (by decide) rfl (by first | omega | exact xv_in _ _ _ | exact rd_in _ _) (by first | omega | exact xv_in _ _ _ | exact rd_in _ _) (fun h25 => ?_) (fun h25 => ?_)
    · exfalso; omega
    · refine r_aload_n (i := 0) (pc' := 29) dX9_number_28 rfl rfl (.head _) ?_
      refine r_V0p (ci := 9) (pc' := 32) dX9_number_29 rfl lX9_33 rfl (by decide) (Nat.le_of_ble_eq_true rfl) (by first | assumption | rfl) (by omega) (tX9_peek (by assumption)) ?_
      rw [rd_up, xv_up_same _ _ _ (by omega)]
      refine r_S1p (pc' := 35) dX9_number_32 rfl lX9_37 (by decide) (Nat.le_of_ble_eq_true rfl) (tX9_isDigit (by first | omega | exact xv_in _ _ _ | exact rd_in _ _)) ?_
      refine r_bif_eq (t := 69) (f := 38) dX9_number_35 (by decide) rfl (fun h35 => ?_) (fun h35 => ?_)
      · rw [if_neg h35] at hp
        cases hp
        refine r_sub (.kp (.kp (.kp (.kp (.kp (.dr .nil)))))) ?_
        exact kk
      · rw [if_pos h35] at hp
        refine r_iload (pc' := 40) dX9_number_38 rfl (.tail _ (.tail _ (.tail _ (.tail _ (.head _))))) ?_
        refine r_bipush (pc' := 42) dX9_number_40 rfl (by decide) ?_
        refine r_imul (pc' := 43) dX9_number_42 rfl ?_
        refine r_aload_n (i := 0) (pc' := 44) dX9_number_43 rfl rfl (.head _) ?_
        refine r_V0p (ci := 9) (pc' := 47) dX9_number_44 rfl lX9_33 rfl (by decide) (Nat.le_of_ble_eq_true rfl) (by first | assumption | rfl) (by omega) (tX9_peek (by assumption)) ?_
        rw [rd_up, xv_up_same _ _ _ (by omega)]
        refine r_iadd (pc' := 48) dX9_number_47 rfl ?_
        refine r_bipush (pc' := 50) dX9_number_48 rfl (by decide) ?_
        refine r_isub (pc' := 51) dX9_number_50 rfl ?_
        refine r_istore (pc' := 53) dX9_number_51 rfl rfl (.s1 (.s1 (.s1 (.s1 (.here (.s1 .nil rfl rfl rfl)) rfl rfl rfl) rfl rfl rfl) rfl rfl rfl) rfl rfl rfl) ?_
        refine r_aload_n (i := 0) (pc' := 54) dX9_number_53 rfl rfl (.head _) ?_
        refine r_dup (pc' := 55) dX9_number_54 rfl rfl ?_
        refine r_getI (pc' := 58) dX9_number_55 rfl fX9_24 rfl (by first | assumption | rfl) (by omega) ?_
        refine r_iconst (pc' := 59) dX9_number_58 rfl ?_
        refine r_iadd (pc' := 60) dX9_number_59 rfl ?_
        refine r_putI (pc' := 63) dX9_number_60 rfl fX9_24 rfl (by first | assumption | rfl) (by omega) rfl rfl ?_
        refine r_iinc (pc' := 66) dX9_number_63 rfl rfl (.tail _ (.tail _ (.tail _ (.tail _ (.tail _ (.head _)))))) (.s1 (.s1 (.s1 (.s1 (.s1 (.here .nil) rfl rfl rfl) rfl rfl rfl) rfl rfl rfl) rfl rfl rfl) rfl rfl rfl) ?_
        refine r_goto (t := 21) dX9_number_66 (by decide) ?_
        rw [q_up_up, xv_up_same _ _ _ (by omega), show v * 10 + rd X a - 48 = v * 10 + rd X a - 48 from rfl]
        exact ih (i + 1) (a + 1) _ (by omega) (by omega) hp
set_option maxHeartbeats 4000000 in
set_option maxRecDepth 100000 in
theorem tX9_number {l : Launch} {g : q_G} {n : Nat} {P : q_P} {X : q_X} {Y : q_Y} {lo hi : Int} (hr : isRd n P) (ha : 0 ≤ xv X 444 1 ∧ xv X 444 1 ≤ 600) (hlo : q_in lo) (hhi : q_in hi) : q_Met l g mX9_number 2 [.ref (g.1 + 444), .int (zi lo), .int (zi hi)] n P X Y (q_gi (fun r' n' P' X' Y' => n' = n ∧ P' = P ∧ Y' = Y ∧ X' = rd_numX X lo hi ∧ r' = rd_numV X lo hi)) := by
  obtain ⟨r0, r1, hn⟩ := id hr
  have hb := hr.b
  refine q_enter (L := [(0, .ref (g.1 + 444)), (1, .int (zi lo)), (2, .int (zi hi))]) (by decide) (Nat.le_of_ble_eq_true rfl) rfl ?_
  refine r_aload_n (i := 0) (pc' := 1) dX9_number_0 rfl rfl (.head _) ?_
  refine r_getI (pc' := 4) dX9_number_1 rfl fX9_20 rfl (by first | assumption | rfl) (by omega) ?_
  refine r_iconst (pc' := 5) dX9_number_4 rfl ?_
  refine r_icmp_eq (t := 10) (f := 8) dX9_number_5 (by decide) rfl (by first | omega | exact xv_in _ _ _ | exact rd_in _ _) (by first | omega | exact xv_in _ _ _ | exact rd_in _ _) (fun h5 => ?_) (fun h5 => ?_)
  · refine r_aload_n (i := 0) (pc' := 11) dX9_number_10 rfl rfl (.head _) ?_
    refine r_getI (pc' := 14) dX9_number_11 rfl fX9_24 rfl (by first | assumption | rfl) (by omega) ?_
    refine r_istore_n (i := 3) (pc' := 15) dX9_number_14 rfl rfl rfl (.s1 (.s1 (.s1 .nil rfl rfl rfl) rfl rfl rfl) rfl rfl rfl) ?_
    refine r_iconst (pc' := 16) dX9_number_15 rfl ?_
    refine r_istore (pc' := 18) dX9_number_16 rfl rfl (.s1 (.s1 (.s1 (.s1 .nil rfl rfl rfl) rfl rfl rfl) rfl rfl rfl) rfl rfl rfl) ?_
    refine r_iconst (pc' := 19) dX9_number_18 rfl ?_
    refine r_istore (pc' := 21) dX9_number_19 rfl rfl (.s1 (.s1 (.s1 (.s1 (.s1 .nil rfl rfl rfl) rfl rfl rfl) rfl rfl rfl) rfl rfl rfl) rfl rfl rfl) ?_
    have h6 := p_dig_6 (rd X) (xv X 444 1)
    have hid := q_up_id X 444 1
    refine r_eqX hid.symm ?_
    refine lX9_number (X := X) (a' := (p_dig (rd X) 6 (xv X 444 1) 0).1) (v' := (p_dig (rd X) 6 (xv X 444 1) 0).2) hr ?_ 6 0 (xv X 444 1) 0 (by omega) (by omega) rfl
    rw [rd_numV, rd_numX]
    generalize hpa : (p_dig (rd X) 6 (xv X 444 1) 0).1 = a' at *
    generalize hpv : (p_dig (rd X) 6 (xv X 444 1) 0).2 = v' at *
    have hf : xv (q_up X 444 1 (zi a')) 444 2 = xv X 444 2 := xv_up_ne _ _ (by omega)
    refine r_aload_n (i := 0) (pc' := 70) dX9_number_69 rfl rfl (.head _) ?_
    refine r_getI (pc' := 73) dX9_number_70 rfl fX9_24 rfl (by first | assumption | rfl) (by omega) ?_
    rw [xv_up_same _ _ _ (by omega)]
    refine r_iload_n (i := 3) (pc' := 74) dX9_number_73 rfl rfl (.tail _ (.tail _ (.tail _ (.head _)))) ?_
    refine r_icmp_eq (t := 87) (f := 77) dX9_number_74 (by decide) rfl (by first | omega | exact xv_in _ _ _ | exact rd_in _ _) (by first | omega | exact xv_in _ _ _ | exact rd_in _ _) (fun h74 => ?_) (fun h74 => ?_)
    · refine r_aload_n (i := 0) (pc' := 88) dX9_number_87 rfl rfl (.head _) ?_
      refine r_aload_n (i := 0) (pc' := 89) dX9_number_88 rfl rfl (.head _) ?_
      refine r_getI (pc' := 92) dX9_number_89 rfl fX9_24 rfl (by first | assumption | rfl) (by omega) ?_
      rw [xv_up_same _ _ _ (by omega)]
      refine r_V1gv (ci := 9) (pc' := 95) dX9_number_92 rfl lX9_41 rfl (by decide) (Nat.le_of_ble_eq_true rfl) (by first | assumption | rfl) (by omega) (tX9_fail (by assumption)) (fun n92 P92 X92 Y92 e92 le92 => ?_)
      obtain ⟨rfl, rfl, rfl, rfl⟩ := e92
      rw [rd_fail_eq (by rw [hf]; omega)]
      refine r_iconst (pc' := 96) dX9_number_95 rfl ?_
      refine r_ireturn dX9_number_96 rfl ?_
      refine ⟨_, rfl, rfl, rfl, rfl, ?_, ?_⟩ <;> (repeat' split) <;> first | rfl | (exfalso; omega)
    · refine r_aload_n (i := 0) (pc' := 78) dX9_number_77 rfl rfl (.head _) ?_
      refine r_V0p (ci := 9) (pc' := 81) dX9_number_78 rfl lX9_33 rfl (by decide) (Nat.le_of_ble_eq_true rfl) (by first | assumption | rfl) (by omega) (tX9_peek (by assumption)) ?_
      rw [rd_up, xv_up_same _ _ _ (by omega)]
      refine r_S1p (pc' := 84) dX9_number_81 rfl lX9_37 (by decide) (Nat.le_of_ble_eq_true rfl) (tX9_isDigit (by first | omega | exact xv_in _ _ _ | exact rd_in _ _)) ?_
      refine r_bif_eq (t := 97) (f := 87) dX9_number_84 (by decide) rfl (fun h84 => ?_) (fun h84 => ?_)
      · refine r_iload (pc' := 99) dX9_number_97 rfl (.tail _ (.tail _ (.tail _ (.tail _ (.head _))))) ?_
        refine r_iload_n (i := 1) (pc' := 100) dX9_number_99 rfl rfl (.tail _ (.head _)) ?_
        refine r_icmp_lt (t := 109) (f := 103) dX9_number_100 (by decide) rfl (by first | omega | exact xv_in _ _ _ | exact rd_in _ _) (by first | omega | exact xv_in _ _ _ | exact rd_in _ _) (fun h100 => ?_) (fun h100 => ?_)
        · refine r_aload_n (i := 0) (pc' := 110) dX9_number_109 rfl rfl (.head _) ?_
          refine r_iload_n (i := 3) (pc' := 111) dX9_number_110 rfl rfl (.tail _ (.tail _ (.tail _ (.head _)))) ?_
          refine r_V1gv (ci := 9) (pc' := 114) dX9_number_111 rfl lX9_41 rfl (by decide) (Nat.le_of_ble_eq_true rfl) (by first | assumption | rfl) (by omega) (tX9_fail (by assumption)) (fun n111 P111 X111 Y111 e111 le111 => ?_)
          obtain ⟨rfl, rfl, rfl, rfl⟩ := e111
          rw [rd_fail_eq (by rw [hf]; omega)]
          refine r_iconst (pc' := 115) dX9_number_114 rfl ?_
          refine r_ireturn dX9_number_115 rfl ?_
          refine ⟨_, rfl, rfl, rfl, rfl, ?_, ?_⟩ <;> (repeat' split) <;> first | rfl | (exfalso; omega)
        · refine r_iload (pc' := 105) dX9_number_103 rfl (.tail _ (.tail _ (.tail _ (.tail _ (.head _))))) ?_
          refine r_iload_n (i := 2) (pc' := 106) dX9_number_105 rfl rfl (.tail _ (.tail _ (.head _))) ?_
          refine r_icmp_le (t := 116) (f := 109) dX9_number_106 (by decide) rfl (by first | omega | exact xv_in _ _ _ | exact rd_in _ _) (by first | omega | exact xv_in _ _ _ | exact rd_in _ _) (fun h106 => ?_) (fun h106 => ?_)
          · refine r_iload (pc' := 118) dX9_number_116 rfl (.tail _ (.tail _ (.tail _ (.tail _ (.head _))))) ?_
            refine r_ireturn dX9_number_118 rfl ?_
            refine ⟨_, rfl, rfl, rfl, rfl, ?_, ?_⟩ <;> (repeat' split) <;> first | rfl | (exfalso; omega)
          · refine r_aload_n (i := 0) (pc' := 110) dX9_number_109 rfl rfl (.head _) ?_
            refine r_iload_n (i := 3) (pc' := 111) dX9_number_110 rfl rfl (.tail _ (.tail _ (.tail _ (.head _)))) ?_
            refine r_V1gv (ci := 9) (pc' := 114) dX9_number_111 rfl lX9_41 rfl (by decide) (Nat.le_of_ble_eq_true rfl) (by first | assumption | rfl) (by omega) (tX9_fail (by assumption)) (fun n111 P111 X111 Y111 e111 le111 => ?_)
            obtain ⟨rfl, rfl, rfl, rfl⟩ := e111
            rw [rd_fail_eq (by rw [hf]; omega)]
            refine r_iconst (pc' := 115) dX9_number_114 rfl ?_
            refine r_ireturn dX9_number_115 rfl ?_
            refine ⟨_, rfl, rfl, rfl, rfl, ?_, ?_⟩ <;> (repeat' split) <;> first | rfl | (exfalso; omega)
      · refine r_aload_n (i := 0) (pc' := 88) dX9_number_87 rfl rfl (.head _) ?_
        refine r_aload_n (i := 0) (pc' := 89) dX9_number_88 rfl rfl (.head _) ?_
        refine r_getI (pc' := 92) dX9_number_89 rfl fX9_24 rfl (by first | assumption | rfl) (by omega) ?_
        rw [xv_up_same _ _ _ (by omega)]
        refine r_V1gv (ci := 9) (pc' := 95) dX9_number_92 rfl lX9_41 rfl (by decide) (Nat.le_of_ble_eq_true rfl) (by first | assumption | rfl) (by omega) (tX9_fail (by assumption)) (fun n92 P92 X92 Y92 e92 le92 => ?_)
        obtain ⟨rfl, rfl, rfl, rfl⟩ := e92
        rw [rd_fail_eq (by rw [hf]; omega)]
        refine r_iconst (pc' := 96) dX9_number_95 rfl ?_
        refine r_ireturn dX9_number_96 rfl ?_
        refine ⟨_, rfl, rfl, rfl, rfl, ?_, ?_⟩ <;> (repeat' split) <;> first | rfl | (exfalso; omega)
  · refine r_iconst (pc' := 9) dX9_number_8 rfl ?_
    refine r_ireturn dX9_number_9 rfl ?_
    refine ⟨_, rfl, rfl, rfl, rfl, ?_, ?_⟩
    · rw [rd_numX, if_neg (by omega)]
    · rw [rd_numV, if_neg (by omega)]
