def acBeg (X : q_X) : q_X := q_up (q_up X 444 1 (zi 0)) 444 2 (zi (-1))
def acSt (X : q_X) : q_X := acAll (acBeg X)
def acX4 (X : q_X) : q_X := q_up (q_up (acSt X) 445 1 (zi 0)) 0 9 (zi (xv (acSt X) 444 2))
theorem acRd_n : ∀ (w i : Nat) (X : q_X), xv X 449 0 = (i : Int) → i + w ≤ 20 → (i : Int) ≤ xv (acRd w i X) 449 0 ∧ xv (acRd w i X) 449 0 ≤ i + w
  | 0, i, X, h, _ => by rw [acRd, h]; omega
  | w + 1, i, X, h, hw => by
    rw [acRd]; split
    · have e : xv (acOne X i) 449 0 = ((i + 1 : Nat) : Int) := by
        have e1 : xv (rd_exp (acAct X i) 59) 449 0 = (i : Int) := by rw [rd_exp_o (by omega), acAct_o (by omega)]; exact h
        rw [acOne, e1, xv_up_same _ _ _ (by omega)]; omega
      have := acRd_n w (i + 1) _ e (by omega)
      omega
    · omega
theorem acSt_n (X : q_X) : 0 ≤ xv (acSt X) 449 0 ∧ xv (acSt X) 449 0 ≤ 20 := by
  have := acRd_n 20 0 (q_up (acBeg X) 449 0 (zi 0)) (xv_up_same _ _ _ (by omega)) (by omega)
  unfold acSt acAll
  rw [rdTail_o (by omega)]; omega
theorem acSt_o {X : q_X} {a : Nat} (h : a ≠ 444 ∧ a ≠ 450 ∧ a ≠ 451 ∧ a ≠ 452 ∧ a ≠ 449) : xv (acSt X) a = xv X a := by
  rw [acSt, acAll_o h, acBeg, xv_up_row _ _ _ (by omega), xv_up_row _ _ _ (by omega)]
theorem CI.of {n : Nat} {P : q_P} {X X' : q_X} {b x : Nat} (h : CI n P X b x) (h0 : ∀ a, (a = 442 ∨ (b ≤ a ∧ a < b + 220)) → xv X' a = xv X a) : CI n P X' b x := by
  obtain ⟨hF0, hb, hA, hH, ht, ha⟩ := h
  refine ⟨hF0, hb, bS.a (fun d hd h8 => row_of (h0 _ (by omega))) hA, ?_, ht, ha⟩
  unfold isHi at hH ⊢; rw [h0 442 (by omega)]; exact hH
set_option maxHeartbeats 4000000 in
set_option maxRecDepth 100000 in
theorem tX11_acts {l : Launch} {g : q_G} {n : Nat} {P : q_P} {X : q_X} {Y : q_Y} {b x : Nat} (hC : CI n P X b x) (hb1 : 1 ≤ b ∧ b + 220 ≤ 441) (hr : isRd n P) (htp : 0 ≤ xv X 445 1 ∧ xv X 445 1 ≤ 500) : q_Met l g mX11_acts 7 [.ref (g.1 + 0)] n P X Y (q_gi (fun r' n' P' X' Y' => if xv (acSt X) 444 2 = -1 then AC b (xv (acSt X) 449 0).toNat (xv (acSt X) 449 0).toNat 0 x n P (q_up (acX4 X) 0 10 (zi (-1))) Y r' n' P' X' Y' else NO n P (acX4 X) Y r' n' P' X' Y')) := by
  obtain ⟨hF, hb, hA, hH, ht, ha⟩ := id hC
  have hO := hA.1
  obtain ⟨f0, f2, f3, f4, f5, f6, f7, f8, hn0⟩ := id hF
  obtain ⟨b0, b1, b2, b3, q7, q8, q9, q11, q12, q13, hn, hpro, hmar, hfor, hcs⟩ := id hb
  obtain ⟨o0, o1, o2, o3, o4, o5, o6, o10, oc, op0, opz, opi, om0, omi, olim⟩ := id hO
  obtain ⟨h442, hS, hx, hx1, hz0, hz8⟩ := id hH
  have hn9 := hS.n
  obtain ⟨t0, t1, t2, t3, t4, hnt⟩ := id ht
  obtain ⟨a1, a2, a3, hna⟩ := id ha
  obtain ⟨r0, r1, hnr⟩ := id hr
  have hrk : rOk (acBeg X) := by
    unfold rOk acBeg
    rw [xv_up_ne _ _ (by omega), xv_up_same _ _ _ (by omega), xv_up_row _ _ _ (by omega), xv_up_row _ _ _ (by omega)]; omega
  refine q_enter (L := [(0, .ref (g.1 + 0))]) (by decide) (Nat.le_of_ble_eq_true rfl) rfl ?_
  refine r_aload_n (i := 0) (pc' := 1) dX11_acts_0 rfl rfl (.head _) ?_
  refine r_getR (pc' := 4) dX11_acts_1 rfl fX11_33 rfl (by first | assumption | rfl) (by omega) (by assumption) ?_
  refine r_V0gv (ci := 9) (pc' := 7) dX11_acts_4 rfl lX11_90 rfl (by decide) (Nat.le_of_ble_eq_true rfl) (by first | assumption | rfl) (by omega) (tX9_begin hr) (fun n4 P4 X4 Y4 e4 le4 => ?_)
  obtain ⟨hg1_4, hg2_4, hg3_4, hg4_4⟩ := e4
  have g1_4 := Eq.symm hg1_4
  have g2_4 := Eq.symm hg2_4
  have g3_4 := Eq.symm hg3_4
  have g4_4 := Eq.symm hg4_4
  clear hg1_4 hg2_4 hg3_4 hg4_4
  subst g1_4 g2_4 g3_4 g4_4
  change q_Tr _ _ _ _ _ _ _ _ _ _ (acBeg X) _
  refine r_aload_n (i := 0) (pc' := 8) dX11_acts_7 rfl rfl (.head _) ?_
  refine r_getR (pc' := 11) dX11_acts_8 rfl fX11_49 rfl (by first | assumption | rfl) (by omega) (by assumption) ?_
  refine r_aload_n (i := 0) (pc' := 12) dX11_acts_11 rfl rfl (.head _) ?_
  refine r_getR (pc' := 15) dX11_acts_12 rfl fX11_33 rfl (by first | assumption | rfl) (by omega) (by assumption) ?_
  refine r_V1gv (ci := 0) (pc' := 18) dX11_acts_15 rfl lX11_123 rfl (by decide) (Nat.le_of_ble_eq_true rfl) (by first | assumption | rfl) (by omega) (tX0_read hr ha hrk) (fun n15 P15 X15 Y15 e15 le15 => ?_)
  obtain ⟨hg1_15, hg2_15, hg3_15, hg4_15⟩ := e15
  have g1_15 := Eq.symm hg1_15
  have g2_15 := Eq.symm hg2_15
  have g3_15 := Eq.symm hg3_15
  have g4_15 := Eq.symm hg4_15
  clear hg1_15 hg2_15 hg3_15 hg4_15
  subst g1_15 g2_15 g3_15 g4_15
  change q_Tr _ _ _ _ _ _ _ _ _ _ (acSt X) _
  refine r_aload_n (i := 0) (pc' := 19) dX11_acts_18 rfl rfl (.head _) ?_
  refine r_aload_n (i := 0) (pc' := 20) dX11_acts_19 rfl rfl (.head _) ?_
  refine r_getR (pc' := 23) dX11_acts_20 rfl fX11_33 rfl (by first | assumption | rfl) (by omega) (by assumption) ?_
  refine r_V0gi (ci := 9) (pc' := 26) dX11_acts_23 rfl lX11_126 rfl (by decide) (Nat.le_of_ble_eq_true rfl) (by first | assumption | rfl) (by omega) (tX9_finish hr) (fun r23 n23 P23 X23 Y23 e23 le23 => ?_)
  obtain ⟨hg1_23, hg2_23, hg3_23, hg4_23, hg5_23⟩ := e23
  have g1_23 := Eq.symm hg1_23
  have g2_23 := Eq.symm hg2_23
  have g3_23 := Eq.symm hg3_23
  have g4_23 := Eq.symm hg4_23
  have g5_23 := Eq.symm hg5_23
  clear hg1_23 hg2_23 hg3_23 hg4_23 hg5_23
  subst g1_23 g2_23 g3_23 g4_23 g5_23
  refine r_putI (pc' := 29) dX11_acts_26 rfl fX11_67 rfl (by first | assumption | rfl) (by omega) rfl rfl ?_
  change q_Tr _ _ _ _ _ _ _ _ _ _ (acX4 X) _
  have e9 : xv (acX4 X) 0 9 = xv (acSt X) 444 2 := xv_up_same _ _ _ (xv_in _ _ _)
  refine r_aload_n (i := 0) (pc' := 30) dX11_acts_29 rfl rfl (.head _) ?_
  refine r_getI (pc' := 33) dX11_acts_30 rfl fX11_67 rfl (by first | assumption | rfl) (by omega) ?_
  rw [e9]
  refine r_iconst (pc' := 34) dX11_acts_33 rfl ?_
  refine r_icmp_eq (t := 39) (f := 37) dX11_acts_34 (by decide) rfl (by first | omega | exact xv_in _ _ _ | assumption) (by first | omega | exact xv_in _ _ _ | assumption) (fun h34 => ?_) (fun h34 => ?_)
  · refine r_aload_n (i := 0) (pc' := 40) dX11_acts_39 rfl rfl (.head _) ?_
    refine r_iconst (pc' := 41) dX11_acts_40 rfl ?_
    refine r_putI (pc' := 44) dX11_acts_41 rfl fX11_71 rfl (by first | assumption | rfl) (by omega) rfl rfl ?_
    refine r_iconst (pc' := 45) dX11_acts_44 rfl ?_
    refine r_istore_n (i := 1) (pc' := 46) dX11_acts_45 rfl rfl rfl (.s1 .nil rfl rfl rfl) ?_
    have hnn := acSt_n X
    have hxo : ∀ a, a ≠ 0 → a ≠ 445 → xv (q_up (acX4 X) 0 10 (zi (-1))) a = xv (acSt X) a := fun a h1 h2 => by rw [xv_up_row _ _ _ h1, acX4, xv_up_row _ _ _ h1, xv_up_row _ _ _ h2]
    refine q_Tr.mono ?_ (lX11_acts hb1 (m := (xv (acSt X) 449 0).toNat) (by omega) (xv (acSt X) 449 0).toNat 0 x n P _ _ (by omega) (hC.of (fun a ha => by rw [hxo a (by omega) (by omega), acSt_o (by omega)])) (by rw [hxo 449 (by omega) (by omega)]; omega))
    intro v' n' P' X' Y' hq
    obtain ⟨r', z1, z2⟩ := hq
    refine ⟨r', z1, ?_⟩
    dsimp only
    rw [if_pos (by omega)]
    exact z2
  · refine r_iconst (pc' := 38) dX11_acts_37 rfl ?_
    refine r_ireturn dX11_acts_38 rfl ?_
    refine ⟨_, rfl, ?_⟩
    dsimp only
    rw [if_neg (by omega)]
    exact ⟨rfl, rfl, rfl, rfl, rfl⟩
