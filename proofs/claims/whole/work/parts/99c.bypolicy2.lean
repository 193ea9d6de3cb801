/-- rows NOW and AHEAD alone are changed, and what the hits are laid in -/
def rO (X X' : q_X) : Prop := ∀ a j, a ≠ 475 → a ≠ 476 → a ≠ 477 → ¬ (a = 468 ∧ (j < 3740 ∨ 41140 ≤ j)) → X' a j = X a j
theorem rO.rfl {X : q_X} : rO X X := fun _ _ _ _ _ _ => Eq.refl _
theorem rO.trans {X X' X2 : q_X} (h : rO X X') (h2 : rO X' X2) : rO X X2 := fun a j a1 a2 a3 a4 => (h2 a j a1 a2 a3 a4).trans (h a j a1 a2 a3 a4)
theorem rOut.o {X X' : q_X} (h : rOut X X') : rO X X' := fun a j a1 a2 a3 a4 => h a j a1 a2 a3 (fun q => a4 ⟨q.1, Or.inl q.2⟩)
theorem rO_c (X : q_X) : rO X (rowC X 0 11) := fun a j a1 a2 a3 a4 => by
  unfold rowC rowK; rw [if_neg (by omega)]
theorem rO.w {X X' : q_X} (h : rO X X') {r j : Nat} (hr : 1 ≤ r ∧ r ≤ 10) (hj : j < 3740) : rw_ X' r j = rw_ X r j := by
  unfold rw_ xv; rw [h _ _ (by omega) (by omega) (by omega) (by omega)]
theorem dd_eq11 {X : q_X} {r j : Nat} (h : 0 ≤ xv X 467 1 ∧ xv X 467 1 ≤ 8) (hj : j < 3740) : rw_ (dd X 11) r j = if r = 3 + (min (xv X 467 1) 7).toNat then rw_ X 11 j else if xv X 467 1 = 8 ∧ 3 ≤ r ∧ r < 10 then rw_ X (r + 1) j else rw_ X r j := by
  unfold dd
  have e : rw_ (q_up (rowC (ddF X) 11 (3 + (xv (ddF X) 467 1).toNat)) 467 1 (zi (xv (ddF X) 467 1 + 1))) r j = rw_ (rowC (ddF X) 11 (3 + (xv (ddF X) 467 1).toNat)) r j := by unfold rw_; exact xv_up_ne _ _ (by omega)
  rw [e, rowC_eq _ _ _ hj, ddF_1 h, ddF_eq X hj, ddF_eq X hj, if_neg (c := xv X 467 1 = 8 ∧ 3 ≤ 11 ∧ 11 < 10) (by omega)]
theorem rO.d {X X2 : q_X} (h : rO X X2) (h11 : ∀ j, j < 3740 → rw_ X2 11 j = rw_ X 0 j) (hD : 0 ≤ xv X 467 1 ∧ xv X 467 1 ≤ 8) : rO (dd X 0) (dd X2 11) := by
  intro a j a1 a2 a3 a4
  have e1 : xv X2 467 1 = xv X 467 1 := by unfold xv; rw [h _ _ (by omega) (by omega) (by omega) (by omega)]
  have hD2 : 0 ≤ xv X2 467 1 ∧ xv X2 467 1 ≤ 8 := by rw [e1]; exact hD
  by_cases ha : a = 468
  · subst ha
    obtain ⟨r, q, hj, hq, hr⟩ : ∃ r q : Nat, j = 3740 * r + q ∧ q < 3740 ∧ 1 ≤ r ∧ r ≤ 10 := ⟨j / 3740, j % 3740, by omega, by omega, by omega, by omega⟩
    have f1 := dd_eq (s := 0) (r := r) hD (by omega) hq
    have f2 := dd_eq11 (r := r) hD2 hq
    rw [e1] at f2
    have f3 : rw_ (dd X2 11) r q = rw_ (dd X 0) r q := by
      rw [f1, f2, h11 q hq]
      by_cases z : r = 3 + (min (xv X 467 1) 7).toNat
      · rw [if_pos z, if_pos z]
      · rw [if_neg z, if_neg z]
        by_cases u : xv X 467 1 = 8 ∧ 3 ≤ r ∧ r < 10
        · rw [if_pos u, if_pos u, h.w (by omega) hq]
        · rw [if_neg u, if_neg u, h.w (by omega) hq]
    subst hj
    exact Int32.toInt_inj.mp f3
  · by_cases h1 : a = 467 ∧ j = 1
    · obtain ⟨rfl, rfl⟩ := h1
      have f1 := dd_1 0 hD
      have f2 := dd_1 11 hD2
      rw [e1] at f2
      exact Int32.toInt_inj.mp (f2.trans f1.symm)
    · rw [dd_ne _ _ ha h1, dd_ne _ _ ha h1]; exact h a j a1 a2 a3 a4
theorem RB.r11 {C X : q_X} {b : Nat} (h : RB C b (xv X 468)) (hO : bOk C b) (hT : xv C (b + 15) 0 ≤ 80) : RB C b (xv (rowC X 0 11) 468) := h.cg hO hT (fun j hj => by
  have := rowC_eq X 0 11 (r := 0) hj
  rw [if_neg (by omega)] at this
  unfold rw_ at this
  rw [Nat.mul_zero, Nat.zero_add] at this
  exact this)
theorem RB_d11 {C X : q_X} {b : Nat} (h : RB C b (xv X 468)) (hO : bOk C b) (hT : xv C (b + 15) 0 ≤ 80) (hD : 0 ≤ xv X 467 1 ∧ xv X 467 1 ≤ 8) : RB C b (xv (dd X 11) 468) := h.cg hO hT (fun j hj => by
  have := dd_eq11 (r := 0) hD hj
  rw [if_neg (by omega), if_neg (by omega)] at this
  unfold rw_ at this
  rw [Nat.mul_zero, Nat.zero_add] at this
  exact this)
theorem bp_0 {b : Nat} {goal : Int} : ∀ (w : Nat) (C : q_X) (m : Int), (bp b goal w C m).2 = m → (bp b goal w C m).1 = C
  | 0, C, m, _ => rfl
  | w + 1, C, m, h => by
    rw [bp] at h ⊢
    split
    · rfl
    · rename_i h1
      rw [if_neg h1] at h
      split
      · rfl
      · rename_i h2
        rw [if_neg h2] at h
        have := bp_m (b := b) (goal := goal) w (bk_rel C b (gp C b (xv C b 10).toNat).1 0) (m + 1)
        omega
theorem bp_A {b : Nat} {goal : Int} : ∀ (w : Nat) (C : q_X) (m : Int), bA C b → bA (bp b goal w C m).1 b
  | 0, C, m, h => h
  | w + 1, C, m, h => by
    rw [bp]
    split
    · exact h
    · split
      · exact h
      · rename_i h2
        rcases gp_ok C b (xv C b 10).toNat with q | ⟨q1, q2, q3⟩
        · exact absurd q h2
        · exact bp_A w _ _ (bA_rel 0 h q3)
set_option maxHeartbeats 4000000 in
set_option maxRecDepth 100000 in
theorem lX12_byPolicy {l : Launch} {g : q_G} {n : Nat} {P : q_P} (hm : isMod n P) {b : Nat} {goal : Int} (hgi : q_in goal) {X0 : q_X} {K : q_K} : ∀ (w : Nat) (C X : q_X) (Y : q_Y) (mm best : Int), bA C b → 1 ≤ xv C (b + 15) 0 → bk_many C b 0 0 (xv C b 10).toNat ≤ w → (0 ≤ best ∧ best < 40) → rOut X0 X → RB C b (xv X 468) → (∀ X' Y', rOut X0 X' → RB (bp b goal w C mm).1 b (xv X' 468) → q_Tr l g mX12_byPolicy 8 K 148 [(0, .ref (g.1 + 467)), (1, .int (zi goal)), (2, .int (zi (bp b goal w C mm).2))] [] n P X' Y') → q_Tr l g mX12_byPolicy 8 K 30 [(0, .ref (g.1 + 467)), (1, .int (zi goal)), (2, .int (zi mm)), (3, .int (zi best))] [] n P X Y := by
  intro w
  induction w with
  | zero =>
    intro C X Y mm best hA hf1 hw hb ho hR kk
    refine oX12_byPolicy hm hA.1 hA.2.1 hA.2.2 hf1 hR hgi hb ho (fun X' Y' _ h1 h2 => kk X' Y' h1 h2) (fun X' Y' best' _ h2 _ _ _ _ => ?_)
    have := gp_none (C := C) (b := b) (by omega)
    exfalso; omega
  | succ w ih =>
    intro C X Y mm best hA hf1 hw hb ho hR kk
    refine oX12_byPolicy hm hA.1 hA.2.1 hA.2.2 hf1 hR hgi hb ho (fun X' Y' hc h1 h2 => ?_) (fun X' Y' best' h1 h2 h3 h4 h5 h6 => ?_)
    · have e : bp b goal (w + 1) C mm = (C, mm) := by
        rw [bp]
        rcases hc with q | q
        · rw [if_pos q]
        · rw [if_pos q]; split <;> rfl
      rw [e] at kk
      exact kk X' Y' h1 h2
    · have e : bp b goal (w + 1) C mm = bp b goal w (bk_rel C b (gp C b (xv C b 10).toNat).1 0) (mm + 1) := by
        rw [bp, if_neg h1, if_neg (by omega)]
      rw [e] at kk
      rcases gp_ok C b (xv C b 10).toNat with q | ⟨q1, q2, q3⟩
      · exfalso; omega
      · obtain ⟨kn, hkn⟩ : ∃ kn : Nat, (gp C b (xv C b 10).toNat).1 = (kn : Int) := ⟨(gp C b (xv C b 10).toNat).1.toNat, by omega⟩
        rw [hkn] at h6 kk q2 q3
        have hbb : xv (bk_rel C b (kn : Int) 0) b = xv C b := bk_rel_o (by omega) (by unfold con; omega)
        have hmr := many_rel hA.1 q3
        refine ih _ _ _ _ _ (bA_rel 0 hA q3) (by rw [bk_rel_o (by omega) (by unfold con; omega)]; exact hf1) (by rw [hbb]; omega) ⟨h3, h4⟩ h5 h6 kk
set_option maxHeartbeats 4000000 in
set_option maxRecDepth 100000 in
theorem tX12_byPolicy {l : Launch} {g : q_G} {n : Nat} {P : q_P} {X : q_X} {Y : q_Y} (hm : isMod n P) {C : q_X} {b : Nat} (hA : bA C b) (hR : RB C b (xv X 468)) (hD : 0 ≤ xv X 467 1 ∧ xv X 467 1 ≤ 8) {goal : Int} (hgi : q_in goal) : q_Met l g mX12_byPolicy 8 [.ref (g.1 + 467), .int (zi goal)] n P X Y (q_gi (fun r' n' P' X' Y' => n' = n ∧ P' = P ∧ if xv C (b + 15) 0 = 0 ∨ ¬ (-999999 ≤ goal ∧ goal ≤ 999999) then X' = X ∧ r' = -1 else r' = (bp b goal 40 C 0).2 ∧ if r' = 0 then rO X X' ∧ RB C b (xv X' 468) else rO (dd X 0) X' ∧ RB (bp b goal 40 C 0).1 b (xv X' 468))) := by
  have hO := hA.1
  obtain ⟨m0, m2, m3, m8, m9, m14, m15, m16, m17, m18, m20, m22, m25, hnm9⟩ := id hm
  obtain ⟨o0, o1, o2, o3, o4, o5, o6, o10, oc, op0, opz, opi, om0, omi, olim⟩ := id hO
  refine q_enter (L := [(0, .ref (g.1 + 467)), (1, .int (zi goal))]) (by decide) (Nat.le_of_ble_eq_true rfl) rfl ?_
  refine r_aload_n (i := 0) (pc' := 1) dX12_byPolicy_0 rfl rfl (.head _) ?_
  refine r_getR (pc' := 4) dX12_byPolicy_1 rfl fX12_3 rfl (by first | assumption | rfl) (by omega) (by assumption) ?_
  refine r_bipush (pc' := 6) dX12_byPolicy_4 rfl (by decide) ?_
  refine r_iaload (pc' := 7) dX12_byPolicy_6 rfl (by first | assumption | rfl) (by omega) (by omega) (by omega) (by first | decide | omega) (show Int.toNat 8 = 8 from rfl) ?_
  have h8 := hR.2.2.2.2.2.2.1
  have h9 := hR.cm
  refine r_if_eq (t := 17) (f := 10) dX12_byPolicy_7 (by decide) rfl (by first | omega | exact xv_in _ _ _) (fun h7 => ?_) (fun h7 => ?_)
  · refine r_iconst (pc' := 18) dX12_byPolicy_17 rfl ?_
    refine r_ireturn dX12_byPolicy_18 rfl ?_
    refine ⟨_, rfl, rfl, rfl, ?_⟩
    rw [if_pos (by omega)]
    exact ⟨rfl, rfl⟩
  · refine r_iload_n (i := 1) (pc' := 11) dX12_byPolicy_10 rfl rfl (.tail _ (.head _)) ?_
    refine r_S1p (pc' := 14) dX12_byPolicy_11 rfl lX12_330 (by decide) (Nat.le_of_ble_eq_true rfl) (tX12_isGoal (by omega)) ?_
    refine r_bif_ne (t := 19) (f := 17) dX12_byPolicy_14 (by decide) rfl (fun h14 => ?_) (fun h14 => ?_)
    · refine r_aload_n (i := 0) (pc' := 20) dX12_byPolicy_19 rfl rfl (.head _) ?_
      refine r_iconst (pc' := 21) dX12_byPolicy_20 rfl ?_
      refine r_bipush (pc' := 23) dX12_byPolicy_21 rfl (by decide) ?_
      refine r_V2gv (ci := 12) (pc' := 26) dX12_byPolicy_23 rfl lX12_64 rfl (by decide) (Nat.le_of_ble_eq_true rfl) (by first | assumption | rfl) (by omega) (tX12_copyRow hm (s := 0) (t := 11) (by omega) (by omega)) (fun n23 P23 X23 Y23 e23 le23 => ?_)
      obtain ⟨hg1_23, hg2_23, hg3_23, hg4_23⟩ := e23
      have g1_23 := Eq.symm hg1_23
      have g2_23 := Eq.symm hg2_23
      have g3_23 := Eq.symm hg3_23
      have g4_23 := Eq.symm hg4_23
      clear hg1_23 hg2_23 hg3_23 hg4_23
      subst g1_23 g2_23 g3_23 g4_23
      refine r_iconst (pc' := 27) dX12_byPolicy_26 rfl ?_
      refine r_istore_n (i := 2) (pc' := 28) dX12_byPolicy_27 rfl rfl rfl (.s1 (.s1 .nil rfl rfl rfl) rfl rfl rfl) ?_
      refine r_iconst (pc' := 29) dX12_byPolicy_28 rfl ?_
      refine r_istore_n (i := 3) (pc' := 30) dX12_byPolicy_29 rfl rfl rfl (.s1 (.s1 (.s1 .nil rfl rfl rfl) rfl rfl rfl) rfl rfl rfl) ?_
      have hmb := bkm_b C b 0 (xv C b 10).toNat 0
      have hpm := bp_m (b := b) (goal := goal) 40 C 0
      have hAb := bp_A (b := b) (goal := goal) 40 C 0 hA
      refine lX12_byPolicy hm hgi 40 C (rowC X 0 11) Y 0 0 hA (by have := hA.2.2.1; omega) (by omega) (by omega) rOut.rfl (hR.r11 hA.1 hA.2.2.1.2) (fun X' Y' ho' hR' => ?_)
      have hD1 : xv X' 467 1 = xv X 467 1 := by
        unfold xv
        rw [ho' _ _ (by omega) (by omega) (by omega) (by omega), rowC_ne _ (by omega)]
      have hD2 : 0 ≤ xv X' 467 1 ∧ xv X' 467 1 ≤ 8 := by rw [hD1]; exact hD
      have h11 : ∀ j, j < 3740 → rw_ X' 11 j = rw_ X 0 j := fun j hj => by
        have q := rowC_eq X 0 11 (r := 11) hj
        rw [if_pos rfl] at q
        rw [← q]
        unfold rw_ xv
        rw [ho' _ _ (by omega) (by omega) (by omega) (by omega)]
      refine r_iload_n (i := 2) (pc' := 149) dX12_byPolicy_148 rfl rfl (.tail _ (.tail _ (.head _))) ?_
      refine r_if_le (t := 158) (f := 152) dX12_byPolicy_149 (by decide) rfl (by first | omega | exact xv_in _ _ _) (fun h149 => ?_) (fun h149 => ?_)
      · refine r_iload_n (i := 2) (pc' := 159) dX12_byPolicy_158 rfl rfl (.tail _ (.tail _ (.head _))) ?_
        refine r_ireturn dX12_byPolicy_159 rfl ?_
        refine ⟨_, rfl, rfl, rfl, ?_⟩
        rw [if_neg (by omega)]
        refine ⟨rfl, ?_⟩
        first
          | (rw [if_pos (by omega)]
             rw [bp_0 40 C 0 (by omega)] at hR'
             exact ⟨(rO_c X).trans ho'.o, hR'⟩)
          | (rw [if_neg (by omega)]
             exact ⟨((rO_c X).trans ho'.o).d h11 hD, RB_d11 hR' hAb.1 hAb.2.2.1.2 hD2⟩)
      · refine r_aload_n (i := 0) (pc' := 153) dX12_byPolicy_152 rfl rfl (.head _) ?_
        refine r_bipush (pc' := 155) dX12_byPolicy_153 rfl (by decide) ?_
        refine r_V1gv (ci := 12) (pc' := 158) dX12_byPolicy_155 rfl lX12_72 rfl (by decide) (Nat.le_of_ble_eq_true rfl) (by first | assumption | rfl) (by omega) (tX12_deedOf hm (s := 11) (by omega) hD2) (fun n155 P155 X155 Y155 e155 le155 => ?_)
        obtain ⟨hg1_155, hg2_155, hg3_155, hg4_155⟩ := e155
        have g1_155 := Eq.symm hg1_155
        have g2_155 := Eq.symm hg2_155
        have g3_155 := Eq.symm hg3_155
        have g4_155 := Eq.symm hg4_155
        clear hg1_155 hg2_155 hg3_155 hg4_155
        subst g1_155 g2_155 g3_155 g4_155
        refine r_iload_n (i := 2) (pc' := 159) dX12_byPolicy_158 rfl rfl (.tail _ (.tail _ (.head _))) ?_
        refine r_ireturn dX12_byPolicy_159 rfl ?_
        refine ⟨_, rfl, rfl, rfl, ?_⟩
        rw [if_neg (by omega)]
        refine ⟨rfl, ?_⟩
        first
          | (rw [if_pos (by omega)]
             rw [bp_0 40 C 0 (by omega)] at hR'
             exact ⟨(rO_c X).trans ho'.o, hR'⟩)
          | (rw [if_neg (by omega)]
             exact ⟨((rO_c X).trans ho'.o).d h11 hD, RB_d11 hR' hAb.1 hAb.2.2.1.2 hD2⟩)
    · refine r_iconst (pc' := 18) dX12_byPolicy_17 rfl ?_
      refine r_ireturn dX12_byPolicy_18 rfl ?_
      refine ⟨_, rfl, rfl, rfl, ?_⟩
      rw [if_pos (by omega)]
      exact ⟨rfl, rfl⟩
