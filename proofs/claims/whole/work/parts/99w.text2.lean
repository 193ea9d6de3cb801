theorem beg_R {C X X2 : q_X} {b d : Nat} (hA : bA C b) (hR : RB C b (xv X 468)) (hd : d + 220 ≤ 441) (hS : tS C X (xv C 445 1)) (h2 : ∀ a j, ¬ (a = 467 ∧ (j = 5 ∨ j = 6)) → X2 a j = rowC X 0 11 a j) (h5 : xv X2 467 5 = 0) (h6 : xv X2 467 6 = -1) : tR (rdBeg C d b) X2 ∧ RB (rdBeg C d b) d (xv X2 468) ∧ bA (rdBeg C d b) d ∧ xv (rdBeg C d b) 445 1 ≤ 500 ∧ xv (rdBeg C d b) 444 1 = 0 := by
  have hO := hA.1
  have hc := rdBeg_c (X := C) (d := d) (b := b) hO (Or.inl hd)
  have hr := rdBeg_r (X := C) (d := d) (b := b)
  have e5 : xv (rdBeg C d b) 445 = xv C 445 := rdBeg_o hO (by omega)
  have e6 : xv (rdBeg C d b) 446 = xv C 446 := rdBeg_o hO (by omega)
  have s0 := hS.1
  have e8 : xv X2 468 = xv (rowC X 0 11) 468 := by funext j; simp only [xv]; rw [h2 _ _ (by omega)]
  refine ⟨⟨?_, hr.2, h6, by rw [h5, hr.1], ?_⟩, ?_, hc.a hA, by rw [e5]; omega, hr.1⟩
  · unfold rOk; rw [hr.1, e5]; omega
  · rw [e5]
    refine hS.cg e5 e6 ?_ ?_
    · simp only [xv]; rw [h2 _ _ (by omega), rowC_ne _ (by omega)]
    · funext j; simp only [xv]; rw [h2 _ _ (by omega), rowC_ne _ (by omega)]
  · rw [e8]
    exact RB_bC (hR.r11 hO hA.2.2.1.2) hO hA.2.2.1.2 hc
set_option maxHeartbeats 4000000 in
set_option maxRecDepth 100000 in
theorem tX12_text {l : Launch} {g : q_G} {n : Nat} {P : q_P} {X : q_X} {Y : q_Y} (hm : isMod n P) {C : q_X} {b d : Nat} (hA : bA C b) (hR : RB C b (xv X 468)) (hd : d + 220 ≤ 441) (hD : 0 ≤ xv X 467 1 ∧ xv X 467 1 ≤ 8) (hS : tS C X (xv C 445 1)) : q_Met l g mX12_text 7 [.ref (g.1 + 467)] n P X Y (q_gi (fun r' n' P' X' Y' => n' = n ∧ P' = P ∧ Y' = Y ∧ ((xv ((rdIts d 500 (rdBeg C d b) 0).1) 444 2 = -1 ∧ RB ((rdIts d 500 (rdBeg C d b) 0).1) d (xv X' 468) ∧ bA ((rdIts d 500 (rdBeg C d b) 0).1) d ∧ r' = (rdIts d 500 (rdBeg C d b) 0).2 ∧ ∃ Xm, mX X Xm (-1) ∧ rO (dd Xm 0) X') ∨ (xv ((rdIts d 500 (rdBeg C d b) 0).1) 444 2 ≠ -1 ∧ r' = -1 ∧ mX X X' (xv ((rdIts d 500 (rdBeg C d b) 0).1) 444 2))))) := by
  obtain ⟨m0, m2, m3, m8, m9, m14, m15, m16, m17, m18, m20, m22, m25, hnm9⟩ := id hm
  refine q_enter (L := [(0, .ref (g.1 + 467))]) (by decide) (Nat.le_of_ble_eq_true rfl) rfl ?_
  refine r_aload_n (i := 0) (pc' := 1) dX12_text_0 rfl rfl (.head _) ?_
  refine r_iconst (pc' := 2) dX12_text_1 rfl ?_
  refine r_bipush (pc' := 4) dX12_text_2 rfl (by decide) ?_
  refine r_V2gv (ci := 12) (pc' := 7) dX12_text_4 rfl lX12_64 rfl (by decide) (Nat.le_of_ble_eq_true rfl) (by first | assumption | rfl) (by omega) (tX12_copyRow hm (s := 0) (t := 11) (by omega) (by omega)) (fun n4 P4 X4 Y4 e4 le4 => ?_)
  obtain ⟨hg1_4, hg2_4, hg3_4, hg4_4⟩ := e4
  have g1_4 := Eq.symm hg1_4
  have g2_4 := Eq.symm hg2_4
  have g3_4 := Eq.symm hg3_4
  have g4_4 := Eq.symm hg4_4
  clear hg1_4 hg2_4 hg3_4 hg4_4
  subst g1_4 g2_4 g3_4 g4_4
  refine r_aload_n (i := 0) (pc' := 8) dX12_text_7 rfl rfl (.head _) ?_
  refine r_V0gv (ci := 12) (pc' := 11) dX12_text_8 rfl lX12_150 rfl (by decide) (Nat.le_of_ble_eq_true rfl) (by first | assumption | rfl) (by omega) (tX12_beginText hm) (fun n8 P8 X8 Y8 e8 le8 => ?_)
  obtain ⟨hg1_8, hg2_8, hg3_8, hg4_8⟩ := e8
  have g1_8 := Eq.symm hg1_8
  have g2_8 := Eq.symm hg2_8
  have g3_8 := Eq.symm hg3_8
  have g4_8 := Eq.symm hg4_8
  clear hg1_8 hg2_8 hg3_8 hg4_8
  subst g1_8 g2_8 g3_8 g4_8
  refine r_iconst (pc' := 12) dX12_text_11 rfl ?_
  refine r_istore_n (i := 1) (pc' := 13) dX12_text_12 rfl rfl rfl (.s1 .nil rfl rfl rfl) ?_
  have h2 : ∀ a j, ¬ (a = 467 ∧ (j = 5 ∨ j = 6)) → (q_up (q_up (rowC X 0 11) 467 5 (zi 0)) 467 6 (zi (-1))) a j = rowC X 0 11 a j := fun a j h => by rw [q_up_ne _ _ (by omega), q_up_ne _ _ (by omega)]
  have h5 : xv (q_up (q_up (rowC X 0 11) 467 5 (zi 0)) 467 6 (zi (-1))) 467 5 = 0 := by rw [xv_up_ne _ _ (by omega), xv_up_same _ _ _ (by omega)]
  have h6 : xv (q_up (q_up (rowC X 0 11) 467 5 (zi 0)) 467 6 (zi (-1))) 467 6 = -1 := by rw [xv_up_same _ _ _ (by omega)]
  generalize q_up (q_up (rowC X 0 11) 467 5 (zi 0)) 467 6 (zi (-1)) = X2 at h2 h5 h6 ⊢
  obtain ⟨b1, b2, b3, b4, b5⟩ := beg_R hA hR hd hS h2 h5 h6
  generalize rdBeg C d b = D at b1 b2 b3 b4 b5 ⊢
  refine lX12_text hm hd (X0 := X2) 500 D X2 0 b1 b2 b3 (by omega) uO.rfl (fun X' hu ht hb ha => ?_) (fun X' t hu hf => ?_)
  · generalize rdIts d 500 D 0 = E at ht hb ha ⊢
    obtain ⟨hm1, hm2, hm3⟩ := txt_m h2 hu ht.2.2.1
    have hDl : xv X' 467 1 = xv X 467 1 := by
      simp only [xv]; rw [hu _ _ (by omega) (by omega), h2 _ _ (by omega), rowC_ne _ (by omega)]
    have hD3 : 0 ≤ xv (q_up X' 467 4 (zi 0)) 467 1 ∧ xv (q_up X' 467 4 (zi 0)) 467 1 ≤ 8 := by rw [xv_up_ne _ _ (by omega), hDl]; exact hD
    have hDm : 0 ≤ xv (rowC (q_up X' 467 4 (zi 0)) 11 0) 467 1 ∧ xv (rowC (q_up X' 467 4 (zi 0)) 11 0) 467 1 ≤ 8 := by rw [rowC_xv _ (by omega)]; exact hD3
    refine r_aload_n (i := 0) (pc' := 46) dX12_text_45 rfl rfl (.head _) ?_
    refine r_V0gi (ci := 12) (pc' := 49) dX12_text_46 rfl lX12_156 rfl (by decide) (Nat.le_of_ble_eq_true rfl) (by first | assumption | rfl) (by omega) (tX12_ends hm) (fun r46 n46 P46 X46 Y46 e46 le46 => ?_)
    obtain ⟨h1v, h2v, h3v, h4v, hr46⟩ := e46
    rw [if_pos ht.2.2.1] at hr46
    subst h1v h2v h3v h4v hr46
    refine r_if_eq (t := 60) (f := 52) dX12_text_49 (by decide) rfl (by first | omega | exact xv_in _ _ _) (fun h49 => ?_) (fun h49 => ?_)
    · exfalso; omega
    · refine r_aload_n (i := 0) (pc' := 53) dX12_text_52 rfl rfl (.head _) ?_
      refine r_bipush (pc' := 55) dX12_text_53 rfl (by decide) ?_
      refine r_V1gv (ci := 12) (pc' := 58) dX12_text_55 rfl lX12_72 rfl (by decide) (Nat.le_of_ble_eq_true rfl) (by first | assumption | rfl) (by omega) (tX12_deedOf hm (s := 11) (by omega) hD3) (fun n55 P55 X55 Y55 e55 le55 => ?_)
      obtain ⟨hg1_55, hg2_55, hg3_55, hg4_55⟩ := e55
      have g1_55 := Eq.symm hg1_55
      have g2_55 := Eq.symm hg2_55
      have g3_55 := Eq.symm hg3_55
      have g4_55 := Eq.symm hg4_55
      clear hg1_55 hg2_55 hg3_55 hg4_55
      subst g1_55 g2_55 g3_55 g4_55
      refine r_iload_n (i := 1) (pc' := 59) dX12_text_58 rfl rfl (.tail _ (.head _)) ?_
      refine r_ireturn dX12_text_59 rfl ?_
      refine ⟨_, rfl, rfl, rfl, rfl, Or.inl ⟨ht.2.1, ?_, ha, rfl, _, hm1, hm2.d hm3 hDm⟩⟩
      exact RB_d11 (by rw [xv_up_row _ _ _ (by omega)]; exact hb) ha.1 ha.2.2.1.2 hD3
  · generalize rdIts d 500 D 0 = E at hf ⊢
    have hn6 : ¬ xv X' 467 6 = -1 := by rw [hf.2]; exact hf.1
    obtain ⟨hm1, hm2, hm3⟩ := txt_m h2 hu hf.2
    refine r_aload_n (i := 0) (pc' := 46) dX12_text_45 rfl rfl (.head _) ?_
    refine r_V0gi (ci := 12) (pc' := 49) dX12_text_46 rfl lX12_156 rfl (by decide) (Nat.le_of_ble_eq_true rfl) (by first | assumption | rfl) (by omega) (tX12_ends hm) (fun r46 n46 P46 X46 Y46 e46 le46 => ?_)
    obtain ⟨h1v, h2v, h3v, h4v, hr46⟩ := e46
    rw [if_neg hn6] at hr46
    subst h1v h2v h3v h4v hr46
    refine r_if_eq (t := 60) (f := 52) dX12_text_49 (by decide) rfl (by first | omega | exact xv_in _ _ _) (fun h49 => ?_) (fun h49 => ?_)
    · refine r_aload_n (i := 0) (pc' := 61) dX12_text_60 rfl rfl (.head _) ?_
      refine r_bipush (pc' := 63) dX12_text_61 rfl (by decide) ?_
      refine r_iconst (pc' := 64) dX12_text_63 rfl ?_
      refine r_V2gv (ci := 12) (pc' := 67) dX12_text_64 rfl lX12_64 rfl (by decide) (Nat.le_of_ble_eq_true rfl) (by first | assumption | rfl) (by omega) (tX12_copyRow hm (s := 11) (t := 0) (by omega) (by omega)) (fun n64 P64 X64 Y64 e64 le64 => ?_)
      obtain ⟨hg1_64, hg2_64, hg3_64, hg4_64⟩ := e64
      have g1_64 := Eq.symm hg1_64
      have g2_64 := Eq.symm hg2_64
      have g3_64 := Eq.symm hg3_64
      have g4_64 := Eq.symm hg4_64
      clear hg1_64 hg2_64 hg3_64 hg4_64
      subst g1_64 g2_64 g3_64 g4_64
      refine r_iconst (pc' := 68) dX12_text_67 rfl ?_
      refine r_ireturn dX12_text_68 rfl ?_
      exact ⟨_, rfl, rfl, rfl, rfl, Or.inr ⟨hf.1, rfl, hm1⟩⟩
    · exfalso; omega
