theorem beg_M {D X2 : q_X} {d : Nat} (hd : d + 220 ≤ 441) (b1 : tR D X2) (b2 : RB D d (xv X2 468)) (b3 : bA D d) : tR (q_up D (d + 10) 0 (zi 0)) (q_up X2 468 3570 (zi 0)) ∧ RB (q_up D (d + 10) 0 (zi 0)) d (xv (q_up X2 468 3570 (zi 0)) 468) ∧ bA (q_up D (d + 10) 0 (zi 0)) d ∧ xv (q_up D (d + 10) 0 (zi 0)) (d + 10) 0 = ((0 : Nat) : Int) ∧ xv (q_up D (d + 10) 0 (zi 0)) d 6 = xv D d 6 := by
  have e0 : xv (q_up D (d + 10) 0 (zi 0)) (d + 10) 0 = 0 := xv_up_same _ _ _ (by omega)
  have er : ∀ a, a ≠ d + 10 → xv (q_up D (d + 10) 0 (zi 0)) a = xv D a := fun a ha => xv_up_row _ _ _ ha
  refine ⟨(b1.up _ _).cg (er _ (by omega)) (er _ (by omega)) (er _ (by omega)), ?_, ?_, e0, by rw [er d (by omega)]⟩
  · refine b2.fm b3.1 b3.2.2.1.2 (fun q _ hq => er _ (by omega)) (fun j _ h1 _ => xv_up_ne _ _ (by omega)) ⟨?_, fun i hi => ?_⟩
    · rw [e0, xv_up_same _ _ _ (by omega)]
    · rw [e0] at hi; omega
  · exact bA_fm b3 (fun q _ hq => er _ (by omega)) (by rw [e0]; omega) (fun i hi => by rw [e0] at hi; omega)
set_option maxHeartbeats 4000000 in
set_option maxRecDepth 100000 in
theorem tX12_market {l : Launch} {g : q_G} {n : Nat} {P : q_P} {X : q_X} {Y : q_Y} (hm : isMod n P) {C : q_X} {b d : Nat} (hA : bA C b) (hR : RB C b (xv X 468)) (hd : d + 220 ≤ 441) (hD : 0 ≤ xv X 467 1 ∧ xv X 467 1 ≤ 8) (hS : tS C X (xv C 445 1)) : q_Met l g mX12_market 4 [.ref (g.1 + 467)] n P X Y (q_gi (fun r' n' P' X' Y' => n' = n ∧ P' = P ∧ Y' = Y ∧ ((xv (mkAll (rdBeg C d b) (d + 10) (xv C b 6)) 444 2 = -1 ∧ RB (mkAll (rdBeg C d b) (d + 10) (xv C b 6)) d (xv X' 468) ∧ bA (mkAll (rdBeg C d b) (d + 10) (xv C b 6)) d ∧ r' = xv (mkAll (rdBeg C d b) (d + 10) (xv C b 6)) (d + 10) 0 ∧ ∃ Xm, mX X Xm (-1) ∧ rO (dd Xm 0) X') ∨ (xv (mkAll (rdBeg C d b) (d + 10) (xv C b 6)) 444 2 ≠ -1 ∧ r' = -1 ∧ mX X X' (xv (mkAll (rdBeg C d b) (d + 10) (xv C b 6)) 444 2))))) := by
  obtain ⟨m0, m2, m3, m8, m9, m14, m15, m16, m17, m18, m20, m22, m25, hnm9⟩ := id hm
  refine q_enter (L := [(0, .ref (g.1 + 467))]) (by decide) (Nat.le_of_ble_eq_true rfl) rfl ?_
  refine r_aload_n (i := 0) (pc' := 1) dX12_market_0 rfl rfl (.head _) ?_
  refine r_iconst (pc' := 2) dX12_market_1 rfl ?_
  refine r_bipush (pc' := 4) dX12_market_2 rfl (by decide) ?_
  refine r_V2gv (ci := 12) (pc' := 7) dX12_market_4 rfl lX12_64 rfl (by decide) (Nat.le_of_ble_eq_true rfl) (by first | assumption | rfl) (by omega) (tX12_copyRow hm (s := 0) (t := 11) (by omega) (by omega)) (fun n4 P4 X4 Y4 e4 le4 => ?_)
  obtain ⟨hg1_4, hg2_4, hg3_4, hg4_4⟩ := e4
  have g1_4 := Eq.symm hg1_4
  have g2_4 := Eq.symm hg2_4
  have g3_4 := Eq.symm hg3_4
  have g4_4 := Eq.symm hg4_4
  clear hg1_4 hg2_4 hg3_4 hg4_4
  subst g1_4 g2_4 g3_4 g4_4
  refine r_aload_n (i := 0) (pc' := 8) dX12_market_7 rfl rfl (.head _) ?_
  refine r_V0gv (ci := 12) (pc' := 11) dX12_market_8 rfl lX12_150 rfl (by decide) (Nat.le_of_ble_eq_true rfl) (by first | assumption | rfl) (by omega) (tX12_beginText hm) (fun n8 P8 X8 Y8 e8 le8 => ?_)
  obtain ⟨hg1_8, hg2_8, hg3_8, hg4_8⟩ := e8
  have g1_8 := Eq.symm hg1_8
  have g2_8 := Eq.symm hg2_8
  have g3_8 := Eq.symm hg3_8
  have g4_8 := Eq.symm hg4_8
  clear hg1_8 hg2_8 hg3_8 hg4_8
  subst g1_8 g2_8 g3_8 g4_8
  refine r_aload_n (i := 0) (pc' := 12) dX12_market_11 rfl rfl (.head _) ?_
  refine r_getR (pc' := 15) dX12_market_12 rfl fX12_3 rfl (by first | assumption | rfl) (by omega) (by assumption) ?_
  refine r_sipush (pc' := 18) dX12_market_15 rfl (by decide) ?_
  refine r_iconst (pc' := 19) dX12_market_18 rfl ?_
  refine r_iastore (pc' := 20) dX12_market_19 rfl (by first | assumption | rfl) (by omega) (by omega) (by omega) (by first | decide | omega) (show Int.toNat 3570 = 3570 from rfl) ?_
  have h2 : ∀ a j, ¬ (a = 467 ∧ (j = 5 ∨ j = 6)) → (q_up (q_up (rowC X 0 11) 467 5 (zi 0)) 467 6 (zi (-1))) a j = rowC X 0 11 a j := fun a j h => by rw [q_up_ne _ _ (by omega), q_up_ne _ _ (by omega)]
  have h5 : xv (q_up (q_up (rowC X 0 11) 467 5 (zi 0)) 467 6 (zi (-1))) 467 5 = 0 := by rw [xv_up_ne _ _ (by omega), xv_up_same _ _ _ (by omega)]
  have h6 : xv (q_up (q_up (rowC X 0 11) 467 5 (zi 0)) 467 6 (zi (-1))) 467 6 = -1 := by rw [xv_up_same _ _ _ (by omega)]
  generalize q_up (q_up (rowC X 0 11) 467 5 (zi 0)) 467 6 (zi (-1)) = X2 at h2 h5 h6 ⊢
  obtain ⟨b1, b2, b3, b4, b5⟩ := beg_R hA hR hd hS h2 h5 h6
  have hlp : xv (rdBeg C d b) d 6 = xv C b 6 := (rdBeg_c (X := C) (d := d) (b := b) hA.1 (Or.inl hd)).z (by omega)
  rw [mkAll]
  generalize rdBeg C d b = D at b1 b2 b3 hlp ⊢
  clear b4 b5
  obtain ⟨c1, c2, c3, c4, c5⟩ := beg_M hd b1 b2 b3
  have hu2 : uO X2 (q_up X2 468 3570 (zi 0)) := uO.rfl.up (by omega)
  generalize q_up D (d + 10) 0 (zi 0) = D1 at c1 c2 c3 c4 c5 ⊢
  generalize q_up X2 468 3570 (zi 0) = X3 at c1 c2 hu2 ⊢
  refine lX12_market hm hd (X0 := X2) 12 0 D1 X3 rfl c1 c2 c3 c4 (c5.trans hlp) hu2 (fun X' hu ht hb ha => ?_) (fun X' hu hf => ?_)
  · generalize rdTail (mkRd (d + 10) (xv C b 6) 12 0 D1) = E at ht hb ha ⊢
    obtain ⟨hm1, hm2, hm3⟩ := txt_m h2 hu ht.2.2.1
    have hDl : xv X' 467 1 = xv X 467 1 := by
      simp only [xv]; rw [hu _ _ (by omega) (by omega), h2 _ _ (by omega), rowC_ne _ (by omega)]
    have hD3 : 0 ≤ xv (q_up X' 467 4 (zi 0)) 467 1 ∧ xv (q_up X' 467 4 (zi 0)) 467 1 ≤ 8 := by rw [xv_up_ne _ _ (by omega), hDl]; exact hD
    have hDm : 0 ≤ xv (rowC (q_up X' 467 4 (zi 0)) 11 0) 467 1 ∧ xv (rowC (q_up X' 467 4 (zi 0)) 11 0) 467 1 ≤ 8 := by rw [rowC_xv _ (by omega)]; exact hD3
    refine r_aload_n (i := 0) (pc' := 58) dX12_market_57 rfl rfl (.head _) ?_
    refine r_V0gi (ci := 12) (pc' := 61) dX12_market_58 rfl lX12_156 rfl (by decide) (Nat.le_of_ble_eq_true rfl) (by first | assumption | rfl) (by omega) (tX12_ends hm) (fun r58 n58 P58 X58 Y58 e58 le58 => ?_)
    obtain ⟨h1v, h2v, h3v, h4v, hr58⟩ := e58
    rw [if_pos ht.2.2.1] at hr58
    subst h1v h2v h3v h4v hr58
    refine r_if_eq (t := 79) (f := 64) dX12_market_61 (by decide) rfl (by first | omega | exact xv_in _ _ _) (fun h61 => ?_) (fun h61 => ?_)
    · exfalso; omega
    · refine r_aload_n (i := 0) (pc' := 65) dX12_market_64 rfl rfl (.head _) ?_
      refine r_bipush (pc' := 67) dX12_market_65 rfl (by decide) ?_
      refine r_V1gv (ci := 12) (pc' := 70) dX12_market_67 rfl lX12_72 rfl (by decide) (Nat.le_of_ble_eq_true rfl) (by first | assumption | rfl) (by omega) (tX12_deedOf hm (s := 11) (by omega) hD3) (fun n67 P67 X67 Y67 e67 le67 => ?_)
      obtain ⟨hg1_67, hg2_67, hg3_67, hg4_67⟩ := e67
      have g1_67 := Eq.symm hg1_67
      have g2_67 := Eq.symm hg2_67
      have g3_67 := Eq.symm hg3_67
      have g4_67 := Eq.symm hg4_67
      clear hg1_67 hg2_67 hg3_67 hg4_67
      subst g1_67 g2_67 g3_67 g4_67
      have hRd := RB_d11 (X := q_up X' 467 4 (zi 0)) (by rw [xv_up_row _ _ _ (by omega)]; exact hb) ha.1 ha.2.2.1.2 hD3
      refine r_aload_n (i := 0) (pc' := 71) dX12_market_70 rfl rfl (.head _) ?_
      refine r_getR (pc' := 74) dX12_market_71 rfl fX12_3 rfl (by first | assumption | rfl) (by omega) (by assumption) ?_
      refine r_sipush (pc' := 77) dX12_market_74 rfl (by decide) ?_
      refine r_iaload (pc' := 78) dX12_market_77 rfl (by first | assumption | rfl) (by omega) (by omega) (by omega) (by first | decide | omega) (show Int.toNat 3570 = 3570 from rfl) ?_
      rw [hRd.om]
      refine r_ireturn dX12_market_78 rfl ?_
      exact ⟨_, rfl, rfl, rfl, rfl, Or.inl ⟨ht.2.1, hRd, ha, rfl, _, hm1, hm2.d hm3 hDm⟩⟩
  · generalize rdTail (mkRd (d + 10) (xv C b 6) 12 0 D1) = E at hf ⊢
    have hn6 : ¬ xv X' 467 6 = -1 := by rw [hf.2]; exact hf.1
    obtain ⟨hm1, hm2, hm3⟩ := txt_m h2 hu hf.2
    refine r_aload_n (i := 0) (pc' := 58) dX12_market_57 rfl rfl (.head _) ?_
    refine r_V0gi (ci := 12) (pc' := 61) dX12_market_58 rfl lX12_156 rfl (by decide) (Nat.le_of_ble_eq_true rfl) (by first | assumption | rfl) (by omega) (tX12_ends hm) (fun r58 n58 P58 X58 Y58 e58 le58 => ?_)
    obtain ⟨h1v, h2v, h3v, h4v, hr58⟩ := e58
    rw [if_neg hn6] at hr58
    subst h1v h2v h3v h4v hr58
    refine r_if_eq (t := 79) (f := 64) dX12_market_61 (by decide) rfl (by first | omega | exact xv_in _ _ _) (fun h61 => ?_) (fun h61 => ?_)
    · refine r_aload_n (i := 0) (pc' := 80) dX12_market_79 rfl rfl (.head _) ?_
      refine r_bipush (pc' := 82) dX12_market_80 rfl (by decide) ?_
      refine r_iconst (pc' := 83) dX12_market_82 rfl ?_
      refine r_V2gv (ci := 12) (pc' := 86) dX12_market_83 rfl lX12_64 rfl (by decide) (Nat.le_of_ble_eq_true rfl) (by first | assumption | rfl) (by omega) (tX12_copyRow hm (s := 11) (t := 0) (by omega) (by omega)) (fun n83 P83 X83 Y83 e83 le83 => ?_)
      obtain ⟨hg1_83, hg2_83, hg3_83, hg4_83⟩ := e83
      have g1_83 := Eq.symm hg1_83
      have g2_83 := Eq.symm hg2_83
      have g3_83 := Eq.symm hg3_83
      have g4_83 := Eq.symm hg4_83
      clear hg1_83 hg2_83 hg3_83 hg4_83
      subst g1_83 g2_83 g3_83 g4_83
      refine r_iconst (pc' := 87) dX12_market_86 rfl ?_
      refine r_ireturn dX12_market_87 rfl ?_
      exact ⟨_, rfl, rfl, rfl, rfl, Or.inr ⟨hf.1, rfl, hm1⟩⟩
    · exfalso; omega
