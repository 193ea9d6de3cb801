/-! texts: what reading leaves alone -/
theorem row_of {X X' : q_X} {a : Nat} (h : xv X' a = xv X a) : X' a = X a := by funext j; exact Int32.toInt_inj.mp (congrFun h j)
theorem rdItem_o {X : q_X} {d a : Nat} (hd : dOk X d) (h : a ≠ 444 ∧ (a < d ∨ d + 220 ≤ a)) (hda : d ≠ 444) : xv (rdItem X d) a = xv X a := by
  have es : xv (rd_skip X) d = xv X d := rd_skip_o hda
  have h10 := hd.2.2
  unfold rdItem
  (repeat' split)
  · exact rd_fail_o h.1
  · rw [rdLim, xv_up_row _ _ _ (by omega), rd_num_o h.1, rdN_o h.1, rd_skip_o h.1]
  · unfold rdDays rdDa3 rdDa2 rdDa1
    rw [xv_up_row _ _ _ (by omega), rd_num_o h.1, xv_up_row _ _ _ (by omega), rdN_o h.1, xv_up_row _ _ _ (by omega), rdN_o h.1, rd_skip_o h.1]
  · rw [rdCnt, xv_up_row _ _ _ (by omega), rd_num_o h.1, rd_skip_o h.1]
  · rw [rdLea, xv_up_row _ _ _ (by omega), rd_num_o h.1, rd_skip_o h.1]
  · have hrc := rdc_b (X := rd_skip X) (d := d)
    have hcd2 : rdc (rd_skip X) d + 5 ≤ d + 220 := by unfold rdc con; rw [es]; omega
    rw [rdCon]; split
    · rw [rdPays_o (by omega), rd8_o (by omega), rd_skip_o h.1]
    · rw [rd6, xv_up_row _ _ _ (by omega), rd5_o h.1, rd_skip_o h.1]
  · exact rd_fail_o h.1
theorem rdIts_o {d a : Nat} (h : a ≠ 444 ∧ (a < d ∨ d + 220 ≤ a)) (hda : (1 ≤ d ∧ d + 220 ≤ 441) ∨ 481 ≤ d) : ∀ (w : Nat) (X : q_X) (it : Int), rOk X → dOk X d → xv (rdIts d w X it).1 a = xv X a
  | 0, _, _, _, _ => rfl
  | w + 1, X, it, ho, hd => by
    rw [rdIts]; split
    · rename_i hm
      obtain ⟨h1, h2⟩ := dItem ho hm hd hda
      rw [rdIts_o h hda w _ _ (h1.exp (by omega)) (h2.exp (by omega) _), rd_exp_o h.1, rdItem_o hd h (by omega)]
    · rfl
theorem rdTail_o {X : q_X} {a : Nat} (h : a ≠ 444) : xv (rdTail X) a = xv X a := by
  unfold rdTail; split
  · exact rd_fail_o h
  · rfl
theorem mkOne_o {X : q_X} {o i a : Nat} {lp : Int} (h : a ≠ 444 ∧ (a < o ∨ o + 4 < a)) : xv (mkOne X o i lp) a = xv X a := by
  unfold mkOne mk5 mk4 mk3 mk2 mk1
  rw [xv_up_row _ _ _ (by omega), rd_exp_o h.1, xv_up_row _ _ _ (by omega), rd_num_o h.1, xv_up_row _ _ _ (by omega), rdN_o h.1, xv_up_row _ _ _ (by omega), rdN_o h.1, xv_up_row _ _ _ (by omega), rdN_o h.1]
theorem mkRd_o {o a : Nat} {lp : Int} (h : a ≠ 444 ∧ (a < o ∨ o + 4 < a)) : ∀ (w i : Nat) (X : q_X), xv (mkRd o lp w i X) a = xv X a
  | 0, _, _ => rfl
  | w + 1, i, X => by
    rw [mkRd]; split
    · rw [mkRd_o h w, mkOne_o h]
    · rfl
theorem mkAll_o {X : q_X} {o a : Nat} {lp : Int} (h : a ≠ 444 ∧ (a < o ∨ o + 4 < a)) : xv (mkAll X o lp) a = xv X a := by
  rw [mkAll, rdTail_o h.1, mkRd_o h, xv_up_row _ _ _ (by omega)]
theorem acAct_o {X : q_X} {i a : Nat} (h : a ≠ 444 ∧ a ≠ 450 ∧ a ≠ 451 ∧ a ≠ 452) : xv (acAct X i) a = xv X a := by
  unfold acAct ac3 ac2 ac1 ac0
  (repeat' split) <;> simp (disch := omega) only [xv_up_row, rd_num_o, rdN_o, rd_skip_o, rd_fail_o]
theorem acRd_o {a : Nat} (h : a ≠ 444 ∧ a ≠ 450 ∧ a ≠ 451 ∧ a ≠ 452 ∧ a ≠ 449) : ∀ (w i : Nat) (X : q_X), xv (acRd w i X) a = xv X a
  | 0, _, _ => rfl
  | w + 1, i, X => by
    rw [acRd]; split
    · rw [acRd_o h w, acOne, xv_up_row _ _ _ (by omega), rd_exp_o h.1, acAct_o (by omega)]
    · rfl
theorem acAll_o {X : q_X} {a : Nat} (h : a ≠ 444 ∧ a ≠ 450 ∧ a ≠ 451 ∧ a ≠ 452 ∧ a ≠ 449) : xv (acAll X) a = xv X a := by
  rw [acAll, rdTail_o h.1, acRd_o h, xv_up_row _ _ _ (by omega)]
theorem fStep_o {f a : Nat} {s : fS} (h : a ≠ 444 ∧ a ≠ f ∧ a ≠ f + 1 ∧ a ≠ f + 2) : xv (fStep f s).1 a = xv s.1 a := by
  obtain ⟨X, th, wi, wa⟩ := s
  unfold fStep fClo fOper fThing
  dsimp only
  (repeat' split) <;> dsimp only <;> simp (disch := omega) only [xv_up_row, fEWa_o, fHo_o, fEm_o, rd_num_o, rdN_o, rd_skip_o, rd_fail_o]
theorem fRun_o {f a : Nat} (h : a ≠ 444 ∧ a ≠ f ∧ a ≠ f + 1 ∧ a ≠ f + 2) : ∀ (w : Nat) (s : fS), xv (fRun f w s).1 a = xv s.1 a
  | 0, _ => rfl
  | w + 1, s => by
    rw [fRun]; split
    · rw [fRun_o h w, fStep_o h]
    · rfl
theorem fAll_o {X : q_X} {f a : Nat} (h : a ≠ 444 ∧ a ≠ f ∧ a ≠ f + 1 ∧ a ≠ f + 2) : xv (fAll X f) a = xv X a := by
  unfold fAll fEnd
  rw [fEWa_o (by omega)]
  split
  · rw [fRun_o h, fIni]; dsimp only; rw [xv_up_row _ _ _ (by omega), xv_up_row _ _ _ (by omega)]
  · rw [rd_fail_o h.1, fRun_o h, fIni]; dsimp only; rw [xv_up_row _ _ _ (by omega), xv_up_row _ _ _ (by omega)]
/-- the draft is a copy, the reader begins -/
noncomputable def rdBeg (X : q_X) (d b : Nat) : q_X := q_up (q_up (q_blk X d b (D_bk (xv X b 10).toNat)) 444 1 (zi 0)) 444 2 (zi (-1))
/-- a draft is taken -/
def TDR (x b dr n : Nat) (P : q_P) (X : q_X) (Y : q_Y) (m r' : Int) (n' : Nat) (P' : q_P) (X' : q_X) (Y' : q_Y) : Prop := if xv X 444 2 = -1 then ∃ P1, PU x b n P (q_up (q_up X 445 1 (zi 0)) 0 9 (zi (-1))) Y n' P1 X' Y' ∧ P' = q_up (q_up P1 0 0 (some dr)) 0 1 (some b) ∧ r' = m else NO n P (q_up (q_up X 445 1 (zi 0)) 0 9 (zi (xv X 444 2))) Y r' n' P' X' Y'
theorem rdBeg_o {X : q_X} {d b a : Nat} (hO : bOk X b) (h : a ≠ 444 ∧ (a < d ∨ d + 220 ≤ a)) : xv (rdBeg X d b) a = xv X a := by
  have h10 := hO.2.2.2.2.2.2.2.1
  rw [rdBeg, xv_up_row _ _ _ h.1, xv_up_row _ _ _ h.1]
  funext j
  exact congrArg Int32.toInt (blk_out _ _ _ (fun q => by have := D_bk_lt (by omega) q.2; omega))
theorem rdBeg_c {X : q_X} {d b : Nat} (hO : bOk X b) (hd : d + 220 ≤ 441 ∨ 481 ≤ d) : bC X b (rdBeg X d b) d := fun e j hD => by
  have h10 := hO.2.2.2.2.2.2.2.1
  have := D_bk_lt (by omega) hD
  rw [rdBeg, q_up_ne _ _ (by omega), q_up_ne _ _ (by omega), blk_in _ _ _ hD]
theorem rdBeg_r {X : q_X} {d b : Nat} : xv (rdBeg X d b) 444 1 = 0 ∧ xv (rdBeg X d b) 444 2 = -1 := by
  rw [rdBeg]
  exact ⟨by rw [xv_up_ne _ _ (by omega), xv_up_same _ _ _ (by omega)], xv_up_same _ _ _ (by omega)⟩
set_option maxHeartbeats 4000000 in
set_option maxRecDepth 100000 in
theorem tX11_text {l : Launch} {g : q_G} {n : Nat} {P : q_P} {X : q_X} {Y : q_Y} {b : Nat} (hF : isFace n P b) (hb : isBk n P b) (hO : bOk X b) {x : Nat} (hH : isHi n P X x) (hb1 : 1 ≤ b ∧ b + 220 ≤ 441) (hr : isRd n P) {d : Nat} (hdr : P 0 1 = some d) (hbD : isBk n P d) (hbd : (b = 1 ∧ d = 221) ∨ (b = 221 ∧ d = 1)) (htp : 0 ≤ xv X 445 1 ∧ xv X 445 1 ≤ 500) : q_Met l g mX11_text 7 [.ref (g.1 + 0)] n P X Y (q_gi (fun r' n' P' X' Y' => TDR x b d n P ((rdIts d 500 (rdBeg X d b) 0).1) Y ((rdIts d 500 (rdBeg X d b) 0).2) r' n' P' X' Y')) := by
  obtain ⟨f0, f2, f3, f4, f5, f6, f7, f8, hn0⟩ := id hF
  obtain ⟨b0, b1, b2, b3, q7, q8, q9, q11, q12, q13, hn, hpro, hmar, hfor, hcs⟩ := id hb
  obtain ⟨o0, o1, o2, o3, o4, o5, o6, o10, oc, op0, opz, opi, om0, omi, olim⟩ := id hO
  obtain ⟨h442, hS, hx, hx1, hz0, hz8⟩ := id hH
  have hn9 := hS.n
  obtain ⟨r0, r1, hnr⟩ := id hr
  obtain ⟨b0d, b1d, b2d, b3d, q7d, q8d, q9d, q11d, q12d, q13d, hnd, hprod, hmard, hford, hcsd⟩ := id hbD
  have hB := rdBeg_r (X := X) (d := d) (b := b)
  have hBc := rdBeg_c (d := d) hO (by omega)
  have hB5 : xv (rdBeg X d b) 445 = xv X 445 := rdBeg_o hO (by omega)
  have hrk : rOk (rdBeg X d b) := by unfold rOk; rw [hB.1, hB5]; omega
  have hdk : dOk (rdBeg X d b) d := by unfold dOk; rw [hBc.z (j := 0) (by omega), hBc.z (j := 6) (by omega), hBc.z (j := 10) (by omega)]; exact ⟨o0, o6, o10⟩
  refine q_enter (L := [(0, .ref (g.1 + 0))]) (by decide) (Nat.le_of_ble_eq_true rfl) rfl ?_
  refine r_aload_n (i := 0) (pc' := 1) dX11_text_0 rfl rfl (.head _) ?_
  refine r_getR (pc' := 4) dX11_text_1 rfl fX11_16 rfl (by first | assumption | rfl) (by omega) (by assumption) ?_
  refine r_aload_n (i := 0) (pc' := 5) dX11_text_4 rfl rfl (.head _) ?_
  refine r_getR (pc' := 8) dX11_text_5 rfl fX11_10 rfl (by first | assumption | rfl) (by omega) (by assumption) ?_
  refine r_V1gv (ci := 1) (pc' := 11) dX11_text_8 rfl lX11_86 rfl (by decide) (Nat.le_of_ble_eq_true rfl) b0d (by omega) (tX1_copyFrom hbD hb hO (by omega)) (fun n8 P8 X8 Y8 e8 le8 => ?_)
  obtain ⟨hg1_8, hg2_8, hg3_8, hg4_8⟩ := e8
  have g1_8 := Eq.symm hg1_8
  have g2_8 := Eq.symm hg2_8
  have g3_8 := Eq.symm hg3_8
  have g4_8 := Eq.symm hg4_8
  clear hg1_8 hg2_8 hg3_8 hg4_8
  subst g1_8 g2_8 g3_8 g4_8
  refine r_aload_n (i := 0) (pc' := 12) dX11_text_11 rfl rfl (.head _) ?_
  refine r_getR (pc' := 15) dX11_text_12 rfl fX11_33 rfl (by first | assumption | rfl) (by omega) (by assumption) ?_
  refine r_V0gv (ci := 9) (pc' := 18) dX11_text_15 rfl lX11_90 rfl (by decide) (Nat.le_of_ble_eq_true rfl) (by first | assumption | rfl) (by omega) (tX9_begin hr) (fun n15 P15 X15 Y15 e15 le15 => ?_)
  obtain ⟨hg1_15, hg2_15, hg3_15, hg4_15⟩ := e15
  have g1_15 := Eq.symm hg1_15
  have g2_15 := Eq.symm hg2_15
  have g3_15 := Eq.symm hg3_15
  have g4_15 := Eq.symm hg4_15
  clear hg1_15 hg2_15 hg3_15 hg4_15
  subst g1_15 g2_15 g3_15 g4_15
  change q_Tr _ _ _ _ _ _ _ _ _ _ (rdBeg X d b) _
  refine r_aload_n (i := 0) (pc' := 19) dX11_text_18 rfl rfl (.head _) ?_
  refine r_aload_n (i := 0) (pc' := 20) dX11_text_19 rfl rfl (.head _) ?_
  refine r_getR (pc' := 23) dX11_text_20 rfl fX11_33 rfl (by first | assumption | rfl) (by omega) (by assumption) ?_
  refine r_aload_n (i := 0) (pc' := 24) dX11_text_23 rfl rfl (.head _) ?_
  refine r_getR (pc' := 27) dX11_text_24 rfl fX11_16 rfl (by first | assumption | rfl) (by omega) (by assumption) ?_
  refine r_V1gi (ci := 9) (pc' := 30) dX11_text_27 rfl lX11_93 rfl (by decide) (Nat.le_of_ble_eq_true rfl) (by first | assumption | rfl) (by omega) (tX9_readItems hr hrk hbD hdk (by omega)) (fun r27 n27 P27 X27 Y27 e27 le27 => ?_)
  obtain ⟨hg1_27, hg2_27, hg3_27, hg4_27, hg5_27⟩ := e27
  have g1_27 := Eq.symm hg1_27
  have g2_27 := Eq.symm hg2_27
  have g3_27 := Eq.symm hg3_27
  have g4_27 := Eq.symm hg4_27
  have g5_27 := Eq.symm hg5_27
  clear hg1_27 hg2_27 hg3_27 hg4_27 hg5_27
  subst g1_27 g2_27 g3_27 g4_27 g5_27
  generalize hX3 : (rdIts d 500 (rdBeg X d b) 0).1 = X3 at *
  have hr3 : ∀ a, a ≠ 444 ∧ (a < d ∨ d + 220 ≤ a) → xv X3 a = xv X a := fun a ha => by rw [← hX3, rdIts_o ha (by omega) 500 _ _ hrk hdk, rdBeg_o hO ha]
  have hO3 : bOk X3 b := bOk_ag (fun e he h8 => hr3 _ (by omega)) hO
  have hH3 : isHi n P X3 x := by unfold isHi; rw [hr3 442 (by omega)]; exact hH
  refine r_V1gi (ci := 11) (pc' := 33) dX11_text_30 rfl lX11_97 rfl (by decide) (Nat.le_of_ble_eq_true rfl) (by first | assumption | rfl) (by omega) (tX11_takeDraft hF hb hO3 hH3 hb1 hr hdr ⟨b0d, by omega⟩) (fun r30 n30 P30 X30 Y30 e30 le30 => ?_)
  refine r_ireturn dX11_text_33 rfl ?_
  exact ⟨_, rfl, e30⟩
set_option maxHeartbeats 4000000 in
set_option maxRecDepth 100000 in
theorem tX11_policy {l : Launch} {g : q_G} {n : Nat} {P : q_P} {X : q_X} {Y : q_Y} {b : Nat} (hF : isFace n P b) (hb : isBk n P b) (hO : bOk X b) {x : Nat} (hH : isHi n P X x) (hb1 : 1 ≤ b ∧ b + 220 ≤ 441) (hr : isRd n P) {d : Nat} (hdr : P 0 1 = some d) (hbD : isBk n P d) (hbd : (b = 1 ∧ d = 221) ∨ (b = 221 ∧ d = 1)) (htp : 0 ≤ xv X 445 1 ∧ xv X 445 1 ≤ 500) : q_Met l g mX11_policy 7 [.ref (g.1 + 0)] n P X Y (q_gi (fun r' n' P' X' Y' => TDR x b d n P (fAll (rdBeg X d b) (d + 15)) Y (fAllN (rdBeg X d b) (d + 15)) r' n' P' X' Y')) := by
  obtain ⟨f0, f2, f3, f4, f5, f6, f7, f8, hn0⟩ := id hF
  obtain ⟨b0, b1, b2, b3, q7, q8, q9, q11, q12, q13, hn, hpro, hmar, hfor, hcs⟩ := id hb
  obtain ⟨o0, o1, o2, o3, o4, o5, o6, o10, oc, op0, opz, opi, om0, omi, olim⟩ := id hO
  obtain ⟨h442, hS, hx, hx1, hz0, hz8⟩ := id hH
  have hn9 := hS.n
  obtain ⟨r0, r1, hnr⟩ := id hr
  obtain ⟨b0d, b1d, b2d, b3d, q7d, q8d, q9d, q11d, q12d, q13d, hnd, hprod, hmard, hford, hcsd⟩ := id hbD
  have hB := rdBeg_r (X := X) (d := d) (b := b)
  have hBc := rdBeg_c (d := d) hO (by omega)
  have hB5 : xv (rdBeg X d b) 445 = xv X 445 := rdBeg_o hO (by omega)
  have hrk : rOk (rdBeg X d b) := by unfold rOk; rw [hB.1, hB5]; omega
  have hdk : dOk (rdBeg X d b) d := by unfold dOk; rw [hBc.z (j := 0) (by omega), hBc.z (j := 6) (by omega), hBc.z (j := 10) (by omega)]; exact ⟨o0, o6, o10⟩
  refine q_enter (L := [(0, .ref (g.1 + 0))]) (by decide) (Nat.le_of_ble_eq_true rfl) rfl ?_
  refine r_aload_n (i := 0) (pc' := 1) dX11_policy_0 rfl rfl (.head _) ?_
  refine r_getR (pc' := 4) dX11_policy_1 rfl fX11_16 rfl (by first | assumption | rfl) (by omega) (by assumption) ?_
  refine r_aload_n (i := 0) (pc' := 5) dX11_policy_4 rfl rfl (.head _) ?_
  refine r_getR (pc' := 8) dX11_policy_5 rfl fX11_10 rfl (by first | assumption | rfl) (by omega) (by assumption) ?_
  refine r_V1gv (ci := 1) (pc' := 11) dX11_policy_8 rfl lX11_86 rfl (by decide) (Nat.le_of_ble_eq_true rfl) b0d (by omega) (tX1_copyFrom hbD hb hO (by omega)) (fun n8 P8 X8 Y8 e8 le8 => ?_)
  obtain ⟨hg1_8, hg2_8, hg3_8, hg4_8⟩ := e8
  have g1_8 := Eq.symm hg1_8
  have g2_8 := Eq.symm hg2_8
  have g3_8 := Eq.symm hg3_8
  have g4_8 := Eq.symm hg4_8
  clear hg1_8 hg2_8 hg3_8 hg4_8
  subst g1_8 g2_8 g3_8 g4_8
  refine r_aload_n (i := 0) (pc' := 12) dX11_policy_11 rfl rfl (.head _) ?_
  refine r_getR (pc' := 15) dX11_policy_12 rfl fX11_33 rfl (by first | assumption | rfl) (by omega) (by assumption) ?_
  refine r_V0gv (ci := 9) (pc' := 18) dX11_policy_15 rfl lX11_90 rfl (by decide) (Nat.le_of_ble_eq_true rfl) (by first | assumption | rfl) (by omega) (tX9_begin hr) (fun n15 P15 X15 Y15 e15 le15 => ?_)
  obtain ⟨hg1_15, hg2_15, hg3_15, hg4_15⟩ := e15
  have g1_15 := Eq.symm hg1_15
  have g2_15 := Eq.symm hg2_15
  have g3_15 := Eq.symm hg3_15
  have g4_15 := Eq.symm hg4_15
  clear hg1_15 hg2_15 hg3_15 hg4_15
  subst g1_15 g2_15 g3_15 g4_15
  change q_Tr _ _ _ _ _ _ _ _ _ _ (rdBeg X d b) _
  refine r_aload_n (i := 0) (pc' := 19) dX11_policy_18 rfl rfl (.head _) ?_
  refine r_aload_n (i := 0) (pc' := 20) dX11_policy_19 rfl rfl (.head _) ?_
  refine r_getR (pc' := 23) dX11_policy_20 rfl fX11_16 rfl (by first | assumption | rfl) (by omega) (by assumption) ?_
  refine r_getR (pc' := 26) dX11_policy_23 rfl fX11_101 rfl (by first | assumption | rfl) (by omega) (by assumption) ?_
  refine r_aload_n (i := 0) (pc' := 27) dX11_policy_26 rfl rfl (.head _) ?_
  refine r_getR (pc' := 30) dX11_policy_27 rfl fX11_33 rfl (by first | assumption | rfl) (by omega) (by assumption) ?_
  refine r_V1gi (ci := 5) (pc' := 33) dX11_policy_30 rfl lX11_105 rfl (by decide) (Nat.le_of_ble_eq_true rfl) hford.1 (by omega) (tX5_read hford hr (by omega) hrk) (fun r30 n30 P30 X30 Y30 e30 le30 => ?_)
  obtain ⟨hg1_30, hg2_30, hg3_30, hg4_30, hg5_30⟩ := e30
  have g1_30 := Eq.symm hg1_30
  have g2_30 := Eq.symm hg2_30
  have g3_30 := Eq.symm hg3_30
  have g4_30 := Eq.symm hg4_30
  have g5_30 := Eq.symm hg5_30
  clear hg1_30 hg2_30 hg3_30 hg4_30 hg5_30
  subst g1_30 g2_30 g3_30 g4_30 g5_30
  generalize hX3 : fAll (rdBeg X d b) (d + 15) = X3 at *
  have hr3 : ∀ a, a ≠ 444 ∧ (a < d ∨ d + 220 ≤ a) → xv X3 a = xv X a := fun a ha => by rw [← hX3, fAll_o (by omega), rdBeg_o hO ha]
  have hO3 : bOk X3 b := bOk_ag (fun e he h8 => hr3 _ (by omega)) hO
  have hH3 : isHi n P X3 x := by unfold isHi; rw [hr3 442 (by omega)]; exact hH
  refine r_V1gi (ci := 11) (pc' := 36) dX11_policy_33 rfl lX11_97 rfl (by decide) (Nat.le_of_ble_eq_true rfl) (by first | assumption | rfl) (by omega) (tX11_takeDraft hF hb hO3 hH3 hb1 hr hdr ⟨b0d, by omega⟩) (fun r33 n33 P33 X33 Y33 e33 le33 => ?_)
  refine r_ireturn dX11_policy_36 rfl ?_
  exact ⟨_, rfl, e33⟩
set_option maxHeartbeats 4000000 in
set_option maxRecDepth 100000 in
theorem tX11_market {l : Launch} {g : q_G} {n : Nat} {P : q_P} {X : q_X} {Y : q_Y} {b : Nat} (hF : isFace n P b) (hb : isBk n P b) (hO : bOk X b) {x : Nat} (hH : isHi n P X x) (hb1 : 1 ≤ b ∧ b + 220 ≤ 441) (hr : isRd n P) {d : Nat} (hdr : P 0 1 = some d) (hbD : isBk n P d) (hbd : (b = 1 ∧ d = 221) ∨ (b = 221 ∧ d = 1)) (htp : 0 ≤ xv X 445 1 ∧ xv X 445 1 ≤ 500) : q_Met l g mX11_market 5 [.ref (g.1 + 0)] n P X Y (q_gi (fun r' n' P' X' Y' => TDR x b d n P (mkAll (rdBeg X d b) (d + 10) (xv X b 6)) Y (xv (mkAll (rdBeg X d b) (d + 10) (xv X b 6)) (d + 10) 0) r' n' P' X' Y')) := by
  obtain ⟨f0, f2, f3, f4, f5, f6, f7, f8, hn0⟩ := id hF
  obtain ⟨b0, b1, b2, b3, q7, q8, q9, q11, q12, q13, hn, hpro, hmar, hfor, hcs⟩ := id hb
  obtain ⟨o0, o1, o2, o3, o4, o5, o6, o10, oc, op0, opz, opi, om0, omi, olim⟩ := id hO
  obtain ⟨h442, hS, hx, hx1, hz0, hz8⟩ := id hH
  have hn9 := hS.n
  obtain ⟨r0, r1, hnr⟩ := id hr
  obtain ⟨b0d, b1d, b2d, b3d, q7d, q8d, q9d, q11d, q12d, q13d, hnd, hprod, hmard, hford, hcsd⟩ := id hbD
  have hB := rdBeg_r (X := X) (d := d) (b := b)
  have hBc := rdBeg_c (d := d) hO (by omega)
  have hB5 : xv (rdBeg X d b) 445 = xv X 445 := rdBeg_o hO (by omega)
  have hrk : rOk (rdBeg X d b) := by unfold rOk; rw [hB.1, hB5]; omega
  have hdk : dOk (rdBeg X d b) d := by unfold dOk; rw [hBc.z (j := 0) (by omega), hBc.z (j := 6) (by omega), hBc.z (j := 10) (by omega)]; exact ⟨o0, o6, o10⟩
  refine q_enter (L := [(0, .ref (g.1 + 0))]) (by decide) (Nat.le_of_ble_eq_true rfl) rfl ?_
  refine r_aload_n (i := 0) (pc' := 1) dX11_market_0 rfl rfl (.head _) ?_
  refine r_getR (pc' := 4) dX11_market_1 rfl fX11_16 rfl (by first | assumption | rfl) (by omega) (by assumption) ?_
  refine r_aload_n (i := 0) (pc' := 5) dX11_market_4 rfl rfl (.head _) ?_
  refine r_getR (pc' := 8) dX11_market_5 rfl fX11_10 rfl (by first | assumption | rfl) (by omega) (by assumption) ?_
  refine r_V1gv (ci := 1) (pc' := 11) dX11_market_8 rfl lX11_86 rfl (by decide) (Nat.le_of_ble_eq_true rfl) b0d (by omega) (tX1_copyFrom hbD hb hO (by omega)) (fun n8 P8 X8 Y8 e8 le8 => ?_)
  obtain ⟨hg1_8, hg2_8, hg3_8, hg4_8⟩ := e8
  have g1_8 := Eq.symm hg1_8
  have g2_8 := Eq.symm hg2_8
  have g3_8 := Eq.symm hg3_8
  have g4_8 := Eq.symm hg4_8
  clear hg1_8 hg2_8 hg3_8 hg4_8
  subst g1_8 g2_8 g3_8 g4_8
  refine r_aload_n (i := 0) (pc' := 12) dX11_market_11 rfl rfl (.head _) ?_
  refine r_getR (pc' := 15) dX11_market_12 rfl fX11_33 rfl (by first | assumption | rfl) (by omega) (by assumption) ?_
  refine r_V0gv (ci := 9) (pc' := 18) dX11_market_15 rfl lX11_90 rfl (by decide) (Nat.le_of_ble_eq_true rfl) (by first | assumption | rfl) (by omega) (tX9_begin hr) (fun n15 P15 X15 Y15 e15 le15 => ?_)
  obtain ⟨hg1_15, hg2_15, hg3_15, hg4_15⟩ := e15
  have g1_15 := Eq.symm hg1_15
  have g2_15 := Eq.symm hg2_15
  have g3_15 := Eq.symm hg3_15
  have g4_15 := Eq.symm hg4_15
  clear hg1_15 hg2_15 hg3_15 hg4_15
  subst g1_15 g2_15 g3_15 g4_15
  change q_Tr _ _ _ _ _ _ _ _ _ _ (rdBeg X d b) _
  refine r_aload_n (i := 0) (pc' := 19) dX11_market_18 rfl rfl (.head _) ?_
  refine r_aload_n (i := 0) (pc' := 20) dX11_market_19 rfl rfl (.head _) ?_
  refine r_getR (pc' := 23) dX11_market_20 rfl fX11_16 rfl (by first | assumption | rfl) (by omega) (by assumption) ?_
  refine r_getR (pc' := 26) dX11_market_23 rfl fX11_111 rfl (by first | assumption | rfl) (by omega) (by assumption) ?_
  refine r_aload_n (i := 0) (pc' := 27) dX11_market_26 rfl rfl (.head _) ?_
  refine r_getR (pc' := 30) dX11_market_27 rfl fX11_33 rfl (by first | assumption | rfl) (by omega) (by assumption) ?_
  refine r_aload_n (i := 0) (pc' := 31) dX11_market_30 rfl rfl (.head _) ?_
  refine r_getR (pc' := 34) dX11_market_31 rfl fX11_16 rfl (by first | assumption | rfl) (by omega) (by assumption) ?_
  refine r_getI (pc' := 37) dX11_market_34 rfl fX11_115 rfl (by first | assumption | rfl) (by omega) ?_
  rw [hBc.z (j := 6) (by omega)]
  refine r_V2gi (ci := 7) (pc' := 40) dX11_market_37 rfl lX11_118 rfl (by decide) (Nat.le_of_ble_eq_true rfl) hmard.1 (by omega) (tX7_read hr hmard (by omega) (by omega) hrk) (fun r37 n37 P37 X37 Y37 e37 le37 => ?_)
  obtain ⟨hg1_37, hg2_37, hg3_37, hg4_37, hg5_37⟩ := e37
  have g1_37 := Eq.symm hg1_37
  have g2_37 := Eq.symm hg2_37
  have g3_37 := Eq.symm hg3_37
  have g4_37 := Eq.symm hg4_37
  have g5_37 := Eq.symm hg5_37
  clear hg1_37 hg2_37 hg3_37 hg4_37 hg5_37
  subst g1_37 g2_37 g3_37 g4_37 g5_37
  generalize hX3 : mkAll (rdBeg X d b) (d + 10) (xv X b 6) = X3 at *
  have hr3 : ∀ a, a ≠ 444 ∧ (a < d ∨ d + 220 ≤ a) → xv X3 a = xv X a := fun a ha => by rw [← hX3, mkAll_o (by omega), rdBeg_o hO ha]
  have hO3 : bOk X3 b := bOk_ag (fun e he h8 => hr3 _ (by omega)) hO
  have hH3 : isHi n P X3 x := by unfold isHi; rw [hr3 442 (by omega)]; exact hH
  refine r_V1gi (ci := 11) (pc' := 43) dX11_market_40 rfl lX11_97 rfl (by decide) (Nat.le_of_ble_eq_true rfl) (by first | assumption | rfl) (by omega) (tX11_takeDraft hF hb hO3 hH3 hb1 hr hdr ⟨b0d, by omega⟩) (fun r40 n40 P40 X40 Y40 e40 le40 => ?_)
  refine r_ireturn dX11_market_43 rfl ?_
  exact ⟨_, rfl, e40⟩
