set_option maxHeartbeats 4000000 in
set_option maxRecDepth 100000 in
theorem eX12_readContract {l : Launch} {g : q_G} {n : Nat} {P : q_P} {Y : q_Y} {X : q_X} (hm : isMod n P) {C X8 : q_X} {d z f m : Nat} (hd : d + 220 ≤ 441) (hA : bA C d) (hB : RB C d (xv X 468)) (hz : xv C d 10 = (z : Int)) (hz40 : z < 40) (hff : rdf C d = (f : Int)) (hmm : rdy C d = (m : Int)) (hcok : conOk C d) (hv8 : ∀ j, xv X8 468 j = if j = (130 + 86 * z) + 3 then rds C d else if j = (130 + 86 * z) + 2 then rdv C d else if j = (130 + 86 * z) + 1 then rdy C d else if j = (130 + 86 * z) then rdf C d else if (130 + 86 * z) ≤ j ∧ j < (130 + 86 * z) + 86 then 0 else xv X 468 j) {X9 : q_X} (hu9 : uO X X9) (ht9 : tR (conX C d) X9) (hI9 : rowI C d (130 + 86 * z) f m X8 X9) : q_Tr l g mX12_readContract 5 (q_gi (fun r' n' P' X' Y' => n' = n ∧ P' = P ∧ Y' = Y ∧ ((r' = 1 ∧ uO X X' ∧ tR (conX C d) X' ∧ RB (conX C d) d (xv X' 468) ∧ bA (conX C d) d) ∨ (r' = 0 ∧ uO X X' ∧ tF (conX C d) X')))) 267 [(0, .ref (g.1 + 467)), (1, .int (zi (z : Int))), (2, .int (zi (rdb C d)))] [] n P X9 Y := by
  have hcf := con_fin hd hA.1 hA.2.2.1.2 hB hz hz40 hff hmm hcok hv8 hI9
  have hcA := bA_con hd hA (by omega) hcok
  have hb0 : 0 ≤ rdb C d ∧ rdb C d ≤ 99999 := rd_numV_b (by omega)
  have hyy : 1 ≤ rdy C d ∧ 0 ≤ rdv C d ∧ (f : Int) + rdy C d + rdv C d ≤ 20 := by have := hcok; omega
  have hfm : f + m ≤ 20 ∧ m ≤ 6 := by have := hcok; omega
  have hB7 := hB.m
  rw [hz] at hB7
  have hmI : ∀ j, (j < (130 + 86 * z) + 6 + f ∨ (130 + 86 * z) + 6 + f + m ≤ j) → (j < (130 + 86 * z) + 26 + f ∨ (130 + 86 * z) + 26 + f + m ≤ j) → xv X9 468 j = xv X8 468 j := fun j h1 h2 => by rw [hI9, if_neg (by omega), if_neg (by omega)]
  clear hI9 hcok hA hB hz
  generalize rdf C d = ff at hff hv8
  generalize rdy C d = yy at hmm hv8 hcf hyy
  generalize rdv C d = vv at hv8 hcf hyy
  generalize rdb C d = bo at hcf hb0 ⊢
  generalize rds C d = ss at hv8
  obtain ⟨m0, m2, m3, m8, m9, m14, m15, m16, m17, m18, m20, m22, m25, hnm9⟩ := id hm
  have k0 : xv X9 468 (130 + 86 * z) = (f : Int) := by rw [hmI _ (by omega) (by omega), hv8, if_neg (by omega), if_neg (by omega), if_neg (by omega), if_pos rfl, hff]
  have k1 : xv X9 468 ((130 + 86 * z) + 1) = yy := by rw [hmI _ (by omega) (by omega), hv8, if_neg (by omega), if_neg (by omega), if_pos rfl]
  have k2 : xv X9 468 ((130 + 86 * z) + 2) = vv := by rw [hmI _ (by omega) (by omega), hv8, if_neg (by omega), if_pos rfl]
  have kz : ∀ w, w < 20 → xv X9 468 ((130 + 86 * z) + 46 + w) = 0 := fun w hw => by rw [hmI _ (by omega) (by omega), hv8, if_neg (by omega), if_neg (by omega), if_neg (by omega), if_neg (by omega), if_pos (by omega)]
  have kz2 : xv X9 468 ((130 + 86 * z) + 66 + f) = 0 := by rw [hmI _ (by omega) (by omega), hv8, if_neg (by omega), if_neg (by omega), if_neg (by omega), if_neg (by omega), if_pos (by omega)]
  refine r_aload_n (i := 0) (pc' := 268) dX12_readContract_267 rfl rfl (.head _) ?_
  refine r_iload_n (i := 1) (pc' := 269) dX12_readContract_268 rfl rfl (.tail _ (.head _)) ?_
  refine r_iload_n (i := 2) (pc' := 270) dX12_readContract_269 rfl rfl (.tail _ (.tail _ (.head _))) ?_
  refine r_aload_n (i := 0) (pc' := 271) dX12_readContract_270 rfl rfl (.head _) ?_
  refine r_iload_n (i := 1) (pc' := 272) dX12_readContract_271 rfl rfl (.tail _ (.head _)) ?_
  refine r_iconst (pc' := 273) dX12_readContract_272 rfl ?_
  refine r_V2p (ci := 12) (pc' := 276) dX12_readContract_273 rfl lX12_115 rfl (by decide) (Nat.le_of_ble_eq_true rfl) (by first | assumption | rfl) (by omega) (tX12_of hm (k := (z : Int)) (w := 0) (by omega) (by omega)) ?_
  rw [show (130 + 86 * (z : Int) + 0).toNat = 130 + 86 * z by omega, k0]
  refine r_V3gv (ci := 12) (pc' := 279) dX12_readContract_276 rfl lX12_136 rfl (by decide) (Nat.le_of_ble_eq_true rfl) (by first | assumption | rfl) (by omega) (tR_spreads hm (k := z) (f := f) (x := bo) (y := yy) (v := vv) hz40 hb0 k0 k1 k2 (by omega) kz kz2) (fun n276 P276 X276 Y276 e276 le276 => ?_)
  obtain ⟨hg1_276, hg2_276, hg3_276, hg4_276⟩ := e276
  have g1_276 := Eq.symm hg1_276
  have g2_276 := Eq.symm hg2_276
  have g3_276 := Eq.symm hg3_276
  have g4_276 := Eq.symm hg4_276
  clear hg1_276 hg2_276 hg3_276 hg4_276
  subst g1_276 g2_276 g3_276 g4_276
  have hr4 : uO X (spR X9 (130 + 86 * z) f bo (yy + vv) (min 5 (yy + vv)).toNat) := fun a j a1 a2 => by
    unfold spR; rw [if_neg (by omega), if_neg (by omega)]; exact hu9 a j a1 a2
  have hT4 : tR (conX C d) (spR X9 (130 + 86 * z) f bo (yy + vv) (min 5 (yy + vv)).toNat) := ht9.x (by funext j; simp only [xv]; unfold spR; rw [if_neg (by omega), if_neg (by omega)]) (by funext j; simp only [xv]; unfold spR; rw [if_neg (by omega), if_neg (by omega)])
  have gm : xv (spR X9 (130 + 86 * z) f bo (yy + vv) (min 5 (yy + vv)).toNat) 468 7 = (z : Int) := by rw [spR_v hb0, if_neg (by omega), if_neg (by omega), hmI _ (by omega) (by omega), hv8, if_neg (by omega), if_neg (by omega), if_neg (by omega), if_neg (by omega), if_neg (by omega), hB7]
  generalize (spR X9 (130 + 86 * z) f bo (yy + vv) (min 5 (yy + vv)).toNat) = X10 at hcf hr4 hT4 gm ⊢
  refine r_aload_n (i := 0) (pc' := 280) dX12_readContract_279 rfl rfl (.head _) ?_
  refine r_getR (pc' := 283) dX12_readContract_280 rfl fX12_3 rfl (by first | assumption | rfl) (by omega) (by assumption) ?_
  refine r_bipush (pc' := 285) dX12_readContract_283 rfl (by decide) ?_
  refine r_dup2 (pc' := 286) dX12_readContract_285 rfl rfl rfl ?_
  refine r_iaload (pc' := 287) dX12_readContract_286 rfl (by first | assumption | rfl) (by omega) (by omega) (by omega) (by first | decide | omega) (show Int.toNat 7 = 7 from rfl) ?_
  rw [gm]
  refine r_iconst (pc' := 288) dX12_readContract_287 rfl ?_
  refine r_iadd (pc' := 289) dX12_readContract_288 rfl ?_
  refine r_iastore (pc' := 290) dX12_readContract_289 rfl (by first | assumption | rfl) (by omega) (by omega) (by omega) (by first | decide | omega) (show Int.toNat 7 = 7 from rfl) ?_
  refine r_iconst (pc' := 291) dX12_readContract_290 rfl ?_
  refine r_zreturn dX12_readContract_291 rfl (by first | decide | (split <;> omega) | omega) ?_
  refine ⟨_, rfl, rfl, rfl, rfl, Or.inl ⟨rfl, hr4.up (by omega), ?_, ?_, ?_⟩⟩
  · exact hT4.up _ _
  · exact hcf
  · exact hcA
set_option maxHeartbeats 4000000 in
set_option maxRecDepth 100000 in
theorem jX12_readContract {l : Launch} {g : q_G} {n : Nat} {P : q_P} {Y : q_Y} {X : q_X} (hm : isMod n P) {C X8 : q_X} {d z f m : Nat} (hd : d + 220 ≤ 441) (hA : bA C d) (hB : RB C d (xv X 468)) (hz : xv C d 10 = (z : Int)) (hz40 : z < 40) (hff : rdf C d = (f : Int)) (hmm : rdy C d = (m : Int)) (hcok : conOk C d) (hv8 : ∀ j, xv X8 468 j = if j = (130 + 86 * z) + 3 then rds C d else if j = (130 + 86 * z) + 2 then rdv C d else if j = (130 + 86 * z) + 1 then rdy C d else if j = (130 + 86 * z) then rdf C d else if (130 + 86 * z) ≤ j ∧ j < (130 + 86 * z) + 86 then 0 else xv X 468 j) (hu8 : uO X X8) (ht8 : tR (rd8 C d) X8) : q_Tr l g mX12_readContract 5 (q_gi (fun r' n' P' X' Y' => n' = n ∧ P' = P ∧ Y' = Y ∧ ((r' = 1 ∧ uO X X' ∧ tR (conX C d) X' ∧ RB (conX C d) d (xv X' 468) ∧ bA (conX C d) d) ∨ (r' = 0 ∧ uO X X' ∧ tF (conX C d) X')))) 177 [(0, .ref (g.1 + 467)), (1, .int (zi (z : Int))), (2, .int (zi (rdb C d))), (3, .int (zi 0))] [] n P X8 Y := by
  have hb0 : 0 ≤ rdb C d ∧ rdb C d ≤ 99999 := rd_numV_b (by omega)
  have hyy : 1 ≤ rdy C d ∧ 0 ≤ rdv C d ∧ (f : Int) + rdy C d + rdv C d ≤ 20 := by have := hcok; omega
  have hfm : f + m ≤ 20 ∧ m ≤ 6 := by have := hcok; omega
  exact lX12_readContract (C := C) (d := d) (z := z) (f := f) (m := m) (K := q_gi (fun r' n' P' X' Y' => n' = n ∧ P' = P ∧ Y' = Y ∧ ((r' = 1 ∧ uO X X' ∧ tR (conX C d) X' ∧ RB (conX C d) d (xv X' 468) ∧ bA (conX C d) d) ∨ (r' = 0 ∧ uO X X' ∧ tF (conX C d) X')))) hm hd hA.1 hz hz40 hff hmm hfm.1 hfm.2 (X2 := X8) (by rw [hv8, if_neg (by omega), if_neg (by omega), if_neg (by omega), if_pos rfl, hff]) (by rw [hv8, if_neg (by omega), if_neg (by omega), if_pos rfl, hmm]) (by rw [hv8, if_neg (by omega), if_neg (by omega), if_neg (by omega), if_neg (by omega), if_neg (by omega), hB.z 6 (by decide)]) (fun X' q1 q2 => ⟨0, rfl, rfl, rfl, rfl, Or.inr ⟨rfl, hu8.trans q1, q2⟩⟩) (fun X9 q1 ht9 hI9 => eX12_readContract hm hd hA hB hz hz40 hff hmm hcok hv8 (hu8.trans q1) ht9 hI9) m 0 X8 (Nat.zero_add _) uO.rfl ht8 (fun j => by rw [if_neg (by omega), if_neg (by omega)])
