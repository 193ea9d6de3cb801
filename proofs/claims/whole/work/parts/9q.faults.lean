/-! faults of a sum; a number, a letter -/
theorem fRun_stop {f : Nat} {s : fS} (h : ¬ rMore s.1) : ∀ w, fRun f w s = s
  | 0 => rfl
  | w + 1 => by rw [fRun, if_neg h]
theorem tF.ewa {C X : q_X} {f : Nat} (h : tF C X) (hf : f + 5 ≤ 441) (r : Int) : tF (fEWa C f r) X := h.cg (by rw [fEWa_o (by omega)])
theorem tF.em {C X : q_X} {f : Nat} (h : tF C X) (hf : f + 5 ≤ 441) (r : Int) : tF (fEm C f r) X := h.cg (by rw [fEm_o (by omega)])
theorem tF.rfail {C X : q_X} (h : tF C X) (z : Int) : tF (rd_fail C z) X := h.cg (by unfold rd_fail; rw [if_neg h.1])
theorem tF.fin {s : fS} {X : q_X} {f : Nat} (hf : f + 5 ≤ 441) (h : tF s.1 X) : tF (fEnd f s) X := by
  unfold fEnd; split
  · exact h.ewa hf 0
  · exact (h.rfail _).ewa hf 0
theorem tF.run {s : fS} {X : q_X} {f : Nat} (hf : f + 5 ≤ 441) (h : tF s.1 X) (w : Nat) : tF (fEnd f (fRun f w s)) X := by
  rw [fRun_stop (fun q => h.1 q.1)]; exact h.fin hf
theorem fRun_over {f w : Nat} {D : q_X} {th B : Int} (hr : xv D 444 2 = -1) (hl : xv D 444 1 < xv D 445 1) (hc : 40 ≤ th ∨ (rd D (xv D 444 1) = 40 ∧ 6 ≤ B)) : fRun f (w + 1) (D, th, B, 1) = fRun f w (rd_fail D (xv D 444 1), th + 1, B, 1) := by
  rw [fRun, if_pos ⟨hr, hl⟩]
  unfold fStep
  rw [if_neg (show ¬ (1 : Int) = 0 by omega), if_pos hc]
theorem rd_num_bad {D : q_X} {lo hi : Int} (hr : xv D 444 2 = -1) (ho : rOk D) (hd : ¬ isDig (rd D (xv D 444 1))) : xv (rd_numX D lo hi) 444 2 = xv D 444 1 := by
  have e : p_dig (rd D) 6 (xv D 444 1) 0 = (xv D 444 1, 0) := by rw [p_dig, if_neg hd]
  unfold rOk at ho
  unfold rd_numX
  rw [if_pos hr, e, if_pos (Or.inl rfl), xv_up_same _ _ _ (by simp only; omega)]
theorem fZ_bad {D X : q_X} {f w : Nat} {th B : Int} (hR : tR D X) (hf : f + 5 ≤ 441) (hl : xv D 445 1 - xv D 444 1 ≤ (w : Int)) (hc : (40 ≤ th ∨ (rd D (xv D 444 1) = 40 ∧ 6 ≤ B)) ∨ (¬ rd D (xv D 444 1) = 40 ∧ ¬ isDig (rd D (xv D 444 1)) ∧ f_plc (rd D (xv D 444 1)) = -1)) : tF (fEnd f (fRun f w (D, th, B, 1))) (q_up X 467 6 (zi (xv X 467 5))) := by
  have ha := hR.a
  have hfl := hR.fail (z := xv X 467 5) (by omega)
  have h5 := hR.2.2.2.1
  by_cases q : xv D 444 1 < xv D 445 1
  · obtain ⟨v, rfl⟩ : ∃ v, w = v + 1 := ⟨w - 1, by omega⟩
    by_cases g : 40 ≤ th ∨ (rd D (xv D 444 1) = 40 ∧ 6 ≤ B)
    · rw [fRun_over hR.2.1 q g]
      refine tF.run hf ?_ v
      rw [← h5]; exact hfl
    · have g2 := hc.resolve_left g
      have g3 : th < 40 := by
        have : ¬ 40 ≤ th := fun e => g (Or.inl e)
        omega
      rw [fRun_thing hR.2.1 q g2.1 g3]
      refine tF.run hf ?_ v
      show tF (fThing D f) _
      unfold fThing; rw [if_pos g2.2.2]
      refine tF.em ?_ hf _
      unfold tF
      rw [rd_num_bad hR.2.1 hR.1 g2.2.1, xv_up_same _ _ _ (by omega)]
      exact ⟨by omega, h5⟩
  · rw [fRun_stop (fun z => q z.2)]
    unfold fEnd
    rw [if_neg (by simp only; omega)]
    refine tF.ewa ?_ hf 0
    show tF (rd_fail D (xv D 444 1)) _
    rw [← h5]; exact hfl
theorem rd_num_adv {D : q_X} {lo hi : Int} (hr : xv D 444 2 = -1) (hn : xv (rd_numX D lo hi) 444 2 = -1) (ho : rOk D) : xv D 444 1 + 1 ≤ xv (rd_numX D lo hi) 444 1 := by
  have h6 := p_dig_6 (rd D) (xv D 444 1)
  unfold rOk at ho
  unfold rd_numX at hn ⊢
  rw [if_pos hr] at hn ⊢
  split at hn
  · rw [xv_up_same _ _ _ (by omega)] at hn; omega
  · rename_i q
    rw [if_neg q]
    have q1 : ¬ (p_dig (rd D) 6 (xv D 444 1) 0).1 = xv D 444 1 := fun e => q (Or.inl e)
    split at hn
    · rename_i q2; rw [if_pos q2, xv_up_same _ _ _ (by omega)]; omega
    · rw [xv_up_same _ _ _ (by omega)] at hn; omega
theorem fThing_adv {D X : q_X} {f : Nat} (hR : tR D X) (hf : f + 5 ≤ 441) (hn : xv (fThing D f) 444 2 = -1) (hl : xv D 444 1 < xv D 445 1) : xv (fThing D f) 445 1 - xv (fThing D f) 444 1 ≤ xv D 445 1 - xv D 444 1 - 1 := by
  have ho := hR.1
  unfold fThing at hn ⊢
  split at hn
  · rename_i q
    rw [if_pos q, fEm_o (by omega), fEm_o (by omega), rd_num_o (by omega)]
    rw [fEm_o (by omega)] at hn
    have := rd_num_adv hR.2.1 hn ho
    omega
  · rename_i q
    rw [if_neg q, fEm_o (by omega), fEm_o (by omega), rd_skip_o (by omega)]
    unfold rOk at ho
    unfold rd_skip
    rw [if_pos hR.2.1, xv_up_same _ _ _ (by omega)]; omega
theorem fZ_num {D X X1 : q_X} {f : Nat} {th B : Int} (hz : fZ (D, th, B, 1) X f) (hf : f + 5 ≤ 441) (ht : th < 40) (hp : f_plc (rd D (xv D 444 1)) = -1) (ho : vO (q_up X 467 12 (zi (th + 1))) X1) (hR : tR (rd_numX D 0 999999) X1) (h7 : 0 ≤ rd_numV D 0 999999 ∧ rd_numV D 0 999999 ≤ 999999) : fZ (fThing D f, th + 1, B, 0) (q_up (q_up X1 471 (xv X1 467 10).toNat (zi (rd_numV D 0 999999))) 467 10 (zi (xv X1 467 10 + 1))) f := by
  obtain ⟨h1, h2, h3, h4, h5⟩ := hz
  simp only at h1 h2 h3 h4 h5
  have hb : 0 ≤ th := by obtain ⟨_, _, _, _, _, _, _, _, _, _, q2, _⟩ := h5; exact q2.1
  have e : fThing D f = fEm (rd_numX D 0 999999) f (rd_numV D 0 999999) := by unfold fThing; rw [if_pos hp]
  rw [e]
  have u : ∀ j, j ≠ 5 → j ≠ 6 → j ≠ 7 → xv X1 467 j = xv (q_up X 467 12 (zi (th + 1))) 467 j := fun j a b c => by
    show (X1 467 j).toInt = _
    rw [ho 467 j (by omega)]; rfl
  refine fZ_thing hf hR (h2.cg (rd_num_o (by omega)) (rd_num_o (by omega)) (rd_num_o (by omega)) ?_ ?_ ?_ ?_) (h5.cg (rd_num_o (by omega)) (rd_num_o (by omega)) (rd_num_o (by omega))) ?_ ?_ ht (Or.inl ⟨h7.1, h7.2, rfl⟩) (Or.inl h7) (by omega)
  · rw [u 10 (by omega) (by omega) (by omega), xv_up_ne _ _ (by omega)]
  · rw [u 11 (by omega) (by omega) (by omega), xv_up_ne _ _ (by omega)]
  · rw [ho.v (by omega), xv_up_row _ _ _ (by omega)]
  · rw [ho.v (by omega), xv_up_row _ _ _ (by omega)]
  · rw [u 12 (by omega) (by omega) (by omega), xv_up_same _ _ _ (by omega)]
  · rw [u 13 (by omega) (by omega) (by omega), xv_up_ne _ _ (by omega)]; exact h4
theorem fZ_let {D X : q_X} {f : Nat} {th B p : Int} (hz : fZ (D, th, B, 1) X f) (hf : f + 5 ≤ 441) (ht : th < 40) (hp : f_plc (rd D (xv D 444 1)) = p) (hpb : 0 ≤ p ∧ p ≤ 5) (hl : xv D 444 1 < xv D 445 1) : fZ (fThing D f, th + 1, B, 0) (q_up (q_up (q_up (q_up X 467 12 (zi (th + 1))) 471 (xv X 467 10).toNat (zi (1000000 + p))) 467 10 (zi (xv X 467 10 + 1))) 467 5 (zi (xv X 467 5 + 1))) f := by
  obtain ⟨h1, h2, h3, h4, h5⟩ := hz
  simp only at h1 h2 h3 h4 h5
  have hb : 0 ≤ th := by obtain ⟨_, _, _, _, _, _, _, _, _, _, q2, _⟩ := h5; exact q2.1
  have e : fThing D f = fEm (rd_skip D) f (-1 - p) := by unfold fThing; rw [if_neg (by rw [hp]; omega), hp]
  rw [e, q_up_c2 _ (a := 467) (j := 10) (c := 467) (q := 5) _ _ (by omega), q_up_c2 _ (a := 471) (c := 467) (q := 5) _ _ (by omega)]
  have s1 := h1.skip hl
  have e10 : xv (q_up (q_up X 467 12 (zi (th + 1))) 467 5 (zi (xv X 467 5 + 1))) 467 10 = xv X 467 10 := by rw [xv_up_ne _ _ (by omega), xv_up_ne _ _ (by omega)]
  have q := fZ_thing (D := rd_skip D) (X := q_up (q_up X 467 12 (zi (th + 1))) 467 5 (zi (xv X 467 5 + 1))) (th := th) (B := B) (t := -1 - p) (c := 1000000 + p) hf (s1.k ?_ ?_ ?_ ?_) (h2.cg (rd_skip_o (by omega)) (rd_skip_o (by omega)) (rd_skip_o (by omega)) ?_ ?_ ?_ ?_) (h5.cg (rd_skip_o (by omega)) (rd_skip_o (by omega)) (rd_skip_o (by omega))) ?_ ?_ ht (Or.inr (Or.inl ⟨by omega, by omega, by omega⟩)) (Or.inr (Or.inl ⟨by omega, by omega⟩)) (by omega)
  · rw [e10] at q; exact q
  · simp (disch := omega) only [xv_up_ne]
  · have ha := h1.a
    rw [xv_up_same _ _ _ (by omega), xv_up_same _ _ _ (by omega)]
  · simp (disch := omega) only [xv_up_ne]
  · simp (disch := omega) only [xv_up_row]
  · exact e10
  · simp (disch := omega) only [xv_up_ne]
  · simp (disch := omega) only [xv_up_row]
  · simp (disch := omega) only [xv_up_row]
  · rw [xv_up_ne _ _ (by omega), xv_up_same _ _ _ (by omega)]
  · rw [xv_up_ne _ _ (by omega), xv_up_ne _ _ (by omega)]; exact h4
