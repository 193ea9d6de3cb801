/-! a sign is laid upon those that wait, there and here -/
theorem yR.hold {D X : q_X} {f : Nat} {c : Int} (h : yR D X f) (h21 : xv D f 3 < 21) (hc : opc c) : yR (fHo D f c) (q_up (q_up X 472 (xv D f 3).toNat (zi c)) 467 11 (zi (xv D f 3 + 1))) f := by
  obtain ⟨h0, h1, h2, h3, h4⟩ := h
  have hci : q_in c := by unfold q_in; omega
  have e3 : xv (fHo D f c) f 3 = xv D f 3 + 1 := by unfold fHo; rw [if_pos (by omega), xv_up_same _ _ _ (by omega)]
  have e0 : xv (fHo D f c) f 0 = xv D f 0 := by unfold fHo; rw [if_pos (by omega), xv_up_ne _ _ (by omega), xv_up_ne _ _ (by omega)]
  have e1 : xv (fHo D f c) (f + 1) = xv D (f + 1) := fHo_o (by omega)
  have e2 : ∀ i, xv (fHo D f c) (f + 2) i = if i = (xv D f 3).toNat then c else xv D (f + 2) i := fun i => by
    unfold fHo; rw [if_pos (by omega), xv_up_ne _ _ (by omega)]
    by_cases e : i = (xv D f 3).toNat
    · subst e; rw [xv_up_same _ _ _ hci, if_pos rfl]
    · rw [xv_up_ne _ _ (by omega), if_neg e]
  refine ⟨by rw [e0, e3]; omega, by rw [e0, xv_up_ne _ _ (by omega), xv_up_ne _ _ (by omega)]; exact h1, by rw [e3, xv_up_same _ _ _ (by omega)], fun i hi => ?_, fun i hi => ?_⟩
  · rw [e0] at hi
    rw [e1, xv_up_row _ _ _ (by omega), xv_up_row _ _ _ (by omega)]; exact h3 i hi
  · rw [e3] at hi
    rw [e2, xv_up_ne _ _ (by omega)]
    by_cases e : i = (xv D f 3).toNat
    · subst e; rw [if_pos rfl, xv_up_same _ _ _ hci]; exact ⟨rfl, hc⟩
    · rw [if_neg e, xv_up_ne _ _ (by omega)]; exact h4 i (by omega)
theorem fRun_opens {f w : Nat} {D : q_X} {th B : Int} (hr : xv D 444 2 = -1) (hc : rd D (xv D 444 1) = 40) (ht : th < 40) (hB : B < 6) : fRun f (w + 1) (D, th, B, 1) = fRun f w (fHo (rd_skip D) f 40, th + 1, B + 1, 1) := by
  have hl := rd_lt (X := D) (a := xv D 444 1) (by rw [hc]; omega)
  rw [fRun, if_pos ⟨hr, hl.1⟩]
  unfold fStep
  rw [if_neg (show ¬ (1 : Int) = 0 by omega), if_neg (by simp only; omega), if_pos hc]
theorem fZ.opens {D X : q_X} {f : Nat} {th B : Int} (h : fZ (D, th, B, 1) X f) (hf : f + 5 ≤ 441) (hB : B < 6) (ht : th < 40) (hc : rd D (xv D 444 1) = 40) : fZ (fHo (rd_skip D) f 40, th + 1, B + 1, 1) (q_up (q_up (q_up (q_up (q_up X 467 12 (zi (th + 1))) 467 13 (zi (B + 1))) 472 (xv X 467 11).toNat (zi 40)) 467 11 (zi (xv X 467 11 + 1))) 467 5 (zi (xv X 467 5 + 1))) f := by
  obtain ⟨h1, h2, h3, h4, h5⟩ := h
  simp only at h1 h2 h3 h4 h5
  have hl := rd_lt (X := D) (a := xv D 444 1) (by rw [hc]; omega)
  have s1 := h1.skip hl.1
  have ha := h1.a
  have y0 : YI (rd_skip D) f 1 B th := h5.cg (rd_skip_o (by omega)) (rd_skip_o (by omega)) (rd_skip_o (by omega))
  have hcc := y0.c
  have hb0 : 0 ≤ B ∧ 0 ≤ th := by obtain ⟨_, _, _, _, _, _, q, _, _, _, q2, _⟩ := h5; exact ⟨q.1, q2.1⟩
  have y1 : YI (fHo (rd_skip D) f 40) f 1 (B + 1) (th + 1) := y0.hold (Or.inl rfl) (by rw [if_pos rfl]) (by omega) (by rw [if_pos rfl]) (by omega) (by rw [if_pos rfl]) rfl (fun q => absurd rfl q)
  have r0 : yR (rd_skip D) X f := h2.cg (rd_skip_o (by omega)) (rd_skip_o (by omega)) (rd_skip_o (by omega)) rfl rfl rfl rfl
  have r1 := r0.hold (c := 40) (by omega) (Or.inl rfl)
  rw [← r0.2.2.1] at r1
  have h11 : 0 ≤ xv X 467 11 ∧ xv X 467 11 ≤ 20 := by rw [r0.2.2.1]; omega
  refine ⟨?_, ?_, ?_, ?_, y1⟩
  · refine (s1.cg (C' := fHo (rd_skip D) f 40) (fHo_o (by omega)) (fHo_o (by omega)) (fHo_o (by omega))).k ?_ ?_ ?_ ?_
    · simp (disch := omega) only [xv_up_ne]
    · rw [xv_up_same _ _ _ (by omega), xv_up_same _ _ _ (by omega)]
    · simp (disch := omega) only [xv_up_ne]
    · simp (disch := omega) only [xv_up_row]
  · refine r1.cg rfl rfl rfl ?_ ?_ ?_ ?_
    · simp (disch := omega) only [xv_up_ne]
    · rw [xv_up_ne _ _ (by omega), xv_up_same _ _ _ (by omega), xv_up_same _ _ _ (by omega)]
    · simp (disch := omega) only [xv_up_row]
    · funext j
      by_cases e : j = (xv X 467 11).toNat
      · subst e; simp (disch := omega) only [xv_up_ne, xv_up_same]
      · simp (disch := omega) only [xv_up_ne]
  · rw [xv_up_ne _ _ (by omega), xv_up_ne _ _ (by omega), xv_up_ne _ _ (by omega), xv_up_ne _ _ (by omega), xv_up_same _ _ _ (by omega)]
  · rw [xv_up_ne _ _ (by omega), xv_up_ne _ _ (by omega), xv_up_ne _ _ (by omega), xv_up_same _ _ _ (by omega)]
