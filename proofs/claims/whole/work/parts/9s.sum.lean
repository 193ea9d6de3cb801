/-! an operator; the end of a sum -/
theorem fRun_nop {f w : Nat} {D : q_X} {th B : Int} (hr : xv D 444 2 = -1) (hl : xv D 444 1 < xv D 445 1) (hc : ¬ (rd D (xv D 444 1) = 41 ∧ 0 < B)) (ho : ¬ isOp (rd D (xv D 444 1))) : fRun f (w + 1) (D, th, B, 0) = fRun f w (rd_fail D (xv D 444 1), th, B, 1) := by
  rw [fRun_oper hr hl hc]
  unfold fOper; rw [if_neg ho]
theorem fOper_eq {D : q_X} {f : Nat} {c : Int} (hc : rd D (xv D 444 1) = c) (ho : isOp c) : fOper D f = fHo (fEWa (rd_skip D) f (fstr c)) f c := by
  unfold fOper; rw [hc, if_pos ho]
theorem isOp_c {c : Int} (h : isOp c) : opc c ∧ ¬ c = 40 ∧ 1 ≤ fstr c ∧ fstr c ≤ 2 ∧ (if c = 42 then (2 : Int) else if c = 43 ∨ c = 45 then 1 else 0) = fstr c := by
  rcases h with e | e | e <;> subst e <;> exact ⟨by omega, by omega, by decide, by decide, by decide⟩
theorem fZ.oper {D X X1 : q_X} {f : Nat} {th B c : Int} (h : fZ (D, th, B, 0) X f) (hf : f + 5 ≤ 441) (hc : rd D (xv D 444 1) = c) (hop : isOp c) (ho : yO X X1) (hy : yR (fEWa (rd_skip D) f (fstr c)) X1 f) : fZ (fOper D f, th, B, 1) (q_up (q_up (q_up X1 472 (xv X1 467 11).toNat (zi c)) 467 11 (zi (xv X1 467 11 + 1))) 467 5 (zi (xv X1 467 5 + 1))) f := by
  obtain ⟨h1, h2, h3, h4, h5⟩ := h
  simp only at h1 h2 h3 h4 h5
  have hl := rd_lt (X := D) (a := xv D 444 1) (by rw [hc]; unfold isOp at hop; omega)
  have s1 := h1.skip hl.1
  have ha := h1.a
  have y0 : YI (rd_skip D) f 0 B th := h5.cg (rd_skip_o (by omega)) (rd_skip_o (by omega)) (rd_skip_o (by omega))
  have hcc := y0.c
  have hb0 : (0 ≤ B ∧ B ≤ 6) ∧ 0 ≤ th ∧ th ≤ 40 := by obtain ⟨_, _, _, _, _, _, q, _, _, _, q2, _⟩ := h5; exact ⟨q, q2⟩
  obtain ⟨o1, o2, o3, o4, o5⟩ := isOp_c hop
  obtain ⟨g1, g2⟩ := YI_fEW (r := fstr c) o3 (xv (rd_skip D) f 3).toNat (rd_skip D) (by omega) y0
  have e1 : fEWa (rd_skip D) f (fstr c) = fEW f (fstr c) (xv (rd_skip D) f 3).toNat (rd_skip D) := by unfold fEWa; rw [show max 1 (fstr c) = fstr c by omega]
  rw [← e1] at g1 g2
  rw [fOper_eq hc hop]
  have er : ∀ a, a ≠ f → a ≠ f + 1 → xv (fEWa (rd_skip D) f (fstr c)) a = xv (rd_skip D) a := fun a q1 q2 => fEWa_o ⟨q1, q2⟩
  generalize fEWa (rd_skip D) f (fstr c) = E at *
  have gc := g1.c
  have y1 : YI (fHo E f c) f 1 B th := g1.hold o1 (by rw [if_neg o2]; omega) (by omega) (by rw [if_neg o2]; omega) (by omega) (by rw [if_neg o2]) rfl (fun _ => g2)
  have r1 := hy.hold (c := c) (by omega) o1
  rw [← hy.2.2.1] at r1
  have h11 : 0 ≤ xv X1 467 11 ∧ xv X1 467 11 ≤ 20 := by rw [hy.2.2.1]; omega
  have h15 : xv X1 467 5 = xv X 467 5 := ho.j (by omega)
  refine ⟨?_, ?_, ?_, ?_, y1⟩
  · refine (s1.cg (C' := fHo E f c) ((fHo_o (by omega)).trans (er _ (by omega) (by omega))) ((fHo_o (by omega)).trans (er _ (by omega) (by omega))) ((fHo_o (by omega)).trans (er _ (by omega) (by omega)))).k ?_ ?_ ?_ ?_
    · simp (disch := omega) only [xv_up_ne]; exact ho.j (by omega)
    · rw [xv_up_same _ _ _ (by omega), xv_up_same _ _ _ (by omega), h15]
    · simp (disch := omega) only [xv_up_ne]; exact ho.j (by omega)
    · simp (disch := omega) only [xv_up_row]; exact ho.w (by omega)
  · refine r1.cg rfl rfl rfl ?_ ?_ ?_ ?_
    · simp (disch := omega) only [xv_up_ne]
    · rw [xv_up_ne _ _ (by omega)]
    · simp (disch := omega) only [xv_up_row]
    · simp (disch := omega) only [xv_up_row]
  · simp (disch := omega) only [xv_up_ne]; exact (ho.j (by omega)).trans h3
  · simp (disch := omega) only [xv_up_ne]; exact (ho.j (by omega)).trans h4
theorem fOper_adv {D X : q_X} {f : Nat} {c : Int} (hR : tR D X) (hf : f + 5 ≤ 441) (hc : rd D (xv D 444 1) = c) (hop : isOp c) : xv (fOper D f) 445 1 - xv (fOper D f) 444 1 = xv D 445 1 - xv D 444 1 - 1 := by
  have ho := hR.1
  unfold rOk at ho
  have hl := rd_lt (X := D) (a := xv D 444 1) (by rw [hc]; unfold isOp at hop; omega)
  rw [fOper_eq hc hop, fHo_o (by omega), fHo_o (by omega), fEWa_o (by omega), fEWa_o (by omega), rd_skip_o (by omega)]
  unfold rd_skip
  rw [if_pos hR.2.1, xv_up_same _ _ _ (by omega)]; omega
/-- the end is well -/
theorem fZ_fin {D X X1 : q_X} {f w : Nat} {th : Int} (h : fZ (D, th, 0, 0) X f) (hf : f + 5 ≤ 441) (ha : xv D 444 1 = xv D 445 1) (ho : yO X X1) (hy : yR (fEWa D f 1) X1 f) : tR (fEnd f (fRun f w (D, th, 0, 0))) X1 ∧ yR (fEnd f (fRun f w (D, th, 0, 0))) X1 f ∧ YI (fEnd f (fRun f w (D, th, 0, 0))) f 0 0 th ∧ (fRun f w (D, th, 0, 0)).2.1 = th ∧ xv X1 467 12 = th := by
  obtain ⟨h1, h2, h3, h4, h5⟩ := h
  simp only at h1 h2 h3 h4 h5
  have e1 : fRun f w (D, th, 0, 0) = (D, th, 0, 0) := fRun_stop (fun q => by have := q.2; simp only at this; omega) w
  have e2 : fEnd f (D, th, 0, 0) = fEWa D f 1 := by
    unfold fEnd; rw [if_pos ⟨rfl, Int.le_refl _⟩, fEWa_01]
  rw [e1, e2]
  have y1 := h5.fin
  rw [fEWa_01] at y1
  refine ⟨?_, hy, y1.1, rfl, (ho.j (by omega)).trans h3⟩
  refine (h1.cg (C' := fEWa D f 1) (fEWa_o (by omega)) (fEWa_o (by omega)) (fEWa_o (by omega))).k (ho.j (by omega)) (ho.j (by omega)) (ho.j (by omega)) (ho.w (by omega))
/-- the end is not well -/
theorem fZ_nfin {D X X1 : q_X} {f w : Nat} {th B : Int} (h : fZ (D, th, B, 0) X f) (hf : f + 5 ≤ 441) (hl : xv D 445 1 - xv D 444 1 ≤ (w : Int)) (hc : ¬ (rd D (xv D 444 1) = 41 ∧ 0 < B)) (hop : ¬ isOp (rd D (xv D 444 1))) (hb : ¬ (xv D 444 1 = xv D 445 1 ∧ B = 0)) (ho : yO X X1) : tF (fEnd f (fRun f w (D, th, B, 0))) (q_up X1 467 6 (zi (xv X1 467 5))) := by
  have hR : tR D X := h.1
  have hB : 0 ≤ B := by obtain ⟨_, _, _, _, _, _, q, _⟩ := h.2.2.2.2; exact q.1
  have ha := hR.a
  have h15 : xv X1 467 5 = xv X 467 5 := ho.j (by omega)
  have hfl := (hR.k (X' := X1) (ho.j (by omega)) h15 (ho.j (by omega)) (ho.w (by omega))).fail (z := xv X 467 5) (by omega)
  rw [h15]
  have h5 := hR.2.2.2.1
  have hok := hR.1
  unfold rOk at hok
  by_cases q : xv D 444 1 < xv D 445 1
  · obtain ⟨v, rfl⟩ : ∃ v, w = v + 1 := ⟨w - 1, by omega⟩
    rw [fRun_nop hR.2.1 q hc hop]
    refine tF.run hf ?_ v
    rw [← h5]; exact hfl
  · rw [fRun_stop (fun z => q z.2)]
    unfold fEnd
    rw [if_neg (by simp only; omega)]
    refine tF.ewa ?_ hf 0
    show tF (rd_fail D (xv D 444 1)) _
    rw [← h5]; exact hfl
