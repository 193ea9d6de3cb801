/-! reading a sum: the state, there and here -/
theorem yR.cg {D D' X X' : q_X} {f : Nat} (h : yR D X f) (e0 : xv D' f = xv D f) (e1 : xv D' (f + 1) = xv D (f + 1)) (e2 : xv D' (f + 2) = xv D (f + 2)) (x0 : xv X' 467 10 = xv X 467 10) (x1 : xv X' 467 11 = xv X 467 11) (x2 : xv X' 471 = xv X 471) (x3 : xv X' 472 = xv X 472) : yR D' X' f := by
  unfold yR at h ⊢; rw [e0, e1, e2, x0, x1, x2, x3]; exact h
theorem tR.k {C X X' : q_X} (h : tR C X) (h4 : xv X' 467 4 = xv X 467 4) (h5 : xv X' 467 5 = xv X 467 5) (h6 : xv X' 467 6 = xv X 467 6) (h0 : xv X' 470 = xv X 470) : tR C X' := by
  obtain ⟨a1, a2, a3, a4, a5⟩ := h
  exact ⟨a1, a2, by rw [h6]; exact a3, by rw [h5]; exact a4, a5.cg rfl rfl h4 h0⟩
theorem yO.j {X X' : q_X} (h : yO X X') {j : Nat} (hj : j ≠ 10 ∧ j ≠ 11) : xv X' 467 j = xv X 467 j := by
  show (X' 467 j).toInt = (X 467 j).toInt
  rw [h 467 j (by omega) (by omega)]
theorem yO.w {X X' : q_X} (h : yO X X') {a : Nat} (ha : a ≠ 471 ∧ a ≠ 467) : xv X' a = xv X a := by
  funext j
  show (X' a j).toInt = (X a j).toInt
  rw [h a j (by omega) (by omega)]
def fZ (s : fS) (X : q_X) (f : Nat) : Prop := tR s.1 X ∧ yR s.1 X f ∧ xv X 467 12 = s.2.1 ∧ xv X 467 13 = s.2.2.1 ∧ YI s.1 f s.2.2.2 s.2.2.1 s.2.1
/-- what reading a sum may change -/
def zO (X X' : q_X) : Prop := ∀ a j, a ≠ 471 → a ≠ 472 → ¬ (a = 467 ∧ (j = 5 ∨ j = 6 ∨ j = 7 ∨ j = 10 ∨ j = 11 ∨ j = 12 ∨ j = 13)) → X' a j = X a j
theorem zO.rfl {X : q_X} : zO X X := fun _ _ _ _ _ => Eq.refl _
theorem zO.trans {X X' X2 : q_X} (h : zO X X') (h2 : zO X' X2) : zO X X2 := fun a j a1 a2 a3 => (h2 a j a1 a2 a3).trans (h a j a1 a2 a3)
theorem yO.z {X X' : q_X} (h : yO X X') : zO X X' := fun a j a1 _ a3 => h a j a1 (by omega)
theorem vO.z {X X' : q_X} (h : vO X X') : zO X X' := fun a j _ _ a3 => h a j (by omega)
theorem zO.up {X X' : q_X} (h : zO X X') {a j : Nat} {v : Int32} (hj : a = 471 ∨ a = 472 ∨ (a = 467 ∧ (j = 5 ∨ j = 6 ∨ j = 7 ∨ j = 10 ∨ j = 11 ∨ j = 12 ∨ j = 13))) : zO X (q_up X' a j v) := fun b q a1 a2 a3 => by
  rw [q_up_ne _ _ (by omega)]; exact h b q a1 a2 a3
theorem fClo_o {X : q_X} {f i : Nat} (h : i ≠ f ∧ i ≠ f + 1) : xv (fClo X f) i = xv X i := by
  unfold fClo; rw [xv_up_row _ _ _ h.1, fEWa_o h]
theorem fEWa_01 {X : q_X} {f : Nat} : fEWa X f 0 = fEWa X f 1 := by unfold fEWa; rw [show max (1 : Int) 0 = max 1 1 by omega]
theorem fZ.close {D X X1 : q_X} {f : Nat} {th B : Int} (h : fZ (D, th, B, 0) X f) (hf : f + 5 ≤ 441) (hB : 0 < B) (hc : rd D (xv D 444 1) = 41) (ho : yO X X1) (hy : yR (fEWa (rd_skip D) f 1) X1 f) : fZ (fClo (rd_skip D) f, th, B - 1, 0) (q_up (q_up (q_up X1 467 11 (zi (xv X1 467 11 - 1))) 467 13 (zi (B - 1))) 467 5 (zi (xv X 467 5 + 1))) f := by
  obtain ⟨h1, h2, h3, h4, h5⟩ := h
  have hl := rd_lt (X := D) (a := xv D 444 1) (by rw [hc]; omega)
  have s1 := h1.skip hl.1
  have ha := h1.a
  have y0 : YI (rd_skip D) f 0 B th := h5.cg (rd_skip_o (by omega)) (rd_skip_o (by omega)) (rd_skip_o (by omega))
  have y1 := y0.close hB
  have hbb := y0.c
  obtain ⟨g1, g2⟩ := YI_fEW (r := 1) (by omega) (xv (rd_skip D) f 3).toNat (rd_skip D) (by omega) y0
  have e1 : fEWa (rd_skip D) f 1 = fEW f 1 (xv (rd_skip D) f 3).toNat (rd_skip D) := rfl
  rw [← e1] at g1
  have gc := g1.c
  have hB6 : B ≤ 6 := by obtain ⟨_, _, _, _, _, _, q, _⟩ := h5; exact q.2
  have h11 := hy.2.2.1
  obtain ⟨w, hw⟩ : ∃ w : Nat, xv (fEWa (rd_skip D) f 1) f 3 = ((w + 1 : Nat) : Int) := ⟨(xv (fEWa (rd_skip D) f 1) f 3).toNat - 1, by omega⟩
  have hp := hy.pop (w := w) (by omega)
  have eC : fClo (rd_skip D) f = q_up (fEWa (rd_skip D) f 1) f 3 (zi (w : Int)) := by
    unfold fClo; rw [fEWa_01, hw, show max (0 : Int) (((w + 1 : Nat) : Int) - 1) = (w : Int) by omega]
  rw [h11, hw, show ((w + 1 : Nat) : Int) - 1 = (w : Int) by omega]
  refine ⟨?_, ?_, ?_, ?_, y1⟩
  · refine (s1.cg (C' := fClo (rd_skip D) f) (fClo_o (by omega)) (fClo_o (by omega)) (fClo_o (by omega))).k ?_ ?_ ?_ ?_
    · rw [xv_up_ne _ _ (by omega), xv_up_ne _ _ (by omega), xv_up_ne _ _ (by omega), xv_up_ne _ _ (by omega), ho.j (by omega)]
    · rw [xv_up_same _ _ _ (by omega), xv_up_same _ _ _ (by omega)]
    · rw [xv_up_ne _ _ (by omega), xv_up_ne _ _ (by omega), xv_up_ne _ _ (by omega), xv_up_ne _ _ (by omega), ho.j (by omega)]
    · rw [xv_up_row _ _ _ (by omega), xv_up_row _ _ _ (by omega), xv_up_row _ _ _ (by omega), xv_up_row _ _ _ (by omega), ho.w (by omega)]
  · show yR (fClo (rd_skip D) f) _ f
    rw [eC]
    refine hp.cg rfl rfl rfl ?_ ?_ ?_ ?_
    · rw [xv_up_ne _ _ (by omega), xv_up_ne _ _ (by omega)]
    · rw [xv_up_ne _ _ (by omega), xv_up_ne _ _ (by omega)]
    · rw [xv_up_row _ _ _ (by omega), xv_up_row _ _ _ (by omega)]
    · rw [xv_up_row _ _ _ (by omega), xv_up_row _ _ _ (by omega)]
  · rw [xv_up_ne _ _ (by omega), xv_up_ne _ _ (by omega), xv_up_ne _ _ (by omega), ho.j (by omega)]; exact h3
  · rw [xv_up_ne _ _ (by omega), xv_up_same _ _ _ (by omega)]
