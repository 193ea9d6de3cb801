/-! steps of the class -/
theorem fRun_thing {f w : Nat} {D : q_X} {th B : Int} (hr : xv D 444 2 = -1) (hl : xv D 444 1 < xv D 445 1) (hc : ¬ rd D (xv D 444 1) = 40) (ht : th < 40) : fRun f (w + 1) (D, th, B, 1) = fRun f w (fThing D f, th + 1, B, 0) := by
  rw [fRun, if_pos ⟨hr, hl⟩]
  unfold fStep
  rw [if_neg (show ¬ (1 : Int) = 0 by omega), if_neg (by simp only; omega), if_neg hc]
theorem fRun_oper {f w : Nat} {D : q_X} {th B : Int} (hr : xv D 444 2 = -1) (hl : xv D 444 1 < xv D 445 1) (hc : ¬ (rd D (xv D 444 1) = 41 ∧ 0 < B)) : fRun f (w + 1) (D, th, B, 0) = fRun f w (fOper D f, th, B, 1) := by
  rw [fRun, if_pos ⟨hr, hl⟩]
  unfold fStep
  rw [if_pos rfl, if_neg hc]
