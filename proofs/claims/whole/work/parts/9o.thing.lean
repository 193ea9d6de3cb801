/-! a thing is laid, there and here -/
theorem fZ_thing {D X : q_X} {f : Nat} {th B t c : Int} (hf : f + 5 ≤ 441) (hR : tR D X) (hy : yR D X f) (hi : YI D f 1 B th) (h12 : xv X 467 12 = th + 1) (h13 : xv X 467 13 = B) (ht : th < 40) (hk : tk t c) (hko : tkOk t) (hn : ¬ t < -6) : fZ (fEm D f t, th + 1, B, 0) (q_up (q_up X 471 (xv X 467 10).toNat (zi c)) 467 10 (zi (xv X 467 10 + 1))) f := by
  have hcc := hi.c
  have h80 : xv D f 0 < 80 := by
    obtain ⟨k, m, h1, h2, h3, h4, h5, h6, h7, h8, h9, h0⟩ := hi
    omega
  have r1 := hy.em (by omega) h80 hk
  rw [← hy.2.1] at r1
  refine ⟨?_, r1, ?_, ?_, hi.thing ht hko hn⟩
  · refine (hR.cg (C' := fEm D f t) (fEm_o (by omega)) (fEm_o (by omega)) (fEm_o (by omega))).k ?_ ?_ ?_ ?_
    · simp (disch := omega) only [xv_up_ne]
    · simp (disch := omega) only [xv_up_ne]
    · simp (disch := omega) only [xv_up_ne]
    · simp (disch := omega) only [xv_up_row]
  · rw [xv_up_ne _ _ (by omega), xv_up_ne _ _ (by omega)]; exact h12
  · rw [xv_up_ne _ _ (by omega), xv_up_ne _ _ (by omega)]; exact h13
