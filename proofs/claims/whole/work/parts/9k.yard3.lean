/-! steps of the yard -/
theorem YI.thing {D : q_X} {f : Nat} {B th t : Int} (h : YI D f 1 B th) (ht : th < 40) (hk : tkOk t) (hn : ¬ t < -6) : YI (fEm D f t) f 0 B (th + 1) := by
  have hcc := h.c
  obtain ⟨k, m, h1, h2, h3, h4, h5, h6, h7, h8, h9, h0⟩ := h
  have hk2 := h3.2 k (Nat.le_refl _)
  have hk3 := tpS_b (xv D (f + 2)) k
  rw [h4] at hk2
  have hti : q_in t := by unfold tkOk at hk; unfold q_in; omega
  have e3 : xv (fEm D f t) f 3 = (k : Int) := fEm_3.trans h1
  have e0 : xv (fEm D f t) f 0 = ((m + 1 : Nat) : Int) := by
    unfold fEm; rw [if_pos (by omega), xv_up_same _ _ _ (by omega)]; omega
  have e2 : xv (fEm D f t) (f + 2) = xv D (f + 2) := fEm_o (by omega)
  have e1 : ∀ i, xv (fEm D f t) (f + 1) i = if i = m then t else xv D (f + 1) i := fun i => by
    unfold fEm; rw [if_pos (by omega), xv_up_ne _ _ (by omega), h2, Int.toNat_natCast]
    by_cases e : i = m
    · subst e; rw [xv_up_same _ _ _ hti, if_pos rfl]
    · rw [xv_up_ne _ _ (by omega), if_neg e]
  have hlo : ∀ i, i < m → xv (fEm D f t) (f + 1) i = xv D (f + 1) i := fun i hi => by rw [e1, if_neg (by omega)]
  have hat : xv (fEm D f t) (f + 1) m = t := by rw [e1, if_pos rfl]
  generalize fEm D f t = D' at *
  have hHm := fH_cg m hlo
  have hH1 : fH (xv D' (f + 1)) (m + 1) = fH (xv D (f + 1)) m + 1 := by rw [fH, hat, if_neg hn, hHm]
  refine ⟨k, m + 1, e3, e0, by rw [e2]; exact h3, by rw [e2]; exact h4, h5, fWF_s (fWF_cg hlo h6) ⟨by rw [hat]; exact hk, fun q => by rw [hat] at q; omega, fun _ => by rw [hHm]; omega⟩, by rw [hH1]; omega, by rw [hH1]; omega, by omega, by omega⟩
/-- a sign is laid upon those that wait -/
theorem YI.hold {D : q_X} {f : Nat} {wn B th c wn' B' th' : Int} (h : YI D f wn B th) (hc : opc c) (hB : B' = B + if c = 40 then 1 else 0) (hB6 : B' ≤ 6) (hth : th' = th + if c = 40 then 1 else 0) (ht : th' ≤ 40) (hwn : wn = if c = 40 then 1 else 0) (hwn' : wn' = 1) (hs : ¬ c = 40 → 0 < xv D f 3 → fstr (xv D (f + 2) (xv D f 3 - 1).toNat) < fstr c) : YI (fHo D f c) f wn' B' th' := by
  have hcc := h.c
  obtain ⟨k, m, h1, h2, h3, h4, h5, h6, h7, h8, h9, h0⟩ := h
  have hk2 := h3.2 k (Nat.le_refl _)
  have hk3 := tpS_b (xv D (f + 2)) k
  rw [h4] at hk2
  have hci : q_in c := by unfold q_in; omega
  have e3 : xv (fHo D f c) f 3 = ((k + 1 : Nat) : Int) := by
    unfold fHo; rw [if_pos (by omega), xv_up_same _ _ _ (by omega)]; omega
  have e0 : xv (fHo D f c) f 0 = (m : Int) := by
    unfold fHo; rw [if_pos (by omega), xv_up_ne _ _ (by omega), xv_up_ne _ _ (by omega)]; exact h2
  have e1 : xv (fHo D f c) (f + 1) = xv D (f + 1) := fHo_o (by omega)
  have e2 : ∀ i, xv (fHo D f c) (f + 2) i = if i = k then c else xv D (f + 2) i := fun i => by
    unfold fHo; rw [if_pos (by omega), xv_up_ne _ _ (by omega), h1, Int.toNat_natCast]
    by_cases e : i = k
    · subst e; rw [xv_up_same _ _ _ hci, if_pos rfl]
    · rw [xv_up_ne _ _ (by omega), if_neg e]
  have hlo : ∀ i, i < k → xv (fHo D f c) (f + 2) i = xv D (f + 2) i := fun i hi => by rw [e2, if_neg (by omega)]
  have hat : xv (fHo D f c) (f + 2) k = c := by rw [e2, if_pos rfl]
  generalize fHo D f c = D' at *
  have hcB : cB (xv D' (f + 2)) (k + 1) = B' := by rw [cB, cB_congr k hlo, hat, h4, hB]
  have hst : ¬ c = 40 → tpS (xv D (f + 2)) k < fstr c := fun q => by
    unfold tpS
    by_cases e : k = 0
    · rw [if_pos e]; unfold fstr; (repeat' split) <;> omega
    · rw [if_neg e]
      have := hs q (by omega)
      rw [h1, show ((k : Int) - 1).toNat = k - 1 by omega] at this
      exact this
  refine ⟨k + 1, m, e3, e0, ⟨fun i hi => ?_, fun j hj => ?_⟩, hcB, ?_, by rw [e1]; exact h6, (congrArg (fun t => ((fH t m : Nat) : Int)) e1).trans ?_, ?_, ?_, ?_⟩
  · by_cases e : i = k
    · subst e; rw [hat]; exact hc
    · rw [hlo i (by omega)]; exact h3.1 i (by omega)
  · by_cases e : j = k + 1
    · subst e
      rw [hcB]; unfold tpS; rw [if_neg (by omega), Nat.add_sub_cancel, hat]
      by_cases q : c = 40
      · have := fstr_b c
        rw [if_pos q] at hB; omega
      · have := hst q
        rw [if_neg q] at hB; omega
    · have a1 := h3.2 j (by omega)
      rw [cB_congr j (fun i hi => hlo i (by omega))]
      unfold tpS at a1 ⊢
      by_cases q : j = 0
      · rw [if_pos q] at a1 ⊢; exact a1
      · rw [if_neg q] at a1 ⊢; rw [hlo (j - 1) (by omega)]; exact a1
  · split at hB <;> omega
  · split at hB <;> split at hwn <;> omega
  · rw [e1]; split at hB <;> split at hth <;> omega
  · split at hth <;> omega
  · omega
/-- a bracket is closed -/
theorem YI.close {D : q_X} {f : Nat} {B th : Int} (h : YI D f 0 B th) (hB : 0 < B) : YI (fClo D f) f 0 (B - 1) th := by
  have hcc := h.c
  unfold fClo fEWa
  rw [show max (1 : Int) 0 = 1 by omega]
  obtain ⟨g1, g2⟩ := YI_fEW (r := 1) (by omega) (xv D f 3).toNat D (by omega) h
  generalize fEW f 1 (xv D f 3).toNat D = E at g1 g2 ⊢
  have gcc := g1.c
  obtain ⟨k, m, h1, h2, h3, h4, h5, h6, h7, h8, h9, h0⟩ := g1
  obtain ⟨w, rfl⟩ : ∃ w, k = w + 1 := ⟨k - 1, by omega⟩
  have gt := g2 (by omega)
  rw [h1, show (((w + 1 : Nat) : Int) - 1).toNat = w by omega] at gt
  have hop := h3.1 w (by omega)
  have h40 : xv E (f + 2) w = 40 := by
    rcases hop with e | e | e | e
    · exact e
    all_goals (rw [e] at gt; unfold fstr at gt; simp at gt)
  have hcB : cB (xv E (f + 2)) w = B - 1 := by rw [cB, if_pos h40] at h4; omega
  have hb := cB_b (xv E (f + 2)) w
  rw [show max (0 : Int) (xv E f 3 - 1) = (w : Int) by omega]
  refine ⟨w, m, xv_up_same _ _ _ (by omega), by rw [xv_up_ne _ _ (by omega)]; exact h2, ?_⟩
  rw [xv_up_row _ _ _ (show f + 1 ≠ f by omega), xv_up_row _ _ _ (show f + 2 ≠ f by omega)]
  refine ⟨⟨fun i hi => h3.1 i (by omega), fun j hj => h3.2 j (by omega)⟩, hcB, by omega, h6, by omega, by omega, h9, h0⟩
/-- the end: nothing waits -/
theorem YI.fin {D : q_X} {f : Nat} {th : Int} (h : YI D f 0 0 th) : YI (fEWa D f 0) f 0 0 th ∧ xv (fEWa D f 0) f 3 = 0 := by
  have hcc := h.c
  unfold fEWa
  rw [show max (1 : Int) 0 = 1 by omega]
  obtain ⟨g1, g2⟩ := YI_fEW (r := 1) (by omega) (xv D f 3).toNat D (by omega) h
  generalize fEW f 1 (xv D f 3).toNat D = E at g1 g2 ⊢
  refine ⟨g1, ?_⟩
  have gcc := g1.c
  obtain ⟨k, m, h1, h2, h3, h4, h5, h6, h7, h8, h9, h0⟩ := g1
  by_cases e : k = 0
  · omega
  obtain ⟨w, rfl⟩ : ∃ w, k = w + 1 := ⟨k - 1, by omega⟩
  have gt := g2 (by omega)
  rw [h1, show (((w + 1 : Nat) : Int) - 1).toNat = w by omega] at gt
  have hop := h3.1 w (by omega)
  have h40 : xv E (f + 2) w = 40 := by
    rcases hop with e | e | e | e
    · exact e
    all_goals (rw [e] at gt; unfold fstr at gt; simp at gt)
  have hb := cB_b (xv E (f + 2)) w
  rw [cB, if_pos h40] at h4
  omega
