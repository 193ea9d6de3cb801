/-! the yard never drops a thing -/
def cB (ws : Nat → Int) : Nat → Int
  | 0 => 0
  | j + 1 => cB ws j + if ws j = 40 then 1 else 0
theorem cB_b (ws : Nat → Int) : ∀ j, 0 ≤ cB ws j ∧ cB ws j ≤ j
  | 0 => by simp [cB]
  | j + 1 => by
    have := cB_b ws j
    rw [cB]; split <;> omega
theorem cB_congr {ws ws' : Nat → Int} : ∀ j, (∀ i, i < j → ws' i = ws i) → cB ws' j = cB ws j
  | 0, _ => rfl
  | j + 1, h => by rw [cB, cB, cB_congr j (fun i hi => h i (by omega)), h j (by omega)]
theorem fH_cg {t t' : Nat → Int} : ∀ m, (∀ i, i < m → t' i = t i) → fH t' m = fH t m
  | 0, _ => rfl
  | m + 1, h => by rw [fH, fH, fH_cg m (fun i hi => h i (by omega)), h m (by omega)]
theorem fWF_cg {t t' : Nat → Int} {m : Nat} (h : ∀ i, i < m → t' i = t i) (hw : fWF t m) : fWF t' m := fun i hi => by
  rw [h i hi, fH_cg i (fun j hj => h j (by omega))]; exact hw i hi
theorem fWF_s {t : Nat → Int} {m : Nat} (hw : fWF t m) (h : tkOk (t m) ∧ (t m < -6 → 2 ≤ fH t m) ∧ (¬ t m < -6 → fH t m < 20)) : fWF t (m + 1) := fun i hi => by
  by_cases e : i = m
  · subst e; exact h
  · exact hw i (by omega)
def tpS (ws : Nat → Int) (j : Nat) : Int := if j = 0 then 0 else fstr (ws (j - 1))
theorem tpS_b (ws : Nat → Int) (j : Nat) : 0 ≤ tpS ws j ∧ tpS ws j ≤ 2 := by
  unfold tpS
  have := fstr_b (ws (j - 1))
  split <;> omega
def YW (ws : Nat → Int) (k : Nat) : Prop := (∀ i, i < k → opc (ws i)) ∧ ∀ j, j ≤ k → (j : Int) ≤ 3 * cB ws j + tpS ws j
/-- wn: 1 if a thing is wanted; B brackets, th things -/
def YI (D : q_X) (f : Nat) (wn B th : Int) : Prop := ∃ k m : Nat, xv D f 3 = (k : Int) ∧ xv D f 0 = (m : Int) ∧ YW (xv D (f + 2)) k ∧ cB (xv D (f + 2)) k = B ∧ (0 ≤ B ∧ B ≤ 6) ∧ fWF (xv D (f + 1)) m ∧ (fH (xv D (f + 1)) m : Int) = k - B + (1 - wn) ∧ (m : Int) + fH (xv D (f + 1)) m + 2 * B ≤ 2 * th ∧ (0 ≤ th ∧ th ≤ 40) ∧ (wn = 0 ∨ wn = 1)
theorem YI.c {D : q_X} {f : Nat} {wn B th : Int} (h : YI D f wn B th) : 0 ≤ xv D f 3 ∧ xv D f 3 ≤ 20 ∧ 0 ≤ xv D f 0 ∧ xv D f 0 + xv D f 3 ≤ 80 ∧ B ≤ xv D f 3 := by
  obtain ⟨k, m, h1, h2, h3, h4, h5, h6, h7, h8, h9, h0⟩ := h
  have e1 := h3.2 k (Nat.le_refl _)
  have e2 := tpS_b (xv D (f + 2)) k
  have e3 := cB_b (xv D (f + 2)) k
  rw [h4] at e1 e3
  omega
theorem YI.cg {D D' : q_X} {f : Nat} {wn B th : Int} (h : YI D f wn B th) (e0 : xv D' f = xv D f) (e1 : xv D' (f + 1) = xv D (f + 1)) (e2 : xv D' (f + 2) = xv D (f + 2)) : YI D' f wn B th := by
  unfold YI at h ⊢; rw [e0, e1, e2]; exact h
/-- one that waits is done -/
theorem YI.pop1 {D : q_X} {f w : Nat} {B th : Int} (h : YI D f 0 B th) (hw : xv D f 3 = ((w + 1 : Nat) : Int)) (hc : ¬ xv D (f + 2) w = 40) : YI (q_up (fEm D f (- xv D (f + 2) w)) f 3 (zi (w : Int))) f 0 B th := by
  have hcc := h.c
  obtain ⟨k, m, h1, h2, h3, h4, h5, h6, h7, h8, h9, h0⟩ := h
  obtain rfl : k = w + 1 := by omega
  have hop := h3.1 w (by omega)
  have hb := cB_b (xv D (f + 2)) w
  have hcB : cB (xv D (f + 2)) (w + 1) = cB (xv D (f + 2)) w := by rw [cB, if_neg hc]; omega
  have e3 : xv (q_up (fEm D f (- xv D (f + 2) w)) f 3 (zi (w : Int))) f 3 = (w : Int) := xv_up_same _ _ _ (by omega)
  have e0 : xv (q_up (fEm D f (- xv D (f + 2) w)) f 3 (zi (w : Int))) f 0 = ((m + 1 : Nat) : Int) := by
    rw [xv_up_ne _ _ (by omega)]; unfold fEm; rw [if_pos (by omega), xv_up_same _ _ _ (by omega)]; omega
  have e2 : xv (q_up (fEm D f (- xv D (f + 2) w)) f 3 (zi (w : Int))) (f + 2) = xv D (f + 2) := by rw [xv_up_row _ _ _ (by omega), fEm_o (by omega)]
  have e1 : ∀ i, xv (q_up (fEm D f (- xv D (f + 2) w)) f 3 (zi (w : Int))) (f + 1) i = if i = m then - xv D (f + 2) w else xv D (f + 1) i := fun i => by
    rw [xv_up_ne _ _ (by omega)]; unfold fEm; rw [if_pos (by omega), xv_up_ne _ _ (by omega), h2, Int.toNat_natCast]
    by_cases e : i = m
    · subst e; rw [xv_up_same _ _ _ (by omega), if_pos rfl]
    · rw [xv_up_ne _ _ (by omega), if_neg e]
  have hlo : ∀ i, i < m → xv (q_up (fEm D f (- xv D (f + 2) w)) f 3 (zi (w : Int))) (f + 1) i = xv D (f + 1) i := fun i hi => by rw [e1, if_neg (by omega)]
  have hat : xv (q_up (fEm D f (- xv D (f + 2) w)) f 3 (zi (w : Int))) (f + 1) m = - xv D (f + 2) w := by rw [e1, if_pos rfl]
  generalize q_up (fEm D f (- xv D (f + 2) w)) f 3 (zi (w : Int)) = D' at *
  have hHm := fH_cg m hlo
  have hH2 : 2 ≤ fH (xv D (f + 1)) m := by omega
  have hH1 : fH (xv D' (f + 1)) (m + 1) = fH (xv D (f + 1)) m - 1 := by rw [fH, hat, if_pos (by omega), hHm]
  refine ⟨w, m + 1, e3, e0, by rw [e2]; exact ⟨fun i hi => h3.1 i (by omega), fun j hj => h3.2 j (by omega)⟩, by rw [e2]; omega, h5, fWF_s (fWF_cg hlo h6) ⟨?_, fun _ => by rw [hHm]; exact hH2, fun q => by rw [hat] at q; omega⟩, by rw [hH1]; omega, by rw [hH1]; omega, h9, h0⟩
  rw [hat]; unfold tkOk; omega
theorem YI_fEW {f : Nat} {r B th : Int} (hr : 1 ≤ r) : ∀ (w : Nat) (D : q_X), xv D f 3 = (w : Int) → YI D f 0 B th → YI (fEW f r w D) f 0 B th ∧ (0 < xv (fEW f r w D) f 3 → fstr (xv (fEW f r w D) (f + 2) (xv (fEW f r w D) f 3 - 1).toNat) < r)
  | 0, D, hw, h => ⟨h, fun q => by rw [fEW, hw] at q; omega⟩
  | w + 1, D, hw, h => by
    rw [fEW]
    by_cases e : r ≤ fstr (xv D (f + 2) w)
    · rw [if_pos e]
      have hc : ¬ xv D (f + 2) w = 40 := fun q => by rw [q] at e; unfold fstr at e; simp at e; omega
      exact YI_fEW hr w _ (xv_up_same _ _ _ (by have := h.c; omega)) (h.pop1 hw hc)
    · rw [if_neg e]
      refine ⟨h, fun _ => ?_⟩
      rw [hw, show (((w + 1 : Nat) : Int) - 1).toNat = w by omega]; omega
