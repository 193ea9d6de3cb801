/-! the reference's rows are copied -/
def rowK (X : q_X) (s t i : Nat) : q_X := fun a j => if a = 468 ∧ 3740 * t ≤ j ∧ j < 3740 * t + i then X 468 (j - 3740 * t + 3740 * s) else X a j
abbrev rowC (X : q_X) (s t : Nat) : q_X := rowK X s t 3740
theorem rowK_0 (X : q_X) (s t : Nat) : rowK X s t 0 = X := by
  funext a j; unfold rowK; rw [if_neg (by omega)]
theorem rowK_s (X : q_X) (s t i : Nat) (hi : i < 3740) : q_up (rowK X s t i) 468 (3740 * t + i) (zi (xv (rowK X s t i) 468 (3740 * s + i))) = rowK X s t (i + 1) := by
  funext a j
  have hv : rowK X s t i 468 (3740 * s + i) = X 468 (3740 * s + i) := by unfold rowK; rw [if_neg (by omega)]
  rw [zi_xv, hv]
  by_cases h : a = 468 ∧ j = 3740 * t + i
  · obtain ⟨h1, h2⟩ := h
    subst h1; subst h2
    rw [q_up_same]; unfold rowK; rw [if_pos (by omega)]; congr 1; omega
  · rw [q_up_ne _ _ h]; unfold rowK
    by_cases h2 : a = 468 ∧ 3740 * t ≤ j ∧ j < 3740 * t + i
    · rw [if_pos h2, if_pos (by omega)]
    · rw [if_neg h2, if_neg (by omega)]
theorem rowC_ne (X : q_X) {s t : Nat} {a : Nat} (h : a ≠ 468) : rowC X s t a = X a := by
  funext j; unfold rowC rowK; rw [if_neg (by omega)]
/-- a row of the reference -/
def rw_ (X : q_X) (r j : Nat) : Int := xv X 468 (3740 * r + j)
theorem rowC_eq (X : q_X) (s t : Nat) {r j : Nat} (hj : j < 3740) : rw_ (rowC X s t) r j = if r = t then rw_ X s j else rw_ X r j := by
  unfold rw_ xv rowC rowK
  by_cases h : r = t
  · subst h; rw [if_pos (by omega), if_pos rfl]; congr 2; omega
  · rw [if_neg (by omega), if_neg h]
def rowS (X : q_X) : Nat → q_X
  | 0 => X
  | i + 1 => rowC (rowS X i) (4 + i) (3 + i)
theorem rowS_ne (X : q_X) {a : Nat} (h : a ≠ 468) : ∀ i, rowS X i a = X a
  | 0 => rfl
  | i + 1 => by rw [rowS, rowC_ne _ h, rowS_ne X h i]
theorem rowS_eq (X : q_X) {r j : Nat} (hj : j < 3740) : ∀ i, rw_ (rowS X i) r j = if 3 ≤ r ∧ r < 3 + i then rw_ X (r + 1) j else rw_ X r j
  | 0 => by rw [rowS, if_neg (by omega)]
  | i + 1 => by
    rw [rowS, rowC_eq _ _ _ hj, rowS_eq X hj i, rowS_eq X hj i]
    by_cases h : r = 3 + i
    · subst h; rw [if_pos rfl, if_neg (by omega), if_pos (by omega)]; congr 1; omega
    · rw [if_neg h]
      by_cases h2 : 3 ≤ r ∧ r < 3 + i
      · rw [if_pos h2, if_pos (by omega)]
      · rw [if_neg h2, if_neg (by omega)]
/-- row s becomes the newest deed -/
def ddF (X : q_X) : q_X := if xv X 467 1 = 8 then q_up (rowS X 7) 467 1 (zi 7) else X
def dd (X : q_X) (s : Nat) : q_X := q_up (rowC (ddF X) s (3 + (xv (ddF X) 467 1).toNat)) 467 1 (zi (xv (ddF X) 467 1 + 1))
theorem ddF_1 {X : q_X} (h : 0 ≤ xv X 467 1 ∧ xv X 467 1 ≤ 8) : xv (ddF X) 467 1 = min (xv X 467 1) 7 := by
  unfold ddF; split
  · rw [xv_up_same _ _ _ (by omega)]; omega
  · omega
theorem ddF_eq (X : q_X) {r j : Nat} (hj : j < 3740) : rw_ (ddF X) r j = if xv X 467 1 = 8 ∧ 3 ≤ r ∧ r < 10 then rw_ X (r + 1) j else rw_ X r j := by
  unfold ddF
  by_cases h : xv X 467 1 = 8
  · rw [if_pos h]
    have e : rw_ (q_up (rowS X 7) 467 1 (zi 7)) r j = rw_ (rowS X 7) r j := by unfold rw_; exact xv_up_ne _ _ (by omega)
    rw [e, rowS_eq X hj]
    by_cases h2 : 3 ≤ r ∧ r < 3 + 7
    · rw [if_pos h2, if_pos (by omega)]
    · rw [if_neg h2, if_neg (by omega)]
  · rw [if_neg h, if_neg (by omega)]
theorem dd_1 {X : q_X} (s : Nat) (h : 0 ≤ xv X 467 1 ∧ xv X 467 1 ≤ 8) : xv (dd X s) 467 1 = min (xv X 467 1) 7 + 1 := by
  unfold dd
  rw [xv_up_same _ _ _ (by rw [ddF_1 h]; omega), ddF_1 h]
theorem dd_eq {X : q_X} {s r j : Nat} (h : 0 ≤ xv X 467 1 ∧ xv X 467 1 ≤ 8) (hs : s < 3) (hj : j < 3740) : rw_ (dd X s) r j = if r = 3 + (min (xv X 467 1) 7).toNat then rw_ X s j else if xv X 467 1 = 8 ∧ 3 ≤ r ∧ r < 10 then rw_ X (r + 1) j else rw_ X r j := by
  unfold dd
  have e : rw_ (q_up (rowC (ddF X) s (3 + (xv (ddF X) 467 1).toNat)) 467 1 (zi (xv (ddF X) 467 1 + 1))) r j = rw_ (rowC (ddF X) s (3 + (xv (ddF X) 467 1).toNat)) r j := by unfold rw_; exact xv_up_ne _ _ (by omega)
  rw [e, rowC_eq _ _ _ hj, ddF_1 h, ddF_eq X hj, ddF_eq X hj, if_neg (c := xv X 467 1 = 8 ∧ 3 ≤ s ∧ s < 10) (by omega)]
theorem dd_ne (X : q_X) (s : Nat) {a j : Nat} (h : a ≠ 468) (h1 : ¬ (a = 467 ∧ j = 1)) : dd X s a j = X a j := by
  unfold dd
  rw [q_up_ne _ _ h1, rowC_ne _ h]
  unfold ddF
  split
  · rw [q_up_ne _ _ h1, rowS_ne _ h]
  · rfl
theorem dd_0 {X : q_X} (h : 0 ≤ xv X 467 1 ∧ xv X 467 1 ≤ 8) {j : Nat} (hj : j < 3740) : xv (dd X 0) 468 j = xv X 468 j := by
  have := dd_eq (r := 0) (s := 0) h (by omega) hj
  unfold rw_ at this
  rw [if_neg (by omega), if_neg (by omega), Nat.mul_zero, Nat.zero_add] at this
  exact this
set_option maxHeartbeats 4000000 in
set_option maxRecDepth 100000 in
theorem lX12_copyRow {l : Launch} {g : q_G} {n : Nat} {P : q_P} {X : q_X} {Y : q_Y} (hm : isMod n P) {s t : Nat} (hs : s < 12) (ht : t < 12) : ∀ (w i : Nat), i + w = 3740 → q_Tr l g mX12_copyRow 0 (q_gv (fun n' P' X' Y' => n' = n ∧ P' = P ∧ Y' = Y ∧ X' = rowC X s t)) 2 [(0, .ref (g.1 + 467)), (1, .int (zi (s : Int))), (2, .int (zi (t : Int))), (3, .int (zi (i : Int)))] [] n P (rowK X s t i) Y := by
  obtain ⟨m0, m2, m3, m8, m9, m14, m15, m16, m17, m18, m20, m22, m25, hnm9⟩ := id hm
  intro w
  induction w with
  | zero =>
    intro i hi
    refine r_iload_n (i := 3) (pc' := 3) dX12_copyRow_2 rfl rfl (.tail _ (.tail _ (.tail _ (.head _)))) ?_
    refine r_sipush (pc' := 6) dX12_copyRow_3 rfl (by decide) ?_
    refine r_icmp_ge (t := 39) (f := 9) dX12_copyRow_6 (by decide) rfl (by first | omega | exact xv_in _ _ _) (by first | omega | exact xv_in _ _ _) (fun h6 => ?_) (fun h6 => ?_)
    · refine r_return dX12_copyRow_39 rfl ?_
      refine ⟨rfl, rfl, rfl, rfl, ?_⟩
      rw [show i = 3740 by omega]
    · exfalso; omega
  | succ w ih =>
    intro i hi
    refine r_iload_n (i := 3) (pc' := 3) dX12_copyRow_2 rfl rfl (.tail _ (.tail _ (.tail _ (.head _)))) ?_
    refine r_sipush (pc' := 6) dX12_copyRow_3 rfl (by decide) ?_
    refine r_icmp_ge (t := 39) (f := 9) dX12_copyRow_6 (by decide) rfl (by first | omega | exact xv_in _ _ _) (by first | omega | exact xv_in _ _ _) (fun h6 => ?_) (fun h6 => ?_)
    · exfalso; omega
    · refine r_aload_n (i := 0) (pc' := 10) dX12_copyRow_9 rfl rfl (.head _) ?_
      refine r_getR (pc' := 13) dX12_copyRow_10 rfl fX12_3 rfl (by first | assumption | rfl) (by omega) (by assumption) ?_
      refine r_sipush (pc' := 16) dX12_copyRow_13 rfl (by decide) ?_
      refine r_iload_n (i := 2) (pc' := 17) dX12_copyRow_16 rfl rfl (.tail _ (.tail _ (.head _))) ?_
      refine r_imul (pc' := 18) dX12_copyRow_17 rfl ?_
      refine r_iload_n (i := 3) (pc' := 19) dX12_copyRow_18 rfl rfl (.tail _ (.tail _ (.tail _ (.head _)))) ?_
      refine r_iadd (pc' := 20) dX12_copyRow_19 rfl ?_
      refine r_aload_n (i := 0) (pc' := 21) dX12_copyRow_20 rfl rfl (.head _) ?_
      refine r_getR (pc' := 24) dX12_copyRow_21 rfl fX12_3 rfl (by first | assumption | rfl) (by omega) (by assumption) ?_
      refine r_sipush (pc' := 27) dX12_copyRow_24 rfl (by decide) ?_
      refine r_iload_n (i := 1) (pc' := 28) dX12_copyRow_27 rfl rfl (.tail _ (.head _)) ?_
      refine r_imul (pc' := 29) dX12_copyRow_28 rfl ?_
      refine r_iload_n (i := 3) (pc' := 30) dX12_copyRow_29 rfl rfl (.tail _ (.tail _ (.tail _ (.head _)))) ?_
      refine r_iadd (pc' := 31) dX12_copyRow_30 rfl ?_
      refine r_iaload (pc' := 32) dX12_copyRow_31 rfl (by first | assumption | rfl) (by omega) (by omega) (by omega) (by first | decide | omega) (show _ = 3740 * s + i by omega) ?_
      refine r_iastore (pc' := 33) dX12_copyRow_32 rfl (by first | assumption | rfl) (by omega) (by omega) (by omega) (by first | decide | omega) (show _ = 3740 * t + i by omega) ?_
      refine r_iinc (pc' := 36) dX12_copyRow_33 rfl rfl (.tail _ (.tail _ (.tail _ (.head _)))) (.s1 (.s1 (.s1 (.here .nil) rfl rfl rfl) rfl rfl rfl) rfl rfl rfl) ?_
      refine r_goto (t := 2) dX12_copyRow_36 (by decide) ?_
      rw [rowK_s _ _ _ _ (by omega)]
      exact ih (i + 1) (by omega)
set_option maxHeartbeats 4000000 in
set_option maxRecDepth 100000 in
theorem tX12_copyRow {l : Launch} {g : q_G} {n : Nat} {P : q_P} {X : q_X} {Y : q_Y} (hm : isMod n P) {s t : Nat} (hs : s < 12) (ht : t < 12) : q_Met l g mX12_copyRow 0 [.ref (g.1 + 467), .int (zi (s : Int)), .int (zi (t : Int))] n P X Y (q_gv (fun n' P' X' Y' => n' = n ∧ P' = P ∧ Y' = Y ∧ X' = rowC X s t)) := by
  obtain ⟨m0, m2, m3, m8, m9, m14, m15, m16, m17, m18, m20, m22, m25, hnm9⟩ := id hm
  refine q_enter (L := [(0, .ref (g.1 + 467)), (1, .int (zi (s : Int))), (2, .int (zi (t : Int)))]) (by decide) (Nat.le_of_ble_eq_true rfl) rfl ?_
  refine r_iconst (pc' := 1) dX12_copyRow_0 rfl ?_
  refine r_istore_n (i := 3) (pc' := 2) dX12_copyRow_1 rfl rfl rfl (.s1 (.s1 (.s1 .nil rfl rfl rfl) rfl rfl rfl) rfl rfl rfl) ?_
  have hlp := lX12_copyRow (l := l) (g := g) (X := X) (Y := Y) hm hs ht 3740 0 (Nat.zero_add _)
  rw [rowK_0] at hlp
  exact hlp
