set_option maxHeartbeats 4000000 in
set_option maxRecDepth 100000 in
theorem lX12_doesWaiting {l : Launch} {g : q_G} {n : Nat} {P : q_P} {Y : q_Y} (hm : isMod n P) {f : Nat} {r : Int} (hf : f + 2 ≤ 441) (hr : 1 ≤ r ∧ r ≤ 2) {X0 : q_X} {K : q_K} : ∀ (w : Nat) (D X : q_X), xv D f 3 = (w : Int) → yR D X f → xv D f 0 + w ≤ 80 → yO X0 X → (∀ X', yO X0 X' → yR (fEW f r w D) X' f → K none n P X' Y) → q_Tr l g mX12_doesWaiting 1 K 0 [(0, .ref (g.1 + 467)), (1, .int (zi r))] [] n P X Y := by
  obtain ⟨m0, m2, m3, m8, m9, m14, m15, m16, m17, m18, m20, m22, m25, hnm9⟩ := id hm
  intro w
  induction w with
  | zero =>
    intro D X hw hy h80 ho kk
    have h11 := hy.2.2.1
    refine r_aload_n (i := 0) (pc' := 1) dX12_doesWaiting_0 rfl rfl (.head _) ?_
    refine r_getI (pc' := 4) dX12_doesWaiting_1 rfl fX12_165 rfl (by first | assumption | rfl) (by omega) ?_
    rw [h11, hw]
    refine r_if_le (t := 54) (f := 7) dX12_doesWaiting_4 (by decide) rfl (by first | omega | exact xv_in _ _ _) (fun h4 => ?_) (fun h4 => ?_)
    · refine r_return dX12_doesWaiting_54 rfl ?_
      exact kk _ ho hy
    · exfalso; omega
  | succ w ih =>
    intro D X hw hy h80 ho kk
    have hcw := hy.2.2.2.2 w (by omega)
    have hst := rk_str hcw.2
    have h10 := hy.2.1
    have h11 := hy.2.2.1
    have hyb := hy.1
    have hx1 : xv (q_up X 467 11 (zi (w : Int))) 467 10 = xv D f 0 := by rw [xv_up_ne _ _ (by omega)]; exact h10
    have he : fEW f r (w + 1) D = if r ≤ fstr (xv D (f + 2) w) then fEW f r w (q_up (fEm D f (- xv D (f + 2) w)) f 3 (zi (w : Int))) else D := rfl
    rw [he] at kk
    have hop := hcw.2
    have hsc : fstr (xv D (f + 2) w) = 0 ↔ xv D (f + 2) w = 40 := by
      unfold fstr; rcases hop with e | e | e | e <;> rw [e] <;> decide
    have hsb : 0 ≤ fstr (xv D (f + 2) w) ∧ fstr (xv D (f + 2) w) ≤ 2 := by unfold fstr; (repeat' split) <;> omega
    have hyn : r ≤ fstr (xv D (f + 2) w) → yR (q_up (fEm D f (- xv D (f + 2) w)) f 3 (zi (w : Int))) (q_up (q_up (q_up X 471 (xv D f 0).toNat (zi (2000000 + xv D (f + 2) w))) 467 10 (zi (xv D f 0 + 1))) 467 11 (zi (w : Int))) f := fun q => (hy.em hf (by omega) (tk_op hop (by omega))).pop (by rw [fEm_3]; omega)
    have hn0 : xv (fEm D f (- xv D (f + 2) w)) f 0 = xv D f 0 + 1 := by unfold fEm; rw [if_pos (by omega), xv_up_same _ _ _ (by omega)]
    generalize fstr (xv D (f + 2) w) = st at hst hsc hsb hyn kk
    refine r_aload_n (i := 0) (pc' := 1) dX12_doesWaiting_0 rfl rfl (.head _) ?_
    refine r_getI (pc' := 4) dX12_doesWaiting_1 rfl fX12_165 rfl (by first | assumption | rfl) (by omega) ?_
    rw [h11, hw]
    refine r_if_le (t := 54) (f := 7) dX12_doesWaiting_4 (by decide) rfl (by first | omega | exact xv_in _ _ _) (fun h4 => ?_) (fun h4 => ?_)
    · exfalso; omega
    · refine r_aload_n (i := 0) (pc' := 8) dX12_doesWaiting_7 rfl rfl (.head _) ?_
      refine r_getR (pc' := 11) dX12_doesWaiting_8 rfl fX12_29 rfl (by first | assumption | rfl) (by omega) (by assumption) ?_
      refine r_aload_n (i := 0) (pc' := 12) dX12_doesWaiting_11 rfl rfl (.head _) ?_
      refine r_getI (pc' := 15) dX12_doesWaiting_12 rfl fX12_165 rfl (by first | assumption | rfl) (by omega) ?_
      rw [h11, hw]
      refine r_iconst (pc' := 16) dX12_doesWaiting_15 rfl ?_
      refine r_isub (pc' := 17) dX12_doesWaiting_16 rfl ?_
      refine r_iaload (pc' := 18) dX12_doesWaiting_17 rfl (by first | assumption | rfl) (by omega) (by omega) (by omega) (by first | decide | omega) (show _ = w by omega) ?_
      rw [hcw.1]
      refine r_S1p (pc' := 21) dX12_doesWaiting_18 rfl lX12_168 (by decide) (Nat.le_of_ble_eq_true rfl) (tX12_rankOf (by omega)) ?_
      rw [hst]
      refine r_iload_n (i := 1) (pc' := 22) dX12_doesWaiting_21 rfl rfl (.tail _ (.head _)) ?_
      refine r_icmp_lt (t := 54) (f := 25) dX12_doesWaiting_22 (by decide) rfl (by first | omega | exact xv_in _ _ _) (by first | omega | exact xv_in _ _ _) (fun h22 => ?_) (fun h22 => ?_)
      · refine r_return dX12_doesWaiting_54 rfl ?_
        rw [if_neg (by omega)] at kk
        exact kk _ ho hy
      · refine r_aload_n (i := 0) (pc' := 26) dX12_doesWaiting_25 rfl rfl (.head _) ?_
        refine r_dup (pc' := 27) dX12_doesWaiting_26 rfl rfl ?_
        refine r_getI (pc' := 30) dX12_doesWaiting_27 rfl fX12_165 rfl (by first | assumption | rfl) (by omega) ?_
        rw [h11, hw]
        refine r_iconst (pc' := 31) dX12_doesWaiting_30 rfl ?_
        refine r_isub (pc' := 32) dX12_doesWaiting_31 rfl ?_
        rw [show ((w + 1 : Nat) : Int) - 1 = (w : Int) by omega]
        refine r_putI (pc' := 35) dX12_doesWaiting_32 rfl fX12_165 rfl (by first | assumption | rfl) (by omega) rfl rfl ?_
        refine r_aload_n (i := 0) (pc' := 36) dX12_doesWaiting_35 rfl rfl (.head _) ?_
        refine r_ldc (pc' := 38) dX12_doesWaiting_36 rfl kX12_171 ?_
        refine r_aload_n (i := 0) (pc' := 39) dX12_doesWaiting_38 rfl rfl (.head _) ?_
        refine r_getR (pc' := 42) dX12_doesWaiting_39 rfl fX12_29 rfl (by first | assumption | rfl) (by omega) (by assumption) ?_
        refine r_aload_n (i := 0) (pc' := 43) dX12_doesWaiting_42 rfl rfl (.head _) ?_
        refine r_getI (pc' := 46) dX12_doesWaiting_43 rfl fX12_165 rfl (by first | assumption | rfl) (by omega) ?_
        rw [xv_up_same _ _ _ (by omega)]
        refine r_iaload (pc' := 47) dX12_doesWaiting_46 rfl (by first | assumption | rfl) (by omega) (by omega) (by omega) (by first | decide | omega) (show _ = w by omega) ?_
        rw [xv_up_row _ _ _ (by omega), hcw.1]
        refine r_iadd (pc' := 48) dX12_doesWaiting_47 rfl ?_
        refine r_V1gv (ci := 12) (pc' := 51) dX12_doesWaiting_48 rfl lX12_172 rfl (by decide) (Nat.le_of_ble_eq_true rfl) (by first | assumption | rfl) (by omega) (tX12_does hm (by omega)) (fun n48 P48 X48 Y48 e48 le48 => ?_)
        obtain ⟨hg1_48, hg2_48, hg3_48, hg4_48⟩ := e48
        have g1_48 := Eq.symm hg1_48
        have g2_48 := Eq.symm hg2_48
        have g3_48 := Eq.symm hg3_48
        have g4_48 := Eq.symm hg4_48
        clear hg1_48 hg2_48 hg3_48 hg4_48
        subst g1_48 g2_48 g3_48 g4_48
        refine r_goto (t := 0) dX12_doesWaiting_51 (by decide) ?_
        rw [if_pos (by omega)] at kk
        have hy2 := hyn (by omega)
        rw [hx1, q_up_c2 X (a := 467) (j := 11) (c := 471) (q := (xv D f 0).toNat) _ _ (by omega), q_up_c2 _ (a := 467) (j := 11) (c := 467) (q := 10) _ _ (by omega)]
        refine ih _ _ (xv_up_same _ _ _ (by omega)) hy2 (by rw [xv_up_ne _ _ (by omega), hn0]; omega) (fun a j a1 a2 => ?_) kk
        rw [q_up_ne _ _ (by omega), q_up_ne _ _ (by omega), q_up_ne _ _ (by omega)]; exact ho a j a1 a2
set_option maxHeartbeats 4000000 in
set_option maxRecDepth 100000 in
theorem tX12_doesWaiting {l : Launch} {g : q_G} {n : Nat} {P : q_P} {X : q_X} {Y : q_Y} (hm : isMod n P) {D : q_X} {f : Nat} {r : Int} (hf : f + 2 ≤ 441) (hr : 1 ≤ r ∧ r ≤ 2) (hy : yR D X f) (h80 : xv D f 0 + xv D f 3 ≤ 80) : q_Met l g mX12_doesWaiting 1 [.ref (g.1 + 467), .int (zi r)] n P X Y (q_gv (fun n' P' X' Y' => n' = n ∧ P' = P ∧ Y' = Y ∧ yO X X' ∧ yR (fEWa D f r) X' f)) := by
  refine q_enter (L := [(0, .ref (g.1 + 467)), (1, .int (zi r))]) (by decide) (Nat.le_of_ble_eq_true rfl) rfl ?_
  obtain ⟨w, hw⟩ : ∃ w : Nat, xv D f 3 = (w : Int) := ⟨(xv D f 3).toNat, by have := hy.1; omega⟩
  have e : fEWa D f r = fEW f r w D := by unfold fEWa; rw [hw, Int.toNat_natCast, show max 1 r = r by omega]
  rw [e]
  exact lX12_doesWaiting hm hf hr (X0 := X) w D X hw hy (by omega) yO.rfl (fun X' h1 h2 => ⟨rfl, rfl, rfl, rfl, h1, h2⟩)
