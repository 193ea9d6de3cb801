/-- the tape is empty, the fault is f; row AHEAD and what reading needs may be changed -/
def mX (X Xm : q_X) (f : Int) : Prop := xv Xm 467 4 = 0 ∧ xv Xm 467 6 = f ∧ ∀ a j, ¬ (a = 467 ∧ (j = 4 ∨ j = 5 ∨ j = 6 ∨ j = 7)) → ¬ (a = 468 ∧ 41140 ≤ j) → Xm a j = X a j
theorem its_f {d : Nat} : ∀ (w : Nat) (E : q_X) (it : Int), xv E 444 2 ≠ -1 → rdIts d w E it = (E, it)
  | 0, _, _, _ => rfl
  | w + 1, E, it, h => by rw [rdIts, if_neg (fun q => h q.1)]
theorem txt_m {X X2 Xl : q_X} {f : Int} (h2 : ∀ a j, ¬ (a = 467 ∧ (j = 5 ∨ j = 6)) → X2 a j = rowC X 0 11 a j) (hu : uO X2 Xl) (h6 : xv Xl 467 6 = f) : mX X (rowC (q_up Xl 467 4 (zi 0)) 11 0) f ∧ rO (rowC (q_up Xl 467 4 (zi 0)) 11 0) (q_up Xl 467 4 (zi 0)) ∧ ∀ j, j < 3740 → rw_ (q_up Xl 467 4 (zi 0)) 11 j = rw_ (rowC (q_up Xl 467 4 (zi 0)) 11 0) 0 j := by
  refine ⟨⟨?_, ?_, fun a j h7 h8 => ?_⟩, fun a j a1 a2 a3 a4 => ?_, fun j hj => ?_⟩
  · rw [rowC_xv _ (by omega), xv_up_same _ _ _ (by omega)]
  · rw [rowC_xv _ (by omega), xv_up_ne _ _ (by omega)]; exact h6
  · unfold rowC rowK
    by_cases e : a = 468 ∧ 3740 * 0 ≤ j ∧ j < 3740 * 0 + 3740
    · rw [if_pos e, q_up_ne _ _ (by omega), hu _ _ (by omega) (by omega), h2 _ _ (by omega)]
      unfold rowC rowK
      rw [if_pos (by omega)]
      have ea := e.1
      subst ea
      exact congrArg (X 468) (by omega)
    · rw [if_neg e, q_up_ne _ _ (by omega), hu _ _ (by omega) (by omega), h2 _ _ (by omega)]
      unfold rowC rowK
      rw [if_neg (by omega)]
  · unfold rowC rowK; rw [if_neg (by omega)]
  · rw [rowC_eq _ _ _ hj, if_pos rfl]
set_option maxHeartbeats 4000000 in
set_option maxRecDepth 100000 in
theorem lX12_text {l : Launch} {g : q_G} {n : Nat} {P : q_P} {Y : q_Y} (hm : isMod n P) {d : Nat} (hd : d + 220 ≤ 441) {X0 : q_X} {K : q_K} : ∀ (w : Nat) (D X : q_X) (it : Int), tR D X → RB D d (xv X 468) → bA D d → xv D 445 1 - xv D 444 1 ≤ w → uO X0 X → (∀ X', uO X0 X' → tR (rdIts d w D it).1 X' → RB (rdIts d w D it).1 d (xv X' 468) → bA (rdIts d w D it).1 d → q_Tr l g mX12_text 7 K 45 [(0, .ref (g.1 + 467)), (1, .int (zi (rdIts d w D it).2))] [] n P X' Y) → (∀ X' t, uO X0 X' → tF (rdIts d w D it).1 X' → q_Tr l g mX12_text 7 K 45 [(0, .ref (g.1 + 467)), (1, .int (zi t))] [] n P X' Y) → q_Tr l g mX12_text 7 K 13 [(0, .ref (g.1 + 467)), (1, .int (zi it))] [] n P X Y := by
  obtain ⟨m0, m2, m3, m8, m9, m14, m15, m16, m17, m18, m20, m22, m25, hnm9⟩ := id hm
  intro w
  induction w with
  | zero =>
    intro D X it hR hB hA hw ho k1 k2
    have h54 := hR.2.2.2.1
    have h6 := hR.2.2.1
    have h4 := hR.2.2.2.2.2.2.1
    have kk := k1 X ho hR hB hA
    have hra := hR.a
    refine r_aload_n (i := 0) (pc' := 14) dX12_text_13 rfl rfl (.head _) ?_
    refine r_getI (pc' := 17) dX12_text_14 rfl fX12_22 rfl (by first | assumption | rfl) (by omega) ?_
    refine r_iconst (pc' := 18) dX12_text_17 rfl ?_
    refine r_icmp_ne (t := 45) (f := 21) dX12_text_18 (by decide) rfl (by first | omega | exact xv_in _ _ _) (by first | omega | exact xv_in _ _ _) (fun h18 => ?_) (fun h18 => ?_)
    · exfalso; omega
    · refine r_aload_n (i := 0) (pc' := 22) dX12_text_21 rfl rfl (.head _) ?_
      refine r_getI (pc' := 25) dX12_text_22 rfl fX12_82 rfl (by first | assumption | rfl) (by omega) ?_
      refine r_aload_n (i := 0) (pc' := 26) dX12_text_25 rfl rfl (.head _) ?_
      refine r_getI (pc' := 29) dX12_text_26 rfl fX12_76 rfl (by first | assumption | rfl) (by omega) ?_
      refine r_icmp_ge (t := 45) (f := 32) dX12_text_29 (by decide) rfl (by first | omega | exact xv_in _ _ _) (by first | omega | exact xv_in _ _ _) (fun h29 => ?_) (fun h29 => ?_)
      · exact kk
      · exfalso; omega
  | succ w ih =>
    intro D X it hR hB hA hw ho k1 k2
    have h54 := hR.2.2.2.1
    have h6 := hR.2.2.1
    have h4 := hR.2.2.2.2.2.2.1
    have hra := hR.a
    have hq := hR.1
    have h10 := hA.1.2.2.2.2.2.2.2.1
    refine r_aload_n (i := 0) (pc' := 14) dX12_text_13 rfl rfl (.head _) ?_
    refine r_getI (pc' := 17) dX12_text_14 rfl fX12_22 rfl (by first | assumption | rfl) (by omega) ?_
    refine r_iconst (pc' := 18) dX12_text_17 rfl ?_
    refine r_icmp_ne (t := 45) (f := 21) dX12_text_18 (by decide) rfl (by first | omega | exact xv_in _ _ _) (by first | omega | exact xv_in _ _ _) (fun h18 => ?_) (fun h18 => ?_)
    · exfalso; omega
    · refine r_aload_n (i := 0) (pc' := 22) dX12_text_21 rfl rfl (.head _) ?_
      refine r_getI (pc' := 25) dX12_text_22 rfl fX12_82 rfl (by first | assumption | rfl) (by omega) ?_
      refine r_aload_n (i := 0) (pc' := 26) dX12_text_25 rfl rfl (.head _) ?_
      refine r_getI (pc' := 29) dX12_text_26 rfl fX12_76 rfl (by first | assumption | rfl) (by omega) ?_
      refine r_icmp_ge (t := 45) (f := 32) dX12_text_29 (by decide) rfl (by first | omega | exact xv_in _ _ _) (by first | omega | exact xv_in _ _ _) (fun h29 => ?_) (fun h29 => ?_)
      · have e : rdIts d (w + 1) D it = (D, it) := by rw [rdIts, if_neg (fun q => by have := q.2; omega)]
        rw [e] at k1
        exact k1 X ho hR hB hA
      · have hl : xv D 444 1 < xv D 445 1 := by omega
        have e : rdIts d (w + 1) D it = rdIts d w (rd_exp (rdItem D d) 59) (it + 1) := by rw [rdIts, if_pos ⟨hR.2.1, hl⟩]
        rw [e] at k1 k2
        have hat := fun X' (h : tR (rd_exp (rdItem D d) 59) X') => item_at hd h10 hl hq h
        have h45 : xv (rd_exp (rdItem D d) 59) 445 1 = xv D 445 1 := by rw [rd_exp_o (by omega), rdItem_o (by unfold dOk; exact ⟨hA.1.1, hA.1.2.2.2.2.2.2.1, h10⟩) (by omega) (by omega)]
        refine r_aload_n (i := 0) (pc' := 33) dX12_text_32 rfl rfl (.head _) ?_
        refine r_V0gi (ci := 12) (pc' := 36) dX12_text_33 rfl lX12_159 rfl (by decide) (Nat.le_of_ble_eq_true rfl) (by first | assumption | rfl) (by omega) (tX12_readItem hm hR hB hA hd hl) (fun r33 n33 P33 X33 Y33 e33 le33 => ?_)
        obtain ⟨h1v, h2v, h3v, hq33⟩ := e33
        subst h1v h2v h3v
        generalize rd_exp (rdItem D d) 59 = E at hq33 k1 k2 hat h45
        rcases hq33 with ⟨hz33, hu33, ht33, hb33, ha33⟩ | ⟨hz33, hu33, hf33⟩
        · subst hz33
          refine r_if_eq (t := 13) (f := 39) dX12_text_36 (by decide) rfl (by first | omega | exact xv_in _ _ _) (fun h36 => ?_) (fun h36 => ?_)
          · exfalso; omega
          · refine r_iinc (pc' := 42) dX12_text_39 rfl rfl (.tail _ (.head _)) (.s1 (.here .nil) rfl rfl rfl) ?_
            refine r_goto (t := 13) dX12_text_42 (by decide) ?_
            first
              | (have hat2 := hat _ ht33
                 exact ih E _ _ ht33 hb33 ha33 (by omega) (ho.trans hu33) k1 k2)
              | (have hf6 := hf33.2
                 have hf7 := hf33.1
                 rw [its_f _ _ _ hf7] at k2
                 have kk := k2 _ it (ho.trans hu33) hf33
                 have hfn : ¬ xv X33 467 6 = -1 := by rw [hf6]; exact hf7
                 clear k1 k2 ih hat
                 refine r_aload_n (i := 0) (pc' := 14) dX12_text_13 rfl rfl (.head _) ?_
                 refine r_getI (pc' := 17) dX12_text_14 rfl fX12_22 rfl (by first | assumption | rfl) (by omega) ?_
                 refine r_iconst (pc' := 18) dX12_text_17 rfl ?_
                 refine r_icmp_ne (t := 45) (f := 21) dX12_text_18 (by decide) rfl (by first | omega | exact xv_in _ _ _) (by first | omega | exact xv_in _ _ _) (fun h18 => ?_) (fun h18 => ?_)
                 · exact kk
                 · exfalso; omega)
        · subst hz33
          refine r_if_eq (t := 13) (f := 39) dX12_text_36 (by decide) rfl (by first | omega | exact xv_in _ _ _) (fun h36 => ?_) (fun h36 => ?_)
          · first
              | (have hat2 := hat _ ht33
                 exact ih E _ _ ht33 hb33 ha33 (by omega) (ho.trans hu33) k1 k2)
              | (have hf6 := hf33.2
                 have hf7 := hf33.1
                 rw [its_f _ _ _ hf7] at k2
                 have kk := k2 _ it (ho.trans hu33) hf33
                 have hfn : ¬ xv X33 467 6 = -1 := by rw [hf6]; exact hf7
                 clear k1 k2 ih hat
                 refine r_aload_n (i := 0) (pc' := 14) dX12_text_13 rfl rfl (.head _) ?_
                 refine r_getI (pc' := 17) dX12_text_14 rfl fX12_22 rfl (by first | assumption | rfl) (by omega) ?_
                 refine r_iconst (pc' := 18) dX12_text_17 rfl ?_
                 refine r_icmp_ne (t := 45) (f := 21) dX12_text_18 (by decide) rfl (by first | omega | exact xv_in _ _ _) (by first | omega | exact xv_in _ _ _) (fun h18 => ?_) (fun h18 => ?_)
                 · exact kk
                 · exfalso; omega)
          · exfalso; omega
