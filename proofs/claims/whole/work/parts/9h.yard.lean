/-! the yard, there and here -/
abbrev opc (c : Int) : Prop := c = 40 ∨ c = 42 ∨ c = 43 ∨ c = 45
def yR (D X : q_X) (f : Nat) : Prop := (0 ≤ xv D f 0 ∧ xv D f 0 ≤ 80 ∧ 0 ≤ xv D f 3 ∧ xv D f 3 ≤ 21) ∧ xv X 467 10 = xv D f 0 ∧ xv X 467 11 = xv D f 3 ∧ (∀ i : Nat, (i : Int) < xv D f 0 → tk (xv D (f + 1) i) (xv X 471 i)) ∧ ∀ i : Nat, (i : Int) < xv D f 3 → xv X 472 i = xv D (f + 2) i ∧ opc (xv D (f + 2) i)
/-- codes, waiting, newCode alone are changed -/
def yO (X X' : q_X) : Prop := ∀ a j, a ≠ 471 → ¬ (a = 467 ∧ (j = 10 ∨ j = 11)) → X' a j = X a j
theorem yO.rfl {X : q_X} : yO X X := fun _ _ _ _ => Eq.refl _
theorem yO.trans {X X' X2 : q_X} (h : yO X X') (h2 : yO X' X2) : yO X X2 := fun a j a1 a2 => (h2 a j a1 a2).trans (h a j a1 a2)
theorem tk_in {t c : Int} (h : tk t c) : q_in t ∧ q_in c := by unfold tk at h; omega
theorem yR.em {D X : q_X} {f : Nat} {t c : Int} (h : yR D X f) (hf : f + 2 ≤ 441) (h80 : xv D f 0 < 80) (hk : tk t c) : yR (fEm D f t) (q_up (q_up X 471 (xv D f 0).toNat (zi c)) 467 10 (zi (xv D f 0 + 1))) f := by
  obtain ⟨h0, h1, h2, h3, h4⟩ := h
  have hb := tk_in hk
  have e0 : xv (fEm D f t) f 0 = xv D f 0 + 1 := by unfold fEm; rw [if_pos (by omega), xv_up_same _ _ _ (by omega)]
  have e3 : xv (fEm D f t) f 3 = xv D f 3 := fEm_3
  have e2 : xv (fEm D f t) (f + 2) = xv D (f + 2) := fEm_o (by omega)
  have e1 : ∀ i, xv (fEm D f t) (f + 1) i = if i = (xv D f 0).toNat then t else xv D (f + 1) i := fun i => by
    unfold fEm; rw [if_pos (by omega), xv_up_ne _ _ (by omega)]
    by_cases e : i = (xv D f 0).toNat
    · subst e; rw [xv_up_same _ _ _ hb.1, if_pos rfl]
    · rw [xv_up_ne _ _ (by omega), if_neg e]
  refine ⟨by rw [e0, e3]; omega, by rw [e0, xv_up_same _ _ _ (by omega)], by rw [e3, xv_up_ne _ _ (by omega), xv_up_ne _ _ (by omega)]; exact h2, fun i hi => ?_, fun i hi => ?_⟩
  · rw [e0] at hi
    rw [e1, xv_up_ne _ _ (by omega)]
    by_cases e : i = (xv D f 0).toNat
    · subst e; rw [if_pos rfl, xv_up_same _ _ _ hb.2]; exact hk
    · rw [if_neg e, xv_up_ne _ _ (by omega)]; exact h3 i (by omega)
  · rw [e3] at hi
    rw [e2, xv_up_ne _ _ (by omega), xv_up_ne _ _ (by omega)]; exact h4 i hi
theorem yR.pop {D X : q_X} {f w : Nat} (h : yR D X f) (hw : (w : Int) ≤ xv D f 3) : yR (q_up D f 3 (zi (w : Int))) (q_up X 467 11 (zi (w : Int))) f := by
  obtain ⟨h0, h1, h2, h3, h4⟩ := h
  have e0 : xv (q_up D f 3 (zi (w : Int))) f 0 = xv D f 0 := xv_up_ne _ _ (by omega)
  have e3 : xv (q_up D f 3 (zi (w : Int))) f 3 = (w : Int) := xv_up_same _ _ _ (by omega)
  refine ⟨by rw [e0, e3]; omega, by rw [e0, xv_up_ne _ _ (by omega)]; exact h1, by rw [e3, xv_up_same _ _ _ (by omega)], fun i hi => ?_, fun i hi => ?_⟩
  · rw [e0] at hi
    rw [xv_up_row _ _ _ (by omega), xv_up_row _ _ _ (by omega)]; exact h3 i hi
  · rw [e3] at hi
    rw [xv_up_row _ _ _ (by omega), xv_up_row _ _ _ (by omega)]; exact h4 i (by omega)
theorem q_up_c2 (X : q_X) {a j c q : Nat} (u v : Int32) (h : ¬ (a = c ∧ j = q)) : q_up (q_up X a j u) c q v = q_up (q_up X c q v) a j u := by
  funext x y
  unfold q_up
  by_cases h1 : x = c ∧ y = q
  · rw [if_pos h1, if_neg (by omega), if_pos h1]
  · rw [if_neg h1]
    by_cases h2 : x = a ∧ y = j
    · rw [if_pos h2, if_pos h2]
    · rw [if_neg h2, if_neg h2, if_neg h1]
theorem rk_str {c : Int} (h : opc c) : (if c = 42 then (2 : Int) else if c = 43 ∨ c = 45 then 1 else 0) = fstr c := by
  unfold fstr; rcases h with e | e | e | e <;> subst e <;> rfl
theorem tk_op {c : Int} (h : opc c) (h1 : ¬ c = 40) : tk (-c) (2000000 + c) := by unfold tk; omega
set_option maxHeartbeats 4000000 in
set_option maxRecDepth 100000 in
theorem tX12_nameOf {l : Launch} {g : q_G} {n : Nat} {P : q_P} {X : q_X} {Y : q_Y} {c : Int} (hc : q_in c) : q_Met l g mX12_nameOf 0 [.int (zi c)] n P X Y (q_pv (.int (zi (f_plc c))) n P X Y) := by
  skip
  refine q_enter (L := [(0, .int (zi c))]) (by decide) (Nat.le_of_ble_eq_true rfl) rfl ?_
  refine r_iload_n (i := 0) (pc' := 1) dX12_nameOf_0 rfl rfl (.head _) ?_
  refine r_bipush (pc' := 3) dX12_nameOf_1 rfl (by decide) ?_
  refine r_icmp_ne (t := 10) (f := 6) dX12_nameOf_3 (by decide) rfl (by first | omega | exact xv_in _ _ _) (by first | omega | exact xv_in _ _ _) (fun h3 => ?_) (fun h3 => ?_)
  · refine r_iload_n (i := 0) (pc' := 11) dX12_nameOf_10 rfl rfl (.head _) ?_
    refine r_bipush (pc' := 13) dX12_nameOf_11 rfl (by decide) ?_
    refine r_icmp_ne (t := 20) (f := 16) dX12_nameOf_13 (by decide) rfl (by first | omega | exact xv_in _ _ _) (by first | omega | exact xv_in _ _ _) (fun h13 => ?_) (fun h13 => ?_)
    · refine r_iload_n (i := 0) (pc' := 21) dX12_nameOf_20 rfl rfl (.head _) ?_
      refine r_bipush (pc' := 23) dX12_nameOf_21 rfl (by decide) ?_
      refine r_icmp_ne (t := 30) (f := 26) dX12_nameOf_23 (by decide) rfl (by first | omega | exact xv_in _ _ _) (by first | omega | exact xv_in _ _ _) (fun h23 => ?_) (fun h23 => ?_)
      · refine r_iload_n (i := 0) (pc' := 31) dX12_nameOf_30 rfl rfl (.head _) ?_
        refine r_bipush (pc' := 33) dX12_nameOf_31 rfl (by decide) ?_
        refine r_icmp_ne (t := 40) (f := 36) dX12_nameOf_33 (by decide) rfl (by first | omega | exact xv_in _ _ _) (by first | omega | exact xv_in _ _ _) (fun h33 => ?_) (fun h33 => ?_)
        · refine r_iload_n (i := 0) (pc' := 41) dX12_nameOf_40 rfl rfl (.head _) ?_
          refine r_bipush (pc' := 43) dX12_nameOf_41 rfl (by decide) ?_
          refine r_icmp_ne (t := 50) (f := 46) dX12_nameOf_43 (by decide) rfl (by first | omega | exact xv_in _ _ _) (by first | omega | exact xv_in _ _ _) (fun h43 => ?_) (fun h43 => ?_)
          · refine r_iload_n (i := 0) (pc' := 51) dX12_nameOf_50 rfl rfl (.head _) ?_
            refine r_bipush (pc' := 53) dX12_nameOf_51 rfl (by decide) ?_
            refine r_icmp_ne (t := 60) (f := 56) dX12_nameOf_53 (by decide) rfl (by first | omega | exact xv_in _ _ _) (by first | omega | exact xv_in _ _ _) (fun h53 => ?_) (fun h53 => ?_)
            · refine r_iconst (pc' := 61) dX12_nameOf_60 rfl ?_
              refine r_ireturn dX12_nameOf_61 rfl ?_
              refine ⟨?_, rfl, rfl, rfl, rfl⟩
              unfold f_plc
              (repeat' split) <;> first | rfl | (exfalso; omega)
            · refine r_iconst (pc' := 57) dX12_nameOf_56 rfl ?_
              refine r_goto (t := 61) dX12_nameOf_57 (by decide) ?_
              refine r_ireturn dX12_nameOf_61 rfl ?_
              refine ⟨?_, rfl, rfl, rfl, rfl⟩
              unfold f_plc
              (repeat' split) <;> first | rfl | (exfalso; omega)
          · refine r_iconst (pc' := 47) dX12_nameOf_46 rfl ?_
            refine r_goto (t := 61) dX12_nameOf_47 (by decide) ?_
            refine r_ireturn dX12_nameOf_61 rfl ?_
            refine ⟨?_, rfl, rfl, rfl, rfl⟩
            unfold f_plc
            (repeat' split) <;> first | rfl | (exfalso; omega)
        · refine r_iconst (pc' := 37) dX12_nameOf_36 rfl ?_
          refine r_goto (t := 61) dX12_nameOf_37 (by decide) ?_
          refine r_ireturn dX12_nameOf_61 rfl ?_
          refine ⟨?_, rfl, rfl, rfl, rfl⟩
          unfold f_plc
          (repeat' split) <;> first | rfl | (exfalso; omega)
      · refine r_iconst (pc' := 27) dX12_nameOf_26 rfl ?_
        refine r_goto (t := 61) dX12_nameOf_27 (by decide) ?_
        refine r_ireturn dX12_nameOf_61 rfl ?_
        refine ⟨?_, rfl, rfl, rfl, rfl⟩
        unfold f_plc
        (repeat' split) <;> first | rfl | (exfalso; omega)
    · refine r_iconst (pc' := 17) dX12_nameOf_16 rfl ?_
      refine r_goto (t := 61) dX12_nameOf_17 (by decide) ?_
      refine r_ireturn dX12_nameOf_61 rfl ?_
      refine ⟨?_, rfl, rfl, rfl, rfl⟩
      unfold f_plc
      (repeat' split) <;> first | rfl | (exfalso; omega)
  · refine r_iconst (pc' := 7) dX12_nameOf_6 rfl ?_
    refine r_goto (t := 61) dX12_nameOf_7 (by decide) ?_
    refine r_ireturn dX12_nameOf_61 rfl ?_
    refine ⟨?_, rfl, rfl, rfl, rfl⟩
    unfold f_plc
    (repeat' split) <;> first | rfl | (exfalso; omega)
