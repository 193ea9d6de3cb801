set_option maxHeartbeats 4000000 in
set_option maxRecDepth 100000 in
theorem fRun_close {f w : Nat} {D : q_X} {th B : Int} (hr : xv D 444 2 = -1) (hc : rd D (xv D 444 1) = 41) (hB : 0 < B) : fRun f (w + 1) (D, th, B, 0) = fRun f w (fClo (rd_skip D) f, th, B - 1, 0) := by
  have hl := rd_lt (X := D) (a := xv D 444 1) (by rw [hc]; omega)
  rw [fRun, if_pos ⟨hr, hl.1⟩]
  unfold fStep
  rw [if_pos rfl, if_pos ⟨hc, hB⟩]
theorem lX12_closes {l : Launch} {g : q_G} {n : Nat} {P : q_P} {Y : q_Y} (hm : isMod n P) {f W0 : Nat} {S0 : fS} {th : Int} (hf : f + 5 ≤ 441) {X0 : q_X} {K : q_K} (kk : ∀ (X' : q_X) (w' : Nat) (D' : q_X) (B' : Int), zO X0 X' → fRun f W0 S0 = fRun f w' (D', th, B', 0) → xv D' 445 1 - xv D' 444 1 ≤ (w' : Int) → fZ (D', th, B', 0) X' f → ¬ (rd D' (xv D' 444 1) = 41 ∧ 0 < B') → K none n P X' Y) : ∀ (b w : Nat) (D X : q_X), fRun f W0 S0 = fRun f w (D, th, (b : Int), 0) → xv D 445 1 - xv D 444 1 ≤ (w : Int) → fZ (D, th, (b : Int), 0) X f → zO X0 X → q_Tr l g mX12_closes 2 K 0 [(0, .ref (g.1 + 467))] [] n P X Y := by
  obtain ⟨m0, m2, m3, m8, m9, m14, m15, m16, m17, m18, m20, m22, m25, hnm9⟩ := id hm
  intro b
  induction b with
  | zero =>
    intro w D X hr hl hz ho
    have hR := hz.1
    have ha := hR.a
    have g13 := hz.2.2.2.1
    simp only at g13
    obtain ⟨c, hc⟩ : ∃ c, rd D (xv D 444 1) = c := ⟨_, rfl⟩
    have hci : q_in c := by rw [← hc]; exact rd_in _ _
    have hh : mRd X (xv X 467 5) = c := hR.h.trans hc
    have kk := kk X w D ((0 : Nat) : Int) ho hr hl hz (by omega)
    refine r_aload_n (i := 0) (pc' := 1) dX12_closes_0 rfl rfl (.head _) ?_
    refine r_V0p (ci := 12) (pc' := 4) dX12_closes_1 rfl lX12_85 rfl (by decide) (Nat.le_of_ble_eq_true rfl) (by first | assumption | rfl) (by omega) (tX12_here hm (by omega) (by omega)) ?_
    rw [hh]
    refine r_bipush (pc' := 6) dX12_closes_4 rfl (by decide) ?_
    refine r_icmp_ne (t := 54) (f := 9) dX12_closes_6 (by decide) rfl (by first | omega | exact xv_in _ _ _) (by first | omega | exact xv_in _ _ _) (fun h6 => ?_) (fun h6 => ?_)
    · refine r_return dX12_closes_54 rfl ?_
      exact kk
    · refine r_aload_n (i := 0) (pc' := 10) dX12_closes_9 rfl rfl (.head _) ?_
      refine r_getI (pc' := 13) dX12_closes_10 rfl fX12_178 rfl (by first | assumption | rfl) (by omega) ?_
      rw [g13]
      refine r_if_le (t := 54) (f := 16) dX12_closes_13 (by decide) rfl (by first | omega | exact xv_in _ _ _) (fun h13 => ?_) (fun h13 => ?_)
      · refine r_return dX12_closes_54 rfl ?_
        exact kk
      · exfalso; omega
  | succ b ih =>
    intro w D X hr hl hz ho
    have hR := hz.1
    have ha := hR.a
    have g13 := hz.2.2.2.1
    simp only at g13
    obtain ⟨c, hc⟩ : ∃ c, rd D (xv D 444 1) = c := ⟨_, rfl⟩
    have hci : q_in c := by rw [← hc]; exact rd_in _ _
    have hh : mRd X (xv X 467 5) = c := hR.h.trans hc
    have hy0 : yR (rd_skip D) X f := hz.2.1.cg (rd_skip_o (by omega)) (rd_skip_o (by omega)) (rd_skip_o (by omega)) rfl rfl rfl rfl
    have hyi := hz.2.2.2.2.c
    simp only at hyi
    have hs0 : xv (rd_skip D) f = xv D f := rd_skip_o (by omega)
    have g80 : xv (rd_skip D) f 0 + xv (rd_skip D) f 3 ≤ 80 := by rw [hs0]; omega
    have kk0 := kk X w D ((b + 1 : Nat) : Int) ho hr hl hz
    rw [hc] at kk0
    refine r_aload_n (i := 0) (pc' := 1) dX12_closes_0 rfl rfl (.head _) ?_
    refine r_V0p (ci := 12) (pc' := 4) dX12_closes_1 rfl lX12_85 rfl (by decide) (Nat.le_of_ble_eq_true rfl) (by first | assumption | rfl) (by omega) (tX12_here hm (by omega) (by omega)) ?_
    rw [hh]
    refine r_bipush (pc' := 6) dX12_closes_4 rfl (by decide) ?_
    refine r_icmp_ne (t := 54) (f := 9) dX12_closes_6 (by decide) rfl (by first | omega | exact xv_in _ _ _) (by first | omega | exact xv_in _ _ _) (fun h6 => ?_) (fun h6 => ?_)
    · refine r_return dX12_closes_54 rfl ?_
      exact kk0 (by omega)
    · refine r_aload_n (i := 0) (pc' := 10) dX12_closes_9 rfl rfl (.head _) ?_
      refine r_getI (pc' := 13) dX12_closes_10 rfl fX12_178 rfl (by first | assumption | rfl) (by omega) ?_
      rw [g13]
      refine r_if_le (t := 54) (f := 16) dX12_closes_13 (by decide) rfl (by first | omega | exact xv_in _ _ _) (fun h13 => ?_) (fun h13 => ?_)
      · exfalso; omega
      · refine r_aload_n (i := 0) (pc' := 17) dX12_closes_16 rfl rfl (.head _) ?_
        refine r_iconst (pc' := 18) dX12_closes_17 rfl ?_
        refine r_V1gv (ci := 12) (pc' := 21) dX12_closes_18 rfl lX12_188 rfl (by decide) (Nat.le_of_ble_eq_true rfl) (by first | assumption | rfl) (by omega) (tX12_doesWaiting hm (by omega) (by omega) hy0 g80) (fun n18 P18 X18 Y18 e18 le18 => ?_)
        obtain ⟨rfl, rfl, rfl, hyo, hyr⟩ := e18
        have g113 := (hyo.j (j := 13) (by omega)).trans g13
        have g15 := hyo.j (j := 5) (by omega)
        obtain ⟨q11, g11⟩ : ∃ q, xv _ 467 11 = q := ⟨_, hyr.2.2.1⟩
        have hcl := hz.close hf (by omega) (by omega) hyo hyr
        rw [g11] at hcl
        have hq11 : 0 ≤ q11 ∧ q11 ≤ 21 := by rw [← g11, hyr.2.2.1]; exact hyr.1.2.2
        refine r_aload_n (i := 0) (pc' := 22) dX12_closes_21 rfl rfl (.head _) ?_
        refine r_dup (pc' := 23) dX12_closes_22 rfl rfl ?_
        refine r_getI (pc' := 26) dX12_closes_23 rfl fX12_165 rfl (by first | assumption | rfl) (by omega) ?_
        rw [g11]
        refine r_iconst (pc' := 27) dX12_closes_26 rfl ?_
        refine r_isub (pc' := 28) dX12_closes_27 rfl ?_
        refine r_putI (pc' := 31) dX12_closes_28 rfl fX12_165 rfl (by first | assumption | rfl) (by omega) rfl rfl ?_
        refine r_aload_n (i := 0) (pc' := 32) dX12_closes_31 rfl rfl (.head _) ?_
        refine r_dup (pc' := 33) dX12_closes_32 rfl rfl ?_
        refine r_getI (pc' := 36) dX12_closes_33 rfl fX12_178 rfl (by first | assumption | rfl) (by omega) ?_
        rw [xv_up_ne _ _ (by omega), g113]
        refine r_iconst (pc' := 37) dX12_closes_36 rfl ?_
        refine r_isub (pc' := 38) dX12_closes_37 rfl ?_
        refine r_putI (pc' := 41) dX12_closes_38 rfl fX12_178 rfl (by first | assumption | rfl) (by omega) rfl rfl ?_
        refine r_aload_n (i := 0) (pc' := 42) dX12_closes_41 rfl rfl (.head _) ?_
        refine r_dup (pc' := 43) dX12_closes_42 rfl rfl ?_
        refine r_getI (pc' := 46) dX12_closes_43 rfl fX12_82 rfl (by first | assumption | rfl) (by omega) ?_
        rw [xv_up_ne _ _ (by omega), xv_up_ne _ _ (by omega), g15]
        refine r_iconst (pc' := 47) dX12_closes_46 rfl ?_
        refine r_iadd (pc' := 48) dX12_closes_47 rfl ?_
        refine r_putI (pc' := 51) dX12_closes_48 rfl fX12_82 rfl (by first | assumption | rfl) (by omega) rfl rfl ?_
        refine r_goto (t := 0) dX12_closes_51 (by decide) ?_
        have hc41 : rd D (xv D 444 1) = 41 := by omega
        have hlt := rd_lt (X := D) (a := xv D 444 1) (by omega)
        obtain ⟨v, rfl⟩ : ∃ v, w = v + 1 := ⟨w - 1, by omega⟩
        rw [fRun_close (D := D) hR.2.1 hc41 (by omega)] at hr
        have eB : ((b + 1 : Nat) : Int) - 1 = (b : Int) := by omega
        rw [eB] at hr hcl
        have t5 := hcl.1.2.2.2.1
        rw [xv_up_same _ _ _ (by omega)] at t5
        have t6 : xv (fClo (rd_skip D) f) 445 = xv D 445 := (fClo_o (by omega)).trans (rd_skip_o (by omega))
        have t7 := hR.2.2.2.1
        simp only at t5 t7
        refine ih v _ _ hr (by rw [t6]; omega) ?_ ?_
        · rw [eB]; exact hcl
        · exact (((ho.trans hyo.z).up (by omega)).up (by omega)).up (by omega)
set_option maxHeartbeats 4000000 in
set_option maxRecDepth 100000 in
theorem tX12_closes {l : Launch} {g : q_G} {n : Nat} {P : q_P} {X : q_X} {Y : q_Y} (hm : isMod n P) {f w : Nat} {D : q_X} {th B : Int} (hf : f + 5 ≤ 441) (hl : xv D 445 1 - xv D 444 1 ≤ (w : Int)) (hz : fZ (D, th, B, 0) X f) : q_Met l g mX12_closes 2 [.ref (g.1 + 467)] n P X Y (q_gv (fun n' P' X' Y' => n' = n ∧ P' = P ∧ Y' = Y ∧ zO X X' ∧ ∃ (w' : Nat) (D' : q_X) (B' : Int), fRun f w (D, th, B, 0) = fRun f w' (D', th, B', 0) ∧ xv D' 445 1 - xv D' 444 1 ≤ (w' : Int) ∧ fZ (D', th, B', 0) X' f ∧ ¬ (rd D' (xv D' 444 1) = 41 ∧ 0 < B'))) := by
  refine q_enter (L := [(0, .ref (g.1 + 467))]) (by decide) (Nat.le_of_ble_eq_true rfl) rfl ?_
  obtain ⟨b, rfl⟩ : ∃ b : Nat, B = (b : Int) := ⟨B.toNat, by obtain ⟨_, _, _, _, _, _, q, _⟩ := hz.2.2.2.2; have := q.1; simp only at this; omega⟩
  exact lX12_closes hm hf (X0 := X) (W0 := w) (S0 := (D, th, (b : Int), 0)) (fun X' w' D' B' a1 a2 a3 a4 a5 => ⟨rfl, rfl, rfl, rfl, a1, w', D', B', a2, a3, a4, a5⟩) b w D X rfl hl hz zO.rfl
