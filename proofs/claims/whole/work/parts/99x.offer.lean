/-! offers are read -/
theorem RB.fm {C C' : q_X} {b : Nat} {R R' : Nat → Int} (h : RB C b R) (hO : bOk C b) (hT : xv C (b + 15) 0 ≤ 80) (hC : ∀ q, q < 220 → (q < 10 ∨ 14 < q) → xv C' (b + q) = xv C (b + q)) (e : ∀ j, j < 3740 → j ≠ 3570 → (j < 3572 ∨ 3620 ≤ j) → R' j = R j) (hm : RM C' b R') : RB C' b R' := by
  obtain ⟨o0, o1, o2, o3, o4, o5, o6, o10, oc, op0, opz, opi, om0, omi, olim⟩ := id hO
  obtain ⟨⟨h1, h2⟩, h3, h4, h5, h6, h7⟩ := h
  have z0 : xv C' b = xv C b := hC 0 (by omega) (by omega)
  refine ⟨⟨fun i hi => by rw [e _ (by omega) (by omega) (by omega), z0]; exact h1 i hi, by rw [e 7 (by omega) (by omega) (by omega), z0]; exact h2⟩, fun y hy => by rw [e _ (by omega) (by omega) (by omega), e _ (by omega) (by omega) (by omega), hC 1 (by omega) (by omega), hC 2 (by omega) (by omega)]; exact h3 y hy, fun i hi => ?_, hm, ?_, ?_⟩
  · rw [z0] at hi
    have hag : cAg C C' (con b i) := fun d hd => by
      unfold con
      rw [show b + 20 + 5 * i + d = b + (20 + 5 * i + d) by omega]
      exact hC (20 + 5 * i + d) (by omega) (by omega)
    refine ⟨fun q hq => ?_, fun y hy => ?_⟩
    · dsimp only; rw [e _ (by omega) (by omega) (by omega), hag.z]; exact (h4 i hi).1 q hq
    · dsimp only; rw [e _ (by omega) (by omega) (by omega), e _ (by omega) (by omega) (by omega), e _ (by omega) (by omega) (by omega), e _ (by omega) (by omega) (by omega), c_base_ag hag, c_roster_ag hag, c_parts_ag hag, c_given_ag hag]; exact (h4 i hi).2 y hy
  · unfold RP
    rw [hC 4 (by omega) (by omega), hC 5 (by omega) (by omega), hC 6 (by omega) (by omega), hC 7 (by omega) (by omega), hC 8 (by omega) (by omega), hC 9 (by omega) (by omega)]
    refine ⟨by rw [e _ (by omega) (by omega) (by omega)]; exact h6.1, fun i hi => ?_⟩
    rw [e _ (by omega) (by omega) (by omega), e _ (by omega) (by omega) (by omega), e _ (by omega) (by omega) (by omega), e _ (by omega) (by omega) (by omega), e _ (by omega) (by omega) (by omega)]; exact h6.2 i hi
  · unfold RF
    rw [hC 15 (by omega) (by omega), hC 16 (by omega) (by omega)]
    refine ⟨by rw [e _ (by omega) (by omega) (by omega)]; exact h7.1, by rw [e _ (by omega) (by omega) (by omega), e _ (by omega) (by omega) (by omega)]; exact h7.2.1, fun i hi => ?_⟩
    rw [e _ (by omega) (by omega) (by omega)]; exact h7.2.2 i hi
theorem bA_fm {C C' : q_X} {b : Nat} (hA : bA C b) (hC : ∀ q, q < 220 → (q < 10 ∨ 14 < q) → xv C' (b + q) = xv C (b + q)) (h0 : 0 ≤ xv C' (b + 10) 0 ∧ xv C' (b + 10) 0 ≤ 12) (hm : ∀ i : Nat, (i : Int) < xv C' (b + 10) 0 → 1 ≤ xv C' (b + 11) i ∧ xv C' (b + 11) i ≤ 9999 ∧ 1 ≤ xv C' (b + 12) i ∧ xv C' (b + 12) i ≤ 6 ∧ 0 ≤ xv C' (b + 13) i ∧ xv C' (b + 13) i ≤ 99999 ∧ 0 ≤ xv C' (b + 14) i ∧ xv C' (b + 14) i ≤ 99999) : bA C' b := by
  obtain ⟨hO, hL, hF⟩ := hA
  obtain ⟨o0, o1, o2, o3, o4, o5, o6, o10, oc, op0, opz, opi, om0, omi, olim⟩ := id hO
  have z0 : xv C' b = xv C b := hC 0 (by omega) (by omega)
  have hcon : ∀ k : Nat, (k : Int) < xv C b 10 → ∀ d, d ≤ 4 → xv C' (con b k + d) = xv C (con b k + d) := fun k hk d hd => by
    unfold con
    rw [show b + 20 + 5 * k + d = b + (20 + 5 * k + d) by omega]
    exact hC (20 + 5 * k + d) (by omega) (by omega)
  refine ⟨?_, fun k hk hs => ?_, bF_mk hF (hC 15 (by omega) (by omega)) (hC 16 (by omega) (by omega))⟩
  · unfold bOk
    rw [z0, hC 1 (by omega) (by omega), hC 4 (by omega) (by omega), hC 5 (by omega) (by omega), hC 6 (by omega) (by omega), hC 7 (by omega) (by omega), hC 8 (by omega) (by omega), hC 9 (by omega) (by omega)]
    exact ⟨o0, o1, o2, o3, o4, o5, o6, o10, fun k hk => cOk_ag (fun d hd => hcon k hk d hd) (oc k hk), op0, opz, opi, h0, hm, olim⟩
  · rw [z0] at hk ⊢
    have e0 := hcon k hk 0 (by omega)
    rw [Nat.add_zero] at e0
    rw [e0] at hs ⊢
    exact hL k hk hs
theorem mkOne_eq (D : q_X) (o i : Nat) (lp : Int) : mkOne D o i lp = q_up (rd_exp (mk4 (mk3 (mk2 (mk1 D o i) o i) o i) o i lp) 59) o 0 (zi (xv (rd_exp (mk4 (mk3 (mk2 (mk1 D o i) o i) o i) o i lp) 59) o 0 + 1)) := rfl
theorem mkN_f {D : q_X} {lo hi v : Int} {r i : Nat} (hr : r ≠ 444 ∧ r ≠ 445 ∧ r ≠ 446) (hv : q_in v) : (∀ a, a ≠ 444 → a ≠ r → xv (q_up (rdN D lo hi) r i (zi v)) a = xv D a) ∧ (∀ j, xv (q_up (rdN D lo hi) r i (zi v)) r j = if j = i then v else xv D r j) ∧ (∀ X, tR (rdN D lo hi) X → tR (q_up (rdN D lo hi) r i (zi v)) X) ∧ ∀ X, tF (rdN D lo hi) X → tF (q_up (rdN D lo hi) r i (zi v)) X := by
  refine ⟨fun a h1 h2 => by rw [xv_up_row _ _ _ h2, rdN_o h1], fun j => ?_, fun X h => h.cg (xv_up_row _ _ _ (by omega)) (xv_up_row _ _ _ (by omega)) (xv_up_row _ _ _ (by omega)), fun X h => h.up hr.1 _ _⟩
  by_cases e : j = i
  · subst e; rw [if_pos rfl, xv_up_same _ _ _ hv]
  · rw [if_neg e, xv_up_ne _ _ (by omega), rdN_o hr.1]
theorem mkX_f {D : q_X} {lo hi v : Int} {r i : Nat} (hr : r ≠ 444 ∧ r ≠ 445 ∧ r ≠ 446) (hv : q_in v) : (∀ a, a ≠ 444 → a ≠ r → xv (q_up (rd_numX D lo hi) r i (zi v)) a = xv D a) ∧ (∀ j, xv (q_up (rd_numX D lo hi) r i (zi v)) r j = if j = i then v else xv D r j) ∧ (∀ X, tR (rd_numX D lo hi) X → tR (q_up (rd_numX D lo hi) r i (zi v)) X) ∧ ∀ X, tF (rd_numX D lo hi) X → tF (q_up (rd_numX D lo hi) r i (zi v)) X := by
  refine ⟨fun a h1 h2 => by rw [xv_up_row _ _ _ h2, rd_num_o h1], fun j => ?_, fun X h => h.cg (xv_up_row _ _ _ (by omega)) (xv_up_row _ _ _ (by omega)) (xv_up_row _ _ _ (by omega)), fun X h => h.up hr.1 _ _⟩
  by_cases e : j = i
  · subst e; rw [if_pos rfl, xv_up_same _ _ _ hv]
  · rw [if_neg e, xv_up_ne _ _ (by omega), rd_num_o hr.1]
theorem tF.mk4 {D X : q_X} (h : tF D X) {o i : Nat} (ho : o + 4 ≠ 444) (lp : Int) : tF (mk4 D o i lp) X := (h.num _ _).up ho _ _
theorem tF.mk3 {D X : q_X} (h : tF D X) {o i : Nat} (ho : o + 3 ≠ 444) : tF (mk3 D o i) X := (h.N _ _).up ho _ _
