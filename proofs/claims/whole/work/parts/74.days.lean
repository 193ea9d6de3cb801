theorem RB.uz {C X : q_X} {b j : Nat} (h : RB C b (xv X 468)) (hj : j < 7) (v : Int32) : RB (q_up C b j v) b (xv (q_up X 468 j v) 468) := by
  obtain ⟨⟨h1, h2⟩, h3, h4, h5, h6, h7⟩ := h
  have cr : ∀ a, a ≠ b → xv (q_up C b j v) a = xv C a := fun a ha => xv_up_row _ _ _ ha
  have e : ∀ i, 7 ≤ i → xv (q_up X 468 j v) 468 i = xv X 468 i := fun i hi => xv_up_ne _ _ (by omega)
  have h10 : xv (q_up C b j v) b 10 = xv C b 10 := xv_up_ne _ _ (by omega)
  refine ⟨⟨fun i hi => ?_, by rw [e 7 (by omega), h10]; exact h2⟩, fun y hy => by rw [e _ (by omega), e _ (by omega), cr _ (by omega), cr _ (by omega)]; exact h3 y hy, fun i hi => ?_, ?_, ?_, ?_⟩
  · by_cases q : i = j
    · subst q; simp only [xv, q_up_same]
    · rw [xv_up_ne _ _ (by omega), xv_up_ne _ _ (by omega)]; exact h1 i hi
  · rw [h10] at hi
    have hag : cAg C (q_up C b j v) (con b i) := fun d hd => cr _ (by unfold con; omega)
    refine ⟨fun q hq => ?_, fun y hy => ?_⟩
    · dsimp only; rw [e _ (by omega), hag.z]; exact (h4 i hi).1 q hq
    · dsimp only; rw [e _ (by omega), e _ (by omega), e _ (by omega), e _ (by omega), c_base_ag hag, c_roster_ag hag, c_parts_ag hag, c_given_ag hag]; exact (h4 i hi).2 y hy
  · unfold RM
    rw [cr _ (by omega), cr _ (by omega), cr _ (by omega), cr _ (by omega), cr _ (by omega)]
    refine ⟨by rw [e _ (by omega)]; exact h5.1, fun i hi => ?_⟩
    rw [e _ (by omega), e _ (by omega), e _ (by omega), e _ (by omega)]; exact h5.2 i hi
  · unfold RP
    rw [cr _ (by omega), cr _ (by omega), cr _ (by omega), cr _ (by omega), cr _ (by omega), cr _ (by omega)]
    refine ⟨by rw [e _ (by omega)]; exact h6.1, fun i hi => ?_⟩
    rw [e _ (by omega), e _ (by omega), e _ (by omega), e _ (by omega), e _ (by omega)]; exact h6.2 i hi
  · unfold RF
    rw [cr _ (by omega), cr _ (by omega)]
    refine ⟨by rw [e _ (by omega)]; exact h7.1, by rw [e _ (by omega), e _ (by omega)]; exact h7.2.1, fun i hi => ?_⟩
    rw [e _ (by omega)]; exact h7.2.2 i hi
theorem RB.fp {C C' : q_X} {b : Nat} {R R' : Nat → Int} (h : RB C b R) (hO : bOk C b) (hT : xv C (b + 15) 0 ≤ 80) (hC : ∀ a, (a < b + 4 ∨ b + 9 < a) → xv C' a = xv C a) (e : ∀ j, j < 3620 → j ≠ 3571 → R' j = R j) (hp : RP C' b R') : RB C' b R' := by
  obtain ⟨o0, o1, o2, o3, o4, o5, o6, o10, oc, op0, opz, opi, om0, omi, olim⟩ := id hO
  obtain ⟨⟨h1, h2⟩, h3, h4, h5, h6, h7⟩ := h
  have z0 : xv C' b = xv C b := hC b (by omega)
  refine ⟨⟨fun i hi => by rw [e _ (by omega) (by omega), z0]; exact h1 i hi, by rw [e 7 (by omega) (by omega), z0]; exact h2⟩, fun y hy => by rw [e _ (by omega) (by omega), e _ (by omega) (by omega), hC _ (by omega), hC _ (by omega)]; exact h3 y hy, fun i hi => ?_, ?_, hp, ?_⟩
  · rw [z0] at hi
    have hag : cAg C C' (con b i) := fun d hd => hC _ (by unfold con; omega)
    refine ⟨fun q hq => ?_, fun y hy => ?_⟩
    · dsimp only; rw [e _ (by omega) (by omega), hag.z]; exact (h4 i hi).1 q hq
    · dsimp only; rw [e _ (by omega) (by omega), e _ (by omega) (by omega), e _ (by omega) (by omega), e _ (by omega) (by omega), c_base_ag hag, c_roster_ag hag, c_parts_ag hag, c_given_ag hag]; exact (h4 i hi).2 y hy
  · unfold RM
    rw [hC (b + 10) (by omega), hC (b + 11) (by omega), hC (b + 12) (by omega), hC (b + 13) (by omega), hC (b + 14) (by omega)]
    refine ⟨by rw [e _ (by omega) (by omega)]; exact h5.1, fun i hi => ?_⟩
    rw [e _ (by omega) (by omega), e _ (by omega) (by omega), e _ (by omega) (by omega), e _ (by omega) (by omega)]; exact h5.2 i hi
  · unfold RF
    rw [hC (b + 15) (by omega), hC (b + 16) (by omega)]
    refine ⟨by rw [e _ (by omega) (by omega)]; exact h7.1, by rw [e _ (by omega) (by omega), e _ (by omega) (by omega)]; exact h7.2.1, fun i hi => ?_⟩
    rw [e _ (by omega) (by omega)]; exact h7.2.2 i hi
theorem RB.ue {C X : q_X} {b i : Nat} (h : RB C b (xv X 468)) (hO : bOk C b) (hT : xv C (b + 15) 0 ≤ 80) (v : Int32) : RB (q_up C (b + 9) i v) b (xv (q_up X 468 (3620 + 5 * i + 4) v) 468) := by
  refine h.fp hO hT (fun a ha => xv_up_row _ _ _ (by omega)) (fun j h1 _ => xv_up_ne _ _ (by omega)) ?_
  obtain ⟨p0, p1⟩ := h.2.2.2.2.1
  unfold RP
  rw [xv_up_row C (a := b + 4) _ _ (by omega), xv_up_row C (a := b + 5) _ _ (by omega), xv_up_row C (a := b + 6) _ _ (by omega), xv_up_row C (a := b + 7) _ _ (by omega), xv_up_row C (a := b + 8) _ _ (by omega)]
  refine ⟨by rw [xv_up_ne _ _ (by omega)]; exact p0, fun q hq => ?_⟩
  obtain ⟨q0, q1, q2, q3, q4⟩ := p1 q hq
  refine ⟨by rw [xv_up_ne _ _ (by omega)]; exact q0, by rw [xv_up_ne _ _ (by omega)]; exact q1, by rw [xv_up_ne _ _ (by omega)]; exact q2, by rw [xv_up_ne _ _ (by omega)]; exact q3, ?_⟩
  by_cases w : q = i
  · subst w; simp only [xv, q_up_same]
  · rw [xv_up_ne _ _ (by omega), xv_up_ne _ _ (by omega)]; exact q4
theorem RB.add {C X : q_X} {b m : Nat} (h : RB C b (xv X 468)) (hO : bOk C b) (hT : xv C (b + 15) 0 ≤ 80) (hm : xv C (b + 4) 0 = (m : Int)) (h24 : m < 24) (k y a l : Int) : RB (pr_add C (b + 4) k y a l) b (xv (q_up (q_up (q_up (q_up (q_up (q_up X 468 (3620 + 5 * m) (zi k)) 468 (3620 + 5 * m + 1) (zi y)) 468 (3620 + 5 * m + 2) (zi a)) 468 (3620 + 5 * m + 3) (zi l)) 468 (3620 + 5 * m + 4) (zi 0)) 468 3571 (zi ((m : Int) + 1))) 468) := by
  unfold pr_add
  rw [hm, Int.toNat_natCast]
  refine h.fp hO hT (fun a ha => by simp (disch := omega) only [xv_up_row]) (fun j h1 h2 => by simp (disch := omega) only [xv_up_ne]) ?_
  obtain ⟨p0, p1⟩ := h.2.2.2.2.1
  unfold RP
  refine ⟨by simp only [xv, q_up_same], fun q hq => ?_⟩
  rw [xv_up_same _ _ _ (by omega)] at hq
  by_cases w : q = m
  · subst w
    refine ⟨?_, ?_, ?_, ?_, ?_⟩ <;> (simp (disch := omega) only [xv_up_ne]; simp only [xv, q_up_same])
  · obtain ⟨q0, q1, q2, q3, q4⟩ := p1 q (by omega)
    refine ⟨?_, ?_, ?_, ?_, ?_⟩ <;> (simp (disch := omega) only [xv_up_ne]; assumption)
