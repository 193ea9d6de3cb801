/-! the reference's deeds: a cell here, a cell there -/
theorem RB.fr {C C' : q_X} {b k : Nat} {R R' : Nat → Int} (h : RB C b R) (hO : bOk C b) (hT : xv C (b + 15) 0 ≤ 80) (hk0 : k < 40) (hC : ∀ a, a ≠ b + 2 → a ≠ con b k → xv C' a = xv C a) (hk4 : ∀ j, j < 4 → xv C' (con b k) j = xv C (con b k) j) (hd : ∀ y, y < 20 → R' (30 + y) = xv C' (b + 2) y) (h45 : (k : Int) < xv C b 10 → R' (130 + 86 * k + 4) = xv C' (con b k) 4 ∧ R' (130 + 86 * k + 5) = xv C' (con b k) 5) (e : ∀ j, j < 3740 → (j < 30 ∨ 50 ≤ j) → j ≠ 130 + 86 * k + 4 → j ≠ 130 + 86 * k + 5 → R' j = R j) : RB C' b R' := by
  obtain ⟨o0, o1, o2, o3, o4, o5, o6, o10, oc, op0, opz, opi, om0, omi, olim⟩ := id hO
  obtain ⟨⟨h1, h2⟩, h3, h4, h5, h6, h7⟩ := h
  have cz : ∀ d, d < 20 → d ≠ 2 → xv C' (b + d) = xv C (b + d) := fun d hd q => hC _ (by omega) (by unfold con; omega)
  have z0 : xv C' b = xv C b := cz 0 (by omega) (by omega)
  refine ⟨⟨fun j hj => by rw [e j (by omega) (by omega) (by omega) (by omega), z0]; exact h1 j hj, by rw [e 7 (by omega) (by omega) (by omega) (by omega), z0]; exact h2⟩, fun y hy => ⟨by rw [e (10 + y) (by omega) (by omega) (by omega) (by omega), cz 1 (by omega) (by omega)]; exact (h3 y hy).1, hd y hy⟩, fun i hi => ?_, ?_, ?_, ?_⟩
  · rw [z0] at hi
    by_cases ek : i = k
    · subst ek
      have q0 := hk4 0 (by omega)
      have q1 := hk4 1 (by omega)
      have r1 : xv C' (con b i + 1) = xv C (con b i + 1) := hC _ (by unfold con; omega) (by omega)
      have r2 : xv C' (con b i + 2) = xv C (con b i + 2) := hC _ (by unfold con; omega) (by omega)
      have r3 : xv C' (con b i + 3) = xv C (con b i + 3) := hC _ (by unfold con; omega) (by omega)
      have r4 : xv C' (con b i + 4) = xv C (con b i + 4) := hC _ (by unfold con; omega) (by omega)
      refine ⟨fun j hj => ?_, fun y hy => ?_⟩
      · dsimp only
        by_cases j4 : j = 4
        · subst j4; exact (h45 hi).1
        · by_cases j5 : j = 5
          · subst j5; exact (h45 hi).2
          · rw [e _ (by omega) (by omega) (by omega) (by omega), hk4 j (by omega)]; exact (h4 i hi).1 j hj
      · dsimp only
        rw [e _ (by omega) (by omega) (by omega) (by omega), e _ (by omega) (by omega) (by omega) (by omega), e _ (by omega) (by omega) (by omega) (by omega), e _ (by omega) (by omega) (by omega) (by omega)]
        have := (h4 i hi).2 y hy
        simp only [c_base, c_roster, c_parts, c_given, c_plays, q0, q1, r1, r2, r3, r4] at this ⊢
        exact this
    · have hag : cAg C C' (con b i) := fun d hd => hC _ (by unfold con; omega) (con_ne ek (e := 0) hd (by omega))
      refine ⟨fun j hj => ?_, fun y hy => ?_⟩
      · dsimp only
        rw [e _ (by omega) (by omega) (by omega) (by omega), hag.z]; exact (h4 i hi).1 j hj
      · dsimp only
        rw [e _ (by omega) (by omega) (by omega) (by omega), e _ (by omega) (by omega) (by omega) (by omega), e _ (by omega) (by omega) (by omega) (by omega), e _ (by omega) (by omega) (by omega) (by omega), c_base_ag hag, c_roster_ag hag, c_parts_ag hag, c_given_ag hag]
        exact (h4 i hi).2 y hy
  · unfold RM
    rw [cz 10 (by omega) (by omega), cz 11 (by omega) (by omega), cz 12 (by omega) (by omega), cz 13 (by omega) (by omega), cz 14 (by omega) (by omega)]
    refine ⟨by rw [e _ (by omega) (by omega) (by omega) (by omega)]; exact h5.1, fun i hi => ?_⟩
    rw [e _ (by omega) (by omega) (by omega) (by omega), e _ (by omega) (by omega) (by omega) (by omega), e _ (by omega) (by omega) (by omega) (by omega), e _ (by omega) (by omega) (by omega) (by omega)]; exact h5.2 i hi
  · unfold RP
    rw [cz 4 (by omega) (by omega), cz 5 (by omega) (by omega), cz 6 (by omega) (by omega), cz 7 (by omega) (by omega), cz 8 (by omega) (by omega), cz 9 (by omega) (by omega)]
    refine ⟨by rw [e _ (by omega) (by omega) (by omega) (by omega)]; exact h6.1, fun i hi => ?_⟩
    rw [e _ (by omega) (by omega) (by omega) (by omega), e _ (by omega) (by omega) (by omega) (by omega), e _ (by omega) (by omega) (by omega) (by omega), e _ (by omega) (by omega) (by omega) (by omega), e _ (by omega) (by omega) (by omega) (by omega)]; exact h6.2 i hi
  · unfold RF
    rw [cz 15 (by omega) (by omega), cz 16 (by omega) (by omega)]
    refine ⟨by rw [e _ (by omega) (by omega) (by omega) (by omega)]; exact h7.1, by rw [e _ (by omega) (by omega) (by omega) (by omega), e _ (by omega) (by omega) (by omega) (by omega)]; exact h7.2.1, fun i hi => ?_⟩
    rw [e _ (by omega) (by omega) (by omega) (by omega)]; exact h7.2.2 i hi
theorem RB.cg {C : q_X} {b : Nat} {R R' : Nat → Int} (h : RB C b R) (hO : bOk C b) (hT : xv C (b + 15) 0 ≤ 80) (e : ∀ j, j < 3740 → R' j = R j) : RB C b R' := by
  have o10 := hO.2.2.2.2.2.2.2.1
  exact h.fr hO hT (k := 0) (by omega) (fun _ _ _ => rfl) (fun _ _ => rfl) (fun y hy => by rw [e _ (by omega)]; exact (h.2.1 y hy).2) (fun hk => ⟨by rw [e _ (by omega)]; exact h.f hk (by omega), by rw [e _ (by omega)]; exact h.f hk (by omega)⟩) (fun j hj _ _ _ => e j hj)
theorem RB.ud {C X : q_X} {b y : Nat} (h : RB C b (xv X 468)) (hO : bOk C b) (hT : xv C (b + 15) 0 ≤ 80) (hy : y < 20) (v : Int32) : RB (q_up C (b + 2) y v) b (xv (q_up X 468 (30 + y) v) 468) := by
  refine h.fr hO hT (k := 0) (by omega) (fun a h1 _ => xv_up_row _ _ _ h1) (fun j _ => xv_up_ne _ _ (by unfold con; omega)) (fun z hz => ?_) (fun hk => ⟨?_, ?_⟩) (fun j _ h2 _ _ => xv_up_ne _ _ (by omega))
  · by_cases e : z = y
    · subst e; simp only [xv, q_up_same]
    · rw [xv_up_ne _ _ (by omega), xv_up_ne _ _ (by omega)]; exact (h.2.1 z hz).2
  · rw [xv_up_ne _ _ (by omega), xv_up_ne _ _ (by unfold con; omega)]; exact h.f hk (by omega)
  · rw [xv_up_ne _ _ (by omega), xv_up_ne _ _ (by unfold con; omega)]; exact h.f hk (by omega)
theorem RB.us {C X : q_X} {b k : Nat} (h : RB C b (xv X 468)) (hO : bOk C b) (hT : xv C (b + 15) 0 ≤ 80) (hk0 : k < 40) (u v : Int32) : RB (q_up (q_up C (con b k) 4 u) (con b k) 5 v) b (xv (q_up (q_up X 468 (130 + 86 * k + 4) u) 468 (130 + 86 * k + 5) v) 468) := by
  refine h.fr hO hT (k := k) hk0 (fun a _ h2 => by rw [xv_up_row _ _ _ h2, xv_up_row _ _ _ h2]) (fun j _ => by rw [xv_up_ne _ _ (by omega), xv_up_ne _ _ (by omega)]) (fun z hz => ?_) (fun hk => ⟨?_, ?_⟩) (fun j _ _ h3 h4 => by rw [xv_up_ne _ _ (by omega), xv_up_ne _ _ (by omega)])
  · rw [xv_up_ne _ _ (by omega), xv_up_ne _ _ (by omega), xv_up_ne _ _ (by unfold con; omega), xv_up_ne _ _ (by unfold con; omega)]; exact (h.2.1 z hz).2
  · rw [xv_up_ne _ _ (by omega), xv_up_ne (i := con b k) (j := 5) _ _ (by omega)]; simp only [xv, q_up_same]
  · simp only [xv, q_up_same]
/-- row NOW alone is changed, and what the hits are laid in -/
def rOut (X X' : q_X) : Prop := ∀ a j, a ≠ 475 → a ≠ 476 → a ≠ 477 → ¬ (a = 468 ∧ j < 3740) → X' a j = X a j
theorem rOut.rfl {X : q_X} : rOut X X := fun _ _ _ _ _ _ => Eq.refl _
theorem rOut.trans {X X' X2 : q_X} (h : rOut X X') (h2 : rOut X' X2) : rOut X X2 := fun a j a1 a2 a3 a4 => (h2 a j a1 a2 a3 a4).trans (h a j a1 a2 a3 a4)
theorem rOut.up {X X' : q_X} (h : rOut X X') {j : Nat} {v : Int32} (hj : j < 3740) : rOut X (q_up X' 468 j v) := fun a i a1 a2 a3 a4 => by
  rw [q_up_ne _ _ (by omega)]; exact h a i a1 a2 a3 a4
theorem hOut.r {X X' : q_X} (h : hOut X X') : rOut X X' := fun a j a1 a2 a3 _ => by rw [h a a1 a2 a3]
theorem RB.dd {C X : q_X} {b : Nat} (h : RB C b (xv X 468)) (hO : bOk C b) (hT : xv C (b + 15) 0 ≤ 80) (hD : 0 ≤ xv X 467 1 ∧ xv X 467 1 ≤ 8) : RB C b (xv (dd X 0) 468) := h.cg hO hT (fun j hj => dd_0 hD hj)
