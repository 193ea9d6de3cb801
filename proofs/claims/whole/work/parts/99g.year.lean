/-! a year goes by -/
theorem q_up_cm (X : q_X) {a j c q : Nat} (u v : Int32) (h : a ≠ c) : q_up (q_up X a j u) c q v = q_up (q_up X c q v) a j u := by
  funext x y
  unfold q_up
  by_cases h1 : x = c ∧ y = q
  · rw [if_pos h1, if_neg (by omega), if_pos h1]
  · rw [if_neg h1]
    by_cases h2 : x = a ∧ y = j
    · rw [if_pos h2, if_pos h2]
    · rw [if_neg h2, if_neg h2, if_neg h1]
theorem RB.ul {C X : q_X} {b y : Nat} (h : RB C b (xv X 468)) (hT : xv C (b + 15) 0 ≤ 80) (hy : y < 20) (v : Int32) : RB (q_up C (b + 1) y v) b (xv (q_up X 468 (10 + y) v) 468) := by
  obtain ⟨⟨h1, h2⟩, h3, h4, h5, h6, h7⟩ := h
  have cr : ∀ a, a ≠ b + 1 → xv (q_up C (b + 1) y v) a = xv C a := fun a ha => xv_up_row _ _ _ ha
  have e : ∀ i, (i < 10 ∨ 30 ≤ i) → xv (q_up X 468 (10 + y) v) 468 i = xv X 468 i := fun i hi => xv_up_ne _ _ (by omega)
  refine ⟨⟨fun i hi => by rw [e _ (by omega), cr _ (by omega)]; exact h1 i hi, by rw [e 7 (by omega), cr _ (by omega)]; exact h2⟩, fun z hz => ⟨?_, by rw [e _ (by omega), cr _ (by omega)]; exact (h3 z hz).2⟩, fun i hi => ?_, ?_, ?_, ?_⟩
  · by_cases q : z = y
    · subst q; simp only [xv, q_up_same]
    · rw [xv_up_ne _ _ (by omega), xv_up_ne _ _ (by omega)]; exact (h3 z hz).1
  · rw [cr b (by omega)] at hi
    have hag : cAg C (q_up C (b + 1) y v) (con b i) := fun d hd => cr _ (by unfold con; omega)
    refine ⟨fun q hq => ?_, fun z hz => ?_⟩
    · dsimp only; rw [e _ (by omega), hag.z]; exact (h4 i hi).1 q hq
    · dsimp only; rw [e _ (by omega), e _ (by omega), e _ (by omega), e _ (by omega), c_base_ag hag, c_roster_ag hag, c_parts_ag hag, c_given_ag hag]; exact (h4 i hi).2 z hz
  · unfold RM
    rw [cr _ (by omega), cr _ (by omega), cr _ (by omega), cr _ (by omega), cr _ (by omega)]
    refine ⟨by rw [e _ (by omega)]; exact h5.1, fun i hi => ?_⟩
    rw [e _ (by omega), e _ (by omega), e _ (by omega), e _ (by omega)]; exact h5.2 i hi
  · unfold RP
    rw [cr _ (by omega), cr _ (by omega), cr _ (by omega), cr _ (by omega), cr _ (by omega), cr _ (by omega)]
    refine ⟨by rw [e _ (by omega)]; exact h6.1, fun i hi => ?_⟩
    rw [e _ (by omega), e _ (by omega), e _ (by omega), e _ (by omega), e _ (by omega)]; exact h6.2 i hi
  · unfold RF
    rw [cr _ (by omega), cr _ (by omega)]
    refine ⟨by rw [e _ (by omega)]; exact h7.1, by rw [e _ (by omega), e _ (by omega)]; exact h7.2.1, fun i hi => ?_⟩
    rw [e _ (by omega)]; exact h7.2.2 i hi
theorem q_sum_sub {f h : Nat → Int} : ∀ (k a : Nat), q_sum (fun j => f j - h j) a k = q_sum f a k - q_sum h a k
  | 0, _ => by simp [q_sum]
  | k + 1, a => by rw [q_sum, q_sum, q_sum, q_sum_sub k (a + 1)]; omega
def stl (C : q_X) (b i : Nat) : Int := if xv C (con b (xv C (b + 5) i).toNat) 4 = 0 ∧ xv C (b + 6) i = xv C b 0 then (if xv C (b + 8) i = xv C (b + 9) i then 0 else if xv C (b + 8) i = 0 then - xv C (b + 7) i else xv C (b + 7) i) else 0
def stK (C : q_X) (b k : Nat) : Int := if xv C (con b k) 4 = 0 then pr_of C b k (xv C b 0) 1 0 - pr_of C b k (xv C b 0) 0 1 else 0
theorem stl_eq {C : q_X} {b : Nat} (hO : bOk C b) : q_sum (stK C b) 0 (xv C b 10).toNat = q_sum (stl C b) 0 (xv C (b + 4) 0).toNat := by
  obtain ⟨o0, o1, o2, o3, o4, o5, o6, o10, oc, op0, opz, opi, om0, omi, olim⟩ := id hO
  have e1 : q_sum (stK C b) 0 (xv C b 10).toNat = q_sum (fun k => q_sum (fun i => if k = (xv C (b + 5) i).toNat then stl C b i else 0) 0 (xv C (b + 4) 0).toNat) 0 (xv C b 10).toNat := by
    refine q_sum_congr _ _ (fun k _ hk => ?_)
    unfold stK
    by_cases ho : xv C (con b k) 4 = 0
    · rw [if_pos ho]
      unfold pr_of
      rw [← q_sum_sub]
      refine q_sum_congr _ _ (fun i _ hi => ?_)
      have p1 := opi i (by omega)
      have p2 := opz i (by omega)
      by_cases hc : k = (xv C (b + 5) i).toNat
      · rw [if_pos hc]
        unfold stl
        rw [← hc]
        have hc2 : xv C (b + 5) i = (k : Int) := by omega
        by_cases hy : xv C (b + 6) i = xv C b 0
        · rw [if_pos (c := xv C (con b k) 4 = 0 ∧ xv C (b + 6) i = xv C b 0) ⟨ho, hy⟩]
          rcases p2.1 with l | l <;> rcases p2.2 with e | e
          · rw [if_neg (by omega), if_neg (by omega), if_pos (by omega)]; omega
          · rw [if_neg (by omega), if_pos ⟨hc2, hy, l, Or.inr e⟩, if_neg (by omega), if_pos l]; omega
          · rw [if_pos ⟨hc2, hy, l, Or.inr e⟩, if_neg (by omega), if_neg (by omega), if_neg (by omega)]; omega
          · rw [if_neg (by omega), if_neg (by omega), if_pos (by omega)]; omega
        · rw [if_neg (by omega), if_neg (by omega), if_neg (by omega)]; omega
      · rw [if_neg hc, if_neg (by omega), if_neg (by omega)]; omega
    · rw [if_neg ho, q_sum_0 _ _ (fun i _ hi => by
        by_cases hc : k = (xv C (b + 5) i).toNat
        · rw [if_pos hc]; unfold stl; rw [← hc, if_neg (fun q => ho q.1)]
        · rw [if_neg hc])]
  rw [e1, q_sum_swap (fun k i => if k = (xv C (b + 5) i).toNat then stl C b i else 0)]
  refine q_sum_congr _ _ (fun i _ hi => ?_)
  have p1 := opi i (by omega)
  rw [q_sum_ind _ _ (by omega)]
theorem bk_p1_eq (C : q_X) (b : Nat) (room : Int) : bk_p1 C b room = q_up (q_up (q_up C b 0 (zi (xv C b 0 + 1))) b 1 (zi 0)) (b + 1) (xv C b 0 + 1).toNat (zi (max 0 (min 999999 (nz (xv C (b + 1) (xv C b 0 + 1).toNat + max 0 room + q_sum (stl C b) 0 (xv C (b + 4) 0).toNat))))) := rfl
theorem p1_o {C : q_X} {b a : Nat} {room : Int} (h1 : a ≠ b) (h2 : a ≠ b + 1) : xv (bk_p1 C b room) a = xv C a := by rw [bk_p1, xv_up_row _ _ _ h2, xv_up_row _ _ _ h1, xv_up_row _ _ _ h1]
theorem p1_0 {C : q_X} {b : Nat} {room : Int} (h : q_in (xv C b 0 + 1)) : xv (bk_p1 C b room) b 0 = xv C b 0 + 1 := by rw [bk_p1, xv_up_ne _ _ (by omega), xv_up_ne _ _ (by omega), xv_up_same _ _ _ h]
theorem p1_z {C : q_X} {b j : Nat} {room : Int} (hj : 2 ≤ j) : xv (bk_p1 C b room) b j = xv C b j := by rw [bk_p1, xv_up_ne _ _ (by omega), xv_up_ne _ _ (by omega), xv_up_ne _ _ (by omega)]
theorem bOk_p1 {C : q_X} {b : Nat} (hO : bOk C b) (room : Int) (h : xv C b 0 < 19) : bOk (bk_p1 C b room) b := by
  obtain ⟨o0, o1, o2, o3, o4, o5, o6, o10, oc, op0, opz, opi, om0, omi, olim⟩ := id hO
  have e1 := fun a h1 h2 => p1_o (C := C) (b := b) (a := a) (room := room) h1 h2
  have e0 := p1_0 (C := C) (b := b) (room := room) (by omega)
  have ed : xv (bk_p1 C b room) b 1 = 0 := by rw [bk_p1, xv_up_ne _ _ (by omega), xv_up_same _ _ _ (by omega)]
  have ez := fun j hj => p1_z (C := C) (b := b) (room := room) (j := j) hj
  have el : ∀ j, j < 20 → 0 ≤ xv (bk_p1 C b room) (b + 1) j ∧ xv (bk_p1 C b room) (b + 1) j ≤ 999999 := fun j hj => by
    by_cases e : j = (xv C b 0 + 1).toNat
    · rw [bk_p1, e, xv_up_same _ _ _ (by omega)]; omega
    · rw [bk_p1, xv_up_ne _ _ (by omega), xv_up_row _ _ _ (by omega), xv_up_row _ _ _ (by omega)]; exact olim j hj
  unfold bOk
  rw [e0, ed, ez 2 (by omega), ez 3 (by omega), ez 4 (by omega), ez 5 (by omega), ez 6 (by omega), ez 10 (by omega), e1 (b + 4) (by omega) (by omega), e1 (b + 5) (by omega) (by omega), e1 (b + 6) (by omega) (by omega), e1 (b + 7) (by omega) (by omega), e1 (b + 8) (by omega) (by omega), e1 (b + 9) (by omega) (by omega), e1 (b + 10) (by omega) (by omega), e1 (b + 11) (by omega) (by omega), e1 (b + 12) (by omega) (by omega), e1 (b + 13) (by omega) (by omega), e1 (b + 14) (by omega) (by omega)]
  exact ⟨by omega, by omega, o2, o3, o4, o5, o6, o10, fun k hk => cOk_ag (fun d hd => e1 _ (by unfold con; omega) (by unfold con; omega)) (oc k hk), op0, opz, opi, om0, omi, el⟩
theorem bOk_pst {X : q_X} {b i : Nat} (hO : bOk X b) (hi : i < 40) : bOk (py_step X b i) b := by
  by_cases hp : p_over X b i
  · have o10 := hO.2.2.2.2.2.2.2.1
    have hst : ∀ j, xv (py_step X b i) (con b i) j = if j = 4 then 2 else if j = 5 then xv X b 0 else xv X (con b i) j := fun j => by
      unfold py_step
      rw [if_pos hp, xv_up_row _ _ _ (by unfold con; omega)]
      by_cases e5 : j = 5
      · subst e5; rw [xv_up_same _ _ _ (xv_in _ _ _), if_neg (by omega), if_pos rfl]
      · rw [xv_up_ne _ _ (by omega)]
        by_cases e4 : j = 4
        · subst e4; rw [xv_up_same _ _ _ (by omega), if_pos rfl]
        · rw [xv_up_ne _ _ (by omega), if_neg e4, if_neg e5]
    refine bOk_mk hO (fun d hd h2 => py_step_o _ _ _ (by unfold con; omega) (by omega)) (fun k hk => ?_)
    by_cases e : k = i
    · subst e
      refine cOk_state (hO.c hk) (fun j hj => ?_) (fun d d1 d2 => py_step_o _ _ _ (by omega) (by unfold con; omega)) ?_ ?_
      · rw [hst, if_neg (by omega), if_neg (by omega)]
      · rw [hst, if_pos rfl]; omega
      · rw [hst, if_neg (by omega), if_pos rfl]; exact hO.1
    · exact cOk_ag (fun d hd => py_step_o _ _ _ (con_ne e (e := 0) hd (by omega)) (by unfold con; omega)) (hO.c hk)
  · unfold py_step; rw [if_neg hp]; exact hO
theorem bOk_py {X : q_X} {b : Nat} (hO : bOk X b) : ∀ m, m ≤ 40 → bOk (py X b m) b
  | 0, _ => hO
  | m + 1, hm => by rw [py]; exact bOk_pst (bOk_py hO m (by omega)) (by omega)
theorem RB.pst {C X : q_X} {b k : Nat} {v : Int} (h : RB C b (xv X 468)) (hO : bOk C b) (hT : xv C (b + 15) 0 ≤ 80) (hk0 : k < 40) (hp : p_over C b k) (hv : v = xv C (b + 2) (xv C b 0).toNat + c_from C (con b k) (xv C b 0)) : RB (py_step C b k) b (xv (q_up (q_up (q_up X 468 (30 + (xv C b 0).toNat) (zi v)) 468 (130 + 86 * k + 4) (zi 2)) 468 (130 + 86 * k + 5) (zi (xv C b 0))) 468) := by
  have o0 := hO.1
  have h2 := h.ud hO hT (y := (xv C b 0).toNat) (by omega) (zi v)
  have h3 := h2.us (bOk_ag (bAg_up _ _ _ _) hO) (by rw [xv_up_row _ _ _ (by omega)]; exact hT) hk0 (zi 2) (zi (xv C b 0))
  have e : py_step C b k = q_up (q_up (q_up C (b + 2) (xv C b 0).toNat (zi v)) (con b k) 4 (zi 2)) (con b k) 5 (zi (xv C b 0)) := by
    unfold py_step
    rw [if_pos hp, ← hv, q_up_cm (a := con b k) (j := 5) (c := b + 2) _ _ _ (by unfold con; omega), q_up_cm (a := con b k) (j := 4) (c := b + 2) _ _ _ (by unfold con; omega)]
  rw [e]; exact h3
