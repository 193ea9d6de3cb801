theorem bLv_mk {X X' : q_X} {b : Nat} (h : bLv X b) (h0 : xv X' b 0 = xv X b 0) (h10 : xv X' b 10 = xv X b 10) (hc : ∀ k : Nat, (k : Int) < xv X b 10 → xv X' (con b k) 4 = 0 → xv X (con b k) 4 = 0 ∧ xv X (con b k) 0 + xv X (con b k) 1 ≤ xv X' (con b k) 0 + xv X' (con b k) 1) : bLv X' b := fun k hk hs => by
  rw [h10] at hk
  obtain ⟨h1, h2⟩ := hc k hk hs
  have := h k hk h1
  rw [h0]; omega
theorem bF_mk {X X' : q_X} {b : Nat} (h : bF X b) (h1 : xv X' (b + 15) = xv X (b + 15)) (h2 : xv X' (b + 16) = xv X (b + 16)) : bF X' b := by
  unfold bF at h ⊢; rw [h1, h2]; exact h
theorem bS.a {X X' : q_X} {b : Nat} (h : bS X X' b) (hA : bA X b) : bA X' b := by
  have h10 := hA.1.2.2.2.2.2.2.2.1
  refine ⟨bOk_ag h.ag hA.1, bLv_mk hA.2.1 (by rw [h.v0]) (by rw [h.v0]) (fun k hk hs => ?_), h.f hA.2.2⟩
  have e := (h.ag.c (k := k) (by omega)).z
  rw [e] at hs ⊢
  exact ⟨hs, Int.le_refl _⟩
theorem bA_rel {X : q_X} {b : Nat} {k : Int} (t : Int) (hA : bA X b) (h : bk_ref X b k = 0) : bA (bk_rel X b k t) b := by
  have o10 := hA.1.2.2.2.2.2.2.2.1
  have hh := bk_ref_has h
  refine ⟨bOk_rel t hA.1 h, bLv_mk hA.2.1 (by rw [bk_rel_o (by omega) (by unfold con; omega)]) (by rw [bk_rel_o (by omega) (by unfold con; omega)]) (fun i hi hs => ?_), hA.2.2.rel⟩
  by_cases e : i = k.toNat
  · subst e
    rw [bk_rel_c h hA.1, if_pos rfl] at hs; omega
  · rw [bk_rel_o (by unfold con; omega) (by unfold con; omega)] at hs ⊢
    exact ⟨hs, Int.le_refl _⟩
theorem bA_low {X : q_X} {b : Nat} {k x : Int} (hA : bA X b) (h : bk_pref X b k x = 0) : bA (bk_low X b k x) b := by
  refine ⟨bOk_low hA.1 h, bLv_mk hA.2.1 (by rw [bk_low_o (by unfold con; omega)]) (by rw [bk_low_o (by unfold con; omega)]) (fun i hi hs => ?_), bF_mk hA.2.2 (bk_low_o (by unfold con; omega)) (bk_low_o (by unfold con; omega))⟩
  rw [bk_low_o (by unfold con; omega)] at hs ⊢
  exact ⟨hs, Int.le_refl _⟩
theorem bA_turn {X : q_X} {b : Nat} {k x : Int} (hA : bA X b) (h : bk_pref X b k x = 0) : bA (bk_turn X b k x) b := by
  refine ⟨bOk_turn hA.1 h, bLv_mk hA.2.1 (by rw [bk_turn_o (by unfold con; omega)]) (by rw [bk_turn_o (by unfold con; omega)]) (fun i hi hs => ?_), bF_mk hA.2.2 (bk_turn_o (by unfold con; omega)) (bk_turn_o (by unfold con; omega))⟩
  rw [bk_turn_o (by unfold con; omega)] at hs ⊢
  exact ⟨hs, Int.le_refl _⟩
theorem bA_long {X : q_X} {b : Nat} {k m ba bo : Int} (hA : bA X b) (h : bk_lref X b k m ba bo = 0) : bA (bk_long X b k m ba bo) b := by
  obtain ⟨h0, m1, m2, a1, a2, z1, z2, l1, l2, l3⟩ := bk_lref_ref h
  have hh := bk_ref_has h0
  have hck := hA.1.c (k := k.toNat) (by omega)
  have hec := bk_ext_c (X := X) (c := con b k.toNat) (m := m.toNat) (base := ba) (by omega) (by have := hck.2.1; omega)
  have ho : ∀ i, i ≠ con b k.toNat ∧ i ≠ con b k.toNat + 1 ∧ i ≠ con b k.toNat + 2 ∧ i ≠ con b k.toNat + 3 ∧ i ≠ con b k.toNat + 4 → xv (bk_long X b k m ba bo) i = xv X i := fun i hi => by
    rw [bk_long, c_spread_o _ _ _ _ (by omega), bk_ext_o (by omega)]
  have hf : xv (bk_long X b k m ba bo) (con b k.toNat) = xv (bk_ext X (con b k.toNat) m.toNat ba) (con b k.toNat) := by rw [bk_long, c_spread_o _ _ _ _ (by omega)]
  refine ⟨bOk_long hA.1 hA.2.1 h, bLv_mk hA.2.1 (by rw [ho _ (by unfold con; omega)]) (by rw [ho _ (by unfold con; omega)]) (fun i hi hs => ?_), bF_mk hA.2.2 (ho _ (by unfold con; omega)) (ho _ (by unfold con; omega))⟩
  by_cases e : i = k.toNat
  · subst e
    rw [hf, hec, if_neg (by omega)] at hs
    rw [hf, hec, hec, if_neg (by omega), if_pos rfl]
    exact ⟨hs, by omega⟩
  · rw [ho _ (by unfold con; omega)] at hs ⊢
    exact ⟨hs, Int.le_refl _⟩
theorem bA_days {X : q_X} {b : Nat} {m : Int} (hA : bA X b) (h : 1 ≤ m ∧ m ≤ 364 - xv X b 1) : bA (q_up X b 1 (zi (xv X b 1 + m))) b := by
  have h1 := hA.1.2.1
  have ho : ∀ d, d ≠ 0 → xv (q_up X b 1 (zi (xv X b 1 + m))) (b + d) = xv X (b + d) := fun d hd => xv_up_row _ _ _ (by omega)
  have hz : ∀ j, j ≠ 1 → xv (q_up X b 1 (zi (xv X b 1 + m))) b j = xv X b j := fun j hj => xv_up_ne _ _ (by omega)
  have hcn : ∀ k, xv (q_up X b 1 (zi (xv X b 1 + m))) (con b k) = xv X (con b k) := fun k => xv_up_row _ _ _ (by unfold con; omega)
  refine ⟨?_, bLv_mk hA.2.1 (hz 0 (by omega)) (hz 10 (by omega)) (fun i hi hs => ?_), bF_mk hA.2.2 (ho 15 (by omega)) (ho 16 (by omega))⟩
  · have hO := hA.1
    have hc := fun (k : Nat) (hk : (k : Int) < xv X b 10) => cOk_ag (X' := q_up X b 1 (zi (xv X b 1 + m))) (fun d hd => xv_up_row _ _ _ (by unfold con; omega)) (hO.c hk)
    unfold bOk at hO ⊢
    rw [hz 0 (by omega), hz 2 (by omega), hz 3 (by omega), hz 4 (by omega), hz 5 (by omega), hz 6 (by omega), hz 10 (by omega), xv_up_same _ _ _ (by omega), ho 1 (by omega), ho 4 (by omega), ho 5 (by omega), ho 6 (by omega), ho 7 (by omega), ho 8 (by omega), ho 9 (by omega), ho 10 (by omega), ho 11 (by omega), ho 12 (by omega), ho 13 (by omega), ho 14 (by omega)]
    obtain ⟨a1, a2, a3, a4, a5, a6, a7, a8, -, rest⟩ := hO
    exact ⟨a1, by omega, a3, a4, a5, a6, a7, a8, hc, rest⟩
  · rw [hcn] at hs ⊢; exact ⟨hs, Int.le_refl _⟩
theorem bA_earn {X : q_X} {b : Nat} {i : Int} (hA : bA X b) (h : f_earnOk X b i) : bA (q_up X (b + 9) i.toNat (zi 1)) b := by
  have ho : ∀ d, d ≠ 9 → xv (q_up X (b + 9) i.toNat (zi 1)) (b + d) = xv X (b + d) := fun d hd => xv_up_row _ _ _ (by omega)
  have hz : xv (q_up X (b + 9) i.toNat (zi 1)) b = xv X b := xv_up_row _ _ _ (by omega)
  have hcn : ∀ k, xv (q_up X (b + 9) i.toNat (zi 1)) (con b k) = xv X (con b k) := fun k => xv_up_row _ _ _ (by unfold con; omega)
  refine ⟨?_, bLv_mk hA.2.1 (by rw [hz]) (by rw [hz]) (fun i hi hs => ?_), bF_mk hA.2.2 (ho 15 (by omega)) (ho 16 (by omega))⟩
  · have hO := hA.1
    have hc := fun (k : Nat) (hk : (k : Int) < xv X b 10) => cOk_ag (X' := q_up X (b + 9) i.toNat (zi 1)) (fun d hd => xv_up_row _ _ _ (by unfold con; omega)) (hO.c hk)
    unfold bOk at hO ⊢
    rw [hz, ho 1 (by omega), ho 4 (by omega), ho 5 (by omega), ho 6 (by omega), ho 7 (by omega), ho 8 (by omega), ho 10 (by omega), ho 11 (by omega), ho 12 (by omega), ho 13 (by omega), ho 14 (by omega)]
    obtain ⟨a1, a2, a3, a4, a5, a6, a7, a8, -, b1, b2, rest⟩ := hO
    refine ⟨a1, a2, a3, a4, a5, a6, a7, a8, hc, b1, fun j hj => ⟨(b2 j hj).1, ?_⟩, rest⟩
    by_cases e : j = i.toNat
    · subst e; right; exact xv_up_same _ _ _ (by omega)
    · rw [xv_up_ne _ _ (by omega)]; exact (b2 j hj).2
  · rw [hcn] at hs ⊢; exact ⟨hs, Int.le_refl _⟩
theorem bA_add {X : q_X} {b : Nat} {k y a lk : Int} (hA : bA X b) (h : f_promOk X b k y a) (hl : lk = 0 ∨ lk = 1) : bA (pr_add X (b + 4) k y a lk) b := by
  obtain ⟨h1, h2, h3, h4, h5, h6, h7, h8⟩ := h
  have o4 := hA.1.2.2.2.2.2.2.2.2.2.1
  have o10 := hA.1.2.2.2.2.2.2.2.1
  obtain ⟨s, hs⟩ : ∃ s : Nat, xv X (b + 4) 0 = (s : Int) := ⟨(xv X (b + 4) 0).toNat, by omega⟩
  have e : pr_add X (b + 4) k y a lk = q_up (q_up (q_up (q_up (q_up (q_up X (b + 5) s (zi k)) (b + 6) s (zi y)) (b + 7) s (zi a)) (b + 8) s (zi lk)) (b + 9) s (zi 0)) (b + 4) 0 (zi ((s : Int) + 1)) := by unfold pr_add; rw [hs, Int.toNat_natCast]
  rw [e]
  generalize hX' : q_up (q_up (q_up (q_up (q_up (q_up X (b + 5) s (zi k)) (b + 6) s (zi y)) (b + 7) s (zi a)) (b + 8) s (zi lk)) (b + 9) s (zi 0)) (b + 4) 0 (zi ((s : Int) + 1)) = X'
  have ho : ∀ i, (i < b + 4 ∨ b + 9 < i) → xv X' i = xv X i := fun i hi => by rw [← hX']; simp (disch := omega) only [xv_up_row]
  have hz : xv X' b = xv X b := ho b (by omega)
  have r4 : xv X' (b + 4) 0 = (s : Int) + 1 := by rw [← hX']; exact xv_up_same _ _ _ (by omega)
  have r5 : ∀ j, xv X' (b + 5) j = if j = s then k else xv X (b + 5) j := fun j => by
    rw [← hX']
    by_cases e : j = s
    · subst e; rw [if_pos rfl]; simp (disch := omega) only [xv_up_ne, xv_up_same]
    · rw [if_neg e]; simp (disch := omega) only [xv_up_ne]
  have r6 : ∀ j, xv X' (b + 6) j = if j = s then y else xv X (b + 6) j := fun j => by
    rw [← hX']
    by_cases e : j = s
    · subst e; rw [if_pos rfl]; simp (disch := omega) only [xv_up_ne, xv_up_same]
    · rw [if_neg e]; simp (disch := omega) only [xv_up_ne]
  have r7 : ∀ j, xv X' (b + 7) j = if j = s then a else xv X (b + 7) j := fun j => by
    rw [← hX']
    by_cases e : j = s
    · subst e; rw [if_pos rfl]; simp (disch := omega) only [xv_up_ne, xv_up_same]
    · rw [if_neg e]; simp (disch := omega) only [xv_up_ne]
  have r8 : ∀ j, xv X' (b + 8) j = if j = s then lk else xv X (b + 8) j := fun j => by
    rw [← hX']
    by_cases e : j = s
    · subst e; rw [if_pos rfl]; simp (disch := omega) only [xv_up_ne, xv_up_same]
    · rw [if_neg e]; simp (disch := omega) only [xv_up_ne]
  have r9 : ∀ j, xv X' (b + 9) j = if j = s then 0 else xv X (b + 9) j := fun j => by
    rw [← hX']
    by_cases e : j = s
    · subst e; rw [if_pos rfl]; simp (disch := omega) only [xv_up_ne, xv_up_same]
    · rw [if_neg e]; simp (disch := omega) only [xv_up_ne]
  have hcn : ∀ k, xv X' (con b k) = xv X (con b k) := fun k => ho _ (by unfold con; omega)
  refine ⟨?_, bLv_mk hA.2.1 (by rw [hz]) (by rw [hz]) (fun i hi hs => ?_), bF_mk hA.2.2 (ho _ (by omega)) (ho _ (by omega))⟩
  · have hO := hA.1
    have hc := fun (k : Nat) (hk : (k : Int) < xv X b 10) => cOk_ag (X' := X') (fun d hd => ho _ (by unfold con; omega)) (hO.c hk)
    unfold bOk at hO ⊢
    rw [hz, ho (b + 1) (by omega), ho (b + 10) (by omega), ho (b + 11) (by omega), ho (b + 12) (by omega), ho (b + 13) (by omega), ho (b + 14) (by omega), r4]
    obtain ⟨a1, a2, a3, a4, a5, a6, a7, a8, -, b1, b2, b3, rest⟩ := hO
    refine ⟨a1, a2, a3, a4, a5, a6, a7, a8, hc, by omega, fun j hj => ?_, fun j hj => ?_, rest⟩
    · rw [r8, r9]
      have := b2 j hj
      refine ⟨?_, ?_⟩ <;> split <;> omega
    · rw [r5, r6, r7]
      by_cases e : j = s
      · rw [if_pos e, if_pos e, if_pos e]; omega
      · rw [if_neg e, if_neg e, if_neg e]; exact b3 j (by omega)
  · rw [hcn] at hs ⊢; exact ⟨hs, Int.le_refl _⟩
theorem bA_year {X : q_X} {b : Nat} (hA : bA X b) (h : xv X b 0 < 19) : bA (bk_year X b) b := by
  have o0 := hA.1.1
  have o10 := hA.1.2.2.2.2.2.2.2.1
  generalize hr : nz (bk_room X b g0 g0) = room
  unfold bk_year
  rw [hr]
  have e1 : ∀ a, a ≠ b → a ≠ b + 1 → xv (bk_p1 X b room) a = xv X a := fun a h1 h2 => by rw [bk_p1, xv_up_row _ _ _ h2, xv_up_row _ _ _ h1, xv_up_row _ _ _ h1]
  have e0 : xv (bk_p1 X b room) b 0 = xv X b 0 + 1 := by rw [bk_p1, xv_up_ne _ _ (by omega), xv_up_ne _ _ (by omega), xv_up_same _ _ _ (by omega)]
  have ed : xv (bk_p1 X b room) b 1 = 0 := by rw [bk_p1, xv_up_ne _ _ (by omega), xv_up_same _ _ _ (by omega)]
  have ez : ∀ j, 2 ≤ j → xv (bk_p1 X b room) b j = xv X b j := fun j hj => by rw [bk_p1, xv_up_ne _ _ (by omega), xv_up_ne _ _ (by omega), xv_up_ne _ _ (by omega)]
  have el : ∀ j, j < 20 → 0 ≤ xv (bk_p1 X b room) (b + 1) j ∧ xv (bk_p1 X b room) (b + 1) j ≤ 999999 := fun j hj => by
    by_cases e : j = (xv X b 0 + 1).toNat
    · rw [bk_p1, e, xv_up_same _ _ _ (by omega)]; omega
    · rw [bk_p1, xv_up_ne _ _ (by omega), xv_up_row _ _ _ (by omega), xv_up_row _ _ _ (by omega)]; exact hA.1.2.2.2.2.2.2.2.2.2.2.2.2.2.2 j hj
  generalize hX1 : bk_p1 X b room = X1 at *
  have hs : ∀ m, xv (py X1 b m) b = xv X1 b := fun m => py_o X1 b (by omega) m (fun j _ => by unfold con; omega)
  have hrow : ∀ m a, a ≠ b + 2 → (∀ i, i < m → a ≠ con b i) → xv (py X1 b m) a = xv X1 a := fun m a h1 h2 => py_o X1 b h1 m h2
  have hst : ∀ m, ∀ k, k < m → (xv (py X1 b m) (con b k) 4 = (if p_over X1 b k then 2 else xv X1 (con b k) 4)) ∧ (xv (py X1 b m) (con b k) 5 = if p_over X1 b k then xv X1 b 0 else xv X1 (con b k) 5) ∧ ∀ j, j < 4 → xv (py X1 b m) (con b k) j = xv X1 (con b k) j := by
    intro m
    induction m with
    | zero => intro k hk; omega
    | succ m ih =>
      intro k hk
      have hyb : q_in (xv X1 b 0) := xv_in _ _ _
      rw [py]
      by_cases e : k = m
      · subst e
        have hk0 : xv (py X1 b k) (con b k) = xv X1 (con b k) := hrow k _ (by unfold con; omega) (fun i hi => by unfold con; omega)
        have hpo : p_over (py X1 b k) b k ↔ p_over X1 b k := by unfold p_over; rw [hk0, hs]
        unfold py_step
        by_cases hp : p_over X1 b k
        · rw [if_pos (hpo.mpr hp), if_pos hp, if_pos hp, hs]
          refine ⟨?_, ?_, fun j hj => ?_⟩
          · rw [xv_up_row _ _ _ (by unfold con; omega), xv_up_ne _ _ (by omega), xv_up_same _ _ _ (by omega)]
          · rw [xv_up_row _ _ _ (by unfold con; omega), xv_up_same _ _ _ hyb]
          · rw [xv_up_row _ _ _ (by unfold con; omega), xv_up_ne _ _ (by omega), xv_up_ne _ _ (by omega), hk0]
        · rw [if_neg (fun q => hp (hpo.mp q)), if_neg hp, if_neg hp, hk0]
          exact ⟨rfl, rfl, fun _ _ => rfl⟩
      · have ihk := ih k (by omega)
        rw [py_step_o _ _ _ (by unfold con; omega) (by unfold con; omega)]
        exact ihk
  have hO := hA.1
  have hcf : ∀ k : Nat, (k : Int) < xv X b 10 → xv X1 (con b k) = xv X (con b k) := fun k hk => e1 _ (by unfold con; omega) (by unfold con; omega)
  have e10 : xv X1 b 10 = xv X b 10 := ez 10 (by omega)
  have hro : ∀ d, d < 20 → d ≠ 2 → xv (py X1 b (xv X b 10).toNat) (b + d) = xv X1 (b + d) := fun d hd h2 => hrow _ _ (by omega) (fun i _ => by unfold con; omega)
  refine ⟨?_, fun k hk hs4 => ?_, bF_mk hA.2.2 ?_ ?_⟩
  · have hc : ∀ k : Nat, (k : Int) < xv X b 10 → cOk (py X1 b (xv X b 10).toNat) (con b k) := fun k hk => by
      obtain ⟨t4, t5, tj⟩ := hst (xv X b 10).toNat k (by omega)
      have hck := hO.c hk
      refine cOk_state hck (fun j hj => by rw [tj j hj, hcf k hk]) (fun d d1 d2 => ?_) ?_ ?_
      · rw [hrow _ _ (by unfold con; omega) (fun i _ => by unfold con; omega), e1 _ (by unfold con; omega) (by unfold con; omega)]
      · have h4 := hck.2.2.2.1
        have h5 := congrFun (hcf k hk) 4
        rw [t4]; split <;> omega
      · have h4 := hck.2.2.2.1
        have h5 := congrFun (hcf k hk) 5
        rw [t5]; split <;> omega
    unfold bOk at hO ⊢
    rw [hs, e0, ed, ez 2 (by omega), ez 3 (by omega), ez 4 (by omega), ez 5 (by omega), ez 6 (by omega), ez 10 (by omega), hro 1 (by omega) (by omega), hro 4 (by omega) (by omega), hro 5 (by omega) (by omega), hro 6 (by omega) (by omega), hro 7 (by omega) (by omega), hro 8 (by omega) (by omega), hro 9 (by omega) (by omega), hro 10 (by omega) (by omega), hro 11 (by omega) (by omega), hro 12 (by omega) (by omega), hro 13 (by omega) (by omega), hro 14 (by omega) (by omega)]
    rw [e1 (b + 4) (by omega) (by omega), e1 (b + 5) (by omega) (by omega), e1 (b + 6) (by omega) (by omega), e1 (b + 7) (by omega) (by omega), e1 (b + 8) (by omega) (by omega), e1 (b + 9) (by omega) (by omega), e1 (b + 10) (by omega) (by omega), e1 (b + 11) (by omega) (by omega), e1 (b + 12) (by omega) (by omega), e1 (b + 13) (by omega) (by omega), e1 (b + 14) (by omega) (by omega)]
    obtain ⟨a1, a2, a3, a4, a5, a6, a7, a8, -, b1, b2, b3, b4, b5, -⟩ := hO
    exact ⟨by omega, by omega, a3, a4, a5, a6, a7, a8, hc, b1, b2, b3, b4, b5, el⟩
  · rw [hs, e10] at hk
    obtain ⟨t4, t5, tj⟩ := hst (xv X b 10).toNat k (by omega)
    rw [t4] at hs4
    rw [hs, tj 0 (by omega), tj 1 (by omega)]
    split at hs4
    · omega
    · rename_i hp
      unfold p_over at hp
      omega
  · rw [hro 15 (by omega) (by omega), e1 _ (by omega) (by omega)]
  · rw [hro 16 (by omega) (by omega), e1 _ (by omega) (by omega)]
