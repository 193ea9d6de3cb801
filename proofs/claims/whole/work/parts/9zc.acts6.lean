/-! acts, told as a text -/
theorem JW_bk {n : Nat} {P : q_P} {C Z0 C' Z' : q_X} {b d x : Nat} (hS : JS n P C b d x) (hV : JV P C Z0 b x) (hc : ∀ a, a < 444 → a ≠ 0 → C' a = C a) (hc2 : ∀ a, 481 ≤ a → C' a = C a) (h1 : Z' 467 1 = Z0 467 1) (h8 : ∀ j, j < 41140 → Z' 468 j = Z0 468 j) (h9 : Z' 469 = Z0 469) (hT : JT2 C' Z') : JW P C' Z' b x := by
  have hb := hS.b
  have hs := hS.s
  have vA := hV.1.1
  have hsB : bS C C' b := fun q hq h8 => hc _ (by omega) (by omega)
  refine ⟨⟨hsB.a vA, ?_⟩, hV.2.1.mv hs.2.2.2 (by rw [xr (hc 442 (by omega) (by omega))]) (fun i a ea hi q hq h8 => hc2 _ (by have := hS.M.a hi ea; omega)) (xj h1) (fun k _ => by rw [xr h9]) (fun r j r1 r2 hj => by unfold rw_; exact xj (h8 _ (by omega))), hT⟩
  exact (hV.1.2.bs vA hsB).rw (hsB.a vA) (fun j hj => xj (h8 j (by omega)))
theorem acX4_o {C : q_X} {a j : Nat} (h : a ≠ 444 ∧ (a < 449 ∨ 452 < a)) (h5 : ¬ (a = 445 ∧ j = 1)) (h9 : ¬ (a = 0 ∧ j = 9)) : acX4 C a j = C a j := by
  unfold acX4
  rw [q_up_ne _ _ (by omega), q_up_ne _ _ (by omega), row_of (acSt_o (X := C) (a := a) (by omega))]
theorem acX4_s {C : q_X} {a : Nat} (h : 449 ≤ a ∧ a ≤ 452) : acX4 C a = acSt C a := by
  unfold acX4; funext j; rw [q_up_ne _ _ (by omega), q_up_ne _ _ (by omega)]
theorem acX4_5 (C : q_X) : xv (acX4 C) 445 1 = 0 := by unfold acX4; rw [xv_up_ne _ _ (by omega), xv_up_same _ _ _ (by omega)]
theorem Perf_7 {n n' : Nat} {P P' : q_P} {X X' : q_X} {Y Y' : q_Y} {b x : Nat} {kd f s r : Int} (h : CI n P X b x) (hb1 : 1 ≤ b ∧ b + 220 ≤ 441) (hm : isMod n P) (hp : Perf x b n P X Y kd f s r n' P' X' Y') : (∀ a, 466 < a → a < 481 → X' a = X a) ∧ isMod n' P' := by
  have hO := h.2.2.1.1
  have o10 := hO.2.2.2.2.2.2.2.1
  have hn := h.2.2.2.1.2.1.n
  have key : ∀ {F : q_X → q_X} {R : q_X → Int}, DE x b n P (q_up X 0 11 (zi 0)) Y F R r n' P' X' Y' → (∀ Z, bS X Z b → bA (F Z) b ∧ ∀ a, (a < b ∨ b + 220 ≤ a) → xv (F Z) a = xv Z a) → (∀ a, 466 < a → a < 481 → X' a = X a) ∧ isMod n' P' := fun hd hF => by
    obtain ⟨c1, c2, X1, X2, c3, c4, c5, c6, c7⟩ := h.de hb1 (fun a ha => up0 ha) hd hF
    refine ⟨fun a a1 a2 => ?_, ?_⟩
    · rw [c5, row_of ((hF X2 c7).2 a (by omega)), c4 a (by omega), c3.x (by omega) (by omega) (by omega)]
      funext j; exact q_up_ne _ _ (by omega)
    · have q := c3.p (c := 467) (by omega) (by omega)
      have q2 := c3.n.2
      unfold isMod at hm ⊢
      rw [q]
      obtain ⟨z1, z2, z3, z4, z5, z6, z7, z8, z9, z10, z11, z12, z13, z14⟩ := hm
      exact ⟨z1, z2, z3, z4, z5, z6, z7, z8, z9, z10, z11, z12, z13, by omega⟩
  have nok : ∀ {v : Int32}, NO n P (q_up X 0 11 v) Y r n' P' X' Y' → (∀ a, 466 < a → a < 481 → X' a = X a) ∧ isMod n' P' := fun hn => by
    obtain ⟨rfl, rfl, rfl, rfl, -⟩ := hn
    exact ⟨fun a a1 a2 => by funext j; exact q_up_ne _ _ (by omega), hm⟩
  unfold Perf at hp
  split at hp
  · unfold P_go at hp
    split at hp
    · rename_i hk
      refine key hp (fun Z hs => ⟨bA_rel 0 (hs.a h.2.2.1) (by rw [bk_ref_ag hs.ag o10.2]; exact hk), fun a ha => ?_⟩)
      have hh := bk_ref_has hk
      exact bk_rel_o (by omega) (by unfold con; omega)
    · exact nok hp
  · split at hp
    · unfold P_turn at hp
      split at hp
      · rename_i hk
        have hh := bk_ref_has (bk_pref_ref hk).1
        exact key hp (fun Z hs => ⟨bA_turn (hs.a h.2.2.1) (by rw [pref_s hs o10.2]; exact hk), fun a ha => bk_turn_o (by unfold con; omega)⟩)
      · exact nok hp
    · split at hp
      · unfold P_days at hp
        split at hp
        · rename_i hk
          exact key hp (fun Z hs => ⟨bA_days (hs.a h.2.2.1) (by rw [hs.v0]; exact hk), fun a ha => xv_up_row _ _ _ (by omega)⟩)
        · exact nok hp
      · unfold P_year at hp
        split at hp
        · rename_i hk
          exact key hp (fun Z hs => ⟨bA_year (hs.a h.2.2.1) (by rw [hs.v0]; exact hk), fun a ha => bk_year_o (by rw [hs.v0]; exact o10.2) ha⟩)
        · exact nok hp
theorem AC_7 {b m : Nat} {r' : Int} {n' : Nat} {P' : q_P} {X' : q_X} {Y' : q_Y} (hb1 : 1 ≤ b ∧ b + 220 ≤ 441) : ∀ (w i x n : Nat) (P : q_P) (X : q_X) (Y : q_Y), AC b m w i x n P X Y r' n' P' X' Y' → CI n P X b x → isMod n P → (∀ a, 466 < a → a < 481 → X' a = X a) ∧ isMod n' P'
  | 0, i, x, n, P, X, Y, h, hc, hm => by
    unfold AC at h
    obtain ⟨-, rfl, rfl, rfl⟩ := h
    exact ⟨fun _ _ _ => rfl, hm⟩
  | w + 1, i, x, n, P, X, Y, h, hc, hm => by
    unfold AC at h
    obtain ⟨r1, n1, P1, X1, Y1, hpf, h⟩ := h
    obtain ⟨q1, q2⟩ := Perf_7 hc hb1 hm hpf
    by_cases e : xv X1 0 11 = 0
    · rw [if_pos e] at h
      obtain ⟨x1, hci, h⟩ := h
      obtain ⟨q3, q4⟩ := AC_7 hb1 w (i + 1) x1 n1 P1 X1 Y1 h hci q2
      exact ⟨fun a a1 a2 => by rw [q3 a a1 a2, q1 a a1 a2], q4⟩
    · rw [if_neg e] at h
      obtain ⟨rfl, rfl, h3, -⟩ := h
      exact ⟨fun a a1 a2 => by rw [h3, ← q1 a a1 a2]; funext j; exact q_up_ne _ _ (by omega), q2⟩
theorem acX4_9 (C : q_X) : xv (acX4 C) 0 9 = xv (acSt C) 444 2 := by unfold acX4; rw [xv_up_same _ _ _ (xv_in _ _ _)]
set_option maxHeartbeats 4000000 in
set_option maxRecDepth 100000 in
theorem tX12_acts {l : Launch} {g : q_G} {n : Nat} {P : q_P} {X : q_X} {Y : q_Y} (hm : isMod n P) {C : q_X} {n0 : Nat} {P0 : q_P} {Y0 YF : q_Y} {b d x : Nat} {rF : Int} (hS : JS n0 P0 C b d x) (hV : JV P0 C C b x) (h7 : ∀ a, 466 < a → a < 481 → X a = C a) (hA : if xv (acSt C) 444 2 = -1 then AC b (xv (acSt C) 449 0).toNat (xv (acSt C) 449 0).toNat 0 x n0 P0 (q_up (acX4 C) 0 10 (zi (-1))) Y0 rF n P X YF else NO n0 P0 (acX4 C) Y0 rF n P X YF) : q_Met l g mX12_acts 9 [.ref (g.1 + 467)] n P X Y ((q_gi (fun r2 n2 P2 X2 _ => zi r2 = zi rF ∧ J n2 P2 X2))) := by
  obtain ⟨m0, m2, m3, m8, m9, m14, m15, m16, m17, m18, m20, m22, m25, hnm9⟩ := id hm
  refine q_enter (L := [(0, .ref (g.1 + 467))]) (by decide) (Nat.le_of_ble_eq_true rfl) rfl ?_
  refine r_aload_n (i := 0) (pc' := 1) dX12_acts_0 rfl rfl (.head _) ?_
  refine r_V0gv (ci := 12) (pc' := 4) dX12_acts_1 rfl lX12_150 rfl (by decide) (Nat.le_of_ble_eq_true rfl) (by first | assumption | rfl) (by omega) (tX12_beginText hm) (fun n1 P1 X1 Y1 e1 le1 => ?_)
  obtain ⟨hg1_1, hg2_1, hg3_1, hg4_1⟩ := e1
  have g1_1 := Eq.symm hg1_1
  have g2_1 := Eq.symm hg2_1
  have g3_1 := Eq.symm hg3_1
  have g4_1 := Eq.symm hg4_1
  clear hg1_1 hg2_1 hg3_1 hg4_1
  subst g1_1 g2_1 g3_1 g4_1
  refine r_aload_n (i := 0) (pc' := 5) dX12_acts_4 rfl rfl (.head _) ?_
  refine r_iconst (pc' := 6) dX12_acts_5 rfl ?_
  refine r_putI (pc' := 9) dX12_acts_6 rfl fX12_366 rfl (by first | assumption | rfl) (by omega) rfl rfl ?_
  have ht0 := hV.2.2.1
  have hs0 := ht0.1
  have d1 : xv (q_up (acBeg C) 449 0 (zi 0)) 444 1 = 0 := by unfold acBeg; rw [xv_up_ne _ _ (by omega), xv_up_ne _ _ (by omega), xv_up_same _ _ _ (by omega)]
  have d2 : xv (q_up (acBeg C) 449 0 (zi 0)) 444 2 = -1 := by unfold acBeg; rw [xv_up_ne _ _ (by omega), xv_up_same _ _ _ (by omega)]
  have d5 : xv (q_up (acBeg C) 449 0 (zi 0)) 445 = xv C 445 := by unfold acBeg; rw [xv_up_row _ _ _ (by omega), xv_up_row _ _ _ (by omega), xv_up_row _ _ _ (by omega)]
  have d6 : xv (q_up (acBeg C) 449 0 (zi 0)) 446 = xv C 446 := by unfold acBeg; rw [xv_up_row _ _ _ (by omega), xv_up_row _ _ _ (by omega), xv_up_row _ _ _ (by omega)]
  have d9 : xv (q_up (acBeg C) 449 0 (zi 0)) 449 0 = 0 := xv_up_same _ _ _ (by omega)
  have eS : acSt C = rdTail (acRd 20 0 (q_up (acBeg C) 449 0 (zi 0))) := rfl
  have hR0 : tR (q_up (acBeg C) 449 0 (zi 0)) (q_up (q_up (q_up X 467 5 (zi 0)) 467 6 (zi (-1))) 467 23 (zi 0)) := by
    refine ⟨by unfold rOk; rw [d1, d5]; omega, d2, ?_, ?_, ?_⟩
    · rw [xv_up_ne _ _ (by omega), xv_up_same _ _ _ (by omega)]
    · rw [d1, xv_up_ne _ _ (by omega), xv_up_ne _ _ (by omega), xv_up_same _ _ _ (by omega)]
    · rw [d5]
      refine ht0.cg d5 d6 ?_ ?_
      · rw [xv_up_ne _ _ (by omega), xv_up_ne _ _ (by omega), xv_up_ne _ _ (by omega), xr (h7 467 (by omega) (by omega))]
      · rw [xv_up_row _ _ _ (by omega), xv_up_row _ _ _ (by omega), xv_up_row _ _ _ (by omega), xr (h7 470 (by omega) (by omega))]
  have ha0 : actsR (q_up (acBeg C) 449 0 (zi 0)) (q_up (q_up (q_up X 467 5 (zi 0)) 467 6 (zi (-1))) 467 23 (zi 0)) 0 := ⟨by rw [d9]; rfl, by rw [xv_up_same _ _ _ (by omega)]; rfl, by omega, fun q hq => absurd hq (Nat.not_lt_zero q)⟩
  refine lX12_acts hm (X0 := q_up (q_up (q_up X 467 5 (zi 0)) 467 6 (zi (-1))) 467 23 (zi 0)) 20 0 _ _ rfl hR0 ha0 rA.rfl (fun X9 m hrA ht hac => ?_) (fun X9 hrA hf => ?_)
  · rw [← eS] at ht hac
    clear hR0 ha0 d1 d2 d5 d6 d9 eS
    refine r_aload_n (i := 0) (pc' := 47) dX12_acts_46 rfl rfl (.head _) ?_
    refine r_V0gi (ci := 12) (pc' := 50) dX12_acts_47 rfl lX12_156 rfl (by decide) (Nat.le_of_ble_eq_true rfl) (by first | assumption | rfl) (by omega) (tX12_ends hm) (fun r47 n47 P47 X47 Y47 e47 le47 => ?_)
    obtain ⟨h1v, h2v, h3v, h4v, hr47⟩ := e47
    rw [if_pos ht.2.2.1] at hr47
    subst h1v h2v h3v h4v hr47
    refine r_if_ne (t := 55) (f := 53) dX12_acts_50 (by decide) rfl (by first | omega | exact xv_in _ _ _) (fun h50 => ?_) (fun h50 => ?_)
    · refine r_iconst (pc' := 56) dX12_acts_55 rfl ?_
      refine r_istore_n (i := 1) (pc' := 57) dX12_acts_56 rfl rfl rfl (.s1 .nil rfl rfl rfl) ?_
      rw [if_pos ht.2.1] at hA
      have hmm : (xv (acSt C) 449 0).toNat = m := by rw [hac.1]; exact Int.toNat_natCast m
      rw [hmm] at hA
      have hzx : ∀ a j, ¬ (a = 467 ∧ (j = 4 ∨ j = 5 ∨ j = 6 ∨ j = 7 ∨ j = 23)) → a ≠ 479 → (q_up X9 467 4 (zi 0)) a j = X a j := fun a j q1 q2 => by rw [q_up_ne _ _ (by omega), hrA a j q2 (by omega), q_up_ne _ _ (by omega), q_up_ne _ _ (by omega), q_up_ne _ _ (by omega)]
      have hz4 : xv (q_up X9 467 4 (zi 0)) 467 4 = 0 := xv_up_same _ _ _ (by omega)
      have hz6 : xv (q_up X9 467 4 (zi 0)) 467 6 = -1 := by rw [xv_up_ne _ _ (by omega)]; exact ht.2.2.1
      have hz23 : xv (q_up X9 467 4 (zi 0)) 467 23 = (m : Int) := by rw [xv_up_ne _ _ (by omega)]; exact hac.2.1
      have hz79 : xv (q_up X9 467 4 (zi 0)) 479 = xv X9 479 := xv_up_row _ _ _ (by omega)
      generalize q_up X9 467 4 (zi 0) = Z at hzx hz4 hz6 hz23 hz79 ⊢
      have c4 : ∀ a j, a ≠ 444 → (a < 449 ∨ 452 < a) → ¬ (a = 445 ∧ j = 1) → ¬ (a = 0 ∧ (j = 9 ∨ j = 10)) → (q_up (acX4 C) 0 10 (zi (-1))) a j = C a j := fun a j q1 q2 q3 q4 => by rw [q_up_ne _ _ (by omega), acX4_o ⟨q1, q2⟩ q3 (by omega)]
      have c5 : xv (q_up (acX4 C) 0 10 (zi (-1))) 445 1 = 0 := by rw [xv_up_ne _ _ (by omega), acX4_5]
      have c9 : xv (q_up (acX4 C) 0 10 (zi (-1))) 0 9 = -1 := by rw [xv_up_ne _ _ (by omega), acX4_9]; exact ht.2.1
      have c10 : xv (q_up (acX4 C) 0 10 (zi (-1))) 0 10 = -1 := xv_up_same _ _ _ (by omega)
      have cs : ∀ a, 449 ≤ a → a ≤ 452 → xv (q_up (acX4 C) 0 10 (zi (-1))) a = xv (acSt C) a := fun a q1 q2 => by rw [xv_up_row _ _ _ (by omega), xr (acX4_s ⟨q1, q2⟩)]
      generalize q_up (acX4 C) 0 10 (zi (-1)) = X4 at c4 c5 c9 c10 cs hA
      have z7 : ∀ j, (j = 1 ∨ j = 19 ∨ j = 26) → Z 467 j = C 467 j := fun j hj => by rw [hzx 467 j (by omega) (by omega), h7 467 (by omega) (by omega)]
      have zc : ∀ a, (a = 468 ∨ a = 469 ∨ a = 480) → Z a = C a := fun a ha => by funext j; rw [hzx a j (by omega) (by omega), h7 a (by omega) (by omega)]
      obtain ⟨t1, ⟨t2, t3, t4⟩, t5⟩ := hV.2.2
      have jW : JW P0 X4 Z b x := JW_bk hS hV (fun a q1 q2 => by funext j; exact c4 a j (by omega) (by omega) (by omega) (by omega)) (fun a q1 => by funext j; exact c4 a j (by omega) (by omega) (by omega) (by omega)) (z7 1 (by omega)) (fun j _ => by rw [zc 468 (by omega)]) (zc 469 (by omega)) ⟨⟨by omega, rfl, by rw [hz4, c5], fun j hj => by omega⟩, by rw [hz6, c9], by
        have q7 : X4 447 = C 447 := by funext j; exact c4 447 j (by omega) (by omega) (by omega) (by omega)
        rw [xr q7]
        exact t5.cg (xr q7) (xr (by funext j; exact c4 448 j (by omega) (by omega) (by omega) (by omega))) (xj (z7 26 (by omega))) (xr (zc 480 (by omega)))⟩
      refine dX12_acts hm (d := d) (m := m) hac.2.2.1 m 0 x n0 P0 X4 Y0 Z (by omega) hA (hS.x (xr (by funext j; exact c4 442 j (by omega) (by omega) (by omega) (by omega)))) jW c10 (by rw [xj (z7 19 (by omega)), t4]; exact (xj (c4 0 11 (by omega) (by omega) (by omega) (by omega))).symm) (fun q hq => ?_) hz23 (fun a ha => by funext j; exact hzx a j (by omega) (by omega))
      have q0 := hac.2.2.2 q hq
      unfold aC at q0 ⊢
      rw [cs 450 (by omega) (by omega), cs 451 (by omega) (by omega), cs 452 (by omega) (by omega), hz79]
      exact q0
    · exfalso; omega
  · rw [← eS] at hf
    clear hR0 ha0 d1 d2 d5 d6 d9 eS
    refine r_aload_n (i := 0) (pc' := 47) dX12_acts_46 rfl rfl (.head _) ?_
    refine r_V0gi (ci := 12) (pc' := 50) dX12_acts_47 rfl lX12_156 rfl (by decide) (Nat.le_of_ble_eq_true rfl) (by first | assumption | rfl) (by omega) (tX12_ends hm) (fun r47 n47 P47 X47 Y47 e47 le47 => ?_)
    obtain ⟨h1v, h2v, h3v, h4v, hr47⟩ := e47
    rw [if_neg (by rw [hf.2]; exact hf.1)] at hr47
    subst h1v h2v h3v h4v hr47
    refine r_if_ne (t := 55) (f := 53) dX12_acts_50 (by decide) rfl (by first | omega | exact xv_in _ _ _) (fun h50 => ?_) (fun h50 => ?_)
    · exfalso; omega
    · refine r_iconst (pc' := 54) dX12_acts_53 rfl ?_
      refine r_ireturn dX12_acts_54 rfl ?_
      rw [if_neg hf.1] at hA
      obtain ⟨z1, z2, z3, z4, z5⟩ := hA
      refine ⟨_, rfl, by rw [z5], ?_⟩
      have hzx : ∀ a j, ¬ (a = 467 ∧ (j = 4 ∨ j = 5 ∨ j = 6 ∨ j = 7 ∨ j = 23)) → a ≠ 479 → (q_up X9 467 4 (zi 0)) a j = X a j := fun a j q1 q2 => by rw [q_up_ne _ _ (by omega), hrA a j q2 (by omega), q_up_ne _ _ (by omega), q_up_ne _ _ (by omega), q_up_ne _ _ (by omega)]
      have hz4 : xv (q_up X9 467 4 (zi 0)) 467 4 = 0 := xv_up_same _ _ _ (by omega)
      have hz6 : xv (q_up X9 467 4 (zi 0)) 467 6 = xv (acSt C) 444 2 := by rw [xv_up_ne _ _ (by omega)]; exact hf.2
      generalize q_up X9 467 4 (zi 0) = Z at hzx hz4 hz6 ⊢
      rw [z1, z2]
      have c4 : ∀ a j, a ≠ 444 → (a < 449 ∨ 480 < a) → ¬ (a = 445 ∧ j = 1) → ¬ (a = 0 ∧ j = 9) → Z a j = C a j := fun a j q1 q2 q3 q4 => by rw [hzx a j (by omega) (by omega), z4, acX4_o ⟨q1, by omega⟩ q3 q4]
      have z7 : ∀ j, (j = 1 ∨ j = 19 ∨ j = 24 ∨ j = 26) → Z 467 j = C 467 j := fun j hj => by rw [hzx 467 j (by omega) (by omega), h7 467 (by omega) (by omega)]
      have zc : ∀ a, (a = 468 ∨ a = 469 ∨ a = 480) → Z a = C a := fun a ha => by funext j; rw [hzx a j (by omega) (by omega), h7 a (by omega) (by omega)]
      obtain ⟨t1, ⟨t2, t3, t4⟩, t5⟩ := hV.2.2
      have e45 : xv Z 445 1 = 0 := by rw [xj (hzx 445 1 (by omega) (by omega)), z4, acX4_5]
      have e09 : xv Z 0 9 = xv (acSt C) 444 2 := by rw [xj (hzx 0 9 (by omega) (by omega)), z4, acX4_9]
      refine J_bk hS hV (fun a q1 q2 _ => by funext j; exact c4 a j (by omega) (by omega) (by omega) (by omega)) (fun a q1 => by funext j; exact c4 a j (by omega) (by omega) (by omega) (by omega)) (z7 1 (by omega)) (fun j _ => by rw [zc 468 (by omega)]) (zc 469 (by omega)) ⟨⟨by omega, rfl, by rw [hz4, e45], fun j hj => by omega⟩, ⟨by rw [hz6, e09], by rw [xj (z7 24 (by omega)), t3]; exact (xj (c4 0 10 (by omega) (by omega) (by omega) (by omega))).symm, by rw [xj (z7 19 (by omega)), t4]; exact (xj (c4 0 11 (by omega) (by omega) (by omega) (by omega))).symm⟩, ?_⟩
      have q7 : Z 447 = C 447 := by funext j; exact c4 447 j (by omega) (by omega) (by omega) (by omega)
      rw [xr q7]
      exact t5.cg (xr q7) (xr (by funext j; exact c4 448 j (by omega) (by omega) (by omega) (by omega))) (xj (z7 26 (by omega))) (xr (zc 480 (by omega)))
theorem j_acts {l : Launch} {g : q_G} {n : Nat} {P : q_P} {X : q_X} {Y : q_Y} (hJ : J n P X) : q_Met l g mX11_acts 7 [.ref (g.1 + 0)] n P X Y (q_gi (fun r n' P' X' Y' => q_Met l g mX12_acts 9 [.ref (g.1 + 467)] n' P' X' Y' (q_gi (fun r2 n2 P2 X2 _ => zi r2 = zi r ∧ J n2 P2 X2)))) := by
  obtain ⟨b, d, x, hS, hV⟩ := hJ
  obtain ⟨s1, s2, s3, s4, s5, s6, s7, s8, s9, s10, s11, s12⟩ := id hS
  have vA := hV.1.1
  have hb := hS.b
  have hn := hS.M.n
  refine q_Met.mono (fun v N P' X' Y' h => ?_) (tX11_acts ⟨s1, s2, vA, s3, s8, s10⟩ hb.1 s7 hV.2.2.1.1)
  obtain ⟨r, e1, h⟩ := h
  refine ⟨r, e1, ?_⟩
  obtain ⟨e7, hm⟩ : (∀ a, 466 < a → a < 481 → X' a = X a) ∧ isMod N P' := by
    by_cases hg : xv (acSt X) 444 2 = -1
    · rw [if_pos hg] at h
      have cx : ∀ a, a ≠ 0 → (a < 444 ∨ 452 < a) → (q_up (acX4 X) 0 10 (zi (-1))) a = X a := fun a q1 q2 => by
        funext j; rw [q_up_ne _ _ (by omega), acX4_o (by omega) (by omega) (by omega)]
      obtain ⟨q3, q4⟩ := AC_7 hb.1 _ _ _ _ _ _ _ h (CI.of (X := X) ⟨s1, s2, vA, s3, s8, s10⟩ (fun a ha => xr (cx a (by omega) (by omega)))) s12
      exact ⟨fun a a1 a2 => by rw [q3 a a1 a2, cx a (by omega) (by omega)], q4⟩
    · rw [if_neg hg] at h
      obtain ⟨rfl, rfl, rfl, rfl, rfl⟩ := h
      exact ⟨fun a a1 a2 => by funext j; exact acX4_o (by omega) (by omega) (by omega), s12⟩
  exact tX12_acts hm hS hV e7 h
