theorem bk_take_sr {X : q_X} {b i : Nat} (h : bk_sref X b i = 0) : (i : Int) < xv X (b + 10) 0 ∧ xv X b 10 < 40 ∧ xv X b 0 + xv X (b + 12) i ≤ 20 := by
  unfold bk_sref at h
  rw [Int.toNat_natCast] at h
  split at h
  · omega
  · split at h <;> omega
set_option maxHeartbeats 1000000 in
theorem RB_take {C : q_X} {b i : Nat} {R R' : Nat → Int} (hO : bOk C b) (hT : xv C (b + 15) 0 ≤ 80) (h : RB C b R) (hs : bk_sref C b i = 0)
    (e : ∀ j, j < 3740 → j ≠ 7 → j ≠ 3570 → (j < 130 + 86 * (xv C b 10).toNat ∨ 130 + 86 * (xv C b 10).toNat + 86 ≤ j) → (j < 3572 + 4 * i ∨ 3620 ≤ j) → R' j = R j)
    (e7 : R' 7 = xv C b 10 + 1) (e70 : R' 3570 = xv C (b + 10) 0 - 1)
    (eo : ∀ q : Nat, i ≤ q → (q : Int) < xv C (b + 10) 0 - 1 → ∀ d, d < 4 → R' (3572 + 4 * q + d) = R (3572 + 4 * (q + 1) + d))
    (en : NR (fun j => R' (130 + 86 * (xv C b 10).toNat + j)) (xv C b 0) (xv C (b + 12) i) 0 0 (xv C (b + 13) i) (fun _ => xv C (b + 14) i) (fun _ => 0)) : RB (bk_take C b i) b R' := by
  have hsr := bk_take_sr hs
  obtain ⟨o0, o1, o2, o3, o4, o5, o6, o10, oc, op0, opz, opi, om0, omi, olim⟩ := id hO
  have hmi := omi i hsr.1
  obtain ⟨⟨h1, h2⟩, h3, h4, h5, h6, h7⟩ := h
  obtain ⟨z, hz⟩ : ∃ z : Nat, xv C b 10 = (z : Int) := ⟨(xv C b 10).toNat, by omega⟩
  have hz' : (xv C b 10).toNat = z := by omega
  rw [hz'] at e en
  generalize hc : con b z = c
  have hcb : c = b + 20 + 5 * z := by rw [← hc]; rfl
  generalize hX1 : q_up C b 10 (zi (xv C b 10 + 1)) = X1
  have z1 : ∀ j, xv X1 b j = if j = 10 then xv C b 10 + 1 else xv C b j := fun j => by
    rw [← hX1]
    by_cases e : j = 10
    · subst e; rw [if_pos rfl, xv_up_same _ _ _ (by omega)]
    · rw [if_neg e, xv_up_ne _ _ (by omega)]
  have r1 : ∀ a, a ≠ b → xv X1 a = xv C a := fun a ha => by rw [← hX1]; exact xv_up_row _ _ _ ha
  generalize hX2 : c_start X1 c (xv C b 0) (xv C (b + 12) i) 0 0 = X2
  generalize hX3 : c_spread X2 c (xv C b 0) (xv C (b + 13) i) = X3
  generalize hX4 : c_putN X3 c 0 (xv C (b + 14) i) (xv C (b + 12) i).toNat = X4
  have he : bk_take C b i = mk_rem X4 (b + 10) i := by rw [bk_take, bk_t3, hz', hc, hX1, hX2, hX3, hX4]
  have r3 : ∀ a, (a < c ∨ c + 4 < a) → xv X4 a = xv X1 a := fun a ha => by rw [← hX4, c_putN_o _ _ _ _ (by omega), ← hX3, c_spread_o _ _ _ _ (by omega), ← hX2, c_start_o _ _ _ _ _ _ ha]
  have r5 : ∀ a, (a < b + 10 ∨ b + 14 < a) → xv (mk_rem X4 (b + 10) i) a = xv X4 a := fun a ha => by rw [mk_rem, xv_up_row _ _ _ (by omega), mk_sh_o _ _ _ _ (by omega)]
  have rA : ∀ a, a ≠ b → (a < b + 10 ∨ b + 14 < a) → (a < c ∨ c + 4 < a) → xv (mk_rem X4 (b + 10) i) a = xv C a := fun a h1 h2 h3 => by rw [r5 a h2, r3 a h3, r1 a h1]
  have zb : ∀ j, xv (mk_rem X4 (b + 10) i) b j = if j = 10 then xv C b 10 + 1 else xv C b j := fun j => by rw [r5 b (by omega), r3 b (by omega), z1]
  have m4 : ∀ d, 10 ≤ d → d ≤ 14 → xv X4 (b + d) = xv C (b + d) := fun d h1 h2 => by rw [r3 _ (by omega), r1 _ (by omega)]
  have hms : xv (mk_rem X4 (b + 10) i) (b + 10) 0 = xv C (b + 10) 0 - 1 := by
    rw [mk_rem, xv_up_same _ _ _ (by rw [m4 10 (by omega) (by omega)]; omega), m4 10 (by omega) (by omega)]
  have hmr : ∀ d j : Nat, 11 ≤ d → d ≤ 14 → (j : Int) < xv C (b + 10) 0 - 1 → xv (mk_rem X4 (b + 10) i) (b + d) j = xv C (b + d) (if i ≤ j then j + 1 else j) := fun d j h1 h2 hj => by
    rw [mk_rem, xv_up_ne _ _ (by omega), mk_sh_v, m4 10 (by omega) (by omega), m4 d (by omega) (by omega)]
    by_cases e2 : i ≤ j
    · rw [if_pos (by omega), if_pos e2]
    · rw [if_neg (by omega), if_neg e2]
  have hcn : NC (mk_rem X4 (b + 10) i) c (xv C b 0) (xv C (b + 12) i) 0 0 (xv C (b + 13) i) (fun _ => xv C (b + 14) i) (fun _ => 0) := by
    have s0 := c_start_c X1 c (f := xv C b 0) (y := xv C (b + 12) i) (v := 0) (s := 0) (by omega) (by omega) (by omega) (by omega)
    rw [hX2] at s0
    have s3 : ∀ d j, 1 ≤ d → d ≤ 4 → j < 10 → xv X2 (c + d) j = 0 := fun d j h1 h2 hj => by rw [← hX2, c_start_z _ _ _ _ _ _ ⟨h1, h2⟩ hj]
    have hl : c_last X2 c - xv C b 0 + 1 = xv C (b + 12) i + 0 := by unfold c_last; rw [s0.1, s0.2.1, s0.2.2.1]; omega
    have hsp := c_spread_at (X := X2) (c := c) (row := 0) (y := xv C b 0) (b := xv C (b + 13) i) (by rw [s0.1]; omega) (by omega) (by omega) (fun j hj => by rw [s3 3 j (by omega) (by omega) hj]; omega) (by rw [s3 4 0 (by omega) (by omega) (by omega)]; omega)
    rw [hX3, hl] at hsp
    have hcc : ∀ j, xv (mk_rem X4 (b + 10) i) c j = xv X2 c j := fun j => by rw [r5 c (by omega), ← hX4, c_putN_o _ _ _ _ (by omega), ← hX3, c_spread_o _ _ _ _ (by omega)]
    refine ⟨⟨by rw [hcc]; exact s0.1, by rw [hcc]; exact s0.2.1, by rw [hcc]; exact s0.2.2.1, by rw [hcc]; exact s0.2.2.2.1, by rw [hcc]; exact s0.2.2.2.2.1, by rw [hcc]; exact s0.2.2.2.2.2⟩, fun j hj => ?_, fun j hj => ?_⟩
    · have pn := c_putN_at (X := X3) (c := c) (f := 0) (v := xv C (b + 14) i) (by omega) (by omega) j (xv C (b + 12) i).toNat (by omega)
      rw [hX4, if_pos (by omega), if_pos (by omega)] at pn
      rw [r5 _ (by omega), r5 _ (by omega)]; exact pn
    · rw [r5 (c + 3) (by omega), r5 (c + 4) (by omega), ← hX4, c_putN_o _ _ _ _ (by omega), c_putN_o _ _ _ _ (by omega), hsp.1 j hj, hsp.2 j, s3 3 j (by omega) (by omega) hj, s3 4 j (by omega) (by omega) hj, if_pos (by omega), Nat.sub_zero]
      exact ⟨by omega, by omega⟩
  rw [he]
  generalize hX5 : mk_rem X4 (b + 10) i = X5 at *
  refine ⟨⟨fun j hj => ?_, ?_⟩, fun y hy => ?_, fun k hk => ?_, ⟨?_, fun q hq => ?_⟩, ⟨?_, fun q hq => ?_⟩, ?_, ?_, fun q hq => ?_⟩
  · rw [e j (by omega) (by omega) (by omega) (by omega) (by omega), zb, if_neg (by omega)]; exact h1 j hj
  · rw [e7, zb, if_pos rfl]
  · rw [e _ (by omega) (by omega) (by omega) (by omega) (by omega), e _ (by omega) (by omega) (by omega) (by omega) (by omega), rA _ (by omega) (by omega) (by omega), rA _ (by omega) (by omega) (by omega)]; exact h3 y hy
  · rw [zb, if_pos rfl] at hk
    by_cases ek : k = z
    · subst ek
      rw [hc]
      exact RC_new hcn en (by omega)
    · have hk2 : (k : Int) < xv C b 10 := by omega
      have hag : cAg C X5 (con b k) := fun d hd => rA _ (by unfold con; omega) (by unfold con; omega) (by unfold con; omega)
      refine ⟨fun j hj => ?_, fun y hy => ?_⟩
      · dsimp only; rw [e _ (by omega) (by omega) (by omega) (by omega) (by omega), hag.z]; exact (h4 k hk2).1 j hj
      · dsimp only; rw [e _ (by omega) (by omega) (by omega) (by omega) (by omega), e _ (by omega) (by omega) (by omega) (by omega) (by omega), e _ (by omega) (by omega) (by omega) (by omega) (by omega), e _ (by omega) (by omega) (by omega) (by omega) (by omega), c_base_ag hag, c_roster_ag hag, c_parts_ag hag, c_given_ag hag]; exact (h4 k hk2).2 y hy
  · rw [e70, hms]
  · rw [hms] at hq
    rw [hmr 11 q (by omega) (by omega) hq, hmr 12 q (by omega) (by omega) hq, hmr 13 q (by omega) (by omega) hq, hmr 14 q (by omega) (by omega) hq]
    by_cases e2 : i ≤ q
    · rw [if_pos e2]
      have a0 := eo q e2 hq 0 (by omega)
      have a1 := eo q e2 hq 1 (by omega)
      have a2 := eo q e2 hq 2 (by omega)
      have a3 := eo q e2 hq 3 (by omega)
      rw [Nat.add_zero, Nat.add_zero] at a0
      rw [a0, a1, a2, a3]; exact h5.2 (q + 1) (by omega)
    · rw [if_neg e2, e _ (by omega) (by omega) (by omega) (by omega) (by omega), e _ (by omega) (by omega) (by omega) (by omega) (by omega), e _ (by omega) (by omega) (by omega) (by omega) (by omega), e _ (by omega) (by omega) (by omega) (by omega) (by omega)]; exact h5.2 q (by omega)
  · rw [e _ (by omega) (by omega) (by omega) (by omega) (by omega), rA _ (by omega) (by omega) (by omega)]; exact h6.1
  · rw [rA (b + 4) (by omega) (by omega) (by omega)] at hq
    rw [e _ (by omega) (by omega) (by omega) (by omega) (by omega), e _ (by omega) (by omega) (by omega) (by omega) (by omega), e _ (by omega) (by omega) (by omega) (by omega) (by omega), e _ (by omega) (by omega) (by omega) (by omega) (by omega), e _ (by omega) (by omega) (by omega) (by omega) (by omega), rA (b + 5) (by omega) (by omega) (by omega), rA (b + 6) (by omega) (by omega) (by omega), rA (b + 7) (by omega) (by omega) (by omega), rA (b + 8) (by omega) (by omega) (by omega), rA (b + 9) (by omega) (by omega) (by omega)]; exact h6.2 q hq
  · rw [e _ (by omega) (by omega) (by omega) (by omega) (by omega), rA _ (by omega) (by omega) (by omega)]; exact h7.1
  · rw [e _ (by omega) (by omega) (by omega) (by omega) (by omega), e _ (by omega) (by omega) (by omega) (by omega) (by omega)]; exact h7.2.1
  · rw [rA (b + 15) (by omega) (by omega) (by omega)] at hq
    rw [e _ (by omega) (by omega) (by omega) (by omega) (by omega), rA (b + 16) (by omega) (by omega) (by omega)]; exact h7.2.2 q hq
