/-! the law, from its start -/
theorem bA_new {X : q_X} {b : Nat} (h : bNew X b) : bA X b := by
  obtain ⟨⟨n0, n1, n2, n3, n4, n5, n6, n10⟩, hl, hz⟩ := h
  have z : ∀ d j, 4 ≤ d → d < 20 → xv X (b + d) j = 0 := fun d j h1 h2 => hz d h1 h2 j
  refine ⟨?_, fun k hk => by rw [n10] at hk; omega, ⟨by rw [z 15 0 (by omega) (by omega)]; omega, ?_⟩⟩
  · unfold bOk
    rw [n0, n1, n2, n3, n4, n5, n6, n10, z 4 0 (by omega) (by omega), z 10 0 (by omega) (by omega)]
    refine ⟨by omega, by omega, by omega, by omega, by omega, by omega, by omega, by omega, fun k hk => by omega, by omega, fun i hi => ⟨Or.inl (z 8 i (by omega) (by omega)), Or.inl (z 9 i (by omega) (by omega))⟩, fun i hi => by omega, by omega, fun i hi => by omega, fun y hy => by rw [(hl y hy).1]; omega⟩
  · rw [z 15 0 (by omega) (by omega)]
    exact fun i hi => absurd hi (Nat.not_lt_zero i)
theorem RB_new {X : q_X} {b : Nat} {R : Nat → Int} (h : bNew X b) (hR : ∀ j, R j = if 10 ≤ j ∧ j < 30 then 100000 else if j = 2 then 150 else if j = 3 then 20 else if j = 4 then 200 else if j = 5 then 20 else if j = 6 then 100 else 0) : RB X b R := by
  obtain ⟨⟨n0, n1, n2, n3, n4, n5, n6, n10⟩, hl, hz⟩ := h
  have z : ∀ d j, 4 ≤ d → d < 20 → xv X (b + d) j = 0 := fun d j h1 h2 => hz d h1 h2 j
  have r0 : ∀ j, (j < 10 ∨ 30 ≤ j) → (j < 2 ∨ 6 < j) → R j = 0 := fun j h1 h2 => by
    rw [hR, if_neg (by omega), if_neg (by omega), if_neg (by omega), if_neg (by omega), if_neg (by omega), if_neg (by omega)]
  refine ⟨⟨fun j hj => ?_, by rw [r0 7 (by omega) (by omega), n10]⟩, fun y hy => ⟨?_, ?_⟩, fun k hk => by rw [n10] at hk; omega, ⟨by rw [r0 _ (by omega) (by omega), z 10 0 (by omega) (by omega)], fun i hi => by rw [z 10 0 (by omega) (by omega)] at hi; omega⟩, ⟨by rw [r0 _ (by omega) (by omega), z 4 0 (by omega) (by omega)], fun i hi => by rw [z 4 0 (by omega) (by omega)] at hi; omega⟩, ⟨by rw [r0 _ (by omega) (by omega), z 15 0 (by omega) (by omega)], by rw [r0 8 (by omega) (by omega), r0 9 (by omega) (by omega)]; omega, fun i hi => by rw [z 15 0 (by omega) (by omega)] at hi; omega⟩⟩
  · have : j = 0 ∨ j = 1 ∨ j = 2 ∨ j = 3 ∨ j = 4 ∨ j = 5 ∨ j = 6 := by omega
    rw [hR]
    rcases this with e | e | e | e | e | e | e <;> subst e
    · rw [n0]; rfl
    · rw [n1]; rfl
    · rw [n2]; rfl
    · rw [n3]; rfl
    · rw [n4]; rfl
    · rw [n5]; rfl
    · rw [n6]; rfl
  · rw [(hl y hy).1, hR, if_pos (by omega)]
  · rw [(hl y hy).2, r0 _ (by omega) (by omega)]
theorem J_ini {P P' : q_P} {X X' : q_X} (ep : ∀ a, a < 467 → P' a = P a) (ex : ∀ a, a < 467 → X' a = X a) (h0 : P 0 0 = some 1 ∧ P 0 1 = some 221 ∧ P 0 2 = some 441 ∧ P 0 3 = some 442 ∧ P 0 4 = some 444 ∧ P 0 5 = some 447 ∧ P 0 6 = some 449 ∧ P 0 7 = some 453 ∧ P 0 8 = some 459) (hb1 : isBk 467 P 1) (hb2 : isBk 467 P 221) (hN : bNew X 1) (h41 : ∀ j, P 441 j = none) (h42 : P 442 0 = some 443 ∧ ∀ j, P 443 j = none) (hx42 : xv X 442 1 = 0 ∧ xv X 442 2 = 0) (h44 : P 444 0 = some 445 ∧ P 445 0 = some 446 ∧ xv X 445 1 = 0) (h47 : P 447 0 = some 448 ∧ xv X 447 1 = 0) (h49 : P 449 1 = some 450 ∧ P 449 2 = some 451 ∧ P 449 3 = some 452) (h53 : P 453 0 = some 454 ∧ P 453 1 = some 455 ∧ P 453 2 = some 456 ∧ P 453 3 = some 457 ∧ P 453 4 = some 458) (h59 : P 459 0 = some 460 ∧ P 459 1 = some 461 ∧ P 459 2 = some 462 ∧ P 459 3 = some 463 ∧ P 459 4 = some 464 ∧ P 459 5 = some 465 ∧ P 459 6 = some 466) (x9 : xv X 0 9 = -1) (x10 : xv X 0 10 = -1) (x11 : xv X 0 11 = 0) (hm : isMod 481 P') (z7 : ∀ j, xv X' 467 j = if j = 6 ∨ j = 24 then -1 else 0) (z8 : ∀ j, xv X' 468 j = if 10 ≤ j ∧ j < 30 then 100000 else if j = 2 then 150 else if j = 3 then 20 else if j = 4 then 200 else if j = 5 then 20 else if j = 6 then 100 else 0) (z9 : ∀ j, xv X' 469 j = 0) : J 481 P' X' := by
  have hsl : ∀ i, sl P' i = none := fun i => by
    unfold sl; rw [ep 443 (by omega), ep 441 (by omega)]; split
    · exact h42.2 _
    · exact h41 _
  have hc0 : cntS P' = 0 := by
    unfold cntS; exact q_sum_0 _ _ (fun i _ _ => by rw [hsl]; rfl)
  have hMS : MS 481 P' := ⟨by rw [hc0]; rfl, fun i hi a ha => by rw [hsl] at ha; cases ha⟩
  have e1 : bNew X' 1 := by
    unfold bNew at hN ⊢
    rw [xr (ex 1 (by omega)), xr (ex (1 + 1) (by omega)), xr (ex (1 + 2) (by omega))]
    exact ⟨hN.1, hN.2.1, fun d h1 h2 j => by rw [xr (ex _ (by omega))]; exact hN.2.2 d h1 h2 j⟩
  have hA := bA_new e1
  have g0 : ∀ j, P' 0 j = P 0 j := fun j => by rw [ep 0 (by omega)]
  refine ⟨1, 221, 0, ⟨⟨by rw [g0]; exact h0.1, by rw [g0]; exact h0.2.2.1, by rw [g0]; exact h0.2.2.2.1, by rw [g0]; exact h0.2.2.2.2.1, by rw [g0]; exact h0.2.2.2.2.2.1, by rw [g0]; exact h0.2.2.2.2.2.2.1, by rw [g0]; exact h0.2.2.2.2.2.2.2.1, by rw [g0]; exact h0.2.2.2.2.2.2.2.2, by omega⟩, isBk_of hb1 (by omega) (fun d hd => ep _ (by omega)), ⟨by rw [ep 442 (by omega)]; exact h42.1, hMS, by omega, by rw [xr (ex 442 (by omega))]; exact hx42.1, by rw [xr (ex 442 (by omega)), hx42.2]; omega, by rw [xr (ex 442 (by omega)), hx42.2]; omega⟩, by omega, by rw [g0]; exact h0.2.1, isBk_of hb2 (by omega) (fun d hd => ep _ (by omega)), ?_, ?_, ?_, ?_, ?_, hm⟩, ⟨hA, RB_new e1 z8⟩, ⟨⟨by rw [z7, if_neg (by omega), xr (ex 442 (by omega)), hx42.2], fun i hi => by rw [xr (ex 442 (by omega)), hx42.2] at hi; omega⟩, fun k hk => Or.inl ⟨z9 k, hsl _⟩⟩, ?_, ⟨?_, ?_, ?_⟩, ?_⟩
  · unfold isRd; rw [ep 444 (by omega), ep 445 (by omega)]; exact ⟨h44.1, h44.2.1, by omega⟩
  · unfold isTal; rw [ep 453 (by omega)]; exact ⟨h53.1, h53.2.1, h53.2.2.1, h53.2.2.2.1, h53.2.2.2.2, by omega⟩
  · unfold isCho; rw [ep 459 (by omega)]; exact ⟨h59.1, h59.2.1, h59.2.2.1, h59.2.2.2.1, h59.2.2.2.2.1, h59.2.2.2.2.2.1, h59.2.2.2.2.2.2, by omega⟩
  · unfold isAct; rw [ep 449 (by omega)]; exact ⟨h49.1, h49.2.1, h49.2.2, by omega⟩
  · unfold isByt; rw [ep 447 (by omega)]; exact ⟨by decide, by decide, h47.1, by omega, by omega⟩
  · have q : xv X' 445 1 = 0 := by rw [xr (ex 445 (by omega))]; exact h44.2.2
    exact ⟨by omega, rfl, by rw [z7, if_neg (by omega), q], fun j hj => by omega⟩
  · rw [z7, if_pos (by omega), xr (ex 0 (by omega)), x9]
  · rw [z7, if_pos (by omega), xr (ex 0 (by omega)), x10]
  · rw [z7, if_neg (by omega), xr (ex 0 (by omega)), x11]
  · have q : xv X' 447 1 = 0 := by rw [xr (ex 447 (by omega))]; exact h47.2
    exact ⟨by omega, rfl, by rw [z7, if_neg (by omega), q], fun j hj => by omega⟩
set_option maxHeartbeats 4000000 in
set_option maxRecDepth 100000 in
theorem xL_law {l : Launch} {g : q_G} {n i : Nat} {P : q_P} {X : q_X} {Y : q_Y} (hL : g.2.2.2.2.2.1 ≤ 3072) (hle : ¬ ((i : Int) ≤ (g.2.2.2.2.2.1 : Int) - 6)) (hi2 : i ≤ g.2.2.2.2.2.1 + 6) (hJ : J n P X) : q_Tr l g mL_law 11 K1 18 [(0, .ref g.2.2.2.2.1), (1, .ref (g.1 + 0)), (2, .ref (g.1 + 467)), (3, .int (zi (i : Int)))] [] n P X Y := by
  have hn := hJ.n
  refine r_iload_n (i := 3) (pc' := 19) dL_law_18 rfl rfl (.tail _ (.tail _ (.tail _ (.head _)))) ?_
  refine r_aload_n (i := 0) (pc' := 20) dL_law_19 rfl rfl (.head _) ?_
  refine r_slen (pc' := 21) dL_law_20 rfl rfl ?_
  refine r_bipush (pc' := 23) dL_law_21 rfl (by decide) ?_
  refine r_isub (pc' := 24) dL_law_23 rfl ?_
  refine r_icmp_gt (t := 1716) (f := 27) dL_law_24 (by decide) rfl (by omega) (by omega) (fun h24 => ?_) (fun h24 => ?_)
  · refine r_iconst (pc' := 1717) dL_law_1716 rfl ?_
    refine r_zreturn dL_law_1717 rfl (by decide) ?_
    exact ⟨rfl, hn.2⟩
  · exfalso; omega
set_option maxHeartbeats 4000000 in
set_option maxRecDepth 100000 in
theorem lL_law {l : Launch} {g : q_G} (hL : g.2.2.2.2.2.1 ≤ 3072) : ∀ (w i n : Nat) (P : q_P) (X : q_X) (Y : q_Y), g.2.2.2.2.2.1 ≤ i + 6 * w → i ≤ g.2.2.2.2.2.1 + 6 → J n P X → q_Tr l g mL_law 11 K1 18 [(0, .ref g.2.2.2.2.1), (1, .ref (g.1 + 0)), (2, .ref (g.1 + 467)), (3, .int (zi (i : Int)))] [] n P X Y := by
  intro w
  induction w with
  | zero =>
    intro i n P X Y hi hi2 hJ
    exact xL_law hL (by omega) hi2 hJ
  | succ w ih =>
    intro i n P X Y hi hi2 hJ
    by_cases hle : (i : Int) ≤ (g.2.2.2.2.2.1 : Int) - 6
    · have hn := hJ.n
      have kk : ∀ n P X Y, J n P X → q_Tr l g mL_law 11 K1 1710 [(0, .ref g.2.2.2.2.1), (1, .ref (g.1 + 0)), (2, .ref (g.1 + 467)), (3, .int (zi (i : Int)))] [] n P X Y := fun n P X Y hJ => by
        have hw := ih (i + 6) n P X Y (by omega) (by omega) hJ
        rw [show ((i + 6 : Nat) : Int) = (i : Int) + 6 by omega] at hw
        refine r_iinc (pc' := 1713) dL_law_1710 rfl rfl (.tail _ (.tail _ (.tail _ (.head _)))) (.s1 (.s1 (.s1 (.here .nil) rfl rfl rfl) rfl rfl rfl) rfl rfl rfl) ?_
        refine r_goto (t := 18) dL_law_1713 (by decide) ?_
        exact hw
      refine r_iload_n (i := 3) (pc' := 19) dL_law_18 rfl rfl (.tail _ (.tail _ (.tail _ (.head _)))) ?_
      refine r_aload_n (i := 0) (pc' := 20) dL_law_19 rfl rfl (.head _) ?_
      refine r_slen (pc' := 21) dL_law_20 rfl rfl ?_
      refine r_bipush (pc' := 23) dL_law_21 rfl (by decide) ?_
      refine r_isub (pc' := 24) dL_law_23 rfl ?_
      refine r_icmp_gt (t := 1716) (f := 27) dL_law_24 (by decide) rfl (by omega) (by omega) (fun h24 => ?_) (fun h24 => ?_)
      · exfalso; omega
      · refine r_aload_n (i := 0) (pc' := 28) dL_law_27 rfl rfl (.head _) ?_
        refine r_iload_n (i := 3) (pc' := 29) dL_law_28 rfl rfl (.tail _ (.tail _ (.tail _ (.head _)))) ?_
        refine r_sld (pc' := 30) dL_law_29 rfl rfl (by omega) (by omega) (by omega) (Int.toNat_natCast _) ?_
        refine r_bipush (pc' := 32) dL_law_30 rfl (by decide) ?_
        obtain ⟨zz, hzz, hzi⟩ : ∃ zz : Int, (zi (g.2.2.2.2.2.2 i).toInt &&& zi 63 : Int32) = zi zz ∧ q_in zz := ⟨_, (zi_of _).symm, q_in_of _⟩
        refine r_iand (pc' := 33) (z := zz) dL_law_32 rfl hzz ?_
        by_cases hs33 : zz < 0 ∨ 54 < zz
        · refine r_tout (t := 1710) dL_law_33 hzi hs33 (by decide) ?_
          exact kk _ _ _ _ hJ
        · have hc33 : zz = 0 ∨ zz = 1 ∨ zz = 2 ∨ zz = 3 ∨ zz = 4 ∨ zz = 5 ∨ zz = 6 ∨ zz = 7 ∨ zz = 8 ∨ zz = 9 ∨ zz = 10 ∨ zz = 11 ∨ zz = 12 ∨ zz = 13 ∨ zz = 14 ∨ zz = 15 ∨ zz = 16 ∨ zz = 17 ∨ zz = 18 ∨ zz = 19 ∨ zz = 20 ∨ zz = 21 ∨ zz = 22 ∨ zz = 23 ∨ zz = 24 ∨ zz = 25 ∨ zz = 26 ∨ zz = 27 ∨ zz = 28 ∨ zz = 29 ∨ zz = 30 ∨ zz = 31 ∨ zz = 32 ∨ zz = 33 ∨ zz = 34 ∨ zz = 35 ∨ zz = 36 ∨ zz = 37 ∨ zz = 38 ∨ zz = 39 ∨ zz = 40 ∨ zz = 41 ∨ zz = 42 ∨ zz = 43 ∨ zz = 44 ∨ zz = 45 ∨ zz = 46 ∨ zz = 47 ∨ zz = 48 ∨ zz = 49 ∨ zz = 50 ∨ zz = 51 ∨ zz = 52 ∨ zz = 53 ∨ zz = 54 := by omega
          rcases hc33 with hc33 | hc33 | hc33 | hc33 | hc33 | hc33 | hc33 | hc33 | hc33 | hc33 | hc33 | hc33 | hc33 | hc33 | hc33 | hc33 | hc33 | hc33 | hc33 | hc33 | hc33 | hc33 | hc33 | hc33 | hc33 | hc33 | hc33 | hc33 | hc33 | hc33 | hc33 | hc33 | hc33 | hc33 | hc33 | hc33 | hc33 | hc33 | hc33 | hc33 | hc33 | hc33 | hc33 | hc33 | hc33 | hc33 | hc33 | hc33 | hc33 | hc33 | hc33 | hc33 | hc33 | hc33 | hc33
          · refine r_tin (t := 268) (off := 235) dL_law_33 hzi (by omega) (by omega) (by rw [hc33]; rfl) (by decide) ?_
            exact cL_feed hL (by omega) hJ kk
          · refine r_tin (t := 331) (off := 298) dL_law_33 hzi (by omega) (by omega) (by rw [hc33]; rfl) (by decide) ?_
            exact cL_end hL (by omega) hJ kk
          · refine r_tin (t := 354) (off := 321) dL_law_33 hzi (by omega) (by omega) (by rw [hc33]; rfl) (by decide) ?_
            exact cL_text hL (by omega) hJ kk
          · refine r_tin (t := 367) (off := 334) dL_law_33 hzi (by omega) (by omega) (by rw [hc33]; rfl) (by decide) ?_
            exact cL_policy hL (by omega) hJ kk
          · refine r_tin (t := 380) (off := 347) dL_law_33 hzi (by omega) (by omega) (by rw [hc33]; rfl) (by decide) ?_
            exact cL_market hL (by omega) hJ kk
          · refine r_tin (t := 393) (off := 360) dL_law_33 hzi (by omega) (by omega) (by rw [hc33]; rfl) (by decide) ?_
            exact cL_acts hL (by omega) hJ kk
          · refine r_tin (t := 406) (off := 373) dL_law_33 hzi (by omega) (by omega) (by rw [hc33]; rfl) (by decide) ?_
            exact cL_fault hL (by omega) hJ kk
          · refine r_tin (t := 419) (off := 386) dL_law_33 hzi (by omega) (by omega) (by rw [hc33]; rfl) (by decide) ?_
            exact cL_ended hL (by omega) hJ kk
          · refine r_tin (t := 432) (off := 399) dL_law_33 hzi (by omega) (by omega) (by rw [hc33]; rfl) (by decide) ?_
            exact cL_why hL (by omega) hJ kk
          · refine r_tin (t := 445) (off := 412) dL_law_33 hzi (by omega) (by omega) (by rw [hc33]; rfl) (by decide) ?_
            exact cL_is hL (by omega) hJ kk
          · refine r_tin (t := 468) (off := 435) dL_law_33 hzi (by omega) (by omega) (by rw [hc33]; rfl) (by decide) ?_
            exact cL_limit hL (by omega) hJ kk
          · refine r_tin (t := 491) (off := 458) dL_law_33 hzi (by omega) (by omega) (by rw [hc33]; rfl) (by decide) ?_
            exact cL_dead hL (by omega) hJ kk
          · refine r_tin (t := 514) (off := 481) dL_law_33 hzi (by omega) (by omega) (by rw [hc33]; rfl) (by decide) ?_
            exact cL_contract hL (by omega) hJ kk
          · refine r_tin (t := 547) (off := 514) dL_law_33 hzi (by omega) (by omega) (by rw [hc33]; rfl) (by decide) ?_
            exact cL_pay hL (by omega) hJ kk
          · refine r_tin (t := 590) (off := 557) dL_law_33 hzi (by omega) (by omega) (by rw [hc33]; rfl) (by decide) ?_
            exact cL_now hL (by omega) hJ kk
          · refine r_tin (t := 613) (off := 580) dL_law_33 hzi (by omega) (by omega) (by rw [hc33]; rfl) (by decide) ?_
            exact cL_would hL (by omega) hJ kk
          · refine r_tin (t := 646) (off := 613) dL_law_33 hzi (by omega) (by omega) (by rw [hc33]; rfl) (by decide) ?_
            exact cL_cut hL (by omega) hJ kk
          · refine r_tin (t := 669) (off := 636) dL_law_33 hzi (by omega) (by omega) (by rw [hc33]; rfl) (by decide) ?_
            exact cL_trade hL (by omega) hJ kk
          · refine r_tin (t := 692) (off := 659) dL_law_33 hzi (by omega) (by omega) (by rw [hc33]; rfl) (by decide) ?_
            exact cL_sign hL (by omega) hJ kk
          · refine r_tin (t := 715) (off := 682) dL_law_33 hzi (by omega) (by omega) (by rw [hc33]; rfl) (by decide) ?_
            exact cL_promise hL (by omega) hJ kk
          · refine r_tin (t := 784) (off := 751) dL_law_33 hzi (by omega) (by omega) (by rw [hc33]; rfl) (by decide) ?_
            exact cL_earn hL (by omega) hJ kk
          · refine r_tin (t := 807) (off := 774) dL_law_33 hzi (by omega) (by omega) (by rw [hc33]; rfl) (by decide) ?_
            exact cL_turn hL (by omega) hJ kk
          · refine r_tin (t := 840) (off := 807) dL_law_33 hzi (by omega) (by omega) (by rw [hc33]; rfl) (by decide) ?_
            exact cL_longer hL (by omega) hJ kk
          · refine r_tin (t := 893) (off := 860) dL_law_33 hzi (by omega) (by omega) (by rw [hc33]; rfl) (by decide) ?_
            exact cL_lower hL (by omega) hJ kk
          · refine r_tin (t := 926) (off := 893) dL_law_33 hzi (by omega) (by omega) (by rw [hc33]; rfl) (by decide) ?_
            exact cL_days hL (by omega) hJ kk
          · refine r_tin (t := 949) (off := 916) dL_law_33 hzi (by omega) (by omega) (by rw [hc33]; rfl) (by decide) ?_
            exact cL_year hL (by omega) hJ kk
          · refine r_tin (t := 962) (off := 929) dL_law_33 hzi (by omega) (by omega) (by rw [hc33]; rfl) (by decide) ?_
            exact cL_says hL (by omega) hJ kk
          · refine r_tin (t := 986) (off := 953) dL_law_33 hzi (by omega) (by omega) (by rw [hc33]; rfl) (by decide) ?_
            exact cL_byPolicy hL (by omega) hJ kk
          · refine r_tin (t := 1009) (off := 976) dL_law_33 hzi (by omega) (by omega) (by rw [hc33]; rfl) (by decide) ?_
            exact cL_set hL (by omega) hJ kk
          · refine r_tin (t := 1042) (off := 1009) dL_law_33 hzi (by omega) (by omega) (by rw [hc33]; rfl) (by decide) ?_
            exact cL_turned hL (by omega) hJ kk
          · refine r_tin (t := 1075) (off := 1042) dL_law_33 hzi (by omega) (by omega) (by rw [hc33]; rfl) (by decide) ?_
            exact cL_ahead hL (by omega) hJ kk
          · refine r_tin (t := 1098) (off := 1065) dL_law_33 hzi (by omega) (by omega) (by rw [hc33]; rfl) (by decide) ?_
            exact cL_bestDay hL (by omega) hJ kk
          · refine r_tin (t := 1121) (off := 1088) dL_law_33 hzi (by omega) (by omega) (by rw [hc33]; rfl) (by decide) ?_
            exact cL_coins hL (by omega) hJ kk
          · refine r_tin (t := 1154) (off := 1121) dL_law_33 hzi (by omega) (by omega) (by rw [hc33]; rfl) (by decide) ?_
            exact cL_freeYear hL (by omega) hJ kk
          · refine r_tin (t := 1177) (off := 1144) dL_law_33 hzi (by omega) (by omega) (by rw [hc33]; rfl) (by decide) ?_
            exact cL_allTurned hL (by omega) hJ kk
          · refine r_tin (t := 1190) (off := 1157) dL_law_33 hzi (by omega) (by omega) (by rw [hc33]; rfl) (by decide) ?_
            exact cL_ranked hL (by omega) hJ kk
          · refine r_tin (t := 1213) (off := 1180) dL_law_33 hzi (by omega) (by omega) (by rw [hc33]; rfl) (by decide) ?_
            exact cL_fit hL (by omega) hJ kk
          · refine r_tin (t := 1246) (off := 1213) dL_law_33 hzi (by omega) (by omega) (by rw [hc33]; rfl) (by decide) ?_
            exact cL_piece hL (by omega) hJ kk
          · refine r_tin (t := 1289) (off := 1256) dL_law_33 hzi (by omega) (by omega) (by rw [hc33]; rfl) (by decide) ?_
            exact cL_lastDay hL (by omega) hJ kk
          · refine r_tin (t := 1322) (off := 1289) dL_law_33 hzi (by omega) (by omega) (by rw [hc33]; rfl) (by decide) ?_
            exact cL_cash hL (by omega) hJ kk
          · refine r_tin (t := 1355) (off := 1322) dL_law_33 hzi (by omega) (by omega) (by rw [hc33]; rfl) (by decide) ?_
            exact cL_allCash hL (by omega) hJ kk
          · refine r_tin (t := 1378) (off := 1345) dL_law_33 hzi (by omega) (by omega) (by rw [hc33]; rfl) (by decide) ?_
            exact cL_tag hL (by omega) hJ kk
          · refine r_tin (t := 1401) (off := 1368) dL_law_33 hzi (by omega) (by omega) (by rw [hc33]; rfl) (by decide) ?_
            exact cL_counted hL (by omega) hJ kk
          · refine r_tin (t := 1424) (off := 1391) dL_law_33 hzi (by omega) (by omega) (by rw [hc33]; rfl) (by decide) ?_
            exact cL_share hL (by omega) hJ kk
          · refine r_tin (t := 1447) (off := 1414) dL_law_33 hzi (by omega) (by omega) (by rw [hc33]; rfl) (by decide) ?_
            exact cL_dearest hL (by omega) hJ kk
          · refine r_tin (t := 1470) (off := 1437) dL_law_33 hzi (by omega) (by omega) (by rw [hc33]; rfl) (by decide) ?_
            exact cL_offer hL (by omega) hJ kk
          · refine r_tin (t := 1503) (off := 1470) dL_law_33 hzi (by omega) (by omega) (by rw [hc33]; rfl) (by decide) ?_
            exact cL_buys hL (by omega) hJ kk
          · refine r_tin (t := 1526) (off := 1493) dL_law_33 hzi (by omega) (by omega) (by rw [hc33]; rfl) (by decide) ?_
            exact cL_promised hL (by omega) hJ kk
          · refine r_tin (t := 1559) (off := 1526) dL_law_33 hzi (by omega) (by omega) (by rw [hc33]; rfl) (by decide) ?_
            exact cL_floor hL (by omega) hJ kk
          · refine r_tin (t := 1592) (off := 1559) dL_law_33 hzi (by omega) (by omega) (by rw [hc33]; rfl) (by decide) ?_
            exact cL_over hL (by omega) hJ kk
          · refine r_tin (t := 1615) (off := 1582) dL_law_33 hzi (by omega) (by omega) (by rw [hc33]; rfl) (by decide) ?_
            exact cL_undo hL (by omega) hJ kk
          · refine r_tin (t := 1628) (off := 1595) dL_law_33 hzi (by omega) (by omega) (by rw [hc33]; rfl) (by decide) ?_
            exact cL_keep hL (by omega) hJ kk
          · refine r_tin (t := 1651) (off := 1618) dL_law_33 hzi (by omega) (by omega) (by rw [hc33]; rfl) (by decide) ?_
            exact cL_restore hL (by omega) hJ kk
          · refine r_tin (t := 1674) (off := 1641) dL_law_33 hzi (by omega) (by omega) (by rw [hc33]; rfl) (by decide) ?_
            exact cL_write hL (by omega) hJ kk
          · refine r_tin (t := 1687) (off := 1654) dL_law_33 hzi (by omega) (by omega) (by rw [hc33]; rfl) (by decide) ?_
            exact cL_octet hL (by omega) hJ kk
    · exact xL_law hL hle hi2 hJ
set_option maxHeartbeats 4000000 in
set_option maxRecDepth 100000 in
theorem lawOk : LawOk := by
  intro l g hL
  refine r_new (pc' := 3) dL_law_0 rfl nL_7 (by decide) ?_
  refine r_dup (pc' := 4) dL_law_3 rfl rfl ?_
  refine r_I0gv (pc' := 7) dL_law_4 rfl lL_9 (by decide) (Nat.le_of_ble_eq_true rfl) (tX11_init (by rfl) (by funext j; exact q_clr_same _ _ _ _)) (fun n4 P4 X4 Y4 e4 le4 => ?_)
  obtain ⟨rfl, i0, ib1, ib2, iN, i41, i42, ix42, i44, i47, i49, i53, i59, i9, i10, i11⟩ := e4
  refine r_astore_n (i := 1) (pc' := 8) dL_law_7 rfl rfl rfl (.s1 .nil rfl rfl rfl) ?_
  refine r_new (pc' := 11) dL_law_8 rfl nL_10 (by decide) ?_
  refine r_dup (pc' := 12) dL_law_11 rfl rfl ?_
  refine r_I0gv (pc' := 15) dL_law_12 rfl lL_12 (by decide) (Nat.le_of_ble_eq_true rfl) (tX12_init (by rfl) (by funext j; exact q_clr_same _ _ _ _)) (fun n12 P12 X12 Y12 e12 le12 => ?_)
  obtain ⟨rfl, im, iag, z7, z8, z9⟩ := e12
  have hJ : J 481 P12 X12 := J_ini (P := P4) (X := X4) (fun a ha => by
    rw [(iag a ha).1]; funext j; exact q_clr_ne _ _ (by omega)) (fun a ha => by
    rw [(iag a ha).2.1]; funext j; exact q_clr_ne _ _ (by omega)) i0 ib1 ib2 iN i41 i42 ix42 i44 i47 i49 i53 i59 i9 i10 i11 im z7 z8 z9
  refine r_astore_n (i := 2) (pc' := 16) dL_law_15 rfl rfl rfl (.s1 (.s1 .nil rfl rfl rfl) rfl rfl rfl) ?_
  refine r_iconst (pc' := 17) dL_law_16 rfl ?_
  refine r_istore_n (i := 3) (pc' := 18) dL_law_17 rfl rfl rfl (.s1 (.s1 (.s1 .nil rfl rfl rfl) rfl rfl rfl) rfl rfl rfl) ?_
  exact lL_law hL 512 0 _ _ _ _ (by omega) (by omega) hJ
