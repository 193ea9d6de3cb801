/-! texts, the past, what is kept -/
def mS (X Xm : q_X) (f : Int) : Prop := xv Xm 467 4 = 0 ∧ xv Xm 467 6 = f ∧ (∀ j, (j = 1 ∨ j = 19 ∨ j = 24 ∨ j = 26) → Xm 467 j = X 467 j) ∧ (∀ j, j < 41140 → Xm 468 j = X 468 j) ∧ ∀ a, a ≠ 467 → a ≠ 468 → a ≠ 471 → a ≠ 472 → Xm a = X a
theorem mX.s {X Xm : q_X} {f : Int} (h : mX X Xm f) : mS X Xm f := ⟨h.1, h.2.1, fun j hj => h.2.2 _ _ (by omega) (by omega), fun j hj => h.2.2 _ _ (by omega) (by omega), fun a a1 a2 _ _ => by funext j; exact h.2.2 _ _ (by omega) (by omega)⟩
theorem mP.s {X Xm : q_X} {f : Int} (h : mP X Xm f) : mS X Xm f := ⟨h.1, h.2.1, fun j hj => h.2.2 _ _ (by omega) (by omega) (by omega), fun j hj => h.2.2 _ _ (by omega) (by omega) (by omega), fun a a1 a2 a3 a4 => by funext j; exact h.2.2 _ _ (by omega) (by omega) (by omega)⟩
theorem JH.p {P P' : q_P} {C Z : q_X} {x : Nat} (h : JH P C Z x) (e : ∀ i, sl P' i = sl P i) : JH P' C Z x := by
  obtain ⟨⟨a1, a2⟩, a3⟩ := h
  refine ⟨⟨a1, fun i hi => (a2 i hi).mv (fun a q => ⟨(e _).trans q, bS.rfl⟩) (fun _ _ => rfl)⟩, fun k hk => ?_⟩
  rcases a3 k hk with q | q
  · exact Or.inl ⟨q.1, (e _).trans q.2⟩
  · exact Or.inr ⟨q.1, q.2.mv (fun a q => ⟨(e _).trans q, bS.rfl⟩) (fun _ _ => rfl)⟩
theorem sl_p {P P' : q_P} (e : ∀ c, c ≠ 0 → P' c = P c) (i : Nat) : sl P' i = sl P i := by
  unfold sl; rw [e 443 (by omega), e 441 (by omega)]
theorem MS_p {n : Nat} {P P' : q_P} (h : MS n P) (e : ∀ c, c ≠ 0 → P' c = P c) : MS n P' := by
  have es := sl_p e
  have ec : cntS P' = cntS P := by unfold cntS; simp only [es]
  refine ⟨by rw [ec]; exact h.1, fun i hi a ha => ?_⟩
  rw [es] at ha
  obtain ⟨h1, h2, h3⟩ := h.2 i hi a ha
  exact ⟨h1, isBk_of h2 (Nat.le_refl _) (fun q hq => e _ (by omega)), fun j hj hne a' ha' => h3 j hj hne a' (by rw [← es]; exact ha')⟩
theorem JS.swap {n : Nat} {P : q_P} {X : q_X} {b d x : Nat} (h : JS n P X b d x) : JS n (q_up (q_up P 0 0 (some d)) 0 1 (some b)) X d b x := by
  have hb := h.b
  have e : ∀ c, c ≠ 0 → (q_up (q_up P 0 0 (some d)) 0 1 (some b)) c = P c := fun c hc => by funext j; rw [q_up_ne _ _ (by omega), q_up_ne _ _ (by omega)]
  have e0 : (q_up (q_up P 0 0 (some d)) 0 1 (some b)) 0 0 = some d := by rw [q_up_ne _ _ (by omega), q_up_same]
  have e1 : (q_up (q_up P 0 0 (some d)) 0 1 (some b)) 0 1 = some b := by rw [q_up_same]
  have e2 : ∀ j, j ≠ 0 → j ≠ 1 → (q_up (q_up P 0 0 (some d)) 0 1 (some b)) 0 j = P 0 j := fun j h1 h2 => by rw [q_up_ne _ _ (by omega), q_up_ne _ _ (by omega)]
  generalize q_up (q_up P 0 0 (some d)) 0 1 (some b) = P' at *
  obtain ⟨a1, a2, a3, a4, a5, a6, a7, a8, a9, a10, a11, a12⟩ := h
  obtain ⟨f1, f2, f3, f4, f5, f6, f7, f8, f9⟩ := a1
  refine ⟨⟨e0, by rw [e2 _ (by omega) (by omega)]; exact f2, by rw [e2 _ (by omega) (by omega)]; exact f3, by rw [e2 _ (by omega) (by omega)]; exact f4, by rw [e2 _ (by omega) (by omega)]; exact f5, by rw [e2 _ (by omega) (by omega)]; exact f6, by rw [e2 _ (by omega) (by omega)]; exact f7, by rw [e2 _ (by omega) (by omega)]; exact f8, f9⟩, isBk_of a6 (Nat.le_refl _) (fun q hq => e _ (by omega)), ⟨by rw [e 442 (by omega)]; exact a3.1, MS_p a3.2.1 e, a3.2.2⟩, by omega, e1, isBk_of a2 (Nat.le_refl _) (fun q hq => e _ (by omega)), ?_, ?_, ?_, ?_, ?_, ?_⟩
  · unfold isRd at a7 ⊢; rw [e 444 (by omega), e 445 (by omega)]; exact a7
  · unfold isTal at a8 ⊢; rw [e 453 (by omega)]; exact a8
  · unfold isCho at a9 ⊢; rw [e 459 (by omega)]; exact a9
  · unfold isAct at a10 ⊢; rw [e 449 (by omega)]; exact a10
  · unfold isByt at a11 ⊢; rw [e 447 (by omega)]; exact a11
  · unfold isMod at a12 ⊢; rw [e 467 (by omega)]; exact a12
theorem pair_text {l : Launch} {g : q_G} {mc mr : q_M} {dc dr : Nat} {n : Nat} {P : q_P} {X : q_X} {Y : q_Y} {b d x : Nat} (hS : JS n P X b d x) (hV : JV P X X b x) {E : q_X} {m : Int}
    (hc : q_Met l g mc dc [.ref (g.1 + 0)] n P X Y (q_gi (fun r' n' P' X' Y' => TDR x b d n P E Y m r' n' P' X' Y')))
    (hr : ∀ n' P' X' Y', isMod n' P' → RB X b (xv X' 468) → (0 ≤ xv X' 467 1 ∧ xv X' 467 1 ≤ 8) → tS X X' (xv X 445 1) → q_Met l g mr dr [.ref (g.1 + 467)] n' P' X' Y' (q_gi (fun r' n2 P2 X2 Y2 => n2 = n' ∧ P2 = P' ∧ Y2 = Y' ∧ ((xv E 444 2 = -1 ∧ RB E d (xv X2 468) ∧ bA E d ∧ r' = m ∧ ∃ Xm, mS X' Xm (-1) ∧ rO (dd Xm 0) X2) ∨ (xv E 444 2 ≠ -1 ∧ r' = -1 ∧ mS X' X2 (xv E 444 2))))))
    (hE : ∀ a, a ≠ 444 → (a < d ∨ d + 220 ≤ a) → xv E a = xv X a) : q_Met l g mc dc [.ref (g.1 + 0)] n P X Y (q_gi (fun r n' P' X' Y' => q_Met l g mr dr [.ref (g.1 + 467)] n' P' X' Y' (q_gi (fun r2 n2 P2 X2 _ => zi r2 = zi r ∧ J n2 P2 X2)))) := by
  have hb := hS.b
  have hbd := hS.2.2.2.1
  have hs := hS.s
  have hM := hS.M
  have hn := hM.n
  have vA := hV.1.1
  have ht := hV.2.2.1
  have hD : 0 ≤ xv X 467 1 ∧ xv X 467 1 ≤ 8 := by rw [hV.2.1.1.1]; exact hs.2.2
  have rE : ∀ a, a ≠ 444 → (a < d ∨ d + 220 ≤ a) → E a = X a := fun a a1 a2 => row_of (hE a a1 a2)
  refine q_Met.mono (fun v N P' X' Y' h => ?_) hc
  obtain ⟨r, e1, h⟩ := h
  refine ⟨r, e1, ?_⟩
  unfold TDR at h
  by_cases hg : xv E 444 2 = -1
  · rw [if_pos hg] at h
    obtain ⟨P1, hp, hP', hr0⟩ := h
    have x0 : ∀ a j, ¬ (a = 445 ∧ j = 1) → ¬ (a = 0 ∧ j = 9) → (q_up (q_up E 445 1 (zi 0)) 0 9 (zi (-1))) a j = E a j := fun a j h1 h2 => by rw [q_up_ne _ _ (by omega), q_up_ne _ _ (by omega)]
    have x5 : xv (q_up (q_up E 445 1 (zi 0)) 0 9 (zi (-1))) 445 1 = 0 := by rw [xv_up_row _ _ _ (by omega), xv_up_same _ _ _ (by omega)]
    have x9 : xv (q_up (q_up E 445 1 (zi 0)) 0 9 (zi (-1))) 0 9 = -1 := xv_up_same _ _ _ (by omega)
    generalize q_up (q_up E 445 1 (zi 0)) 0 9 (zi (-1)) = X0 at *
    have x0r : ∀ a, a ≠ 445 → a ≠ 0 → X0 a = E a := fun a h1 h2 => by funext j; exact x0 a j (by omega) (by omega)
    have x1 : ∀ a, a < 481 → a ≠ 442 → X' a = X0 a := fun a h1 h2 => hp.x (by omega) h1 h2
    have xe : ∀ a, a ≠ 444 → a ≠ 445 → a ≠ 0 → (a < d ∨ d + 220 ≤ a) → X0 a = X a := fun a h1 h2 h3 h4 => by rw [x0r a h2 h3, rE a h1 h4]
    have c1 : ∀ a, a < 481 → a ≠ 442 → a ≠ 444 → a ≠ 445 → a ≠ 0 → (a < d ∨ d + 220 ≤ a) → X' a = X a := fun a h0 h1 h2 h3 h4 h5 => by rw [x1 a h0 h1, xe a h2 h3 h4 h5]
    have c0 : ∀ j, j ≠ 9 → X' 0 j = X 0 j := fun j hj => by rw [x1 0 (by omega) (by omega), x0 0 j (by omega) (by omega), rE 0 (by omega) (by omega)]
    have jS1 : JS N P1 X' b d ((x + 1) % 8) := hS.push hp (xr (xe 442 (by omega) (by omega) (by omega) (by omega))) rfl
    have jS := jS1.swap
    have pe : ∀ c, c ≠ 0 → (q_up (q_up P1 0 0 (some d)) 0 1 (some b)) c = P1 c := fun c hc => by funext j; rw [q_up_ne _ _ (by omega), q_up_ne _ _ (by omega)]
    rw [← hP'] at jS pe
    refine q_Met.mono (fun v2 N2 P2 X2 Y2 h2 => ?_) (hr N P' X' Y' jS.m (by rw [xr (c1 468 (by omega) (by omega) (by omega) (by omega) (by omega) (by omega))]; exact hV.1.2) (by rw [xr (c1 467 (by omega) (by omega) (by omega) (by omega) (by omega) (by omega))]; exact hD) (ht.cg rfl rfl (by rw [xr (c1 467 (by omega) (by omega) (by omega) (by omega) (by omega) (by omega))]) (xr (c1 470 (by omega) (by omega) (by omega) (by omega) (by omega) (by omega)))))
    obtain ⟨r2, f1, rfl, rfl, rfl, h2⟩ := h2
    rcases h2 with ⟨_, k1, k2, k3, Xm, k4, k5⟩ | h2
    · refine ⟨r2, f1, by rw [k3, hr0], ?_⟩
      obtain ⟨m1, m2, m3, m4, m5⟩ := k4
      have z7 : ∀ j, j ≠ 1 → X2 467 j = Xm 467 j := fun j hj => by rw [k5 467 j (by omega) (by omega) (by omega) (by omega), dd_ne _ _ (by omega) (by omega)]
      have z7x : ∀ j, (j = 19 ∨ j = 24 ∨ j = 26) → X2 467 j = X 467 j := fun j hj => by rw [z7 j (by omega), m3 j (by omega), c1 467 (by omega) (by omega) (by omega) (by omega) (by omega) (by omega)]
      have zr : ∀ a, (a < 467 ∨ 477 < a ∨ a = 469 ∨ a = 470) → X2 a = X' a := fun a ha => by
        funext j
        rw [k5 a j (by omega) (by omega) (by omega) (by omega), dd_ne _ _ (by omega) (by omega), m5 a (by omega) (by omega) (by omega) (by omega)]
      have em1 : xv Xm 467 1 = xv X 467 1 := xj (by rw [m3 1 (by omega), c1 467 (by omega) (by omega) (by omega) (by omega) (by omega) (by omega)])
      have ew : ∀ r j, r ≤ 10 → j < 3740 → rw_ Xm r j = rw_ X r j := fun r j h1 h2 => by unfold rw_; exact xj (by rw [m4 _ (by omega), c1 468 (by omega) (by omega) (by omega) (by omega) (by omega) (by omega)])
      have hDm : 0 ≤ xv Xm 467 1 ∧ xv Xm 467 1 ≤ 8 := by rw [em1]; exact hD
      have hsE : bS E X' d := fun q hq h8 => by rw [x1 _ (by omega) (by omega), x0r _ (by omega) (by omega)]
      have jH : JH P1 X' X2 ((x + 1) % 8) := by
        refine hV.2.1.push hM hs.1 hs.2.2 vA hV.1.2 (fun q hq h8 => xe _ (by omega) (by omega) (by omega) (by omega)) (fun i a e hi10 q hq h8 => xe _ (by have := hM.a hi10 e; omega) (by have := hM.a hi10 e; omega) (by have := hM.a hi10 e; omega) (by have := hM.a hi10 e; omega)) (by rw [xr (xe 442 (by omega) (by omega) (by omega) (by omega))]) hp (fun a ha => bS.rfl) rfl ?_ ?_ ?_
        · have q1 : xv X2 467 1 = xv (dd Xm 0) 467 1 := xj (k5 467 1 (by omega) (by omega) (by omega) (by omega))
          rw [q1, dd_1 0 hDm, dd_1 0 hD, em1]
        · intro k hk
          rw [xr (zr 469 (by omega)), xr (c1 469 (by omega) (by omega) (by omega) (by omega) (by omega) (by omega))]
        · intro r j h1 h2 hj
          rw [k5.w ⟨h1, h2⟩ hj, dd_eq hDm (by omega) hj, dd_eq hD (by omega) hj, em1]
          by_cases q1 : r = 3 + (min (xv X 467 1) 7).toNat
          · rw [if_pos q1, if_pos q1]; exact ew _ _ (by omega) hj
          · rw [if_neg q1, if_neg q1]
            by_cases q2 : xv X 467 1 = 8 ∧ 3 ≤ r ∧ r < 10
            · rw [if_pos q2, if_pos q2]; exact ew _ _ (by omega) hj
            · rw [if_neg q2, if_neg q2]; exact ew _ _ h2 hj
      have e45 : xv X' 445 1 = 0 := by rw [xr (x1 445 (by omega) (by omega))]; exact x5
      have jT : JT X' X2 := by
        obtain ⟨t1, ⟨t2, t3, t4⟩, t5⟩ := hV.2.2
        refine ⟨⟨by omega, rfl, by rw [e45, ← m1]; exact xj (z7 4 (by omega)), fun j hj => by omega⟩, ⟨?_, ?_, ?_⟩, ?_⟩
        · rw [xr (x1 0 (by omega) (by omega)), x9, ← m2]; exact xj (z7 6 (by omega))
        · rw [xj (z7x 24 (by omega)), xj (c0 10 (by omega))]; exact t3
        · rw [xj (z7x 19 (by omega)), xj (c0 11 (by omega))]; exact t4
        · rw [xr (c1 447 (by omega) (by omega) (by omega) (by omega) (by omega) (by omega))]
          exact t5.cg (xr (c1 447 (by omega) (by omega) (by omega) (by omega) (by omega) (by omega))) (xr (c1 448 (by omega) (by omega) (by omega) (by omega) (by omega) (by omega))) (xj (z7x 26 (by omega))) (by rw [xr (zr 480 (by omega)), xr (c1 480 (by omega) (by omega) (by omega) (by omega) (by omega) (by omega))])
      have jV : JV P2 X' X2 d ((x + 1) % 8) := ⟨⟨hsE.a k2, k1.bs k2 hsE⟩, jH.p (sl_p pe), jT⟩
      exact ⟨d, b, (x + 1) % 8, jS.x (xr (zr 442 (by omega))), jV.c jS.M hb.2 jS.s.2.2.2 (fun a ha _ => zr a (by omega))⟩
    · exact absurd hg h2.1
  · rw [if_neg hg] at h
    obtain ⟨rfl, rfl, rfl, hX, hr0⟩ := h
    have x0 : ∀ a j, ¬ (a = 445 ∧ j = 1) → ¬ (a = 0 ∧ j = 9) → X' a j = E a j := fun a j h1 h2 => by rw [hX, q_up_ne _ _ (by omega), q_up_ne _ _ (by omega)]
    have x5 : xv X' 445 1 = 0 := by rw [hX, xv_up_row _ _ _ (by omega), xv_up_same _ _ _ (by omega)]
    have x9 : xv X' 0 9 = xv E 444 2 := by rw [hX, xv_up_same _ _ _ (xv_in _ _ _)]
    have xe : ∀ a, a ≠ 444 → a ≠ 445 → a ≠ 0 → (a < d ∨ d + 220 ≤ a) → X' a = X a := fun a h1 h2 h3 h4 => by
      rw [← rE a h1 h4]; funext j; exact x0 a j (by omega) (by omega)
    have c0 : ∀ j, j ≠ 9 → X' 0 j = X 0 j := fun j hj => by rw [x0 0 j (by omega) (by omega), rE 0 (by omega) (by omega)]
    refine q_Met.mono (fun v2 N2 P2 X2 Y2 h2 => ?_) (hr _ _ X' _ hS.m (by rw [xr (xe 468 (by omega) (by omega) (by omega) (by omega))]; exact hV.1.2) (by rw [xr (xe 467 (by omega) (by omega) (by omega) (by omega))]; exact hD) (ht.cg rfl rfl (by rw [xr (xe 467 (by omega) (by omega) (by omega) (by omega))]) (xr (xe 470 (by omega) (by omega) (by omega) (by omega)))))
    obtain ⟨r2, f1, rfl, rfl, rfl, h2⟩ := h2
    rcases h2 with h2 | ⟨_, k1, k2⟩
    · exact absurd h2.1 hg
    · refine ⟨r2, f1, by rw [k1, hr0], ?_⟩
      obtain ⟨m1, m2, m3, m4, m5⟩ := k2
      refine J_bk hS hV (fun a a1 a2 a3 => by rw [m5 a (by omega) (by omega) (by omega) (by omega), xe a (by omega) (by omega) a2 a3]) (fun a a1 => by rw [m5 a (by omega) (by omega) (by omega) (by omega), xe a (by omega) (by omega) (by omega) (by omega)]) (by rw [m3 1 (by omega), xe 467 (by omega) (by omega) (by omega) (by omega)]) (fun j hj => by rw [m4 j hj, xe 468 (by omega) (by omega) (by omega) (by omega)]) (by rw [m5 469 (by omega) (by omega) (by omega) (by omega), xe 469 (by omega) (by omega) (by omega) (by omega)]) ?_
      obtain ⟨t1, ⟨t2, t3, t4⟩, t5⟩ := hV.2.2
      have e45 : xv X2 445 1 = 0 := by rw [xr (m5 445 (by omega) (by omega) (by omega) (by omega))]; exact x5
      have z7x : ∀ j, (j = 19 ∨ j = 24 ∨ j = 26) → X2 467 j = X 467 j := fun j hj => by rw [m3 j (by omega), xe 467 (by omega) (by omega) (by omega) (by omega)]
      refine ⟨⟨by omega, rfl, by rw [e45, m1], fun j hj => by omega⟩, ⟨?_, ?_, ?_⟩, ?_⟩
      · rw [xr (m5 0 (by omega) (by omega) (by omega) (by omega)), x9]; exact m2
      · rw [xj (z7x 24 (by omega)), xr (m5 0 (by omega) (by omega) (by omega) (by omega)), xj (c0 10 (by omega))]; exact t3
      · rw [xj (z7x 19 (by omega)), xr (m5 0 (by omega) (by omega) (by omega) (by omega)), xj (c0 11 (by omega))]; exact t4
      · have q7 : X2 447 = X 447 := by rw [m5 447 (by omega) (by omega) (by omega) (by omega), xe 447 (by omega) (by omega) (by omega) (by omega)]
        rw [xr q7]
        exact t5.cg (xr q7) (xr (by rw [m5 448 (by omega) (by omega) (by omega) (by omega), xe 448 (by omega) (by omega) (by omega) (by omega)])) (xj (z7x 26 (by omega))) (xr (by rw [m5 480 (by omega) (by omega) (by omega) (by omega), xe 480 (by omega) (by omega) (by omega) (by omega)]))
theorem j_text {l : Launch} {g : q_G} {n : Nat} {P : q_P} {X : q_X} {Y : q_Y} (hJ : J n P X) : q_Met l g mX11_text 7 [.ref (g.1 + 0)] n P X Y (q_gi (fun r n' P' X' Y' => q_Met l g mX12_text 7 [.ref (g.1 + 467)] n' P' X' Y' (q_gi (fun r2 n2 P2 X2 _ => zi r2 = zi r ∧ J n2 P2 X2)))) := by
  obtain ⟨b, d, x, hS, hV⟩ := hJ
  obtain ⟨s1, s2, s3, s4, s5, s6, s7, s8, s9, s10, s11, s12⟩ := id hS
  have vA := hV.1.1
  have hb := hS.b
  have o10 := vA.1.2.2.2.2.2.2.2.1
  have hc0 := rdBeg_c (X := X) (d := d) (b := b) vA.1 (Or.inl hb.2.2)
  have hr0 := rdBeg_r (X := X) (d := d) (b := b)
  have hA0 := hc0.a vA
  have e5 : xv (rdBeg X d b) 445 = xv X 445 := rdBeg_o vA.1 (by omega)
  have ht := hV.2.2.1.1
  refine pair_text hS hV (tX11_text s1 s2 vA.1 s3 hS.b.1 s7 s5 s6 s4 hV.2.2.1.1) (fun n' P' X' Y' jm jR jD jT => ?_) (fun a a1 a2 => by rw [rdIts_o ⟨a1, a2⟩ (Or.inl hb.2) _ _ _ (by unfold rOk; rw [hr0.1, e5]; omega) ⟨hA0.1.1, hA0.1.2.2.2.2.2.2.1, hA0.1.2.2.2.2.2.2.2.1⟩, rdBeg_o vA.1 ⟨a1, a2⟩])
  refine q_Met.mono (fun v2 N2 P2 X2 Y2 h2 => ?_) (tX12_text jm (C := X) (b := b) (d := d) vA jR hb.2.2 jD jT)
  obtain ⟨r2, f1, f2, f3, f4, h2⟩ := h2
  refine ⟨r2, f1, f2, f3, f4, ?_⟩
  rcases h2 with ⟨k1, k2, k3, k4, Xm, k5, k6⟩ | ⟨k1, k2, k3⟩
  · exact Or.inl ⟨k1, k2, k3, k4, Xm, k5.s, k6⟩
  · exact Or.inr ⟨k1, k2, k3.s⟩
theorem j_market {l : Launch} {g : q_G} {n : Nat} {P : q_P} {X : q_X} {Y : q_Y} (hJ : J n P X) : q_Met l g mX11_market 5 [.ref (g.1 + 0)] n P X Y (q_gi (fun r n' P' X' Y' => q_Met l g mX12_market 4 [.ref (g.1 + 467)] n' P' X' Y' (q_gi (fun r2 n2 P2 X2 _ => zi r2 = zi r ∧ J n2 P2 X2)))) := by
  obtain ⟨b, d, x, hS, hV⟩ := hJ
  obtain ⟨s1, s2, s3, s4, s5, s6, s7, s8, s9, s10, s11, s12⟩ := id hS
  have vA := hV.1.1
  have hb := hS.b
  skip
  refine pair_text hS hV (tX11_market s1 s2 vA.1 s3 hS.b.1 s7 s5 s6 s4 hV.2.2.1.1) (fun n' P' X' Y' jm jR jD jT => ?_) (fun a a1 a2 => by rw [mkAll_o (by omega), rdBeg_o vA.1 ⟨a1, a2⟩])
  refine q_Met.mono (fun v2 N2 P2 X2 Y2 h2 => ?_) (tX12_market jm (C := X) (b := b) (d := d) vA jR hb.2.2 jD jT)
  obtain ⟨r2, f1, f2, f3, f4, h2⟩ := h2
  refine ⟨r2, f1, f2, f3, f4, ?_⟩
  rcases h2 with ⟨k1, k2, k3, k4, Xm, k5, k6⟩ | ⟨k1, k2, k3⟩
  · exact Or.inl ⟨k1, k2, k3, k4, Xm, k5.s, k6⟩
  · exact Or.inr ⟨k1, k2, k3.s⟩
theorem j_policy {l : Launch} {g : q_G} {n : Nat} {P : q_P} {X : q_X} {Y : q_Y} (hJ : J n P X) : q_Met l g mX11_policy 7 [.ref (g.1 + 0)] n P X Y (q_gi (fun r n' P' X' Y' => q_Met l g mX12_policy 4 [.ref (g.1 + 467)] n' P' X' Y' (q_gi (fun r2 n2 P2 X2 _ => zi r2 = zi r ∧ J n2 P2 X2)))) := by
  obtain ⟨b, d, x, hS, hV⟩ := hJ
  obtain ⟨s1, s2, s3, s4, s5, s6, s7, s8, s9, s10, s11, s12⟩ := id hS
  have vA := hV.1.1
  have hb := hS.b
  skip
  refine pair_text hS hV (tX11_policy s1 s2 vA.1 s3 hS.b.1 s7 s5 s6 s4 hV.2.2.1.1) (fun n' P' X' Y' jm jR jD jT => ?_) (fun a a1 a2 => by rw [fAll_o (by omega), rdBeg_o vA.1 ⟨a1, a2⟩])
  refine q_Met.mono (fun v2 N2 P2 X2 Y2 h2 => ?_) (tX12_policy jm (C := X) (b := b) (d := d) vA jR hb.2.2 jD jT)
  obtain ⟨r2, f1, f2, f3, f4, h2⟩ := h2
  refine ⟨r2, f1, f2, f3, f4, ?_⟩
  rcases h2 with ⟨k1, k2, k3, k4, Xm, k5, k6⟩ | ⟨k1, k2, k3⟩
  · exact Or.inl ⟨k1, k2, k3, k4, Xm, k5.s, k6⟩
  · exact Or.inr ⟨k1, k2, k3.s⟩
