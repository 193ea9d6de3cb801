/-! deeds: the class and the reference do the same -/
theorem JS.push {n n' : Nat} {P P' : q_P} {X X0 X1 X' : q_X} {Y Y' : q_Y} {b d x : Nat} (h : JS n P X b d x) (hp : PU x b n P X0 Y n' P' X1 Y') (h42 : xv X0 442 = xv X 442) (h42' : xv X' 442 = xv X1 442) : JS n' P' X' b d ((x + 1) % 8) := by
  have hM := h.M
  have hs := h.s
  have hn := hM.n
  obtain ⟨a', p1, p2, p3, p4, p5, p6, p7, p8, p9, p10, p11⟩ := hp
  refine h.mv p4 (fun c hc h1 h3 => p5 c (by omega) h3) p3 (by omega) ?_ ?_
  · rw [h42', p10]; omega
  · rw [h42', p11, h42]; omega
theorem JV_deed {n n' : Nat} {P P' : q_P} {C X0 X1 X' Z Zi Z2 : q_X} {Y Y' : q_Y} {b d x : Nat} (hS : JS n P C b d x) (hV : JV P C Z b x) (h0 : ∀ a j, (a < 453 ∨ 466 < a) → a ≠ b + 18 → ¬ (a = 0 ∧ j = 11) → X0 a j = C a j) (hp : PU x b n P X0 Y n' P' X1 Y') (hout : ∀ a, (a < 453 ∨ 466 < a) → (a < b ∨ b + 220 ≤ a) → X' a = X1 a) (hA : bA X' b) (hR : RB X' b (xv Z2 468)) (hi : ∀ a j, ¬ (a = 467 ∧ j = 19) → Zi a j = Z a j) (hz : rO (dd Zi 0) Z2) (h19 : xv Z2 467 19 = xv X' 0 11) : JS n' P' X' b d ((x + 1) % 8) ∧ JV P' X' Z2 b ((x + 1) % 8) := by
  have hb := hS.b
  have hM := hS.M
  have hs := hS.s
  have hn := hM.n
  have r0 : ∀ a, a ≠ 0 → (a < 453 ∨ 466 < a) → a ≠ b + 18 → X0 a = C a := fun a ha h1 h2 => by funext j; exact h0 a j h1 h2 (by omega)
  have x1 : ∀ a, a < 481 → a ≠ 442 → X1 a = X0 a := fun a h1 h2 => hp.x (by omega) h1 h2
  have c1 : ∀ a, a < 449 → a ≠ 0 → a ≠ 442 → (a < b ∨ b + 220 ≤ a) → X' a = C a := fun a a1 a2 a3 a4 => by rw [hout a (by omega) a4, x1 a (by omega) a3, r0 a a2 (by omega) (by omega)]
  have c0 : ∀ j, j ≠ 11 → X' 0 j = C 0 j := fun j hj => by rw [hout 0 (by omega) (by omega), x1 0 (by omega) (by omega), h0 0 j (by omega) (by omega) (by omega)]
  have e42 : X' 442 = X1 442 := hout 442 (by omega) (by omega)
  have z7 : ∀ j, j ≠ 1 → j ≠ 19 → Z2 467 j = Z 467 j := fun j j1 j2 => by
    rw [hz 467 j (by omega) (by omega) (by omega) (by omega), dd_ne _ _ (by omega) (by omega), hi _ _ (by omega)]
  have zr : ∀ a, (a = 469 ∨ a = 470 ∨ a = 480) → Z2 a = Z a := fun a ha => by
    funext j
    rw [hz a j (by omega) (by omega) (by omega) (by omega), dd_ne _ _ (by omega) (by omega), hi _ _ (by omega)]
  have ei : ∀ j, j ≠ 19 → xv Zi 467 j = xv Z 467 j := fun j hj => xj (hi _ _ (by omega))
  have ew : ∀ r j, rw_ Zi r j = rw_ Z r j := fun r j => by unfold rw_; exact xj (hi _ _ (by omega))
  have hDX : 0 ≤ xv Z 467 1 ∧ xv Z 467 1 ≤ 8 := by rw [hV.2.1.1.1]; exact hs.2.2
  have hDi : 0 ≤ xv Zi 467 1 ∧ xv Zi 467 1 ≤ 8 := by rw [ei 1 (by omega)]; exact hDX
  have jS : JS n' P' X' b d ((x + 1) % 8) := hS.push hp (xr (r0 442 (by omega) (by omega) (by omega))) (xr e42)
  have jH : JH P' X' Z2 ((x + 1) % 8) := by
    refine hV.2.1.push hM hs.1 hs.2.2 hV.1.1 hV.1.2 (fun q hq h8 => r0 _ (by omega) (by omega) (by omega)) (fun i a e hi10 q hq h8 => r0 _ (by have := hM.a hi10 e; omega) (by have := hM.a hi10 e; omega) (by have := hM.a hi10 e; omega)) (by rw [xr (r0 442 (by omega) (by omega) (by omega))]) hp (fun a ha q hq h8 => hout _ (by omega) (by omega)) (by rw [xr e42]) ?_ ?_ ?_
    · have q1 : xv Z2 467 1 = xv (dd Zi 0) 467 1 := xj (hz 467 1 (by omega) (by omega) (by omega) (by omega))
      rw [q1, dd_1 0 hDi, dd_1 0 hDX, ei 1 (by omega)]
    · intro k hk
      rw [xr (zr 469 (by omega))]
    · intro r j h1 h2 hj
      rw [hz.w ⟨h1, h2⟩ hj, dd_eq hDi (by omega) hj, dd_eq hDX (by omega) hj, ei 1 (by omega), ew, ew, ew]
  have jT : JT X' Z2 := by
    obtain ⟨t1, ⟨t2, t3, t4⟩, t5⟩ := hV.2.2
    refine ⟨?_, ⟨?_, ?_, h19⟩, ?_⟩
    · rw [xr (c1 445 (by omega) (by omega) (by omega) (by omega))]
      exact t1.cg (xr (c1 445 (by omega) (by omega) (by omega) (by omega))) (xr (c1 446 (by omega) (by omega) (by omega) (by omega))) (xj (z7 4 (by omega) (by omega))) (xr (zr 470 (by omega)))
    · rw [xj (z7 6 (by omega) (by omega)), xj (c0 9 (by omega))]; exact t2
    · rw [xj (z7 24 (by omega) (by omega)), xj (c0 10 (by omega))]; exact t3
    · unfold wS at t5 ⊢
      rw [xr (c1 447 (by omega) (by omega) (by omega) (by omega)), xr (c1 448 (by omega) (by omega) (by omega) (by omega)), xj (z7 26 (by omega) (by omega)), xr (zr 480 (by omega))]; exact t5
  exact ⟨jS, ⟨hA, hR⟩, jH, jT⟩
theorem J_deed {n n' : Nat} {P P' : q_P} {X X0 X1 X' Zi Z2 : q_X} {Y Y' : q_Y} {b d x : Nat} (hS : JS n P X b d x) (hV : JV P X X b x) (h0 : ∀ a j, (a < 453 ∨ 466 < a) → a ≠ b + 18 → ¬ (a = 0 ∧ j = 11) → X0 a j = X a j) (hp : PU x b n P X0 Y n' P' X1 Y') (hout : ∀ a, (a < 453 ∨ 466 < a) → (a < b ∨ b + 220 ≤ a) → X' a = X1 a) (hA : bA X' b) (hR : RB X' b (xv Z2 468)) (hi : ∀ a j, ¬ (a = 467 ∧ j = 19) → Zi a j = X' a j) (hz : rO (dd Zi 0) Z2) (h19 : xv Z2 467 19 = xv X' 0 11) : J n' P' Z2 := by
  have hb := hS.b
  have hs := hS.s
  have hn := hS.M.n
  have e7 : ∀ a, 466 < a → a < 481 → X' a = X a := fun a a1 a2 => by rw [hout a (by omega) (by omega), hp.x (by omega) (by omega) (by omega)]; funext j; exact h0 a j (by omega) (by omega) (by omega)
  have v2 : JV P X X' b x := hV.z hs.2.2.2 ⟨fun j _ => by rw [e7 467 (by omega) (by omega)], fun j _ => by rw [e7 468 (by omega) (by omega)], e7 _ (by omega) (by omega), e7 _ (by omega) (by omega), e7 _ (by omega) (by omega)⟩
  obtain ⟨jS, jV⟩ := JV_deed hS v2 h0 hp hout hA hR hi hz h19
  have zr : ∀ a, (a < 467 ∨ 477 < a) → Z2 a = X' a := fun a ha => by
    funext j
    rw [hz a j (by omega) (by omega) (by omega) (by omega), dd_ne _ _ (by omega) (by omega), hi _ _ (by omega)]
  exact ⟨b, d, (x + 1) % 8, jS.x (xr (zr 442 (by omega))), jV.c jS.M hb.1 jS.s.2.2.2 (fun a ha _ => zr a (by omega))⟩
theorem J_no {n : Nat} {P : q_P} {X : q_X} {b d x : Nat} (v : Int32) (hS : JS n P X b d x) (hV : JV P X X b x) : J n P (q_up (q_up X 0 11 v) 467 19 v) := by
  have hb := hS.b
  have hs := hS.s
  have e : ∀ a j, ¬ (a = 0 ∧ j = 11) → ¬ (a = 467 ∧ j = 19) → (q_up (q_up X 0 11 v) 467 19 v) a j = X a j := fun a j h1 h2 => by rw [q_up_ne _ _ (by omega), q_up_ne _ _ (by omega)]
  have er : ∀ a, a ≠ 0 → a ≠ 467 → (q_up (q_up X 0 11 v) 467 19 v) a = X a := fun a h1 h2 => by funext j; exact e a j (by omega) (by omega)
  have e11 : xv (q_up (q_up X 0 11 v) 467 19 v) 0 11 = v.toInt := by simp only [xv]; rw [q_up_ne _ _ (by omega), q_up_same]
  have e19 : xv (q_up (q_up X 0 11 v) 467 19 v) 467 19 = v.toInt := by simp only [xv]; rw [q_up_same]
  generalize q_up (q_up X 0 11 v) 467 19 v = X2 at *
  obtain ⟨⟨v1, v2⟩, v3, ⟨t1, ⟨t2, t3, t4⟩, t5⟩⟩ := hV
  have hsB : bS X X2 b := fun q hq h8 => er _ (by omega) (by omega)
  refine ⟨b, d, x, hS.x (xr (er 442 (by omega) (by omega))), ⟨hsB.a v1, ?_⟩, v3.mv hs.2.2.2 (by rw [xr (er 442 (by omega) (by omega))]) (fun i a ea hi q hq h8 => er _ (by have := hS.M.a hi ea; omega) (by have := hS.M.a hi ea; omega)) (xj (e 467 1 (by omega) (by omega))) (fun k _ => by rw [xr (er 469 (by omega) (by omega))]) (fun r j _ _ _ => by unfold rw_; rw [xr (er 468 (by omega) (by omega))]), ?_, ⟨?_, ?_, ?_⟩, ?_⟩
  · rw [xr (er 468 (by omega) (by omega))]; exact v2.bs v1 hsB
  · rw [xr (er 445 (by omega) (by omega))]; exact t1.cg (xr (er 445 (by omega) (by omega))) (xr (er 446 (by omega) (by omega))) (xj (e 467 4 (by omega) (by omega))) (xr (er 470 (by omega) (by omega)))
  · rw [xj (e 467 6 (by omega) (by omega)), xj (e 0 9 (by omega) (by omega))]; exact t2
  · rw [xj (e 467 24 (by omega) (by omega)), xj (e 0 10 (by omega) (by omega))]; exact t3
  · rw [e11, e19]
  · unfold wS at t5 ⊢
    rw [xr (er 447 (by omega) (by omega)), xr (er 448 (by omega) (by omega)), xj (e 467 26 (by omega) (by omega)), xr (er 480 (by omega) (by omega))]; exact t5
/-- what a deed leaves as it was -/
theorem DE_s {n n' : Nat} {P P' : q_P} {X X0 X1 X2 : q_X} {Y Y' : q_Y} {b d x : Nat} (hS : JS n P X b d x) (h0 : ∀ a j, ¬ (a = 0 ∧ j = 11) → X0 a j = X a j) (hp : PU x b n P X0 Y n' P' X1 Y') (ho : tOut X1 X2) : bS X X2 b ∧ (∀ a, 466 < a → a < 481 → X2 a = X a) := by
  have hb := hS.b
  have hn := hS.M.n
  have r0 : ∀ a, a ≠ 0 → X0 a = X a := fun a ha => by funext j; exact h0 a j (by omega)
  exact ⟨fun q hq h8 => by rw [ho _ (by omega), hp.x (by omega) (by omega) (by omega), r0 _ (by omega)], fun a a1 a2 => by rw [ho _ (by omega), hp.x (by omega) (by omega) (by omega), r0 _ (by omega)]⟩
theorem pair_deed {l : Launch} {g : q_G} {mc mr : q_M} {dc dr : Nat} {As : List Value} {n : Nat} {P : q_P} {X : q_X} {Y : q_Y} {b d x : Nat} (hS : JS n P X b d x) (hV : JV P X X b x) {G : q_X → Prop} [ic : ∀ C, Decidable (G C)] {W : q_X → Int} {F : q_X → q_X} {R : q_X → Int}
    (hc : q_Met l g mc dc (.ref (g.1 + 0) :: As) n P X Y (q_gi (fun r' n' P' X' Y' => if G X then DE x b n P (q_up X 0 11 (zi 0)) Y F R r' n' P' X' Y' else NO n P (q_up X 0 11 (zi (W X))) Y r' n' P' X' Y')))
    (hr : ∀ n' P' X' Y' C, isMod n' P' → RB C b (xv X' 468) → bA C b → (0 ≤ xv X' 467 1 ∧ xv X' 467 1 ≤ 8) → q_Met l g mr dr (.ref (g.1 + 467) :: As) n' P' X' Y' (q_gi (fun r' n2 P2 X2 Y2 => if G C then rDE (F C) b (R C) n' P' X' Y' r' n2 P2 X2 Y2 else rNO (W C) n' P' X' Y' r' n2 P2 X2 Y2)))
    (hG : ∀ C, bS X C b → (G C ↔ G X))
    (hF : G X → ∀ Z, bS X Z b → bA (F Z) b ∧ ∀ a, (a < b ∨ b + 220 ≤ a) → xv (F Z) a = xv Z a) : q_Met l g mc dc (.ref (g.1 + 0) :: As) n P X Y (q_gi (fun r n' P' X' Y' => q_Met l g mr dr (.ref (g.1 + 467) :: As) n' P' X' Y' (q_gi (fun r2 n2 P2 X2 _ => zi r2 = zi r ∧ J n2 P2 X2)))) := by
  have hb := hS.b
  have hs := hS.s
  have vA := hV.1.1
  have hD : 0 ≤ xv X 467 1 ∧ xv X 467 1 ≤ 8 := by rw [hV.2.1.1.1]; exact hs.2.2
  refine q_Met.mono (fun v N P' X' Y' h => ?_) hc
  obtain ⟨r, e1, h⟩ := h
  refine ⟨r, e1, ?_⟩
  by_cases hg : G X
  · rw [if_pos hg] at h
    obtain ⟨X1, X2, hp, ho, hX, hr0⟩ := h
    have h0 : ∀ a j, ¬ (a = 0 ∧ j = 11) → (q_up X 0 11 (zi 0)) a j = X a j := fun a j q => q_up_ne _ _ (by omega)
    obtain ⟨s2, s7⟩ := DE_s hS h0 hp ho
    obtain ⟨f1, f2⟩ := hF hg X2 s2
    rw [← hX] at f1 f2
    have e7 : ∀ a, 466 < a → a < 481 → X' a = X a := fun a a1 a2 => (row_of (f2 a (by omega))).trans (s7 a a1 a2)
    have hR2 : RB X2 b (xv X' 468) := by rw [xr (e7 468 (by omega) (by omega))]; exact hV.1.2.bs vA s2
    have e42 : xv X' 442 = xv X1 442 := by rw [f2 442 (by omega), xr (ho 442 (by omega))]
    have jm := (hS.push hp (xv_up_row _ _ _ (by omega)) e42).m
    refine q_Met.mono (fun v2 N2 P2 X3 Y2 h2 => ?_) (hr N P' X' Y' X2 jm hR2 (s2.a vA) (by rw [xr (e7 467 (by omega) (by omega))]; exact hD))
    obtain ⟨r2, g1, h2⟩ := h2
    rw [if_pos ((hG X2 s2).mpr hg)] at h2
    obtain ⟨rfl, rfl, rfl, k4, k5, k6⟩ := h2
    refine ⟨r2, g1, by rw [k6, hr0], ?_⟩
    rw [← hX] at k5
    refine J_deed hS hV (fun a j _ _ q => h0 a j q) hp (fun a a1 a2 => (row_of (f2 a a2)).trans (ho a a1)) f1 k5 (Zi := q_up X' 467 19 (zi 0)) (fun a j q => q_up_ne _ _ (by omega)) k4.o ?_
    have q1 : xv X3 467 19 = xv (q_up X' 467 19 (zi 0)) 467 19 := xj (by rw [k4.o 467 19 (by omega) (by omega) (by omega) (by omega), dd_ne _ _ (by omega) (by omega)])
    have q2 : xv X' 0 11 = xv (q_up X 0 11 (zi 0)) 0 11 := by
      rw [f2 0 (by omega)]
      exact xj (by rw [ho 0 (by omega), hp.x hS.M.n.1 (by omega) (by omega)])
    rw [q1, q2, xv_up_same _ _ _ (by omega), xv_up_same _ _ _ (by omega)]
  · rw [if_neg hg] at h
    obtain ⟨rfl, rfl, rfl, rfl, rfl⟩ := h
    refine q_Met.mono (fun v2 N2 P2 X3 Y2 h2 => ?_) (hr _ _ _ _ X hS.m (by rw [xv_up_row _ _ _ (by omega)]; exact hV.1.2) vA (by rw [xv_up_row _ _ _ (by omega)]; exact hD))
    obtain ⟨r2, g1, h2⟩ := h2
    rw [if_neg hg] at h2
    obtain ⟨rfl, rfl, rfl, rfl, rfl⟩ := h2
    exact ⟨-1, g1, rfl, J_no _ hS hV⟩
theorem pair_deedP {l : Launch} {g : q_G} {mc mr : q_M} {dc dr : Nat} {As : List Value} {n : Nat} {P : q_P} {X : q_X} {Y : q_Y} {b d x : Nat} (hS : JS n P X b d x) (hV : JV P X X b x) {G : q_X → Prop} [ic : ∀ C, Decidable (G C)] {F : q_X → q_X} {R : q_X → Int}
    (hc : q_Met l g mc dc (.ref (g.1 + 0) :: As) n P X Y (q_gi (fun r' n' P' X' Y' => if G X then DE x b n P X Y F R r' n' P' X' Y' else NO n P X Y r' n' P' X' Y')))
    (hr : ∀ n' P' X' Y' C, isMod n' P' → RB C b (xv X' 468) → bA C b → (0 ≤ xv X' 467 1 ∧ xv X' 467 1 ≤ 8) → q_Met l g mr dr (.ref (g.1 + 467) :: As) n' P' X' Y' (q_gi (fun r' n2 P2 X2 Y2 => if G C then rDP (F C) b (R C) n' P' X' Y' r' n2 P2 X2 Y2 else rNP n' P' X' Y' r' n2 P2 X2 Y2)))
    (hG : ∀ C, bS X C b → (G C ↔ G X))
    (hF : G X → ∀ Z, bS X Z b → bA (F Z) b ∧ ∀ a, (a < b ∨ b + 220 ≤ a) → xv (F Z) a = xv Z a) : q_Met l g mc dc (.ref (g.1 + 0) :: As) n P X Y (q_gi (fun r n' P' X' Y' => q_Met l g mr dr (.ref (g.1 + 467) :: As) n' P' X' Y' (q_gi (fun r2 n2 P2 X2 _ => zi r2 = zi r ∧ J n2 P2 X2)))) := by
  have hb := hS.b
  have hs := hS.s
  have vA := hV.1.1
  have hD : 0 ≤ xv X 467 1 ∧ xv X 467 1 ≤ 8 := by rw [hV.2.1.1.1]; exact hs.2.2
  refine q_Met.mono (fun v N P' X' Y' h => ?_) hc
  obtain ⟨r, e1, h⟩ := h
  refine ⟨r, e1, ?_⟩
  by_cases hg : G X
  · rw [if_pos hg] at h
    obtain ⟨X1, X2, hp, ho, hX, hr0⟩ := h
    have h0 : ∀ a j, ¬ (a = 0 ∧ j = 11) → X a j = X a j := fun a j q => rfl
    obtain ⟨s2, s7⟩ := DE_s hS h0 hp ho
    obtain ⟨f1, f2⟩ := hF hg X2 s2
    rw [← hX] at f1 f2
    have e7 : ∀ a, 466 < a → a < 481 → X' a = X a := fun a a1 a2 => (row_of (f2 a (by omega))).trans (s7 a a1 a2)
    have hR2 : RB X2 b (xv X' 468) := by rw [xr (e7 468 (by omega) (by omega))]; exact hV.1.2.bs vA s2
    have e42 : xv X' 442 = xv X1 442 := by rw [f2 442 (by omega), xr (ho 442 (by omega))]
    have jm := (hS.push hp rfl e42).m
    refine q_Met.mono (fun v2 N2 P2 X3 Y2 h2 => ?_) (hr N P' X' Y' X2 jm hR2 (s2.a vA) (by rw [xr (e7 467 (by omega) (by omega))]; exact hD))
    obtain ⟨r2, g1, h2⟩ := h2
    rw [if_pos ((hG X2 s2).mpr hg)] at h2
    obtain ⟨rfl, rfl, rfl, k4, k5, k6⟩ := h2
    refine ⟨r2, g1, by rw [k6, hr0], ?_⟩
    rw [← hX] at k5
    refine J_deed hS hV (fun a j _ _ q => h0 a j q) hp (fun a a1 a2 => (row_of (f2 a a2)).trans (ho a a1)) f1 k5 (Zi := X') (fun a j q => rfl) k4.o ?_
    have q1 : xv X3 467 19 = xv X 467 19 := xj (by rw [k4.o 467 19 (by omega) (by omega) (by omega) (by omega), dd_ne _ _ (by omega) (by omega), e7 467 (by omega) (by omega)])
    have q2 : xv X' 0 11 = xv X 0 11 := by
      rw [f2 0 (by omega)]
      exact xj (by rw [ho 0 (by omega), hp.x hS.M.n.1 (by omega) (by omega)])
    rw [q1, q2]; exact hV.2.2.2.1.2.2
  · rw [if_neg hg] at h
    obtain ⟨rfl, rfl, rfl, rfl, rfl⟩ := h
    refine q_Met.mono (fun v2 N2 P2 X3 Y2 h2 => ?_) (hr _ _ _ _ X' hS.m hV.1.2 vA hD)
    obtain ⟨r2, g1, h2⟩ := h2
    rw [if_neg hg] at h2
    obtain ⟨rfl, rfl, rfl, rfl, rfl⟩ := h2
    exact ⟨-1, g1, rfl, ⟨b, d, x, hS, hV⟩⟩
theorem sref_s {X X' : q_X} {b : Nat} (h : bS X X' b) {i : Int} : bk_sref X' b i = bk_sref X b i := by
  unfold bk_sref; rw [h.v 10 (by omega) (by omega), h.v0, h.v 12 (by omega) (by omega)]
theorem pref_s {X X' : q_X} {b : Nat} (h : bS X X' b) (h10 : xv X b 10 ≤ 40) {k v : Int} : bk_pref X' b k v = bk_pref X b k v := by
  unfold bk_pref
  rw [bk_ref_ag h.ag h10, h.v0]
  by_cases e : bk_ref X b k = 0
  · have hh := bk_ref_has e
    rw [c_base_ag (h.ag.c (k := k.toNat) (by omega))]
  · rw [if_pos e, if_pos e]
theorem lref_s {X X' : q_X} {b : Nat} (h : bS X X' b) (h10 : xv X b 10 ≤ 40) {k m v x : Int} : bk_lref X' b k m v x = bk_lref X b k m v x := by
  unfold bk_lref
  rw [bk_ref_ag h.ag h10, h.v0]
  by_cases e : bk_ref X b k = 0
  · have hh := bk_ref_has e
    have hc := h.ag.c (k := k.toNat) (by omega)
    unfold c_last
    rw [hc.z]
  · rw [if_pos e, if_pos e]
theorem prom_s {X X' : q_X} {b : Nat} (h : bS X X' b) (h10 : xv X b 10 ≤ 40) {k y a : Int} : f_promOk X' b k y a ↔ f_promOk X b k y a := by
  unfold f_promOk bk_has
  rw [h.v0, h.v 4 (by omega) (by omega)]
  by_cases e : 0 ≤ k ∧ k < xv X b 10
  · have hc := h.ag.c (k := k.toNat) (by omega)
    rw [hc.z]
  · exact ⟨fun q => absurd q.1 e, fun q => absurd q.1 e⟩
theorem earn_s {X X' : q_X} {b : Nat} (h : bS X X' b) (hO : bOk X b) {i : Int} : f_earnOk X' b i ↔ f_earnOk X b i := by
  obtain ⟨o0, o1, o2, o3, o4, o5, o6, o10, oc, op0, opz, opi, om0, omi, olim⟩ := id hO
  unfold f_earnOk
  rw [h.v0, h.v 4 (by omega) (by omega), h.v 9 (by omega) (by omega), h.v 6 (by omega) (by omega), h.v 5 (by omega) (by omega)]
  by_cases e : 0 ≤ i ∧ i < xv X (b + 4) 0
  · have q := opi i.toNat (by omega)
    have hc := h.ag.c (k := (xv X (b + 5) i.toNat).toNat) (by omega)
    rw [hc.z]
  · exact ⟨fun q => absurd ⟨q.1, q.2.1⟩ e, fun q => absurd ⟨q.1, q.2.1⟩ e⟩
theorem bk_take_out {X : q_X} {b i a : Nat} (h0 : 0 ≤ xv X b 10) (h : xv X b 10 < 40) (ha : a < b ∨ b + 220 ≤ a) : xv (bk_take X b i) a = xv X a := by
  unfold bk_take mk_rem
  rw [xv_up_row _ _ _ (by omega), mk_sh_o _ _ _ _ (by omega), c_putN_o _ _ _ _ (by unfold con; omega), bk_t3, c_spread_out (by unfold con; omega), c_start_o _ _ _ _ _ _ (by unfold con; omega), xv_up_row _ _ _ (by omega)]
theorem j_cut {l : Launch} {g : q_G} {n : Nat} {P : q_P} {X : q_X} {Y : q_Y} (hJ : J n P X) {a1 : Int} (h1 : q_in a1) : q_Met l g mX11_cut 6 [.ref (g.1 + 0), .int (zi a1)] n P X Y (q_gi (fun r n' P' X' Y' => q_Met l g mX12_cut 5 [.ref (g.1 + 467), .int (zi a1)] n' P' X' Y' (q_gi (fun r2 n2 P2 X2 _ => zi r2 = zi r ∧ J n2 P2 X2)))) := by
  obtain ⟨b, d, x, hS, hV⟩ := hJ
  obtain ⟨s1, s2, s3, s4, s5, s6, s7, s8, s9, s10, s11, s12⟩ := id hS
  have vA := hV.1.1
  have o10 := vA.1.2.2.2.2.2.2.2.1
  refine pair_deed hS hV (G := fun C => bk_ref C b a1 = 0) (W := fun C => bk_ref C b a1) (tX11_cut s1 s2 vA.1 s3 hS.b.1 h1) (fun n' P' X' Y' C jm jR jA jD => tX12_cut jm jR jA.1 h1 jA.2.2.1.2 jD) (fun C hs => ?_) (fun hg Z hs => ?_)
  · show bk_ref C b a1 = 0 ↔ bk_ref X b a1 = 0
    rw [bk_ref_ag hs.ag o10.2]
  · skip
    have hh := bk_ref_has hg
    exact ⟨bA_rel 0 (hs.a vA) (by rw [bk_ref_ag hs.ag o10.2]; exact hg), fun a ha => bk_rel_o (by omega) (by unfold con; omega)⟩
theorem j_trade {l : Launch} {g : q_G} {n : Nat} {P : q_P} {X : q_X} {Y : q_Y} (hJ : J n P X) {a1 : Int} (h1 : q_in a1) : q_Met l g mX11_trade 6 [.ref (g.1 + 0), .int (zi a1)] n P X Y (q_gi (fun r n' P' X' Y' => q_Met l g mX12_trade 4 [.ref (g.1 + 467), .int (zi a1)] n' P' X' Y' (q_gi (fun r2 n2 P2 X2 _ => zi r2 = zi r ∧ J n2 P2 X2)))) := by
  obtain ⟨b, d, x, hS, hV⟩ := hJ
  obtain ⟨s1, s2, s3, s4, s5, s6, s7, s8, s9, s10, s11, s12⟩ := id hS
  have vA := hV.1.1
  have o10 := vA.1.2.2.2.2.2.2.2.1
  refine pair_deed hS hV (G := fun C => bk_ref C b a1 = 0) (W := fun C => bk_ref C b a1) (tX11_trade s1 s2 vA.1 s3 hS.b.1 h1) (fun n' P' X' Y' C jm jR jA jD => tX12_trade jm jR jA.1 h1 jA.2.2.1.2 jD) (fun C hs => ?_) (fun hg Z hs => ?_)
  · show bk_ref C b a1 = 0 ↔ bk_ref X b a1 = 0
    rw [bk_ref_ag hs.ag o10.2]
  · skip
    have hh := bk_ref_has hg
    exact ⟨bA_rel 1 (hs.a vA) (by rw [bk_ref_ag hs.ag o10.2]; exact hg), fun a ha => bk_rel_o (by omega) (by unfold con; omega)⟩
theorem j_sign {l : Launch} {g : q_G} {n : Nat} {P : q_P} {X : q_X} {Y : q_Y} (hJ : J n P X) {a1 : Int} (h1 : q_in a1) : q_Met l g mX11_sign 5 [.ref (g.1 + 0), .int (zi a1)] n P X Y (q_gi (fun r n' P' X' Y' => q_Met l g mX12_sign 5 [.ref (g.1 + 467), .int (zi a1)] n' P' X' Y' (q_gi (fun r2 n2 P2 X2 _ => zi r2 = zi r ∧ J n2 P2 X2)))) := by
  obtain ⟨b, d, x, hS, hV⟩ := hJ
  obtain ⟨s1, s2, s3, s4, s5, s6, s7, s8, s9, s10, s11, s12⟩ := id hS
  have vA := hV.1.1
  have o10 := vA.1.2.2.2.2.2.2.2.1
  refine pair_deed hS hV (G := fun C => bk_sref C b a1 = 0) (W := fun C => bk_sref C b a1) (tX11_sign s1 s2 vA.1 s3 hS.b.1 h1) (fun n' P' X' Y' C jm jR jA jD => tX12_sign jm jR jA.1 jA.2.2.1.2 jD h1) (fun C hs => ?_) (fun hg Z hs => ?_)
  · show bk_sref C b a1 = 0 ↔ bk_sref X b a1 = 0
    rw [sref_s hs]
  · skip
    obtain ⟨i, rfl⟩ : ∃ i : Nat, a1 = (i : Int) := ⟨a1.toNat, by have := bk_sref_0 hg; omega⟩
    rw [Int.toNat_natCast]
    have hq : bk_sref Z b (i : Int) = 0 := by rw [sref_s hs]; exact hg
    have ht := bk_take_sr hq
    exact ⟨bA_take (hs.a vA) hq, fun a ha => bk_take_out (by rw [hs.v0]; exact o10.1) ht.2.1 ha⟩
theorem j_turn {l : Launch} {g : q_G} {n : Nat} {P : q_P} {X : q_X} {Y : q_Y} (hJ : J n P X) {a1 a2 : Int} (h1 : q_in a1) (h2 : q_in a2) : q_Met l g mX11_turn 4 [.ref (g.1 + 0), .int (zi a1), .int (zi a2)] n P X Y (q_gi (fun r n' P' X' Y' => q_Met l g mX12_turn 5 [.ref (g.1 + 467), .int (zi a1), .int (zi a2)] n' P' X' Y' (q_gi (fun r2 n2 P2 X2 _ => zi r2 = zi r ∧ J n2 P2 X2)))) := by
  obtain ⟨b, d, x, hS, hV⟩ := hJ
  obtain ⟨s1, s2, s3, s4, s5, s6, s7, s8, s9, s10, s11, s12⟩ := id hS
  have vA := hV.1.1
  have o10 := vA.1.2.2.2.2.2.2.2.1
  refine pair_deed hS hV (G := fun C => bk_pref C b a1 a2 = 0) (W := fun C => bk_pref C b a1 a2) (tX11_turn s1 s2 vA.1 s3 hS.b.1 h1 h2) (fun n' P' X' Y' C jm jR jA jD => tX12_turn jm jR jA.1 h1 jA.2.2.1.2 jD h2) (fun C hs => ?_) (fun hg Z hs => ?_)
  · show bk_pref C b a1 a2 = 0 ↔ bk_pref X b a1 a2 = 0
    rw [pref_s hs o10.2]
  · skip
    have hh := bk_ref_has (bk_pref_ref hg).1
    exact ⟨bA_turn (hs.a vA) (by rw [pref_s hs o10.2]; exact hg), fun a ha => bk_turn_o (by unfold con; omega)⟩
theorem j_lower {l : Launch} {g : q_G} {n : Nat} {P : q_P} {X : q_X} {Y : q_Y} (hJ : J n P X) {a1 a2 : Int} (h1 : q_in a1) (h2 : q_in a2) : q_Met l g mX11_lower 4 [.ref (g.1 + 0), .int (zi a1), .int (zi a2)] n P X Y (q_gi (fun r n' P' X' Y' => q_Met l g mX12_lower 5 [.ref (g.1 + 467), .int (zi a1), .int (zi a2)] n' P' X' Y' (q_gi (fun r2 n2 P2 X2 _ => zi r2 = zi r ∧ J n2 P2 X2)))) := by
  obtain ⟨b, d, x, hS, hV⟩ := hJ
  obtain ⟨s1, s2, s3, s4, s5, s6, s7, s8, s9, s10, s11, s12⟩ := id hS
  have vA := hV.1.1
  have o10 := vA.1.2.2.2.2.2.2.2.1
  refine pair_deed hS hV (G := fun C => bk_pref C b a1 a2 = 0) (W := fun C => bk_pref C b a1 a2) (tX11_lower s1 s2 vA.1 s3 hS.b.1 h1 h2) (fun n' P' X' Y' C jm jR jA jD => tX12_lower jm jR jA.1 h1 jA.2.2.1.2 jD h2) (fun C hs => ?_) (fun hg Z hs => ?_)
  · show bk_pref C b a1 a2 = 0 ↔ bk_pref X b a1 a2 = 0
    rw [pref_s hs o10.2]
  · skip
    have hh := bk_ref_has (bk_pref_ref hg).1
    exact ⟨bA_low (hs.a vA) (by rw [pref_s hs o10.2]; exact hg), fun a ha => bk_low_o (by unfold con; omega)⟩
theorem j_longer {l : Launch} {g : q_G} {n : Nat} {P : q_P} {X : q_X} {Y : q_Y} (hJ : J n P X) {a1 a2 a3 a4 : Int} (h1 : q_in a1) (h2 : q_in a2) (h3 : q_in a3) (h4 : q_in a4) : q_Met l g mX11_longer 4 [.ref (g.1 + 0), .int (zi a1), .int (zi a2), .int (zi a3), .int (zi a4)] n P X Y (q_gi (fun r n' P' X' Y' => q_Met l g mX12_longer 5 [.ref (g.1 + 467), .int (zi a1), .int (zi a2), .int (zi a3), .int (zi a4)] n' P' X' Y' (q_gi (fun r2 n2 P2 X2 _ => zi r2 = zi r ∧ J n2 P2 X2)))) := by
  obtain ⟨b, d, x, hS, hV⟩ := hJ
  obtain ⟨s1, s2, s3, s4, s5, s6, s7, s8, s9, s10, s11, s12⟩ := id hS
  have vA := hV.1.1
  have o10 := vA.1.2.2.2.2.2.2.2.1
  refine pair_deed hS hV (G := fun C => bk_lref C b a1 a2 a3 a4 = 0) (W := fun C => bk_lref C b a1 a2 a3 a4) (tX11_longer s1 s2 vA.1 s3 hS.b.1 h1 h2 h3 h4) (fun n' P' X' Y' C jm jR jA jD => tX12_longer jm jR jA.1 h1 jA.2.2.1.2 jD jA.2.1 h2 h3 h4) (fun C hs => ?_) (fun hg Z hs => ?_)
  · show bk_lref C b a1 a2 a3 a4 = 0 ↔ bk_lref X b a1 a2 a3 a4 = 0
    rw [lref_s hs o10.2]
  · skip
    have hh := bk_ref_has (bk_lref_ref hg).1
    refine ⟨bA_long (hs.a vA) (by rw [lref_s hs o10.2]; exact hg), fun a ha => ?_⟩
    unfold bk_long
    rw [c_spread_out (by unfold con; omega), bk_ext_o (by unfold con; omega)]
theorem j_days {l : Launch} {g : q_G} {n : Nat} {P : q_P} {X : q_X} {Y : q_Y} (hJ : J n P X) {a1 : Int} (h1 : q_in a1) : q_Met l g mX11_days 4 [.ref (g.1 + 0), .int (zi a1)] n P X Y (q_gi (fun r n' P' X' Y' => q_Met l g mX12_days 2 [.ref (g.1 + 467), .int (zi a1)] n' P' X' Y' (q_gi (fun r2 n2 P2 X2 _ => zi r2 = zi r ∧ J n2 P2 X2)))) := by
  obtain ⟨b, d, x, hS, hV⟩ := hJ
  obtain ⟨s1, s2, s3, s4, s5, s6, s7, s8, s9, s10, s11, s12⟩ := id hS
  have vA := hV.1.1
  have o10 := vA.1.2.2.2.2.2.2.2.1
  refine pair_deed hS hV (G := fun C => 1 ≤ a1 ∧ a1 ≤ 364 - xv C b 1) (W := fun C => 4) (tX11_days s1 s2 vA.1 s3 hS.b.1 h1) (fun n' P' X' Y' C jm jR jA jD => tX12_days jm jR jA.1 jA.2.2.1.2 jD h1) (fun C hs => ?_) (fun hg Z hs => ?_)
  · show 1 ≤ a1 ∧ a1 ≤ 364 - xv C b 1 ↔ 1 ≤ a1 ∧ a1 ≤ 364 - xv X b 1
    rw [hs.v0]
  · skip
    exact ⟨bA_days (hs.a vA) (by rw [hs.v0]; exact hg), fun a ha => xv_up_row _ _ _ (by omega)⟩
theorem j_year {l : Launch} {g : q_G} {n : Nat} {P : q_P} {X : q_X} {Y : q_Y} (hJ : J n P X) : q_Met l g mX11_year 4 [.ref (g.1 + 0)] n P X Y (q_gi (fun r n' P' X' Y' => q_Met l g mX12_year 7 [.ref (g.1 + 467)] n' P' X' Y' (q_gi (fun r2 n2 P2 X2 _ => zi r2 = zi r ∧ J n2 P2 X2)))) := by
  obtain ⟨b, d, x, hS, hV⟩ := hJ
  obtain ⟨s1, s2, s3, s4, s5, s6, s7, s8, s9, s10, s11, s12⟩ := id hS
  have vA := hV.1.1
  have o10 := vA.1.2.2.2.2.2.2.2.1
  refine pair_deed hS hV (G := fun C => xv C b 0 < 19) (W := fun C => 7) (tX11_year s1 s2 vA.1 s3 hS.b.1 s8) (fun n' P' X' Y' C jm jR jA jD => tX12_year jm jR jA.1 jA.2.2.1.2 jD jA.2.1) (fun C hs => ?_) (fun hg Z hs => ?_)
  · show xv C b 0 < 19 ↔ xv X b 0 < 19
    rw [hs.v0]
  · skip
    exact ⟨bA_year (hs.a vA) (by rw [hs.v0]; exact hg), fun a ha => bk_year_o (by rw [hs.v0]; exact o10.2) ha⟩
theorem j_promise {l : Launch} {g : q_G} {n : Nat} {P : q_P} {X : q_X} {Y : q_Y} (hJ : J n P X) {a1 a2 a3 a4 : Int} (h1 : q_in a1) (h2 : q_in a2) (h3 : q_in a3) (h4 : a4 = 0 ∨ a4 = 1) : q_Met l g mX11_promise 4 [.ref (g.1 + 0), .int (zi a1), .int (zi a2), .int (zi a3), .int (zi a4)] n P X Y (q_gi (fun r n' P' X' Y' => q_Met l g mX12_promise 3 [.ref (g.1 + 467), .int (zi a1), .int (zi a2), .int (zi a3), .int (zi a4)] n' P' X' Y' (q_gi (fun r2 n2 P2 X2 _ => zi r2 = zi r ∧ J n2 P2 X2)))) := by
  obtain ⟨b, d, x, hS, hV⟩ := hJ
  obtain ⟨s1, s2, s3, s4, s5, s6, s7, s8, s9, s10, s11, s12⟩ := id hS
  have vA := hV.1.1
  have o10 := vA.1.2.2.2.2.2.2.2.1
  refine pair_deedP hS hV (G := fun C => f_promOk C b a1 a2 a3) (tX11_promise s1 s2 vA.1 s3 hS.b.1 h1 h2 h3 h4) (fun n' P' X' Y' C jm jR jA jD => tX12_promise jm jR jA.1 jA.2.2.1.2 jD h1 h2 h3 h4) (fun C hs => ?_) (fun hg Z hs => ?_)
  · skip
    exact prom_s hs o10.2
  · skip
    refine ⟨bA_add (hs.a vA) ((prom_s hs o10.2).mpr hg) h4, fun a ha => ?_⟩
    unfold pr_add
    simp (disch := omega) only [xv_up_row]
theorem j_earn {l : Launch} {g : q_G} {n : Nat} {P : q_P} {X : q_X} {Y : q_Y} (hJ : J n P X) {a1 : Int} (h1 : q_in a1) : q_Met l g mX11_earn 4 [.ref (g.1 + 0), .int (zi a1)] n P X Y (q_gi (fun r n' P' X' Y' => q_Met l g mX12_earn 3 [.ref (g.1 + 467), .int (zi a1)] n' P' X' Y' (q_gi (fun r2 n2 P2 X2 _ => zi r2 = zi r ∧ J n2 P2 X2)))) := by
  obtain ⟨b, d, x, hS, hV⟩ := hJ
  obtain ⟨s1, s2, s3, s4, s5, s6, s7, s8, s9, s10, s11, s12⟩ := id hS
  have vA := hV.1.1
  have o10 := vA.1.2.2.2.2.2.2.2.1
  refine pair_deedP hS hV (G := fun C => f_earnOk C b a1) (tX11_earn s1 s2 vA.1 s3 hS.b.1 h1) (fun n' P' X' Y' C jm jR jA jD => tX12_earn jm jR jA.1 jA.2.2.1.2 jD h1) (fun C hs => ?_) (fun hg Z hs => ?_)
  · skip
    exact earn_s hs vA.1
  · skip
    exact ⟨bA_earn (hs.a vA) ((earn_s hs vA.1).mpr hg), fun a ha => xv_up_row _ _ _ (by omega)⟩
