/-! the law: the class and the reference, side by side -/
theorem RB.bs {C C' : q_X} {b : Nat} {R : Nat → Int} (h : RB C b R) (hA : bA C b) (hs : bS C C' b) : RB C' b R := RB_bC h hA.1 hA.2.2.1.2 (hs.c hA.1.2.2.2.2.2.2.2.1.2)
theorem RB.rw {C : q_X} {b : Nat} {R R' : Nat → Int} (h : RB C b R) (hA : bA C b) (e : ∀ j, j < 3740 → R' j = R j) : RB C b R' := h.cg hA.1 hA.2.2.1.2 e
/-- books of the past or kept: there and here -/
def SlR (P : q_P) (C Z : q_X) (i r : Nat) : Prop := ∃ a, sl P i = some a ∧ bA C a ∧ RB C a (rw_ Z r)
theorem SlR.mv {P P' : q_P} {C C' Z Z' : q_X} {i r r' : Nat} (h : SlR P C Z i r) (hp : ∀ a, sl P i = some a → sl P' i = some a ∧ bS C C' a) (hz : ∀ j, j < 3740 → rw_ Z' r' j = rw_ Z r j) : SlR P' C' Z' i r' := by
  obtain ⟨a, h1, h2, h3⟩ := h
  obtain ⟨q1, q2⟩ := hp a h1
  exact ⟨a, q1, q2.a h2, (h3.bs h2 q2).rw (q2.a h2) hz⟩
def hix (x : Nat) (s : Int) (i : Nat) : Nat := (x + 8 - s.toNat + i) % 8
def JH (P : q_P) (C Z : q_X) (x : Nat) : Prop := (xv Z 467 1 = xv C 442 2 ∧ ∀ i : Nat, (i : Int) < xv C 442 2 → SlR P C Z (hix x (xv C 442 2) i) (3 + i)) ∧ ∀ k, k < 2 → (xv Z 469 k = 0 ∧ sl P (8 + k) = none) ∨ (¬ xv Z 469 k = 0 ∧ SlR P C Z (8 + k) (1 + k))
theorem JH.mv {P : q_P} {C C' Z Z' : q_X} {x : Nat} (h : JH P C Z x) (hsz : xv C 442 2 ≤ 8) (hc : xv C' 442 2 = xv C 442 2) (hs : ∀ i a, sl P i = some a → i < 10 → bS C C' a) (h1 : xv Z' 467 1 = xv Z 467 1) (h9 : ∀ k, k < 2 → xv Z' 469 k = xv Z 469 k) (hz : ∀ r j, 1 ≤ r → r ≤ 10 → j < 3740 → rw_ Z' r j = rw_ Z r j) : JH P C' Z' x := by
  obtain ⟨⟨a1, a2⟩, a3⟩ := h
  refine ⟨⟨by rw [h1, hc, a1], fun i hi => ?_⟩, fun k hk => ?_⟩
  · rw [hc] at hi ⊢
    have hx : hix x (xv C 442 2) i < 10 := by unfold hix; omega
    exact (a2 i hi).mv (fun a q => ⟨q, hs _ a q hx⟩) (fun j hj => hz _ j (by omega) (by omega) hj)
  · rw [h9 k hk]
    rcases a3 k hk with q | q
    · exact Or.inl q
    · exact Or.inr ⟨q.1, q.2.mv (fun a e => ⟨e, hs _ a e (by omega)⟩) (fun j hj => hz _ j (by omega) (by omega) hj)⟩
theorem JH.push {n n' : Nat} {P P' : q_P} {C X0 X1 C' Z Z' : q_X} {Y Y' : q_Y} {b x : Nat} (h : JH P C Z x) (hM : MS n P) (hx : x < 8) (hsz : 0 ≤ xv C 442 2 ∧ xv C 442 2 ≤ 8) (hA : bA C b) (hR : RB C b (xv Z 468)) (hb0 : bS C X0 b) (hs0 : ∀ i a, sl P i = some a → i < 10 → bS C X0 a) (h42 : xv X0 442 2 = xv C 442 2) (hp : PU x b n P X0 Y n' P' X1 Y') (hs1 : ∀ a, 481 ≤ a → bS X1 C' a) (h42' : xv C' 442 2 = xv X1 442 2) (h1 : xv Z' 467 1 = xv (dd Z 0) 467 1) (h9 : ∀ k, k < 2 → xv Z' 469 k = xv Z 469 k) (hz : ∀ r j, 1 ≤ r → r ≤ 10 → j < 3740 → rw_ Z' r j = rw_ (dd Z 0) r j) : JH P' C' Z' ((x + 1) % 8) := by
  have hn := hM.n
  have hk := fun {j a : Nat} => hp.k hM hx (j := j) (a := a)
  obtain ⟨a', p1, p2, p3, p4, p5, p6, p7, p8, p9, p10, p11⟩ := hp
  obtain ⟨⟨a1, a2⟩, a3⟩ := h
  have hD : 0 ≤ xv Z 467 1 ∧ xv Z 467 1 ≤ 8 := by rw [a1]; exact hsz
  have e1 := dd_1 (X := Z) 0 hD
  have e4 : xv C' 442 2 = min 8 (xv C 442 2 + 1) := by rw [h42', p11, h42]
  have slx : sl P' x = some a' := by unfold sl; rw [if_pos (by omega)]; exact p1
  have hA0 := hb0.a hA
  have hcp : bC X0 b X1 a' := p9
  have hA1 := hcp.a hA0
  have hAn := (hs1 a' (by omega)).a hA1
  have hRn : RB C' a' (xv Z 468) := (RB_bC (hR.bs hA hb0) hA0.1 hA0.2.2.1.2 hcp).bs hA1 (hs1 a' (by omega))
  have old : ∀ j r r', j < 10 → j ≠ x → SlR P C Z j r → (∀ q, q < 3740 → rw_ Z' r' q = rw_ Z r q) → SlR P' C' Z' j r' := fun j r r' hj hjx hS hq => by
    obtain ⟨a, s1, s2, s3⟩ := hS
    obtain ⟨k1, k2, k3, k4⟩ := hk hj hjx s1
    have q1 : bS C C' a := ((hs0 j a s1 hj).trans k3.s).trans (hs1 a k4)
    exact ⟨a, k1, q1.a s2, (s3.bs s2 q1).rw (q1.a s2) hq⟩
  obtain ⟨s, hs⟩ : ∃ s : Nat, xv C 442 2 = (s : Int) := ⟨(xv C 442 2).toNat, by omega⟩
  refine ⟨⟨by rw [h1, e1, e4, a1]; omega, fun i hi => ?_⟩, fun k hk2 => ?_⟩
  · rw [e4, hs] at hi
    rw [e4, hs]
    by_cases e : i = min s 7
    · have ex : hix ((x + 1) % 8) (min 8 ((s : Int) + 1)) i = x := by unfold hix; omega
      rw [ex]
      refine ⟨a', slx, hAn, hRn.rw hAn (fun j hj => ?_)⟩
      rw [hz _ _ (by omega) (by omega) hj, dd_eq hD (by omega) hj, if_pos (by rw [a1, hs]; omega)]
      unfold rw_; rw [Nat.mul_zero, Nat.zero_add]
    · by_cases e8 : s = 8
      · have q0 := a2 (i + 1) (by omega)
        rw [hs] at q0
        have ex : hix ((x + 1) % 8) (min 8 ((s : Int) + 1)) i = hix x (s : Int) (i + 1) := by unfold hix; omega
        rw [ex]
        refine old _ _ _ (by unfold hix; omega) (by unfold hix; omega) q0 (fun q hq => ?_)
        rw [hz _ _ (by omega) (by omega) hq, dd_eq hD (by omega) hq, if_neg (by rw [a1, hs]; omega), if_pos (by rw [a1, hs]; omega)]; rfl
      · have q0 := a2 i (by omega)
        rw [hs] at q0
        have ex : hix ((x + 1) % 8) (min 8 ((s : Int) + 1)) i = hix x (s : Int) i := by unfold hix; omega
        rw [ex]
        refine old _ _ _ (by unfold hix; omega) (by unfold hix; omega) q0 (fun q hq => ?_)
        rw [hz _ _ (by omega) (by omega) hq, dd_eq hD (by omega) hq, if_neg (by rw [a1, hs]; omega), if_neg (by rw [a1, hs]; omega)]
  · rw [h9 k hk2]
    rcases a3 k hk2 with q | q
    · refine Or.inl ⟨q.1, ?_⟩
      have q2 := q.2
      unfold sl at q2 ⊢
      rw [if_neg (by omega)] at q2 ⊢
      rw [p5 441 (by omega) (by omega)]; exact q2
    · exact Or.inr ⟨q.1, old _ _ _ (by omega) (by omega) q.2 (fun j hj => by rw [hz _ _ (by omega) (by omega) hj, dd_eq hD (by omega) hj, if_neg (by omega), if_neg (by omega)])⟩
def JS (n : Nat) (P : q_P) (X : q_X) (b d x : Nat) : Prop := isFace n P b ∧ isBk n P b ∧ isHi n P X x ∧ ((b = 1 ∧ d = 221) ∨ (b = 221 ∧ d = 1)) ∧ P 0 1 = some d ∧ isBk n P d ∧ isRd n P ∧ isTal n P ∧ isCho n P ∧ isAct n P ∧ isByt n P 447 256 ∧ isMod n P
theorem JS.mv {n n' : Nat} {P P' : q_P} {X X' : q_X} {b d x x' : Nat} (h : JS n P X b d x) (hn : n ≤ n') (hp : ∀ c, c < 481 → c ≠ 441 → c ≠ 443 → P' c = P c) (hM : MS n' P') (hx : x' < 8) (h1 : xv X' 442 1 = (x' : Int)) (h2 : 0 ≤ xv X' 442 2 ∧ xv X' 442 2 ≤ 8) : JS n' P' X' b d x' := by
  obtain ⟨a1, a2, a3, a4, a5, a6, a7, a8, a9, a10, a11, a12⟩ := h
  have hb : b + 220 ≤ 441 ∧ d + 220 ≤ 441 := by omega
  refine ⟨?_, isBk_of a2 hn (fun q hq => hp _ (by omega) (by omega) (by omega)), ⟨by rw [hp 442 (by omega) (by omega) (by omega)]; exact a3.1, hM, hx, h1, h2.1, h2.2⟩, a4, by rw [hp 0 (by omega) (by omega) (by omega)]; exact a5, isBk_of a6 hn (fun q hq => hp _ (by omega) (by omega) (by omega)), ?_, ?_, ?_, ?_, ?_, ?_⟩
  · unfold isFace at a1 ⊢; rw [hp 0 (by omega) (by omega) (by omega)]
    obtain ⟨z1, z2, z3, z4, z5, z6, z7, z8, z9⟩ := a1
    exact ⟨z1, z2, z3, z4, z5, z6, z7, z8, by omega⟩
  · unfold isRd at a7 ⊢; rw [hp 444 (by omega) (by omega) (by omega), hp 445 (by omega) (by omega) (by omega)]
    obtain ⟨z1, z2, z3⟩ := a7
    exact ⟨z1, z2, by omega⟩
  · unfold isTal at a8 ⊢; rw [hp 453 (by omega) (by omega) (by omega)]
    obtain ⟨z1, z2, z3, z4, z5, z6⟩ := a8
    exact ⟨z1, z2, z3, z4, z5, by omega⟩
  · unfold isCho at a9 ⊢; rw [hp 459 (by omega) (by omega) (by omega)]
    obtain ⟨z1, z2, z3, z4, z5, z6, z7, z8⟩ := a9
    exact ⟨z1, z2, z3, z4, z5, z6, z7, by omega⟩
  · unfold isAct at a10 ⊢; rw [hp 449 (by omega) (by omega) (by omega)]
    obtain ⟨z1, z2, z3, z4⟩ := a10
    exact ⟨z1, z2, z3, by omega⟩
  · unfold isByt at a11 ⊢; rw [hp 447 (by omega) (by omega) (by omega)]
    obtain ⟨z1, z2, z3, z4, z5⟩ := a11
    exact ⟨z1, z2, z3, by omega, z5⟩
  · unfold isMod at a12 ⊢; rw [hp 467 (by omega) (by omega) (by omega)]
    obtain ⟨z1, z2, z3, z4, z5, z6, z7, z8, z9, z10, z11, z12, z13, z14⟩ := a12
    exact ⟨z1, z2, z3, z4, z5, z6, z7, z8, z9, z10, z11, z12, z13, by omega⟩
theorem JS.x {n : Nat} {P : q_P} {X X' : q_X} {b d x : Nat} (h : JS n P X b d x) (e : xv X' 442 = xv X 442) : JS n P X' b d x := by
  obtain ⟨a1, a2, a3, a4⟩ := h
  refine ⟨a1, a2, ?_, a4⟩
  unfold isHi at a3 ⊢; rw [e]; exact a3
def JT (C Z : q_X) : Prop := tS C Z (xv C 445 1) ∧ (xv Z 467 6 = xv C 0 9 ∧ xv Z 467 24 = xv C 0 10 ∧ xv Z 467 19 = xv C 0 11) ∧ wS C Z (xv C 447 1)
def JV (P : q_P) (C Z : q_X) (b x : Nat) : Prop := (bA C b ∧ RB C b (xv Z 468)) ∧ JH P C Z x ∧ JT C Z
def J (n : Nat) (P : q_P) (X : q_X) : Prop := ∃ b d x, JS n P X b d x ∧ JV P X X b x
/-- what the law sees of the reference is the same -/
def zE (Z Z' : q_X) : Prop := (∀ j, (j = 1 ∨ j = 4 ∨ j = 6 ∨ j = 19 ∨ j = 24 ∨ j = 26) → Z' 467 j = Z 467 j) ∧ (∀ j, j < 41140 → Z' 468 j = Z 468 j) ∧ Z' 469 = Z 469 ∧ Z' 470 = Z 470 ∧ Z' 480 = Z 480
theorem zE.rfl {Z : q_X} : zE Z Z := ⟨fun _ _ => Eq.refl _, fun _ _ => Eq.refl _, Eq.refl _, Eq.refl _, Eq.refl _⟩
theorem xr {X X' : q_X} {a : Nat} (h : X' a = X a) : xv X' a = xv X a := by funext j; simp only [xv, h]
theorem xj {X X' : q_X} {a j : Nat} (h : X' a j = X a j) : xv X' a j = xv X a j := by simp only [xv, h]
theorem JT.mv {C C' Z Z' : q_X} (h : JT C Z) (c0 : ∀ j, j = 9 ∨ j = 10 ∨ j = 11 → C' 0 j = C 0 j) (c5 : C' 445 = C 445) (c6 : C' 446 = C 446) (c7 : C' 447 = C 447) (c8 : C' 448 = C 448) (z7 : ∀ j, (j = 4 ∨ j = 6 ∨ j = 19 ∨ j = 24 ∨ j = 26) → Z' 467 j = Z 467 j) (z0 : Z' 470 = Z 470) (z8 : Z' 480 = Z 480) : JT C' Z' := by
  obtain ⟨a1, ⟨a2, a3, a4⟩, a5⟩ := h
  refine ⟨?_, ⟨?_, ?_, ?_⟩, ?_⟩
  · rw [xr c5]; exact a1.cg (xr c5) (xr c6) (xj (z7 4 (by omega))) (xr z0)
  · rw [xj (z7 6 (by omega)), xj (c0 9 (by omega))]; exact a2
  · rw [xj (z7 24 (by omega)), xj (c0 10 (by omega))]; exact a3
  · rw [xj (z7 19 (by omega)), xj (c0 11 (by omega))]; exact a4
  · unfold wS at a5 ⊢; rw [xr c7, xr c8, xj (z7 26 (by omega)), xr z8]; exact a5
theorem JV.z {P : q_P} {C Z Z' : q_X} {b x : Nat} (h : JV P C Z b x) (hsz : xv C 442 2 ≤ 8) (hz : zE Z Z') : JV P C Z' b x := by
  obtain ⟨⟨a1, a2⟩, a3, a4⟩ := h
  obtain ⟨z1, z2, z3, z4, z5⟩ := hz
  refine ⟨⟨a1, a2.rw a1 (fun j hj => xj (z2 j (by omega)))⟩, a3.mv hsz rfl (fun _ _ _ _ => bS.rfl) (xj (z1 1 (by omega))) (fun k _ => by rw [xr z3]) (fun r j h1 h2 hj => by unfold rw_; exact xj (z2 _ (by omega))), a4.mv (fun _ _ => rfl) rfl rfl rfl rfl (fun j hj => z1 j (by omega)) z4 z5⟩
def cE (C C' : q_X) (b : Nat) : Prop := ∀ a, (a < 449 ∨ 481 ≤ a) → a ≠ b + 18 → C' a = C a
theorem MS.a {n : Nat} {P : q_P} (h : MS n P) {i a : Nat} (hi : i < 10) (e : sl P i = some a) : 481 ≤ a ∧ a + 220 ≤ n := by
  have q := h.2 i hi a e
  exact ⟨q.1, q.2.1.2.2.2.2.2.2.2.2.2.2.1⟩
theorem JV.c {n : Nat} {P : q_P} {C C' Z : q_X} {b x : Nat} (h : JV P C Z b x) (hM : MS n P) (hb : 1 ≤ b ∧ b + 220 ≤ 441) (hsz : xv C 442 2 ≤ 8) (hc : cE C C' b) : JV P C' Z b x := by
  obtain ⟨⟨a1, a2⟩, a3, a4⟩ := h
  have hs : bS C C' b := fun q hq h8 => hc _ (by omega) (by omega)
  exact ⟨⟨hs.a a1, a2.bs a1 hs⟩, a3.mv hsz (by rw [xr (hc 442 (by omega) (by omega))]) (fun i a e hi q hq h8 => hc _ (by have := hM.a hi e; omega) (by have := hM.a hi e; omega)) rfl (fun _ _ => rfl) (fun _ _ _ _ _ => rfl), a4.mv (fun j _ => by rw [hc 0 (by omega) (by omega)]) (hc _ (by omega) (by omega)) (hc _ (by omega) (by omega)) (hc _ (by omega) (by omega)) (hc _ (by omega) (by omega)) (fun _ _ => rfl) rfl rfl⟩
theorem JS.b {n : Nat} {P : q_P} {X : q_X} {b d x : Nat} (h : JS n P X b d x) : (1 ≤ b ∧ b + 220 ≤ 441) ∧ (1 ≤ d ∧ d + 220 ≤ 441) := by have := h.2.2.2.1; omega
theorem JS.M {n : Nat} {P : q_P} {X : q_X} {b d x : Nat} (h : JS n P X b d x) : MS n P := h.2.2.1.2.1
theorem JS.s {n : Nat} {P : q_P} {X : q_X} {b d x : Nat} (h : JS n P X b d x) : x < 8 ∧ xv X 442 1 = (x : Int) ∧ 0 ≤ xv X 442 2 ∧ xv X 442 2 ≤ 8 := h.2.2.1.2.2
theorem JS.m {n : Nat} {P : q_P} {X : q_X} {b d x : Nat} (h : JS n P X b d x) : isMod n P := h.2.2.2.2.2.2.2.2.2.2.2
theorem J_ans {n : Nat} {P : q_P} {X X' X2 : q_X} {b d x : Nat} (hS : JS n P X b d x) (hV : JV P X X b x) (h1 : tOL b X X') (h2 : aOut X' X2) : J n P X2 := by
  have hb := hS.b
  have hs := hS.s
  have e2 : ∀ a, a < 467 ∨ 478 < a → X2 a = X' a := fun a ha => by funext j; exact h2 a j (by omega) (by omega) (by omega) (by omega) (by omega)
  have hc : cE X X2 b := fun a ha hb => by rw [e2 a (by omega)]; exact h1 a (by omega) hb
  have hz : zE X X2 := ⟨fun j hj => by rw [h2 467 j (by omega) (by omega) (by omega) (by omega) (by omega), h1 467 (by omega) (by omega)], fun j hj => by rw [h2 468 j (by omega) (by omega) (by omega) (by omega) (by omega), h1 468 (by omega) (by omega)], by funext j; rw [h2 469 j (by omega) (by omega) (by omega) (by omega) (by omega), h1 469 (by omega) (by omega)], by funext j; rw [h2 470 j (by omega) (by omega) (by omega) (by omega) (by omega), h1 470 (by omega) (by omega)], by rw [e2 480 (by omega), h1 480 (by omega) (by omega)]⟩
  exact ⟨b, d, x, hS.x (xr (hc 442 (by omega) (by omega))), (hV.z hs.2.2.2 hz).c hS.M hb.1 hs.2.2.2 hc⟩
