/-! taken back, kept, restored -/
theorem sl_443 {P : q_P} {i : Nat} (h : i < 8) : sl P i = P 443 i := by unfold sl; rw [if_pos h]
theorem sl_441 {P : q_P} {k : Nat} : sl P (8 + k) = P 441 k := by unfold sl; rw [if_neg (by omega), Nat.add_sub_cancel_left]
theorem JH.top {P : q_P} {C Z : q_X} {x : Nat} (h : JH P C Z x) (hx : x < 8) (hs : 1 ≤ xv C 442 2 ∧ xv C 442 2 ≤ 8) : SlR P C Z ((x + 7) % 8) (3 + (xv C 442 2 - 1).toNat) := by
  have q := h.1.2 (xv C 442 2 - 1).toNat (by omega)
  have e : hix x (xv C 442 2) (xv C 442 2 - 1).toNat = (x + 7) % 8 := by unfold hix; omega
  rw [e] at q; exact q
set_option maxHeartbeats 4000000 in
set_option maxRecDepth 100000 in
theorem oX11_restore {l : Launch} {g : q_G} {n : Nat} {P : q_P} {X : q_X} {Y : q_Y} {k : Int} (hk : q_in k) (ho : ¬ (0 ≤ k ∧ k < 2)) : q_Met l g mX11_restore 4 [.ref (g.1 + 0), .int (zi k)] n P X Y (q_gi (fun r' n' P' X' Y' => n' = n ∧ P' = P ∧ Y' = Y ∧ X' = X ∧ r' = 0)) := by
  refine q_enter (L := [(0, .ref (g.1 + 0)), (1, .int (zi k))]) (by decide) (Nat.le_of_ble_eq_true rfl) rfl ?_
  refine r_iload_n (i := 1) (pc' := 1) dX11_restore_0 rfl rfl (.tail _ (.head _)) ?_
  refine r_if_lt (t := 9) (f := 4) dX11_restore_1 (by decide) rfl (by omega) (fun h1 => ?_) (fun h1 => ?_)
  · refine r_iconst (pc' := 10) dX11_restore_9 rfl ?_
    refine r_zreturn dX11_restore_10 rfl (by decide) ?_
    exact ⟨_, rfl, rfl, rfl, rfl, rfl, rfl⟩
  · refine r_iload_n (i := 1) (pc' := 5) dX11_restore_4 rfl rfl (.tail _ (.head _)) ?_
    refine r_iconst (pc' := 6) dX11_restore_5 rfl ?_
    refine r_icmp_lt (t := 11) (f := 9) dX11_restore_6 (by decide) rfl (by omega) (by omega) (fun h6 => ?_) (fun h6 => ?_)
    · exfalso; omega
    · refine r_iconst (pc' := 10) dX11_restore_9 rfl ?_
      refine r_zreturn dX11_restore_10 rfl (by decide) ?_
      exact ⟨_, rfl, rfl, rfl, rfl, rfl, rfl⟩
theorem j_undo {l : Launch} {g : q_G} {n : Nat} {P : q_P} {X : q_X} {Y : q_Y} (hJ : J n P X) : q_Met l g mX11_undo 3 [.ref (g.1 + 0)] n P X Y (q_gi (fun r n' P' X' Y' => q_Met l g mX12_undo 1 [.ref (g.1 + 467)] n' P' X' Y' (q_gi (fun r2 n2 P2 X2 _ => zi r2 = zi r ∧ J n2 P2 X2)))) := by
  obtain ⟨b, d, x, hS, hV⟩ := hJ
  obtain ⟨s1, s2, s3, s4, s5, s6, s7, s8, s9, s10, s11, s12⟩ := id hS
  have vA := hV.1.1
  have hb := hS.b
  have hs := hS.s
  have hM := hS.M
  have hn := hM.n
  have ex : (((x : Int) + 7) % 8).toNat = (x + 7) % 8 := by omega
  have hde := hV.2.1.1.1
  have hD : 0 ≤ xv X 467 1 ∧ xv X 467 1 ≤ 8 := by rw [hde]; exact hs.2.2
  have htop : 1 ≤ xv X 442 2 → SlR P X X ((x + 7) % 8) (3 + (xv X 442 2 - 1).toNat) := fun q => hV.2.1.top hs.1 ⟨q, hs.2.2.2⟩
  refine q_Met.mono (fun v N P' X' Y' h => ?_) (tX11_undo s1 s2 vA.1 s3 hb.1 (fun q => by
    obtain ⟨a, q1, q2, q3⟩ := htop q
    rw [ex]
    rw [sl_443 (by omega)] at q1
    exact ⟨a, q1, q2.1⟩))
  obtain ⟨r, e1, h⟩ := h
  refine ⟨r, e1, ?_⟩
  by_cases hg : xv X 442 2 < 1
  · rw [if_pos hg] at h
    obtain ⟨rfl, rfl, rfl, rfl, rfl⟩ := h
    refine q_Met.mono (fun v2 N2 P2 X2 Y2 h2 => ?_) (tX12_undo s12 hD)
    obtain ⟨r2, f1, rfl, rfl, rfl, f4⟩ := h2
    rw [if_pos (by rw [hde]; omega)] at f4
    obtain ⟨rfl, rfl⟩ := f4
    exact ⟨-1, f1, rfl, b, d, x, hS, hV⟩
  · rw [if_neg hg] at h
    obtain ⟨a, g1, rfl, rfl, rfl, hX, hr⟩ := h
    obtain ⟨a', t1, t2, t3⟩ := htop (by omega)
    rw [ex] at g1
    rw [sl_443 (by omega)] at t1
    obtain rfl : a' = a := by rw [g1] at t1; exact (Option.some.inj t1).symm
    have hab : 481 ≤ a' ∧ a' + 220 ≤ N := hM.a (i := (x + 7) % 8) (by omega) (by rw [sl_443 (by omega)]; exact g1)
    have o10 := t2.1.2.2.2.2.2.2.2.1
    have c0 : ∀ c j, (c < b ∨ b + 220 ≤ c) → ¬ (c = 442 ∧ (j = 1 ∨ j = 2)) → X' c j = X c j := fun c j h1 h2 => by
      rw [hX, blk_row _ _ _ 220 (fun d j q => D_bk_lt (by omega) q) h1, q_up_ne _ _ (by omega), q_up_ne _ _ (by omega)]
    have cb : bC X a' X' b := fun q j hq => by
      have hlt := D_bk_lt (by omega) hq
      rw [hX, blk_in _ _ _ hq, q_up_ne _ _ (by omega), q_up_ne _ _ (by omega)]
    have c1 : xv X' 442 1 = (((x + 7) % 8 : Nat) : Int) := by
      have : xv X' 442 1 = xv (q_up (q_up X 442 2 (zi (xv X 442 2 - 1))) 442 1 (zi (((x : Int) + 7) % 8))) 442 1 := xj (by rw [hX, blk_row _ _ _ 220 (fun d j q => D_bk_lt (by omega) q) (by omega)])
      rw [this, xv_up_same _ _ _ (by omega)]; omega
    have c2 : xv X' 442 2 = xv X 442 2 - 1 := by
      have : xv X' 442 2 = xv (q_up (q_up X 442 2 (zi (xv X 442 2 - 1))) 442 1 (zi (((x : Int) + 7) % 8))) 442 2 := xj (by rw [hX, blk_row _ _ _ 220 (fun d j q => D_bk_lt (by omega) q) (by omega)])
      rw [this, xv_up_ne _ _ (by omega), xv_up_same _ _ _ (by omega)]
    have cr : ∀ c, (c < b ∨ b + 220 ≤ c) → c ≠ 442 → X' c = X c := fun c h1 h2 => by funext j; exact c0 c j h1 (by omega)
    refine q_Met.mono (fun v2 N2 P2 X2 Y2 h2 => ?_) (tX12_undo s12 (X := X') (by rw [xr (cr 467 (by omega) (by omega))]; exact hD))
    obtain ⟨r2, f1, rfl, rfl, rfl, f4⟩ := h2
    have e71 : xv X' 467 1 = xv X 442 2 := by rw [xr (cr 467 (by omega) (by omega))]; exact hde
    rw [e71, if_neg (by omega)] at f4
    obtain ⟨f5, f6⟩ := f4
    refine ⟨r2, f1, by rw [f6, hr], ?_⟩
    have z : ∀ c j, ¬ (c = 467 ∧ j = 1) → ¬ (c = 468 ∧ j < 3740) → X2 c j = X' c j := fun c j h1 h2 => by
      rw [f5]; unfold rowC rowK; rw [if_neg (by omega), q_up_ne _ _ (by omega)]
    have zr : ∀ c, c ≠ 467 → c ≠ 468 → X2 c = X' c := fun c h1 h2 => by funext j; exact z c j (by omega) (by omega)
    have z1 : xv X2 467 1 = xv X 442 2 - 1 := by rw [f5, rowC_xv _ (by omega), xv_up_same _ _ _ (by omega)]
    have z8 : ∀ j, j < 3740 → xv X2 468 j = rw_ X (3 + (xv X 442 2 - 1).toNat) j := fun j hj => by
      have q := rowC_eq (q_up X' 467 1 (zi (xv X 442 2 - 1))) (3 + (xv X 442 2 - 1).toNat) 0 (r := 0) (j := j) hj
      rw [if_pos rfl, ← f5] at q
      unfold rw_ at q
      rw [Nat.mul_zero, Nat.zero_add] at q
      rw [q]; unfold rw_
      rw [xv_up_row _ _ _ (by omega), xr (cr 468 (by omega) (by omega))]
    have bA' := cb.a t2
    have rb' : RB X' b (xv X2 468) := (RB_bC t3 t2.1 t2.2.2.1.2 cb).rw bA' z8
    have hs2 : bS X' X2 b := fun q hq h8 => zr _ (by omega) (by omega)
    have zx : ∀ c, (c < b ∨ b + 220 ≤ c) → c ≠ 442 → c ≠ 467 → c ≠ 468 → X2 c = X c := fun c h1 h2 h3 h4 => by rw [zr c h3 h4, cr c h1 h2]
    have z7 : ∀ j, j ≠ 1 → X2 467 j = X 467 j := fun j hj => by rw [z 467 j (by omega) (by omega), cr 467 (by omega) (by omega)]
    refine ⟨b, d, (x + 7) % 8, hS.mv (Nat.le_refl _) (fun _ _ _ _ => rfl) hM (by omega) (by rw [xr (zr 442 (by omega) (by omega))]; exact c1) (by rw [xr (zr 442 (by omega) (by omega)), c2]; omega), ⟨hs2.a bA', rb'.bs bA' hs2⟩, ⟨⟨by rw [z1, xr (zr 442 (by omega) (by omega)), c2], fun i hi => ?_⟩, fun k hk => ?_⟩, hV.2.2.mv (fun j _ => by rw [zx 0 (by omega) (by omega) (by omega) (by omega)]) (zx _ (by omega) (by omega) (by omega) (by omega)) (zx _ (by omega) (by omega) (by omega) (by omega)) (zx _ (by omega) (by omega) (by omega) (by omega)) (zx _ (by omega) (by omega) (by omega) (by omega)) (fun j hj => z7 j (by omega)) (zx _ (by omega) (by omega) (by omega) (by omega)) (zx _ (by omega) (by omega) (by omega) (by omega))⟩
    · rw [xr (zr 442 (by omega) (by omega)), c2] at hi ⊢
      have e : hix ((x + 7) % 8) (xv X 442 2 - 1) i = hix x (xv X 442 2) i := by unfold hix; omega
      rw [e]
      have hx10 : hix x (xv X 442 2) i < 10 := by unfold hix; omega
      exact (hV.2.1.1.2 i (by omega)).mv (fun c q => ⟨q, fun y hy h8 => zx _ (by have := hM.a hx10 q; omega) (by have := hM.a hx10 q; omega) (by have := hM.a hx10 q; omega) (by have := hM.a hx10 q; omega)⟩) (fun j hj => by unfold rw_; exact xj (by rw [z 468 _ (by omega) (by omega), cr 468 (by omega) (by omega)]))
    · rw [xr (zx 469 (by omega) (by omega) (by omega) (by omega))]
      rcases hV.2.1.2 k hk with q | q
      · exact Or.inl q
      · exact Or.inr ⟨q.1, q.2.mv (fun c e => ⟨e, fun y hy h8 => zx _ (by have := hM.a (i := 8 + k) (by omega) e; omega) (by have := hM.a (i := 8 + k) (by omega) e; omega) (by have := hM.a (i := 8 + k) (by omega) e; omega) (by have := hM.a (i := 8 + k) (by omega) e; omega)⟩) (fun j hj => by unfold rw_; exact xj (by rw [z 468 _ (by omega) (by omega), cr 468 (by omega) (by omega)]))⟩
theorem j_keep {l : Launch} {g : q_G} {n : Nat} {P : q_P} {X : q_X} {Y : q_Y} (hJ : J n P X) {a1 : Int} (h1 : q_in a1) : q_Met l g mX11_keep 3 [.ref (g.1 + 0), .int (zi a1)] n P X Y (q_gi (fun r n' P' X' Y' => q_Met l g mX12_keep 1 [.ref (g.1 + 467), .int (zi a1)] n' P' X' Y' (q_gi (fun r2 n2 P2 X2 _ => zi r2 = zi r ∧ J n2 P2 X2)))) := by
  obtain ⟨b, d, x, hS, hV⟩ := hJ
  obtain ⟨s1, s2, s3, s4, s5, s6, s7, s8, s9, s10, s11, s12⟩ := id hS
  have vA := hV.1.1
  have hb := hS.b
  have hs := hS.s
  have hM := hS.M
  have hn := hM.n
  refine q_Met.mono (fun v N P' X' Y' h => ?_) (tX11_keep s1 s2 vA.1 s3 hb.1 h1)
  obtain ⟨r, e1, h⟩ := h
  refine ⟨r, e1, ?_⟩
  by_cases hg : 0 ≤ a1 ∧ a1 < 2
  · rw [if_pos hg] at h
    obtain ⟨⟨a, p1, p2, p3, p4, p5, p6, p7, p8, p9⟩, hr⟩ := h
    obtain ⟨k, rfl⟩ : ∃ k : Nat, a1 = (k : Int) := ⟨a1.toNat, by omega⟩
    rw [Int.toNat_natCast] at p1 p6
    have cx : ∀ c, c < 481 → X' c = X c := fun c hc => by funext j; exact p8 c j (by omega) (by omega)
    have jS : JS N P' X' b d x := hS.mv p4 (fun c h1 h2 h3 => p5 c (by omega) h2) p3 hs.1 (by rw [xr (cx 442 (by omega))]; exact hs.2.1) (by rw [xr (cx 442 (by omega))]; exact hs.2.2)
    have sk : sl P' (8 + k) = some a := by rw [sl_441]; exact p1
    have so : ∀ i, i < 10 → i ≠ 8 + k → sl P' i = sl P i := fun i h1 h2 => by
      unfold sl
      by_cases q : i < 8
      · rw [if_pos q, if_pos q, p5 443 (by omega) (by omega)]
      · rw [if_neg q, if_neg q]; exact p6 _ (by omega)
    have old : ∀ i c, i < 10 → i ≠ 8 + k → sl P i = some c → sl P' i = some c ∧ bS X X' c := fun i c h1 h2 h3 => by
      have h4 := (so i h1 h2).trans h3
      have h5 := hM.a h1 h3
      have h6 := (p3.2 i h1 c h4).2.2 (8 + k) (by omega) (by omega) a sk
      refine ⟨h4, fun q hq h8 => ?_⟩
      funext j
      exact p8 _ j (by omega) (by omega)
    refine q_Met.mono (fun v2 N2 P2 X2 Y2 h2 => ?_) (tX12_keep jS.m h1)
    obtain ⟨r2, f1, rfl, rfl, rfl, f4⟩ := h2
    rw [if_pos (by omega)] at f4
    obtain ⟨f5, f6⟩ := f4
    rw [Int.toNat_natCast] at f5
    refine ⟨r2, f1, by rw [f6, hr], ?_⟩
    have z : ∀ c j, ¬ (c = 469 ∧ j = k) → ¬ (c = 468 ∧ 3740 * (1 + k) ≤ j ∧ j < 3740 * (1 + k) + 3740) → X2 c j = X' c j := fun c j h1 h2 => by
      rw [f5, q_up_ne _ _ (by omega)]; unfold rowC rowK; rw [if_neg h2]
    have zr : ∀ c, c ≠ 468 → c ≠ 469 → X2 c = X' c := fun c h1 h2 => by funext j; exact z c j (by omega) (by omega)
    have z9 : xv X2 469 k = 1 := by rw [f5, xv_up_same _ _ _ (by omega)]
    have zw : ∀ r j, j < 3740 → rw_ X2 r j = if r = 1 + k then rw_ X' 0 j else rw_ X' r j := fun r j hj => by
      have q := rowC_eq X' 0 (1 + k) (r := r) (j := j) hj
      rw [← q, f5]; unfold rw_; rw [xv_up_row _ _ _ (by omega)]
    have e8 : ∀ r j, rw_ X' r j = rw_ X r j := fun r j => by unfold rw_; rw [xr (cx 468 (by omega))]
    have cbA : bC X b X' a := p9
    have aA := cbA.a vA
    have hs0 : bS X X' b := fun q hq h8 => cx _ (by omega)
    have hs2 : ∀ c, c + 220 ≤ 468 ∨ 481 ≤ c → bS X' X2 c := fun c hc q hq h8 => zr _ (by omega) (by omega)
    have z7 : X2 467 = X 467 := by rw [zr 467 (by omega) (by omega), cx 467 (by omega)]
    have zx : ∀ c, c < 481 → c ≠ 468 → c ≠ 469 → X2 c = X c := fun c h1 h2 h3 => by rw [zr c h2 h3, cx c h1]
    refine ⟨b, d, x, jS.x (xr (zr 442 (by omega) (by omega))), ⟨(hs0.trans (hs2 b (by omega))).a vA, (hV.1.2.bs vA (hs0.trans (hs2 b (by omega)))).rw ((hs0.trans (hs2 b (by omega))).a vA) (fun j hj => xj (by rw [z 468 j (by omega) (by omega), cx 468 (by omega)]))⟩, ⟨⟨by rw [xr z7, xr (zx 442 (by omega) (by omega) (by omega))]; exact hV.2.1.1.1, fun i hi => ?_⟩, fun k2 hk2 => ?_⟩, hV.2.2.mv (fun j _ => by rw [zx 0 (by omega) (by omega) (by omega)]) (zx _ (by omega) (by omega) (by omega)) (zx _ (by omega) (by omega) (by omega)) (zx _ (by omega) (by omega) (by omega)) (zx _ (by omega) (by omega) (by omega)) (fun j hj => by rw [z7]) (zx _ (by omega) (by omega) (by omega)) (zx _ (by omega) (by omega) (by omega))⟩
    · rw [xr (zx 442 (by omega) (by omega) (by omega))] at hi ⊢
      have hx8 : hix x (xv X 442 2) i < 8 := by unfold hix; omega
      refine (hV.2.1.1.2 i hi).mv (fun c q => ?_) (fun j hj => by rw [zw _ _ hj, if_neg (by omega), e8])
      obtain ⟨q1, q2⟩ := old _ c (by omega) (by omega) q
      exact ⟨q1, q2.trans (hs2 c (by have := hM.a (i := hix x (xv X 442 2) i) (by omega) q; omega))⟩
    · by_cases e : k2 = k
      · subst e
        refine Or.inr ⟨by rw [z9]; omega, a, sk, (hs2 a (by omega)).a aA, ?_⟩
        refine ((RB_bC hV.1.2 vA.1 vA.2.2.1.2 cbA).bs aA (hs2 a (by omega))).rw ((hs2 a (by omega)).a aA) (fun j hj => ?_)
        rw [zw _ _ hj, if_pos rfl, e8]; unfold rw_; rw [Nat.mul_zero, Nat.zero_add]
      · have e9 : xv X2 469 k2 = xv X 469 k2 := xj (by rw [z 469 k2 (by omega) (by omega), cx 469 (by omega)])
        rw [e9]
        rcases hV.2.1.2 k2 hk2 with q | q
        · exact Or.inl ⟨q.1, by rw [so _ (by omega) (by omega)]; exact q.2⟩
        · refine Or.inr ⟨q.1, q.2.mv (fun c q => ?_) (fun j hj => by rw [zw _ _ hj, if_neg (by omega), e8])⟩
          obtain ⟨q1, q2⟩ := old _ c (by omega) (by omega) q
          exact ⟨q1, q2.trans (hs2 c (by have := hM.a (i := 8 + k2) (by omega) q; omega))⟩
  · rw [if_neg hg] at h
    obtain ⟨rfl, rfl, rfl, rfl, rfl⟩ := h
    refine q_Met.mono (fun v2 N2 P2 X2 Y2 h2 => ?_) (tX12_keep s12 h1)
    obtain ⟨r2, f1, rfl, rfl, rfl, f4⟩ := h2
    rw [if_neg (by omega)] at f4
    obtain ⟨rfl, rfl⟩ := f4
    exact ⟨0, f1, rfl, b, d, x, hS, hV⟩
theorem j_restore {l : Launch} {g : q_G} {n : Nat} {P : q_P} {X : q_X} {Y : q_Y} (hJ : J n P X) {a1 : Int} (h1 : q_in a1) : q_Met l g mX11_restore 4 [.ref (g.1 + 0), .int (zi a1)] n P X Y (q_gi (fun r n' P' X' Y' => q_Met l g mX12_restore 2 [.ref (g.1 + 467), .int (zi a1)] n' P' X' Y' (q_gi (fun r2 n2 P2 X2 _ => zi r2 = zi r ∧ J n2 P2 X2)))) := by
  obtain ⟨b, d, x, hS, hV⟩ := hJ
  obtain ⟨s1, s2, s3, s4, s5, s6, s7, s8, s9, s10, s11, s12⟩ := id hS
  have vA := hV.1.1
  have hb := hS.b
  have hs := hS.s
  have hM := hS.M
  have hn := hM.n
  have hD : 0 ≤ xv X 467 1 ∧ xv X 467 1 ≤ 8 := by rw [hV.2.1.1.1]; exact hs.2.2
  have hkp := hV.2.1.2
  by_cases hg : ¬ (0 ≤ a1 ∧ a1 < 2) ∨ P 441 a1.toNat = none
  · have hno : ¬ (0 ≤ a1 ∧ a1 ≤ 1 ∧ ¬ xv X 469 a1.toNat = 0) := by
      rintro ⟨q1, q2, q3⟩
      rcases hg with g | g
      · omega
      · rcases hkp a1.toNat (by omega) with q | q
        · exact q3 q.1
        · obtain ⟨a, z1, -⟩ := q.2
          rw [sl_441, g] at z1; cases z1
    have hcl : q_Met l g mX11_restore 4 [.ref (g.1 + 0), .int (zi a1)] n P X Y (q_gi (fun r' n' P' X' Y' => n' = n ∧ P' = P ∧ Y' = Y ∧ X' = X ∧ r' = 0)) := by
      by_cases z : 0 ≤ a1 ∧ a1 < 2
      · have hn0 : P 441 a1.toNat = none := hg.resolve_left (fun q => q z)
        refine q_Met.mono (fun v N P' X' Y' h => ?_) (tX11_restore s1 s2 vA.1 s3 hb.1 h1 (fun a ha => by rw [hn0] at ha; cases ha))
        obtain ⟨r, e1, h⟩ := h
        rw [if_pos hg] at h
        exact ⟨r, e1, h⟩
      · exact oX11_restore h1 z
    refine q_Met.mono (fun v N P' X' Y' h => ?_) hcl
    obtain ⟨r, e1, rfl, rfl, rfl, rfl, rfl⟩ := h
    refine ⟨0, e1, ?_⟩
    refine q_Met.mono (fun v2 N2 P2 X2 Y2 h2 => ?_) (tX12_restore s12 hD h1)
    obtain ⟨r2, f1, rfl, rfl, rfl, f4⟩ := h2
    rw [if_neg hno] at f4
    obtain ⟨rfl, rfl⟩ := f4
    exact ⟨0, f1, rfl, b, d, x, hS, hV⟩
  · have hk2 : 0 ≤ a1 ∧ a1 < 2 := Classical.not_not.mp (fun q => hg (Or.inl q))
    obtain ⟨k, rfl⟩ : ∃ k : Nat, a1 = (k : Int) := ⟨a1.toNat, by omega⟩
    have hgc := hg
    rw [Int.toNat_natCast] at hgc
    have hkk : ¬ xv X 469 k = 0 ∧ SlR P X X (8 + k) (1 + k) := by
      rcases hkp k (by omega) with q | q
      · exact absurd (Or.inr ((sl_441 (P := P) (k := k)).symm.trans q.2)) hgc
      · exact q
    obtain ⟨hk9, a0, t1, t2, t3⟩ := hkk
    refine q_Met.mono (fun v N P' X' Y' h => ?_) (tX11_restore s1 s2 vA.1 s3 hb.1 h1 (fun a ha => by
      rw [Int.toNat_natCast] at ha
      rw [sl_441, ha] at t1; cases t1; exact t2.1))
    obtain ⟨r, e1, h⟩ := h
    refine ⟨r, e1, ?_⟩
    rw [if_neg hg] at h
    obtain ⟨a, X1, g1, hp, hX, hr⟩ := h
    rw [Int.toNat_natCast] at g1
    obtain rfl : a0 = a := by rw [sl_441, g1] at t1; exact (Option.some.inj t1).symm
    obtain ⟨k1, k2, k3, k4⟩ := hp.k hM hs.1 (j := 8 + k) (by omega) (by omega) t1
    have a1A : bA X1 a0 := k3.s.a t2
    have o10 := a1A.1.2.2.2.2.2.2.2.1
    have cb : bC X1 a0 X' b := fun q j hq => by rw [hX, blk_in _ _ _ hq]
    have cr : ∀ c, (c < b ∨ b + 220 ≤ c) → X' c = X1 c := fun c hc => by
      funext j; rw [hX, blk_row _ _ _ 220 (fun d j q => D_bk_lt (by omega) q) hc]
    have e7 : ∀ c, 466 < c → c < 481 → X' c = X c := fun c c1 c2 => by rw [cr c (by omega), hp.x (by omega) (by omega) (by omega)]
    have jm := (hS.push hp rfl (xr (cr 442 (by omega)))).m
    have hD' : 0 ≤ xv X' 467 1 ∧ xv X' 467 1 ≤ 8 := by rw [xr (e7 467 (by omega) (by omega))]; exact hD
    refine q_Met.mono (fun v2 N2 P2 X2 Y2 h2 => ?_) (tX12_restore jm hD' h1)
    obtain ⟨r2, f1, rfl, rfl, rfl, f4⟩ := h2
    rw [Int.toNat_natCast, if_pos ⟨by omega, by omega, by rw [xr (e7 469 (by omega) (by omega))]; exact hk9⟩] at f4
    obtain ⟨f5, f6⟩ := f4
    refine ⟨r2, f1, by rw [f6, hr], ?_⟩
    have hz : rO (dd X' 0) X2 := fun c j c1 c2 c3 c4 => by
      rw [f5]; unfold rowC rowK; rw [if_neg (by omega)]
    have bA' := cb.a a1A
    refine J_deed hS hV (fun _ _ _ _ _ => rfl) hp (fun c _ c2 => cr c c2) bA' ((RB_bC (t3.bs t2 k3.s) a1A.1 a1A.2.2.1.2 cb).rw bA' (fun j hj => ?_)) (Zi := X') (fun _ _ _ => rfl) hz ?_
    · have q := rowC_eq (dd X' 0) (1 + k) 0 (r := 0) (j := j) hj
      rw [if_pos rfl, ← f5, dd_eq hD' (by omega) hj, if_neg (by omega), if_neg (by omega)] at q
      unfold rw_ at q ⊢
      rw [Nat.mul_zero, Nat.zero_add, xr (e7 468 (by omega) (by omega))] at q
      exact q
    · have q1 : xv X2 467 19 = xv X 467 19 := xj (by rw [hz 467 19 (by omega) (by omega) (by omega) (by omega), dd_ne _ _ (by omega) (by omega), e7 467 (by omega) (by omega)])
      have q2 : xv X' 0 11 = xv X 0 11 := xj (by rw [cr 0 (by omega), hp.x (by omega) (by omega) (by omega)])
      rw [q1, q2]; exact hV.2.2.2.1.2.2
