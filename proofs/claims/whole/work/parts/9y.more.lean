/-! the tape, what is written, the policy's cuts -/
theorem J_bk {n : Nat} {P : q_P} {X X2 : q_X} {b d x : Nat} (hS : JS n P X b d x) (hV : JV P X X b x) (hc : ∀ a, a < 444 → a ≠ 0 → (a < d ∨ d + 220 ≤ a) → X2 a = X a) (hc2 : ∀ a, 481 ≤ a → X2 a = X a) (h1 : X2 467 1 = X 467 1) (h8 : ∀ j, j < 41140 → X2 468 j = X 468 j) (h9 : X2 469 = X 469) (hT : JT X2 X2) : J n P X2 := by
  have hb := hS.b
  have hs := hS.s
  have vA := hV.1.1
  have hbd := hS.2.2.2.1
  have hsB : bS X X2 b := fun q hq h8 => hc _ (by omega) (by omega) (by omega)
  refine ⟨b, d, x, hS.x (xr (hc 442 (by omega) (by omega) (by omega))), ⟨hsB.a vA, ?_⟩, hV.2.1.mv hs.2.2.2 (by rw [xr (hc 442 (by omega) (by omega) (by omega))]) (fun i a ea hi q hq h8 => hc2 _ (by have := hS.M.a hi ea; omega)) (xj h1) (fun k _ => by rw [xr h9]) (fun r j r1 r2 hj => by unfold rw_; exact xj (h8 _ (by omega))), hT⟩
  exact (hV.1.2.bs vA hsB).rw (hsB.a vA) (fun j hj => xj (h8 j (by omega)))
theorem b_feed_o {X : q_X} {a b c d e : Int} {i : Nat} (h : i ≠ 445 ∧ i ≠ 446) : xv (b_feed X a b c d e) i = xv X i := by
  unfold b_feed b_word
  simp (disch := omega) only [b_add_o]
theorem wS.cg {C C' X X' : q_X} {m : Int} (h : wS C X m) (h7 : xv C' 447 = xv C 447) (h8 : xv C' 448 = xv C 448) (h26 : xv X' 467 26 = xv X 467 26) (h80 : xv X' 480 = xv X 480) : wS C' X' m := by
  unfold wS at h ⊢; rw [h7, h8, h26, h80]; exact h
theorem j_feed {l : Launch} {g : q_G} {n : Nat} {P : q_P} {X : q_X} {Y : q_Y} (hJ : J n P X) {a1 a2 a3 a4 a5 : Int} : q_Met l g mX11_feed 2 [.ref (g.1 + 0), .int (zi a1), .int (zi a2), .int (zi a3), .int (zi a4), .int (zi a5)] n P X Y (q_gi (fun r n' P' X' Y' => q_Met l g mX12_feed 1 [.ref (g.1 + 467), .int (zi a1), .int (zi a2), .int (zi a3), .int (zi a4), .int (zi a5)] n' P' X' Y' (q_gi (fun r2 n2 P2 X2 _ => zi r2 = zi r ∧ J n2 P2 X2)))) := by
  obtain ⟨b, d, x, hS, hV⟩ := hJ
  obtain ⟨s1, s2, s3, s4, s5, s6, s7, s8, s9, s10, s11, s12⟩ := id hS
  have vA := hV.1.1
  have hb := hS.b
  have ht := hV.2.2.1
  refine q_Met.mono (fun v N P' X' Y' h => ?_) (tX11_feed s1 s2 vA.1 s7)
  obtain ⟨r, e1, rfl, rfl, rfl, e4, e5⟩ := h
  refine ⟨r, e1, ?_⟩
  have e6 : ∀ a, a ≠ 445 → a ≠ 446 → X' a = X a := fun a a1 a2 => by
    rw [e4]; split
    · exact row_of (b_feed_o ⟨a1, a2⟩)
    · rfl
  refine q_Met.mono (fun v2 N2 P2 X2 Y2 h2 => ?_) (tX12_feed s12 (C := X) (m := xv X 445 1) (ht.cg rfl rfl (by rw [xr (e6 467 (by omega) (by omega))]) (by rw [xr (e6 470 (by omega) (by omega))])))
  obtain ⟨r2, f1, rfl, rfl, rfl, f4⟩ := h2
  refine ⟨r2, f1, ?_⟩
  by_cases hm : xv X 445 1 ≤ 480
  · rw [if_pos hm] at f4 e4 e5
    obtain ⟨g1, g2, g3⟩ := f4
    rw [← e4] at g2 e5
    have hz : ∀ a, a ≠ 470 → a ≠ 467 → X2 a = X' a := fun a a1 a2 => by funext j; exact g1 a j a1 (by omega)
    have z7 : ∀ j, j ≠ 4 → X2 467 j = X 467 j := fun j hj => by rw [g1 467 j (by omega) (by omega), e6 467 (by omega) (by omega)]
    refine ⟨by rw [g3, e5, g2.2.1], J_bk hS hV (fun a a1 a2 _ => by rw [hz a (by omega) (by omega), e6 a (by omega) (by omega)]) (fun a a1 => by rw [hz a (by omega) (by omega), e6 a (by omega) (by omega)]) (z7 1 (by omega)) (fun j _ => by rw [hz 468 (by omega) (by omega), e6 468 (by omega) (by omega)]) (by rw [hz 469 (by omega) (by omega), e6 469 (by omega) (by omega)]) ⟨?_, ⟨?_, ?_, ?_⟩, ?_⟩⟩
    · have q : xv X2 445 1 = xv X 445 1 + 20 := by rw [xr (hz 445 (by omega) (by omega))]; exact g2.2.1
      rw [q]; exact g2.cg (xr (hz 445 (by omega) (by omega))) (xr (hz 446 (by omega) (by omega))) rfl rfl
    · rw [xj (z7 6 (by omega)), xr (hz 0 (by omega) (by omega)), xr (e6 0 (by omega) (by omega))]; exact hV.2.2.2.1.1
    · rw [xj (z7 24 (by omega)), xr (hz 0 (by omega) (by omega)), xr (e6 0 (by omega) (by omega))]; exact hV.2.2.2.1.2.1
    · rw [xj (z7 19 (by omega)), xr (hz 0 (by omega) (by omega)), xr (e6 0 (by omega) (by omega))]; exact hV.2.2.2.1.2.2
    · rw [xr (hz 447 (by omega) (by omega)), xr (e6 447 (by omega) (by omega))]
      exact hV.2.2.2.2.cg (by rw [xr (hz 447 (by omega) (by omega)), xr (e6 447 (by omega) (by omega))]) (by rw [xr (hz 448 (by omega) (by omega)), xr (e6 448 (by omega) (by omega))]) (xj (z7 26 (by omega))) (by rw [xr (hz 480 (by omega) (by omega)), xr (e6 480 (by omega) (by omega))])
  · rw [if_neg hm] at f4 e4 e5
    obtain ⟨rfl, rfl⟩ := f4
    subst e4 e5
    exact ⟨rfl, b, d, x, hS, hV⟩
theorem j_end {l : Launch} {g : q_G} {n : Nat} {P : q_P} {X : q_X} {Y : q_Y} (hJ : J n P X) {a1 : Int} (h1 : q_in a1) : q_Met l g mX11_end 0 [.ref (g.1 + 0), .int (zi a1)] n P X Y (q_gi (fun r n' P' X' Y' => q_Met l g mX12_end 1 [.ref (g.1 + 467), .int (zi a1)] n' P' X' Y' (q_gi (fun r2 n2 P2 X2 _ => zi r2 = zi r ∧ J n2 P2 X2)))) := by
  obtain ⟨b, d, x, hS, hV⟩ := hJ
  obtain ⟨s1, s2, s3, s4, s5, s6, s7, s8, s9, s10, s11, s12⟩ := id hS
  have vA := hV.1.1
  have hb := hS.b
  obtain ⟨t1, t2, t3, t4⟩ := hV.2.2.1
  refine q_Met.mono (fun v N P' X' Y' h => ?_) (tX11_end s1 s2 vA.1 s7 h1)
  obtain ⟨r, e1, rfl, rfl, rfl, e4, e5⟩ := h
  refine ⟨r, e1, ?_⟩
  refine q_Met.mono (fun v2 N2 P2 X2 Y2 h2 => ?_) (tX12_end s12 h1)
  obtain ⟨r2, f1, rfl, rfl, rfl, f4⟩ := h2
  refine ⟨r2, f1, ?_⟩
  by_cases hm : 0 ≤ a1 ∧ a1 ≤ xv X 445 1
  · rw [if_pos hm] at e4 e5
    subst e4 e5
    rw [xv_up_row _ _ _ (by omega), t3, if_pos hm] at f4
    obtain ⟨rfl, rfl⟩ := f4
    have e : ∀ a j, ¬ (a = 445 ∧ j = 1) → ¬ (a = 467 ∧ j = 4) → (q_up (q_up X 445 1 (zi r2)) 467 4 (zi r2)) a j = X a j := fun a j h1 h2 => by rw [q_up_ne _ _ (by omega), q_up_ne _ _ (by omega)]
    have er : ∀ a, a ≠ 445 → a ≠ 467 → (q_up (q_up X 445 1 (zi r2)) 467 4 (zi r2)) a = X a := fun a h1 h2 => by funext j; exact e a j (by omega) (by omega)
    have e5 : xv (q_up (q_up X 445 1 (zi r2)) 467 4 (zi r2)) 445 1 = r2 := by rw [xv_up_row _ _ _ (by omega), xv_up_same _ _ _ (by omega)]
    have e7 : xv (q_up (q_up X 445 1 (zi r2)) 467 4 (zi r2)) 467 4 = r2 := xv_up_same _ _ _ (by omega)
    generalize q_up (q_up X 445 1 (zi r2)) 467 4 (zi r2) = X2 at *
    refine ⟨rfl, J_bk hS hV (fun a a1 a2 _ => er a (by omega) (by omega)) (fun a a1 => er a (by omega) (by omega)) (e 467 1 (by omega) (by omega)) (fun j _ => by rw [er 468 (by omega) (by omega)]) (er 469 (by omega) (by omega)) ⟨⟨by omega, rfl, by rw [e5, e7], fun j hj => ?_⟩, ⟨?_, ?_, ?_⟩, ?_⟩⟩
    · rw [e5] at hj
      rw [xr (er 470 (by omega) (by omega)), xr (er 446 (by omega) (by omega))]; exact t4 j (by omega)
    · rw [xj (e 467 6 (by omega) (by omega)), xr (er 0 (by omega) (by omega))]; exact hV.2.2.2.1.1
    · rw [xj (e 467 24 (by omega) (by omega)), xr (er 0 (by omega) (by omega))]; exact hV.2.2.2.1.2.1
    · rw [xj (e 467 19 (by omega) (by omega)), xr (er 0 (by omega) (by omega))]; exact hV.2.2.2.1.2.2
    · rw [xr (er 447 (by omega) (by omega))]
      exact hV.2.2.2.2.cg (xr (er 447 (by omega) (by omega))) (xr (er 448 (by omega) (by omega))) (xj (e 467 26 (by omega) (by omega))) (xr (er 480 (by omega) (by omega)))
  · rw [if_neg hm] at e4 e5
    subst e4 e5
    rw [t3, if_neg hm] at f4
    obtain ⟨rfl, rfl⟩ := f4
    exact ⟨rfl, b, d, x, hS, hV⟩
theorem j_write {l : Launch} {g : q_G} {n : Nat} {P : q_P} {X : q_X} {Y : q_Y} (hJ : J n P X) : q_Met l g mX11_write 2 [.ref (g.1 + 0)] n P X Y (q_gi (fun r n' P' X' Y' => q_Met l g mX12_write 2 [.ref (g.1 + 467)] n' P' X' Y' (q_gi (fun r2 n2 P2 X2 _ => zi r2 = zi r ∧ J n2 P2 X2)))) := by
  obtain ⟨b, d, x, hS, hV⟩ := hJ
  obtain ⟨s1, s2, s3, s4, s5, s6, s7, s8, s9, s10, s11, s12⟩ := id hS
  have vA := hV.1.1
  have hb := hS.b
  refine q_Met.mono (fun v N P' X' Y' h => ?_) (tX11_write s1 s2 vA.1 s11 hS.b.1)
  obtain ⟨r, e1, rfl, rfl, rfl, e4, e5⟩ := h
  refine ⟨r, e1, ?_⟩
  have e6 : ∀ a, a ≠ 447 → a ≠ 448 → X' a = X a := fun a a1 a2 => by
    rw [e4]; exact row_of (by rw [wr_l_o (by omega), wr_h_o (by omega)])
  rw [← e4] at e5
  refine q_Met.mono (fun v2 N2 P2 X2 Y2 h2 => ?_) (tX12_write s12 (C := X) (b := b) (by rw [xr (e6 468 (by omega) (by omega))]; exact hV.1.2) vA.1 hb.1.2)
  obtain ⟨r2, f1, rfl, rfl, rfl, g1, g2⟩ := h2
  refine ⟨r2, f1, ?_⟩
  rw [← e4] at g2
  have hz : ∀ a, a ≠ 480 → a ≠ 467 → X2 a = X' a := fun a a1 a2 => by funext j; exact g1 a j a1 (by omega)
  have z7 : ∀ j, j ≠ 26 → X2 467 j = X 467 j := fun j hj => by rw [g1 467 j (by omega) (by omega), e6 467 (by omega) (by omega)]
  refine ⟨by rw [e5, g2.2.1], J_bk hS hV (fun a a1 a2 _ => by rw [hz a (by omega) (by omega), e6 a (by omega) (by omega)]) (fun a a1 => by rw [hz a (by omega) (by omega), e6 a (by omega) (by omega)]) (z7 1 (by omega)) (fun j _ => by rw [hz 468 (by omega) (by omega), e6 468 (by omega) (by omega)]) (by rw [hz 469 (by omega) (by omega), e6 469 (by omega) (by omega)]) ⟨?_, ⟨?_, ?_, ?_⟩, ?_⟩⟩
  · rw [xr (hz 445 (by omega) (by omega)), xr (e6 445 (by omega) (by omega))]
    exact hV.2.2.1.cg (by rw [xr (hz 445 (by omega) (by omega)), xr (e6 445 (by omega) (by omega))]) (by rw [xr (hz 446 (by omega) (by omega)), xr (e6 446 (by omega) (by omega))]) (xj (z7 4 (by omega))) (by rw [xr (hz 470 (by omega) (by omega)), xr (e6 470 (by omega) (by omega))])
  · rw [xj (z7 6 (by omega)), xr (hz 0 (by omega) (by omega)), xr (e6 0 (by omega) (by omega))]; exact hV.2.2.2.1.1
  · rw [xj (z7 24 (by omega)), xr (hz 0 (by omega) (by omega)), xr (e6 0 (by omega) (by omega))]; exact hV.2.2.2.1.2.1
  · rw [xj (z7 19 (by omega)), xr (hz 0 (by omega) (by omega)), xr (e6 0 (by omega) (by omega))]; exact hV.2.2.2.1.2.2
  · have q : xv X2 447 1 = r2 := by rw [xr (hz 447 (by omega) (by omega))]; exact g2.2.1
    rw [q]; exact g2.cg (xr (hz 447 (by omega) (by omega))) (xr (hz 448 (by omega) (by omega))) rfl rfl
theorem j_byPolicy {l : Launch} {g : q_G} {n : Nat} {P : q_P} {X : q_X} {Y : q_Y} (hJ : J n P X) {a1 : Int} (h1 : q_in a1) : q_Met l g mX11_byPolicy 8 [.ref (g.1 + 0), .int (zi a1)] n P X Y (q_gi (fun r n' P' X' Y' => q_Met l g mX12_byPolicy 8 [.ref (g.1 + 467), .int (zi a1)] n' P' X' Y' (q_gi (fun r2 n2 P2 X2 _ => zi r2 = zi r ∧ J n2 P2 X2)))) := by
  obtain ⟨b, d, x, hS, hV⟩ := hJ
  obtain ⟨s1, s2, s3, s4, s5, s6, s7, s8, s9, s10, s11, s12⟩ := id hS
  have vA := hV.1.1
  have hb := hS.b
  have hs := hS.s
  have hD : 0 ≤ xv X 467 1 ∧ xv X 467 1 ≤ 8 := by rw [hV.2.1.1.1]; exact hs.2.2
  refine q_Met.mono (fun v N P' X' Y' h => ?_) (tX11_byPolicy s1 s2 vA.1 s3 hS.b.1 s8 vA.2.2 h1)
  obtain ⟨r, e1, h⟩ := h
  refine ⟨r, e1, ?_⟩
  by_cases hg : xv X (b + 15) 0 = 0 ∨ ¬ (-999999 ≤ a1 ∧ a1 ≤ 999999)
  · rw [if_pos hg] at h
    obtain ⟨rfl, rfl, rfl, rfl, rfl⟩ := h
    refine q_Met.mono (fun v2 N2 P2 X2 Y2 h2 => ?_) (tX12_byPolicy s12 vA hV.1.2 hD h1)
    obtain ⟨r2, f1, rfl, rfl, f4⟩ := h2
    rw [if_pos hg] at f4
    obtain ⟨rfl, rfl⟩ := f4
    exact ⟨-1, f1, rfl, b, d, x, hS, hV⟩
  · rw [if_neg hg] at h
    obtain ⟨hr, h | h⟩ := h
    · obtain ⟨hr0, rfl, rfl, ho⟩ := h
      have e7 : ∀ a, 466 < a → X' a = X a := fun a ha => ho a (by omega) (by omega)
      refine q_Met.mono (fun v2 N2 P2 X2 Y2 h2 => ?_) (tX12_byPolicy s12 (C := X) vA (by rw [xr (e7 468 (by omega))]; exact hV.1.2) (by rw [xr (e7 467 (by omega))]; exact hD) h1)
      obtain ⟨r2, f1, rfl, rfl, f4⟩ := h2
      rw [if_neg hg] at f4
      obtain ⟨g1, g2⟩ := f4
      rw [if_pos (by rw [g1, ← hr]; exact hr0)] at g2
      refine ⟨r2, f1, by rw [g1, hr], ?_⟩
      have zr : ∀ a, (a < 467 ∨ 477 < a ∨ a = 469 ∨ a = 470 ∨ a = 467) → X2 a = X' a := fun a ha => by funext j; exact g2.1 a j (by omega) (by omega) (by omega) (by omega)
      have hcE : cE X X2 b := fun a a1 a2 => by rw [zr a (by omega)]; exact ho a (by omega) a2
      have hsB : bS X X2 b := fun q hq h8 => hcE _ (by omega) (by omega)
      have z7 : X2 467 = X 467 := by rw [zr 467 (by omega), e7 467 (by omega)]
      refine ⟨b, d, x, hS.x (xr (hcE 442 (by omega) (by omega))), ⟨hsB.a vA, g2.2.bs vA hsB⟩, hV.2.1.mv hs.2.2.2 (by rw [xr (hcE 442 (by omega) (by omega))]) (fun i a ea hi q hq h8 => hcE _ (by have := hS.M.a hi ea; omega) (by have := hS.M.a hi ea; omega)) (by rw [xr z7]) (fun k _ => by rw [xr (zr 469 (by omega)), xr (e7 469 (by omega))]) (fun r j r1 r2 hj => by rw [g2.1.w ⟨r1, r2⟩ hj]; unfold rw_; rw [xr (e7 468 (by omega))]), hV.2.2.mv (fun j _ => by rw [hcE 0 (by omega) (by omega)]) (hcE _ (by omega) (by omega)) (hcE _ (by omega) (by omega)) (hcE _ (by omega) (by omega)) (hcE _ (by omega) (by omega)) (fun j _ => by rw [z7]) (by rw [zr 470 (by omega), e7 470 (by omega)]) (by rw [zr 480 (by omega), e7 480 (by omega)])⟩
    · obtain ⟨hr0, X0, Y0, X1, Y1, ho, hp, hB, hout⟩ := h
      have hn := hS.M.n
      have e7 : ∀ a, 466 < a → a < 481 → X' a = X a := fun a a1 a2 => by rw [hout a (by omega) (by omega), hp.x (by omega) (by omega) (by omega), ho a (by omega) (by omega)]
      have jm := (hS.push hp (xr (ho 442 (by omega) (by omega))) (xr (hout 442 (by omega) (by omega)))).m
      have hbA := bp_A (b := b) (goal := a1) 40 X 0 vA
      refine q_Met.mono (fun v2 N2 P2 X2 Y2 h2 => ?_) (tX12_byPolicy jm (C := X) vA (by rw [xr (e7 468 (by omega) (by omega))]; exact hV.1.2) (by rw [xr (e7 467 (by omega) (by omega))]; exact hD) h1)
      obtain ⟨r2, f1, rfl, rfl, f4⟩ := h2
      rw [if_neg hg] at f4
      obtain ⟨g1, g2⟩ := f4
      rw [if_neg (by rw [g1, ← hr]; exact hr0)] at g2
      refine ⟨r2, f1, by rw [g1, hr], ?_⟩
      refine J_deed hS hV (fun a j a1 a2 _ => by rw [ho a a1 a2]) hp (fun a a1 a2 => hout a a2 a1) (hB.a hbA) (g2.2.bs hbA hB) (Zi := X') (fun _ _ _ => rfl) g2.1 ?_
      rw [xj (X := X) (X' := X2) (a := 467) (j := 19) (by rw [g2.1 467 19 (by omega) (by omega) (by omega) (by omega), dd_ne _ _ (by omega) (by omega), e7 467 (by omega) (by omega)]), xr (hout 0 (by omega) (by omega)), xr (hp.x (by omega) (by omega) (by omega)), xr (ho 0 (by omega) (by omega))]
      exact hV.2.2.2.1.2.2
