theorem RB_bC {C C' : q_X} {b a : Nat} {R : Nat → Int} (h : RB C b R) (hO : bOk C b) (hT : xv C (b + 15) 0 ≤ 80) (hc : bC C b C' a) : RB C' a R := by
  obtain ⟨o0, o1, o2, o3, o4, o5, o6, o10, oc, op0, opz, opi, om0, omi, olim⟩ := id hO
  obtain ⟨⟨h1, h2⟩, h3, h4, h5, h6, h7⟩ := h
  refine ⟨⟨fun i hi => by rw [hc.z (by omega)]; exact h1 i hi, by rw [hc.z (by omega)]; exact h2⟩, fun y hy => by rw [hc.l (by omega) hy, hc.l (by omega) hy]; exact h3 y hy, fun k hk => ?_, ⟨by rw [hc.m0]; exact h5.1, fun i hi => ?_⟩, ⟨by rw [hc.p0]; exact h6.1, fun i hi => ?_⟩, ⟨by rw [hc.f0]; exact h7.1, h7.2.1, fun i hi => ?_⟩⟩
  · rw [hc.z (by omega)] at hk
    have hp := hc.c hk
    refine ⟨fun q hq => ?_, fun y hy => ?_⟩
    · dsimp only; rw [hp.1 q hq]; exact (h4 k hk).1 q hq
    · obtain ⟨e1, e2, e3, e4⟩ := hp.base (y : Int)
      rw [e1, e2, e3, e4]; exact (h4 k hk).2 y hy
  · rw [hc.m0] at hi
    rw [hc.m (by omega) (by omega), hc.m (by omega) (by omega), hc.m (by omega) (by omega), hc.m (by omega) (by omega)]; exact h5.2 i hi
  · rw [hc.p0] at hi
    rw [hc.p (by omega) (by omega), hc.p (by omega) (by omega), hc.p (by omega) (by omega), hc.p (by omega) (by omega), hc.p (by omega) (by omega)]; exact h6.2 i hi
  · rw [hc.f0] at hi
    rw [hc.f (by omega)]; exact h7.2.2 i hi
/-! reading goes on -/
def aL (C C' : q_X) : Prop := rOk C → rOk C' ∧ xv C 444 1 ≤ xv C' 444 1
theorem aL.rfl {C : q_X} : aL C C := fun h => ⟨h, Int.le_refl _⟩
theorem aL.trans {C C' C2 : q_X} (h : aL C C') (h2 : aL C' C2) : aL C C2 := fun q => ⟨(h2 (h q).1).1, Int.le_trans (h q).2 (h2 (h q).1).2⟩
theorem aL_cg {C C' : q_X} (h4 : xv C' 444 = xv C 444) (h5 : xv C' 445 = xv C 445) : aL C C' := fun q => ⟨q.of h4 h5, by rw [h4]; exact Int.le_refl _⟩
theorem aL_num (C : q_X) (lo hi : Int) : aL C (rd_numX C lo hi) := fun q => by
  refine ⟨q.num lo hi, ?_⟩
  have h1 := p_dig_6 (rd C) (xv C 444 1)
  unfold rOk at q
  unfold rd_numX
  split
  · split
    · rw [xv_up_ne _ _ (by omega), xv_up_same _ _ _ (by omega)]; exact h1.1
    · split
      · rw [xv_up_same _ _ _ (by omega)]; exact h1.1
      · rw [xv_up_ne _ _ (by omega), xv_up_same _ _ _ (by omega)]; exact h1.1
  · exact Int.le_refl _
theorem aL_exp (C : q_X) {c : Int} (hc : c ≠ -1) : aL C (rd_exp C c) := fun q => by
  refine ⟨q.exp hc, ?_⟩
  unfold rOk at q
  unfold rd_exp
  split
  · split
    · rw [xv_up_same _ _ _ (by omega)]; omega
    · rw [xv_up_ne _ _ (by omega)]; exact Int.le_refl _
  · exact Int.le_refl _
theorem aL_N (C : q_X) (lo hi : Int) : aL C (rdN C lo hi) := (aL_num C lo hi).trans (aL_exp _ (by omega))
theorem aL.up {C C' : q_X} (h : aL C C') {a : Nat} (ha : a < 444 ∨ 445 < a) (j : Nat) (v : Int32) : aL C (q_up C' a j v) := h.trans (aL_cg (xv_up_row _ _ _ (by omega)) (xv_up_row _ _ _ (by omega)))
theorem aL_fail (C : q_X) (z : Int) : aL C (rd_fail C z) := fun q => by
  refine ⟨q.fail z, ?_⟩
  unfold rd_fail
  split
  · rw [xv_up_ne _ _ (by omega)]; exact Int.le_refl _
  · exact Int.le_refl _
theorem aL_skip {C : q_X} (hl : xv C 444 1 < xv C 445 1) : aL C (rd_skip C) := fun q => by
  refine ⟨q.skip hl, ?_⟩
  unfold rOk at q
  unfold rd_skip
  split
  · rw [xv_up_same _ _ _ (by omega)]; omega
  · exact Int.le_refl _
theorem aL_pays {C : q_X} {d c : Nat} (hc : c + 5 ≤ 441) : ∀ i, aL C (rdPays C d c i)
  | 0 => aL.rfl
  | i + 1 => by
    rw [rdPays, rdPay]
    refine (aL_pays hc i).trans (((aL_exp (rdPays C d c i) (c := 58) (by omega)).trans ((aL_N _ (xv (rdPays C d c i) d 6) 99999).trans (aL_num _ 0 99999))).trans (aL_cg ?_ ?_))
    · rw [c_put_o _ _ _ _ _ (by omega)]
    · rw [c_put_o _ _ _ _ _ (by omega)]
theorem aL_rd5 (C : q_X) (d : Nat) : aL C (rd5 C d) := by
  have h1 : aL C (rd1 C d) := by rw [rd1]; exact aL_N _ _ _
  have h2 : aL (rd1 C d) (rd2 C d) := by rw [rd2]; exact aL_N _ _ _
  have h3 : aL (rd2 C d) (rd3 C d) := by rw [rd3]; exact aL_N _ _ _
  have h4 : aL (rd3 C d) (rd4 C d) := by rw [rd4]; exact aL_N _ _ _
  have h5 : aL (rd4 C d) (rd5 C d) := by rw [rd5]; exact aL_num _ _ _
  exact (((h1.trans h2).trans h3).trans h4).trans h5
theorem aL_con {C : q_X} {d : Nat} (hd : d + 220 ≤ 441) (h40 : 0 ≤ xv C d 10 ∧ xv C d 10 < 40) : aL C (rdCon C d) := by
  have hc : rdc C d = d + 20 + 5 * (xv C d 10).toNat := rfl
  have h5 := aL_rd5 C d
  unfold rdCon
  split
  · exact (h5.trans (aL_cg (rd8_r (by omega) (by omega) (by omega)) (rd8_r (by omega) (by omega) (by omega)))).trans (aL_pays (by omega) _)
  · rw [rd6]; exact h5.up (by omega) _ _
theorem aL_item {C : q_X} {d : Nat} (hd : d + 220 ≤ 441) (h10 : 0 ≤ xv C d 10 ∧ xv C d 10 ≤ 40) (hl : xv C 444 1 < xv C 445 1) : aL C (rdItem C d) := by
  have hs := aL_skip hl
  have e10 : xv (rd_skip C) d 10 = xv C d 10 := by rw [rd_skip_o (by omega)]
  unfold rdItem
  split
  · exact aL_fail _ _
  · rename_i h40
    split
    · exact hs.trans (by rw [rdLim]; exact ((aL_N _ _ _).trans (aL_num _ _ _)).up (by omega) _ _)
    · split
      · exact hs.trans (by rw [rdDays, rdDa3]; exact (((aL_N _ _ _).up (by omega) _ _).trans (((aL_N _ _ _).up (by omega) _ _).trans (aL_num _ _ _))).up (by omega) _ _)
      · split
        · exact hs.trans (by rw [rdCnt]; exact (aL_num _ _ _).up (by omega) _ _)
        · split
          · exact hs.trans (by rw [rdLea]; exact (aL_num _ _ _).up (by omega) _ _)
          · split
            · exact hs.trans (aL_con hd (by omega))
            · exact aL_fail _ _
theorem exp_at {C : q_X} {c : Int} (h : xv (rd_exp C c) 444 2 = -1) (hq : rOk C) : xv (rd_exp C c) 444 1 = xv C 444 1 + 1 := by
  unfold rOk at hq
  unfold rd_exp at h ⊢
  split at h
  · rename_i h1
    rw [if_pos h1]
    split at h
    · rename_i h2
      rw [if_pos h2, xv_up_same _ _ _ (by omega)]
    · rename_i h2
      rw [xv_up_same _ _ _ (by omega)] at h; omega
  · rename_i h1; exact absurd h h1
theorem item_at {C X : q_X} {d : Nat} (hd : d + 220 ≤ 441) (h10 : 0 ≤ xv C d 10 ∧ xv C d 10 ≤ 40) (hl : xv C 444 1 < xv C 445 1) (hq : rOk C) (h : tR (rd_exp (rdItem C d) 59) X) : xv C 444 1 < xv (rd_exp (rdItem C d) 59) 444 1 := by
  have h1 := aL_item hd h10 hl hq
  have h2 := exp_at h.2.1 h1.1
  have h3 := h1.2
  omega
