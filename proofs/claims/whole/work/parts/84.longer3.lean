theorem RB.ext {C X : q_X} {b k m : Nat} {v : Int} (h : RB C b (xv X 468)) (hc : cOk C (con b k)) (hT : xv C (b + 15) 0 ≤ 80) (hk0 : k < 40) (hv : q_in v) (h10 : xv C (con b k) 1 + xv C (con b k) 2 + m ≤ 10) (h19 : c_last C (con b k) + m ≤ 19) : RB (bk_ext C (con b k) m v) b (xv (q_up (lgN X (130 + 86 * k + (6 + (xv C (con b k) 0 + xv C (con b k) 1).toNat)) v m) 468 (130 + 86 * k + 1) (zi (xv C (con b k) 1 + m))) 468) := by
  obtain ⟨hf, hf2, hf3, hf4, hfj, hfs, hfg⟩ := id hc
  have hlst : c_last C (con b k) = xv C (con b k) 0 + xv C (con b k) 1 + xv C (con b k) 2 - 1 := rfl
  refine h.fc hT (k := k) hk0 (fun a ha => bk_ext_o (by omega)) (fun j hj => ?_) (fun hk => ?_)
  · rw [xv_up_ne _ _ (by omega), lgN_at hv, if_neg (by omega)]
  obtain ⟨r0, r1⟩ := h.2.2.1 k hk
  have ec := fun j => bk_ext_c (X := C) (c := con b k) (m := m) (base := v) (by omega) (by omega) j
  have e0 : xv (bk_ext C (con b k) m v) (con b k) 0 = xv C (con b k) 0 := by rw [ec, if_neg (by omega)]
  have e1 : xv (bk_ext C (con b k) m v) (con b k) 1 = xv C (con b k) 1 + m := by rw [ec, if_pos rfl]
  have z1 : ∀ j, xv (bk_ext C (con b k) m v) (con b k + 1) j = xv (c_putN C (con b k) (xv C (con b k) 1) v m) (con b k + 1) j := fun j => by unfold bk_ext; exact xv_up_ne _ _ (by omega)
  have z2 : ∀ j, xv (bk_ext C (con b k) m v) (con b k + 2) j = xv (c_putN C (con b k) (xv C (con b k) 1) v m) (con b k + 2) j := fun j => by unfold bk_ext; exact xv_up_ne _ _ (by omega)
  have z3 : xv (bk_ext C (con b k) m v) (con b k + 3) = xv C (con b k + 3) := bk_ext_o (by omega)
  have z4 : xv (bk_ext C (con b k) m v) (con b k + 4) = xv C (con b k + 4) := bk_ext_o (by omega)
  refine ⟨fun j hj => ?_, fun w hw => ?_⟩
  · dsimp only
    by_cases q : j = 1
    · subst q; rw [xv_up_same _ _ _ (by omega), e1]
    · rw [xv_up_ne _ _ (by omega), lgN_at hv, if_neg (by omega), ec, if_neg q]; exact r0 j hj
  · obtain ⟨w1, w2, w3, w4⟩ := r1 w hw
    dsimp only at w1 w2 w3 w4 ⊢
    rw [xv_up_ne _ _ (by omega), xv_up_ne _ _ (by omega), xv_up_ne _ _ (by omega), xv_up_ne _ _ (by omega), lgN_at hv, lgN_at hv, lgN_at hv, lgN_at hv, if_neg (c := (130 + 86 * k + (6 + (xv C (con b k) 0 + xv C (con b k) 1).toNat)) ≤ 130 + 86 * k + (26 + w) ∧ _) (by omega), if_neg (c := (130 + 86 * k + (6 + (xv C (con b k) 0 + xv C (con b k) 1).toNat)) ≤ 130 + 86 * k + (46 + w) ∧ _) (by omega), if_neg (c := (130 + 86 * k + (6 + (xv C (con b k) 0 + xv C (con b k) 1).toNat)) ≤ 130 + 86 * k + (66 + w) ∧ _) (by omega), w1, w2, w3, w4]
    have pa := c_putN_at (X := C) (c := con b k) (f := xv C (con b k) 1) hv (by omega) ((w : Int) - xv C (con b k) 0).toNat m (by omega)
    refine ⟨?_, ?_, ?_, ?_⟩
    · unfold c_base c_plays
      rw [e0, e1, z1, pa.1]
      by_cases g : xv C (con b k) 0 ≤ (w : Int) ∧ (w : Int) - xv C (con b k) 0 < xv C (con b k) 1 ∧ (w : Int) - xv C (con b k) 0 < 10
      · rw [if_neg (by omega), if_pos g, if_pos (by omega), if_neg (by omega)]
      · by_cases g2 : (130 + 86 * k + (6 + (xv C (con b k) 0 + xv C (con b k) 1).toNat)) ≤ 130 + 86 * k + (6 + w) ∧ 130 + 86 * k + (6 + w) < (130 + 86 * k + (6 + (xv C (con b k) 0 + xv C (con b k) 1).toNat)) + m
        · rw [if_pos g2, if_pos (by omega), if_pos (by omega)]
        · rw [if_neg g2, if_neg g, if_neg (by omega)]
    · unfold c_roster c_plays
      rw [e0, e1, z2, pa.2]
      by_cases g : xv C (con b k) 0 ≤ (w : Int) ∧ (w : Int) - xv C (con b k) 0 < xv C (con b k) 1 ∧ (w : Int) - xv C (con b k) 0 < 10
      · rw [if_pos g, if_pos (by omega), if_neg (by omega)]
      · rw [if_neg g]
        by_cases g3 : xv C (con b k) 0 ≤ (w : Int) ∧ (w : Int) - xv C (con b k) 0 < xv C (con b k) 1 + m ∧ (w : Int) - xv C (con b k) 0 < 10
        · rw [if_pos g3, if_pos (by omega)]
        · rw [if_neg g3]
    · unfold c_parts; rw [e0, z3]
    · unfold c_given; rw [e0, z4]
