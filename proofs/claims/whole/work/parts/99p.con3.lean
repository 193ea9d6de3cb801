set_option maxHeartbeats 4000000 in
set_option maxRecDepth 100000 in
theorem l0X12_readContract {l : Launch} {g : q_G} {n : Nat} {P : q_P} {X : q_X} {Y : q_Y} (hm : isMod n P) {z : Nat} (hz : z < 40) {K : q_K} (kk : q_Tr l g mX12_readContract 5 K 33 [(0, .ref (g.1 + 467)), (1, .int (zi (z : Int)))] [] n P (zR X (130 + 86 * z) 86) Y) : ∀ (w i : Nat), i + w = 86 → q_Tr l g mX12_readContract 5 K 10 [(0, .ref (g.1 + 467)), (1, .int (zi (z : Int))), (2, .int (zi (i : Int)))] [] n P (zR X (130 + 86 * z) i) Y := by
  obtain ⟨m0, m2, m3, m8, m9, m14, m15, m16, m17, m18, m20, m22, m25, hnm9⟩ := id hm
  intro w
  induction w with
  | zero =>
    intro i hi
    obtain rfl : i = 86 := by omega
    refine r_iload_n (i := 2) (pc' := 11) dX12_readContract_10 rfl rfl (.tail _ (.tail _ (.head _))) ?_
    refine r_bipush (pc' := 13) dX12_readContract_11 rfl (by decide) ?_
    refine r_icmp_ge (t := 33) (f := 16) dX12_readContract_13 (by decide) rfl (by first | omega | exact xv_in _ _ _) (by first | omega | exact xv_in _ _ _) (fun h13 => ?_) (fun h13 => ?_)
    · refine r_sub (.kp (.kp (.dr .nil))) ?_
      exact kk
    · exfalso; omega
  | succ w ih =>
    intro i hi
    refine r_iload_n (i := 2) (pc' := 11) dX12_readContract_10 rfl rfl (.tail _ (.tail _ (.head _))) ?_
    refine r_bipush (pc' := 13) dX12_readContract_11 rfl (by decide) ?_
    refine r_icmp_ge (t := 33) (f := 16) dX12_readContract_13 (by decide) rfl (by first | omega | exact xv_in _ _ _) (by first | omega | exact xv_in _ _ _) (fun h13 => ?_) (fun h13 => ?_)
    · exfalso; omega
    · refine r_aload_n (i := 0) (pc' := 17) dX12_readContract_16 rfl rfl (.head _) ?_
      refine r_getR (pc' := 20) dX12_readContract_17 rfl fX12_3 rfl (by first | assumption | rfl) (by omega) (by assumption) ?_
      refine r_iload_n (i := 1) (pc' := 21) dX12_readContract_20 rfl rfl (.tail _ (.head _)) ?_
      refine r_iload_n (i := 2) (pc' := 22) dX12_readContract_21 rfl rfl (.tail _ (.tail _ (.head _))) ?_
      refine r_S2p (pc' := 25) dX12_readContract_22 rfl lX12_111 (by decide) (Nat.le_of_ble_eq_true rfl) (tX12_placeOf ) ?_
      refine r_iconst (pc' := 26) dX12_readContract_25 rfl ?_
      refine r_iastore (pc' := 27) dX12_readContract_26 rfl (by first | assumption | rfl) (by omega) (by omega) (by omega) (by first | decide | omega) (show _ = (130 + 86 * z) + i by omega) ?_
      refine r_iinc (pc' := 30) dX12_readContract_27 rfl rfl (.tail _ (.tail _ (.head _))) (.s1 (.s1 (.here .nil) rfl rfl rfl) rfl rfl rfl) ?_
      refine r_goto (t := 10) dX12_readContract_30 (by decide) ?_
      rw [zR_s]
      exact ih (i + 1) (by omega)
set_option maxHeartbeats 4000000 in
set_option maxRecDepth 100000 in
theorem l0cX12_readContract {l : Launch} {g : q_G} {n : Nat} {P : q_P} {X : q_X} {Y : q_Y} (hm : isMod n P) {z : Nat} (hz : z < 40) {K : q_K} (kk : q_Tr l g mX12_readContract 5 K 33 [(0, .ref (g.1 + 467)), (1, .int (zi (z : Int)))] [] n P (zR X (130 + 86 * z) 86) Y) : q_Tr l g mX12_readContract 5 K 10 [(0, .ref (g.1 + 467)), (1, .int (zi (z : Int))), (2, .int (zi 0))] [] n P X Y := by
  have h := l0X12_readContract hm hz kk 86 0 (Nat.zero_add _)
  rw [zR_0] at h
  exact h
theorem rdCon_ok {C : q_X} {d : Nat} (h : xv (rd5 C d) 444 2 = -1) : rdCon C d = conX C d := by unfold rdCon; rw [if_pos h]
theorem tF.con5 {C X : q_X} {d : Nat} (h : tF (rd5 C d) X) (hd : d ≠ 444) : tF (rdCon C d) X := by
  unfold rdCon; rw [if_neg h.1, rd6]; exact h.up hd _ _
theorem tF.con4 {C X : q_X} {d : Nat} (h : tF (rd4 C d) X) (hd : d ≠ 444) : tF (rdCon C d) X := (h.num _ _ : tF (rd5 C d) X).con5 hd
theorem tF.con3 {C X : q_X} {d : Nat} (h : tF (rd3 C d) X) (hd : d ≠ 444) : tF (rdCon C d) X := (h.N _ _ : tF (rd4 C d) X).con4 hd
theorem tF.con2 {C X : q_X} {d : Nat} (h : tF (rd2 C d) X) (hd : d ≠ 444) : tF (rdCon C d) X := (h.N _ _ : tF (rd3 C d) X).con3 hd
theorem tF.con1 {C X : q_X} {d : Nat} (h : tF (rd1 C d) X) (hd : d ≠ 444) : tF (rdCon C d) X := (h.N _ _ : tF (rd2 C d) X).con2 hd
theorem con_fin {C X X8 X9 : q_X} {d z f m : Nat} (hd : d + 220 ≤ 441) (hO : bOk C d) (hT : xv C (d + 15) 0 ≤ 80) (hB : RB C d (xv X 468)) (hz : xv C d 10 = (z : Int)) (hz40 : z < 40) (hff : rdf C d = (f : Int)) (hmm : rdy C d = (m : Int)) (hcok : conOk C d) (hv8 : ∀ j, xv X8 468 j = if j = (130 + 86 * z) + 3 then rds C d else if j = (130 + 86 * z) + 2 then rdv C d else if j = (130 + 86 * z) + 1 then rdy C d else if j = (130 + 86 * z) then rdf C d else if (130 + 86 * z) ≤ j ∧ j < (130 + 86 * z) + 86 then 0 else xv X 468 j) (hI9 : rowI C d (130 + 86 * z) f m X8 X9) : RB (conX C d) d (xv (q_up (spR X9 (130 + 86 * z) f (rdb C d) (rdy C d + rdv C d) (min 5 (rdy C d + rdv C d)).toNat) 468 7 (zi ((z : Int) + 1))) 468) := by
  have hb0 : 0 ≤ rdb C d ∧ rdb C d ≤ 99999 := rd_numV_b (by omega)
  have hco := hcok
  obtain ⟨f1, f2, y1, y2, v1, v2⟩ := hco
  have hv4 := fun j => spR_v (X := X9) (a := (130 + 86 * z)) (f := f) (x := rdb C d) (ov := rdy C d + rdv C d) (m := (min 5 (rdy C d + rdv C d)).toNat) hb0 j
  have hy6 : m ≤ 6 := by omega
  have hfm : f + m ≤ 20 := by omega
  have hyv : rdy C d + rdv C d ≤ 10 := by omega
  have hfv : (f : Int) + rdy C d + rdv C d ≤ 20 := by omega
  have f0 := hO.1
  generalize (spR X9 (130 + 86 * z) f (rdb C d) (rdy C d + rdv C d) (min 5 (rdy C d + rdv C d)).toNat) = X10 at hv4 ⊢
  have hv5 : ∀ j, j ≠ 7 → xv (q_up X10 468 7 (zi ((z : Int) + 1))) 468 j = xv X10 468 j := fun j hj => xv_up_ne _ _ (by omega)
  generalize hov : (min 5 (rdy C d + rdv C d)).toNat = mo at hv4
  have hmo : mo ≤ 5 ∧ (mo : Int) = min 5 (rdy C d + rdv C d) := by omega
  refine RB_con hd hO hT hB (by omega) hcok (fun j j1 j2 j3 => ?_) (by rw [xv_up_same _ _ _ (by omega), hz]) ⟨⟨?_, ?_, ?_, ?_, ?_, ?_⟩, fun w hw => ⟨?_, ?_, ?_, ?_⟩⟩
  · rw [hz, Int.toNat_natCast] at j3
    clear hcok hB hO hT hd hb0
    rw [hv5 _ j2, hv4, if_neg (by omega), if_neg (by omega), hI9, if_neg (by omega), if_neg (by omega), hv8, if_neg (by omega), if_neg (by omega), if_neg (by omega), if_neg (by omega), if_neg (by omega)]
  all_goals (dsimp only; rw [hz, Int.toNat_natCast, hv5 _ (by omega), hv4])
  all_goals clear hcok hB hO hT hd hv5 hb0
  · rw [if_neg (by omega), if_neg (by omega), hI9, if_neg (by omega), if_neg (by omega), hv8, if_neg (by omega), if_neg (by omega), if_neg (by omega), if_pos (by omega)]
  · rw [if_neg (by omega), if_neg (by omega), hI9, if_neg (by omega), if_neg (by omega), hv8, if_neg (by omega), if_neg (by omega), if_pos (by omega)]
  · rw [if_neg (by omega), if_neg (by omega), hI9, if_neg (by omega), if_neg (by omega), hv8, if_neg (by omega), if_pos (by omega)]
  · rw [if_neg (by omega), if_neg (by omega), hI9, if_neg (by omega), if_neg (by omega), hv8, if_pos (by omega)]
  · rw [if_neg (by omega), if_neg (by omega), hI9, if_neg (by omega), if_neg (by omega), hv8, if_neg (by omega), if_neg (by omega), if_neg (by omega), if_neg (by omega), if_pos (by omega)]
  · rw [if_neg (by omega), if_neg (by omega), hI9, if_neg (by omega), if_neg (by omega), hv8, if_neg (by omega), if_neg (by omega), if_neg (by omega), if_neg (by omega), if_pos (by omega)]
  · rw [if_neg (by omega), if_neg (by omega), hI9]
    by_cases e : rdf C d ≤ (w : Int) ∧ (w : Int) - rdf C d < rdy C d
    · rw [if_pos (by omega), if_pos e]; congr 1; omega
    · rw [if_neg (by omega), if_neg (by omega), if_neg e, hv8, if_neg (by omega), if_neg (by omega), if_neg (by omega), if_neg (by omega), if_pos (by omega)]
  · rw [if_neg (by omega), if_neg (by omega), hI9]
    by_cases e : rdf C d ≤ (w : Int) ∧ (w : Int) - rdf C d < rdy C d
    · rw [if_neg (by omega), if_pos (by omega), if_pos e]; congr 1; omega
    · rw [if_neg (by omega), if_neg (by omega), if_neg e, hv8, if_neg (by omega), if_neg (by omega), if_neg (by omega), if_neg (by omega), if_pos (by omega)]
  · by_cases e : (130 + 86 * z) + 46 + f ≤ (130 + 86 * z) + (46 + w) ∧ (130 + 86 * z) + (46 + w) < (130 + 86 * z) + 46 + f + mo
    · rw [if_pos e, if_pos (by omega)]; congr 1; omega
    · rw [if_neg e, if_neg (by omega), hI9, if_neg (by omega), if_neg (by omega), hv8, if_neg (by omega), if_neg (by omega), if_neg (by omega), if_neg (by omega), if_pos (by omega)]
      by_cases e2 : rdf C d ≤ (w : Int) ∧ (w : Int) - rdf C d < 10
      · rw [if_pos e2, c_piece_0 (by omega)]
      · rw [if_neg e2]
  · rw [if_neg (by omega)]
    by_cases e : (w : Int) = rdf C d
    · rw [if_pos (by omega), if_pos e]
    · rw [if_neg (by omega), if_neg e, hI9, if_neg (by omega), if_neg (by omega), hv8, if_neg (by omega), if_neg (by omega), if_neg (by omega), if_neg (by omega), if_pos (by omega)]
