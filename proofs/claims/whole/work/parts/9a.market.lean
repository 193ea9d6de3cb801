set_option maxHeartbeats 4000000 in
set_option maxRecDepth 100000 in
theorem tF_readOffer {l : Launch} {g : q_G} {n : Nat} {P : q_P} {X : q_X} {Y : q_Y} (hm : isMod n P) {D : q_X} {d : Nat} (hR : tR D X) (hB : RB D d (xv X 468)) (hi : xv D (d + 10) 0 = 12) : q_Met l g mX12_readOffer 3 [.ref (g.1 + 467)] n P X Y (q_gi (fun r' n' P' X' Y' => n' = n ∧ P' = P ∧ Y' = Y ∧ r' = 0 ∧ uO X X' ∧ tF (rd_fail D (xv D 444 1)) X')) := by
  obtain ⟨m0, m2, m3, m8, m9, m14, m15, m16, m17, m18, m20, m22, m25, hnm9⟩ := id hm
  have h70 : xv X 468 3570 = 12 := hB.om.trans hi
  have h54 := hR.2.2.2.1
  have hra := hR.a
  refine q_enter (L := [(0, .ref (g.1 + 467))]) (by decide) (Nat.le_of_ble_eq_true rfl) rfl ?_
  refine r_sipush (pc' := 3) dX12_readOffer_0 rfl (by decide) ?_
  refine r_iconst (pc' := 4) dX12_readOffer_3 rfl ?_
  refine r_aload_n (i := 0) (pc' := 5) dX12_readOffer_4 rfl rfl (.head _) ?_
  refine r_getR (pc' := 8) dX12_readOffer_5 rfl fX12_3 rfl (by first | assumption | rfl) (by omega) (by assumption) ?_
  refine r_sipush (pc' := 11) dX12_readOffer_8 rfl (by decide) ?_
  refine r_iaload (pc' := 12) dX12_readOffer_11 rfl (by first | assumption | rfl) (by omega) (by omega) (by omega) (by first | decide | omega) (show Int.toNat 3570 = 3570 from rfl) ?_
  rw [h70]
  refine r_imul (pc' := 13) dX12_readOffer_12 rfl ?_
  refine r_iadd (pc' := 14) dX12_readOffer_13 rfl ?_
  refine r_istore_n (i := 1) (pc' := 15) dX12_readOffer_14 rfl rfl rfl (.s1 .nil rfl rfl rfl) ?_
  refine r_aload_n (i := 0) (pc' := 16) dX12_readOffer_15 rfl rfl (.head _) ?_
  refine r_getR (pc' := 19) dX12_readOffer_16 rfl fX12_3 rfl (by first | assumption | rfl) (by omega) (by assumption) ?_
  refine r_sipush (pc' := 22) dX12_readOffer_19 rfl (by decide) ?_
  refine r_iaload (pc' := 23) dX12_readOffer_22 rfl (by first | assumption | rfl) (by omega) (by omega) (by omega) (by first | decide | omega) (show Int.toNat 3570 = 3570 from rfl) ?_
  rw [h70]
  refine r_bipush (pc' := 25) dX12_readOffer_23 rfl (by decide) ?_
  refine r_icmp_ne (t := 37) (f := 28) dX12_readOffer_25 (by decide) rfl (by first | omega | exact xv_in _ _ _) (by first | omega | exact xv_in _ _ _) (fun h25 => ?_) (fun h25 => ?_)
  · exfalso; omega
  · refine r_aload_n (i := 0) (pc' := 29) dX12_readOffer_28 rfl rfl (.head _) ?_
    refine r_aload_n (i := 0) (pc' := 30) dX12_readOffer_29 rfl rfl (.head _) ?_
    refine r_getI (pc' := 33) dX12_readOffer_30 rfl fX12_82 rfl (by first | assumption | rfl) (by omega) ?_
    rw [h54]
    refine r_V1gi (ci := 12) (pc' := 36) dX12_readOffer_33 rfl lX12_89 rfl (by decide) (Nat.le_of_ble_eq_true rfl) (by first | assumption | rfl) (by omega) (tX12_fails hm) (fun r33 n33 P33 X33 Y33 e33 le33 => ?_)
    obtain ⟨h1v, h2v, h3v, h4v, hr33⟩ := e33
    subst h1v h2v h3v h4v hr33
    refine r_zreturn dX12_readOffer_36 rfl (by first | decide | (split <;> omega) | omega) ?_
    exact ⟨_, rfl, rfl, rfl, rfl, rfl, uO.rfl.x (by omega), hR.fail (by omega)⟩
theorem mk_f {o : Nat} {lp : Int} {F : q_X} (h : xv F 444 2 ≠ -1) (w i : Nat) : rdTail (mkRd o lp w i F) = F := by
  have e : mkRd o lp w i F = F := by
    cases w with
    | zero => rfl
    | succ w => rw [mkRd, if_neg (fun q => h q.1)]
  rw [e, rdTail, if_neg (fun q => h q.1)]
set_option maxHeartbeats 4000000 in
set_option maxRecDepth 100000 in
theorem lX12_market {l : Launch} {g : q_G} {n : Nat} {P : q_P} {Y : q_Y} (hm : isMod n P) {d : Nat} {lp : Int} (hd : d + 220 ≤ 441) {X0 : q_X} {K : q_K} : ∀ (w i : Nat) (D X : q_X), i + w = 12 → tR D X → RB D d (xv X 468) → bA D d → xv D (d + 10) 0 = (i : Int) → xv D d 6 = lp → uO X0 X → (∀ X', uO X0 X' → tR (rdTail (mkRd (d + 10) lp w i D)) X' → RB (rdTail (mkRd (d + 10) lp w i D)) d (xv X' 468) → bA (rdTail (mkRd (d + 10) lp w i D)) d → q_Tr l g mX12_market 4 K 57 [(0, .ref (g.1 + 467))] [] n P X' Y) → (∀ X', uO X0 X' → tF (rdTail (mkRd (d + 10) lp w i D)) X' → q_Tr l g mX12_market 4 K 57 [(0, .ref (g.1 + 467))] [] n P X' Y) → q_Tr l g mX12_market 4 K 20 [(0, .ref (g.1 + 467))] [] n P X Y := by
  obtain ⟨m0, m2, m3, m8, m9, m14, m15, m16, m17, m18, m20, m22, m25, hnm9⟩ := id hm
  intro w
  induction w with
  | zero =>
    intro i D X hi hR hB hA hc h6 ho k1 k2
    obtain rfl : i = 12 := by omega
    have h54 := hR.2.2.2.1
    have hx6 := hR.2.2.1
    have h4 := hR.2.2.2.2.2.2.1
    have hra := hR.a
    rw [mkRd] at k1 k2
    refine r_aload_n (i := 0) (pc' := 21) dX12_market_20 rfl rfl (.head _) ?_
    refine r_getI (pc' := 24) dX12_market_21 rfl fX12_22 rfl (by first | assumption | rfl) (by omega) ?_
    refine r_iconst (pc' := 25) dX12_market_24 rfl ?_
    refine r_icmp_ne (t := 57) (f := 28) dX12_market_25 (by decide) rfl (by first | omega | exact xv_in _ _ _) (by first | omega | exact xv_in _ _ _) (fun h25 => ?_) (fun h25 => ?_)
    · exfalso; omega
    · refine r_aload_n (i := 0) (pc' := 29) dX12_market_28 rfl rfl (.head _) ?_
      refine r_getI (pc' := 32) dX12_market_29 rfl fX12_82 rfl (by first | assumption | rfl) (by omega) ?_
      refine r_aload_n (i := 0) (pc' := 33) dX12_market_32 rfl rfl (.head _) ?_
      refine r_getI (pc' := 36) dX12_market_33 rfl fX12_76 rfl (by first | assumption | rfl) (by omega) ?_
      refine r_icmp_ge (t := 57) (f := 39) dX12_market_36 (by decide) rfl (by first | omega | exact xv_in _ _ _) (by first | omega | exact xv_in _ _ _) (fun h36 => ?_) (fun h36 => ?_)
      · have e : rdTail D = D := by rw [rdTail, if_neg (fun q => by have := q.2; omega)]
        rw [e] at k1 k2
        exact k1 X ho hR hB hA
      · have e : rdTail D = rd_fail D (xv D 444 1) := by rw [rdTail, if_pos ⟨hR.2.1, by omega⟩]
        rw [e] at k1 k2
        refine r_aload_n (i := 0) (pc' := 40) dX12_market_39 rfl rfl (.head _) ?_
        refine r_V0gi (ci := 12) (pc' := 43) dX12_market_40 rfl lX12_153 rfl (by decide) (Nat.le_of_ble_eq_true rfl) (by first | assumption | rfl) (by omega) (tF_readOffer (D := D) hm hR hB hc) (fun r40 n40 P40 X40 Y40 e40 le40 => ?_)
        obtain ⟨h1v, h2v, h3v, h4v, hu40, hf40⟩ := e40
        subst h1v h2v h3v h4v
        generalize rd_fail D (xv D 444 1) = E at hf40 k1 k2
        refine r_if_ne (t := 20) (f := 46) dX12_market_43 (by decide) rfl (by first | omega | exact xv_in _ _ _) (fun h43 => ?_) (fun h43 => ?_)
        · exfalso; omega
        · refine r_aload_n (i := 0) (pc' := 47) dX12_market_46 rfl rfl (.head _) ?_
          refine r_aload_n (i := 0) (pc' := 48) dX12_market_47 rfl rfl (.head _) ?_
          refine r_getI (pc' := 51) dX12_market_48 rfl fX12_76 rfl (by first | assumption | rfl) (by omega) ?_
          refine r_putI (pc' := 54) dX12_market_51 rfl fX12_82 rfl (by first | assumption | rfl) (by omega) rfl rfl ?_
          refine r_goto (t := 20) dX12_market_54 (by decide) ?_
          have hf6 := hf40.2
          have hf7 := hf40.1
          have hfn : ¬ xv (q_up X40 467 5 (zi (xv X40 467 4))) 467 6 = -1 := by rw [xv_up_ne _ _ (by omega), hf6]; exact hf7
          have kk := k2 (q_up X40 467 5 (zi (xv X40 467 4))) ((ho.trans hu40).x (by omega)) ⟨hf7, by rw [xv_up_ne _ _ (by omega)]; exact hf6⟩
          generalize q_up X40 467 5 (zi (xv X40 467 4)) = X9 at hfn kk ⊢
          clear k1 k2
          refine r_aload_n (i := 0) (pc' := 21) dX12_market_20 rfl rfl (.head _) ?_
          refine r_getI (pc' := 24) dX12_market_21 rfl fX12_22 rfl (by first | assumption | rfl) (by omega) ?_
          refine r_iconst (pc' := 25) dX12_market_24 rfl ?_
          refine r_icmp_ne (t := 57) (f := 28) dX12_market_25 (by decide) rfl (by first | omega | exact xv_in _ _ _) (by first | omega | exact xv_in _ _ _) (fun h25 => ?_) (fun h25 => ?_)
          · exact kk
          · exfalso; omega
  | succ w ih =>
    intro i D X hi hR hB hA hc h6 ho k1 k2
    have h54 := hR.2.2.2.1
    have hx6 := hR.2.2.1
    have h4 := hR.2.2.2.2.2.2.1
    have hra := hR.a
    refine r_aload_n (i := 0) (pc' := 21) dX12_market_20 rfl rfl (.head _) ?_
    refine r_getI (pc' := 24) dX12_market_21 rfl fX12_22 rfl (by first | assumption | rfl) (by omega) ?_
    refine r_iconst (pc' := 25) dX12_market_24 rfl ?_
    refine r_icmp_ne (t := 57) (f := 28) dX12_market_25 (by decide) rfl (by first | omega | exact xv_in _ _ _) (by first | omega | exact xv_in _ _ _) (fun h25 => ?_) (fun h25 => ?_)
    · exfalso; omega
    · refine r_aload_n (i := 0) (pc' := 29) dX12_market_28 rfl rfl (.head _) ?_
      refine r_getI (pc' := 32) dX12_market_29 rfl fX12_82 rfl (by first | assumption | rfl) (by omega) ?_
      refine r_aload_n (i := 0) (pc' := 33) dX12_market_32 rfl rfl (.head _) ?_
      refine r_getI (pc' := 36) dX12_market_33 rfl fX12_76 rfl (by first | assumption | rfl) (by omega) ?_
      refine r_icmp_ge (t := 57) (f := 39) dX12_market_36 (by decide) rfl (by first | omega | exact xv_in _ _ _) (by first | omega | exact xv_in _ _ _) (fun h36 => ?_) (fun h36 => ?_)
      · have e : rdTail (mkRd (d + 10) lp (w + 1) i D) = D := by rw [mkRd, if_neg (fun q => by have := q.2; omega), rdTail, if_neg (fun q => by have := q.2; omega)]
        rw [e] at k1 k2
        exact k1 X ho hR hB hA
      · have e : rdTail (mkRd (d + 10) lp (w + 1) i D) = rdTail (mkRd (d + 10) lp w (i + 1) (mkOne D (d + 10) i lp)) := by rw [mkRd, if_pos ⟨hR.2.1, by omega⟩]
        rw [e] at k1 k2
        refine r_aload_n (i := 0) (pc' := 40) dX12_market_39 rfl rfl (.head _) ?_
        refine r_V0gi (ci := 12) (pc' := 43) dX12_market_40 rfl lX12_153 rfl (by decide) (Nat.le_of_ble_eq_true rfl) (by first | assumption | rfl) (by omega) (tX12_readOffer (D := D) hm hR hB hA hd hc (by omega)) (fun r40 n40 P40 X40 Y40 e40 le40 => ?_)
        obtain ⟨h1v, h2v, h3v, hq40⟩ := e40
        subst h1v h2v h3v
        rw [h6] at hq40
        generalize mkOne D (d + 10) i lp = E at hq40 k1 k2
        rcases hq40 with ⟨hz40, hu40, ht40, hb40, ha40, hn40, hr40⟩ | ⟨hz40, hu40, hf40⟩
        · subst hz40
          refine r_if_ne (t := 20) (f := 46) dX12_market_43 (by decide) rfl (by first | omega | exact xv_in _ _ _) (fun h43 => ?_) (fun h43 => ?_)
          · first
              | exact ih (i + 1) E _ (by omega) ht40 hb40 ha40 (by rw [hn40]; omega) (by rw [hr40 d (by omega) (by omega)]; exact h6) (ho.trans hu40) k1 k2
              | (rw [mk_f hf40.1] at k2
                 have hf6 := hf40.2
                 have hf7 := hf40.1
                 have hfn : ¬ xv (q_up X40 467 5 (zi (xv X40 467 4))) 467 6 = -1 := by rw [xv_up_ne _ _ (by omega), hf6]; exact hf7
                 have kk := k2 (q_up X40 467 5 (zi (xv X40 467 4))) ((ho.trans hu40).x (by omega)) ⟨hf7, by rw [xv_up_ne _ _ (by omega)]; exact hf6⟩
                 generalize q_up X40 467 5 (zi (xv X40 467 4)) = X9 at hfn kk ⊢
                 clear k1 k2
                 refine r_aload_n (i := 0) (pc' := 21) dX12_market_20 rfl rfl (.head _) ?_
                 refine r_getI (pc' := 24) dX12_market_21 rfl fX12_22 rfl (by first | assumption | rfl) (by omega) ?_
                 refine r_iconst (pc' := 25) dX12_market_24 rfl ?_
                 refine r_icmp_ne (t := 57) (f := 28) dX12_market_25 (by decide) rfl (by first | omega | exact xv_in _ _ _) (by first | omega | exact xv_in _ _ _) (fun h25 => ?_) (fun h25 => ?_)
                 · exact kk
                 · exfalso; omega)
          · exfalso; omega
        · subst hz40
          refine r_if_ne (t := 20) (f := 46) dX12_market_43 (by decide) rfl (by first | omega | exact xv_in _ _ _) (fun h43 => ?_) (fun h43 => ?_)
          · exfalso; omega
          · refine r_aload_n (i := 0) (pc' := 47) dX12_market_46 rfl rfl (.head _) ?_
            refine r_aload_n (i := 0) (pc' := 48) dX12_market_47 rfl rfl (.head _) ?_
            refine r_getI (pc' := 51) dX12_market_48 rfl fX12_76 rfl (by first | assumption | rfl) (by omega) ?_
            refine r_putI (pc' := 54) dX12_market_51 rfl fX12_82 rfl (by first | assumption | rfl) (by omega) rfl rfl ?_
            refine r_goto (t := 20) dX12_market_54 (by decide) ?_
            first
              | exact ih (i + 1) E _ (by omega) ht40 hb40 ha40 (by rw [hn40]; omega) (by rw [hr40 d (by omega) (by omega)]; exact h6) (ho.trans hu40) k1 k2
              | (rw [mk_f hf40.1] at k2
                 have hf6 := hf40.2
                 have hf7 := hf40.1
                 have hfn : ¬ xv (q_up X40 467 5 (zi (xv X40 467 4))) 467 6 = -1 := by rw [xv_up_ne _ _ (by omega), hf6]; exact hf7
                 have kk := k2 (q_up X40 467 5 (zi (xv X40 467 4))) ((ho.trans hu40).x (by omega)) ⟨hf7, by rw [xv_up_ne _ _ (by omega)]; exact hf6⟩
                 generalize q_up X40 467 5 (zi (xv X40 467 4)) = X9 at hfn kk ⊢
                 clear k1 k2
                 refine r_aload_n (i := 0) (pc' := 21) dX12_market_20 rfl rfl (.head _) ?_
                 refine r_getI (pc' := 24) dX12_market_21 rfl fX12_22 rfl (by first | assumption | rfl) (by omega) ?_
                 refine r_iconst (pc' := 25) dX12_market_24 rfl ?_
                 refine r_icmp_ne (t := 57) (f := 28) dX12_market_25 (by decide) rfl (by first | omega | exact xv_in _ _ _) (by first | omega | exact xv_in _ _ _) (fun h25 => ?_) (fun h25 => ?_)
                 · exact kk
                 · exfalso; omega)
