theorem RBcg {C C' : q_X} {b : Nat} {R : Nat → Int} (h : RB C b R) (h10 : xv C b 10 ≤ 40) (e : ∀ d, d < 220 → xv C' (b + d) = xv C (b + d)) : RB C' b R := by
  obtain ⟨⟨h1, h2⟩, h3, h4, h5, h6, h7⟩ := h
  have z0 : xv C' b = xv C b := e 0 (by omega)
  refine ⟨⟨fun i hi => by rw [z0]; exact h1 i hi, by rw [z0]; exact h2⟩, fun y hy => by rw [e 1 (by omega), e 2 (by omega)]; exact h3 y hy, fun i hi => ?_, ?_, ?_, ?_⟩
  · rw [z0] at hi
    have hag : cAg C C' (con b i) := fun d hd => by
      unfold con
      have := e (20 + 5 * i + d) (by omega)
      rw [show b + 20 + 5 * i + d = b + (20 + 5 * i + d) by omega]; exact this
    refine ⟨fun q hq => ?_, fun y hy => ?_⟩
    · rw [hag.z]; exact (h4 i hi).1 q hq
    · rw [c_base_ag hag, c_roster_ag hag, c_parts_ag hag, c_given_ag hag]; exact (h4 i hi).2 y hy
  · unfold RM
    rw [e 10 (by omega), e 11 (by omega), e 12 (by omega), e 13 (by omega), e 14 (by omega)]; exact h5
  · unfold RP
    rw [e 4 (by omega), e 5 (by omega), e 6 (by omega), e 7 (by omega), e 8 (by omega), e 9 (by omega)]; exact h6
  · unfold RF
    rw [e 15 (by omega), e 16 (by omega)]; exact h7
set_option maxHeartbeats 4000000 in
set_option maxRecDepth 100000 in
theorem tX12_reads {l : Launch} {g : q_G} {n : Nat} {P : q_P} {X : q_X} {Y : q_Y} (hm : isMod n P) {C : q_X} (hR : tR C X) {lo hi : Int} (hlo : q_in lo) (hhi : q_in hi) {to : Nat} (hto : to < 3740) : q_Met l g mX12_reads 2 [.ref (g.1 + 467), .int (zi (to : Int)), .int (zi lo), .int (zi hi)] n P X Y (q_gi (fun r' n' P' X' Y' => n' = n ∧ P' = P ∧ Y' = Y ∧ ((r' = 1 ∧ ∃ X1, vO X X1 ∧ X' = q_up X1 468 to (zi (rd_numV C lo hi)) ∧ tR (rd_numX C lo hi) X1 ∧ lo ≤ rd_numV C lo hi ∧ rd_numV C lo hi ≤ hi) ∨ (r' = 0 ∧ vO X X' ∧ tF (rd_numX C lo hi) X')))) := by
  obtain ⟨m0, m2, m3, m8, m9, m14, m15, m16, m17, m18, m20, m22, m25, hnm9⟩ := id hm
  refine q_enter (L := [(0, .ref (g.1 + 467)), (1, .int (zi (to : Int))), (2, .int (zi lo)), (3, .int (zi hi))]) (by decide) (Nat.le_of_ble_eq_true rfl) rfl ?_
  refine r_aload_n (i := 0) (pc' := 1) dX12_reads_0 rfl rfl (.head _) ?_
  refine r_iload_n (i := 2) (pc' := 2) dX12_reads_1 rfl rfl (.tail _ (.tail _ (.head _))) ?_
  refine r_iload_n (i := 3) (pc' := 3) dX12_reads_2 rfl rfl (.tail _ (.tail _ (.tail _ (.head _)))) ?_
  refine r_V2gi (ci := 12) (pc' := 6) dX12_reads_3 rfl lX12_99 rfl (by decide) (Nat.le_of_ble_eq_true rfl) (by first | assumption | rfl) (by omega) (tX12_readNumber hm hR hlo hhi) (fun r3 n3 P3 X3 Y3 e3 le3 => ?_)
  obtain ⟨h1v, h2v, h3v, hq3⟩ := e3
  subst h1v h2v h3v
  rcases hq3 with ⟨hz3, ho, ht, h7, hb1, hb2⟩ | ⟨hz3, ho, hf⟩
  · subst hz3
    refine r_if_ne (t := 11) (f := 9) dX12_reads_6 (by decide) rfl (by first | omega | exact xv_in _ _ _) (fun h6 => ?_) (fun h6 => ?_)
    · refine r_aload_n (i := 0) (pc' := 12) dX12_reads_11 rfl rfl (.head _) ?_
      refine r_getR (pc' := 15) dX12_reads_12 rfl fX12_3 rfl (by first | assumption | rfl) (by omega) (by assumption) ?_
      refine r_iload_n (i := 1) (pc' := 16) dX12_reads_15 rfl rfl (.tail _ (.head _)) ?_
      refine r_aload_n (i := 0) (pc' := 17) dX12_reads_16 rfl rfl (.head _) ?_
      refine r_getI (pc' := 20) dX12_reads_17 rfl fX12_93 rfl (by first | assumption | rfl) (by omega) ?_
      rw [h7]
      refine r_iastore (pc' := 21) dX12_reads_20 rfl (by first | assumption | rfl) (by omega) (by omega) (by omega) (by first | decide | omega) (Int.toNat_natCast _) ?_
      refine r_iconst (pc' := 22) dX12_reads_21 rfl ?_
      refine r_zreturn dX12_reads_22 rfl (by first | decide | (split <;> omega) | omega) ?_
      exact ⟨_, rfl, rfl, rfl, rfl, Or.inl ⟨rfl, _, ho, rfl, ht, hb1, hb2⟩⟩
    · exfalso; omega
  · subst hz3
    refine r_if_ne (t := 11) (f := 9) dX12_reads_6 (by decide) rfl (by first | omega | exact xv_in _ _ _) (fun h6 => ?_) (fun h6 => ?_)
    · exfalso; omega
    · refine r_iconst (pc' := 10) dX12_reads_9 rfl ?_
      refine r_zreturn dX12_reads_10 rfl (by first | decide | (split <;> omega) | omega) ?_
      exact ⟨_, rfl, rfl, rfl, rfl, Or.inr ⟨rfl, ho, hf⟩⟩
set_option maxHeartbeats 4000000 in
set_option maxRecDepth 100000 in
theorem tX12_readLimit {l : Launch} {g : q_G} {n : Nat} {P : q_P} {X : q_X} {Y : q_Y} (hm : isMod n P) {C : q_X} {d : Nat} (hR : tR C X) (hB : RB C d (xv X 468)) (hO : bOk C d) (hT : xv C (d + 15) 0 ≤ 80) (hd : d + 220 ≤ 441) : q_Met l g mX12_readLimit 3 [.ref (g.1 + 467)] n P X Y (q_gi (fun r' n' P' X' Y' => n' = n ∧ P' = P ∧ Y' = Y ∧ ((r' = 1 ∧ uO X X' ∧ tR (rdLim C d) X' ∧ RB (rdLim C d) d (xv X' 468)) ∨ (r' = 0 ∧ uO X X' ∧ tF (rdLim C d) X')))) := by
  obtain ⟨m0, m2, m3, m8, m9, m14, m15, m16, m17, m18, m20, m22, m25, hnm9⟩ := id hm
  obtain ⟨o0, o1, o2, o3, o4, o5, o6, o10, oc, op0, opz, opi, om0, omi, olim⟩ := id hO
  refine q_enter (L := [(0, .ref (g.1 + 467))]) (by decide) (Nat.le_of_ble_eq_true rfl) rfl ?_
  refine r_aload_n (i := 0) (pc' := 1) dX12_readLimit_0 rfl rfl (.head _) ?_
  refine r_iconst (pc' := 2) dX12_readLimit_1 rfl ?_
  refine r_bipush (pc' := 4) dX12_readLimit_2 rfl (by decide) ?_
  refine r_V2gi (ci := 12) (pc' := 7) dX12_readLimit_4 rfl lX12_99 rfl (by decide) (Nat.le_of_ble_eq_true rfl) (by first | assumption | rfl) (by omega) (tX12_readNumber (C := C) hm hR (by omega) (by omega)) (fun r4 n4 P4 X4 Y4 e4 le4 => ?_)
  obtain ⟨h1v, h2v, h3v, hq4⟩ := e4
  subst h1v h2v h3v
  rcases hq4 with ⟨hz4, ho4, ht4, hnu, hb1, hb2⟩ | ⟨hz4, ho4, hf⟩
  · subst hz4
    refine r_if_ne (t := 12) (f := 10) dX12_readLimit_7 (by decide) rfl (by first | omega | exact xv_in _ _ _) (fun h7 => ?_) (fun h7 => ?_)
    · refine r_bipush (pc' := 14) dX12_readLimit_12 rfl (by decide) ?_
      refine r_aload_n (i := 0) (pc' := 15) dX12_readLimit_14 rfl rfl (.head _) ?_
      refine r_getI (pc' := 18) dX12_readLimit_15 rfl fX12_93 rfl (by first | assumption | rfl) (by omega) ?_
      rw [hnu]
      refine r_iadd (pc' := 19) dX12_readLimit_18 rfl ?_
      refine r_istore_n (i := 1) (pc' := 20) dX12_readLimit_19 rfl rfl rfl (.s1 .nil rfl rfl rfl) ?_
      refine r_aload_n (i := 0) (pc' := 21) dX12_readLimit_20 rfl rfl (.head _) ?_
      refine r_bipush (pc' := 23) dX12_readLimit_21 rfl (by decide) ?_
      refine r_V1gi (ci := 12) (pc' := 26) dX12_readLimit_23 rfl lX12_103 rfl (by decide) (Nat.le_of_ble_eq_true rfl) (by first | assumption | rfl) (by omega) (tT_takes (C := rd_numX C 0 19) hm ht4 (by omega) (by omega)) (fun r23 n23 P23 X23 Y23 e23 le23 => ?_)
      obtain ⟨h1v, h2v, h3v, hq23⟩ := e23
      subst h1v h2v h3v
      rcases hq23 with ⟨hz23, ho23, ht23⟩ | ⟨hz23, ho23, hf⟩
      · subst hz23
        refine r_if_eq (t := 44) (f := 29) dX12_readLimit_26 (by decide) rfl (by first | omega | exact xv_in _ _ _) (fun h26 => ?_) (fun h26 => ?_)
        · exfalso; omega
        · refine r_aload_n (i := 0) (pc' := 30) dX12_readLimit_29 rfl rfl (.head _) ?_
          rw [show 10 + rd_numV C 0 19 = ((10 + (rd_numV C 0 19).toNat : Nat) : Int) by omega]
          refine r_iload_n (i := 1) (pc' := 31) dX12_readLimit_30 rfl rfl (.tail _ (.head _)) ?_
          refine r_iconst (pc' := 32) dX12_readLimit_31 rfl ?_
          refine r_ldc (pc' := 34) dX12_readLimit_32 rfl kX12_106 ?_
          refine r_V3gi (ci := 12) (pc' := 37) dX12_readLimit_34 rfl lX12_107 rfl (by decide) (Nat.le_of_ble_eq_true rfl) (by first | assumption | rfl) (by omega) (tX12_reads (C := rdN C 0 19) hm ht23 (by omega) (by omega) (to := 10 + (rd_numV C 0 19).toNat) (by omega)) (fun r34 n34 P34 X34 Y34 e34 le34 => ?_)
          obtain ⟨h1v, h2v, h3v, hq34⟩ := e34
          subst h1v h2v h3v
          rcases hq34 with ⟨hz34, X1, ho34, hX1, ht34, hc1, hc2⟩ | ⟨hz34, ho34, hf⟩
          · subst hz34
            subst hX1
            refine r_if_eq (t := 44) (f := 40) dX12_readLimit_37 (by decide) rfl (by first | omega | exact xv_in _ _ _) (fun h37 => ?_) (fun h37 => ?_)
            · exfalso; omega
            · refine r_iconst (pc' := 41) dX12_readLimit_40 rfl ?_
              refine r_goto (t := 45) dX12_readLimit_41 (by decide) ?_
              refine r_zreturn dX12_readLimit_45 rfl (by first | decide | (split <;> omega) | omega) ?_
              refine ⟨_, rfl, rfl, rfl, rfl, Or.inl ⟨rfl, ((ho4.trans ho23).trans ho34).u.up (by omega), ?_, ?_⟩⟩
              · exact (ht34.up _ _).cg (xv_up_row _ _ _ (by omega)) (xv_up_row _ _ _ (by omega)) (xv_up_row _ _ _ (by omega))
              · have hB1 : RB C d (xv X1 468) := by rw [((ho4.trans ho23).trans ho34).v (by omega)]; exact hB
                refine RBcg (hB1.ul hT (y := (rd_numV C 0 19).toNat) (by omega) (zi (rd_numV (rdN C 0 19) 0 999999))) (by rw [xv_up_row _ _ _ (by omega)]; omega) (fun q hq => ?_)
                unfold rdLim
                by_cases e : d + q = d + 1
                · rw [e]
                  funext j
                  by_cases ej : j = (rd_numV C 0 19).toNat
                  · subst ej; simp only [xv, q_up_same]
                  · rw [xv_up_ne _ _ (by omega), xv_up_ne _ _ (by omega), rd_num_o (by omega), rdN_o (by omega)]
                · rw [xv_up_row _ _ _ e, xv_up_row _ _ _ e, rd_num_o (by omega), rdN_o (by omega)]
          · subst hz34
            refine r_if_eq (t := 44) (f := 40) dX12_readLimit_37 (by decide) rfl (by first | omega | exact xv_in _ _ _) (fun h37 => ?_) (fun h37 => ?_)
            · refine r_iconst (pc' := 45) dX12_readLimit_44 rfl ?_
              refine r_zreturn dX12_readLimit_45 rfl (by first | decide | (split <;> omega) | omega) ?_
              exact ⟨_, rfl, rfl, rfl, rfl, Or.inr ⟨rfl, ((ho4.trans ho23).trans ho34).u, hf.up (by omega) _ _⟩⟩
            · exfalso; omega
      · subst hz23
        refine r_if_eq (t := 44) (f := 29) dX12_readLimit_26 (by decide) rfl (by first | omega | exact xv_in _ _ _) (fun h26 => ?_) (fun h26 => ?_)
        · refine r_iconst (pc' := 45) dX12_readLimit_44 rfl ?_
          refine r_zreturn dX12_readLimit_45 rfl (by first | decide | (split <;> omega) | omega) ?_
          exact ⟨_, rfl, rfl, rfl, rfl, Or.inr ⟨rfl, (ho4.trans ho23).u, (hf.num 0 999999).up (by omega) _ _⟩⟩
        · exfalso; omega
    · exfalso; omega
  · subst hz4
    refine r_if_ne (t := 12) (f := 10) dX12_readLimit_7 (by decide) rfl (by first | omega | exact xv_in _ _ _) (fun h7 => ?_) (fun h7 => ?_)
    · exfalso; omega
    · refine r_iconst (pc' := 11) dX12_readLimit_10 rfl ?_
      refine r_zreturn dX12_readLimit_11 rfl (by first | decide | (split <;> omega) | omega) ?_
      exact ⟨_, rfl, rfl, rfl, rfl, Or.inr ⟨rfl, ho4.u, ((hf.exp 44).num 0 999999).up (by omega) _ _⟩⟩
theorem xv_ru {C C' : q_X} {a i j : Nat} {v : Int32} (h : xv C' a = xv C a) : xv (q_up C' i j v) a = xv (q_up C i j v) a := by
  funext q
  by_cases e : a = i ∧ q = j
  · obtain ⟨rfl, rfl⟩ := e; simp only [xv, q_up_same]
  · rw [xv_up_ne _ _ e, xv_up_ne _ _ e, h]
set_option maxHeartbeats 4000000 in
set_option maxRecDepth 100000 in
theorem tX12_readDays {l : Launch} {g : q_G} {n : Nat} {P : q_P} {X : q_X} {Y : q_Y} (hm : isMod n P) {C : q_X} {d : Nat} (hR : tR C X) (hB : RB C d (xv X 468)) (hO : bOk C d) (hT : xv C (d + 15) 0 ≤ 80) (hd : d + 220 ≤ 441) : q_Met l g mX12_readDays 3 [.ref (g.1 + 467)] n P X Y (q_gi (fun r' n' P' X' Y' => n' = n ∧ P' = P ∧ Y' = Y ∧ ((r' = 1 ∧ uO X X' ∧ tR (rdDays C d) X' ∧ RB (rdDays C d) d (xv X' 468)) ∨ (r' = 0 ∧ uO X X' ∧ tF (rdDays C d) X')))) := by
  obtain ⟨m0, m2, m3, m8, m9, m14, m15, m16, m17, m18, m20, m22, m25, hnm9⟩ := id hm
  obtain ⟨o0, o1, o2, o3, o4, o5, o6, o10, oc, op0, opz, opi, om0, omi, olim⟩ := id hO
  refine q_enter (L := [(0, .ref (g.1 + 467))]) (by decide) (Nat.le_of_ble_eq_true rfl) rfl ?_
  refine r_aload_n (i := 0) (pc' := 1) dX12_readDays_0 rfl rfl (.head _) ?_
  refine r_iconst (pc' := 2) dX12_readDays_1 rfl ?_
  refine r_iconst (pc' := 3) dX12_readDays_2 rfl ?_
  refine r_sipush (pc' := 6) dX12_readDays_3 rfl (by decide) ?_
  refine r_V3gi (ci := 12) (pc' := 9) dX12_readDays_6 rfl lX12_107 rfl (by decide) (Nat.le_of_ble_eq_true rfl) (by first | assumption | rfl) (by omega) (tX12_reads (C := C) hm hR (by omega) (by omega) (to := 2) (by omega)) (fun r6 n6 P6 X6 Y6 e6 le6 => ?_)
  obtain ⟨h1v, h2v, h3v, hq6⟩ := e6
  subst h1v h2v h3v
  rcases hq6 with ⟨hz6, X1, ho6, hX1, ht6, hb1, hb2⟩ | ⟨hz6, ho6, hf⟩
  · subst hz6
    subst hX1
    have hB1 : RB C d (xv X1 468) := by rw [ho6.v (by omega)]; exact hB
    have hB2 := hB1.uz (j := 2) (by omega) (zi (rd_numV C 0 364))
    refine r_if_eq (t := 58) (f := 12) dX12_readDays_9 (by decide) rfl (by first | omega | exact xv_in _ _ _) (fun h9 => ?_) (fun h9 => ?_)
    · exfalso; omega
    · refine r_aload_n (i := 0) (pc' := 13) dX12_readDays_12 rfl rfl (.head _) ?_
      refine r_bipush (pc' := 15) dX12_readDays_13 rfl (by decide) ?_
      refine r_V1gi (ci := 12) (pc' := 18) dX12_readDays_15 rfl lX12_103 rfl (by decide) (Nat.le_of_ble_eq_true rfl) (by first | assumption | rfl) (by omega) (tT_takes (C := rd_numX C 0 364) hm (ht6.up _ _) (by omega) (by omega)) (fun r15 n15 P15 X15 Y15 e15 le15 => ?_)
      obtain ⟨h1v, h2v, h3v, hq15⟩ := e15
      subst h1v h2v h3v
      rcases hq15 with ⟨hz15, ho15, ht15⟩ | ⟨hz15, ho15, hf⟩
      · subst hz15
        have hu15 := (ho6.u.up (j := 2) (v := zi (rd_numV C 0 364)) (by omega)).trans ho15.u
        have hT1 : tR (rdDa1 C d) X15 := ht15.cg (xv_up_row _ _ _ (by omega)) (xv_up_row _ _ _ (by omega)) (xv_up_row _ _ _ (by omega))
        have hB3 : RB (rdDa1 C d) d (xv X15 468) := by
          rw [ho15.v (by omega)]
          exact RBcg hB2 (by rw [xv_up_ne _ _ (by omega)]; omega) (fun q hq => xv_ru (rdN_o (by omega)))
        refine r_if_eq (t := 58) (f := 21) dX12_readDays_18 (by decide) rfl (by first | omega | exact xv_in _ _ _) (fun h18 => ?_) (fun h18 => ?_)
        · exfalso; omega
        · refine r_aload_n (i := 0) (pc' := 22) dX12_readDays_21 rfl rfl (.head _) ?_
          refine r_iconst (pc' := 23) dX12_readDays_22 rfl ?_
          refine r_iconst (pc' := 24) dX12_readDays_23 rfl ?_
          refine r_sipush (pc' := 27) dX12_readDays_24 rfl (by decide) ?_
          refine r_V3gi (ci := 12) (pc' := 30) dX12_readDays_27 rfl lX12_107 rfl (by decide) (Nat.le_of_ble_eq_true rfl) (by first | assumption | rfl) (by omega) (tX12_reads (C := rdDa1 C d) hm hT1 (by omega) (by omega) (to := 3) (by omega)) (fun r27 n27 P27 X27 Y27 e27 le27 => ?_)
          obtain ⟨h1v, h2v, h3v, hq27⟩ := e27
          subst h1v h2v h3v
          rcases hq27 with ⟨hz27, X2, ho27, hX2, ht27, hc1, hc2⟩ | ⟨hz27, ho27, hf⟩
          · subst hz27
            subst hX2
            have hB4 : RB (rdDa1 C d) d (xv X2 468) := by rw [ho27.v (by omega)]; exact hB3
            have hB5 := hB4.uz (j := 3) (by omega) (zi (rd_numV (rdDa1 C d) 0 364))
            refine r_if_eq (t := 58) (f := 33) dX12_readDays_30 (by decide) rfl (by first | omega | exact xv_in _ _ _) (fun h30 => ?_) (fun h30 => ?_)
            · exfalso; omega
            · refine r_aload_n (i := 0) (pc' := 34) dX12_readDays_33 rfl rfl (.head _) ?_
              refine r_bipush (pc' := 36) dX12_readDays_34 rfl (by decide) ?_
              refine r_V1gi (ci := 12) (pc' := 39) dX12_readDays_36 rfl lX12_103 rfl (by decide) (Nat.le_of_ble_eq_true rfl) (by first | assumption | rfl) (by omega) (tT_takes (C := rd_numX (rdDa1 C d) 0 364) hm (ht27.up _ _) (by omega) (by omega)) (fun r36 n36 P36 X36 Y36 e36 le36 => ?_)
              obtain ⟨h1v, h2v, h3v, hq36⟩ := e36
              subst h1v h2v h3v
              rcases hq36 with ⟨hz36, ho36, ht36⟩ | ⟨hz36, ho36, hf⟩
              · subst hz36
                have hu36 := ((hu15.trans ho27.u).up (j := 3) (v := zi (rd_numV (rdDa1 C d) 0 364)) (by omega)).trans ho36.u
                have hT2 : tR (rdDa2 (rdDa1 C d) d) X36 := ht36.cg (xv_up_row _ _ _ (by omega)) (xv_up_row _ _ _ (by omega)) (xv_up_row _ _ _ (by omega))
                have h10 : xv (rdDa1 C d) d 10 = xv C d 10 := by unfold rdDa1; rw [xv_up_ne _ _ (by omega), rdN_o (by omega)]
                have hB6 : RB (rdDa2 (rdDa1 C d) d) d (xv X36 468) := by
                  rw [ho36.v (by omega)]
                  exact RBcg hB5 (by rw [xv_up_ne _ _ (by omega)]; omega) (fun q hq => xv_ru (rdN_o (by omega)))
                refine r_if_eq (t := 58) (f := 42) dX12_readDays_39 (by decide) rfl (by first | omega | exact xv_in _ _ _) (fun h39 => ?_) (fun h39 => ?_)
                · exfalso; omega
                · refine r_aload_n (i := 0) (pc' := 43) dX12_readDays_42 rfl rfl (.head _) ?_
                  refine r_iconst (pc' := 44) dX12_readDays_43 rfl ?_
                  refine r_iconst (pc' := 45) dX12_readDays_44 rfl ?_
                  refine r_sipush (pc' := 48) dX12_readDays_45 rfl (by decide) ?_
                  refine r_V3gi (ci := 12) (pc' := 51) dX12_readDays_48 rfl lX12_107 rfl (by decide) (Nat.le_of_ble_eq_true rfl) (by first | assumption | rfl) (by omega) (tX12_reads (C := rdDa2 (rdDa1 C d) d) hm hT2 (by omega) (by omega) (to := 4) (by omega)) (fun r48 n48 P48 X48 Y48 e48 le48 => ?_)
                  obtain ⟨h1v, h2v, h3v, hq48⟩ := e48
                  subst h1v h2v h3v
                  rcases hq48 with ⟨hz48, X3, ho48, hX3, ht48, hd1, hd2⟩ | ⟨hz48, ho48, hf⟩
                  · subst hz48
                    subst hX3
                    refine r_if_eq (t := 58) (f := 54) dX12_readDays_51 (by decide) rfl (by first | omega | exact xv_in _ _ _) (fun h51 => ?_) (fun h51 => ?_)
                    · exfalso; omega
                    · refine r_iconst (pc' := 55) dX12_readDays_54 rfl ?_
                      refine r_goto (t := 59) dX12_readDays_55 (by decide) ?_
                      refine r_zreturn dX12_readDays_59 rfl (by first | decide | (split <;> omega) | omega) ?_
                      refine ⟨_, rfl, rfl, rfl, rfl, Or.inl ⟨rfl, (hu36.trans ho48.u).up (by omega), ?_, ?_⟩⟩
                      · exact (ht48.up _ _).cg (xv_up_row _ _ _ (by omega)) (xv_up_row _ _ _ (by omega)) (xv_up_row _ _ _ (by omega))
                      · have hB7 : RB (rdDa2 (rdDa1 C d) d) d (xv X3 468) := by rw [ho48.v (by omega)]; exact hB6
                        have h10b : xv (rdDa2 (rdDa1 C d) d) d 10 = xv C d 10 := by unfold rdDa2; rw [xv_up_ne _ _ (by omega), rdN_o (by omega), h10]
                        exact RBcg (hB7.uz (j := 4) (by omega) (zi (rd_numV (rdDa2 (rdDa1 C d) d) 0 364))) (by rw [xv_up_ne _ _ (by omega)]; omega) (fun q hq => xv_ru (rd_num_o (by omega)))
                  · subst hz48
                    refine r_if_eq (t := 58) (f := 54) dX12_readDays_51 (by decide) rfl (by first | omega | exact xv_in _ _ _) (fun h51 => ?_) (fun h51 => ?_)
                    · refine r_iconst (pc' := 59) dX12_readDays_58 rfl ?_
                      refine r_zreturn dX12_readDays_59 rfl (by first | decide | (split <;> omega) | omega) ?_
                      exact ⟨_, rfl, rfl, rfl, rfl, Or.inr ⟨rfl, hu36.trans ho48.u, hf.up (by omega) _ _⟩⟩
                    · exfalso; omega
              · subst hz36
                refine r_if_eq (t := 58) (f := 42) dX12_readDays_39 (by decide) rfl (by first | omega | exact xv_in _ _ _) (fun h39 => ?_) (fun h39 => ?_)
                · refine r_iconst (pc' := 59) dX12_readDays_58 rfl ?_
                  refine r_zreturn dX12_readDays_59 rfl (by first | decide | (split <;> omega) | omega) ?_
                  exact ⟨_, rfl, rfl, rfl, rfl, Or.inr ⟨rfl, ((hu15.trans ho27.u).up (by omega)).trans ho36.u, ((hf.up (by omega) _ _).num _ _).up (by omega) _ _⟩⟩
                · exfalso; omega
          · subst hz27
            refine r_if_eq (t := 58) (f := 33) dX12_readDays_30 (by decide) rfl (by first | omega | exact xv_in _ _ _) (fun h30 => ?_) (fun h30 => ?_)
            · refine r_iconst (pc' := 59) dX12_readDays_58 rfl ?_
              refine r_zreturn dX12_readDays_59 rfl (by first | decide | (split <;> omega) | omega) ?_
              exact ⟨_, rfl, rfl, rfl, rfl, Or.inr ⟨rfl, hu15.trans ho27.u, ((((hf.exp 44).up (by omega) _ _).num _ _).up (by omega) _ _)⟩⟩
            · exfalso; omega
      · subst hz15
        refine r_if_eq (t := 58) (f := 21) dX12_readDays_18 (by decide) rfl (by first | omega | exact xv_in _ _ _) (fun h18 => ?_) (fun h18 => ?_)
        · refine r_iconst (pc' := 59) dX12_readDays_58 rfl ?_
          refine r_zreturn dX12_readDays_59 rfl (by first | decide | (split <;> omega) | omega) ?_
          exact ⟨_, rfl, rfl, rfl, rfl, Or.inr ⟨rfl, (ho6.u.up (by omega)).trans ho15.u, (((((hf.up (by omega) _ _).N _ _).up (by omega) _ _).num _ _).up (by omega) _ _)⟩⟩
        · exfalso; omega
  · subst hz6
    refine r_if_eq (t := 58) (f := 12) dX12_readDays_9 (by decide) rfl (by first | omega | exact xv_in _ _ _) (fun h9 => ?_) (fun h9 => ?_)
    · refine r_iconst (pc' := 59) dX12_readDays_58 rfl ?_
      refine r_zreturn dX12_readDays_59 rfl (by first | decide | (split <;> omega) | omega) ?_
      exact ⟨_, rfl, rfl, rfl, rfl, Or.inr ⟨rfl, ho6.u, ((((((hf.exp 44).up (by omega) _ _).N _ _).up (by omega) _ _).num _ _).up (by omega) _ _)⟩⟩
    · exfalso; omega
