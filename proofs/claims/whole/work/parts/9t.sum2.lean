set_option maxHeartbeats 4000000 in
set_option maxRecDepth 100000 in
theorem bX12_readSum {l : Launch} {g : q_G} {n : Nat} {P : q_P} {Y : q_Y} (hm : isMod n P) {f W0 : Nat} {S0 : fS} (hf : f + 5 ≤ 441) {X0 : q_X} {K : q_K} (kk : ∀ X', zO X0 X' → tR (fEnd f (fRun f W0 S0)) X' → yR (fEnd f (fRun f W0 S0)) X' f → YI (fEnd f (fRun f W0 S0)) f 0 0 (fRun f W0 S0).2.1 → xv X' 467 12 = (fRun f W0 S0).2.1 → K (some (.int (zi 1))) n P X' Y) (kf : ∀ X', zO X0 X' → tF (fEnd f (fRun f W0 S0)) X' → K (some (.int (zi 0))) n P X' Y) {w : Nat} {D X : q_X} {th B : Int} (hr : fRun f W0 S0 = fRun f w (D, th, B, 0)) (hl : xv D 445 1 - xv D 444 1 ≤ (w : Int)) (hz : fZ (D, th, B, 0) X f) (ho : zO X0 X) (hn : ¬ (rd D (xv D 444 1) = 41 ∧ 0 < B)) (hop : ¬ isOp (rd D (xv D 444 1))) : q_Tr l g mX12_readSum 3 K 2 [(0, .ref (g.1 + 467)), (1, .int (zi 0))] [] n P X Y := by
  obtain ⟨m0, m2, m3, m8, m9, m14, m15, m16, m17, m18, m20, m22, m25, hnm9⟩ := id hm
  have hR := hz.1
  simp only at hR
  have ha := hR.a
  have hok := hR.1
  unfold rOk at hok
  have h5 := hR.2.2.2.1
  have h4t := hR.2.2.2.2.2.2.1
  have g13 := hz.2.2.2.1
  simp only at g13
  have hyc := hz.2.2.2.2.c
  simp only at hyc
  have hyr := hz.2.1
  simp only at hyr
  have hb0 : 0 ≤ B ∧ B ≤ 6 := by obtain ⟨_, _, _, _, _, _, q, _⟩ := hz.2.2.2.2; exact q
  rw [hr] at kk kf
  have hnf := fun X1 => fZ_nfin (X1 := X1) hz hf hl hn hop
  have hfi := fun (e : B = 0) X1 => fZ_fin (X1 := X1) (w := w) (th := th) (D := D) (X := X) (by have h := hz; rw [e] at h; exact h) hf
  generalize rd D (xv D 444 1) = c at hn hop
  refine r_iload_n (i := 1) (pc' := 3) dX12_readSum_2 rfl rfl (.tail _ (.head _)) ?_
  refine r_if_eq (t := 64) (f := 6) dX12_readSum_3 (by decide) rfl (by first | omega | exact xv_in _ _ _) (fun h3 => ?_) (fun h3 => ?_)
  · refine r_aload_n (i := 0) (pc' := 65) dX12_readSum_64 rfl rfl (.head _) ?_
    refine r_iconst (pc' := 66) dX12_readSum_65 rfl ?_
    refine r_V1gv (ci := 12) (pc' := 69) dX12_readSum_66 rfl lX12_188 rfl (by decide) (Nat.le_of_ble_eq_true rfl) (by first | assumption | rfl) (by omega) (tX12_doesWaiting hm (by omega) (by omega) hyr (by omega)) (fun n66 P66 X66 Y66 e66 le66 => ?_)
    obtain ⟨rfl, rfl, rfl, hyo, hyr2⟩ := e66
    have g15 := hyo.j (j := 5) (by omega)
    have g14 := hyo.j (j := 4) (by omega)
    have g113 := (hyo.j (j := 13) (by omega)).trans g13
    refine r_aload_n (i := 0) (pc' := 70) dX12_readSum_69 rfl rfl (.head _) ?_
    refine r_getI (pc' := 73) dX12_readSum_70 rfl fX12_82 rfl (by first | assumption | rfl) (by omega) ?_
    rw [g15]
    refine r_aload_n (i := 0) (pc' := 74) dX12_readSum_73 rfl rfl (.head _) ?_
    refine r_getI (pc' := 77) dX12_readSum_74 rfl fX12_76 rfl (by first | assumption | rfl) (by omega) ?_
    rw [g14]
    refine r_icmp_ne (t := 87) (f := 80) dX12_readSum_77 (by decide) rfl (by first | omega | exact xv_in _ _ _) (by first | omega | exact xv_in _ _ _) (fun h77 => ?_) (fun h77 => ?_)
    · refine r_aload_n (i := 0) (pc' := 88) dX12_readSum_87 rfl rfl (.head _) ?_
      refine r_aload_n (i := 0) (pc' := 89) dX12_readSum_88 rfl rfl (.head _) ?_
      refine r_getI (pc' := 92) dX12_readSum_89 rfl fX12_82 rfl (by first | assumption | rfl) (by omega) ?_
      refine r_V1gi (ci := 12) (pc' := 95) dX12_readSum_92 rfl lX12_89 rfl (by decide) (Nat.le_of_ble_eq_true rfl) (by first | assumption | rfl) (by omega) (tX12_fails hm) (fun r92 n92 P92 X92 Y92 e92 le92 => ?_)
      obtain ⟨h1v, h2v, h3v, h4v, hr92⟩ := e92
      subst h1v h2v h3v h4v hr92
      refine r_if_eq (t := 102) (f := 98) dX12_readSum_95 (by decide) rfl (by first | omega | exact xv_in _ _ _) (fun h95 => ?_) (fun h95 => ?_)
      · refine r_iconst (pc' := 103) dX12_readSum_102 rfl ?_
        refine r_zreturn dX12_readSum_103 rfl (by first | decide | (split <;> omega) | omega) ?_
        first
          | (have hB0 : B = 0 := by omega
             subst hB0
             obtain ⟨q1, q2, q3, q4, q5⟩ := hfi rfl _ (by omega) hyo hyr2
             refine kk _ (ho.trans hyo.z) q1 q2 ?_ ?_
             · rw [q4]; exact q3
             · rw [q4]; exact q5)
          | exact kf _ ((ho.trans hyo.z).up (by omega)) (hnf _ (by omega) hyo)
      · exfalso; omega
    · refine r_aload_n (i := 0) (pc' := 81) dX12_readSum_80 rfl rfl (.head _) ?_
      refine r_getI (pc' := 84) dX12_readSum_81 rfl fX12_178 rfl (by first | assumption | rfl) (by omega) ?_
      rw [g113]
      refine r_if_eq (t := 98) (f := 87) dX12_readSum_84 (by decide) rfl (by first | omega | exact xv_in _ _ _) (fun h84 => ?_) (fun h84 => ?_)
      · refine r_iconst (pc' := 99) dX12_readSum_98 rfl ?_
        refine r_goto (t := 103) dX12_readSum_99 (by decide) ?_
        refine r_zreturn dX12_readSum_103 rfl (by first | decide | (split <;> omega) | omega) ?_
        first
          | (have hB0 : B = 0 := by omega
             subst hB0
             obtain ⟨q1, q2, q3, q4, q5⟩ := hfi rfl _ (by omega) hyo hyr2
             refine kk _ (ho.trans hyo.z) q1 q2 ?_ ?_
             · rw [q4]; exact q3
             · rw [q4]; exact q5)
          | exact kf _ ((ho.trans hyo.z).up (by omega)) (hnf _ (by omega) hyo)
      · refine r_aload_n (i := 0) (pc' := 88) dX12_readSum_87 rfl rfl (.head _) ?_
        refine r_aload_n (i := 0) (pc' := 89) dX12_readSum_88 rfl rfl (.head _) ?_
        refine r_getI (pc' := 92) dX12_readSum_89 rfl fX12_82 rfl (by first | assumption | rfl) (by omega) ?_
        refine r_V1gi (ci := 12) (pc' := 95) dX12_readSum_92 rfl lX12_89 rfl (by decide) (Nat.le_of_ble_eq_true rfl) (by first | assumption | rfl) (by omega) (tX12_fails hm) (fun r92 n92 P92 X92 Y92 e92 le92 => ?_)
        obtain ⟨h1v, h2v, h3v, h4v, hr92⟩ := e92
        subst h1v h2v h3v h4v hr92
        refine r_if_eq (t := 102) (f := 98) dX12_readSum_95 (by decide) rfl (by first | omega | exact xv_in _ _ _) (fun h95 => ?_) (fun h95 => ?_)
        · refine r_iconst (pc' := 103) dX12_readSum_102 rfl ?_
          refine r_zreturn dX12_readSum_103 rfl (by first | decide | (split <;> omega) | omega) ?_
          first
            | (have hB0 : B = 0 := by omega
               subst hB0
               obtain ⟨q1, q2, q3, q4, q5⟩ := hfi rfl _ (by omega) hyo hyr2
               refine kk _ (ho.trans hyo.z) q1 q2 ?_ ?_
               · rw [q4]; exact q3
               · rw [q4]; exact q5)
            | exact kf _ ((ho.trans hyo.z).up (by omega)) (hnf _ (by omega) hyo)
        · exfalso; omega
  · exfalso; omega
set_option maxHeartbeats 4000000 in
set_option maxRecDepth 100000 in
theorem lX12_readSum {l : Launch} {g : q_G} {n : Nat} {P : q_P} {Y : q_Y} (hm : isMod n P) {f W0 : Nat} {S0 : fS} (hf : f + 5 ≤ 441) {X0 : q_X} {K : q_K} (kk : ∀ X', zO X0 X' → tR (fEnd f (fRun f W0 S0)) X' → yR (fEnd f (fRun f W0 S0)) X' f → YI (fEnd f (fRun f W0 S0)) f 0 0 (fRun f W0 S0).2.1 → xv X' 467 12 = (fRun f W0 S0).2.1 → K (some (.int (zi 1))) n P X' Y) (kf : ∀ X', zO X0 X' → tF (fEnd f (fRun f W0 S0)) X' → K (some (.int (zi 0))) n P X' Y) : ∀ (k w : Nat) (D X : q_X) (th B : Int), 40 - th < k → fRun f W0 S0 = fRun f w (D, th, B, 1) → xv D 445 1 - xv D 444 1 ≤ (w : Int) → fZ (D, th, B, 1) X f → zO X0 X → q_Tr l g mX12_readSum 3 K 2 [(0, .ref (g.1 + 467)), (1, .int (zi 1))] [] n P X Y := by
  obtain ⟨m0, m2, m3, m8, m9, m14, m15, m16, m17, m18, m20, m22, m25, hnm9⟩ := id hm
  intro k
  induction k with
  | zero =>
    intro w D X th B hk hr hl hz ho
    exfalso
    obtain ⟨_, _, _, _, _, _, _, _, _, _, q2, _⟩ := hz.2.2.2.2
    simp only at q2; omega
  | succ k ih =>
    intro w D X th B hk hr hl hz ho
    refine r_iload_n (i := 1) (pc' := 3) dX12_readSum_2 rfl rfl (.tail _ (.head _)) ?_
    refine r_if_eq (t := 64) (f := 6) dX12_readSum_3 (by decide) rfl (by first | omega | exact xv_in _ _ _) (fun h3 => ?_) (fun h3 => ?_)
    · exfalso; omega
    · refine r_aload_n (i := 0) (pc' := 7) dX12_readSum_6 rfl rfl (.head _) ?_
      refine r_V0gi (ci := 12) (pc' := 10) dX12_readSum_7 rfl lX12_191 rfl (by decide) (Nat.le_of_ble_eq_true rfl) (by first | assumption | rfl) (by omega) (tX12_readThing (w := w) (D := D) (th := th) (B := B) hm hf hl hz) (fun r7 n7 P7 X7 Y7 e7 le7 => ?_)
      obtain ⟨h1v, h2v, h3v, hq7⟩ := e7
      subst h1v h2v h3v
      rcases hq7 with ⟨hz7, ho7, w7, D7, th7, B7, ht7, hr7, hl7, hy7z⟩ | ⟨hz7, ho7, hf7⟩
      · subst hz7
        refine r_if_ne (t := 15) (f := 13) dX12_readSum_10 (by decide) rfl (by first | omega | exact xv_in _ _ _) (fun h10 => ?_) (fun h10 => ?_)
        · refine r_aload_n (i := 0) (pc' := 16) dX12_readSum_15 rfl rfl (.head _) ?_
          refine r_V0gv (ci := 12) (pc' := 19) dX12_readSum_16 rfl lX12_194 rfl (by decide) (Nat.le_of_ble_eq_true rfl) (by first | assumption | rfl) (by omega) (tX12_closes (w := w7) (D := D7) (th := th7) (B := B7) hm hf hl7 hy7z) (fun n16 P16 X16 Y16 e16 le16 => ?_)
          obtain ⟨rfl, rfl, rfl, ho16, w2, D2, B2, hr16, hl16, hz16, hn16⟩ := e16
          have hr2 := hr7.trans hr16
          have hR2 := hz16.1
          simp only at hR2
          have ha2 := hR2.a
          have hyc2 := hz16.2.2.2.2.c
          simp only at hyc2
          obtain ⟨c, hc⟩ : ∃ c, rd D2 (xv D2 444 1) = c := ⟨_, rfl⟩
          have hci : q_in c := by rw [← hc]; exact rd_in _ _
          have hh : mRd X16 (xv X16 467 5) = c := hR2.h.trans hc
          have hyr2 : yR (rd_skip D2) X16 f := by
            have hyr0 := hz16.2.1
            simp only at hyr0
            exact hyr0.cg (rd_skip_o (by omega)) (rd_skip_o (by omega)) (rd_skip_o (by omega)) rfl rfl rfl rfl
          have hs2 : xv (rd_skip D2) f = xv D2 f := rd_skip_o (by omega)
          have h80 : xv (rd_skip D2) f 0 + xv (rd_skip D2) f 3 ≤ 80 := by rw [hs2]; omega
          refine r_aload_n (i := 0) (pc' := 20) dX12_readSum_19 rfl rfl (.head _) ?_
          refine r_V0p (ci := 12) (pc' := 23) dX12_readSum_20 rfl lX12_85 rfl (by decide) (Nat.le_of_ble_eq_true rfl) (by first | assumption | rfl) (by omega) (tX12_here hm (by omega) (by omega)) ?_
          rw [hh]
          refine r_S1p (pc' := 26) dX12_readSum_23 rfl lX12_168 (by decide) (Nat.le_of_ble_eq_true rfl) (tX12_rankOf (by omega)) ?_
          by_cases hop : isOp c
          · obtain ⟨o1, o2, o3, o4, o5⟩ := isOp_c hop
            have hop2 := hop
            unfold isOp at hop2
            refine r_if_le (t := 33) (f := 29) dX12_readSum_26 (by decide) rfl (by first | omega | exact xv_in _ _ _) (fun h26 => ?_) (fun h26 => ?_)
            · exfalso; omega
            · refine r_iconst (pc' := 30) dX12_readSum_29 rfl ?_
              refine r_goto (t := 34) dX12_readSum_30 (by decide) ?_
              refine r_istore_n (i := 1) (pc' := 35) dX12_readSum_34 rfl rfl rfl (.s1 (.here .nil) rfl rfl rfl) ?_
              refine r_iload_n (i := 1) (pc' := 36) dX12_readSum_35 rfl rfl (.tail _ (.head _)) ?_
              refine r_if_ne (t := 42) (f := 39) dX12_readSum_36 (by decide) rfl (by first | omega | exact xv_in _ _ _) (fun h36 => ?_) (fun h36 => ?_)
              · refine r_aload_n (i := 0) (pc' := 43) dX12_readSum_42 rfl rfl (.head _) ?_
                refine r_aload_n (i := 0) (pc' := 44) dX12_readSum_43 rfl rfl (.head _) ?_
                refine r_V0p (ci := 12) (pc' := 47) dX12_readSum_44 rfl lX12_85 rfl (by decide) (Nat.le_of_ble_eq_true rfl) (by first | assumption | rfl) (by omega) (tX12_here hm (by omega) (by omega)) ?_
                rw [hh]
                refine r_S1p (pc' := 50) dX12_readSum_47 rfl lX12_168 (by decide) (Nat.le_of_ble_eq_true rfl) (tX12_rankOf (by omega)) ?_
                rw [o5]
                refine r_V1gv (ci := 12) (pc' := 53) dX12_readSum_50 rfl lX12_188 rfl (by decide) (Nat.le_of_ble_eq_true rfl) (by first | assumption | rfl) (by omega) (tX12_doesWaiting hm (by omega) ⟨o3, o4⟩ hyr2 h80) (fun n50 P50 X50 Y50 e50 le50 => ?_)
                obtain ⟨rfl, rfl, rfl, hyo, hyr3⟩ := e50
                have hR3 := hR2.k (X' := X50) (hyo.j (by omega)) (hyo.j (by omega)) (hyo.j (by omega)) (hyo.w (by omega))
                have ha3 := hR3.a
                have hh3 : mRd X50 (xv X50 467 5) = c := hR3.h.trans hc
                have hy11 := hyr3.2.2.1
                have hyb3 := hyr3.1
                have hzo := hz16.oper hf hc hop hyo hyr3
                refine r_aload_n (i := 0) (pc' := 54) dX12_readSum_53 rfl rfl (.head _) ?_
                refine r_aload_n (i := 0) (pc' := 55) dX12_readSum_54 rfl rfl (.head _) ?_
                refine r_V0p (ci := 12) (pc' := 58) dX12_readSum_55 rfl lX12_85 rfl (by decide) (Nat.le_of_ble_eq_true rfl) (by first | assumption | rfl) (by omega) (tX12_here hm (by omega) (by omega)) ?_
                rw [hh3]
                refine r_V1gv (ci := 12) (pc' := 61) dX12_readSum_58 rfl lX12_181 rfl (by decide) (Nat.le_of_ble_eq_true rfl) (by first | assumption | rfl) (by omega) (tX12_waitsFor hm (by omega)) (fun n58 P58 X58 Y58 e58 le58 => ?_)
                obtain ⟨hg1_58, hg2_58, hg3_58, hg4_58⟩ := e58
                have g1_58 := Eq.symm hg1_58
                have g2_58 := Eq.symm hg2_58
                have g3_58 := Eq.symm hg3_58
                have g4_58 := Eq.symm hg4_58
                clear hg1_58 hg2_58 hg3_58 hg4_58
                subst g1_58 g2_58 g3_58 g4_58
                refine r_goto (t := 2) dX12_readSum_61 (by decide) ?_
                have hlt := rd_lt (X := D2) (a := xv D2 444 1) (by rw [hc]; omega)
                obtain ⟨v, rfl⟩ : ∃ v, w2 = v + 1 := ⟨w2 - 1, by omega⟩
                have hadv := fOper_adv (f := f) hR2 hf hc hop
                exact ih v (fOper D2 f) _ th7 B2 (by omega) ((hr.trans hr2).trans (fRun_oper hR2.2.1 hlt.1 hn16)) (by omega) hzo (((((ho.trans ho7).trans ho16).trans hyo.z).up (by omega)).up (by omega) |>.up (by omega))
              · exfalso; omega
          · have hop2 := hop
            unfold isOp at hop2
            refine r_if_le (t := 33) (f := 29) dX12_readSum_26 (by decide) rfl (by first | omega | exact xv_in _ _ _) (fun h26 => ?_) (fun h26 => ?_)
            · refine r_iconst (pc' := 34) dX12_readSum_33 rfl ?_
              refine r_istore_n (i := 1) (pc' := 35) dX12_readSum_34 rfl rfl rfl (.s1 (.here .nil) rfl rfl rfl) ?_
              refine r_iload_n (i := 1) (pc' := 36) dX12_readSum_35 rfl rfl (.tail _ (.head _)) ?_
              refine r_if_ne (t := 42) (f := 39) dX12_readSum_36 (by decide) rfl (by first | omega | exact xv_in _ _ _) (fun h36 => ?_) (fun h36 => ?_)
              · exfalso; omega
              · refine r_goto (t := 2) dX12_readSum_39 (by decide) ?_
                exact bX12_readSum hm hf kk kf (hr.trans hr2) hl16 hz16 ((ho.trans ho7).trans ho16) hn16 (by rw [hc]; exact hop)
            · exfalso; omega
        · exfalso; omega
      · subst hz7
        refine r_if_ne (t := 15) (f := 13) dX12_readSum_10 (by decide) rfl (by first | omega | exact xv_in _ _ _) (fun h10 => ?_) (fun h10 => ?_)
        · exfalso; omega
        · refine r_iconst (pc' := 14) dX12_readSum_13 rfl ?_
          refine r_zreturn dX12_readSum_14 rfl (by first | decide | (split <;> omega) | omega) ?_
          exact kf _ (ho.trans ho7) (by rw [hr]; exact hf7)
set_option maxHeartbeats 4000000 in
set_option maxRecDepth 100000 in
theorem tX12_readSum {l : Launch} {g : q_G} {n : Nat} {P : q_P} {X : q_X} {Y : q_Y} (hm : isMod n P) {f w : Nat} {D : q_X} {th B : Int} (hf : f + 5 ≤ 441) (hl : xv D 445 1 - xv D 444 1 ≤ (w : Int)) (hz : fZ (D, th, B, 1) X f) : q_Met l g mX12_readSum 3 [.ref (g.1 + 467)] n P X Y (q_gi (fun r' n' P' X' Y' => n' = n ∧ P' = P ∧ Y' = Y ∧ ((r' = 1 ∧ zO X X' ∧ tR (fEnd f (fRun f w (D, th, B, 1))) X' ∧ yR (fEnd f (fRun f w (D, th, B, 1))) X' f ∧ YI (fEnd f (fRun f w (D, th, B, 1))) f 0 0 (fRun f w (D, th, B, 1)).2.1 ∧ xv X' 467 12 = (fRun f w (D, th, B, 1)).2.1) ∨ (r' = 0 ∧ zO X X' ∧ tF (fEnd f (fRun f w (D, th, B, 1))) X')))) := by
  obtain ⟨m0, m2, m3, m8, m9, m14, m15, m16, m17, m18, m20, m22, m25, hnm9⟩ := id hm
  refine q_enter (L := [(0, .ref (g.1 + 467))]) (by decide) (Nat.le_of_ble_eq_true rfl) rfl ?_
  refine r_iconst (pc' := 1) dX12_readSum_0 rfl ?_
  refine r_istore_n (i := 1) (pc' := 2) dX12_readSum_1 rfl rfl rfl (.s1 .nil rfl rfl rfl) ?_
  exact lX12_readSum hm hf (X0 := X) (W0 := w) (S0 := (D, th, B, 1)) (fun X' a1 a2 a3 a4 a5 => ⟨_, rfl, rfl, rfl, rfl, Or.inl ⟨rfl, a1, a2, a3, a4, a5⟩⟩) (fun X' a1 a2 => ⟨_, rfl, rfl, rfl, rfl, Or.inr ⟨rfl, a1, a2⟩⟩) 41 w D X th B (by obtain ⟨_, _, _, _, _, _, _, _, _, _, q2, _⟩ := hz.2.2.2.2; simp only at q2; omega) rfl hl hz zO.rfl
