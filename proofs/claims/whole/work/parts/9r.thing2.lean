set_option maxHeartbeats 4000000 in
set_option maxRecDepth 100000 in
theorem aX12_readThing {l : Launch} {g : q_G} {n : Nat} {P : q_P} {Y : q_Y} (hm : isMod n P) {f W0 : Nat} {S0 : fS} {th0 : Int} (hf : f + 5 ≤ 441) {X0 : q_X} {K : q_K} (kk : ∀ (X' : q_X) (w' : Nat) (D' : q_X) (th' B' : Int), zO X0 X' → th0 < th' → fRun f W0 S0 = fRun f w' (D', th', B', 0) → xv D' 445 1 - xv D' 444 1 ≤ (w' : Int) → fZ (D', th', B', 0) X' f → K (some (.int (zi 1))) n P X' Y) (kf : ∀ X', zO X0 X' → tF (fEnd f (fRun f W0 S0)) X' → K (some (.int (zi 0))) n P X' Y) {w : Nat} {D X : q_X} {th B : Int} (hth : th0 ≤ th) (hr : fRun f W0 S0 = fRun f w (D, th, B, 1)) (hl : xv D 445 1 - xv D 444 1 ≤ (w : Int)) (hz : fZ (D, th, B, 1) X f) (ho : zO X0 X) (hn : ¬ rd D (xv D 444 1) = 40) : q_Tr l g mX12_readThing 2 K 65 [(0, .ref (g.1 + 467))] [] n P X Y := by
  obtain ⟨m0, m2, m3, m8, m9, m14, m15, m16, m17, m18, m20, m22, m25, hnm9⟩ := id hm
  have hR := hz.1
  simp only at hR
  have ha := hR.a
  have g12 := hz.2.2.1
  have g13 := hz.2.2.2.1
  simp only at g12 g13
  have hyc := hz.2.2.2.2.c
  simp only at hyc
  have h40b : 0 ≤ th ∧ th ≤ 40 ∧ 0 ≤ B ∧ B ≤ 6 := by
    obtain ⟨_, _, _, _, _, _, q1, _, _, _, q2, _⟩ := hz.2.2.2.2
    simp only at q1 q2; omega
  obtain ⟨c, hc⟩ : ∃ c, rd D (xv D 444 1) = c := ⟨_, rfl⟩
  have hci : q_in c := by rw [← hc]; exact rd_in _ _
  have hh : mRd X (xv X 467 5) = c := hR.h.trans hc
  have h10 := hz.2.1.2.1
  simp only at h10
  have hm80 : th < 40 → xv D f 0 < 80 := fun q => by
    obtain ⟨k, m, y1, y2, y3, y4, y5, y6, y7, y8, y9, y0⟩ := hz.2.2.2.2
    simp only at y2 y8 y5
    omega
  have hR1 : tR D (q_up X 467 12 (zi (th + 1))) := by
    refine hR.k ?_ ?_ ?_ ?_
    · simp (disch := omega) only [xv_up_ne]
    · simp (disch := omega) only [xv_up_ne]
    · simp (disch := omega) only [xv_up_ne]
    · simp (disch := omega) only [xv_up_row]
  obtain ⟨fp, hfp⟩ : ∃ fp, f_plc c = fp := ⟨_, rfl⟩
  have hfb := f_plc_b c
  have hfd : isDig c → fp = -1 := by
    intro q
    rw [← hfp]; unfold f_plc
    (repeat' split) <;> omega
  have hfi : fp ≠ -1 → ¬ c = -1 := by
    intro q e
    rw [← hfp, e] at q
    exact q (by decide)
  rw [hfp] at hfb
  have hlt : ¬ c = -1 → xv D 444 1 < xv D 445 1 := fun q => (rd_lt (X := D) (a := xv D 444 1) (by rw [hc]; exact q)).1
  have hfl : 40 ≤ th ∨ (¬ isDig c ∧ fp = -1) → K (some (.int (zi 0))) n P (q_up X 467 6 (zi (xv X 467 5))) Y := fun q => by
    refine kf _ (ho.up (by omega)) ?_
    rw [hr]
    refine fZ_bad hR hf hl ?_
    rw [hc, hfp]; rw [hc] at hn
    rcases q with q | q
    · exact Or.inl (Or.inl q)
    · exact Or.inr ⟨hn, q⟩
  have hk : ∀ X', zO X0 X' → ¬ c = -1 → th < 40 → fZ (fThing D f, th + 1, B, 0) X' f → K (some (.int (zi 1))) n P X' Y := fun X' q1 q2 q3 q4 => by
    have q5 := hlt q2
    obtain ⟨v, rfl⟩ : ∃ v, w = v + 1 := ⟨w - 1, by omega⟩
    have q6 := fThing_adv (f := f) hR hf q4.1.2.1 q5
    refine kk X' v (fThing D f) (th + 1) B q1 (by omega) (hr.trans (fRun_thing hR.2.1 q5 hn q3)) (by omega) q4
  have hzn := fun ht X1 => fZ_num (X1 := X1) hz hf ht
  have hzl := fun ht => fZ_let (p := fp) hz hf ht
  rw [hc, hfp] at hzn hzl
  have ho12 : zO X0 (q_up X 467 12 (zi (th + 1))) := ho.up (by omega)
  refine r_aload_n (i := 0) (pc' := 66) dX12_readThing_65 rfl rfl (.head _) ?_
  refine r_V0p (ci := 12) (pc' := 69) dX12_readThing_66 rfl lX12_85 rfl (by decide) (Nat.le_of_ble_eq_true rfl) (by first | assumption | rfl) (by omega) (tX12_here hm (by omega) (by omega)) ?_
  rw [hh]
  refine r_istore_n (i := 1) (pc' := 70) dX12_readThing_69 rfl rfl rfl (.s1 .nil rfl rfl rfl) ?_
  refine r_iload_n (i := 1) (pc' := 71) dX12_readThing_70 rfl rfl (.tail _ (.head _)) ?_
  refine r_S1p (pc' := 74) dX12_readThing_71 rfl lX12_96 (by decide) (Nat.le_of_ble_eq_true rfl) (tX12_isFigure hci) ?_
  refine r_bif_ne (t := 85) (f := 77) dX12_readThing_74 (by decide) rfl (fun h74 => ?_) (fun h74 => ?_)
  · refine r_aload_n (i := 0) (pc' := 86) dX12_readThing_85 rfl rfl (.head _) ?_
    refine r_getI (pc' := 89) dX12_readThing_86 rfl fX12_175 rfl (by first | assumption | rfl) (by omega) ?_
    rw [g12]
    refine r_bipush (pc' := 91) dX12_readThing_89 rfl (by decide) ?_
    refine r_icmp_ne (t := 103) (f := 94) dX12_readThing_91 (by decide) rfl (by first | omega | exact xv_in _ _ _) (by first | omega | exact xv_in _ _ _) (fun h91 => ?_) (fun h91 => ?_)
    · refine r_aload_n (i := 0) (pc' := 104) dX12_readThing_103 rfl rfl (.head _) ?_
      refine r_dup (pc' := 105) dX12_readThing_104 rfl rfl ?_
      refine r_getI (pc' := 108) dX12_readThing_105 rfl fX12_175 rfl (by first | assumption | rfl) (by omega) ?_
      rw [g12]
      refine r_iconst (pc' := 109) dX12_readThing_108 rfl ?_
      refine r_iadd (pc' := 110) dX12_readThing_109 rfl ?_
      refine r_putI (pc' := 113) dX12_readThing_110 rfl fX12_175 rfl (by first | assumption | rfl) (by omega) rfl rfl ?_
      refine r_iload_n (i := 1) (pc' := 114) dX12_readThing_113 rfl rfl (.tail _ (.head _)) ?_
      refine r_S1p (pc' := 117) dX12_readThing_114 rfl lX12_96 (by decide) (Nat.le_of_ble_eq_true rfl) (tX12_isFigure hci) ?_
      refine r_bif_eq (t := 142) (f := 120) dX12_readThing_117 (by decide) rfl (fun h117 => ?_) (fun h117 => ?_)
      · refine r_aload_n (i := 0) (pc' := 143) dX12_readThing_142 rfl rfl (.head _) ?_
        refine r_ldc (pc' := 145) dX12_readThing_143 rfl kX12_187 ?_
        refine r_iload_n (i := 1) (pc' := 146) dX12_readThing_145 rfl rfl (.tail _ (.head _)) ?_
        refine r_S1p (pc' := 149) dX12_readThing_146 rfl lX12_184 (by decide) (Nat.le_of_ble_eq_true rfl) (tX12_nameOf (by omega)) ?_
        rw [hfp]
        refine r_iadd (pc' := 150) dX12_readThing_149 rfl ?_
        have e10 : xv (q_up X 467 12 (zi (th + 1))) 467 10 = xv X 467 10 := xv_up_ne _ _ (by omega)
        refine r_V1gv (ci := 12) (pc' := 153) dX12_readThing_150 rfl lX12_172 rfl (by decide) (Nat.le_of_ble_eq_true rfl) (by first | assumption | rfl) (by omega) (tX12_does hm (by have := hm80 (by omega); omega)) (fun n150 P150 X150 Y150 e150 le150 => ?_)
        obtain ⟨hg1_150, hg2_150, hg3_150, hg4_150⟩ := e150
        have g1_150 := Eq.symm hg1_150
        have g2_150 := Eq.symm hg2_150
        have g3_150 := Eq.symm hg3_150
        have g4_150 := Eq.symm hg4_150
        clear hg1_150 hg2_150 hg3_150 hg4_150
        subst g1_150 g2_150 g3_150 g4_150
        refine r_aload_n (i := 0) (pc' := 154) dX12_readThing_153 rfl rfl (.head _) ?_
        refine r_dup (pc' := 155) dX12_readThing_154 rfl rfl ?_
        refine r_getI (pc' := 158) dX12_readThing_155 rfl fX12_82 rfl (by first | assumption | rfl) (by omega) ?_
        rw [xv_up_ne _ _ (by omega), xv_up_ne _ _ (by omega), xv_up_ne _ _ (by omega)]
        refine r_iconst (pc' := 159) dX12_readThing_158 rfl ?_
        refine r_iadd (pc' := 160) dX12_readThing_159 rfl ?_
        refine r_putI (pc' := 163) dX12_readThing_160 rfl fX12_82 rfl (by first | assumption | rfl) (by omega) rfl rfl ?_
        refine r_iconst (pc' := 164) dX12_readThing_163 rfl ?_
        refine r_zreturn dX12_readThing_164 rfl (by first | decide | (split <;> omega) | omega) ?_
        rw [e10]
        exact hk _ (((ho12.up (by omega)).up (by omega)).up (by omega)) (hfi (by omega)) (by omega) (hzl (by omega) rfl (by omega) (hlt (hfi (by omega))))
      · refine r_aload_n (i := 0) (pc' := 121) dX12_readThing_120 rfl rfl (.head _) ?_
        refine r_iconst (pc' := 122) dX12_readThing_121 rfl ?_
        refine r_ldc (pc' := 124) dX12_readThing_122 rfl kX12_106 ?_
        refine r_V2gi (ci := 12) (pc' := 127) dX12_readThing_124 rfl lX12_99 rfl (by decide) (Nat.le_of_ble_eq_true rfl) (by first | assumption | rfl) (by omega) (tX12_readNumber (C := D) hm hR1 (by omega) (by omega)) (fun r124 n124 P124 X124 Y124 e124 le124 => ?_)
        obtain ⟨h1v, h2v, h3v, hq124⟩ := e124
        subst h1v h2v h3v
        rcases hq124 with ⟨hz124, ho124, ht124, h7, hb1, hb2⟩ | ⟨hz124, ho124, hf124⟩
        · subst hz124
          have e10 : xv X124 467 10 = xv X 467 10 := by
            show (X124 467 10).toInt = _
            rw [ho124 467 10 (by omega), q_up_ne _ _ (by omega)]; rfl
          refine r_if_ne (t := 132) (f := 130) dX12_readThing_127 (by decide) rfl (by first | omega | exact xv_in _ _ _) (fun h127 => ?_) (fun h127 => ?_)
          · refine r_aload_n (i := 0) (pc' := 133) dX12_readThing_132 rfl rfl (.head _) ?_
            refine r_aload_n (i := 0) (pc' := 134) dX12_readThing_133 rfl rfl (.head _) ?_
            refine r_getI (pc' := 137) dX12_readThing_134 rfl fX12_93 rfl (by first | assumption | rfl) (by omega) ?_
            rw [h7]
            refine r_V1gv (ci := 12) (pc' := 140) dX12_readThing_137 rfl lX12_172 rfl (by decide) (Nat.le_of_ble_eq_true rfl) (by first | assumption | rfl) (by omega) (tX12_does hm (by have := hm80 (by omega); omega)) (fun n137 P137 X137 Y137 e137 le137 => ?_)
            obtain ⟨hg1_137, hg2_137, hg3_137, hg4_137⟩ := e137
            have g1_137 := Eq.symm hg1_137
            have g2_137 := Eq.symm hg2_137
            have g3_137 := Eq.symm hg3_137
            have g4_137 := Eq.symm hg4_137
            clear hg1_137 hg2_137 hg3_137 hg4_137
            subst g1_137 g2_137 g3_137 g4_137
            refine r_iconst (pc' := 141) dX12_readThing_140 rfl ?_
            refine r_zreturn dX12_readThing_141 rfl (by first | decide | (split <;> omega) | omega) ?_
            exact hk _ (((ho12.trans ho124.z).up (by omega)).up (by omega)) (by omega) (by omega) (hzn (by omega) _ (hfd (by omega)) ho124 ht124 ⟨hb1, hb2⟩)
          · exfalso; omega
        · subst hz124
          refine r_if_ne (t := 132) (f := 130) dX12_readThing_127 (by decide) rfl (by first | omega | exact xv_in _ _ _) (fun h127 => ?_) (fun h127 => ?_)
          · exfalso; omega
          · refine r_iconst (pc' := 131) dX12_readThing_130 rfl ?_
            refine r_zreturn dX12_readThing_131 rfl (by first | decide | (split <;> omega) | omega) ?_
            refine kf _ (ho12.trans ho124.z) ?_
            have q5 := hlt (by omega)
            obtain ⟨v, rfl⟩ : ∃ v, w = v + 1 := ⟨w - 1, by omega⟩
            rw [hr, fRun_thing hR.2.1 q5 hn (by omega)]
            refine tF.run hf ?_ v
            show tF (fThing D f) _
            unfold fThing
            rw [hc, hfp, if_pos (hfd (by omega))]
            exact hf124.em hf _
    · refine r_aload_n (i := 0) (pc' := 95) dX12_readThing_94 rfl rfl (.head _) ?_
      refine r_aload_n (i := 0) (pc' := 96) dX12_readThing_95 rfl rfl (.head _) ?_
      refine r_getI (pc' := 99) dX12_readThing_96 rfl fX12_82 rfl (by first | assumption | rfl) (by omega) ?_
      refine r_V1gi (ci := 12) (pc' := 102) dX12_readThing_99 rfl lX12_89 rfl (by decide) (Nat.le_of_ble_eq_true rfl) (by first | assumption | rfl) (by omega) (tX12_fails hm) (fun r99 n99 P99 X99 Y99 e99 le99 => ?_)
      obtain ⟨h1v, h2v, h3v, h4v, hr99⟩ := e99
      subst h1v h2v h3v h4v hr99
      refine r_zreturn dX12_readThing_102 rfl (by first | decide | (split <;> omega) | omega) ?_
      exact hfl (by omega)
  · refine r_iload_n (i := 1) (pc' := 78) dX12_readThing_77 rfl rfl (.tail _ (.head _)) ?_
    refine r_S1p (pc' := 81) dX12_readThing_78 rfl lX12_184 (by decide) (Nat.le_of_ble_eq_true rfl) (tX12_nameOf (by omega)) ?_
    rw [hfp]
    refine r_iconst (pc' := 82) dX12_readThing_81 rfl ?_
    refine r_icmp_eq (t := 94) (f := 85) dX12_readThing_82 (by decide) rfl (by first | omega | exact xv_in _ _ _) (by first | omega | exact xv_in _ _ _) (fun h82 => ?_) (fun h82 => ?_)
    · refine r_aload_n (i := 0) (pc' := 95) dX12_readThing_94 rfl rfl (.head _) ?_
      refine r_aload_n (i := 0) (pc' := 96) dX12_readThing_95 rfl rfl (.head _) ?_
      refine r_getI (pc' := 99) dX12_readThing_96 rfl fX12_82 rfl (by first | assumption | rfl) (by omega) ?_
      refine r_V1gi (ci := 12) (pc' := 102) dX12_readThing_99 rfl lX12_89 rfl (by decide) (Nat.le_of_ble_eq_true rfl) (by first | assumption | rfl) (by omega) (tX12_fails hm) (fun r99 n99 P99 X99 Y99 e99 le99 => ?_)
      obtain ⟨h1v, h2v, h3v, h4v, hr99⟩ := e99
      subst h1v h2v h3v h4v hr99
      refine r_zreturn dX12_readThing_102 rfl (by first | decide | (split <;> omega) | omega) ?_
      exact hfl (by omega)
    · refine r_aload_n (i := 0) (pc' := 86) dX12_readThing_85 rfl rfl (.head _) ?_
      refine r_getI (pc' := 89) dX12_readThing_86 rfl fX12_175 rfl (by first | assumption | rfl) (by omega) ?_
      rw [g12]
      refine r_bipush (pc' := 91) dX12_readThing_89 rfl (by decide) ?_
      refine r_icmp_ne (t := 103) (f := 94) dX12_readThing_91 (by decide) rfl (by first | omega | exact xv_in _ _ _) (by first | omega | exact xv_in _ _ _) (fun h91 => ?_) (fun h91 => ?_)
      · refine r_aload_n (i := 0) (pc' := 104) dX12_readThing_103 rfl rfl (.head _) ?_
        refine r_dup (pc' := 105) dX12_readThing_104 rfl rfl ?_
        refine r_getI (pc' := 108) dX12_readThing_105 rfl fX12_175 rfl (by first | assumption | rfl) (by omega) ?_
        rw [g12]
        refine r_iconst (pc' := 109) dX12_readThing_108 rfl ?_
        refine r_iadd (pc' := 110) dX12_readThing_109 rfl ?_
        refine r_putI (pc' := 113) dX12_readThing_110 rfl fX12_175 rfl (by first | assumption | rfl) (by omega) rfl rfl ?_
        refine r_iload_n (i := 1) (pc' := 114) dX12_readThing_113 rfl rfl (.tail _ (.head _)) ?_
        refine r_S1p (pc' := 117) dX12_readThing_114 rfl lX12_96 (by decide) (Nat.le_of_ble_eq_true rfl) (tX12_isFigure hci) ?_
        refine r_bif_eq (t := 142) (f := 120) dX12_readThing_117 (by decide) rfl (fun h117 => ?_) (fun h117 => ?_)
        · refine r_aload_n (i := 0) (pc' := 143) dX12_readThing_142 rfl rfl (.head _) ?_
          refine r_ldc (pc' := 145) dX12_readThing_143 rfl kX12_187 ?_
          refine r_iload_n (i := 1) (pc' := 146) dX12_readThing_145 rfl rfl (.tail _ (.head _)) ?_
          refine r_S1p (pc' := 149) dX12_readThing_146 rfl lX12_184 (by decide) (Nat.le_of_ble_eq_true rfl) (tX12_nameOf (by omega)) ?_
          rw [hfp]
          refine r_iadd (pc' := 150) dX12_readThing_149 rfl ?_
          have e10 : xv (q_up X 467 12 (zi (th + 1))) 467 10 = xv X 467 10 := xv_up_ne _ _ (by omega)
          refine r_V1gv (ci := 12) (pc' := 153) dX12_readThing_150 rfl lX12_172 rfl (by decide) (Nat.le_of_ble_eq_true rfl) (by first | assumption | rfl) (by omega) (tX12_does hm (by have := hm80 (by omega); omega)) (fun n150 P150 X150 Y150 e150 le150 => ?_)
          obtain ⟨hg1_150, hg2_150, hg3_150, hg4_150⟩ := e150
          have g1_150 := Eq.symm hg1_150
          have g2_150 := Eq.symm hg2_150
          have g3_150 := Eq.symm hg3_150
          have g4_150 := Eq.symm hg4_150
          clear hg1_150 hg2_150 hg3_150 hg4_150
          subst g1_150 g2_150 g3_150 g4_150
          refine r_aload_n (i := 0) (pc' := 154) dX12_readThing_153 rfl rfl (.head _) ?_
          refine r_dup (pc' := 155) dX12_readThing_154 rfl rfl ?_
          refine r_getI (pc' := 158) dX12_readThing_155 rfl fX12_82 rfl (by first | assumption | rfl) (by omega) ?_
          rw [xv_up_ne _ _ (by omega), xv_up_ne _ _ (by omega), xv_up_ne _ _ (by omega)]
          refine r_iconst (pc' := 159) dX12_readThing_158 rfl ?_
          refine r_iadd (pc' := 160) dX12_readThing_159 rfl ?_
          refine r_putI (pc' := 163) dX12_readThing_160 rfl fX12_82 rfl (by first | assumption | rfl) (by omega) rfl rfl ?_
          refine r_iconst (pc' := 164) dX12_readThing_163 rfl ?_
          refine r_zreturn dX12_readThing_164 rfl (by first | decide | (split <;> omega) | omega) ?_
          rw [e10]
          exact hk _ (((ho12.up (by omega)).up (by omega)).up (by omega)) (hfi (by omega)) (by omega) (hzl (by omega) rfl (by omega) (hlt (hfi (by omega))))
        · refine r_aload_n (i := 0) (pc' := 121) dX12_readThing_120 rfl rfl (.head _) ?_
          refine r_iconst (pc' := 122) dX12_readThing_121 rfl ?_
          refine r_ldc (pc' := 124) dX12_readThing_122 rfl kX12_106 ?_
          refine r_V2gi (ci := 12) (pc' := 127) dX12_readThing_124 rfl lX12_99 rfl (by decide) (Nat.le_of_ble_eq_true rfl) (by first | assumption | rfl) (by omega) (tX12_readNumber (C := D) hm hR1 (by omega) (by omega)) (fun r124 n124 P124 X124 Y124 e124 le124 => ?_)
          obtain ⟨h1v, h2v, h3v, hq124⟩ := e124
          subst h1v h2v h3v
          rcases hq124 with ⟨hz124, ho124, ht124, h7, hb1, hb2⟩ | ⟨hz124, ho124, hf124⟩
          · subst hz124
            have e10 : xv X124 467 10 = xv X 467 10 := by
              show (X124 467 10).toInt = _
              rw [ho124 467 10 (by omega), q_up_ne _ _ (by omega)]; rfl
            refine r_if_ne (t := 132) (f := 130) dX12_readThing_127 (by decide) rfl (by first | omega | exact xv_in _ _ _) (fun h127 => ?_) (fun h127 => ?_)
            · refine r_aload_n (i := 0) (pc' := 133) dX12_readThing_132 rfl rfl (.head _) ?_
              refine r_aload_n (i := 0) (pc' := 134) dX12_readThing_133 rfl rfl (.head _) ?_
              refine r_getI (pc' := 137) dX12_readThing_134 rfl fX12_93 rfl (by first | assumption | rfl) (by omega) ?_
              rw [h7]
              refine r_V1gv (ci := 12) (pc' := 140) dX12_readThing_137 rfl lX12_172 rfl (by decide) (Nat.le_of_ble_eq_true rfl) (by first | assumption | rfl) (by omega) (tX12_does hm (by have := hm80 (by omega); omega)) (fun n137 P137 X137 Y137 e137 le137 => ?_)
              obtain ⟨hg1_137, hg2_137, hg3_137, hg4_137⟩ := e137
              have g1_137 := Eq.symm hg1_137
              have g2_137 := Eq.symm hg2_137
              have g3_137 := Eq.symm hg3_137
              have g4_137 := Eq.symm hg4_137
              clear hg1_137 hg2_137 hg3_137 hg4_137
              subst g1_137 g2_137 g3_137 g4_137
              refine r_iconst (pc' := 141) dX12_readThing_140 rfl ?_
              refine r_zreturn dX12_readThing_141 rfl (by first | decide | (split <;> omega) | omega) ?_
              exact hk _ (((ho12.trans ho124.z).up (by omega)).up (by omega)) (by omega) (by omega) (hzn (by omega) _ (hfd (by omega)) ho124 ht124 ⟨hb1, hb2⟩)
            · exfalso; omega
          · subst hz124
            refine r_if_ne (t := 132) (f := 130) dX12_readThing_127 (by decide) rfl (by first | omega | exact xv_in _ _ _) (fun h127 => ?_) (fun h127 => ?_)
            · exfalso; omega
            · refine r_iconst (pc' := 131) dX12_readThing_130 rfl ?_
              refine r_zreturn dX12_readThing_131 rfl (by first | decide | (split <;> omega) | omega) ?_
              refine kf _ (ho12.trans ho124.z) ?_
              have q5 := hlt (by omega)
              obtain ⟨v, rfl⟩ : ∃ v, w = v + 1 := ⟨w - 1, by omega⟩
              rw [hr, fRun_thing hR.2.1 q5 hn (by omega)]
              refine tF.run hf ?_ v
              show tF (fThing D f) _
              unfold fThing
              rw [hc, hfp, if_pos (hfd (by omega))]
              exact hf124.em hf _
      · refine r_aload_n (i := 0) (pc' := 95) dX12_readThing_94 rfl rfl (.head _) ?_
        refine r_aload_n (i := 0) (pc' := 96) dX12_readThing_95 rfl rfl (.head _) ?_
        refine r_getI (pc' := 99) dX12_readThing_96 rfl fX12_82 rfl (by first | assumption | rfl) (by omega) ?_
        refine r_V1gi (ci := 12) (pc' := 102) dX12_readThing_99 rfl lX12_89 rfl (by decide) (Nat.le_of_ble_eq_true rfl) (by first | assumption | rfl) (by omega) (tX12_fails hm) (fun r99 n99 P99 X99 Y99 e99 le99 => ?_)
        obtain ⟨h1v, h2v, h3v, h4v, hr99⟩ := e99
        subst h1v h2v h3v h4v hr99
        refine r_zreturn dX12_readThing_102 rfl (by first | decide | (split <;> omega) | omega) ?_
        exact hfl (by omega)
set_option maxHeartbeats 4000000 in
set_option maxRecDepth 100000 in
theorem lX12_readThing {l : Launch} {g : q_G} {n : Nat} {P : q_P} {Y : q_Y} (hm : isMod n P) {f W0 : Nat} {S0 : fS} {th0 : Int} (hf : f + 5 ≤ 441) {X0 : q_X} {K : q_K} (kk : ∀ (X' : q_X) (w' : Nat) (D' : q_X) (th' B' : Int), zO X0 X' → th0 < th' → fRun f W0 S0 = fRun f w' (D', th', B', 0) → xv D' 445 1 - xv D' 444 1 ≤ (w' : Int) → fZ (D', th', B', 0) X' f → K (some (.int (zi 1))) n P X' Y) (kf : ∀ X', zO X0 X' → tF (fEnd f (fRun f W0 S0)) X' → K (some (.int (zi 0))) n P X' Y) : ∀ (k w : Nat) (D X : q_X) (th B : Int), B + k = 6 → th0 ≤ th → fRun f W0 S0 = fRun f w (D, th, B, 1) → xv D 445 1 - xv D 444 1 ≤ (w : Int) → fZ (D, th, B, 1) X f → zO X0 X → q_Tr l g mX12_readThing 2 K 0 [(0, .ref (g.1 + 467))] [] n P X Y := by
  obtain ⟨m0, m2, m3, m8, m9, m14, m15, m16, m17, m18, m20, m22, m25, hnm9⟩ := id hm
  intro k
  induction k with
  | zero =>
    intro w D X th B hk hth hr hl hz ho
    have hR := hz.1
    simp only at hR
    have ha := hR.a
    have g12 := hz.2.2.1
    have g13 := hz.2.2.2.1
    simp only at g12 g13
    have hyc := hz.2.2.2.2.c
    simp only at hyc
    have h40b : 0 ≤ th ∧ th ≤ 40 ∧ 0 ≤ B ∧ B ≤ 6 := by
      obtain ⟨_, _, _, _, _, _, q1, _, _, _, q2, _⟩ := hz.2.2.2.2
      simp only at q1 q2; omega
    obtain ⟨c, hc⟩ : ∃ c, rd D (xv D 444 1) = c := ⟨_, rfl⟩
    have hci : q_in c := by rw [← hc]; exact rd_in _ _
    have hh : mRd X (xv X 467 5) = c := hR.h.trans hc
    have hyr := hz.2.1
    simp only at hyr
    have hy11 := hyr.2.2.1
    have hlt : ¬ c = -1 → xv D 444 1 < xv D 445 1 := fun q => (rd_lt (X := D) (a := xv D 444 1) (by rw [hc]; exact q)).1
    have hfl : c = 40 ∧ (40 ≤ th ∨ 6 ≤ B) → K (some (.int (zi 0))) n P (q_up X 467 6 (zi (xv X 467 5))) Y := fun q => by
      refine kf _ (ho.up (by omega)) ?_
      rw [hr]
      refine fZ_bad hR hf hl ?_
      rw [hc]
      rcases q.2 with e | e
      · exact Or.inl (Or.inl e)
      · exact Or.inl (Or.inr ⟨q.1, e⟩)
    refine r_aload_n (i := 0) (pc' := 1) dX12_readThing_0 rfl rfl (.head _) ?_
    refine r_V0p (ci := 12) (pc' := 4) dX12_readThing_1 rfl lX12_85 rfl (by decide) (Nat.le_of_ble_eq_true rfl) (by first | assumption | rfl) (by omega) (tX12_here hm (by omega) (by omega)) ?_
    rw [hh]
    refine r_bipush (pc' := 6) dX12_readThing_4 rfl (by decide) ?_
    refine r_icmp_ne (t := 65) (f := 9) dX12_readThing_6 (by decide) rfl (by first | omega | exact xv_in _ _ _) (by first | omega | exact xv_in _ _ _) (fun h6 => ?_) (fun h6 => ?_)
    · exact aX12_readThing hm hf kk kf hth hr hl hz ho (by rw [hc]; omega)
    · refine r_aload_n (i := 0) (pc' := 10) dX12_readThing_9 rfl rfl (.head _) ?_
      refine r_getI (pc' := 13) dX12_readThing_10 rfl fX12_175 rfl (by first | assumption | rfl) (by omega) ?_
      rw [g12]
      refine r_bipush (pc' := 15) dX12_readThing_13 rfl (by decide) ?_
      refine r_icmp_eq (t := 27) (f := 18) dX12_readThing_15 (by decide) rfl (by first | omega | exact xv_in _ _ _) (by first | omega | exact xv_in _ _ _) (fun h15 => ?_) (fun h15 => ?_)
      · refine r_aload_n (i := 0) (pc' := 28) dX12_readThing_27 rfl rfl (.head _) ?_
        refine r_aload_n (i := 0) (pc' := 29) dX12_readThing_28 rfl rfl (.head _) ?_
        refine r_getI (pc' := 32) dX12_readThing_29 rfl fX12_82 rfl (by first | assumption | rfl) (by omega) ?_
        refine r_V1gi (ci := 12) (pc' := 35) dX12_readThing_32 rfl lX12_89 rfl (by decide) (Nat.le_of_ble_eq_true rfl) (by first | assumption | rfl) (by omega) (tX12_fails hm) (fun r32 n32 P32 X32 Y32 e32 le32 => ?_)
        obtain ⟨h1v, h2v, h3v, h4v, hr32⟩ := e32
        subst h1v h2v h3v h4v hr32
        refine r_zreturn dX12_readThing_35 rfl (by first | decide | (split <;> omega) | omega) ?_
        exact hfl (by omega)
      · refine r_aload_n (i := 0) (pc' := 19) dX12_readThing_18 rfl rfl (.head _) ?_
        refine r_getI (pc' := 22) dX12_readThing_19 rfl fX12_178 rfl (by first | assumption | rfl) (by omega) ?_
        rw [g13]
        refine r_bipush (pc' := 24) dX12_readThing_22 rfl (by decide) ?_
        refine r_icmp_ne (t := 36) (f := 27) dX12_readThing_24 (by decide) rfl (by first | omega | exact xv_in _ _ _) (by first | omega | exact xv_in _ _ _) (fun h24 => ?_) (fun h24 => ?_)
        · exfalso; omega
        · refine r_aload_n (i := 0) (pc' := 28) dX12_readThing_27 rfl rfl (.head _) ?_
          refine r_aload_n (i := 0) (pc' := 29) dX12_readThing_28 rfl rfl (.head _) ?_
          refine r_getI (pc' := 32) dX12_readThing_29 rfl fX12_82 rfl (by first | assumption | rfl) (by omega) ?_
          refine r_V1gi (ci := 12) (pc' := 35) dX12_readThing_32 rfl lX12_89 rfl (by decide) (Nat.le_of_ble_eq_true rfl) (by first | assumption | rfl) (by omega) (tX12_fails hm) (fun r32 n32 P32 X32 Y32 e32 le32 => ?_)
          obtain ⟨h1v, h2v, h3v, h4v, hr32⟩ := e32
          subst h1v h2v h3v h4v hr32
          refine r_zreturn dX12_readThing_35 rfl (by first | decide | (split <;> omega) | omega) ?_
          exact hfl (by omega)
  | succ k ih =>
    intro w D X th B hk hth hr hl hz ho
    have hR := hz.1
    simp only at hR
    have ha := hR.a
    have g12 := hz.2.2.1
    have g13 := hz.2.2.2.1
    simp only at g12 g13
    have hyc := hz.2.2.2.2.c
    simp only at hyc
    have h40b : 0 ≤ th ∧ th ≤ 40 ∧ 0 ≤ B ∧ B ≤ 6 := by
      obtain ⟨_, _, _, _, _, _, q1, _, _, _, q2, _⟩ := hz.2.2.2.2
      simp only at q1 q2; omega
    obtain ⟨c, hc⟩ : ∃ c, rd D (xv D 444 1) = c := ⟨_, rfl⟩
    have hci : q_in c := by rw [← hc]; exact rd_in _ _
    have hh : mRd X (xv X 467 5) = c := hR.h.trans hc
    have hyr := hz.2.1
    simp only at hyr
    have hy11 := hyr.2.2.1
    have hlt : ¬ c = -1 → xv D 444 1 < xv D 445 1 := fun q => (rd_lt (X := D) (a := xv D 444 1) (by rw [hc]; exact q)).1
    have hfl : c = 40 ∧ (40 ≤ th ∨ 6 ≤ B) → K (some (.int (zi 0))) n P (q_up X 467 6 (zi (xv X 467 5))) Y := fun q => by
      refine kf _ (ho.up (by omega)) ?_
      rw [hr]
      refine fZ_bad hR hf hl ?_
      rw [hc]
      rcases q.2 with e | e
      · exact Or.inl (Or.inl e)
      · exact Or.inl (Or.inr ⟨q.1, e⟩)
    refine r_aload_n (i := 0) (pc' := 1) dX12_readThing_0 rfl rfl (.head _) ?_
    refine r_V0p (ci := 12) (pc' := 4) dX12_readThing_1 rfl lX12_85 rfl (by decide) (Nat.le_of_ble_eq_true rfl) (by first | assumption | rfl) (by omega) (tX12_here hm (by omega) (by omega)) ?_
    rw [hh]
    refine r_bipush (pc' := 6) dX12_readThing_4 rfl (by decide) ?_
    refine r_icmp_ne (t := 65) (f := 9) dX12_readThing_6 (by decide) rfl (by first | omega | exact xv_in _ _ _) (by first | omega | exact xv_in _ _ _) (fun h6 => ?_) (fun h6 => ?_)
    · exact aX12_readThing hm hf kk kf hth hr hl hz ho (by rw [hc]; omega)
    · refine r_aload_n (i := 0) (pc' := 10) dX12_readThing_9 rfl rfl (.head _) ?_
      refine r_getI (pc' := 13) dX12_readThing_10 rfl fX12_175 rfl (by first | assumption | rfl) (by omega) ?_
      rw [g12]
      refine r_bipush (pc' := 15) dX12_readThing_13 rfl (by decide) ?_
      refine r_icmp_eq (t := 27) (f := 18) dX12_readThing_15 (by decide) rfl (by first | omega | exact xv_in _ _ _) (by first | omega | exact xv_in _ _ _) (fun h15 => ?_) (fun h15 => ?_)
      · refine r_aload_n (i := 0) (pc' := 28) dX12_readThing_27 rfl rfl (.head _) ?_
        refine r_aload_n (i := 0) (pc' := 29) dX12_readThing_28 rfl rfl (.head _) ?_
        refine r_getI (pc' := 32) dX12_readThing_29 rfl fX12_82 rfl (by first | assumption | rfl) (by omega) ?_
        refine r_V1gi (ci := 12) (pc' := 35) dX12_readThing_32 rfl lX12_89 rfl (by decide) (Nat.le_of_ble_eq_true rfl) (by first | assumption | rfl) (by omega) (tX12_fails hm) (fun r32 n32 P32 X32 Y32 e32 le32 => ?_)
        obtain ⟨h1v, h2v, h3v, h4v, hr32⟩ := e32
        subst h1v h2v h3v h4v hr32
        refine r_zreturn dX12_readThing_35 rfl (by first | decide | (split <;> omega) | omega) ?_
        exact hfl (by omega)
      · refine r_aload_n (i := 0) (pc' := 19) dX12_readThing_18 rfl rfl (.head _) ?_
        refine r_getI (pc' := 22) dX12_readThing_19 rfl fX12_178 rfl (by first | assumption | rfl) (by omega) ?_
        rw [g13]
        refine r_bipush (pc' := 24) dX12_readThing_22 rfl (by decide) ?_
        refine r_icmp_ne (t := 36) (f := 27) dX12_readThing_24 (by decide) rfl (by first | omega | exact xv_in _ _ _) (by first | omega | exact xv_in _ _ _) (fun h24 => ?_) (fun h24 => ?_)
        · refine r_aload_n (i := 0) (pc' := 37) dX12_readThing_36 rfl rfl (.head _) ?_
          refine r_dup (pc' := 38) dX12_readThing_37 rfl rfl ?_
          refine r_getI (pc' := 41) dX12_readThing_38 rfl fX12_175 rfl (by first | assumption | rfl) (by omega) ?_
          rw [g12]
          refine r_iconst (pc' := 42) dX12_readThing_41 rfl ?_
          refine r_iadd (pc' := 43) dX12_readThing_42 rfl ?_
          refine r_putI (pc' := 46) dX12_readThing_43 rfl fX12_175 rfl (by first | assumption | rfl) (by omega) rfl rfl ?_
          refine r_aload_n (i := 0) (pc' := 47) dX12_readThing_46 rfl rfl (.head _) ?_
          refine r_dup (pc' := 48) dX12_readThing_47 rfl rfl ?_
          refine r_getI (pc' := 51) dX12_readThing_48 rfl fX12_178 rfl (by first | assumption | rfl) (by omega) ?_
          rw [xv_up_ne _ _ (by omega), g13]
          refine r_iconst (pc' := 52) dX12_readThing_51 rfl ?_
          refine r_iadd (pc' := 53) dX12_readThing_52 rfl ?_
          refine r_putI (pc' := 56) dX12_readThing_53 rfl fX12_178 rfl (by first | assumption | rfl) (by omega) rfl rfl ?_
          refine r_aload_n (i := 0) (pc' := 57) dX12_readThing_56 rfl rfl (.head _) ?_
          refine r_bipush (pc' := 59) dX12_readThing_57 rfl (by decide) ?_
          have e11 : xv (q_up (q_up X 467 12 (zi (th + 1))) 467 13 (zi (B + 1))) 467 11 = xv X 467 11 := by rw [xv_up_ne _ _ (by omega), xv_up_ne _ _ (by omega)]
          have e5 : xv (q_up (q_up X 467 12 (zi (th + 1))) 467 13 (zi (B + 1))) 467 5 = xv X 467 5 := by rw [xv_up_ne _ _ (by omega), xv_up_ne _ _ (by omega)]
          refine r_V1gv (ci := 12) (pc' := 62) dX12_readThing_59 rfl lX12_181 rfl (by decide) (Nat.le_of_ble_eq_true rfl) (by first | assumption | rfl) (by omega) (tX12_waitsFor hm (by omega)) (fun n59 P59 X59 Y59 e59 le59 => ?_)
          obtain ⟨hg1_59, hg2_59, hg3_59, hg4_59⟩ := e59
          have g1_59 := Eq.symm hg1_59
          have g2_59 := Eq.symm hg2_59
          have g3_59 := Eq.symm hg3_59
          have g4_59 := Eq.symm hg4_59
          clear hg1_59 hg2_59 hg3_59 hg4_59
          subst g1_59 g2_59 g3_59 g4_59
          refine r_goto (t := 0) dX12_readThing_62 (by decide) ?_
          rw [e11, e5]
          have q5 := hlt (by omega)
          obtain ⟨v, rfl⟩ : ∃ v, w = v + 1 := ⟨w - 1, by omega⟩
          have hzo := hz.opens hf (by omega) (by omega) (by omega)
          have hr2 := hr.trans (fRun_opens (f := f) (w := v) (D := D) (th := th) (B := B) hR.2.1 (by omega) (by omega) (by omega))
          have t5 := hzo.1.2.2.2.1
          have t6 : xv (fHo (rd_skip D) f 40) 445 = xv D 445 := (fHo_o (by omega)).trans (rd_skip_o (by omega))
          have t7 : xv (fHo (rd_skip D) f 40) 444 1 = xv D 444 1 + 1 := by
            have h01 := hR.1
            unfold rOk at h01
            rw [fHo_o (by omega)]; unfold rd_skip; rw [if_pos hR.2.1, xv_up_same _ _ _ (by omega)]
          exact ih v _ _ (th + 1) (B + 1) (by omega) (by omega) hr2 (by rw [t6, t7]; omega) hzo (((((ho.up (by omega)).up (by omega)).up (by omega)).up (by omega)).up (by omega))
        · refine r_aload_n (i := 0) (pc' := 28) dX12_readThing_27 rfl rfl (.head _) ?_
          refine r_aload_n (i := 0) (pc' := 29) dX12_readThing_28 rfl rfl (.head _) ?_
          refine r_getI (pc' := 32) dX12_readThing_29 rfl fX12_82 rfl (by first | assumption | rfl) (by omega) ?_
          refine r_V1gi (ci := 12) (pc' := 35) dX12_readThing_32 rfl lX12_89 rfl (by decide) (Nat.le_of_ble_eq_true rfl) (by first | assumption | rfl) (by omega) (tX12_fails hm) (fun r32 n32 P32 X32 Y32 e32 le32 => ?_)
          obtain ⟨h1v, h2v, h3v, h4v, hr32⟩ := e32
          subst h1v h2v h3v h4v hr32
          refine r_zreturn dX12_readThing_35 rfl (by first | decide | (split <;> omega) | omega) ?_
          exact hfl (by omega)
set_option maxHeartbeats 4000000 in
set_option maxRecDepth 100000 in
theorem tX12_readThing {l : Launch} {g : q_G} {n : Nat} {P : q_P} {X : q_X} {Y : q_Y} (hm : isMod n P) {f w : Nat} {D : q_X} {th B : Int} (hf : f + 5 ≤ 441) (hl : xv D 445 1 - xv D 444 1 ≤ (w : Int)) (hz : fZ (D, th, B, 1) X f) : q_Met l g mX12_readThing 2 [.ref (g.1 + 467)] n P X Y (q_gi (fun r' n' P' X' Y' => n' = n ∧ P' = P ∧ Y' = Y ∧ ((r' = 1 ∧ zO X X' ∧ ∃ (w' : Nat) (D' : q_X) (th' B' : Int), th < th' ∧ fRun f w (D, th, B, 1) = fRun f w' (D', th', B', 0) ∧ xv D' 445 1 - xv D' 444 1 ≤ (w' : Int) ∧ fZ (D', th', B', 0) X' f) ∨ (r' = 0 ∧ zO X X' ∧ tF (fEnd f (fRun f w (D, th, B, 1))) X')))) := by
  refine q_enter (L := [(0, .ref (g.1 + 467))]) (by decide) (Nat.le_of_ble_eq_true rfl) rfl ?_
  obtain ⟨k, hk⟩ : ∃ k : Nat, B + k = 6 := ⟨(6 - B).toNat, by obtain ⟨_, _, _, _, _, _, q, _⟩ := hz.2.2.2.2; simp only at q; omega⟩
  exact lX12_readThing hm hf (X0 := X) (th0 := th) (W0 := w) (S0 := (D, th, B, 1)) (fun X' w' D' th' B' a1 a2 a3 a4 a5 => ⟨_, rfl, rfl, rfl, rfl, Or.inl ⟨rfl, a1, w', D', th', B', a2, a3, a4, a5⟩⟩) (fun X' a1 a2 => ⟨_, rfl, rfl, rfl, rfl, Or.inr ⟨rfl, a1, a2⟩⟩) k w D X th B hk (Int.le_refl _) rfl hl hz zO.rfl
