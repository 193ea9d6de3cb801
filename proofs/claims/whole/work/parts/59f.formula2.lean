set_option maxHeartbeats 4000000 in
set_option maxRecDepth 100000 in
theorem iX5_read {l : Launch} {g : q_G} {n : Nat} {P : q_P} {X : q_X} {Y : q_Y} {f : Nat} (hf : isFor n P f) (hr : isRd n P) (hfa : f + 5 ≤ 441 ∨ 481 ≤ f) {th wi wa i : Int} (ho : rOk X) (hb : fB X f) (hwi : q_in wi) (hwa : q_in wa) : q_Tr l g mX5_read 6 (q_gi (fun r' n' P' X' Y' => n' = n ∧ P' = P ∧ Y' = Y ∧ X' = fEnd f (X, th, wi, wa) ∧ r' = th)) 165 [(0, .ref (g.1 + f)), (1, .ref (g.1 + 444)), (2, .int (zi (th))), (3, .int (zi (wi))), (4, .int (zi (wa))), (5, .int (zi (i : Int)))] [] n P X Y := by
  obtain ⟨s0, s1, s2, s3, s4, p1, p2, p4, p5, hnf⟩ := id hf
  obtain ⟨r0, r1, hnr⟩ := id hr
  have hbf : fB (rd_fail X (xv X 444 1)) f := hb.of (rd_fail_o (by omega))
  refine r_iload (pc' := 167) dX5_read_165 rfl (.tail _ (.tail _ (.tail _ (.tail _ (.head _))))) ?_
  refine r_if_ne (t := 174) (f := 170) dX5_read_167 (by decide) rfl (by first | omega | exact xv_in _ _ _ | exact rd_in _ _) (fun h167 => ?_) (fun h167 => ?_)
  · refine r_aload_n (i := 1) (pc' := 175) dX5_read_174 rfl rfl (.tail _ (.head _)) ?_
    refine r_aload_n (i := 1) (pc' := 176) dX5_read_175 rfl rfl (.tail _ (.head _)) ?_
    refine r_getI (pc' := 179) dX5_read_176 rfl fX5_48 rfl (by first | assumption | rfl) (by omega) ?_
    refine r_V1gv (ci := 9) (pc' := 182) dX5_read_179 rfl lX5_51 rfl (by decide) (Nat.le_of_ble_eq_true rfl) (by first | assumption | rfl) (by omega) (tX9_fail hr) (fun n179 P179 X179 Y179 e179 le179 => ?_)
    obtain ⟨hg1_179, hg2_179, hg3_179, hg4_179⟩ := e179
    have g1_179 := Eq.symm hg1_179
    have g2_179 := Eq.symm hg2_179
    have g3_179 := Eq.symm hg3_179
    have g4_179 := Eq.symm hg4_179
    clear hg1_179 hg2_179 hg3_179 hg4_179
    subst g1_179 g2_179 g3_179 g4_179
    refine r_aload_n (i := 0) (pc' := 183) dX5_read_182 rfl rfl (.head _) ?_
    refine r_iconst (pc' := 184) dX5_read_183 rfl ?_
    refine r_V1gv (ci := 5) (pc' := 187) dX5_read_184 rfl lX5_71 rfl (by decide) (Nat.le_of_ble_eq_true rfl) (by first | assumption | rfl) (by omega) (tX5_emitWaiting hf (by omega) (by first | exact hb | exact hbf)) (fun n184 P184 X184 Y184 e184 le184 => ?_)
    obtain ⟨hg1_184, hg2_184, hg3_184, hg4_184⟩ := e184
    have g1_184 := Eq.symm hg1_184
    have g2_184 := Eq.symm hg2_184
    have g3_184 := Eq.symm hg3_184
    have g4_184 := Eq.symm hg4_184
    clear hg1_184 hg2_184 hg3_184 hg4_184
    subst g1_184 g2_184 g3_184 g4_184
    refine r_iload_n (i := 2) (pc' := 188) dX5_read_187 rfl rfl (.tail _ (.tail _ (.head _))) ?_
    refine r_ireturn dX5_read_188 rfl ?_
    refine ⟨_, rfl, rfl, rfl, rfl, ?_, rfl⟩
    rw [fEnd]
    dsimp only
    first | (rw [if_pos (by omega)]; done) | (rw [if_neg (by omega)]; done)
  · refine r_iload_n (i := 3) (pc' := 171) dX5_read_170 rfl rfl (.tail _ (.tail _ (.tail _ (.head _)))) ?_
    refine r_if_le (t := 182) (f := 174) dX5_read_171 (by decide) rfl (by first | omega | exact xv_in _ _ _ | exact rd_in _ _) (fun h171 => ?_) (fun h171 => ?_)
    · refine r_aload_n (i := 0) (pc' := 183) dX5_read_182 rfl rfl (.head _) ?_
      refine r_iconst (pc' := 184) dX5_read_183 rfl ?_
      refine r_V1gv (ci := 5) (pc' := 187) dX5_read_184 rfl lX5_71 rfl (by decide) (Nat.le_of_ble_eq_true rfl) (by first | assumption | rfl) (by omega) (tX5_emitWaiting hf (by omega) (by first | exact hb | exact hbf)) (fun n184 P184 X184 Y184 e184 le184 => ?_)
      obtain ⟨hg1_184, hg2_184, hg3_184, hg4_184⟩ := e184
      have g1_184 := Eq.symm hg1_184
      have g2_184 := Eq.symm hg2_184
      have g3_184 := Eq.symm hg3_184
      have g4_184 := Eq.symm hg4_184
      clear hg1_184 hg2_184 hg3_184 hg4_184
      subst g1_184 g2_184 g3_184 g4_184
      refine r_iload_n (i := 2) (pc' := 188) dX5_read_187 rfl rfl (.tail _ (.tail _ (.head _))) ?_
      refine r_ireturn dX5_read_188 rfl ?_
      refine ⟨_, rfl, rfl, rfl, rfl, ?_, rfl⟩
      rw [fEnd]
      dsimp only
      first | (rw [if_pos (by omega)]; done) | (rw [if_neg (by omega)]; done)
    · refine r_aload_n (i := 1) (pc' := 175) dX5_read_174 rfl rfl (.tail _ (.head _)) ?_
      refine r_aload_n (i := 1) (pc' := 176) dX5_read_175 rfl rfl (.tail _ (.head _)) ?_
      refine r_getI (pc' := 179) dX5_read_176 rfl fX5_48 rfl (by first | assumption | rfl) (by omega) ?_
      refine r_V1gv (ci := 9) (pc' := 182) dX5_read_179 rfl lX5_51 rfl (by decide) (Nat.le_of_ble_eq_true rfl) (by first | assumption | rfl) (by omega) (tX9_fail hr) (fun n179 P179 X179 Y179 e179 le179 => ?_)
      obtain ⟨hg1_179, hg2_179, hg3_179, hg4_179⟩ := e179
      have g1_179 := Eq.symm hg1_179
      have g2_179 := Eq.symm hg2_179
      have g3_179 := Eq.symm hg3_179
      have g4_179 := Eq.symm hg4_179
      clear hg1_179 hg2_179 hg3_179 hg4_179
      subst g1_179 g2_179 g3_179 g4_179
      refine r_aload_n (i := 0) (pc' := 183) dX5_read_182 rfl rfl (.head _) ?_
      refine r_iconst (pc' := 184) dX5_read_183 rfl ?_
      refine r_V1gv (ci := 5) (pc' := 187) dX5_read_184 rfl lX5_71 rfl (by decide) (Nat.le_of_ble_eq_true rfl) (by first | assumption | rfl) (by omega) (tX5_emitWaiting hf (by omega) (by first | exact hb | exact hbf)) (fun n184 P184 X184 Y184 e184 le184 => ?_)
      obtain ⟨hg1_184, hg2_184, hg3_184, hg4_184⟩ := e184
      have g1_184 := Eq.symm hg1_184
      have g2_184 := Eq.symm hg2_184
      have g3_184 := Eq.symm hg3_184
      have g4_184 := Eq.symm hg4_184
      clear hg1_184 hg2_184 hg3_184 hg4_184
      subst g1_184 g2_184 g3_184 g4_184
      refine r_iload_n (i := 2) (pc' := 188) dX5_read_187 rfl rfl (.tail _ (.tail _ (.head _))) ?_
      refine r_ireturn dX5_read_188 rfl ?_
      refine ⟨_, rfl, rfl, rfl, rfl, ?_, rfl⟩
      rw [fEnd]
      dsimp only
      first | (rw [if_pos (by omega)]; done) | (rw [if_neg (by omega)]; done)
set_option maxHeartbeats 4000000 in
set_option maxRecDepth 100000 in
theorem lX5_read {l : Launch} {g : q_G} {n : Nat} {P : q_P} {Y : q_Y} {f : Nat} (hf : isFor n P f) (hr : isRd n P) (hfa : f + 5 ≤ 441 ∨ 481 ≤ f) {s0 : fS} : ∀ (w i : Nat) (X : q_X) (th wi wa : Int), i + w = 500 → rOk X → fB X f → (0 ≤ th ∧ th ≤ i) → (0 ≤ wi ∧ wi ≤ i) → (wa = 0 ∨ wa = 1) → fRun f w (X, th, wi, wa) = s0 → q_Tr l g mX5_read 6 (q_gi (fun r' n' P' X' Y' => n' = n ∧ P' = P ∧ Y' = Y ∧ X' = fEnd f s0 ∧ r' = s0.2.1)) 23 [(0, .ref (g.1 + f)), (1, .ref (g.1 + 444)), (2, .int (zi (th))), (3, .int (zi (wi))), (4, .int (zi (wa))), (5, .int (zi (i : Int)))] [] n P X Y := by
  obtain ⟨s0, s1, s2, s3, s4, p1, p2, p4, p5, hnf⟩ := id hf
  obtain ⟨r0, r1, hnr⟩ := id hr
  intro w
  induction w with
  | zero =>
    intro i X th wi wa hk ho hb hth hwi hwa he
    subst he
    refine r_iload (pc' := 25) dX5_read_23 rfl (.tail _ (.tail _ (.tail _ (.tail _ (.tail _ (.head _)))))) ?_
    refine r_sipush (pc' := 28) dX5_read_25 rfl (by decide) ?_
    refine r_icmp_ge (t := 165) (f := 31) dX5_read_28 (by decide) rfl (by first | omega | exact xv_in _ _ _ | exact rd_in _ _) (by first | omega | exact xv_in _ _ _ | exact rd_in _ _) (fun h28 => ?_) (fun h28 => ?_)
    · exact iX5_read hf hr hfa ho hb (by omega) (by omega)
    · exfalso; omega
  | succ w ih =>
    intro i X th wi wa hk ho hb hth hwi hwa he
    rw [fRun] at he
    dsimp only at he
    refine r_iload (pc' := 25) dX5_read_23 rfl (.tail _ (.tail _ (.tail _ (.tail _ (.tail _ (.head _)))))) ?_
    refine r_sipush (pc' := 28) dX5_read_25 rfl (by decide) ?_
    refine r_icmp_ge (t := 165) (f := 31) dX5_read_28 (by decide) rfl (by first | omega | exact xv_in _ _ _ | exact rd_in _ _) (by first | omega | exact xv_in _ _ _ | exact rd_in _ _) (fun h28 => ?_) (fun h28 => ?_)
    · exfalso; omega
    · refine r_aload_n (i := 1) (pc' := 32) dX5_read_31 rfl rfl (.tail _ (.head _)) ?_
      refine r_V0p (ci := 9) (pc' := 35) dX5_read_32 rfl lX5_38 rfl (by decide) (Nat.le_of_ble_eq_true rfl) (by first | assumption | rfl) (by omega) (tX9_hasMore hr) ?_
      refine r_bif_eq (t := 165) (f := 38) dX5_read_35 (by decide) rfl (fun h35 => ?_) (fun h35 => ?_)
      · rw [if_neg h35] at he
        subst he
        exact iX5_read hf hr hfa ho hb (by omega) (by omega)
      · rw [if_pos h35] at he
        have hsb := fStep_b hfa (s := (X, th, wi, wa)) ho h35 hb hth.1 hwi.1 hwa
        have hbs : fB (rd_skip X) f := hb.of (rd_skip_o (by omega))
        refine r_aload_n (i := 1) (pc' := 39) dX5_read_38 rfl rfl (.tail _ (.head _)) ?_
        refine r_V0p (ci := 9) (pc' := 42) dX5_read_39 rfl lX5_44 rfl (by decide) (Nat.le_of_ble_eq_true rfl) (by first | assumption | rfl) (by omega) (tX9_peek (by assumption)) ?_
        refine r_istore (pc' := 44) dX5_read_42 rfl rfl (.s1 (.s1 (.s1 (.s1 (.s1 (.s1 .nil rfl rfl rfl) rfl rfl rfl) rfl rfl rfl) rfl rfl rfl) rfl rfl rfl) rfl rfl rfl) ?_
        by_cases h0 : wa = 0
        · refine r_iload (pc' := 46) dX5_read_44 rfl (.tail _ (.tail _ (.tail _ (.tail _ (.head _))))) ?_
          refine r_if_eq (t := 126) (f := 49) dX5_read_46 (by decide) rfl (by first | omega | exact xv_in _ _ _ | exact rd_in _ _) (fun h46 => ?_) (fun h46 => ?_)
          · by_cases hcl : rd X (xv X 444 1) = 41 ∧ 0 < wi
            · refine r_iload (pc' := 128) dX5_read_126 rfl (.tail _ (.tail _ (.tail _ (.tail _ (.tail _ (.tail _ (.head _))))))) ?_
              refine r_bipush (pc' := 130) dX5_read_128 rfl (by decide) ?_
              refine r_icmp_ne (t := 151) (f := 133) dX5_read_130 (by decide) rfl (by first | omega | exact xv_in _ _ _ | exact rd_in _ _) (by first | omega | exact xv_in _ _ _ | exact rd_in _ _) (fun h130 => ?_) (fun h130 => ?_)
              · exfalso; omega
              · refine r_iload_n (i := 3) (pc' := 134) dX5_read_133 rfl rfl (.tail _ (.tail _ (.tail _ (.head _)))) ?_
                refine r_if_le (t := 151) (f := 137) dX5_read_134 (by decide) rfl (by first | omega | exact xv_in _ _ _ | exact rd_in _ _) (fun h134 => ?_) (fun h134 => ?_)
                · exfalso; omega
                · refine r_aload_n (i := 1) (pc' := 138) dX5_read_137 rfl rfl (.tail _ (.head _)) ?_
                  refine r_V0gv (ci := 9) (pc' := 141) dX5_read_138 rfl lX5_55 rfl (by decide) (Nat.le_of_ble_eq_true rfl) (by first | assumption | rfl) (by omega) (tX9_skip hr) (fun n138 P138 X138 Y138 e138 le138 => ?_)
                  obtain ⟨hg1_138, hg2_138, hg3_138, hg4_138⟩ := e138
                  have g1_138 := Eq.symm hg1_138
                  have g2_138 := Eq.symm hg2_138
                  have g3_138 := Eq.symm hg3_138
                  have g4_138 := Eq.symm hg4_138
                  clear hg1_138 hg2_138 hg3_138 hg4_138
                  subst g1_138 g2_138 g3_138 g4_138
                  refine r_aload_n (i := 0) (pc' := 142) dX5_read_141 rfl rfl (.head _) ?_
                  refine r_V0gv (ci := 5) (pc' := 145) dX5_read_142 rfl lX5_65 rfl (by decide) (Nat.le_of_ble_eq_true rfl) (by first | assumption | rfl) (by omega) (tX5_closeBracket hf hbs) (fun n142 P142 X142 Y142 e142 le142 => ?_)
                  obtain ⟨hg1_142, hg2_142, hg3_142, hg4_142⟩ := e142
                  have g1_142 := Eq.symm hg1_142
                  have g2_142 := Eq.symm hg2_142
                  have g3_142 := Eq.symm hg3_142
                  have g4_142 := Eq.symm hg4_142
                  clear hg1_142 hg2_142 hg3_142 hg4_142
                  subst g1_142 g2_142 g3_142 g4_142
                  refine r_iinc (pc' := 148) dX5_read_145 rfl rfl (.tail _ (.tail _ (.tail _ (.head _)))) (.s1 (.s1 (.s1 (.here (.s1 (.s1 (.s1 .nil rfl rfl rfl) rfl rfl rfl) rfl rfl rfl)) rfl rfl rfl) rfl rfl rfl) rfl rfl rfl) ?_
                  refine r_goto (t := 159) dX5_read_148 (by decide) ?_
                  refine r_iinc (pc' := 162) dX5_read_159 rfl rfl (.tail _ (.tail _ (.tail _ (.tail _ (.tail _ (.head _)))))) (.s1 (.s1 (.s1 (.s1 (.s1 (.here (.s1 .nil rfl rfl rfl)) rfl rfl rfl) rfl rfl rfl) rfl rfl rfl) rfl rfl rfl) rfl rfl rfl) ?_
                  refine r_goto (t := 23) dX5_read_162 (by decide) ?_
                  refine r_sub (.kp (.kp (.kp (.kp (.kp (.kp (.dr .nil))))))) ?_
                  rw [fStep] at he
                  dsimp only at he
                  rw [if_pos h0, if_pos hcl] at he
                  rw [fStep] at hsb
                  dsimp only at hsb
                  rw [if_pos h0, if_pos hcl] at hsb
                  obtain ⟨k1, k2, k3, k4, k5⟩ := hsb
                  dsimp only at k1 k2 k3 k4 k5
                  exact ih (i + 1) _ _ _ _ (by omega) k1 k2 (by omega) (by omega) (by omega) he
            · refine r_iload (pc' := 128) dX5_read_126 rfl (.tail _ (.tail _ (.tail _ (.tail _ (.tail _ (.tail _ (.head _))))))) ?_
              refine r_bipush (pc' := 130) dX5_read_128 rfl (by decide) ?_
              refine r_icmp_ne (t := 151) (f := 133) dX5_read_130 (by decide) rfl (by first | omega | exact xv_in _ _ _ | exact rd_in _ _) (by first | omega | exact xv_in _ _ _ | exact rd_in _ _) (fun h130 => ?_) (fun h130 => ?_)
              · refine r_aload_n (i := 0) (pc' := 152) dX5_read_151 rfl rfl (.head _) ?_
                refine r_aload_n (i := 1) (pc' := 153) dX5_read_152 rfl rfl (.tail _ (.head _)) ?_
                refine r_V1gv (ci := 5) (pc' := 156) dX5_read_153 rfl lX5_68 rfl (by decide) (Nat.le_of_ble_eq_true rfl) (by first | assumption | rfl) (by omega) (tX5_readOperator hf hr ho h35 hb hfa) (fun n153 P153 X153 Y153 e153 le153 => ?_)
                obtain ⟨hg1_153, hg2_153, hg3_153, hg4_153⟩ := e153
                have g1_153 := Eq.symm hg1_153
                have g2_153 := Eq.symm hg2_153
                have g3_153 := Eq.symm hg3_153
                have g4_153 := Eq.symm hg4_153
                clear hg1_153 hg2_153 hg3_153 hg4_153
                subst g1_153 g2_153 g3_153 g4_153
                refine r_iconst (pc' := 157) dX5_read_156 rfl ?_
                refine r_istore (pc' := 159) dX5_read_157 rfl rfl (.s1 (.s1 (.s1 (.s1 (.here (.s1 (.s1 .nil rfl rfl rfl) rfl rfl rfl)) rfl rfl rfl) rfl rfl rfl) rfl rfl rfl) rfl rfl rfl) ?_
                refine r_iinc (pc' := 162) dX5_read_159 rfl rfl (.tail _ (.tail _ (.tail _ (.tail _ (.tail _ (.head _)))))) (.s1 (.s1 (.s1 (.s1 (.s1 (.here (.s1 .nil rfl rfl rfl)) rfl rfl rfl) rfl rfl rfl) rfl rfl rfl) rfl rfl rfl) rfl rfl rfl) ?_
                refine r_goto (t := 23) dX5_read_162 (by decide) ?_
                refine r_sub (.kp (.kp (.kp (.kp (.kp (.kp (.dr .nil))))))) ?_
                rw [fStep] at he
                dsimp only at he
                rw [if_pos h0, if_neg hcl] at he
                rw [fStep] at hsb
                dsimp only at hsb
                rw [if_pos h0, if_neg hcl] at hsb
                obtain ⟨k1, k2, k3, k4, k5⟩ := hsb
                dsimp only at k1 k2 k3 k4 k5
                exact ih (i + 1) _ _ _ _ (by omega) k1 k2 (by omega) (by omega) (by omega) he
              · refine r_iload_n (i := 3) (pc' := 134) dX5_read_133 rfl rfl (.tail _ (.tail _ (.tail _ (.head _)))) ?_
                refine r_if_le (t := 151) (f := 137) dX5_read_134 (by decide) rfl (by first | omega | exact xv_in _ _ _ | exact rd_in _ _) (fun h134 => ?_) (fun h134 => ?_)
                · refine r_aload_n (i := 0) (pc' := 152) dX5_read_151 rfl rfl (.head _) ?_
                  refine r_aload_n (i := 1) (pc' := 153) dX5_read_152 rfl rfl (.tail _ (.head _)) ?_
                  refine r_V1gv (ci := 5) (pc' := 156) dX5_read_153 rfl lX5_68 rfl (by decide) (Nat.le_of_ble_eq_true rfl) (by first | assumption | rfl) (by omega) (tX5_readOperator hf hr ho h35 hb hfa) (fun n153 P153 X153 Y153 e153 le153 => ?_)
                  obtain ⟨hg1_153, hg2_153, hg3_153, hg4_153⟩ := e153
                  have g1_153 := Eq.symm hg1_153
                  have g2_153 := Eq.symm hg2_153
                  have g3_153 := Eq.symm hg3_153
                  have g4_153 := Eq.symm hg4_153
                  clear hg1_153 hg2_153 hg3_153 hg4_153
                  subst g1_153 g2_153 g3_153 g4_153
                  refine r_iconst (pc' := 157) dX5_read_156 rfl ?_
                  refine r_istore (pc' := 159) dX5_read_157 rfl rfl (.s1 (.s1 (.s1 (.s1 (.here (.s1 (.s1 .nil rfl rfl rfl) rfl rfl rfl)) rfl rfl rfl) rfl rfl rfl) rfl rfl rfl) rfl rfl rfl) ?_
                  refine r_iinc (pc' := 162) dX5_read_159 rfl rfl (.tail _ (.tail _ (.tail _ (.tail _ (.tail _ (.head _)))))) (.s1 (.s1 (.s1 (.s1 (.s1 (.here (.s1 .nil rfl rfl rfl)) rfl rfl rfl) rfl rfl rfl) rfl rfl rfl) rfl rfl rfl) rfl rfl rfl) ?_
                  refine r_goto (t := 23) dX5_read_162 (by decide) ?_
                  refine r_sub (.kp (.kp (.kp (.kp (.kp (.kp (.dr .nil))))))) ?_
                  rw [fStep] at he
                  dsimp only at he
                  rw [if_pos h0, if_neg hcl] at he
                  rw [fStep] at hsb
                  dsimp only at hsb
                  rw [if_pos h0, if_neg hcl] at hsb
                  obtain ⟨k1, k2, k3, k4, k5⟩ := hsb
                  dsimp only at k1 k2 k3 k4 k5
                  exact ih (i + 1) _ _ _ _ (by omega) k1 k2 (by omega) (by omega) (by omega) he
                · exfalso; omega
          · exfalso; omega
        · refine r_iload (pc' := 46) dX5_read_44 rfl (.tail _ (.tail _ (.tail _ (.tail _ (.head _))))) ?_
          refine r_if_eq (t := 126) (f := 49) dX5_read_46 (by decide) rfl (by first | omega | exact xv_in _ _ _ | exact rd_in _ _) (fun h46 => ?_) (fun h46 => ?_)
          · exfalso; omega
          · rcases (show ((40 ≤ th ∨ (rd X (xv X 444 1) = 40 ∧ 6 ≤ wi)) ∧ rd X (xv X 444 1) = 40) ∨ ((40 ≤ th ∨ (rd X (xv X 444 1) = 40 ∧ 6 ≤ wi)) ∧ ¬ rd X (xv X 444 1) = 40) ∨ (¬ (40 ≤ th ∨ (rd X (xv X 444 1) = 40 ∧ 6 ≤ wi)) ∧ rd X (xv X 444 1) = 40) ∨ (¬ (40 ≤ th ∨ (rd X (xv X 444 1) = 40 ∧ 6 ≤ wi)) ∧ ¬ rd X (xv X 444 1) = 40) by omega) with hB | hB | hB | hB
            · refine r_iload (pc' := 51) dX5_read_49 rfl (.tail _ (.tail _ (.tail _ (.tail _ (.tail _ (.tail _ (.head _))))))) ?_
              refine r_bipush (pc' := 53) dX5_read_51 rfl (by decide) ?_
              refine r_icmp_ne (t := 60) (f := 56) dX5_read_53 (by decide) rfl (by first | omega | exact xv_in _ _ _ | exact rd_in _ _) (by first | omega | exact xv_in _ _ _ | exact rd_in _ _) (fun h53 => ?_) (fun h53 => ?_)
              · exfalso; omega
              · refine r_iconst (pc' := 57) dX5_read_56 rfl ?_
                refine r_goto (t := 61) dX5_read_57 (by decide) ?_
                refine r_istore (pc' := 63) dX5_read_61 rfl rfl (.s1 (.s1 (.s1 (.s1 (.s1 (.s1 (.s1 .nil rfl rfl rfl) rfl rfl rfl) rfl rfl rfl) rfl rfl rfl) rfl rfl rfl) rfl rfl rfl) rfl rfl rfl) ?_
                refine r_iload_n (i := 2) (pc' := 64) dX5_read_63 rfl rfl (.tail _ (.tail _ (.head _))) ?_
                refine r_bipush (pc' := 66) dX5_read_64 rfl (by decide) ?_
                refine r_icmp_ge (t := 80) (f := 69) dX5_read_66 (by decide) rfl (by first | omega | exact xv_in _ _ _ | exact rd_in _ _) (by first | omega | exact xv_in _ _ _ | exact rd_in _ _) (fun h66 => ?_) (fun h66 => ?_)
                · refine r_aload_n (i := 1) (pc' := 81) dX5_read_80 rfl rfl (.tail _ (.head _)) ?_
                  refine r_aload_n (i := 1) (pc' := 82) dX5_read_81 rfl rfl (.tail _ (.head _)) ?_
                  refine r_getI (pc' := 85) dX5_read_82 rfl fX5_48 rfl (by first | assumption | rfl) (by omega) ?_
                  refine r_V1gv (ci := 9) (pc' := 88) dX5_read_85 rfl lX5_51 rfl (by decide) (Nat.le_of_ble_eq_true rfl) (by first | assumption | rfl) (by omega) (tX9_fail hr) (fun n85 P85 X85 Y85 e85 le85 => ?_)
                  obtain ⟨hg1_85, hg2_85, hg3_85, hg4_85⟩ := e85
                  have g1_85 := Eq.symm hg1_85
                  have g2_85 := Eq.symm hg2_85
                  have g3_85 := Eq.symm hg3_85
                  have g4_85 := Eq.symm hg4_85
                  clear hg1_85 hg2_85 hg3_85 hg4_85
                  subst g1_85 g2_85 g3_85 g4_85
                  refine r_goto (t := 120) dX5_read_88 (by decide) ?_
                  refine r_iinc (pc' := 123) dX5_read_120 rfl rfl (.tail _ (.tail _ (.head _))) (.s1 (.s1 (.here (.s1 (.s1 (.s1 (.s1 (.s1 .nil rfl rfl rfl) rfl rfl rfl) rfl rfl rfl) rfl rfl rfl) rfl rfl rfl)) rfl rfl rfl) rfl rfl rfl) ?_
                  refine r_goto (t := 159) dX5_read_123 (by decide) ?_
                  refine r_iinc (pc' := 162) dX5_read_159 rfl rfl (.tail _ (.tail _ (.tail _ (.tail _ (.tail _ (.head _)))))) (.s1 (.s1 (.s1 (.s1 (.s1 (.here (.s1 (.s1 .nil rfl rfl rfl) rfl rfl rfl)) rfl rfl rfl) rfl rfl rfl) rfl rfl rfl) rfl rfl rfl) rfl rfl rfl) ?_
                  refine r_goto (t := 23) dX5_read_162 (by decide) ?_
                  refine r_sub (.kp (.kp (.kp (.kp (.kp (.kp (.dr (.dr .nil)))))))) ?_
                  rw [fStep] at he
                  dsimp only at he
                  rw [if_neg h0, if_pos hB.1] at he
                  rw [fStep] at hsb
                  dsimp only at hsb
                  rw [if_neg h0, if_pos hB.1] at hsb
                  obtain ⟨k1, k2, k3, k4, k5⟩ := hsb
                  dsimp only at k1 k2 k3 k4 k5
                  exact ih (i + 1) _ _ _ _ (by omega) k1 k2 (by omega) (by omega) (by omega) he
                · refine r_iload (pc' := 71) dX5_read_69 rfl (.tail _ (.tail _ (.tail _ (.tail _ (.tail _ (.tail _ (.tail _ (.head _)))))))) ?_
                  refine r_if_eq (t := 91) (f := 74) dX5_read_71 (by decide) rfl (by first | omega | exact xv_in _ _ _ | exact rd_in _ _) (fun h71 => ?_) (fun h71 => ?_)
                  · exfalso; omega
                  · refine r_iload_n (i := 3) (pc' := 75) dX5_read_74 rfl rfl (.tail _ (.tail _ (.tail _ (.head _)))) ?_
                    refine r_bipush (pc' := 77) dX5_read_75 rfl (by decide) ?_
                    refine r_icmp_lt (t := 91) (f := 80) dX5_read_77 (by decide) rfl (by first | omega | exact xv_in _ _ _ | exact rd_in _ _) (by first | omega | exact xv_in _ _ _ | exact rd_in _ _) (fun h77 => ?_) (fun h77 => ?_)
                    · exfalso; omega
                    · refine r_aload_n (i := 1) (pc' := 81) dX5_read_80 rfl rfl (.tail _ (.head _)) ?_
                      refine r_aload_n (i := 1) (pc' := 82) dX5_read_81 rfl rfl (.tail _ (.head _)) ?_
                      refine r_getI (pc' := 85) dX5_read_82 rfl fX5_48 rfl (by first | assumption | rfl) (by omega) ?_
                      refine r_V1gv (ci := 9) (pc' := 88) dX5_read_85 rfl lX5_51 rfl (by decide) (Nat.le_of_ble_eq_true rfl) (by first | assumption | rfl) (by omega) (tX9_fail hr) (fun n85 P85 X85 Y85 e85 le85 => ?_)
                      obtain ⟨hg1_85, hg2_85, hg3_85, hg4_85⟩ := e85
                      have g1_85 := Eq.symm hg1_85
                      have g2_85 := Eq.symm hg2_85
                      have g3_85 := Eq.symm hg3_85
                      have g4_85 := Eq.symm hg4_85
                      clear hg1_85 hg2_85 hg3_85 hg4_85
                      subst g1_85 g2_85 g3_85 g4_85
                      refine r_goto (t := 120) dX5_read_88 (by decide) ?_
                      refine r_iinc (pc' := 123) dX5_read_120 rfl rfl (.tail _ (.tail _ (.head _))) (.s1 (.s1 (.here (.s1 (.s1 (.s1 (.s1 (.s1 .nil rfl rfl rfl) rfl rfl rfl) rfl rfl rfl) rfl rfl rfl) rfl rfl rfl)) rfl rfl rfl) rfl rfl rfl) ?_
                      refine r_goto (t := 159) dX5_read_123 (by decide) ?_
                      refine r_iinc (pc' := 162) dX5_read_159 rfl rfl (.tail _ (.tail _ (.tail _ (.tail _ (.tail _ (.head _)))))) (.s1 (.s1 (.s1 (.s1 (.s1 (.here (.s1 (.s1 .nil rfl rfl rfl) rfl rfl rfl)) rfl rfl rfl) rfl rfl rfl) rfl rfl rfl) rfl rfl rfl) rfl rfl rfl) ?_
                      refine r_goto (t := 23) dX5_read_162 (by decide) ?_
                      refine r_sub (.kp (.kp (.kp (.kp (.kp (.kp (.dr (.dr .nil)))))))) ?_
                      rw [fStep] at he
                      dsimp only at he
                      rw [if_neg h0, if_pos hB.1] at he
                      rw [fStep] at hsb
                      dsimp only at hsb
                      rw [if_neg h0, if_pos hB.1] at hsb
                      obtain ⟨k1, k2, k3, k4, k5⟩ := hsb
                      dsimp only at k1 k2 k3 k4 k5
                      exact ih (i + 1) _ _ _ _ (by omega) k1 k2 (by omega) (by omega) (by omega) he
            · refine r_iload (pc' := 51) dX5_read_49 rfl (.tail _ (.tail _ (.tail _ (.tail _ (.tail _ (.tail _ (.head _))))))) ?_
              refine r_bipush (pc' := 53) dX5_read_51 rfl (by decide) ?_
              refine r_icmp_ne (t := 60) (f := 56) dX5_read_53 (by decide) rfl (by first | omega | exact xv_in _ _ _ | exact rd_in _ _) (by first | omega | exact xv_in _ _ _ | exact rd_in _ _) (fun h53 => ?_) (fun h53 => ?_)
              · refine r_iconst (pc' := 61) dX5_read_60 rfl ?_
                refine r_istore (pc' := 63) dX5_read_61 rfl rfl (.s1 (.s1 (.s1 (.s1 (.s1 (.s1 (.s1 .nil rfl rfl rfl) rfl rfl rfl) rfl rfl rfl) rfl rfl rfl) rfl rfl rfl) rfl rfl rfl) rfl rfl rfl) ?_
                refine r_iload_n (i := 2) (pc' := 64) dX5_read_63 rfl rfl (.tail _ (.tail _ (.head _))) ?_
                refine r_bipush (pc' := 66) dX5_read_64 rfl (by decide) ?_
                refine r_icmp_ge (t := 80) (f := 69) dX5_read_66 (by decide) rfl (by first | omega | exact xv_in _ _ _ | exact rd_in _ _) (by first | omega | exact xv_in _ _ _ | exact rd_in _ _) (fun h66 => ?_) (fun h66 => ?_)
                · refine r_aload_n (i := 1) (pc' := 81) dX5_read_80 rfl rfl (.tail _ (.head _)) ?_
                  refine r_aload_n (i := 1) (pc' := 82) dX5_read_81 rfl rfl (.tail _ (.head _)) ?_
                  refine r_getI (pc' := 85) dX5_read_82 rfl fX5_48 rfl (by first | assumption | rfl) (by omega) ?_
                  refine r_V1gv (ci := 9) (pc' := 88) dX5_read_85 rfl lX5_51 rfl (by decide) (Nat.le_of_ble_eq_true rfl) (by first | assumption | rfl) (by omega) (tX9_fail hr) (fun n85 P85 X85 Y85 e85 le85 => ?_)
                  obtain ⟨hg1_85, hg2_85, hg3_85, hg4_85⟩ := e85
                  have g1_85 := Eq.symm hg1_85
                  have g2_85 := Eq.symm hg2_85
                  have g3_85 := Eq.symm hg3_85
                  have g4_85 := Eq.symm hg4_85
                  clear hg1_85 hg2_85 hg3_85 hg4_85
                  subst g1_85 g2_85 g3_85 g4_85
                  refine r_goto (t := 120) dX5_read_88 (by decide) ?_
                  refine r_iinc (pc' := 123) dX5_read_120 rfl rfl (.tail _ (.tail _ (.head _))) (.s1 (.s1 (.here (.s1 (.s1 (.s1 (.s1 (.s1 .nil rfl rfl rfl) rfl rfl rfl) rfl rfl rfl) rfl rfl rfl) rfl rfl rfl)) rfl rfl rfl) rfl rfl rfl) ?_
                  refine r_goto (t := 159) dX5_read_123 (by decide) ?_
                  refine r_iinc (pc' := 162) dX5_read_159 rfl rfl (.tail _ (.tail _ (.tail _ (.tail _ (.tail _ (.head _)))))) (.s1 (.s1 (.s1 (.s1 (.s1 (.here (.s1 (.s1 .nil rfl rfl rfl) rfl rfl rfl)) rfl rfl rfl) rfl rfl rfl) rfl rfl rfl) rfl rfl rfl) rfl rfl rfl) ?_
                  refine r_goto (t := 23) dX5_read_162 (by decide) ?_
                  refine r_sub (.kp (.kp (.kp (.kp (.kp (.kp (.dr (.dr .nil)))))))) ?_
                  rw [fStep] at he
                  dsimp only at he
                  rw [if_neg h0, if_pos hB.1] at he
                  rw [fStep] at hsb
                  dsimp only at hsb
                  rw [if_neg h0, if_pos hB.1] at hsb
                  obtain ⟨k1, k2, k3, k4, k5⟩ := hsb
                  dsimp only at k1 k2 k3 k4 k5
                  exact ih (i + 1) _ _ _ _ (by omega) k1 k2 (by omega) (by omega) (by omega) he
                · exfalso; omega
              · exfalso; omega
            · refine r_iload (pc' := 51) dX5_read_49 rfl (.tail _ (.tail _ (.tail _ (.tail _ (.tail _ (.tail _ (.head _))))))) ?_
              refine r_bipush (pc' := 53) dX5_read_51 rfl (by decide) ?_
              refine r_icmp_ne (t := 60) (f := 56) dX5_read_53 (by decide) rfl (by first | omega | exact xv_in _ _ _ | exact rd_in _ _) (by first | omega | exact xv_in _ _ _ | exact rd_in _ _) (fun h53 => ?_) (fun h53 => ?_)
              · exfalso; omega
              · refine r_iconst (pc' := 57) dX5_read_56 rfl ?_
                refine r_goto (t := 61) dX5_read_57 (by decide) ?_
                refine r_istore (pc' := 63) dX5_read_61 rfl rfl (.s1 (.s1 (.s1 (.s1 (.s1 (.s1 (.s1 .nil rfl rfl rfl) rfl rfl rfl) rfl rfl rfl) rfl rfl rfl) rfl rfl rfl) rfl rfl rfl) rfl rfl rfl) ?_
                refine r_iload_n (i := 2) (pc' := 64) dX5_read_63 rfl rfl (.tail _ (.tail _ (.head _))) ?_
                refine r_bipush (pc' := 66) dX5_read_64 rfl (by decide) ?_
                refine r_icmp_ge (t := 80) (f := 69) dX5_read_66 (by decide) rfl (by first | omega | exact xv_in _ _ _ | exact rd_in _ _) (by first | omega | exact xv_in _ _ _ | exact rd_in _ _) (fun h66 => ?_) (fun h66 => ?_)
                · exfalso; omega
                · refine r_iload (pc' := 71) dX5_read_69 rfl (.tail _ (.tail _ (.tail _ (.tail _ (.tail _ (.tail _ (.tail _ (.head _)))))))) ?_
                  refine r_if_eq (t := 91) (f := 74) dX5_read_71 (by decide) rfl (by first | omega | exact xv_in _ _ _ | exact rd_in _ _) (fun h71 => ?_) (fun h71 => ?_)
                  · exfalso; omega
                  · refine r_iload_n (i := 3) (pc' := 75) dX5_read_74 rfl rfl (.tail _ (.tail _ (.tail _ (.head _)))) ?_
                    refine r_bipush (pc' := 77) dX5_read_75 rfl (by decide) ?_
                    refine r_icmp_lt (t := 91) (f := 80) dX5_read_77 (by decide) rfl (by first | omega | exact xv_in _ _ _ | exact rd_in _ _) (by first | omega | exact xv_in _ _ _ | exact rd_in _ _) (fun h77 => ?_) (fun h77 => ?_)
                    · refine r_iload (pc' := 93) dX5_read_91 rfl (.tail _ (.tail _ (.tail _ (.tail _ (.tail _ (.tail _ (.tail _ (.head _)))))))) ?_
                      refine r_if_eq (t := 112) (f := 96) dX5_read_93 (by decide) rfl (by first | omega | exact xv_in _ _ _ | exact rd_in _ _) (fun h93 => ?_) (fun h93 => ?_)
                      · exfalso; omega
                      · refine r_aload_n (i := 1) (pc' := 97) dX5_read_96 rfl rfl (.tail _ (.head _)) ?_
                        refine r_V0gv (ci := 9) (pc' := 100) dX5_read_97 rfl lX5_55 rfl (by decide) (Nat.le_of_ble_eq_true rfl) (by first | assumption | rfl) (by omega) (tX9_skip hr) (fun n97 P97 X97 Y97 e97 le97 => ?_)
                        obtain ⟨hg1_97, hg2_97, hg3_97, hg4_97⟩ := e97
                        have g1_97 := Eq.symm hg1_97
                        have g2_97 := Eq.symm hg2_97
                        have g3_97 := Eq.symm hg3_97
                        have g4_97 := Eq.symm hg4_97
                        clear hg1_97 hg2_97 hg3_97 hg4_97
                        subst g1_97 g2_97 g3_97 g4_97
                        rw [hB.2]
                        refine r_aload_n (i := 0) (pc' := 101) dX5_read_100 rfl rfl (.head _) ?_
                        refine r_iload (pc' := 103) dX5_read_101 rfl (.tail _ (.tail _ (.tail _ (.tail _ (.tail _ (.tail _ (.head _))))))) ?_
                        refine r_V1gv (ci := 5) (pc' := 106) dX5_read_103 rfl lX5_58 rfl (by decide) (Nat.le_of_ble_eq_true rfl) (by first | assumption | rfl) (by omega) (tX5_hold hf) (fun n103 P103 X103 Y103 e103 le103 => ?_)
                        obtain ⟨hg1_103, hg2_103, hg3_103, hg4_103⟩ := e103
                        have g1_103 := Eq.symm hg1_103
                        have g2_103 := Eq.symm hg2_103
                        have g3_103 := Eq.symm hg3_103
                        have g4_103 := Eq.symm hg4_103
                        clear hg1_103 hg2_103 hg3_103 hg4_103
                        subst g1_103 g2_103 g3_103 g4_103
                        refine r_iinc (pc' := 109) dX5_read_106 rfl rfl (.tail _ (.tail _ (.tail _ (.head _)))) (.s1 (.s1 (.s1 (.here (.s1 (.s1 (.s1 (.s1 .nil rfl rfl rfl) rfl rfl rfl) rfl rfl rfl) rfl rfl rfl)) rfl rfl rfl) rfl rfl rfl) rfl rfl rfl) ?_
                        refine r_goto (t := 120) dX5_read_109 (by decide) ?_
                        refine r_iinc (pc' := 123) dX5_read_120 rfl rfl (.tail _ (.tail _ (.head _))) (.s1 (.s1 (.here (.s1 (.s1 (.s1 (.s1 (.s1 .nil rfl rfl rfl) rfl rfl rfl) rfl rfl rfl) rfl rfl rfl) rfl rfl rfl)) rfl rfl rfl) rfl rfl rfl) ?_
                        refine r_goto (t := 159) dX5_read_123 (by decide) ?_
                        refine r_iinc (pc' := 162) dX5_read_159 rfl rfl (.tail _ (.tail _ (.tail _ (.tail _ (.tail _ (.head _)))))) (.s1 (.s1 (.s1 (.s1 (.s1 (.here (.s1 (.s1 .nil rfl rfl rfl) rfl rfl rfl)) rfl rfl rfl) rfl rfl rfl) rfl rfl rfl) rfl rfl rfl) rfl rfl rfl) ?_
                        refine r_goto (t := 23) dX5_read_162 (by decide) ?_
                        refine r_sub (.kp (.kp (.kp (.kp (.kp (.kp (.dr (.dr .nil)))))))) ?_
                        rw [fStep] at he
                        dsimp only at he
                        rw [if_neg h0, if_neg hB.1, if_pos hB.2] at he
                        rw [fStep] at hsb
                        dsimp only at hsb
                        rw [if_neg h0, if_neg hB.1, if_pos hB.2] at hsb
                        obtain ⟨k1, k2, k3, k4, k5⟩ := hsb
                        dsimp only at k1 k2 k3 k4 k5
                        exact ih (i + 1) _ _ _ _ (by omega) k1 k2 (by omega) (by omega) (by omega) he
                    · exfalso; omega
            · refine r_iload (pc' := 51) dX5_read_49 rfl (.tail _ (.tail _ (.tail _ (.tail _ (.tail _ (.tail _ (.head _))))))) ?_
              refine r_bipush (pc' := 53) dX5_read_51 rfl (by decide) ?_
              refine r_icmp_ne (t := 60) (f := 56) dX5_read_53 (by decide) rfl (by first | omega | exact xv_in _ _ _ | exact rd_in _ _) (by first | omega | exact xv_in _ _ _ | exact rd_in _ _) (fun h53 => ?_) (fun h53 => ?_)
              · refine r_iconst (pc' := 61) dX5_read_60 rfl ?_
                refine r_istore (pc' := 63) dX5_read_61 rfl rfl (.s1 (.s1 (.s1 (.s1 (.s1 (.s1 (.s1 .nil rfl rfl rfl) rfl rfl rfl) rfl rfl rfl) rfl rfl rfl) rfl rfl rfl) rfl rfl rfl) rfl rfl rfl) ?_
                refine r_iload_n (i := 2) (pc' := 64) dX5_read_63 rfl rfl (.tail _ (.tail _ (.head _))) ?_
                refine r_bipush (pc' := 66) dX5_read_64 rfl (by decide) ?_
                refine r_icmp_ge (t := 80) (f := 69) dX5_read_66 (by decide) rfl (by first | omega | exact xv_in _ _ _ | exact rd_in _ _) (by first | omega | exact xv_in _ _ _ | exact rd_in _ _) (fun h66 => ?_) (fun h66 => ?_)
                · exfalso; omega
                · refine r_iload (pc' := 71) dX5_read_69 rfl (.tail _ (.tail _ (.tail _ (.tail _ (.tail _ (.tail _ (.tail _ (.head _)))))))) ?_
                  refine r_if_eq (t := 91) (f := 74) dX5_read_71 (by decide) rfl (by first | omega | exact xv_in _ _ _ | exact rd_in _ _) (fun h71 => ?_) (fun h71 => ?_)
                  · refine r_iload (pc' := 93) dX5_read_91 rfl (.tail _ (.tail _ (.tail _ (.tail _ (.tail _ (.tail _ (.tail _ (.head _)))))))) ?_
                    refine r_if_eq (t := 112) (f := 96) dX5_read_93 (by decide) rfl (by first | omega | exact xv_in _ _ _ | exact rd_in _ _) (fun h93 => ?_) (fun h93 => ?_)
                    · refine r_aload_n (i := 0) (pc' := 113) dX5_read_112 rfl rfl (.head _) ?_
                      refine r_aload_n (i := 1) (pc' := 114) dX5_read_113 rfl rfl (.tail _ (.head _)) ?_
                      refine r_V1gv (ci := 5) (pc' := 117) dX5_read_114 rfl lX5_61 rfl (by decide) (Nat.le_of_ble_eq_true rfl) (by first | assumption | rfl) (by omega) (tX5_readThing hf hr ho h35) (fun n114 P114 X114 Y114 e114 le114 => ?_)
                      obtain ⟨hg1_114, hg2_114, hg3_114, hg4_114⟩ := e114
                      have g1_114 := Eq.symm hg1_114
                      have g2_114 := Eq.symm hg2_114
                      have g3_114 := Eq.symm hg3_114
                      have g4_114 := Eq.symm hg4_114
                      clear hg1_114 hg2_114 hg3_114 hg4_114
                      subst g1_114 g2_114 g3_114 g4_114
                      refine r_iconst (pc' := 118) dX5_read_117 rfl ?_
                      refine r_istore (pc' := 120) dX5_read_118 rfl rfl (.s1 (.s1 (.s1 (.s1 (.here (.s1 (.s1 (.s1 .nil rfl rfl rfl) rfl rfl rfl) rfl rfl rfl)) rfl rfl rfl) rfl rfl rfl) rfl rfl rfl) rfl rfl rfl) ?_
                      refine r_iinc (pc' := 123) dX5_read_120 rfl rfl (.tail _ (.tail _ (.head _))) (.s1 (.s1 (.here (.s1 (.s1 (.s1 (.s1 (.s1 .nil rfl rfl rfl) rfl rfl rfl) rfl rfl rfl) rfl rfl rfl) rfl rfl rfl)) rfl rfl rfl) rfl rfl rfl) ?_
                      refine r_goto (t := 159) dX5_read_123 (by decide) ?_
                      refine r_iinc (pc' := 162) dX5_read_159 rfl rfl (.tail _ (.tail _ (.tail _ (.tail _ (.tail _ (.head _)))))) (.s1 (.s1 (.s1 (.s1 (.s1 (.here (.s1 (.s1 .nil rfl rfl rfl) rfl rfl rfl)) rfl rfl rfl) rfl rfl rfl) rfl rfl rfl) rfl rfl rfl) rfl rfl rfl) ?_
                      refine r_goto (t := 23) dX5_read_162 (by decide) ?_
                      refine r_sub (.kp (.kp (.kp (.kp (.kp (.kp (.dr (.dr .nil)))))))) ?_
                      rw [fStep] at he
                      dsimp only at he
                      rw [if_neg h0, if_neg hB.1, if_neg hB.2] at he
                      rw [fStep] at hsb
                      dsimp only at hsb
                      rw [if_neg h0, if_neg hB.1, if_neg hB.2] at hsb
                      obtain ⟨k1, k2, k3, k4, k5⟩ := hsb
                      dsimp only at k1 k2 k3 k4 k5
                      exact ih (i + 1) _ _ _ _ (by omega) k1 k2 (by omega) (by omega) (by omega) he
                    · exfalso; omega
                  · exfalso; omega
              · exfalso; omega
set_option maxHeartbeats 4000000 in
set_option maxRecDepth 100000 in
theorem tX5_read {l : Launch} {g : q_G} {n : Nat} {P : q_P} {X : q_X} {Y : q_Y} {f : Nat} (hf : isFor n P f) (hr : isRd n P) (hfa : f + 5 ≤ 441 ∨ 481 ≤ f) (ho : rOk X) : q_Met l g mX5_read 6 [.ref (g.1 + f), .ref (g.1 + 444)] n P X Y (q_gi (fun r' n' P' X' Y' => n' = n ∧ P' = P ∧ Y' = Y ∧ X' = fAll X f ∧ r' = fAllN X f)) := by
  obtain ⟨s0, s1, s2, s3, s4, p1, p2, p4, p5, hnf⟩ := id hf
  obtain ⟨r0, r1, hnr⟩ := id hr
  refine q_enter (L := [(0, .ref (g.1 + f)), (1, .ref (g.1 + 444))]) (by decide) (Nat.le_of_ble_eq_true rfl) rfl ?_
  refine r_aload_n (i := 0) (pc' := 1) dX5_read_0 rfl rfl (.head _) ?_
  refine r_iconst (pc' := 2) dX5_read_1 rfl ?_
  refine r_putI (pc' := 5) dX5_read_2 rfl fX5_25 rfl (by first | assumption | rfl) (by omega) rfl rfl ?_
  refine r_aload_n (i := 0) (pc' := 6) dX5_read_5 rfl rfl (.head _) ?_
  refine r_iconst (pc' := 7) dX5_read_6 rfl ?_
  refine r_putI (pc' := 10) dX5_read_7 rfl fX5_35 rfl (by first | assumption | rfl) (by omega) rfl rfl ?_
  refine r_iconst (pc' := 11) dX5_read_10 rfl ?_
  refine r_istore_n (i := 2) (pc' := 12) dX5_read_11 rfl rfl rfl (.s1 (.s1 .nil rfl rfl rfl) rfl rfl rfl) ?_
  refine r_iconst (pc' := 13) dX5_read_12 rfl ?_
  refine r_istore_n (i := 3) (pc' := 14) dX5_read_13 rfl rfl rfl (.s1 (.s1 (.s1 .nil rfl rfl rfl) rfl rfl rfl) rfl rfl rfl) ?_
  refine r_aload_n (i := 1) (pc' := 15) dX5_read_14 rfl rfl (.tail _ (.head _)) ?_
  refine r_V0p (ci := 9) (pc' := 18) dX5_read_15 rfl lX5_38 rfl (by decide) (Nat.le_of_ble_eq_true rfl) (by first | assumption | rfl) (by omega) (tX9_hasMore hr) ?_
  refine r_istore (pc' := 20) dX5_read_18 rfl rfl (.s1 (.s1 (.s1 (.s1 .nil rfl rfl rfl) rfl rfl rfl) rfl rfl rfl) rfl rfl rfl) ?_
  refine r_iconst (pc' := 21) dX5_read_20 rfl ?_
  refine r_istore (pc' := 23) dX5_read_21 rfl rfl (.s1 (.s1 (.s1 (.s1 (.s1 .nil rfl rfl rfl) rfl rfl rfl) rfl rfl rfl) rfl rfl rfl) rfl rfl rfl) ?_
  exact lX5_read hf hr hfa 500 0 _ 0 0 _ (by omega) ((ho.up (by omega)).up (by omega)) (by refine ⟨?_, ?_⟩ <;> simp (disch := omega) only [xv_up_ne, xv_up_same] <;> omega) (by omega) (by omega) (by split <;> omega) rfl
/-! working it out -/
def tkOk (t : Int) : Prop := (0 ≤ t ∧ t ≤ 999999) ∨ (-6 ≤ t ∧ t < 0) ∨ t = -42 ∨ t = -43 ∨ t = -45
def fH (tok : Nat → Int) : Nat → Nat
  | 0 => 0
  | i + 1 => if tok i < -6 then fH tok i - 1 else fH tok i + 1
def fWF (tok : Nat → Int) (m : Nat) : Prop := ∀ i, i < m → tkOk (tok i) ∧ (tok i < -6 → 2 ≤ fH tok i) ∧ (¬ tok i < -6 → fH tok i < 20)
def fJn (t : Int) (a b : Int64) : Int64 := if t = -42 then a * b else if t = -43 then a + b else a - b
def fPu (p : Nat → Int64) (j : Nat) (v : Int64) : Nat → Int64 := fun q => if q = j then v else p q
def fVv (lt : Nat → Int64) (t : Int) : Int64 := if t < 0 then lt (-1 - t).toNat else (zi t).toInt64
def fV (tok : Nat → Int) (lt : Nat → Int64) : Nat → Nat → Int64
  | 0 => fun _ => 0
  | i + 1 => if tok i < -6 then fPu (fV tok lt i) (fH tok i - 2) (fJn (tok i) (fV tok lt i (fH tok i - 2)) (fV tok lt i (fH tok i - 1))) else fPu (fV tok lt i) (fH tok i) (fVv lt (tok i))
theorem fH_b {tok : Nat → Int} {m : Nat} (h : fWF tok m) : ∀ i, i ≤ m → fH tok i ≤ 20 ∧ (1 ≤ i → 1 ≤ fH tok i)
  | 0, _ => ⟨by simp [fH], fun h => by omega⟩
  | i + 1, hi => by
    have ih := fH_b h i (by omega)
    have hw := h i (by omega)
    rw [fH]
    split
    · rename_i ht
      have := hw.2.1 ht
      exact ⟨by omega, fun _ => by omega⟩
    · rename_i ht
      have := hw.2.2 ht
      exact ⟨by omega, fun _ => by omega⟩
abbrev fLv (X : q_X) (f : Nat) : Nat → Int64 := fun j => (X (f + 3) j).toInt64
set_option maxHeartbeats 4000000 in
set_option maxRecDepth 100000 in
theorem tX5_put {l : Launch} {g : q_G} {n : Nat} {P : q_P} {X : q_X} {Y : q_Y} {f : Nat} (hf : isFor n P f) {c v : Int} (hc : q_in c) : q_Met l g mX5_put 5 [.ref (g.1 + f), .int (zi c), .int (zi v)] n P X Y (q_gv (fun n' P' X' Y' => n' = n ∧ P' = P ∧ Y' = Y ∧ X' = if f_plc c = -1 then X else q_up X (f + 3) (f_plc c).toNat (zi v))) := by
  obtain ⟨s0, s1, s2, s3, s4, p1, p2, p4, p5, hnf⟩ := id hf
  refine q_enter (L := [(0, .ref (g.1 + f)), (1, .int (zi c)), (2, .int (zi v))]) (by decide) (Nat.le_of_ble_eq_true rfl) rfl ?_
  refine r_iload_n (i := 1) (pc' := 1) dX5_put_0 rfl rfl (.tail _ (.head _)) ?_
  refine r_S1p (pc' := 4) dX5_put_1 rfl lX5_74 (by decide) (Nat.le_of_ble_eq_true rfl) (tX5_placeOf (by first | omega | exact xv_in _ _ _ | exact rd_in _ _)) ?_
  refine r_istore_n (i := 3) (pc' := 5) dX5_put_4 rfl rfl rfl (.s1 (.s1 (.s1 .nil rfl rfl rfl) rfl rfl rfl) rfl rfl rfl) ?_
  have hpb := f_plc_b c
  refine r_iload_n (i := 3) (pc' := 6) dX5_put_5 rfl rfl (.tail _ (.tail _ (.tail _ (.head _)))) ?_
  refine r_iconst (pc' := 7) dX5_put_6 rfl ?_
  refine r_icmp_eq (t := 17) (f := 10) dX5_put_7 (by decide) rfl (by first | omega | exact xv_in _ _ _ | exact rd_in _ _) (by first | omega | exact xv_in _ _ _ | exact rd_in _ _) (fun h7 => ?_) (fun h7 => ?_)
  · refine r_return dX5_put_17 rfl ?_
    refine ⟨rfl, rfl, rfl, rfl, ?_⟩
    first | (rw [if_pos (by omega)]; done) | (rw [if_neg (by omega)]; done)
  · refine r_aload_n (i := 0) (pc' := 11) dX5_put_10 rfl rfl (.head _) ?_
    refine r_getR (pc' := 14) dX5_put_11 rfl fX5_18 rfl (by first | assumption | rfl) (by omega) (by assumption) ?_
    refine r_iload_n (i := 3) (pc' := 15) dX5_put_14 rfl rfl (.tail _ (.tail _ (.tail _ (.head _)))) ?_
    refine r_iload_n (i := 2) (pc' := 16) dX5_put_15 rfl rfl (.tail _ (.tail _ (.head _))) ?_
    refine r_iastore (pc' := 17) dX5_put_16 rfl (by first | assumption | rfl) (by omega) (by omega) (by omega) (by first | decide | omega) rfl ?_
    refine r_return dX5_put_17 rfl ?_
    refine ⟨rfl, rfl, rfl, rfl, ?_⟩
    first | (rw [if_pos (by omega)]; done) | (rw [if_neg (by omega)]; done)
set_option maxHeartbeats 4000000 in
set_option maxRecDepth 100000 in
theorem tX5_join {l : Launch} {g : q_G} {n : Nat} {P : q_P} {X : q_X} {Y : q_Y} {t : Int} {a b : Int64} (ht : q_in t) : q_Met l g mX5_join 0 [.int (zi t), .long a, .long b] n P X Y (q_pv (.long (fJn t a b)) n P X Y) := by
  refine q_enter (L := [(0, .int (zi t)), (1, .long a), (3, .long b)]) (by decide) (Nat.le_of_ble_eq_true rfl) rfl ?_
  refine r_iload_n (i := 0) (pc' := 1) dX5_join_0 rfl rfl (.head _) ?_
  refine r_bipush (pc' := 3) dX5_join_1 rfl (by decide) ?_
  refine r_icmp_ne (t := 10) (f := 6) dX5_join_3 (by decide) rfl (by first | omega | exact xv_in _ _ _ | exact rd_in _ _) (by first | omega | exact xv_in _ _ _ | exact rd_in _ _) (fun h3 => ?_) (fun h3 => ?_)
  · refine r_iload_n (i := 0) (pc' := 11) dX5_join_10 rfl rfl (.head _) ?_
    refine r_bipush (pc' := 13) dX5_join_11 rfl (by decide) ?_
    refine r_icmp_ne (t := 22) (f := 16) dX5_join_13 (by decide) rfl (by first | omega | exact xv_in _ _ _ | exact rd_in _ _) (by first | omega | exact xv_in _ _ _ | exact rd_in _ _) (fun h13 => ?_) (fun h13 => ?_)
    · refine r_lload_n (i := 1) (pc' := 23) dX5_join_22 rfl rfl (.tail _ (.head _)) ?_
      refine r_lload_n (i := 3) (pc' := 24) dX5_join_23 rfl rfl (.tail _ (.tail _ (.head _))) ?_
      refine r_lsub (pc' := 25) dX5_join_24 rfl ?_
      refine r_lreturn dX5_join_25 rfl ?_
      refine ⟨?_, rfl, rfl, rfl, rfl⟩
      rw [fJn]
      first | (rw [if_pos (by omega)]; done) | (rw [if_neg (by omega), if_pos (by omega)]; done) | (rw [if_neg (by omega), if_neg (by omega)]; done)
    · refine r_lload_n (i := 1) (pc' := 17) dX5_join_16 rfl rfl (.tail _ (.head _)) ?_
      refine r_lload_n (i := 3) (pc' := 18) dX5_join_17 rfl rfl (.tail _ (.tail _ (.head _))) ?_
      refine r_ladd (pc' := 19) dX5_join_18 rfl ?_
      refine r_goto (t := 25) dX5_join_19 (by decide) ?_
      refine r_lreturn dX5_join_25 rfl ?_
      refine ⟨?_, rfl, rfl, rfl, rfl⟩
      rw [fJn]
      first | (rw [if_pos (by omega)]; done) | (rw [if_neg (by omega), if_pos (by omega)]; done) | (rw [if_neg (by omega), if_neg (by omega)]; done)
  · refine r_lload_n (i := 1) (pc' := 7) dX5_join_6 rfl rfl (.tail _ (.head _)) ?_
    refine r_lload_n (i := 3) (pc' := 8) dX5_join_7 rfl rfl (.tail _ (.tail _ (.head _))) ?_
    refine r_lmul (pc' := 9) dX5_join_8 rfl ?_
    refine r_lreturn dX5_join_9 rfl ?_
    refine ⟨?_, rfl, rfl, rfl, rfl⟩
    rw [fJn]
    first | (rw [if_pos (by omega)]; done) | (rw [if_neg (by omega), if_pos (by omega)]; done) | (rw [if_neg (by omega), if_neg (by omega)]; done)
