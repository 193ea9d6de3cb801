set_option maxHeartbeats 4000000 in
set_option maxRecDepth 100000 in
theorem tX12_readItem {l : Launch} {g : q_G} {n : Nat} {P : q_P} {X : q_X} {Y : q_Y} (hm : isMod n P) {C : q_X} {d : Nat} (hR : tR C X) (hB : RB C d (xv X 468)) (hA : bA C d) (hd : d + 220 ≤ 441) (hl : xv C 444 1 < xv C 445 1) : q_Met l g mX12_readItem 6 [.ref (g.1 + 467)] n P X Y (q_gi (fun r' n' P' X' Y' => n' = n ∧ P' = P ∧ Y' = Y ∧ ((r' = 1 ∧ uO X X' ∧ tR (rd_exp (rdItem C d) 59) X' ∧ RB (rd_exp (rdItem C d) 59) d (xv X' 468) ∧ bA (rd_exp (rdItem C d) 59) d) ∨ (r' = 0 ∧ uO X X' ∧ tF (rd_exp (rdItem C d) 59) X')))) := by
  have hO := hA.1
  obtain ⟨m0, m2, m3, m8, m9, m14, m15, m16, m17, m18, m20, m22, m25, hnm9⟩ := id hm
  obtain ⟨o0, o1, o2, o3, o4, o5, o6, o10, oc, op0, opz, opi, om0, omi, olim⟩ := id hO
  have hra := hR.a
  have h54 := hR.2.2.2.1
  have hrq := rd_in C (xv C 444 1)
  refine q_enter (L := [(0, .ref (g.1 + 467))]) (by decide) (Nat.le_of_ble_eq_true rfl) rfl ?_
  refine r_aload_n (i := 0) (pc' := 1) dX12_readItem_0 rfl rfl (.head _) ?_
  refine r_V0p (ci := 12) (pc' := 4) dX12_readItem_1 rfl lX12_85 rfl (by decide) (Nat.le_of_ble_eq_true rfl) (by first | assumption | rfl) (by omega) (tX12_here hm (by omega) (by omega)) ?_
  rw [hR.h]
  generalize hch : rd C (xv C 444 1) = ch at hrq ⊢
  refine r_istore_n (i := 1) (pc' := 5) dX12_readItem_4 rfl rfl rfl (.s1 .nil rfl rfl rfl) ?_
  have hcs : ch = 108 ∨ ch = 100 ∨ ch = 99 ∨ ch = 109 ∨ (ch = 112 ∧ xv C d 10 < 40) ∨ (ch = 112 ∧ ¬ xv C d 10 < 40) ∨ (¬ ch = 108 ∧ ¬ ch = 100 ∧ ¬ ch = 99 ∧ ¬ ch = 109 ∧ ¬ ch = 112) := by omega
  rcases hcs with hx | hx | hx | hx | ⟨hx, h40⟩ | ⟨hx, h40⟩ | ⟨n1, n2, n3, n4, n5⟩
  · subst hx
    rw [it_l hch]
    have hR1 := hR.skip hl
    have hB1 : RB (rd_skip C) d (xv (q_up X 467 5 (zi (xv X 467 5 + 1))) 468) := by
      rw [xv_up_row _ _ _ (by omega)]; exact RBcg hB (by omega) (fun q hq => rd_skip_o (by omega))
    have hA1 : bA (rd_skip C) d := bAcg hA (fun q hq => rd_skip_o (by omega))
    have hu1 : uO X (q_up X 467 5 (zi (xv X 467 5 + 1))) := uO.rfl.x (by omega)
    generalize rd_skip C = C1 at hR1 hB1 hA1 ⊢
    have hO1 := hA1.1
    have hT1 := hA1.2.2.1.2
    refine r_iload_n (i := 1) (pc' := 6) dX12_readItem_5 rfl rfl (.tail _ (.head _)) ?_
    refine r_bipush (pc' := 8) dX12_readItem_6 rfl (by decide) ?_
    refine r_icmp_ne (t := 32) (f := 11) dX12_readItem_8 (by decide) rfl (by first | omega | exact xv_in _ _ _) (by first | omega | exact xv_in _ _ _) (fun h8 => ?_) (fun h8 => ?_)
    · refine r_aload_n (i := 0) (pc' := 33) dX12_readItem_32 rfl rfl (.head _) ?_
      refine r_dup (pc' := 34) dX12_readItem_33 rfl rfl ?_
      refine r_getI (pc' := 37) dX12_readItem_34 rfl fX12_82 rfl (by first | assumption | rfl) (by omega) ?_
      refine r_iconst (pc' := 38) dX12_readItem_37 rfl ?_
      refine r_iadd (pc' := 39) dX12_readItem_38 rfl ?_
      refine r_putI (pc' := 42) dX12_readItem_39 rfl fX12_82 rfl (by first | assumption | rfl) (by omega) rfl rfl ?_
      generalize q_up X 467 5 (zi (xv X 467 5 + 1)) = X1 at hR1 hB1 hu1 ⊢
      refine r_iload_n (i := 1) (pc' := 43) dX12_readItem_42 rfl rfl (.tail _ (.head _)) ?_
      refine r_tin (t := 112) (off := 69) dX12_readItem_43 (by omega) (by omega) (by omega) rfl (by decide) ?_
      refine r_aload_n (i := 0) (pc' := 113) dX12_readItem_112 rfl rfl (.head _) ?_
      refine r_V0gi (ci := 12) (pc' := 116) dX12_readItem_113 rfl lX12_140 rfl (by decide) (Nat.le_of_ble_eq_true rfl) (by first | assumption | rfl) (by omega) (tX12_readLimit hm hR1 hB1 hO1 hT1 hd) (fun r113 n113 P113 X113 Y113 e113 le113 => ?_)
      obtain ⟨h1v, h2v, h3v, hq113⟩ := e113
      subst h1v h2v h3v
      rcases hq113 with ⟨hz113, hu113, ht113, hb⟩ | ⟨hz113, hu113, hf⟩
      · subst hz113
        have huA := hu1.trans hu113
        have haA : bA (rdLim C1 d) d := bA_rdLim hd hA1
        generalize rdLim C1 d = C2 at ht113 hb haA ⊢
        refine r_if_eq (t := 132) (f := 119) dX12_readItem_116 (by decide) rfl (by first | omega | exact xv_in _ _ _) (fun h116 => ?_) (fun h116 => ?_)
        · exfalso; omega
        · refine r_aload_n (i := 0) (pc' := 120) dX12_readItem_119 rfl rfl (.head _) ?_
          refine r_bipush (pc' := 122) dX12_readItem_120 rfl (by decide) ?_
          refine r_V1gi (ci := 12) (pc' := 125) dX12_readItem_122 rfl lX12_103 rfl (by decide) (Nat.le_of_ble_eq_true rfl) (by first | assumption | rfl) (by omega) (tT_takes (C := C2) hm ht113 (by omega) (by omega)) (fun r122 n122 P122 X122 Y122 e122 le122 => ?_)
          obtain ⟨h1v, h2v, h3v, hq122⟩ := e122
          subst h1v h2v h3v
          rcases hq122 with ⟨hz122, ho122, ht122⟩ | ⟨hz122, ho122, hf⟩
          · subst hz122
            refine r_if_eq (t := 132) (f := 128) dX12_readItem_125 (by decide) rfl (by first | omega | exact xv_in _ _ _) (fun h125 => ?_) (fun h125 => ?_)
            · exfalso; omega
            · refine r_iconst (pc' := 129) dX12_readItem_128 rfl ?_
              refine r_goto (t := 133) dX12_readItem_129 (by decide) ?_
              refine r_zreturn dX12_readItem_133 rfl (by first | decide | (split <;> omega) | omega) ?_
              exact ⟨_, rfl, rfl, rfl, rfl, Or.inl ⟨rfl, huA.trans ho122.u, ht122, by rw [ho122.v (by omega)]; exact RBcg hb (haA.1.2.2.2.2.2.2.2.1.2) (fun q hq => rd_exp_o (by omega)), bAcg haA (fun q hq => rd_exp_o (by omega))⟩⟩
          · subst hz122
            refine r_if_eq (t := 132) (f := 128) dX12_readItem_125 (by decide) rfl (by first | omega | exact xv_in _ _ _) (fun h125 => ?_) (fun h125 => ?_)
            · refine r_iconst (pc' := 133) dX12_readItem_132 rfl ?_
              refine r_zreturn dX12_readItem_133 rfl (by first | decide | (split <;> omega) | omega) ?_
              exact ⟨_, rfl, rfl, rfl, rfl, Or.inr ⟨rfl, huA.trans ho122.u, hf⟩⟩
            · exfalso; omega
      · subst hz113
        refine r_if_eq (t := 132) (f := 119) dX12_readItem_116 (by decide) rfl (by first | omega | exact xv_in _ _ _) (fun h116 => ?_) (fun h116 => ?_)
        · refine r_iconst (pc' := 133) dX12_readItem_132 rfl ?_
          refine r_zreturn dX12_readItem_133 rfl (by first | decide | (split <;> omega) | omega) ?_
          exact ⟨_, rfl, rfl, rfl, rfl, Or.inr ⟨rfl, hu1.trans hu113, hf.exp 59⟩⟩
        · exfalso; omega
    · exfalso; omega
  · subst hx
    rw [it_d hch]
    have hR1 := hR.skip hl
    have hB1 : RB (rd_skip C) d (xv (q_up X 467 5 (zi (xv X 467 5 + 1))) 468) := by
      rw [xv_up_row _ _ _ (by omega)]; exact RBcg hB (by omega) (fun q hq => rd_skip_o (by omega))
    have hA1 : bA (rd_skip C) d := bAcg hA (fun q hq => rd_skip_o (by omega))
    have hu1 : uO X (q_up X 467 5 (zi (xv X 467 5 + 1))) := uO.rfl.x (by omega)
    generalize rd_skip C = C1 at hR1 hB1 hA1 ⊢
    have hO1 := hA1.1
    have hT1 := hA1.2.2.1.2
    refine r_iload_n (i := 1) (pc' := 6) dX12_readItem_5 rfl rfl (.tail _ (.head _)) ?_
    refine r_bipush (pc' := 8) dX12_readItem_6 rfl (by decide) ?_
    refine r_icmp_ne (t := 32) (f := 11) dX12_readItem_8 (by decide) rfl (by first | omega | exact xv_in _ _ _) (by first | omega | exact xv_in _ _ _) (fun h8 => ?_) (fun h8 => ?_)
    · refine r_aload_n (i := 0) (pc' := 33) dX12_readItem_32 rfl rfl (.head _) ?_
      refine r_dup (pc' := 34) dX12_readItem_33 rfl rfl ?_
      refine r_getI (pc' := 37) dX12_readItem_34 rfl fX12_82 rfl (by first | assumption | rfl) (by omega) ?_
      refine r_iconst (pc' := 38) dX12_readItem_37 rfl ?_
      refine r_iadd (pc' := 39) dX12_readItem_38 rfl ?_
      refine r_putI (pc' := 42) dX12_readItem_39 rfl fX12_82 rfl (by first | assumption | rfl) (by omega) rfl rfl ?_
      generalize q_up X 467 5 (zi (xv X 467 5 + 1)) = X1 at hR1 hB1 hu1 ⊢
      refine r_iload_n (i := 1) (pc' := 43) dX12_readItem_42 rfl rfl (.tail _ (.head _)) ?_
      refine r_tin (t := 134) (off := 91) dX12_readItem_43 (by omega) (by omega) (by omega) rfl (by decide) ?_
      refine r_aload_n (i := 0) (pc' := 135) dX12_readItem_134 rfl rfl (.head _) ?_
      refine r_V0gi (ci := 12) (pc' := 138) dX12_readItem_135 rfl lX12_144 rfl (by decide) (Nat.le_of_ble_eq_true rfl) (by first | assumption | rfl) (by omega) (tX12_readDays hm hR1 hB1 hO1 hT1 hd) (fun r135 n135 P135 X135 Y135 e135 le135 => ?_)
      obtain ⟨h1v, h2v, h3v, hq135⟩ := e135
      subst h1v h2v h3v
      rcases hq135 with ⟨hz135, hu135, ht135, hb⟩ | ⟨hz135, hu135, hf⟩
      · subst hz135
        have huA := hu1.trans hu135
        have haA : bA (rdDays C1 d) d := bA_rdDays hd hA1
        generalize rdDays C1 d = C2 at ht135 hb haA ⊢
        refine r_if_eq (t := 154) (f := 141) dX12_readItem_138 (by decide) rfl (by first | omega | exact xv_in _ _ _) (fun h138 => ?_) (fun h138 => ?_)
        · exfalso; omega
        · refine r_aload_n (i := 0) (pc' := 142) dX12_readItem_141 rfl rfl (.head _) ?_
          refine r_bipush (pc' := 144) dX12_readItem_142 rfl (by decide) ?_
          refine r_V1gi (ci := 12) (pc' := 147) dX12_readItem_144 rfl lX12_103 rfl (by decide) (Nat.le_of_ble_eq_true rfl) (by first | assumption | rfl) (by omega) (tT_takes (C := C2) hm ht135 (by omega) (by omega)) (fun r144 n144 P144 X144 Y144 e144 le144 => ?_)
          obtain ⟨h1v, h2v, h3v, hq144⟩ := e144
          subst h1v h2v h3v
          rcases hq144 with ⟨hz144, ho144, ht144⟩ | ⟨hz144, ho144, hf⟩
          · subst hz144
            refine r_if_eq (t := 154) (f := 150) dX12_readItem_147 (by decide) rfl (by first | omega | exact xv_in _ _ _) (fun h147 => ?_) (fun h147 => ?_)
            · exfalso; omega
            · refine r_iconst (pc' := 151) dX12_readItem_150 rfl ?_
              refine r_goto (t := 155) dX12_readItem_151 (by decide) ?_
              refine r_zreturn dX12_readItem_155 rfl (by first | decide | (split <;> omega) | omega) ?_
              exact ⟨_, rfl, rfl, rfl, rfl, Or.inl ⟨rfl, huA.trans ho144.u, ht144, by rw [ho144.v (by omega)]; exact RBcg hb (haA.1.2.2.2.2.2.2.2.1.2) (fun q hq => rd_exp_o (by omega)), bAcg haA (fun q hq => rd_exp_o (by omega))⟩⟩
          · subst hz144
            refine r_if_eq (t := 154) (f := 150) dX12_readItem_147 (by decide) rfl (by first | omega | exact xv_in _ _ _) (fun h147 => ?_) (fun h147 => ?_)
            · refine r_iconst (pc' := 155) dX12_readItem_154 rfl ?_
              refine r_zreturn dX12_readItem_155 rfl (by first | decide | (split <;> omega) | omega) ?_
              exact ⟨_, rfl, rfl, rfl, rfl, Or.inr ⟨rfl, huA.trans ho144.u, hf⟩⟩
            · exfalso; omega
      · subst hz135
        refine r_if_eq (t := 154) (f := 141) dX12_readItem_138 (by decide) rfl (by first | omega | exact xv_in _ _ _) (fun h138 => ?_) (fun h138 => ?_)
        · refine r_iconst (pc' := 155) dX12_readItem_154 rfl ?_
          refine r_zreturn dX12_readItem_155 rfl (by first | decide | (split <;> omega) | omega) ?_
          exact ⟨_, rfl, rfl, rfl, rfl, Or.inr ⟨rfl, hu1.trans hu135, hf.exp 59⟩⟩
        · exfalso; omega
    · exfalso; omega
  · subst hx
    rw [it_c hch]
    have hR1 := hR.skip hl
    have hB1 : RB (rd_skip C) d (xv (q_up X 467 5 (zi (xv X 467 5 + 1))) 468) := by
      rw [xv_up_row _ _ _ (by omega)]; exact RBcg hB (by omega) (fun q hq => rd_skip_o (by omega))
    have hA1 : bA (rd_skip C) d := bAcg hA (fun q hq => rd_skip_o (by omega))
    have hu1 : uO X (q_up X 467 5 (zi (xv X 467 5 + 1))) := uO.rfl.x (by omega)
    generalize rd_skip C = C1 at hR1 hB1 hA1 ⊢
    have hO1 := hA1.1
    have hT1 := hA1.2.2.1.2
    refine r_iload_n (i := 1) (pc' := 6) dX12_readItem_5 rfl rfl (.tail _ (.head _)) ?_
    refine r_bipush (pc' := 8) dX12_readItem_6 rfl (by decide) ?_
    refine r_icmp_ne (t := 32) (f := 11) dX12_readItem_8 (by decide) rfl (by first | omega | exact xv_in _ _ _) (by first | omega | exact xv_in _ _ _) (fun h8 => ?_) (fun h8 => ?_)
    · refine r_aload_n (i := 0) (pc' := 33) dX12_readItem_32 rfl rfl (.head _) ?_
      refine r_dup (pc' := 34) dX12_readItem_33 rfl rfl ?_
      refine r_getI (pc' := 37) dX12_readItem_34 rfl fX12_82 rfl (by first | assumption | rfl) (by omega) ?_
      refine r_iconst (pc' := 38) dX12_readItem_37 rfl ?_
      refine r_iadd (pc' := 39) dX12_readItem_38 rfl ?_
      refine r_putI (pc' := 42) dX12_readItem_39 rfl fX12_82 rfl (by first | assumption | rfl) (by omega) rfl rfl ?_
      generalize q_up X 467 5 (zi (xv X 467 5 + 1)) = X1 at hR1 hB1 hu1 ⊢
      refine r_iload_n (i := 1) (pc' := 43) dX12_readItem_42 rfl rfl (.tail _ (.head _)) ?_
      refine r_tin (t := 156) (off := 113) dX12_readItem_43 (by omega) (by omega) (by omega) rfl (by decide) ?_
      refine r_aload_n (i := 0) (pc' := 157) dX12_readItem_156 rfl rfl (.head _) ?_
      refine r_iconst (pc' := 158) dX12_readItem_157 rfl ?_
      refine r_iconst (pc' := 159) dX12_readItem_158 rfl ?_
      refine r_bipush (pc' := 161) dX12_readItem_159 rfl (by decide) ?_
      refine r_V3gi (ci := 12) (pc' := 164) dX12_readItem_161 rfl lX12_107 rfl (by decide) (Nat.le_of_ble_eq_true rfl) (by first | assumption | rfl) (by omega) (tX12_reads (C := C1) hm hR1 (by omega) (by omega) (to := 5) (by omega)) (fun r161 n161 P161 X161 Y161 e161 le161 => ?_)
      obtain ⟨h1v, h2v, h3v, hq161⟩ := e161
      subst h1v h2v h3v
      rcases hq161 with ⟨hz161, Xa, ho161, hXa, hta, hb1, hb2⟩ | ⟨hz161, ho161, hf⟩
      · subst hz161
        have huA : uO X X161 := by rw [hXa]; exact (hu1.trans ho161.u).up (by omega)
        have ht161 : tR (rdCnt C1 d) X161 := by rw [hXa]; exact (hta.up _ _).cg (xv_up_row _ _ _ (by omega)) (xv_up_row _ _ _ (by omega)) (xv_up_row _ _ _ (by omega))
        have hBa : RB C1 d (xv Xa 468) := by rw [ho161.v (by omega)]; exact hB1
        have hb : RB (rdCnt C1 d) d (xv X161 468) := by
          rw [hXa]
          exact RBcg (hBa.uz (j := 5) (by omega) (zi (rd_numV C1 1 40))) (by rw [xv_up_ne _ _ (by omega)]; exact hO1.2.2.2.2.2.2.2.1.2) (fun q hq => xv_ru (rd_num_o (by omega)))
        have haA : bA (rdCnt C1 d) d := bA_rdCnt hd hA1 hb1
        clear hXa hta hb1 hb2
        generalize rdCnt C1 d = C2 at ht161 hb haA ⊢
        refine r_if_eq (t := 180) (f := 167) dX12_readItem_164 (by decide) rfl (by first | omega | exact xv_in _ _ _) (fun h164 => ?_) (fun h164 => ?_)
        · exfalso; omega
        · refine r_aload_n (i := 0) (pc' := 168) dX12_readItem_167 rfl rfl (.head _) ?_
          refine r_bipush (pc' := 170) dX12_readItem_168 rfl (by decide) ?_
          refine r_V1gi (ci := 12) (pc' := 173) dX12_readItem_170 rfl lX12_103 rfl (by decide) (Nat.le_of_ble_eq_true rfl) (by first | assumption | rfl) (by omega) (tT_takes (C := C2) hm ht161 (by omega) (by omega)) (fun r170 n170 P170 X170 Y170 e170 le170 => ?_)
          obtain ⟨h1v, h2v, h3v, hq170⟩ := e170
          subst h1v h2v h3v
          rcases hq170 with ⟨hz170, ho170, ht170⟩ | ⟨hz170, ho170, hf⟩
          · subst hz170
            refine r_if_eq (t := 180) (f := 176) dX12_readItem_173 (by decide) rfl (by first | omega | exact xv_in _ _ _) (fun h173 => ?_) (fun h173 => ?_)
            · exfalso; omega
            · refine r_iconst (pc' := 177) dX12_readItem_176 rfl ?_
              refine r_goto (t := 181) dX12_readItem_177 (by decide) ?_
              refine r_zreturn dX12_readItem_181 rfl (by first | decide | (split <;> omega) | omega) ?_
              exact ⟨_, rfl, rfl, rfl, rfl, Or.inl ⟨rfl, huA.trans ho170.u, ht170, by rw [ho170.v (by omega)]; exact RBcg hb (haA.1.2.2.2.2.2.2.2.1.2) (fun q hq => rd_exp_o (by omega)), bAcg haA (fun q hq => rd_exp_o (by omega))⟩⟩
          · subst hz170
            refine r_if_eq (t := 180) (f := 176) dX12_readItem_173 (by decide) rfl (by first | omega | exact xv_in _ _ _) (fun h173 => ?_) (fun h173 => ?_)
            · refine r_iconst (pc' := 181) dX12_readItem_180 rfl ?_
              refine r_zreturn dX12_readItem_181 rfl (by first | decide | (split <;> omega) | omega) ?_
              exact ⟨_, rfl, rfl, rfl, rfl, Or.inr ⟨rfl, huA.trans ho170.u, hf⟩⟩
            · exfalso; omega
      · subst hz161
        refine r_if_eq (t := 180) (f := 167) dX12_readItem_164 (by decide) rfl (by first | omega | exact xv_in _ _ _) (fun h164 => ?_) (fun h164 => ?_)
        · refine r_iconst (pc' := 181) dX12_readItem_180 rfl ?_
          refine r_zreturn dX12_readItem_181 rfl (by first | decide | (split <;> omega) | omega) ?_
          exact ⟨_, rfl, rfl, rfl, rfl, Or.inr ⟨rfl, hu1.trans ho161.u, ((hf.up (a := d) (by omega) 5 (zi (rd_numV C1 1 40))).exp 59)⟩⟩
        · exfalso; omega
    · exfalso; omega
  · subst hx
    rw [it_m hch]
    have hR1 := hR.skip hl
    have hB1 : RB (rd_skip C) d (xv (q_up X 467 5 (zi (xv X 467 5 + 1))) 468) := by
      rw [xv_up_row _ _ _ (by omega)]; exact RBcg hB (by omega) (fun q hq => rd_skip_o (by omega))
    have hA1 : bA (rd_skip C) d := bAcg hA (fun q hq => rd_skip_o (by omega))
    have hu1 : uO X (q_up X 467 5 (zi (xv X 467 5 + 1))) := uO.rfl.x (by omega)
    generalize rd_skip C = C1 at hR1 hB1 hA1 ⊢
    have hO1 := hA1.1
    have hT1 := hA1.2.2.1.2
    refine r_iload_n (i := 1) (pc' := 6) dX12_readItem_5 rfl rfl (.tail _ (.head _)) ?_
    refine r_bipush (pc' := 8) dX12_readItem_6 rfl (by decide) ?_
    refine r_icmp_ne (t := 32) (f := 11) dX12_readItem_8 (by decide) rfl (by first | omega | exact xv_in _ _ _) (by first | omega | exact xv_in _ _ _) (fun h8 => ?_) (fun h8 => ?_)
    · refine r_aload_n (i := 0) (pc' := 33) dX12_readItem_32 rfl rfl (.head _) ?_
      refine r_dup (pc' := 34) dX12_readItem_33 rfl rfl ?_
      refine r_getI (pc' := 37) dX12_readItem_34 rfl fX12_82 rfl (by first | assumption | rfl) (by omega) ?_
      refine r_iconst (pc' := 38) dX12_readItem_37 rfl ?_
      refine r_iadd (pc' := 39) dX12_readItem_38 rfl ?_
      refine r_putI (pc' := 42) dX12_readItem_39 rfl fX12_82 rfl (by first | assumption | rfl) (by omega) rfl rfl ?_
      generalize q_up X 467 5 (zi (xv X 467 5 + 1)) = X1 at hR1 hB1 hu1 ⊢
      refine r_iload_n (i := 1) (pc' := 43) dX12_readItem_42 rfl rfl (.tail _ (.head _)) ?_
      refine r_tin (t := 182) (off := 139) dX12_readItem_43 (by omega) (by omega) (by omega) rfl (by decide) ?_
      refine r_aload_n (i := 0) (pc' := 183) dX12_readItem_182 rfl rfl (.head _) ?_
      refine r_bipush (pc' := 185) dX12_readItem_183 rfl (by decide) ?_
      refine r_iconst (pc' := 186) dX12_readItem_185 rfl ?_
      refine r_sipush (pc' := 189) dX12_readItem_186 rfl (by decide) ?_
      refine r_V3gi (ci := 12) (pc' := 192) dX12_readItem_189 rfl lX12_107 rfl (by decide) (Nat.le_of_ble_eq_true rfl) (by first | assumption | rfl) (by omega) (tX12_reads (C := C1) hm hR1 (by omega) (by omega) (to := 6) (by omega)) (fun r189 n189 P189 X189 Y189 e189 le189 => ?_)
      obtain ⟨h1v, h2v, h3v, hq189⟩ := e189
      subst h1v h2v h3v
      rcases hq189 with ⟨hz189, Xa, ho189, hXa, hta, hb1, hb2⟩ | ⟨hz189, ho189, hf⟩
      · subst hz189
        have huA : uO X X189 := by rw [hXa]; exact (hu1.trans ho189.u).up (by omega)
        have ht189 : tR (rdLea C1 d) X189 := by rw [hXa]; exact (hta.up _ _).cg (xv_up_row _ _ _ (by omega)) (xv_up_row _ _ _ (by omega)) (xv_up_row _ _ _ (by omega))
        have hBa : RB C1 d (xv Xa 468) := by rw [ho189.v (by omega)]; exact hB1
        have hb : RB (rdLea C1 d) d (xv X189 468) := by
          rw [hXa]
          exact RBcg (hBa.uz (j := 6) (by omega) (zi (rd_numV C1 0 9999))) (by rw [xv_up_ne _ _ (by omega)]; exact hO1.2.2.2.2.2.2.2.1.2) (fun q hq => xv_ru (rd_num_o (by omega)))
        have haA : bA (rdLea C1 d) d := bA_rdLea hd hA1
        clear hXa hta hb1 hb2
        generalize rdLea C1 d = C2 at ht189 hb haA ⊢
        refine r_if_eq (t := 208) (f := 195) dX12_readItem_192 (by decide) rfl (by first | omega | exact xv_in _ _ _) (fun h192 => ?_) (fun h192 => ?_)
        · exfalso; omega
        · refine r_aload_n (i := 0) (pc' := 196) dX12_readItem_195 rfl rfl (.head _) ?_
          refine r_bipush (pc' := 198) dX12_readItem_196 rfl (by decide) ?_
          refine r_V1gi (ci := 12) (pc' := 201) dX12_readItem_198 rfl lX12_103 rfl (by decide) (Nat.le_of_ble_eq_true rfl) (by first | assumption | rfl) (by omega) (tT_takes (C := C2) hm ht189 (by omega) (by omega)) (fun r198 n198 P198 X198 Y198 e198 le198 => ?_)
          obtain ⟨h1v, h2v, h3v, hq198⟩ := e198
          subst h1v h2v h3v
          rcases hq198 with ⟨hz198, ho198, ht198⟩ | ⟨hz198, ho198, hf⟩
          · subst hz198
            refine r_if_eq (t := 208) (f := 204) dX12_readItem_201 (by decide) rfl (by first | omega | exact xv_in _ _ _) (fun h201 => ?_) (fun h201 => ?_)
            · exfalso; omega
            · refine r_iconst (pc' := 205) dX12_readItem_204 rfl ?_
              refine r_goto (t := 209) dX12_readItem_205 (by decide) ?_
              refine r_zreturn dX12_readItem_209 rfl (by first | decide | (split <;> omega) | omega) ?_
              exact ⟨_, rfl, rfl, rfl, rfl, Or.inl ⟨rfl, huA.trans ho198.u, ht198, by rw [ho198.v (by omega)]; exact RBcg hb (haA.1.2.2.2.2.2.2.2.1.2) (fun q hq => rd_exp_o (by omega)), bAcg haA (fun q hq => rd_exp_o (by omega))⟩⟩
          · subst hz198
            refine r_if_eq (t := 208) (f := 204) dX12_readItem_201 (by decide) rfl (by first | omega | exact xv_in _ _ _) (fun h201 => ?_) (fun h201 => ?_)
            · refine r_iconst (pc' := 209) dX12_readItem_208 rfl ?_
              refine r_zreturn dX12_readItem_209 rfl (by first | decide | (split <;> omega) | omega) ?_
              exact ⟨_, rfl, rfl, rfl, rfl, Or.inr ⟨rfl, huA.trans ho198.u, hf⟩⟩
            · exfalso; omega
      · subst hz189
        refine r_if_eq (t := 208) (f := 195) dX12_readItem_192 (by decide) rfl (by first | omega | exact xv_in _ _ _) (fun h192 => ?_) (fun h192 => ?_)
        · refine r_iconst (pc' := 209) dX12_readItem_208 rfl ?_
          refine r_zreturn dX12_readItem_209 rfl (by first | decide | (split <;> omega) | omega) ?_
          exact ⟨_, rfl, rfl, rfl, rfl, Or.inr ⟨rfl, hu1.trans ho189.u, ((hf.up (a := d) (by omega) 6 (zi (rd_numV C1 0 9999))).exp 59)⟩⟩
        · exfalso; omega
    · exfalso; omega
  · subst hx
    rw [it_p hch h40]
    have hR1 := hR.skip hl
    have hB1 : RB (rd_skip C) d (xv (q_up X 467 5 (zi (xv X 467 5 + 1))) 468) := by
      rw [xv_up_row _ _ _ (by omega)]; exact RBcg hB (by omega) (fun q hq => rd_skip_o (by omega))
    have hA1 : bA (rd_skip C) d := bAcg hA (fun q hq => rd_skip_o (by omega))
    have hu1 : uO X (q_up X 467 5 (zi (xv X 467 5 + 1))) := uO.rfl.x (by omega)
    have h41 : xv (rd_skip C) d 10 < 40 := by rw [rd_skip_o (by omega)]; exact h40
    generalize rd_skip C = C1 at hR1 hB1 hA1 h41 ⊢
    have hO1 := hA1.1
    have hT1 := hA1.2.2.1.2
    refine r_iload_n (i := 1) (pc' := 6) dX12_readItem_5 rfl rfl (.tail _ (.head _)) ?_
    refine r_bipush (pc' := 8) dX12_readItem_6 rfl (by decide) ?_
    refine r_icmp_ne (t := 32) (f := 11) dX12_readItem_8 (by decide) rfl (by first | omega | exact xv_in _ _ _) (by first | omega | exact xv_in _ _ _) (fun h8 => ?_) (fun h8 => ?_)
    · exfalso; omega
    · refine r_aload_n (i := 0) (pc' := 12) dX12_readItem_11 rfl rfl (.head _) ?_
      refine r_getR (pc' := 15) dX12_readItem_12 rfl fX12_3 rfl (by first | assumption | rfl) (by omega) (by assumption) ?_
      refine r_bipush (pc' := 17) dX12_readItem_15 rfl (by decide) ?_
      refine r_iaload (pc' := 18) dX12_readItem_17 rfl (by first | assumption | rfl) (by omega) (by omega) (by omega) (by first | decide | omega) (show Int.toNat 7 = 7 from rfl) ?_
      rw [hB.m]
      refine r_bipush (pc' := 20) dX12_readItem_18 rfl (by decide) ?_
      refine r_icmp_ne (t := 32) (f := 23) dX12_readItem_20 (by decide) rfl (by first | omega | exact xv_in _ _ _) (by first | omega | exact xv_in _ _ _) (fun h20 => ?_) (fun h20 => ?_)
      · refine r_aload_n (i := 0) (pc' := 33) dX12_readItem_32 rfl rfl (.head _) ?_
        refine r_dup (pc' := 34) dX12_readItem_33 rfl rfl ?_
        refine r_getI (pc' := 37) dX12_readItem_34 rfl fX12_82 rfl (by first | assumption | rfl) (by omega) ?_
        refine r_iconst (pc' := 38) dX12_readItem_37 rfl ?_
        refine r_iadd (pc' := 39) dX12_readItem_38 rfl ?_
        refine r_putI (pc' := 42) dX12_readItem_39 rfl fX12_82 rfl (by first | assumption | rfl) (by omega) rfl rfl ?_
        generalize q_up X 467 5 (zi (xv X 467 5 + 1)) = X1 at hR1 hB1 hu1 ⊢
        refine r_iload_n (i := 1) (pc' := 43) dX12_readItem_42 rfl rfl (.tail _ (.head _)) ?_
        refine r_tin (t := 210) (off := 167) dX12_readItem_43 (by omega) (by omega) (by omega) rfl (by decide) ?_
        refine r_aload_n (i := 0) (pc' := 211) dX12_readItem_210 rfl rfl (.head _) ?_
        refine r_V0gi (ci := 12) (pc' := 214) dX12_readItem_211 rfl lX12_147 rfl (by decide) (Nat.le_of_ble_eq_true rfl) (by first | assumption | rfl) (by omega) (tX12_readContract hm hR1 hB1 hA1 hd h41) (fun r211 n211 P211 X211 Y211 e211 le211 => ?_)
        obtain ⟨h1v, h2v, h3v, hq211⟩ := e211
        subst h1v h2v h3v
        rcases hq211 with ⟨hz211, hu211, ht211, hb, haA⟩ | ⟨hz211, hu211, hf⟩
        · subst hz211
          have huA := hu1.trans hu211
          generalize rdCon C1 d = C2 at ht211 hb haA ⊢
          refine r_if_eq (t := 230) (f := 217) dX12_readItem_214 (by decide) rfl (by first | omega | exact xv_in _ _ _) (fun h214 => ?_) (fun h214 => ?_)
          · exfalso; omega
          · refine r_aload_n (i := 0) (pc' := 218) dX12_readItem_217 rfl rfl (.head _) ?_
            refine r_bipush (pc' := 220) dX12_readItem_218 rfl (by decide) ?_
            refine r_V1gi (ci := 12) (pc' := 223) dX12_readItem_220 rfl lX12_103 rfl (by decide) (Nat.le_of_ble_eq_true rfl) (by first | assumption | rfl) (by omega) (tT_takes (C := C2) hm ht211 (by omega) (by omega)) (fun r220 n220 P220 X220 Y220 e220 le220 => ?_)
            obtain ⟨h1v, h2v, h3v, hq220⟩ := e220
            subst h1v h2v h3v
            rcases hq220 with ⟨hz220, ho220, ht220⟩ | ⟨hz220, ho220, hf⟩
            · subst hz220
              refine r_if_eq (t := 230) (f := 226) dX12_readItem_223 (by decide) rfl (by first | omega | exact xv_in _ _ _) (fun h223 => ?_) (fun h223 => ?_)
              · exfalso; omega
              · refine r_iconst (pc' := 227) dX12_readItem_226 rfl ?_
                refine r_goto (t := 231) dX12_readItem_227 (by decide) ?_
                refine r_zreturn dX12_readItem_231 rfl (by first | decide | (split <;> omega) | omega) ?_
                exact ⟨_, rfl, rfl, rfl, rfl, Or.inl ⟨rfl, huA.trans ho220.u, ht220, by rw [ho220.v (by omega)]; exact RBcg hb (haA.1.2.2.2.2.2.2.2.1.2) (fun q hq => rd_exp_o (by omega)), bAcg haA (fun q hq => rd_exp_o (by omega))⟩⟩
            · subst hz220
              refine r_if_eq (t := 230) (f := 226) dX12_readItem_223 (by decide) rfl (by first | omega | exact xv_in _ _ _) (fun h223 => ?_) (fun h223 => ?_)
              · refine r_iconst (pc' := 231) dX12_readItem_230 rfl ?_
                refine r_zreturn dX12_readItem_231 rfl (by first | decide | (split <;> omega) | omega) ?_
                exact ⟨_, rfl, rfl, rfl, rfl, Or.inr ⟨rfl, huA.trans ho220.u, hf⟩⟩
              · exfalso; omega
        · subst hz211
          refine r_if_eq (t := 230) (f := 217) dX12_readItem_214 (by decide) rfl (by first | omega | exact xv_in _ _ _) (fun h214 => ?_) (fun h214 => ?_)
          · refine r_iconst (pc' := 231) dX12_readItem_230 rfl ?_
            refine r_zreturn dX12_readItem_231 rfl (by first | decide | (split <;> omega) | omega) ?_
            exact ⟨_, rfl, rfl, rfl, rfl, Or.inr ⟨rfl, hu1.trans hu211, hf.exp 59⟩⟩
          · exfalso; omega
      · exfalso; omega
  · subst hx
    rw [it_p4 hch h40]
    have hff := (hR.fail (z := xv C 444 1) (by omega)).exp 59
    refine r_iload_n (i := 1) (pc' := 6) dX12_readItem_5 rfl rfl (.tail _ (.head _)) ?_
    refine r_bipush (pc' := 8) dX12_readItem_6 rfl (by decide) ?_
    refine r_icmp_ne (t := 32) (f := 11) dX12_readItem_8 (by decide) rfl (by first | omega | exact xv_in _ _ _) (by first | omega | exact xv_in _ _ _) (fun h8 => ?_) (fun h8 => ?_)
    · exfalso; omega
    · refine r_aload_n (i := 0) (pc' := 12) dX12_readItem_11 rfl rfl (.head _) ?_
      refine r_getR (pc' := 15) dX12_readItem_12 rfl fX12_3 rfl (by first | assumption | rfl) (by omega) (by assumption) ?_
      refine r_bipush (pc' := 17) dX12_readItem_15 rfl (by decide) ?_
      refine r_iaload (pc' := 18) dX12_readItem_17 rfl (by first | assumption | rfl) (by omega) (by omega) (by omega) (by first | decide | omega) (show Int.toNat 7 = 7 from rfl) ?_
      rw [hB.m]
      refine r_bipush (pc' := 20) dX12_readItem_18 rfl (by decide) ?_
      refine r_icmp_ne (t := 32) (f := 23) dX12_readItem_20 (by decide) rfl (by first | omega | exact xv_in _ _ _) (by first | omega | exact xv_in _ _ _) (fun h20 => ?_) (fun h20 => ?_)
      · exfalso; omega
      · refine r_aload_n (i := 0) (pc' := 24) dX12_readItem_23 rfl rfl (.head _) ?_
        refine r_aload_n (i := 0) (pc' := 25) dX12_readItem_24 rfl rfl (.head _) ?_
        refine r_getI (pc' := 28) dX12_readItem_25 rfl fX12_82 rfl (by first | assumption | rfl) (by omega) ?_
        rw [h54]
        refine r_V1gi (ci := 12) (pc' := 31) dX12_readItem_28 rfl lX12_89 rfl (by decide) (Nat.le_of_ble_eq_true rfl) (by first | assumption | rfl) (by omega) (tX12_fails hm) (fun r28 n28 P28 X28 Y28 e28 le28 => ?_)
        obtain ⟨h1v, h2v, h3v, h4v, hr28⟩ := e28
        subst h1v h2v h3v h4v hr28
        refine r_zreturn dX12_readItem_31 rfl (by first | decide | (split <;> omega) | omega) ?_
        exact ⟨_, rfl, rfl, rfl, rfl, Or.inr ⟨rfl, uO.rfl.x (by omega), hff⟩⟩
  · rw [it_n (by rw [hch]; exact n1) (by rw [hch]; exact n2) (by rw [hch]; exact n3) (by rw [hch]; exact n4) (by rw [hch]; exact n5)]
    have hff0 := (hR.fail (z := xv C 444 1) (by omega)).exp 59
    refine r_iload_n (i := 1) (pc' := 6) dX12_readItem_5 rfl rfl (.tail _ (.head _)) ?_
    refine r_bipush (pc' := 8) dX12_readItem_6 rfl (by decide) ?_
    refine r_icmp_ne (t := 32) (f := 11) dX12_readItem_8 (by decide) rfl (by first | omega | exact xv_in _ _ _) (by first | omega | exact xv_in _ _ _) (fun h8 => ?_) (fun h8 => ?_)
    · refine r_aload_n (i := 0) (pc' := 33) dX12_readItem_32 rfl rfl (.head _) ?_
      refine r_dup (pc' := 34) dX12_readItem_33 rfl rfl ?_
      refine r_getI (pc' := 37) dX12_readItem_34 rfl fX12_82 rfl (by first | assumption | rfl) (by omega) ?_
      refine r_iconst (pc' := 38) dX12_readItem_37 rfl ?_
      refine r_iadd (pc' := 39) dX12_readItem_38 rfl ?_
      refine r_putI (pc' := 42) dX12_readItem_39 rfl fX12_82 rfl (by first | assumption | rfl) (by omega) rfl rfl ?_
      refine r_iload_n (i := 1) (pc' := 43) dX12_readItem_42 rfl rfl (.tail _ (.head _)) ?_
      have hK : q_Tr l g mX12_readItem 6 (q_gi (fun r' n' P' X' Y' => n' = n ∧ P' = P ∧ Y' = Y ∧ ((r' = 1 ∧ uO X X' ∧ tR (rd_exp (rd_fail C (xv C 444 1)) 59) X' ∧ RB (rd_exp (rd_fail C (xv C 444 1)) 59) d (xv X' 468) ∧ bA (rd_exp (rd_fail C (xv C 444 1)) 59) d) ∨ (r' = 0 ∧ uO X X' ∧ tF (rd_exp (rd_fail C (xv C 444 1)) 59) X')))) 232 [(0, .ref (g.1 + 467)), (1, .int (zi ch))] [] n P (q_up X 467 5 (zi (xv X 467 5 + 1))) Y := by
        refine r_aload_n (i := 0) (pc' := 233) dX12_readItem_232 rfl rfl (.head _) ?_
        refine r_aload_n (i := 0) (pc' := 234) dX12_readItem_233 rfl rfl (.head _) ?_
        refine r_getI (pc' := 237) dX12_readItem_234 rfl fX12_82 rfl (by first | assumption | rfl) (by omega) ?_
        rw [xv_up_same _ _ _ (by omega), h54]
        refine r_iconst (pc' := 238) dX12_readItem_237 rfl ?_
        refine r_isub (pc' := 239) dX12_readItem_238 rfl ?_
        rw [show xv C 444 1 + 1 - 1 = xv C 444 1 by omega]
        refine r_V1gi (ci := 12) (pc' := 242) dX12_readItem_239 rfl lX12_89 rfl (by decide) (Nat.le_of_ble_eq_true rfl) (by first | assumption | rfl) (by omega) (tX12_fails hm) (fun r239 n239 P239 X239 Y239 e239 le239 => ?_)
        obtain ⟨h1v, h2v, h3v, h4v, hr239⟩ := e239
        subst h1v h2v h3v h4v hr239
        refine r_zreturn dX12_readItem_242 rfl (by first | decide | (split <;> omega) | omega) ?_
        have e2 := hff0.2
        rw [xv_up_same _ _ _ (by omega)] at e2
        exact ⟨_, rfl, rfl, rfl, rfl, Or.inr ⟨rfl, (uO.rfl.x (by omega)).x (by omega), hff0.1, by rw [xv_up_same _ _ _ (by omega)]; exact e2⟩⟩
      by_cases hs43 : ch < 99 ∨ 112 < ch
      · exact r_tout (t := 232) dX12_readItem_43 (by omega) hs43 (by decide) hK
      · have hc43 : ch = 101 ∨ ch = 102 ∨ ch = 103 ∨ ch = 104 ∨ ch = 105 ∨ ch = 106 ∨ ch = 107 ∨ ch = 110 ∨ ch = 111 := by omega
        rcases hc43 with h | h | h | h | h | h | h | h | h <;> (subst h; exact r_tin (t := 232) (off := 189) dX12_readItem_43 (by omega) (by omega) (by omega) rfl (by decide) hK)
    · exfalso; omega
