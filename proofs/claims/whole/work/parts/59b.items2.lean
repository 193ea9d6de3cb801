theorem rOk.pay {X : q_X} (h : rOk X) {d c i : Nat} (hc : c + 1 ≠ 444 ∧ c + 2 ≠ 444 ∧ c + 1 ≠ 445 ∧ c + 2 ≠ 445) : rOk (rdPay X d c i) := by
  rw [rdPay]
  exact (((h.exp (c := 58) (by omega)).N (xv X d 6) 99999).num 0 99999).of (c_put_o _ _ _ _ _ (by omega)) (c_put_o _ _ _ _ _ (by omega))
theorem rOk.pays {X : q_X} (h : rOk X) {d c : Nat} (hc : c + 1 ≠ 444 ∧ c + 2 ≠ 444 ∧ c + 1 ≠ 445 ∧ c + 2 ≠ 445) : ∀ i, rOk (rdPays X d c i)
  | 0 => h
  | i + 1 => (h.pays hc i).pay hc
theorem rdCon_d {X : q_X} {d : Nat} (hd : dOk X d) (h40 : xv X d 10 < 40) (hda : d < 440 ∨ 481 ≤ d) (j : Nat) : xv (rdCon X d) d j = if j = 10 then xv X d 10 + 1 else xv X d j := by
  have hrc := rdc_b (X := X) (d := d)
  have h6 : xv (rd6 X d) d j = if j = 10 then xv X d 10 + 1 else xv X d j := by
    rw [rd6]
    by_cases e : j = 10
    · subst e; rw [if_pos rfl, xv_up_same _ _ _ (by have := hd.2.2; omega)]
    · rw [if_neg e, xv_up_ne _ _ (by omega), rd5_o (by omega)]
  rw [rdCon]; split
  · rw [rdPays_o (by omega), rd8, c_spread_o _ _ _ _ (by omega), rd7, c_start_o _ _ _ _ _ _ (by omega), h6]
  · exact h6
theorem rOk.cnt {X : q_X} (h : rOk X) {d : Nat} (hd : dOk X d) (h40 : xv X d 10 < 40) (hda : d + 220 ≤ 441 ∨ 481 ≤ d) : rOk (rdCon X d) := by
  have hrc := rdc_b (X := X) (d := d)
  have hcd2 : rdc X d + 5 ≤ d + 220 := by have := hd.2.2; unfold rdc con; omega
  have h5 : rOk (rd5 X d) := ((((h.N _ _).N _ _).N _ _).N _ _).num _ _
  rw [rdCon]; split
  · exact (h5.of (rd8_r (Or.inl rfl) (by omega) (by omega)) (rd8_r (Or.inr rfl) (by omega) (by omega))).pays (by omega) _
  · exact h5.up (by omega)
theorem dItem {X : q_X} {d : Nat} (ho : rOk X) (hm : rMore X) (hd : dOk X d) (hda : (1 ≤ d ∧ d + 220 ≤ 441) ∨ 481 ≤ d) : rOk (rdItem X d) ∧ dOk (rdItem X d) d := by
  have hos := ho.skip hm.2
  have hds : dOk (rd_skip X) d := hd.of (rd_skip_o (by omega))
  have es : xv (rd_skip X) d = xv X d := rd_skip_o (by omega)
  unfold rdItem
  (repeat' split)
  · exact ⟨ho.fail _, hd.of (rd_fail_o (by omega))⟩
  · refine ⟨((hos.N _ _).num _ _).up (by omega), hds.of ?_⟩
    rw [rdLim, xv_up_row _ _ _ (by omega), rd_num_o (by omega), rdN_o (by omega)]
  · refine ⟨(((((hos.N _ _).up (by omega)).N _ _).up (by omega)).num _ _).up (by omega), ?_⟩
    unfold dOk at hds ⊢
    unfold rdDays rdDa3 rdDa2 rdDa1
    simp (disch := omega) only [xv_up_ne, rd_num_o, rdN_o]
    exact hds
  · refine ⟨(hos.num _ _).up (by omega), ?_⟩
    unfold dOk at hds ⊢
    unfold rdCnt
    simp (disch := omega) only [xv_up_ne, rd_num_o, rdN_o]
    exact hds
  · refine ⟨(hos.num _ _).up (by omega), ?_⟩
    have hv := rd_numV_b (X := rd_skip X) (lo := 0) (hi := 9999) (by omega)
    unfold dOk at hds ⊢
    unfold rdLea
    rw [xv_up_same _ _ _ (by omega)]
    simp (disch := omega) only [xv_up_ne, rd_num_o, rdN_o]
    exact ⟨hds.1, hv, hds.2.2⟩
  · have h4 : xv (rd_skip X) d 10 < 40 := by rw [es]; omega
    refine ⟨hos.cnt hds h4 (by omega), ?_⟩
    have e := rdCon_d hds h4 (by omega)
    unfold dOk at hds ⊢
    rw [e, e, e, if_neg (by omega), if_neg (by omega), if_pos rfl]
    exact ⟨hds.1, hds.2.1, by omega⟩
  · exact ⟨ho.fail _, hd.of (rd_fail_o (by omega))⟩
theorem dOk.exp {X : q_X} {d : Nat} (h : dOk X d) (hd : d ≠ 444) (c : Int) : dOk (rd_exp X c) d := h.of (rd_exp_o hd)
set_option maxHeartbeats 4000000 in
set_option maxRecDepth 100000 in
theorem iX9_readItem {l : Launch} {g : q_G} {n : Nat} {P : q_P} {X : q_X} {Y : q_Y} {d : Nat} (hr : isRd n P) (ho : rOk X) (hb : isBk n P d) (hd : dOk X d) (hda : (1 ≤ d ∧ d + 220 ≤ 441) ∨ 481 ≤ d) (hm : rMore X) (hnot : ¬ (rd X (xv X 444 1) = 112 ∧ 40 ≤ xv X d 10)) : q_Tr l g mX9_readItem 5 (q_gv (fun n' P' X' Y' => n' = n ∧ P' = P ∧ Y' = Y ∧ X' = rdItem X d)) 29 [(0, .ref (g.1 + 444)), (1, .ref (g.1 + d)), (2, .int (zi (rd X (xv X 444 1))))] [] n P X Y := by
  obtain ⟨ho1, ho2, ho3⟩ := id ho
  obtain ⟨d0, d6, d10⟩ := id hd
  obtain ⟨r0, r1, hnr⟩ := id hr
  obtain ⟨b0, b1, b2, b3, q7, q8, q9, q11, q12, q13, hn, hpro, hmar, hfor, hcs⟩ := id hb
  refine r_iload_n (i := 2) (pc' := 30) dX9_readItem_29 rfl rfl (.tail _ (.tail _ (.head _))) ?_
  by_cases hs30 : rd X (xv X 444 1) < 99 ∨ 112 < rd X (xv X 444 1)
  · refine r_tout (t := 204) dX9_readItem_30 (by first | omega | exact xv_in _ _ _ | exact rd_in _ _) hs30 (by decide) ?_
    refine r_aload_n (i := 0) (pc' := 205) dX9_readItem_204 rfl rfl (.head _) ?_
    refine r_aload_n (i := 0) (pc' := 206) dX9_readItem_205 rfl rfl (.head _) ?_
    refine r_getI (pc' := 209) dX9_readItem_206 rfl fX9_24 rfl (by first | assumption | rfl) (by omega) ?_
    refine r_V1gv (ci := 9) (pc' := 212) dX9_readItem_209 rfl lX9_41 rfl (by decide) (Nat.le_of_ble_eq_true rfl) (by first | assumption | rfl) (by omega) (tX9_fail hr) (fun n209 P209 X209 Y209 e209 le209 => ?_)
    obtain ⟨hg1_209, hg2_209, hg3_209, hg4_209⟩ := e209
    have g1_209 := Eq.symm hg1_209
    have g2_209 := Eq.symm hg2_209
    have g3_209 := Eq.symm hg3_209
    have g4_209 := Eq.symm hg4_209
    clear hg1_209 hg2_209 hg3_209 hg4_209
    subst g1_209 g2_209 g3_209 g4_209
    refine r_return dX9_readItem_212 rfl ?_
    refine ⟨rfl, rfl, rfl, rfl, ?_⟩
    rw [rdItem, if_neg hnot]
    first
      | (rw [if_pos (by omega)] <;> rfl)
      | (rw [if_neg (by omega), if_pos (by omega)] <;> rfl)
      | (rw [if_neg (by omega), if_neg (by omega), if_pos (by omega)] <;> rfl)
      | (rw [if_neg (by omega), if_neg (by omega), if_neg (by omega), if_pos (by omega)] <;> rfl)
      | (rw [if_neg (by omega), if_neg (by omega), if_neg (by omega), if_neg (by omega), if_pos (by omega)] <;> rfl)
      | (rw [if_neg (by omega), if_neg (by omega), if_neg (by omega), if_neg (by omega), if_neg (by omega)] <;> rfl)
  · have hc30 : rd X (xv X 444 1) = 99 ∨ rd X (xv X 444 1) = 100 ∨ rd X (xv X 444 1) = 101 ∨ rd X (xv X 444 1) = 102 ∨ rd X (xv X 444 1) = 103 ∨ rd X (xv X 444 1) = 104 ∨ rd X (xv X 444 1) = 105 ∨ rd X (xv X 444 1) = 106 ∨ rd X (xv X 444 1) = 107 ∨ rd X (xv X 444 1) = 108 ∨ rd X (xv X 444 1) = 109 ∨ rd X (xv X 444 1) = 110 ∨ rd X (xv X 444 1) = 111 ∨ rd X (xv X 444 1) = 112 := by omega
    rcases hc30 with hc30 | hc30 | hc30 | hc30 | hc30 | hc30 | hc30 | hc30 | hc30 | hc30 | hc30 | hc30 | hc30 | hc30
    · refine r_tin (t := 155) (off := 125) dX9_readItem_30 (by first | omega | exact xv_in _ _ _ | exact rd_in _ _) (by omega) (by omega) (by rw [hc30]; rfl) (by decide) ?_
      refine r_aload_n (i := 0) (pc' := 156) dX9_readItem_155 rfl rfl (.head _) ?_
      refine r_V0gv (ci := 9) (pc' := 159) dX9_readItem_156 rfl lX9_62 rfl (by decide) (Nat.le_of_ble_eq_true rfl) (by first | assumption | rfl) (by omega) (tX9_skip hr) (fun n156 P156 X156 Y156 e156 le156 => ?_)
      obtain ⟨hg1_156, hg2_156, hg3_156, hg4_156⟩ := e156
      have g1_156 := Eq.symm hg1_156
      have g2_156 := Eq.symm hg2_156
      have g3_156 := Eq.symm hg3_156
      have g4_156 := Eq.symm hg4_156
      clear hg1_156 hg2_156 hg3_156 hg4_156
      subst g1_156 g2_156 g3_156 g4_156
      have hos := ho.skip hm.2
      have hds : dOk (rd_skip X) d := hd.of (rd_skip_o (by omega))
      have es : xv (rd_skip X) d = xv X d := rd_skip_o (by omega)
      refine r_aload_n (i := 1) (pc' := 160) dX9_readItem_159 rfl rfl (.tail _ (.head _)) ?_
      refine r_aload_n (i := 0) (pc' := 161) dX9_readItem_160 rfl rfl (.head _) ?_
      refine r_iconst (pc' := 162) dX9_readItem_161 rfl ?_
      refine r_bipush (pc' := 164) dX9_readItem_162 rfl (by decide) ?_
      refine r_V2gi (ci := 9) (pc' := 167) dX9_readItem_164 rfl lX9_44 rfl (by decide) (Nat.le_of_ble_eq_true rfl) (by first | assumption | rfl) (by omega) (tX9_number hr (by have := (hos).1; have := (hos).2; omega) (by omega) (by omega)) (fun r164 n164 P164 X164 Y164 e164 le164 => ?_)
      obtain ⟨hg1_164, hg2_164, hg3_164, hg4_164, hg5_164⟩ := e164
      have g1_164 := Eq.symm hg1_164
      have g2_164 := Eq.symm hg2_164
      have g3_164 := Eq.symm hg3_164
      have g4_164 := Eq.symm hg4_164
      have g5_164 := Eq.symm hg5_164
      clear hg1_164 hg2_164 hg3_164 hg4_164 hg5_164
      subst g1_164 g2_164 g3_164 g4_164 g5_164
      refine r_putI (pc' := 170) dX9_readItem_167 rfl fX9_80 rfl (by first | assumption | rfl) (by omega) rfl rfl ?_
      refine r_goto (t := 212) dX9_readItem_170 (by decide) ?_
      refine r_return dX9_readItem_212 rfl ?_
      refine ⟨rfl, rfl, rfl, rfl, ?_⟩
      rw [rdItem, if_neg hnot]
      first
        | (rw [if_pos (by omega)] <;> rfl)
        | (rw [if_neg (by omega), if_pos (by omega)] <;> rfl)
        | (rw [if_neg (by omega), if_neg (by omega), if_pos (by omega)] <;> rfl)
        | (rw [if_neg (by omega), if_neg (by omega), if_neg (by omega), if_pos (by omega)] <;> rfl)
        | (rw [if_neg (by omega), if_neg (by omega), if_neg (by omega), if_neg (by omega), if_pos (by omega)] <;> rfl)
        | (rw [if_neg (by omega), if_neg (by omega), if_neg (by omega), if_neg (by omega), if_neg (by omega)] <;> rfl)
    · refine r_tin (t := 112) (off := 82) dX9_readItem_30 (by first | omega | exact xv_in _ _ _ | exact rd_in _ _) (by omega) (by omega) (by rw [hc30]; rfl) (by decide) ?_
      refine r_aload_n (i := 0) (pc' := 113) dX9_readItem_112 rfl rfl (.head _) ?_
      refine r_V0gv (ci := 9) (pc' := 116) dX9_readItem_113 rfl lX9_62 rfl (by decide) (Nat.le_of_ble_eq_true rfl) (by first | assumption | rfl) (by omega) (tX9_skip hr) (fun n113 P113 X113 Y113 e113 le113 => ?_)
      obtain ⟨hg1_113, hg2_113, hg3_113, hg4_113⟩ := e113
      have g1_113 := Eq.symm hg1_113
      have g2_113 := Eq.symm hg2_113
      have g3_113 := Eq.symm hg3_113
      have g4_113 := Eq.symm hg4_113
      clear hg1_113 hg2_113 hg3_113 hg4_113
      subst g1_113 g2_113 g3_113 g4_113
      have hos := ho.skip hm.2
      have hds : dOk (rd_skip X) d := hd.of (rd_skip_o (by omega))
      have es : xv (rd_skip X) d = xv X d := rd_skip_o (by omega)
      refine r_aload_n (i := 1) (pc' := 117) dX9_readItem_116 rfl rfl (.tail _ (.head _)) ?_
      refine r_aload_n (i := 0) (pc' := 118) dX9_readItem_117 rfl rfl (.head _) ?_
      refine r_iconst (pc' := 119) dX9_readItem_118 rfl ?_
      refine r_sipush (pc' := 122) dX9_readItem_119 rfl (by decide) ?_
      refine r_V2gi (ci := 9) (pc' := 125) dX9_readItem_122 rfl lX9_68 rfl (by decide) (Nat.le_of_ble_eq_true rfl) (by first | assumption | rfl) (by omega) (tX9_numberAndComma hr hos (by omega) (by omega)) (fun r122 n122 P122 X122 Y122 e122 le122 => ?_)
      obtain ⟨hg1_122, hg2_122, hg3_122, hg4_122, hg5_122⟩ := e122
      have g1_122 := Eq.symm hg1_122
      have g2_122 := Eq.symm hg2_122
      have g3_122 := Eq.symm hg3_122
      have g4_122 := Eq.symm hg4_122
      have g5_122 := Eq.symm hg5_122
      clear hg1_122 hg2_122 hg3_122 hg4_122 hg5_122
      subst g1_122 g2_122 g3_122 g4_122 g5_122
      refine r_putI (pc' := 128) dX9_readItem_125 rfl fX9_71 rfl (by first | assumption | rfl) (by omega) rfl rfl ?_
      change q_Tr _ _ _ _ _ _ _ _ _ _ (rdDa1 (rd_skip X) d) _
      have hx2 : rOk (rdDa1 (rd_skip X) d) := (hos.N _ _).up (by omega)
      refine r_aload_n (i := 1) (pc' := 129) dX9_readItem_128 rfl rfl (.tail _ (.head _)) ?_
      refine r_aload_n (i := 0) (pc' := 130) dX9_readItem_129 rfl rfl (.head _) ?_
      refine r_iconst (pc' := 131) dX9_readItem_130 rfl ?_
      refine r_sipush (pc' := 134) dX9_readItem_131 rfl (by decide) ?_
      refine r_V2gi (ci := 9) (pc' := 137) dX9_readItem_134 rfl lX9_68 rfl (by decide) (Nat.le_of_ble_eq_true rfl) (by first | assumption | rfl) (by omega) (tX9_numberAndComma hr hx2 (by omega) (by omega)) (fun r134 n134 P134 X134 Y134 e134 le134 => ?_)
      obtain ⟨hg1_134, hg2_134, hg3_134, hg4_134, hg5_134⟩ := e134
      have g1_134 := Eq.symm hg1_134
      have g2_134 := Eq.symm hg2_134
      have g3_134 := Eq.symm hg3_134
      have g4_134 := Eq.symm hg4_134
      have g5_134 := Eq.symm hg5_134
      clear hg1_134 hg2_134 hg3_134 hg4_134 hg5_134
      subst g1_134 g2_134 g3_134 g4_134 g5_134
      refine r_putI (pc' := 140) dX9_readItem_137 rfl fX9_74 rfl (by first | assumption | rfl) (by omega) rfl rfl ?_
      change q_Tr _ _ _ _ _ _ _ _ _ _ (rdDa2 (rdDa1 (rd_skip X) d) d) _
      have hx3 : rOk (rdDa2 (rdDa1 (rd_skip X) d) d) := (hx2.N _ _).up (by omega)
      refine r_aload_n (i := 1) (pc' := 141) dX9_readItem_140 rfl rfl (.tail _ (.head _)) ?_
      refine r_aload_n (i := 0) (pc' := 142) dX9_readItem_141 rfl rfl (.head _) ?_
      refine r_iconst (pc' := 143) dX9_readItem_142 rfl ?_
      refine r_sipush (pc' := 146) dX9_readItem_143 rfl (by decide) ?_
      refine r_V2gi (ci := 9) (pc' := 149) dX9_readItem_146 rfl lX9_44 rfl (by decide) (Nat.le_of_ble_eq_true rfl) (by first | assumption | rfl) (by omega) (tX9_number hr (by have := (hx3).1; have := (hx3).2; omega) (by omega) (by omega)) (fun r146 n146 P146 X146 Y146 e146 le146 => ?_)
      obtain ⟨hg1_146, hg2_146, hg3_146, hg4_146, hg5_146⟩ := e146
      have g1_146 := Eq.symm hg1_146
      have g2_146 := Eq.symm hg2_146
      have g3_146 := Eq.symm hg3_146
      have g4_146 := Eq.symm hg4_146
      have g5_146 := Eq.symm hg5_146
      clear hg1_146 hg2_146 hg3_146 hg4_146 hg5_146
      subst g1_146 g2_146 g3_146 g4_146 g5_146
      refine r_putI (pc' := 152) dX9_readItem_149 rfl fX9_77 rfl (by first | assumption | rfl) (by omega) rfl rfl ?_
      refine r_goto (t := 212) dX9_readItem_152 (by decide) ?_
      refine r_return dX9_readItem_212 rfl ?_
      refine ⟨rfl, rfl, rfl, rfl, ?_⟩
      rw [rdItem, if_neg hnot]
      first
        | (rw [if_pos (by omega)] <;> rfl)
        | (rw [if_neg (by omega), if_pos (by omega)] <;> rfl)
        | (rw [if_neg (by omega), if_neg (by omega), if_pos (by omega)] <;> rfl)
        | (rw [if_neg (by omega), if_neg (by omega), if_neg (by omega), if_pos (by omega)] <;> rfl)
        | (rw [if_neg (by omega), if_neg (by omega), if_neg (by omega), if_neg (by omega), if_pos (by omega)] <;> rfl)
        | (rw [if_neg (by omega), if_neg (by omega), if_neg (by omega), if_neg (by omega), if_neg (by omega)] <;> rfl)
    · refine r_tin (t := 204) (off := 174) dX9_readItem_30 (by first | omega | exact xv_in _ _ _ | exact rd_in _ _) (by omega) (by omega) (by rw [hc30]; rfl) (by decide) ?_
      refine r_aload_n (i := 0) (pc' := 205) dX9_readItem_204 rfl rfl (.head _) ?_
      refine r_aload_n (i := 0) (pc' := 206) dX9_readItem_205 rfl rfl (.head _) ?_
      refine r_getI (pc' := 209) dX9_readItem_206 rfl fX9_24 rfl (by first | assumption | rfl) (by omega) ?_
      refine r_V1gv (ci := 9) (pc' := 212) dX9_readItem_209 rfl lX9_41 rfl (by decide) (Nat.le_of_ble_eq_true rfl) (by first | assumption | rfl) (by omega) (tX9_fail hr) (fun n209 P209 X209 Y209 e209 le209 => ?_)
      obtain ⟨hg1_209, hg2_209, hg3_209, hg4_209⟩ := e209
      have g1_209 := Eq.symm hg1_209
      have g2_209 := Eq.symm hg2_209
      have g3_209 := Eq.symm hg3_209
      have g4_209 := Eq.symm hg4_209
      clear hg1_209 hg2_209 hg3_209 hg4_209
      subst g1_209 g2_209 g3_209 g4_209
      refine r_return dX9_readItem_212 rfl ?_
      refine ⟨rfl, rfl, rfl, rfl, ?_⟩
      rw [rdItem, if_neg hnot]
      first
        | (rw [if_pos (by omega)] <;> rfl)
        | (rw [if_neg (by omega), if_pos (by omega)] <;> rfl)
        | (rw [if_neg (by omega), if_neg (by omega), if_pos (by omega)] <;> rfl)
        | (rw [if_neg (by omega), if_neg (by omega), if_neg (by omega), if_pos (by omega)] <;> rfl)
        | (rw [if_neg (by omega), if_neg (by omega), if_neg (by omega), if_neg (by omega), if_pos (by omega)] <;> rfl)
        | (rw [if_neg (by omega), if_neg (by omega), if_neg (by omega), if_neg (by omega), if_neg (by omega)] <;> rfl)
    · refine r_tin (t := 204) (off := 174) dX9_readItem_30 (by first | omega | exact xv_in _ _ _ | exact rd_in _ _) (by omega) (by omega) (by rw [hc30]; rfl) (by decide) ?_
      refine r_aload_n (i := 0) (pc' := 205) dX9_readItem_204 rfl rfl (.head _) ?_
      refine r_aload_n (i := 0) (pc' := 206) dX9_readItem_205 rfl rfl (.head _) ?_
      refine r_getI (pc' := 209) dX9_readItem_206 rfl fX9_24 rfl (by first | assumption | rfl) (by omega) ?_
      refine r_V1gv (ci := 9) (pc' := 212) dX9_readItem_209 rfl lX9_41 rfl (by decide) (Nat.le_of_ble_eq_true rfl) (by first | assumption | rfl) (by omega) (tX9_fail hr) (fun n209 P209 X209 Y209 e209 le209 => ?_)
      obtain ⟨hg1_209, hg2_209, hg3_209, hg4_209⟩ := e209
      have g1_209 := Eq.symm hg1_209
      have g2_209 := Eq.symm hg2_209
      have g3_209 := Eq.symm hg3_209
      have g4_209 := Eq.symm hg4_209
      clear hg1_209 hg2_209 hg3_209 hg4_209
      subst g1_209 g2_209 g3_209 g4_209
      refine r_return dX9_readItem_212 rfl ?_
      refine ⟨rfl, rfl, rfl, rfl, ?_⟩
      rw [rdItem, if_neg hnot]
      first
        | (rw [if_pos (by omega)] <;> rfl)
        | (rw [if_neg (by omega), if_pos (by omega)] <;> rfl)
        | (rw [if_neg (by omega), if_neg (by omega), if_pos (by omega)] <;> rfl)
        | (rw [if_neg (by omega), if_neg (by omega), if_neg (by omega), if_pos (by omega)] <;> rfl)
        | (rw [if_neg (by omega), if_neg (by omega), if_neg (by omega), if_neg (by omega), if_pos (by omega)] <;> rfl)
        | (rw [if_neg (by omega), if_neg (by omega), if_neg (by omega), if_neg (by omega), if_neg (by omega)] <;> rfl)
    · refine r_tin (t := 204) (off := 174) dX9_readItem_30 (by first | omega | exact xv_in _ _ _ | exact rd_in _ _) (by omega) (by omega) (by rw [hc30]; rfl) (by decide) ?_
      refine r_aload_n (i := 0) (pc' := 205) dX9_readItem_204 rfl rfl (.head _) ?_
      refine r_aload_n (i := 0) (pc' := 206) dX9_readItem_205 rfl rfl (.head _) ?_
      refine r_getI (pc' := 209) dX9_readItem_206 rfl fX9_24 rfl (by first | assumption | rfl) (by omega) ?_
      refine r_V1gv (ci := 9) (pc' := 212) dX9_readItem_209 rfl lX9_41 rfl (by decide) (Nat.le_of_ble_eq_true rfl) (by first | assumption | rfl) (by omega) (tX9_fail hr) (fun n209 P209 X209 Y209 e209 le209 => ?_)
      obtain ⟨hg1_209, hg2_209, hg3_209, hg4_209⟩ := e209
      have g1_209 := Eq.symm hg1_209
      have g2_209 := Eq.symm hg2_209
      have g3_209 := Eq.symm hg3_209
      have g4_209 := Eq.symm hg4_209
      clear hg1_209 hg2_209 hg3_209 hg4_209
      subst g1_209 g2_209 g3_209 g4_209
      refine r_return dX9_readItem_212 rfl ?_
      refine ⟨rfl, rfl, rfl, rfl, ?_⟩
      rw [rdItem, if_neg hnot]
      first
        | (rw [if_pos (by omega)] <;> rfl)
        | (rw [if_neg (by omega), if_pos (by omega)] <;> rfl)
        | (rw [if_neg (by omega), if_neg (by omega), if_pos (by omega)] <;> rfl)
        | (rw [if_neg (by omega), if_neg (by omega), if_neg (by omega), if_pos (by omega)] <;> rfl)
        | (rw [if_neg (by omega), if_neg (by omega), if_neg (by omega), if_neg (by omega), if_pos (by omega)] <;> rfl)
        | (rw [if_neg (by omega), if_neg (by omega), if_neg (by omega), if_neg (by omega), if_neg (by omega)] <;> rfl)
    · refine r_tin (t := 204) (off := 174) dX9_readItem_30 (by first | omega | exact xv_in _ _ _ | exact rd_in _ _) (by omega) (by omega) (by rw [hc30]; rfl) (by decide) ?_
      refine r_aload_n (i := 0) (pc' := 205) dX9_readItem_204 rfl rfl (.head _) ?_
      refine r_aload_n (i := 0) (pc' := 206) dX9_readItem_205 rfl rfl (.head _) ?_
      refine r_getI (pc' := 209) dX9_readItem_206 rfl fX9_24 rfl (by first | assumption | rfl) (by omega) ?_
      refine r_V1gv (ci := 9) (pc' := 212) dX9_readItem_209 rfl lX9_41 rfl (by decide) (Nat.le_of_ble_eq_true rfl) (by first | assumption | rfl) (by omega) (tX9_fail hr) (fun n209 P209 X209 Y209 e209 le209 => ?_)
      obtain ⟨hg1_209, hg2_209, hg3_209, hg4_209⟩ := e209
      have g1_209 := Eq.symm hg1_209
      have g2_209 := Eq.symm hg2_209
      have g3_209 := Eq.symm hg3_209
      have g4_209 := Eq.symm hg4_209
      clear hg1_209 hg2_209 hg3_209 hg4_209
      subst g1_209 g2_209 g3_209 g4_209
      refine r_return dX9_readItem_212 rfl ?_
      refine ⟨rfl, rfl, rfl, rfl, ?_⟩
      rw [rdItem, if_neg hnot]
      first
        | (rw [if_pos (by omega)] <;> rfl)
        | (rw [if_neg (by omega), if_pos (by omega)] <;> rfl)
        | (rw [if_neg (by omega), if_neg (by omega), if_pos (by omega)] <;> rfl)
        | (rw [if_neg (by omega), if_neg (by omega), if_neg (by omega), if_pos (by omega)] <;> rfl)
        | (rw [if_neg (by omega), if_neg (by omega), if_neg (by omega), if_neg (by omega), if_pos (by omega)] <;> rfl)
        | (rw [if_neg (by omega), if_neg (by omega), if_neg (by omega), if_neg (by omega), if_neg (by omega)] <;> rfl)
    · refine r_tin (t := 204) (off := 174) dX9_readItem_30 (by first | omega | exact xv_in _ _ _ | exact rd_in _ _) (by omega) (by omega) (by rw [hc30]; rfl) (by decide) ?_
      refine r_aload_n (i := 0) (pc' := 205) dX9_readItem_204 rfl rfl (.head _) ?_
      refine r_aload_n (i := 0) (pc' := 206) dX9_readItem_205 rfl rfl (.head _) ?_
      refine r_getI (pc' := 209) dX9_readItem_206 rfl fX9_24 rfl (by first | assumption | rfl) (by omega) ?_
      refine r_V1gv (ci := 9) (pc' := 212) dX9_readItem_209 rfl lX9_41 rfl (by decide) (Nat.le_of_ble_eq_true rfl) (by first | assumption | rfl) (by omega) (tX9_fail hr) (fun n209 P209 X209 Y209 e209 le209 => ?_)
      obtain ⟨hg1_209, hg2_209, hg3_209, hg4_209⟩ := e209
      have g1_209 := Eq.symm hg1_209
      have g2_209 := Eq.symm hg2_209
      have g3_209 := Eq.symm hg3_209
      have g4_209 := Eq.symm hg4_209
      clear hg1_209 hg2_209 hg3_209 hg4_209
      subst g1_209 g2_209 g3_209 g4_209
      refine r_return dX9_readItem_212 rfl ?_
      refine ⟨rfl, rfl, rfl, rfl, ?_⟩
      rw [rdItem, if_neg hnot]
      first
        | (rw [if_pos (by omega)] <;> rfl)
        | (rw [if_neg (by omega), if_pos (by omega)] <;> rfl)
        | (rw [if_neg (by omega), if_neg (by omega), if_pos (by omega)] <;> rfl)
        | (rw [if_neg (by omega), if_neg (by omega), if_neg (by omega), if_pos (by omega)] <;> rfl)
        | (rw [if_neg (by omega), if_neg (by omega), if_neg (by omega), if_neg (by omega), if_pos (by omega)] <;> rfl)
        | (rw [if_neg (by omega), if_neg (by omega), if_neg (by omega), if_neg (by omega), if_neg (by omega)] <;> rfl)
    · refine r_tin (t := 204) (off := 174) dX9_readItem_30 (by first | omega | exact xv_in _ _ _ | exact rd_in _ _) (by omega) (by omega) (by rw [hc30]; rfl) (by decide) ?_
      refine r_aload_n (i := 0) (pc' := 205) dX9_readItem_204 rfl rfl (.head _) ?_
      refine r_aload_n (i := 0) (pc' := 206) dX9_readItem_205 rfl rfl (.head _) ?_
      refine r_getI (pc' := 209) dX9_readItem_206 rfl fX9_24 rfl (by first | assumption | rfl) (by omega) ?_
      refine r_V1gv (ci := 9) (pc' := 212) dX9_readItem_209 rfl lX9_41 rfl (by decide) (Nat.le_of_ble_eq_true rfl) (by first | assumption | rfl) (by omega) (tX9_fail hr) (fun n209 P209 X209 Y209 e209 le209 => ?_)
      obtain ⟨hg1_209, hg2_209, hg3_209, hg4_209⟩ := e209
      have g1_209 := Eq.symm hg1_209
      have g2_209 := Eq.symm hg2_209
      have g3_209 := Eq.symm hg3_209
      have g4_209 := Eq.symm hg4_209
      clear hg1_209 hg2_209 hg3_209 hg4_209
      subst g1_209 g2_209 g3_209 g4_209
      refine r_return dX9_readItem_212 rfl ?_
      refine ⟨rfl, rfl, rfl, rfl, ?_⟩
      rw [rdItem, if_neg hnot]
      first
        | (rw [if_pos (by omega)] <;> rfl)
        | (rw [if_neg (by omega), if_pos (by omega)] <;> rfl)
        | (rw [if_neg (by omega), if_neg (by omega), if_pos (by omega)] <;> rfl)
        | (rw [if_neg (by omega), if_neg (by omega), if_neg (by omega), if_pos (by omega)] <;> rfl)
        | (rw [if_neg (by omega), if_neg (by omega), if_neg (by omega), if_neg (by omega), if_pos (by omega)] <;> rfl)
        | (rw [if_neg (by omega), if_neg (by omega), if_neg (by omega), if_neg (by omega), if_neg (by omega)] <;> rfl)
    · refine r_tin (t := 204) (off := 174) dX9_readItem_30 (by first | omega | exact xv_in _ _ _ | exact rd_in _ _) (by omega) (by omega) (by rw [hc30]; rfl) (by decide) ?_
      refine r_aload_n (i := 0) (pc' := 205) dX9_readItem_204 rfl rfl (.head _) ?_
      refine r_aload_n (i := 0) (pc' := 206) dX9_readItem_205 rfl rfl (.head _) ?_
      refine r_getI (pc' := 209) dX9_readItem_206 rfl fX9_24 rfl (by first | assumption | rfl) (by omega) ?_
      refine r_V1gv (ci := 9) (pc' := 212) dX9_readItem_209 rfl lX9_41 rfl (by decide) (Nat.le_of_ble_eq_true rfl) (by first | assumption | rfl) (by omega) (tX9_fail hr) (fun n209 P209 X209 Y209 e209 le209 => ?_)
      obtain ⟨hg1_209, hg2_209, hg3_209, hg4_209⟩ := e209
      have g1_209 := Eq.symm hg1_209
      have g2_209 := Eq.symm hg2_209
      have g3_209 := Eq.symm hg3_209
      have g4_209 := Eq.symm hg4_209
      clear hg1_209 hg2_209 hg3_209 hg4_209
      subst g1_209 g2_209 g3_209 g4_209
      refine r_return dX9_readItem_212 rfl ?_
      refine ⟨rfl, rfl, rfl, rfl, ?_⟩
      rw [rdItem, if_neg hnot]
      first
        | (rw [if_pos (by omega)] <;> rfl)
        | (rw [if_neg (by omega), if_pos (by omega)] <;> rfl)
        | (rw [if_neg (by omega), if_neg (by omega), if_pos (by omega)] <;> rfl)
        | (rw [if_neg (by omega), if_neg (by omega), if_neg (by omega), if_pos (by omega)] <;> rfl)
        | (rw [if_neg (by omega), if_neg (by omega), if_neg (by omega), if_neg (by omega), if_pos (by omega)] <;> rfl)
        | (rw [if_neg (by omega), if_neg (by omega), if_neg (by omega), if_neg (by omega), if_neg (by omega)] <;> rfl)
    · refine r_tin (t := 100) (off := 70) dX9_readItem_30 (by first | omega | exact xv_in _ _ _ | exact rd_in _ _) (by omega) (by omega) (by rw [hc30]; rfl) (by decide) ?_
      refine r_aload_n (i := 0) (pc' := 101) dX9_readItem_100 rfl rfl (.head _) ?_
      refine r_V0gv (ci := 9) (pc' := 104) dX9_readItem_101 rfl lX9_62 rfl (by decide) (Nat.le_of_ble_eq_true rfl) (by first | assumption | rfl) (by omega) (tX9_skip hr) (fun n101 P101 X101 Y101 e101 le101 => ?_)
      obtain ⟨hg1_101, hg2_101, hg3_101, hg4_101⟩ := e101
      have g1_101 := Eq.symm hg1_101
      have g2_101 := Eq.symm hg2_101
      have g3_101 := Eq.symm hg3_101
      have g4_101 := Eq.symm hg4_101
      clear hg1_101 hg2_101 hg3_101 hg4_101
      subst g1_101 g2_101 g3_101 g4_101
      have hos := ho.skip hm.2
      have hds : dOk (rd_skip X) d := hd.of (rd_skip_o (by omega))
      have es : xv (rd_skip X) d = xv X d := rd_skip_o (by omega)
      refine r_aload_n (i := 0) (pc' := 105) dX9_readItem_104 rfl rfl (.head _) ?_
      refine r_aload_n (i := 1) (pc' := 106) dX9_readItem_105 rfl rfl (.tail _ (.head _)) ?_
      refine r_V1gv (ci := 9) (pc' := 109) dX9_readItem_106 rfl lX9_65 rfl (by decide) (Nat.le_of_ble_eq_true rfl) (by first | assumption | rfl) (by omega) (tX9_readLimit hr hos hb hds hda) (fun n106 P106 X106 Y106 e106 le106 => ?_)
      obtain ⟨hg1_106, hg2_106, hg3_106, hg4_106⟩ := e106
      have g1_106 := Eq.symm hg1_106
      have g2_106 := Eq.symm hg2_106
      have g3_106 := Eq.symm hg3_106
      have g4_106 := Eq.symm hg4_106
      clear hg1_106 hg2_106 hg3_106 hg4_106
      subst g1_106 g2_106 g3_106 g4_106
      refine r_goto (t := 212) dX9_readItem_109 (by decide) ?_
      refine r_return dX9_readItem_212 rfl ?_
      refine ⟨rfl, rfl, rfl, rfl, ?_⟩
      rw [rdItem, if_neg hnot]
      first
        | (rw [if_pos (by omega)] <;> rfl)
        | (rw [if_neg (by omega), if_pos (by omega)] <;> rfl)
        | (rw [if_neg (by omega), if_neg (by omega), if_pos (by omega)] <;> rfl)
        | (rw [if_neg (by omega), if_neg (by omega), if_neg (by omega), if_pos (by omega)] <;> rfl)
        | (rw [if_neg (by omega), if_neg (by omega), if_neg (by omega), if_neg (by omega), if_pos (by omega)] <;> rfl)
        | (rw [if_neg (by omega), if_neg (by omega), if_neg (by omega), if_neg (by omega), if_neg (by omega)] <;> rfl)
    · refine r_tin (t := 173) (off := 143) dX9_readItem_30 (by first | omega | exact xv_in _ _ _ | exact rd_in _ _) (by omega) (by omega) (by rw [hc30]; rfl) (by decide) ?_
      refine r_aload_n (i := 0) (pc' := 174) dX9_readItem_173 rfl rfl (.head _) ?_
      refine r_V0gv (ci := 9) (pc' := 177) dX9_readItem_174 rfl lX9_62 rfl (by decide) (Nat.le_of_ble_eq_true rfl) (by first | assumption | rfl) (by omega) (tX9_skip hr) (fun n174 P174 X174 Y174 e174 le174 => ?_)
      obtain ⟨hg1_174, hg2_174, hg3_174, hg4_174⟩ := e174
      have g1_174 := Eq.symm hg1_174
      have g2_174 := Eq.symm hg2_174
      have g3_174 := Eq.symm hg3_174
      have g4_174 := Eq.symm hg4_174
      clear hg1_174 hg2_174 hg3_174 hg4_174
      subst g1_174 g2_174 g3_174 g4_174
      have hos := ho.skip hm.2
      have hds : dOk (rd_skip X) d := hd.of (rd_skip_o (by omega))
      have es : xv (rd_skip X) d = xv X d := rd_skip_o (by omega)
      refine r_aload_n (i := 1) (pc' := 178) dX9_readItem_177 rfl rfl (.tail _ (.head _)) ?_
      refine r_aload_n (i := 0) (pc' := 179) dX9_readItem_178 rfl rfl (.head _) ?_
      refine r_iconst (pc' := 180) dX9_readItem_179 rfl ?_
      refine r_sipush (pc' := 183) dX9_readItem_180 rfl (by decide) ?_
      refine r_V2gi (ci := 9) (pc' := 186) dX9_readItem_183 rfl lX9_44 rfl (by decide) (Nat.le_of_ble_eq_true rfl) (by first | assumption | rfl) (by omega) (tX9_number hr (by have := (hos).1; have := (hos).2; omega) (by omega) (by omega)) (fun r183 n183 P183 X183 Y183 e183 le183 => ?_)
      obtain ⟨hg1_183, hg2_183, hg3_183, hg4_183, hg5_183⟩ := e183
      have g1_183 := Eq.symm hg1_183
      have g2_183 := Eq.symm hg2_183
      have g3_183 := Eq.symm hg3_183
      have g4_183 := Eq.symm hg4_183
      have g5_183 := Eq.symm hg5_183
      clear hg1_183 hg2_183 hg3_183 hg4_183 hg5_183
      subst g1_183 g2_183 g3_183 g4_183 g5_183
      refine r_putI (pc' := 189) dX9_readItem_186 rfl fX9_83 rfl (by first | assumption | rfl) (by omega) rfl rfl ?_
      refine r_goto (t := 212) dX9_readItem_189 (by decide) ?_
      refine r_return dX9_readItem_212 rfl ?_
      refine ⟨rfl, rfl, rfl, rfl, ?_⟩
      rw [rdItem, if_neg hnot]
      first
        | (rw [if_pos (by omega)] <;> rfl)
        | (rw [if_neg (by omega), if_pos (by omega)] <;> rfl)
        | (rw [if_neg (by omega), if_neg (by omega), if_pos (by omega)] <;> rfl)
        | (rw [if_neg (by omega), if_neg (by omega), if_neg (by omega), if_pos (by omega)] <;> rfl)
        | (rw [if_neg (by omega), if_neg (by omega), if_neg (by omega), if_neg (by omega), if_pos (by omega)] <;> rfl)
        | (rw [if_neg (by omega), if_neg (by omega), if_neg (by omega), if_neg (by omega), if_neg (by omega)] <;> rfl)
    · refine r_tin (t := 204) (off := 174) dX9_readItem_30 (by first | omega | exact xv_in _ _ _ | exact rd_in _ _) (by omega) (by omega) (by rw [hc30]; rfl) (by decide) ?_
      refine r_aload_n (i := 0) (pc' := 205) dX9_readItem_204 rfl rfl (.head _) ?_
      refine r_aload_n (i := 0) (pc' := 206) dX9_readItem_205 rfl rfl (.head _) ?_
      refine r_getI (pc' := 209) dX9_readItem_206 rfl fX9_24 rfl (by first | assumption | rfl) (by omega) ?_
      refine r_V1gv (ci := 9) (pc' := 212) dX9_readItem_209 rfl lX9_41 rfl (by decide) (Nat.le_of_ble_eq_true rfl) (by first | assumption | rfl) (by omega) (tX9_fail hr) (fun n209 P209 X209 Y209 e209 le209 => ?_)
      obtain ⟨hg1_209, hg2_209, hg3_209, hg4_209⟩ := e209
      have g1_209 := Eq.symm hg1_209
      have g2_209 := Eq.symm hg2_209
      have g3_209 := Eq.symm hg3_209
      have g4_209 := Eq.symm hg4_209
      clear hg1_209 hg2_209 hg3_209 hg4_209
      subst g1_209 g2_209 g3_209 g4_209
      refine r_return dX9_readItem_212 rfl ?_
      refine ⟨rfl, rfl, rfl, rfl, ?_⟩
      rw [rdItem, if_neg hnot]
      first
        | (rw [if_pos (by omega)] <;> rfl)
        | (rw [if_neg (by omega), if_pos (by omega)] <;> rfl)
        | (rw [if_neg (by omega), if_neg (by omega), if_pos (by omega)] <;> rfl)
        | (rw [if_neg (by omega), if_neg (by omega), if_neg (by omega), if_pos (by omega)] <;> rfl)
        | (rw [if_neg (by omega), if_neg (by omega), if_neg (by omega), if_neg (by omega), if_pos (by omega)] <;> rfl)
        | (rw [if_neg (by omega), if_neg (by omega), if_neg (by omega), if_neg (by omega), if_neg (by omega)] <;> rfl)
    · refine r_tin (t := 204) (off := 174) dX9_readItem_30 (by first | omega | exact xv_in _ _ _ | exact rd_in _ _) (by omega) (by omega) (by rw [hc30]; rfl) (by decide) ?_
      refine r_aload_n (i := 0) (pc' := 205) dX9_readItem_204 rfl rfl (.head _) ?_
      refine r_aload_n (i := 0) (pc' := 206) dX9_readItem_205 rfl rfl (.head _) ?_
      refine r_getI (pc' := 209) dX9_readItem_206 rfl fX9_24 rfl (by first | assumption | rfl) (by omega) ?_
      refine r_V1gv (ci := 9) (pc' := 212) dX9_readItem_209 rfl lX9_41 rfl (by decide) (Nat.le_of_ble_eq_true rfl) (by first | assumption | rfl) (by omega) (tX9_fail hr) (fun n209 P209 X209 Y209 e209 le209 => ?_)
      obtain ⟨hg1_209, hg2_209, hg3_209, hg4_209⟩ := e209
      have g1_209 := Eq.symm hg1_209
      have g2_209 := Eq.symm hg2_209
      have g3_209 := Eq.symm hg3_209
      have g4_209 := Eq.symm hg4_209
      clear hg1_209 hg2_209 hg3_209 hg4_209
      subst g1_209 g2_209 g3_209 g4_209
      refine r_return dX9_readItem_212 rfl ?_
      refine ⟨rfl, rfl, rfl, rfl, ?_⟩
      rw [rdItem, if_neg hnot]
      first
        | (rw [if_pos (by omega)] <;> rfl)
        | (rw [if_neg (by omega), if_pos (by omega)] <;> rfl)
        | (rw [if_neg (by omega), if_neg (by omega), if_pos (by omega)] <;> rfl)
        | (rw [if_neg (by omega), if_neg (by omega), if_neg (by omega), if_pos (by omega)] <;> rfl)
        | (rw [if_neg (by omega), if_neg (by omega), if_neg (by omega), if_neg (by omega), if_pos (by omega)] <;> rfl)
        | (rw [if_neg (by omega), if_neg (by omega), if_neg (by omega), if_neg (by omega), if_neg (by omega)] <;> rfl)
    · refine r_tin (t := 192) (off := 162) dX9_readItem_30 (by first | omega | exact xv_in _ _ _ | exact rd_in _ _) (by omega) (by omega) (by rw [hc30]; rfl) (by decide) ?_
      refine r_aload_n (i := 0) (pc' := 193) dX9_readItem_192 rfl rfl (.head _) ?_
      refine r_V0gv (ci := 9) (pc' := 196) dX9_readItem_193 rfl lX9_62 rfl (by decide) (Nat.le_of_ble_eq_true rfl) (by first | assumption | rfl) (by omega) (tX9_skip hr) (fun n193 P193 X193 Y193 e193 le193 => ?_)
      obtain ⟨hg1_193, hg2_193, hg3_193, hg4_193⟩ := e193
      have g1_193 := Eq.symm hg1_193
      have g2_193 := Eq.symm hg2_193
      have g3_193 := Eq.symm hg3_193
      have g4_193 := Eq.symm hg4_193
      clear hg1_193 hg2_193 hg3_193 hg4_193
      subst g1_193 g2_193 g3_193 g4_193
      have hos := ho.skip hm.2
      have hds : dOk (rd_skip X) d := hd.of (rd_skip_o (by omega))
      have es : xv (rd_skip X) d = xv X d := rd_skip_o (by omega)
      refine r_aload_n (i := 0) (pc' := 197) dX9_readItem_196 rfl rfl (.head _) ?_
      refine r_aload_n (i := 1) (pc' := 198) dX9_readItem_197 rfl rfl (.tail _ (.head _)) ?_
      refine r_V1gv (ci := 9) (pc' := 201) dX9_readItem_198 rfl lX9_86 rfl (by decide) (Nat.le_of_ble_eq_true rfl) (by first | assumption | rfl) (by omega) (tX9_readContract hr hos hb hds hda (by rw [es]; omega)) (fun n198 P198 X198 Y198 e198 le198 => ?_)
      obtain ⟨hg1_198, hg2_198, hg3_198, hg4_198⟩ := e198
      have g1_198 := Eq.symm hg1_198
      have g2_198 := Eq.symm hg2_198
      have g3_198 := Eq.symm hg3_198
      have g4_198 := Eq.symm hg4_198
      clear hg1_198 hg2_198 hg3_198 hg4_198
      subst g1_198 g2_198 g3_198 g4_198
      refine r_goto (t := 212) dX9_readItem_201 (by decide) ?_
      refine r_return dX9_readItem_212 rfl ?_
      refine ⟨rfl, rfl, rfl, rfl, ?_⟩
      rw [rdItem, if_neg hnot]
      first
        | (rw [if_pos (by omega)] <;> rfl)
        | (rw [if_neg (by omega), if_pos (by omega)] <;> rfl)
        | (rw [if_neg (by omega), if_neg (by omega), if_pos (by omega)] <;> rfl)
        | (rw [if_neg (by omega), if_neg (by omega), if_neg (by omega), if_pos (by omega)] <;> rfl)
        | (rw [if_neg (by omega), if_neg (by omega), if_neg (by omega), if_neg (by omega), if_pos (by omega)] <;> rfl)
        | (rw [if_neg (by omega), if_neg (by omega), if_neg (by omega), if_neg (by omega), if_neg (by omega)] <;> rfl)
set_option maxHeartbeats 4000000 in
set_option maxRecDepth 100000 in
theorem tX9_readItem {l : Launch} {g : q_G} {n : Nat} {P : q_P} {X : q_X} {Y : q_Y} {d : Nat} (hr : isRd n P) (ho : rOk X) (hb : isBk n P d) (hd : dOk X d) (hda : (1 ≤ d ∧ d + 220 ≤ 441) ∨ 481 ≤ d) (hm : rMore X) : q_Met l g mX9_readItem 5 [.ref (g.1 + 444), .ref (g.1 + d)] n P X Y (q_gv (fun n' P' X' Y' => n' = n ∧ P' = P ∧ Y' = Y ∧ X' = rdItem X d)) := by
  obtain ⟨ho1, ho2, ho3⟩ := id ho
  obtain ⟨d0, d6, d10⟩ := id hd
  obtain ⟨r0, r1, hnr⟩ := id hr
  obtain ⟨b0, b1, b2, b3, q7, q8, q9, q11, q12, q13, hn, hpro, hmar, hfor, hcs⟩ := id hb
  refine q_enter (L := [(0, .ref (g.1 + 444)), (1, .ref (g.1 + d))]) (by decide) (Nat.le_of_ble_eq_true rfl) rfl ?_
  refine r_aload_n (i := 0) (pc' := 1) dX9_readItem_0 rfl rfl (.head _) ?_
  refine r_V0p (ci := 9) (pc' := 4) dX9_readItem_1 rfl lX9_33 rfl (by decide) (Nat.le_of_ble_eq_true rfl) (by first | assumption | rfl) (by omega) (tX9_peek (by assumption)) ?_
  refine r_istore_n (i := 2) (pc' := 5) dX9_readItem_4 rfl rfl rfl (.s1 (.s1 .nil rfl rfl rfl) rfl rfl rfl) ?_
  refine r_iload_n (i := 2) (pc' := 6) dX9_readItem_5 rfl rfl (.tail _ (.tail _ (.head _))) ?_
  refine r_bipush (pc' := 8) dX9_readItem_6 rfl (by decide) ?_
  refine r_icmp_ne (t := 29) (f := 11) dX9_readItem_8 (by decide) rfl (by first | omega | exact xv_in _ _ _ | exact rd_in _ _) (by first | omega | exact xv_in _ _ _ | exact rd_in _ _) (fun h8 => ?_) (fun h8 => ?_)
  · exact iX9_readItem hr ho hb hd hda hm (by omega)
  · refine r_aload_n (i := 1) (pc' := 12) dX9_readItem_11 rfl rfl (.tail _ (.head _)) ?_
    refine r_getI (pc' := 15) dX9_readItem_12 rfl fX9_59 rfl (by first | assumption | rfl) (by omega) ?_
    refine r_bipush (pc' := 17) dX9_readItem_15 rfl (by decide) ?_
    refine r_icmp_lt (t := 29) (f := 20) dX9_readItem_17 (by decide) rfl (by first | omega | exact xv_in _ _ _ | exact rd_in _ _) (by first | omega | exact xv_in _ _ _ | exact rd_in _ _) (fun h17 => ?_) (fun h17 => ?_)
    · exact iX9_readItem hr ho hb hd hda hm (by omega)
    · refine r_aload_n (i := 0) (pc' := 21) dX9_readItem_20 rfl rfl (.head _) ?_
      refine r_aload_n (i := 0) (pc' := 22) dX9_readItem_21 rfl rfl (.head _) ?_
      refine r_getI (pc' := 25) dX9_readItem_22 rfl fX9_24 rfl (by first | assumption | rfl) (by omega) ?_
      refine r_V1gv (ci := 9) (pc' := 28) dX9_readItem_25 rfl lX9_41 rfl (by decide) (Nat.le_of_ble_eq_true rfl) (by first | assumption | rfl) (by omega) (tX9_fail hr) (fun n25 P25 X25 Y25 e25 le25 => ?_)
      obtain ⟨hg1_25, hg2_25, hg3_25, hg4_25⟩ := e25
      have g1_25 := Eq.symm hg1_25
      have g2_25 := Eq.symm hg2_25
      have g3_25 := Eq.symm hg3_25
      have g4_25 := Eq.symm hg4_25
      clear hg1_25 hg2_25 hg3_25 hg4_25
      subst g1_25 g2_25 g3_25 g4_25
      refine r_return dX9_readItem_28 rfl ?_
      refine ⟨rfl, rfl, rfl, rfl, ?_⟩
      unfold rdItem
      rw [if_pos (by omega)]
set_option maxHeartbeats 4000000 in
set_option maxRecDepth 100000 in
theorem lX9_readItems {l : Launch} {g : q_G} {n : Nat} {P : q_P} {Y : q_Y} {d : Nat} (hr : isRd n P) (hb : isBk n P d) (hda : (1 ≤ d ∧ d + 220 ≤ 441) ∨ 481 ≤ d) {X0 : q_X} {r0 : Int} : ∀ (w i : Nat) (X : q_X) (it : Int), i + w = 500 → rOk X → dOk X d → rdIts d w X it = (X0, r0) → q_Tr l g mX9_readItems 6 (q_gi (fun r' n' P' X' Y' => n' = n ∧ P' = P ∧ Y' = Y ∧ X' = X0 ∧ r' = r0)) 4 [(0, .ref (g.1 + 444)), (1, .ref (g.1 + d)), (2, .int (zi it)), (3, .int (zi (i : Int)))] [] n P X Y := by
  obtain ⟨r0', r1, hnr⟩ := id hr
  obtain ⟨b0, b1, b2, b3, q7, q8, q9, q11, q12, q13, hn, hpro, hmar, hfor, hcs⟩ := id hb
  intro w
  induction w with
  | zero =>
    intro i X it hk ho hd he
    cases he
    refine r_iload_n (i := 3) (pc' := 5) dX9_readItems_4 rfl rfl (.tail _ (.tail _ (.tail _ (.head _)))) ?_
    refine r_sipush (pc' := 8) dX9_readItems_5 rfl (by decide) ?_
    refine r_icmp_ge (t := 38) (f := 11) dX9_readItems_8 (by decide) rfl (by first | omega | exact xv_in _ _ _ | exact rd_in _ _) (by first | omega | exact xv_in _ _ _ | exact rd_in _ _) (fun h8 => ?_) (fun h8 => ?_)
    · refine r_iload_n (i := 2) (pc' := 39) dX9_readItems_38 rfl rfl (.tail _ (.tail _ (.head _))) ?_
      refine r_ireturn dX9_readItems_39 rfl ?_
      exact ⟨_, rfl, rfl, rfl, rfl, rfl, rfl⟩
    · exfalso; omega
  | succ w ih =>
    intro i X it hk ho hd he
    rw [rdIts] at he
    refine r_iload_n (i := 3) (pc' := 5) dX9_readItems_4 rfl rfl (.tail _ (.tail _ (.tail _ (.head _)))) ?_
    refine r_sipush (pc' := 8) dX9_readItems_5 rfl (by decide) ?_
    refine r_icmp_ge (t := 38) (f := 11) dX9_readItems_8 (by decide) rfl (by first | omega | exact xv_in _ _ _ | exact rd_in _ _) (by first | omega | exact xv_in _ _ _ | exact rd_in _ _) (fun h8 => ?_) (fun h8 => ?_)
    · exfalso; omega
    · refine r_aload_n (i := 0) (pc' := 12) dX9_readItems_11 rfl rfl (.head _) ?_
      refine r_V0p (ci := 9) (pc' := 15) dX9_readItems_12 rfl lX9_51 rfl (by decide) (Nat.le_of_ble_eq_true rfl) (by first | assumption | rfl) (by omega) (tX9_hasMore hr) ?_
      refine r_bif_eq (t := 38) (f := 18) dX9_readItems_15 (by decide) rfl (fun h15 => ?_) (fun h15 => ?_)
      · rw [if_neg h15] at he
        cases he
        refine r_iload_n (i := 2) (pc' := 39) dX9_readItems_38 rfl rfl (.tail _ (.tail _ (.head _))) ?_
        refine r_ireturn dX9_readItems_39 rfl ?_
        exact ⟨_, rfl, rfl, rfl, rfl, rfl, rfl⟩
      · rw [if_pos h15] at he
        obtain ⟨hi1, hi2⟩ := dItem ho h15 hd hda
        refine r_aload_n (i := 0) (pc' := 19) dX9_readItems_18 rfl rfl (.head _) ?_
        refine r_aload_n (i := 1) (pc' := 20) dX9_readItems_19 rfl rfl (.tail _ (.head _)) ?_
        refine r_V1gv (ci := 9) (pc' := 23) dX9_readItems_20 rfl lX9_55 rfl (by decide) (Nat.le_of_ble_eq_true rfl) (by first | assumption | rfl) (by omega) (tX9_readItem hr ho hb hd hda h15) (fun n20 P20 X20 Y20 e20 le20 => ?_)
        obtain ⟨hg1_20, hg2_20, hg3_20, hg4_20⟩ := e20
        have g1_20 := Eq.symm hg1_20
        have g2_20 := Eq.symm hg2_20
        have g3_20 := Eq.symm hg3_20
        have g4_20 := Eq.symm hg4_20
        clear hg1_20 hg2_20 hg3_20 hg4_20
        subst g1_20 g2_20 g3_20 g4_20
        refine r_aload_n (i := 0) (pc' := 24) dX9_readItems_23 rfl rfl (.head _) ?_
        refine r_bipush (pc' := 26) dX9_readItems_24 rfl (by decide) ?_
        refine r_V1gv (ci := 9) (pc' := 29) dX9_readItems_26 rfl lX9_48 rfl (by decide) (Nat.le_of_ble_eq_true rfl) (by first | assumption | rfl) (by omega) (tX9_expect hr (by omega)) (fun n26 P26 X26 Y26 e26 le26 => ?_)
        obtain ⟨hg1_26, hg2_26, hg3_26, hg4_26⟩ := e26
        have g1_26 := Eq.symm hg1_26
        have g2_26 := Eq.symm hg2_26
        have g3_26 := Eq.symm hg3_26
        have g4_26 := Eq.symm hg4_26
        clear hg1_26 hg2_26 hg3_26 hg4_26
        subst g1_26 g2_26 g3_26 g4_26
        refine r_iinc (pc' := 32) dX9_readItems_29 rfl rfl (.tail _ (.tail _ (.head _))) (.s1 (.s1 (.here (.s1 .nil rfl rfl rfl)) rfl rfl rfl) rfl rfl rfl) ?_
        refine r_iinc (pc' := 35) dX9_readItems_32 rfl rfl (.tail _ (.tail _ (.tail _ (.head _)))) (.s1 (.s1 (.s1 (.here .nil) rfl rfl rfl) rfl rfl rfl) rfl rfl rfl) ?_
        refine r_goto (t := 4) dX9_readItems_35 (by decide) ?_
        exact ih (i + 1) _ _ (by omega) (hi1.exp (by omega)) (hi2.exp (by omega) _) he
set_option maxHeartbeats 4000000 in
set_option maxRecDepth 100000 in
theorem tX9_readItems {l : Launch} {g : q_G} {n : Nat} {P : q_P} {X : q_X} {Y : q_Y} {d : Nat} (hr : isRd n P) (ho : rOk X) (hb : isBk n P d) (hd : dOk X d) (hda : (1 ≤ d ∧ d + 220 ≤ 441) ∨ 481 ≤ d) : q_Met l g mX9_readItems 6 [.ref (g.1 + 444), .ref (g.1 + d)] n P X Y (q_gi (fun r' n' P' X' Y' => n' = n ∧ P' = P ∧ Y' = Y ∧ X' = (rdIts d 500 X 0).1 ∧ r' = (rdIts d 500 X 0).2)) := by
  refine q_enter (L := [(0, .ref (g.1 + 444)), (1, .ref (g.1 + d))]) (by decide) (Nat.le_of_ble_eq_true rfl) rfl ?_
  refine r_iconst (pc' := 1) dX9_readItems_0 rfl ?_
  refine r_istore_n (i := 2) (pc' := 2) dX9_readItems_1 rfl rfl rfl (.s1 (.s1 .nil rfl rfl rfl) rfl rfl rfl) ?_
  refine r_iconst (pc' := 3) dX9_readItems_2 rfl ?_
  refine r_istore_n (i := 3) (pc' := 4) dX9_readItems_3 rfl rfl rfl (.s1 (.s1 (.s1 .nil rfl rfl rfl) rfl rfl rfl) rfl rfl rfl) ?_
  exact lX9_readItems hr hb hda 500 0 X 0 (by omega) ho hd rfl
/-! market and acts -/
def mk1 (X : q_X) (o i : Nat) : q_X := q_up (rdN X 1 9999) (o + 1) i (zi (rd_numV X 1 9999))
def mk2 (X : q_X) (o i : Nat) : q_X := q_up (rdN X 1 6) (o + 2) i (zi (rd_numV X 1 6))
def mk3 (X : q_X) (o i : Nat) : q_X := q_up (rdN X 0 99999) (o + 3) i (zi (rd_numV X 0 99999))
def mk4 (X : q_X) (o i : Nat) (lp : Int) : q_X := q_up (rd_numX X lp 99999) (o + 4) i (zi (rd_numV X lp 99999))
def mk5 (X : q_X) (o i : Nat) (lp : Int) : q_X := rd_exp (mk4 (mk3 (mk2 (mk1 X o i) o i) o i) o i lp) 59
def mkOne (X : q_X) (o i : Nat) (lp : Int) : q_X := q_up (mk5 X o i lp) o 0 (zi (xv (mk5 X o i lp) o 0 + 1))
def mkRd (o : Nat) (lp : Int) : Nat → Nat → q_X → q_X
  | 0, _, X => X
  | w + 1, i, X => if rMore X then mkRd o lp w (i + 1) (mkOne X o i lp) else X
def rdTail (X : q_X) : q_X := if rMore X then rd_fail X (xv X 444 1) else X
def mkAll (X : q_X) (o : Nat) (lp : Int) : q_X := rdTail (mkRd o lp 12 0 (q_up X o 0 (zi 0)))
theorem rOk.mk {X : q_X} (h : rOk X) {o i : Nat} {lp : Int} (ho : o + 5 ≤ 441 ∨ 481 ≤ o) : rOk (mk1 X o i) ∧ rOk (mk2 (mk1 X o i) o i) ∧ rOk (mk3 (mk2 (mk1 X o i) o i) o i) ∧ rOk (mk4 (mk3 (mk2 (mk1 X o i) o i) o i) o i lp) ∧ rOk (mkOne X o i lp) := by
  have h1 : rOk (mk1 X o i) := (h.N _ _).up (by omega)
  have h2 : rOk (mk2 (mk1 X o i) o i) := (h1.N _ _).up (by omega)
  have h3 : rOk (mk3 (mk2 (mk1 X o i) o i) o i) := (h2.N _ _).up (by omega)
  have h4 : rOk (mk4 (mk3 (mk2 (mk1 X o i) o i) o i) o i lp) := (h3.num _ _).up (by omega)
  exact ⟨h1, h2, h3, h4, (h4.exp (by omega)).up (by omega)⟩
/-- an act, read -/
def ac0 (X : q_X) (i : Nat) : q_X := q_up (q_up (q_up X 450 i (zi (rd X (xv X 444 1)))) 451 i (zi 0)) 452 i (zi 0)
def ac1 (X : q_X) (i : Nat) : q_X := q_up (rd_numX X 0 999999) 451 i (zi (rd_numV X 0 999999))
def ac2 (X : q_X) (i : Nat) : q_X := q_up (rdN X 0 999999) 451 i (zi (rd_numV X 0 999999))
def ac3 (X : q_X) (i : Nat) : q_X := q_up (rd_numX X 0 999999) 452 i (zi (rd_numV X 0 999999))
def acAct (X : q_X) (i : Nat) : q_X := if rd X (xv X 444 1) = 100 ∨ rd X (xv X 444 1) = 120 then ac1 (rd_skip (ac0 X i)) i else if rd X (xv X 444 1) = 116 then ac3 (ac2 (rd_skip (ac0 X i)) i) i else if rd X (xv X 444 1) = 121 then rd_skip (ac0 X i) else rd_fail (ac0 X i) (xv (ac0 X i) 444 1)
def acOne (X : q_X) (i : Nat) : q_X := q_up (rd_exp (acAct X i) 59) 449 0 (zi (xv (rd_exp (acAct X i) 59) 449 0 + 1))
def acRd : Nat → Nat → q_X → q_X
  | 0, _, X => X
  | w + 1, i, X => if rMore X then acRd w (i + 1) (acOne X i) else X
def acAll (X : q_X) : q_X := rdTail (acRd 20 0 (q_up X 449 0 (zi 0)))
def isAct (n : Nat) (P : q_P) : Prop := P 449 1 = some 450 ∧ P 449 2 = some 451 ∧ P 449 3 = some 452 ∧ 481 ≤ n
theorem ac0_r {X : q_X} {i : Nat} : xv (ac0 X i) 444 = xv X 444 ∧ xv (ac0 X i) 445 = xv X 445 := by
  unfold ac0
  exact ⟨by simp (disch := omega) only [xv_up_row], by simp (disch := omega) only [xv_up_row]⟩
theorem rOk.act {X : q_X} (h : rOk X) (hm : rMore X) (i : Nat) : rOk (rd_skip (ac0 X i)) ∧ rOk (ac2 (rd_skip (ac0 X i)) i) ∧ rOk (acAct X i) ∧ rOk (acOne X i) := by
  have h0 : rOk (ac0 X i) := h.of ac0_r.1 ac0_r.2
  have h1 : rOk (rd_skip (ac0 X i)) := h0.skip (by rw [ac0_r.1, ac0_r.2]; exact hm.2)
  have h2 : rOk (ac2 (rd_skip (ac0 X i)) i) := (h1.N _ _).up (by omega)
  have h3 : rOk (acAct X i) := by
    unfold acAct; (repeat' split)
    · exact (h1.num _ _).up (by omega)
    · exact (h2.num _ _).up (by omega)
    · exact h1
    · exact h0.fail _
  exact ⟨h1, h2, h3, (h3.exp (by omega)).up (by omega)⟩
