set_option maxHeartbeats 4000000 in
set_option maxRecDepth 100000 in
theorem l1X12_year {l : Launch} {g : q_G} {n : Nat} {P : q_P} {X : q_X} {Y : q_Y} (hm : isMod n P) {C : q_X} {b : Nat} (hR : RB C b (xv X 468)) (hO : bOk C b) {r : Int} {K : q_K} (kk : q_Tr l g mX12_year 7 K 94 [(0, .ref (g.1 + 467)), (1, .int (zi r))] [] n P X Y) : ∀ (w i : Nat) (s : Int), i + w = (xv C b 10).toNat → s + q_sum (stK C b) i w = r → q_Tr l g mX12_year 7 K 39 [(0, .ref (g.1 + 467)), (1, .int (zi s)), (2, .int (zi (i : Int)))] [] n P X Y := by
  obtain ⟨m0, m2, m3, m8, m9, m14, m15, m16, m17, m18, m20, m22, m25, hnm9⟩ := id hm
  obtain ⟨o0, o1, o2, o3, o4, o5, o6, o10, oc, op0, opz, opi, om0, omi, olim⟩ := id hO
  intro w
  induction w with
  | zero =>
    intro i s hi hr
    refine r_iload_n (i := 2) (pc' := 40) dX12_year_39 rfl rfl (.tail _ (.tail _ (.head _))) ?_
    refine r_aload_n (i := 0) (pc' := 41) dX12_year_40 rfl rfl (.head _) ?_
    refine r_getR (pc' := 44) dX12_year_41 rfl fX12_3 rfl (by first | assumption | rfl) (by omega) (by assumption) ?_
    refine r_bipush (pc' := 46) dX12_year_44 rfl (by decide) ?_
    refine r_iaload (pc' := 47) dX12_year_46 rfl (by first | assumption | rfl) (by omega) (by omega) (by omega) (by first | decide | omega) (show Int.toNat 7 = 7 from rfl) ?_
    rw [hR.m]
    refine r_icmp_ge (t := 94) (f := 50) dX12_year_47 (by decide) rfl (by first | omega | exact xv_in _ _ _) (by first | omega | exact xv_in _ _ _) (fun h47 => ?_) (fun h47 => ?_)
    · refine r_sub (.kp (.kp (.dr .nil))) ?_
      rw [show s = r by rw [← hr]; simp [q_sum]]
      exact kk
    · exfalso; omega
  | succ w ih =>
    intro i s hi hr
    have hk : (i : Int) < xv C b 10 := by omega
    have hsk : stK C b i = if xv C (con b i) 4 = 0 then pr_of C b i (xv C b 0) 1 0 - pr_of C b i (xv C b 0) 0 1 else 0 := rfl
    rw [q_sum] at hr
    refine r_iload_n (i := 2) (pc' := 40) dX12_year_39 rfl rfl (.tail _ (.tail _ (.head _))) ?_
    refine r_aload_n (i := 0) (pc' := 41) dX12_year_40 rfl rfl (.head _) ?_
    refine r_getR (pc' := 44) dX12_year_41 rfl fX12_3 rfl (by first | assumption | rfl) (by omega) (by assumption) ?_
    refine r_bipush (pc' := 46) dX12_year_44 rfl (by decide) ?_
    refine r_iaload (pc' := 47) dX12_year_46 rfl (by first | assumption | rfl) (by omega) (by omega) (by omega) (by first | decide | omega) (show Int.toNat 7 = 7 from rfl) ?_
    rw [hR.m]
    refine r_icmp_ge (t := 94) (f := 50) dX12_year_47 (by decide) rfl (by first | omega | exact xv_in _ _ _) (by first | omega | exact xv_in _ _ _) (fun h47 => ?_) (fun h47 => ?_)
    · exfalso; omega
    · refine r_aload_n (i := 0) (pc' := 51) dX12_year_50 rfl rfl (.head _) ?_
      refine r_iload_n (i := 2) (pc' := 52) dX12_year_51 rfl rfl (.tail _ (.tail _ (.head _))) ?_
      refine r_V1p (ci := 12) (pc' := 55) dX12_year_52 rfl lX12_209 rfl (by decide) (Nat.le_of_ble_eq_true rfl) (by first | assumption | rfl) (by omega) (tX12_isOpen (by assumption) (by assumption) (by assumption) (by assumption)) ?_
      refine r_bif_eq (t := 88) (f := 58) dX12_year_55 (by decide) rfl (fun h55 => ?_) (fun h55 => ?_)
      · refine r_iinc (pc' := 91) dX12_year_88 rfl rfl (.tail _ (.tail _ (.head _))) (.s1 (.s1 (.here .nil) rfl rfl rfl) rfl rfl rfl) ?_
        refine r_goto (t := 39) dX12_year_91 (by decide) ?_
        refine ih (i + 1) _ (by omega) ?_
        first
          | (rw [if_pos (by omega)] at hsk; omega)
          | (rw [if_neg (by omega)] at hsk; omega)
      · refine r_iload_n (i := 1) (pc' := 59) dX12_year_58 rfl rfl (.tail _ (.head _)) ?_
        refine r_aload_n (i := 0) (pc' := 60) dX12_year_59 rfl rfl (.head _) ?_
        refine r_iload_n (i := 2) (pc' := 61) dX12_year_60 rfl rfl (.tail _ (.tail _ (.head _))) ?_
        refine r_aload_n (i := 0) (pc' := 62) dX12_year_61 rfl rfl (.head _) ?_
        refine r_getR (pc' := 65) dX12_year_62 rfl fX12_3 rfl (by first | assumption | rfl) (by omega) (by assumption) ?_
        refine r_iconst (pc' := 66) dX12_year_65 rfl ?_
        refine r_iaload (pc' := 67) dX12_year_66 rfl (by first | assumption | rfl) (by omega) (by omega) (by omega) (by first | decide | omega) (show Int.toNat 0 = 0 from rfl) ?_
        rw [hR.z 0 (by decide)]
        refine r_iconst (pc' := 68) dX12_year_67 rfl ?_
        refine r_iconst (pc' := 69) dX12_year_68 rfl ?_
        refine r_V4p (ci := 12) (pc' := 72) dX12_year_69 rfl lX12_237 rfl (by decide) (Nat.le_of_ble_eq_true rfl) (by first | assumption | rfl) (by omega) (tX12_promisesOf hm hR hO (by omega) (by omega) (by omega) (by omega)) ?_
        rw [← pr_of]
        refine r_aload_n (i := 0) (pc' := 73) dX12_year_72 rfl rfl (.head _) ?_
        refine r_iload_n (i := 2) (pc' := 74) dX12_year_73 rfl rfl (.tail _ (.tail _ (.head _))) ?_
        refine r_aload_n (i := 0) (pc' := 75) dX12_year_74 rfl rfl (.head _) ?_
        refine r_getR (pc' := 78) dX12_year_75 rfl fX12_3 rfl (by first | assumption | rfl) (by omega) (by assumption) ?_
        refine r_iconst (pc' := 79) dX12_year_78 rfl ?_
        refine r_iaload (pc' := 80) dX12_year_79 rfl (by first | assumption | rfl) (by omega) (by omega) (by omega) (by first | decide | omega) (show Int.toNat 0 = 0 from rfl) ?_
        rw [hR.z 0 (by decide)]
        refine r_iconst (pc' := 81) dX12_year_80 rfl ?_
        refine r_iconst (pc' := 82) dX12_year_81 rfl ?_
        refine r_V4p (ci := 12) (pc' := 85) dX12_year_82 rfl lX12_237 rfl (by decide) (Nat.le_of_ble_eq_true rfl) (by first | assumption | rfl) (by omega) (tX12_promisesOf hm hR hO (by omega) (by omega) (by omega) (by omega)) ?_
        rw [← pr_of]
        refine r_isub (pc' := 86) dX12_year_85 rfl ?_
        refine r_iadd (pc' := 87) dX12_year_86 rfl ?_
        refine r_istore_n (i := 1) (pc' := 88) dX12_year_87 rfl rfl rfl (.s1 (.here (.s1 .nil rfl rfl rfl)) rfl rfl rfl) ?_
        refine r_iinc (pc' := 91) dX12_year_88 rfl rfl (.tail _ (.tail _ (.head _))) (.s1 (.s1 (.here .nil) rfl rfl rfl) rfl rfl rfl) ?_
        refine r_goto (t := 39) dX12_year_91 (by decide) ?_
        refine ih (i + 1) _ (by omega) ?_
        first
          | (rw [if_pos (by omega)] at hsk; omega)
          | (rw [if_neg (by omega)] at hsk; omega)
set_option maxHeartbeats 4000000 in
set_option maxRecDepth 100000 in
theorem l2X12_year {l : Launch} {g : q_G} {n : Nat} {P : q_P} {Y : q_Y} (hm : isMod n P) {C : q_X} {b : Nat} (hO : bOk C b) (hT : xv C (b + 15) 0 ≤ 80) (hL : bLv C b) {room mo r : Int} (h19 : xv C b 0 < 19) {X0 : q_X} {K : q_K} (kk : ∀ X, rOut X0 X → RB (py (bk_p1 C b room) b (xv C b 10).toNat) b (xv X 468) → q_Tr l g mX12_year 7 K 238 [(0, .ref (g.1 + 467)), (1, .int (zi mo)), (2, .int (zi r))] [] n P X Y) : ∀ (w i : Nat) (t : Int) (X : q_X), i + w = (xv C b 10).toNat → rOut X0 X → RB (py (bk_p1 C b room) b i) b (xv X 468) → t + q_sum (fun i => if p_over (bk_p1 C b room) b i then 1 else 0) i w = r → q_Tr l g mX12_year 7 K 159 [(0, .ref (g.1 + 467)), (1, .int (zi mo)), (2, .int (zi t)), (3, .int (zi (i : Int)))] [] n P X Y := by
  obtain ⟨m0, m2, m3, m8, m9, m14, m15, m16, m17, m18, m20, m22, m25, hnm9⟩ := id hm
  obtain ⟨o0, o1, o2, o3, o4, o5, o6, o10, oc, op0, opz, opi, om0, omi, olim⟩ := id hO
  have hO1 := bOk_p1 hO room h19
  have y1 := p1_0 (C := C) (b := b) (room := room) (by omega)
  have s1 := p1_z (C := C) (b := b) (room := room) (j := 10) (by omega)
  intro w
  induction w with
  | zero =>
    intro i t X hi ho hR hr
    have hb : xv (py (bk_p1 C b room) b i) b = xv (bk_p1 C b room) b := py_o _ _ (by omega) i (fun j _ => by unfold con; omega)
    have hm7 : xv X 468 7 = xv C b 10 := by rw [hR.m, hb, s1]
    refine r_iload_n (i := 3) (pc' := 160) dX12_year_159 rfl rfl (.tail _ (.tail _ (.tail _ (.head _)))) ?_
    refine r_aload_n (i := 0) (pc' := 161) dX12_year_160 rfl rfl (.head _) ?_
    refine r_getR (pc' := 164) dX12_year_161 rfl fX12_3 rfl (by first | assumption | rfl) (by omega) (by assumption) ?_
    refine r_bipush (pc' := 166) dX12_year_164 rfl (by decide) ?_
    refine r_iaload (pc' := 167) dX12_year_166 rfl (by first | assumption | rfl) (by omega) (by omega) (by omega) (by first | decide | omega) (show Int.toNat 7 = 7 from rfl) ?_
    rw [hm7]
    refine r_icmp_ge (t := 238) (f := 170) dX12_year_167 (by decide) rfl (by first | omega | exact xv_in _ _ _) (by first | omega | exact xv_in _ _ _) (fun h167 => ?_) (fun h167 => ?_)
    · refine r_sub (.kp (.kp (.kp (.dr .nil)))) ?_
      rw [show i = (xv C b 10).toNat by omega] at hR
      rw [show t = r by rw [← hr]; simp [q_sum]]
      exact kk X ho hR
    · exfalso; omega
  | succ w ih =>
    intro i t X hi ho hR hr
    have hb : xv (py (bk_p1 C b room) b i) b = xv (bk_p1 C b room) b := py_o _ _ (by omega) i (fun j _ => by unfold con; omega)
    have hci : ∀ d, d ≤ 4 → xv (py (bk_p1 C b room) b i) (con b i + d) = xv C (con b i + d) := fun d hd => by rw [py_o _ _ (by unfold con; omega) i (fun j hj => by unfold con; omega), p1_o (by unfold con; omega) (by unfold con; omega)]
    have hc0 : xv (py (bk_p1 C b room) b i) (con b i) = xv C (con b i) := hci 0 (by omega)
    have hc1 : xv (bk_p1 C b room) (con b i) = xv C (con b i) := p1_o (by unfold con; omega) (by unfold con; omega)
    have hOi := bOk_py hO1 i (by omega)
    have hTi : xv (py (bk_p1 C b room) b i) (b + 15) 0 ≤ 80 := by rw [py_o _ _ (by omega) i (fun j _ => by unfold con; omega), p1_o (by omega) (by omega)]; exact hT
    have hyi : xv (py (bk_p1 C b room) b i) b 0 = xv C b 0 + 1 := by rw [hb, y1]
    have hki : (i : Int) < xv (py (bk_p1 C b room) b i) b 10 := by rw [hb, s1]; omega
    have hlv := hL i (by omega)
    have hck := hO.c (show (i : Int) < xv C b 10 by omega)
    have hck0 := hck.1
    have hck1 := hck.2.1
    have hpo : p_over (py (bk_p1 C b room) b i) b i ↔ p_over (bk_p1 C b room) b i := by unfold p_over; rw [hc0, hb, hc1]
    have hpe : p_over (py (bk_p1 C b room) b i) b i ↔ (xv C (con b i) 4 = 0 ∧ xv C (con b i) 0 + xv C (con b i) 1 = xv C b 0 + 1) := by
      unfold p_over; rw [hc0, hyi]
      constructor
      · intro q; have := hlv q.1; omega
      · intro q; omega
    have hm7 : xv X 468 7 = xv C b 10 := by rw [hR.m, hb, s1]
    have hm0 : xv X 468 0 = xv C b 0 + 1 := by rw [hR.z 0 (by decide), hyi]
    have ih := ih (i + 1)
    rw [py] at ih
    rw [q_sum] at hr
    generalize hCi : py (bk_p1 C b room) b i = Ci at *
    refine r_iload_n (i := 3) (pc' := 160) dX12_year_159 rfl rfl (.tail _ (.tail _ (.tail _ (.head _)))) ?_
    refine r_aload_n (i := 0) (pc' := 161) dX12_year_160 rfl rfl (.head _) ?_
    refine r_getR (pc' := 164) dX12_year_161 rfl fX12_3 rfl (by first | assumption | rfl) (by omega) (by assumption) ?_
    refine r_bipush (pc' := 166) dX12_year_164 rfl (by decide) ?_
    refine r_iaload (pc' := 167) dX12_year_166 rfl (by first | assumption | rfl) (by omega) (by omega) (by omega) (by first | decide | omega) (show Int.toNat 7 = 7 from rfl) ?_
    rw [hm7]
    refine r_icmp_ge (t := 238) (f := 170) dX12_year_167 (by decide) rfl (by first | omega | exact xv_in _ _ _) (by first | omega | exact xv_in _ _ _) (fun h167 => ?_) (fun h167 => ?_)
    · exfalso; omega
    · refine r_aload_n (i := 0) (pc' := 171) dX12_year_170 rfl rfl (.head _) ?_
      refine r_iload_n (i := 3) (pc' := 172) dX12_year_171 rfl rfl (.tail _ (.tail _ (.tail _ (.head _)))) ?_
      refine r_V1p (ci := 12) (pc' := 175) dX12_year_172 rfl lX12_209 rfl (by decide) (Nat.le_of_ble_eq_true rfl) (by first | assumption | rfl) (by omega) (tX12_isOpen hm hR hOi hki) ?_
      rw [hc0]
      refine r_bif_eq (t := 232) (f := 178) dX12_year_175 (by decide) rfl (fun h175 => ?_) (fun h175 => ?_)
      · refine r_iinc (pc' := 235) dX12_year_232 rfl rfl (.tail _ (.tail _ (.tail _ (.head _)))) (.s1 (.s1 (.s1 (.here .nil) rfl rfl rfl) rfl rfl rfl) rfl rfl rfl) ?_
        refine r_goto (t := 159) dX12_year_235 (by decide) ?_
        first
          | (have hno : ¬ p_over Ci b i := fun q => by have := hpe.mp q; omega
             rw [if_neg (fun q => hno (hpo.mpr q))] at hr
             have e : py_step Ci b i = Ci := by unfold py_step; rw [if_neg hno]
             rw [e] at ih
             exact ih t X (by omega) ho hR (by omega))
          | (have hyes : p_over Ci b i := hpe.mpr (by omega)
             rw [if_pos (hpo.mp hyes)] at hr
             have hq := hR.pst hOi hTi (k := i) (by omega) hyes rfl
             rw [hyi] at hq
             exact ih _ _ (by omega) (((ho.up (by omega)).up (by omega)).up (by omega)) hq (by omega))
      · refine r_aload_n (i := 0) (pc' := 179) dX12_year_178 rfl rfl (.head _) ?_
        refine r_iload_n (i := 3) (pc' := 180) dX12_year_179 rfl rfl (.tail _ (.tail _ (.tail _ (.head _)))) ?_
        refine r_V1p (ci := 12) (pc' := 183) dX12_year_180 rfl lX12_132 rfl (by decide) (Nat.le_of_ble_eq_true rfl) (by first | assumption | rfl) (by omega) (tX12_endOf hm hR hOi hki) ?_
        rw [hc0]
        refine r_aload_n (i := 0) (pc' := 184) dX12_year_183 rfl rfl (.head _) ?_
        refine r_getR (pc' := 187) dX12_year_184 rfl fX12_3 rfl (by first | assumption | rfl) (by omega) (by assumption) ?_
        refine r_iconst (pc' := 188) dX12_year_187 rfl ?_
        refine r_iaload (pc' := 189) dX12_year_188 rfl (by first | assumption | rfl) (by omega) (by omega) (by omega) (by first | decide | omega) (show Int.toNat 0 = 0 from rfl) ?_
        rw [hm0]
        refine r_icmp_eq (t := 195) (f := 192) dX12_year_189 (by decide) rfl (by first | omega | exact xv_in _ _ _) (by first | omega | exact xv_in _ _ _) (fun h189 => ?_) (fun h189 => ?_)
        · refine r_aload_n (i := 0) (pc' := 196) dX12_year_195 rfl rfl (.head _) ?_
          refine r_getR (pc' := 199) dX12_year_196 rfl fX12_3 rfl (by first | assumption | rfl) (by omega) (by assumption) ?_
          refine r_bipush (pc' := 201) dX12_year_199 rfl (by decide) ?_
          refine r_aload_n (i := 0) (pc' := 202) dX12_year_201 rfl rfl (.head _) ?_
          refine r_getR (pc' := 205) dX12_year_202 rfl fX12_3 rfl (by first | assumption | rfl) (by omega) (by assumption) ?_
          refine r_iconst (pc' := 206) dX12_year_205 rfl ?_
          refine r_iaload (pc' := 207) dX12_year_206 rfl (by first | assumption | rfl) (by omega) (by omega) (by omega) (by first | decide | omega) (show Int.toNat 0 = 0 from rfl) ?_
          rw [hm0]
          refine r_iadd (pc' := 208) dX12_year_207 rfl ?_
          refine r_dup2 (pc' := 209) dX12_year_208 rfl rfl rfl ?_
          refine r_iaload (pc' := 210) dX12_year_209 rfl (by first | assumption | rfl) (by omega) (by omega) (by omega) (by first | decide | omega) (show (30 + (xv C b 0 + 1)).toNat = (30 + (xv C b 0 + 1)).toNat from rfl) ?_
          rw [show (30 + (xv C b 0 + 1)).toNat = (30 + xv Ci b 0).toNat by rw [hyi], hR.dead (by omega), hyi]
          refine r_aload_n (i := 0) (pc' := 211) dX12_year_210 rfl rfl (.head _) ?_
          refine r_iload_n (i := 3) (pc' := 212) dX12_year_211 rfl rfl (.tail _ (.tail _ (.tail _ (.head _)))) ?_
          refine r_aload_n (i := 0) (pc' := 213) dX12_year_212 rfl rfl (.head _) ?_
          refine r_getR (pc' := 216) dX12_year_213 rfl fX12_3 rfl (by first | assumption | rfl) (by omega) (by assumption) ?_
          refine r_iconst (pc' := 217) dX12_year_216 rfl ?_
          refine r_iaload (pc' := 218) dX12_year_217 rfl (by first | assumption | rfl) (by omega) (by omega) (by omega) (by first | decide | omega) (show Int.toNat 0 = 0 from rfl) ?_
          rw [hm0]
          refine r_V2p (ci := 12) (pc' := 221) dX12_year_218 rfl lX12_212 rfl (by decide) (Nat.le_of_ble_eq_true rfl) (by first | assumption | rfl) (by omega) (tX12_partsBehind hm hR hOi hki (y := xv C b 0 + 1) (by omega)) ?_
          refine r_iadd (pc' := 222) dX12_year_221 rfl ?_
          refine r_iastore (pc' := 223) dX12_year_222 rfl (by first | assumption | rfl) (by omega) (by omega) (by omega) (by first | decide | omega) (show _ = 30 + (xv C b 0 + 1).toNat by omega) ?_
          refine r_aload_n (i := 0) (pc' := 224) dX12_year_223 rfl rfl (.head _) ?_
          refine r_iload_n (i := 3) (pc' := 225) dX12_year_224 rfl rfl (.tail _ (.tail _ (.tail _ (.head _)))) ?_
          refine r_iconst (pc' := 226) dX12_year_225 rfl ?_
          refine r_V2gv (ci := 12) (pc' := 229) dX12_year_226 rfl lX12_275 rfl (by decide) (Nat.le_of_ble_eq_true rfl) (by first | assumption | rfl) (by omega) (tX12_closesFor hm (k := i) (by omega) (u := 2) (v := xv C b 0 + 1) (by rw [xv_up_ne _ _ (by omega)]; exact hm0)) (fun n226 P226 X226 Y226 e226 le226 => ?_)
          obtain ⟨hg1_226, hg2_226, hg3_226, hg4_226⟩ := e226
          have g1_226 := Eq.symm hg1_226
          have g2_226 := Eq.symm hg2_226
          have g3_226 := Eq.symm hg3_226
          have g4_226 := Eq.symm hg4_226
          clear hg1_226 hg2_226 hg3_226 hg4_226
          subst g1_226 g2_226 g3_226 g4_226
          refine r_iinc (pc' := 232) dX12_year_229 rfl rfl (.tail _ (.tail _ (.head _))) (.s1 (.s1 (.here (.s1 .nil rfl rfl rfl)) rfl rfl rfl) rfl rfl rfl) ?_
          refine r_iinc (pc' := 235) dX12_year_232 rfl rfl (.tail _ (.tail _ (.tail _ (.head _)))) (.s1 (.s1 (.s1 (.here .nil) rfl rfl rfl) rfl rfl rfl) rfl rfl rfl) ?_
          refine r_goto (t := 159) dX12_year_235 (by decide) ?_
          first
            | (have hno : ¬ p_over Ci b i := fun q => by have := hpe.mp q; omega
               rw [if_neg (fun q => hno (hpo.mpr q))] at hr
               have e : py_step Ci b i = Ci := by unfold py_step; rw [if_neg hno]
               rw [e] at ih
               exact ih t X (by omega) ho hR (by omega))
            | (have hyes : p_over Ci b i := hpe.mpr (by omega)
               rw [if_pos (hpo.mp hyes)] at hr
               have hq := hR.pst hOi hTi (k := i) (by omega) hyes rfl
               rw [hyi] at hq
               exact ih _ _ (by omega) (((ho.up (by omega)).up (by omega)).up (by omega)) hq (by omega))
        · refine r_goto (t := 232) dX12_year_192 (by decide) ?_
          refine r_iinc (pc' := 235) dX12_year_232 rfl rfl (.tail _ (.tail _ (.tail _ (.head _)))) (.s1 (.s1 (.s1 (.here .nil) rfl rfl rfl) rfl rfl rfl) rfl rfl rfl) ?_
          refine r_goto (t := 159) dX12_year_235 (by decide) ?_
          first
            | (have hno : ¬ p_over Ci b i := fun q => by have := hpe.mp q; omega
               rw [if_neg (fun q => hno (hpo.mpr q))] at hr
               have e : py_step Ci b i = Ci := by unfold py_step; rw [if_neg hno]
               rw [e] at ih
               exact ih t X (by omega) ho hR (by omega))
            | (have hyes : p_over Ci b i := hpe.mpr (by omega)
               rw [if_pos (hpo.mp hyes)] at hr
               have hq := hR.pst hOi hTi (k := i) (by omega) hyes rfl
               rw [hyi] at hq
               exact ih _ _ (by omega) (((ho.up (by omega)).up (by omega)).up (by omega)) hq (by omega))
theorem dd_h {X X' : q_X} (h : hOut X X') (hD : 0 ≤ xv X 467 1 ∧ xv X 467 1 ≤ 8) : hOut (dd X 0) (dd X' 0) := by
  have e7 : xv X' 467 = xv X 467 := h.v (by omega)
  have e8 : xv X' 468 = xv X 468 := h.v (by omega)
  have hD2 : 0 ≤ xv X' 467 1 ∧ xv X' 467 1 ≤ 8 := by rw [e7]; exact hD
  intro a a1 a2 a3
  funext j
  by_cases ha : a = 468
  · subst ha
    obtain ⟨r, q, hj, hq⟩ : ∃ r q : Nat, j = 3740 * r + q ∧ q < 3740 := ⟨j / 3740, j % 3740, by omega, by omega⟩
    have f1 := dd_eq (s := 0) (r := r) hD (by omega) hq
    have f2 := dd_eq (s := 0) (r := r) hD2 (by omega) hq
    have ew : ∀ r j, rw_ X' r j = rw_ X r j := fun r j => by unfold rw_; rw [e8]
    rw [e7, ew, ew, ew, ← f1] at f2
    subst hj
    exact Int32.toInt_inj.mp f2
  · by_cases h1 : a = 467 ∧ j = 1
    · obtain ⟨rfl, rfl⟩ := h1
      have f1 := dd_1 0 hD
      have f2 := dd_1 0 hD2
      rw [e7] at f2
      exact Int32.toInt_inj.mp (f2.trans f1.symm)
    · rw [dd_ne _ _ ha h1, dd_ne _ _ ha h1, h a a1 a2 a3]
set_option maxHeartbeats 4000000 in
set_option maxRecDepth 100000 in
theorem tX12_year {l : Launch} {g : q_G} {n : Nat} {P : q_P} {X : q_X} {Y : q_Y} (hm : isMod n P) {C : q_X} {b : Nat} (hR : RB C b (xv X 468)) (hO : bOk C b) (hT : xv C (b + 15) 0 ≤ 80) (hD : 0 ≤ xv X 467 1 ∧ xv X 467 1 ≤ 8) (hL : bLv C b) : q_Met l g mX12_year 7 [.ref (g.1 + 467)] n P X Y (q_gi (fun r' n' P' X' Y' => if xv C b 0 < 19 then rDE (bk_year C b) b (bk_yearN C b) n P X Y r' n' P' X' Y' else rNO (7) n P X Y r' n' P' X' Y')) := by
  obtain ⟨m0, m2, m3, m8, m9, m14, m15, m16, m17, m18, m20, m22, m25, hnm9⟩ := id hm
  obtain ⟨o0, o1, o2, o3, o4, o5, o6, o10, oc, op0, opz, opi, om0, omi, olim⟩ := id hO
  refine q_enter (L := [(0, .ref (g.1 + 467))]) (by decide) (Nat.le_of_ble_eq_true rfl) rfl ?_
  by_cases hok : xv C b 0 < 19
  · have hR0 : RB C b (xv (q_up X 467 19 (zi 0)) 468) := by rw [xv_up_row _ _ _ (by omega)]; exact hR
    have hD0 : 0 ≤ xv (q_up X 467 19 (zi 0)) 467 1 ∧ xv (q_up X 467 19 (zi 0)) 467 1 ≤ 8 := by rw [xv_up_ne _ _ (by omega)]; exact hD
    refine r_aload_n (i := 0) (pc' := 1) dX12_year_0 rfl rfl (.head _) ?_
    refine r_aload_n (i := 0) (pc' := 2) dX12_year_1 rfl rfl (.head _) ?_
    refine r_getR (pc' := 5) dX12_year_2 rfl fX12_3 rfl (by first | assumption | rfl) (by omega) (by assumption) ?_
    refine r_iconst (pc' := 6) dX12_year_5 rfl ?_
    refine r_iaload (pc' := 7) dX12_year_6 rfl (by first | assumption | rfl) (by omega) (by omega) (by omega) (by first | decide | omega) (show Int.toNat 0 = 0 from rfl) ?_
    rw [hR.z 0 (by decide)]
    refine r_bipush (pc' := 9) dX12_year_7 rfl (by decide) ?_
    refine r_icmp_ne (t := 17) (f := 12) dX12_year_9 (by decide) rfl (by first | omega | exact xv_in _ _ _) (by first | omega | exact xv_in _ _ _) (fun h9 => ?_) (fun h9 => ?_)
    · refine r_iconst (pc' := 18) dX12_year_17 rfl ?_
      refine r_V1gi (ci := 12) (pc' := 21) dX12_year_18 rfl lX12_281 rfl (by decide) (Nat.le_of_ble_eq_true rfl) (by first | assumption | rfl) (by omega) (tX12_refuses hm (by omega)) (fun r18 n18 P18 X18 Y18 e18 le18 => ?_)
      obtain ⟨h1v, h2v, h3v, h4v, hr18⟩ := e18
      rw [if_pos (by omega)] at hr18
      subst h1v h2v h3v h4v hr18
      refine r_if_eq (t := 26) (f := 24) dX12_year_21 (by decide) rfl (by first | omega | exact xv_in _ _ _) (fun h21 => ?_) (fun h21 => ?_)
      · refine r_iconst (pc' := 27) dX12_year_26 rfl ?_
        refine r_aload_n (i := 0) (pc' := 28) dX12_year_27 rfl rfl (.head _) ?_
        refine r_lconst (pc' := 29) (z := 0) dX12_year_28 rfl rfl ?_
        refine r_lconst (pc' := 30) (z := 0) dX12_year_29 rfl rfl ?_
        refine r_V2gi (ci := 12) (pc' := 33) dX12_year_30 rfl lX12_246 rfl (by decide) (Nat.le_of_ble_eq_true rfl) (by first | assumption | rfl) (by omega) (tX12_roomOf hm hR0 hO lB_0 lB_0) (fun r30 n30 P30 X30 Y30 e30 le30 => ?_)
        obtain ⟨h1v, h2v, h3v, ho30, hr30⟩ := e30
        subst h1v h2v h3v hr30
        have hR30 : RB C b (xv X30 468) := by rw [ho30.v (by omega)]; exact hR0
        rw [roomG_0, ← zi_nz (bk_room C b g0 g0)]
        refine r_S2p (pc' := 36) dX12_year_33 rfl lX12_224 (by decide) (Nat.le_of_ble_eq_true rfl) (tX12_greater (by omega) (nz_in _)) ?_
        refine r_istore_n (i := 1) (pc' := 37) dX12_year_36 rfl rfl rfl (.s1 .nil rfl rfl rfl) ?_
        refine r_iconst (pc' := 38) dX12_year_37 rfl ?_
        refine r_istore_n (i := 2) (pc' := 39) dX12_year_38 rfl rfl rfl (.s1 (.s1 .nil rfl rfl rfl) rfl rfl rfl) ?_
        have hD30 : 0 ≤ xv X30 467 1 ∧ xv X30 467 1 ≤ 8 := by rw [ho30.v (by omega)]; exact hD0
        have hni := nz_in (bk_room C b g0 g0)
        refine l1X12_year hm hR30 hO (r := (max 0 (nz (bk_room C b g0 g0)) + q_sum (stl C b) 0 (xv C (b + 4) 0).toNat)) ?_ _ 0 _ (Nat.zero_add _) (by rw [stl_eq hO])
        refine r_aload_n (i := 0) (pc' := 95) dX12_year_94 rfl rfl (.head _) ?_
        refine r_iconst (pc' := 96) dX12_year_95 rfl ?_
        refine r_V1gv (ci := 12) (pc' := 99) dX12_year_96 rfl lX12_72 rfl (by decide) (Nat.le_of_ble_eq_true rfl) (by first | assumption | rfl) (by omega) (tX12_deedOf hm (s := 0) (by omega) hD30) (fun n96 P96 X96 Y96 e96 le96 => ?_)
        obtain ⟨hg1_96, hg2_96, hg3_96, hg4_96⟩ := e96
        have g1_96 := Eq.symm hg1_96
        have g2_96 := Eq.symm hg2_96
        have g3_96 := Eq.symm hg3_96
        have g4_96 := Eq.symm hg4_96
        clear hg1_96 hg2_96 hg3_96 hg4_96
        subst g1_96 g2_96 g3_96 g4_96
        have hRd := RB.dd hR30 hO hT hD30
        have hrd := dd_h ho30 hD0
        generalize dd X30 0 = Xd at hRd hrd ⊢
        refine r_aload_n (i := 0) (pc' := 100) dX12_year_99 rfl rfl (.head _) ?_
        refine r_getR (pc' := 103) dX12_year_100 rfl fX12_3 rfl (by first | assumption | rfl) (by omega) (by assumption) ?_
        refine r_iconst (pc' := 104) dX12_year_103 rfl ?_
        refine r_dup2 (pc' := 105) dX12_year_104 rfl rfl rfl ?_
        refine r_iaload (pc' := 106) dX12_year_105 rfl (by first | assumption | rfl) (by omega) (by omega) (by omega) (by first | decide | omega) (show Int.toNat 0 = 0 from rfl) ?_
        rw [hRd.z 0 (by decide)]
        refine r_iconst (pc' := 107) dX12_year_106 rfl ?_
        refine r_iadd (pc' := 108) dX12_year_107 rfl ?_
        refine r_iastore (pc' := 109) dX12_year_108 rfl (by first | assumption | rfl) (by omega) (by omega) (by omega) (by first | decide | omega) (show Int.toNat 0 = 0 from rfl) ?_
        refine r_aload_n (i := 0) (pc' := 110) dX12_year_109 rfl rfl (.head _) ?_
        refine r_getR (pc' := 113) dX12_year_110 rfl fX12_3 rfl (by first | assumption | rfl) (by omega) (by assumption) ?_
        refine r_iconst (pc' := 114) dX12_year_113 rfl ?_
        refine r_iconst (pc' := 115) dX12_year_114 rfl ?_
        refine r_iastore (pc' := 116) dX12_year_115 rfl (by first | assumption | rfl) (by omega) (by omega) (by omega) (by first | decide | omega) (show Int.toNat 1 = 1 from rfl) ?_
        refine r_aload_n (i := 0) (pc' := 117) dX12_year_116 rfl rfl (.head _) ?_
        refine r_getR (pc' := 120) dX12_year_117 rfl fX12_3 rfl (by first | assumption | rfl) (by omega) (by assumption) ?_
        refine r_bipush (pc' := 122) dX12_year_120 rfl (by decide) ?_
        refine r_aload_n (i := 0) (pc' := 123) dX12_year_122 rfl rfl (.head _) ?_
        refine r_getR (pc' := 126) dX12_year_123 rfl fX12_3 rfl (by first | assumption | rfl) (by omega) (by assumption) ?_
        refine r_iconst (pc' := 127) dX12_year_126 rfl ?_
        refine r_iaload (pc' := 128) dX12_year_127 rfl (by first | assumption | rfl) (by omega) (by omega) (by omega) (by first | decide | omega) (show Int.toNat 0 = 0 from rfl) ?_
        rw [xv_up_ne _ _ (by omega), xv_up_same _ _ _ (by omega)]
        refine r_iadd (pc' := 129) dX12_year_128 rfl ?_
        refine r_iconst (pc' := 130) dX12_year_129 rfl ?_
        refine r_ldc (pc' := 132) dX12_year_130 rfl kX12_106 ?_
        refine r_aload_n (i := 0) (pc' := 133) dX12_year_132 rfl rfl (.head _) ?_
        refine r_getR (pc' := 136) dX12_year_133 rfl fX12_3 rfl (by first | assumption | rfl) (by omega) (by assumption) ?_
        refine r_bipush (pc' := 138) dX12_year_136 rfl (by decide) ?_
        refine r_aload_n (i := 0) (pc' := 139) dX12_year_138 rfl rfl (.head _) ?_
        refine r_getR (pc' := 142) dX12_year_139 rfl fX12_3 rfl (by first | assumption | rfl) (by omega) (by assumption) ?_
        refine r_iconst (pc' := 143) dX12_year_142 rfl ?_
        refine r_iaload (pc' := 144) dX12_year_143 rfl (by first | assumption | rfl) (by omega) (by omega) (by omega) (by first | decide | omega) (show Int.toNat 0 = 0 from rfl) ?_
        rw [xv_up_ne _ _ (by omega), xv_up_same _ _ _ (by omega)]
        refine r_iadd (pc' := 145) dX12_year_144 rfl ?_
        refine r_iaload (pc' := 146) dX12_year_145 rfl (by first | assumption | rfl) (by omega) (by omega) (by omega) (by first | decide | omega) (show _ = (10 + (xv C b 0 + 1)).toNat by omega) ?_
        rw [xv_up_ne _ _ (by omega), xv_up_ne _ _ (by omega), hRd.lim (by omega)]
        refine r_iload_n (i := 1) (pc' := 147) dX12_year_146 rfl rfl (.tail _ (.head _)) ?_
        refine r_iadd (pc' := 148) dX12_year_147 rfl ?_
        rw [← zi_nz (xv C (b + 1) (xv C b 0 + 1).toNat + (max 0 (nz (bk_room C b g0 g0)) + q_sum (stl C b) 0 (xv C (b + 4) 0).toNat))]
        refine r_S2p (pc' := 151) dX12_year_148 rfl lX12_122 (by decide) (Nat.le_of_ble_eq_true rfl) (tX12_lesser (by omega) (nz_in _)) ?_
        refine r_S2p (pc' := 154) dX12_year_151 rfl lX12_224 (by decide) (Nat.le_of_ble_eq_true rfl) (tX12_greater (by omega) (by have := nz_in (xv C (b + 1) (xv C b 0 + 1).toNat + (max 0 (nz (bk_room C b g0 g0)) + q_sum (stl C b) 0 (xv C (b + 4) 0).toNat)); omega)) ?_
        refine r_iastore (pc' := 155) dX12_year_154 rfl (by first | assumption | rfl) (by omega) (by omega) (by omega) (by first | decide | omega) (show _ = 10 + (xv C b 0 + 1).toNat by omega) ?_
        refine r_iconst (pc' := 156) dX12_year_155 rfl ?_
        refine r_istore_n (i := 2) (pc' := 157) dX12_year_156 rfl rfl rfl (.s1 (.s1 .nil rfl rfl rfl) rfl rfl rfl) ?_
        refine r_iconst (pc' := 158) dX12_year_157 rfl ?_
        refine r_istore_n (i := 3) (pc' := 159) dX12_year_158 rfl rfl rfl (.s1 (.s1 (.s1 .nil rfl rfl rfl) rfl rfl rfl) rfl rfl rfl) ?_
        have hRp := ((hRd.uz (j := 0) (by omega) (zi (xv C b 0 + 1))).uz (j := 1) (by omega) (zi 0)).ul (y := (xv C b 0 + 1).toNat) (by rw [xv_up_row _ _ _ (by omega), xv_up_row _ _ _ (by omega)]; exact hT) (by omega) (zi (max 0 (min 999999 (nz (xv C (b + 1) (xv C b 0 + 1).toNat + (max 0 (nz (bk_room C b g0 g0)) + q_sum (stl C b) 0 (xv C (b + 4) 0).toNat))))))
        rw [← Int.add_assoc, ← bk_p1_eq, Int.add_assoc] at hRp
        refine l2X12_year hm hO hT hL (room := nz (bk_room C b g0 g0)) (r := bk_yearN C b) hok (X0 := Xd) (fun X9 ho9 hR9 => ?_) _ 0 0 _ (Nat.zero_add _) (((rOut.rfl.up (by omega)).up (by omega)).up (by omega)) hRp (Int.zero_add _)
        refine r_iload_n (i := 2) (pc' := 239) dX12_year_238 rfl rfl (.tail _ (.tail _ (.head _))) ?_
        refine r_ireturn dX12_year_239 rfl ?_
        refine ⟨_, rfl, ?_⟩
        dsimp only
        rw [if_pos hok]
        exact ⟨rfl, rfl, rfl, hrd.r.trans ho9, hR9, rfl⟩
      · exfalso; omega
    · exfalso; omega
  · refine r_aload_n (i := 0) (pc' := 1) dX12_year_0 rfl rfl (.head _) ?_
    refine r_aload_n (i := 0) (pc' := 2) dX12_year_1 rfl rfl (.head _) ?_
    refine r_getR (pc' := 5) dX12_year_2 rfl fX12_3 rfl (by first | assumption | rfl) (by omega) (by assumption) ?_
    refine r_iconst (pc' := 6) dX12_year_5 rfl ?_
    refine r_iaload (pc' := 7) dX12_year_6 rfl (by first | assumption | rfl) (by omega) (by omega) (by omega) (by first | decide | omega) (show Int.toNat 0 = 0 from rfl) ?_
    rw [hR.z 0 (by decide)]
    refine r_bipush (pc' := 9) dX12_year_7 rfl (by decide) ?_
    refine r_icmp_ne (t := 17) (f := 12) dX12_year_9 (by decide) rfl (by first | omega | exact xv_in _ _ _) (by first | omega | exact xv_in _ _ _) (fun h9 => ?_) (fun h9 => ?_)
    · exfalso; omega
    · refine r_bipush (pc' := 14) dX12_year_12 rfl (by decide) ?_
      refine r_goto (t := 18) dX12_year_14 (by decide) ?_
      refine r_V1gi (ci := 12) (pc' := 21) dX12_year_18 rfl lX12_281 rfl (by decide) (Nat.le_of_ble_eq_true rfl) (by first | assumption | rfl) (by omega) (tX12_refuses hm (by omega)) (fun r18 n18 P18 X18 Y18 e18 le18 => ?_)
      obtain ⟨h1v, h2v, h3v, h4v, hr18⟩ := e18
      rw [if_neg (by omega)] at hr18
      subst h1v h2v h3v h4v hr18
      refine r_if_eq (t := 26) (f := 24) dX12_year_21 (by decide) rfl (by first | omega | exact xv_in _ _ _) (fun h21 => ?_) (fun h21 => ?_)
      · exfalso; omega
      · refine r_iconst (pc' := 25) dX12_year_24 rfl ?_
        refine r_ireturn dX12_year_25 rfl ?_
        refine ⟨_, rfl, ?_⟩
        dsimp only
        rw [if_neg hok]
        exact ⟨rfl, rfl, rfl, rfl, rfl⟩
