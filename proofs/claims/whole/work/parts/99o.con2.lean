theorem tF.put {C X : q_X} (h : tF C X) {c : Nat} (hc : c + 1 ≠ 444 ∧ c + 2 ≠ 444) (i b r : Int) : tF (c_put C c i b r) X := h.cg (by rw [c_put_o _ _ _ _ _ (by omega)])
theorem tF.pay {C X : q_X} {d c : Nat} (h : tF (rd_exp C 58) X) (hc : c + 1 ≠ 444 ∧ c + 2 ≠ 444) (i : Nat) : tF (rdPay C d c i) X := ((h.N _ _).num _ _).put hc _ _ _
theorem tF.pays {C X : q_X} {d c : Nat} (hc : c + 1 ≠ 444 ∧ c + 2 ≠ 444) {i : Nat} (h : tF (rdPays C d c i) X) : ∀ w, tF (rdPays C d c (i + w)) X
  | 0 => h
  | w + 1 => by rw [← Nat.add_assoc, rdPays]; exact ((tF.pays hc h w).exp 58).pay hc _
theorem rdPays_6 {C : q_X} {d : Nat} (hd : d + 220 ≤ 441) (i : Nat) : xv (rdPays (rd8 C d) d (rdc C d) i) d 6 = xv C d 6 := by
  have hc : rdc C d = d + 20 + 5 * (xv C d 10).toNat := rfl
  rw [rdPays_o (by omega), rd8, c_spread_o _ _ _ _ (by omega), rd7, c_start_o _ _ _ _ _ _ (by omega), rd6, xv_up_ne _ _ (by omega), rd5_o (by omega)]
def rowI (C : q_X) (d A f i : Nat) (X2 X : q_X) : Prop := ∀ j, xv X 468 j = if A + 6 + f ≤ j ∧ j < A + 6 + f + i then pyB C d (j - (A + 6 + f)) else if A + 26 + f ≤ j ∧ j < A + 26 + f + i then pyR C d (j - (A + 26 + f)) else xv X2 468 j
theorem rowI.step {C : q_X} {d A f i : Nat} {X2 X Xa Xb Xc : q_X} (h : rowI C d A f i X2 X) (hf : f + i < 20) (h1 : xv Xa 468 = xv X 468) (h2 : xv Xb 468 = xv (q_up Xa 468 (A + 6 + f + i) (zi (pyB C d i))) 468) (h3 : xv Xc 468 = xv (q_up Xb 468 (A + 26 + f + i) (zi (pyR C d i))) 468) : rowI C d A f (i + 1) X2 Xc := by
  intro j
  have b1 := pyB_b C d i
  have b2 := pyR_b C d i
  rw [h3]
  by_cases e1 : j = A + 26 + f + i
  · subst e1
    rw [xv_up_same _ _ _ (by omega), if_neg (by omega), if_pos (by omega)]; congr 1; omega
  · rw [xv_up_ne _ _ (by omega), h2]
    by_cases e2 : j = A + 6 + f + i
    · subst e2
      rw [xv_up_same _ _ _ (by omega), if_pos (by omega)]; congr 1; omega
    · rw [xv_up_ne _ _ (by omega), h1, h j]
      by_cases g1 : A + 6 + f ≤ j ∧ j < A + 6 + f + i
      · rw [if_pos g1, if_pos (by omega)]
      · rw [if_neg g1, if_neg (c := A + 6 + f ≤ j ∧ j < A + 6 + f + (i + 1)) (by omega)]
        by_cases g2 : A + 26 + f ≤ j ∧ j < A + 26 + f + i
        · rw [if_pos g2, if_pos (by omega)]
        · rw [if_neg g2, if_neg (by omega)]
set_option maxHeartbeats 4000000 in
set_option maxRecDepth 100000 in
theorem lX12_readContract {l : Launch} {g : q_G} {n : Nat} {P : q_P} {Y : q_Y} (hmo : isMod n P) {C : q_X} {d z f m : Nat} (hd : d + 220 ≤ 441) (hO : bOk C d) (hz : xv C d 10 = (z : Int)) (hz40 : z < 40) (hf : rdf C d = (f : Int)) (hm : rdy C d = (m : Int)) (hfm : f + m ≤ 20) (hm6 : m ≤ 6) {bo : Int} {X2 : q_X} (g0 : xv X2 468 (130 + 86 * z) = (f : Int)) (g1 : xv X2 468 ((130 + 86 * z) + 1) = (m : Int)) (g6 : xv X2 468 6 = xv C d 6) {K : q_K} (kf : ∀ X', uO X2 X' → tF (conX C d) X' → K (some (.int (zi 0))) n P X' Y) (kk : ∀ X', uO X2 X' → tR (conX C d) X' → rowI C d (130 + 86 * z) f m X2 X' → q_Tr l g mX12_readContract 5 K 267 [(0, .ref (g.1 + 467)), (1, .int (zi (z : Int))), (2, .int (zi bo))] [] n P X' Y) : ∀ (w i : Nat) (X : q_X), i + w = m → uO X2 X → tR (rdPays (rd8 C d) d (rdc C d) i) X → rowI C d (130 + 86 * z) f i X2 X → q_Tr l g mX12_readContract 5 K 177 [(0, .ref (g.1 + 467)), (1, .int (zi (z : Int))), (2, .int (zi bo)), (3, .int (zi (i : Int)))] [] n P X Y := by
  have hm_ := hm
  clear hm
  have hm := hmo
  obtain ⟨m0, m2, m3, m8, m9, m14, m15, m16, m17, m18, m20, m22, m25, hnm9⟩ := id hm
  have hc : rdc C d = d + 20 + 5 * (xv C d 10).toNat := rfl
  have hcm : (rdy C d).toNat = m := by omega
  have o6 := hO.2.2.2.2.2.2.1
  intro w
  induction w with
  | zero =>
    intro i X hi ho hR hI
    obtain rfl : i = m := by omega
    have e1 : xv X 468 ((130 + 86 * z) + 1) = (i : Int) := by rw [hI, if_neg (by omega), if_neg (by omega), g1]
    have kk := kk X ho
    rw [conX, hcm] at kk
    refine r_iload_n (i := 3) (pc' := 178) dX12_readContract_177 rfl rfl (.tail _ (.tail _ (.tail _ (.head _)))) ?_
    refine r_aload_n (i := 0) (pc' := 179) dX12_readContract_178 rfl rfl (.head _) ?_
    refine r_iload_n (i := 1) (pc' := 180) dX12_readContract_179 rfl rfl (.tail _ (.head _)) ?_
    refine r_iconst (pc' := 181) dX12_readContract_180 rfl ?_
    refine r_V2p (ci := 12) (pc' := 184) dX12_readContract_181 rfl lX12_115 rfl (by decide) (Nat.le_of_ble_eq_true rfl) (by first | assumption | rfl) (by omega) (tX12_of hm (k := (z : Int)) (w := 1) (by omega) (by omega)) ?_
    rw [show (130 + 86 * (z : Int) + 1).toNat = 130 + 86 * z + 1 by omega, e1]
    refine r_icmp_ge (t := 267) (f := 187) dX12_readContract_184 (by decide) rfl (by first | omega | exact xv_in _ _ _) (by first | omega | exact xv_in _ _ _) (fun h184 => ?_) (fun h184 => ?_)
    · refine r_sub (.kp (.kp (.kp (.dr .nil)))) ?_
      exact kk hR hI
    · exfalso; omega
  | succ w ih =>
    intro i X hi ho hR hI
    have e0 : xv X 468 (130 + 86 * z) = (f : Int) := by rw [hI, if_neg (by omega), if_neg (by omega), g0]
    have e1 : xv X 468 ((130 + 86 * z) + 1) = (m : Int) := by rw [hI, if_neg (by omega), if_neg (by omega), g1]
    have e6 : xv X 468 6 = xv (rdPays (rd8 C d) d (rdc C d) i) d 6 := by rw [hI, if_neg (by omega), if_neg (by omega), g6, rdPays_6 hd]
    have d6 := rdPays_6 (C := C) hd i
    have hpe : m = i + (w + 1) := by omega
    have kf0 := kf
    have kf : ∀ X', uO X2 X' → tF (rd_exp (rdPays (rd8 C d) d (rdc C d) i) 58) X' → K (some (.int (zi 0))) n P X' Y := fun X' h1 h2 => by
      refine kf X' h1 ?_
      have q := tF.pays (by omega) (h2.pay (d := d) (c := rdc C d) (by omega) i) w (i := i + 1) (C := rd8 C d)
      rw [conX, hcm, hpe, show i + (w + 1) = i + 1 + w by omega]; exact q
    have kf2 : ∀ X', uO X2 X' → tF (rd_numX (rd_exp (rdPays (rd8 C d) d (rdc C d) i) 58) (xv (rdPays (rd8 C d) d (rdc C d) i) d 6) 99999) X' → K (some (.int (zi 0))) n P X' Y := fun X' h1 h2 => by
      refine kf0 X' h1 ?_
      have q := tF.pays (d := d) (c := rdc C d) (by omega) (((h2.exp 44).num 0 99999).put (c := rdc C d) (by omega) (i : Int) (pyB C d i) (pyR C d i)) w (i := i + 1) (C := rd8 C d)
      rw [conX, hcm, hpe, show i + (w + 1) = i + 1 + w by omega]; exact q
    have kf3 : ∀ X', uO X2 X' → tF (rd_numX (rdN (rd_exp (rdPays (rd8 C d) d (rdc C d) i) 58) (xv (rdPays (rd8 C d) d (rdc C d) i) d 6) 99999) 0 99999) X' → K (some (.int (zi 0))) n P X' Y := fun X' h1 h2 => by
      refine kf0 X' h1 ?_
      have q := tF.pays (d := d) (c := rdc C d) (by omega) (h2.put (c := rdc C d) (by omega) (i : Int) (pyB C d i) (pyR C d i)) w (i := i + 1) (C := rd8 C d)
      rw [conX, hcm, hpe, show i + (w + 1) = i + 1 + w by omega]; exact q
    refine r_iload_n (i := 3) (pc' := 178) dX12_readContract_177 rfl rfl (.tail _ (.tail _ (.tail _ (.head _)))) ?_
    refine r_aload_n (i := 0) (pc' := 179) dX12_readContract_178 rfl rfl (.head _) ?_
    refine r_iload_n (i := 1) (pc' := 180) dX12_readContract_179 rfl rfl (.tail _ (.head _)) ?_
    refine r_iconst (pc' := 181) dX12_readContract_180 rfl ?_
    refine r_V2p (ci := 12) (pc' := 184) dX12_readContract_181 rfl lX12_115 rfl (by decide) (Nat.le_of_ble_eq_true rfl) (by first | assumption | rfl) (by omega) (tX12_of hm (k := (z : Int)) (w := 1) (by omega) (by omega)) ?_
    rw [show (130 + 86 * (z : Int) + 1).toNat = 130 + 86 * z + 1 by omega, e1]
    refine r_icmp_ge (t := 267) (f := 187) dX12_readContract_184 (by decide) rfl (by first | omega | exact xv_in _ _ _) (by first | omega | exact xv_in _ _ _) (fun h184 => ?_) (fun h184 => ?_)
    · exfalso; omega
    · refine r_aload_n (i := 0) (pc' := 188) dX12_readContract_187 rfl rfl (.head _) ?_
      refine r_iload_n (i := 1) (pc' := 189) dX12_readContract_188 rfl rfl (.tail _ (.head _)) ?_
      refine r_iconst (pc' := 190) dX12_readContract_189 rfl ?_
      refine r_V2p (ci := 12) (pc' := 193) dX12_readContract_190 rfl lX12_115 rfl (by decide) (Nat.le_of_ble_eq_true rfl) (by first | assumption | rfl) (by omega) (tX12_of hm (k := (z : Int)) (w := 0) (by omega) (by omega)) ?_
      rw [show (130 + 86 * (z : Int) + 0).toNat = 130 + 86 * z by omega, e0]
      refine r_iload_n (i := 3) (pc' := 194) dX12_readContract_193 rfl rfl (.tail _ (.tail _ (.tail _ (.head _)))) ?_
      refine r_iadd (pc' := 195) dX12_readContract_194 rfl ?_
      refine r_istore (pc' := 197) dX12_readContract_195 rfl rfl (.s1 (.s1 (.s1 (.s1 .nil rfl rfl rfl) rfl rfl rfl) rfl rfl rfl) rfl rfl rfl) ?_
      refine r_aload_n (i := 0) (pc' := 198) dX12_readContract_197 rfl rfl (.head _) ?_
      refine r_bipush (pc' := 200) dX12_readContract_198 rfl (by decide) ?_
      refine r_V1gi (ci := 12) (pc' := 203) dX12_readContract_200 rfl lX12_103 rfl (by decide) (Nat.le_of_ble_eq_true rfl) (by first | assumption | rfl) (by omega) (tT_takes (C := (rdPays (rd8 C d) d (rdc C d) i)) hm hR (by omega) (by omega)) (fun r200 n200 P200 X200 Y200 e200 le200 => ?_)
      obtain ⟨h1v, h2v, h3v, hq200⟩ := e200
      subst h1v h2v h3v
      rcases hq200 with ⟨hz200, ho200, ht200⟩ | ⟨hz200, ho200, hf200⟩
      · subst hz200
        refine r_if_eq (t := 259) (f := 206) dX12_readContract_203 (by decide) rfl (by first | omega | exact xv_in _ _ _) (fun h203 => ?_) (fun h203 => ?_)
        · exfalso; omega
        · refine r_aload_n (i := 0) (pc' := 207) dX12_readContract_206 rfl rfl (.head _) ?_
          refine r_iload_n (i := 1) (pc' := 208) dX12_readContract_207 rfl rfl (.tail _ (.head _)) ?_
          refine r_bipush (pc' := 210) dX12_readContract_208 rfl (by decide) ?_
          refine r_iload (pc' := 212) dX12_readContract_210 rfl (.tail _ (.tail _ (.tail _ (.tail _ (.head _))))) ?_
          refine r_iadd (pc' := 213) dX12_readContract_212 rfl ?_
          refine r_S2p (pc' := 216) dX12_readContract_213 rfl lX12_111 (by decide) (Nat.le_of_ble_eq_true rfl) (tX12_placeOf ) ?_
          rw [show 130 + 86 * (z : Int) + (6 + ((f : Int) + (i : Int))) = (((130 + 86 * z) + 6 + f + i : Nat) : Int) by omega]
          refine r_aload_n (i := 0) (pc' := 217) dX12_readContract_216 rfl rfl (.head _) ?_
          refine r_getR (pc' := 220) dX12_readContract_217 rfl fX12_3 rfl (by first | assumption | rfl) (by omega) (by assumption) ?_
          refine r_bipush (pc' := 222) dX12_readContract_220 rfl (by decide) ?_
          refine r_iaload (pc' := 223) dX12_readContract_222 rfl (by first | assumption | rfl) (by omega) (by omega) (by omega) (by first | decide | omega) (show Int.toNat 6 = 6 from rfl) ?_
          rw [ho200.v (by omega), e6]
          refine r_ldc (pc' := 225) dX12_readContract_223 rfl kX12_135 ?_
          refine r_V3gi (ci := 12) (pc' := 228) dX12_readContract_225 rfl lX12_107 rfl (by decide) (Nat.le_of_ble_eq_true rfl) (by first | assumption | rfl) (by omega) (tX12_reads (C := rd_exp (rdPays (rd8 C d) d (rdc C d) i) 58) hm ht200 (by omega) (by omega) (to := (130 + 86 * z) + 6 + f + i) (by omega)) (fun r225 n225 P225 X225 Y225 e225 le225 => ?_)
          obtain ⟨h1v, h2v, h3v, hq225⟩ := e225
          subst h1v h2v h3v
          rcases hq225 with ⟨hz225, X3, ho225, hX3, ht225, hb1, hb2⟩ | ⟨hz225, ho225, hf225⟩
          · subst hz225
            subst hX3
            refine r_if_eq (t := 259) (f := 231) dX12_readContract_228 (by decide) rfl (by first | omega | exact xv_in _ _ _) (fun h228 => ?_) (fun h228 => ?_)
            · exfalso; omega
            · refine r_aload_n (i := 0) (pc' := 232) dX12_readContract_231 rfl rfl (.head _) ?_
              refine r_bipush (pc' := 234) dX12_readContract_232 rfl (by decide) ?_
              refine r_V1gi (ci := 12) (pc' := 237) dX12_readContract_234 rfl lX12_103 rfl (by decide) (Nat.le_of_ble_eq_true rfl) (by first | assumption | rfl) (by omega) (tT_takes (C := rd_numX (rd_exp (rdPays (rd8 C d) d (rdc C d) i) 58) (xv (rdPays (rd8 C d) d (rdc C d) i) d 6) 99999) hm (ht225.up _ _) (by omega) (by omega)) (fun r234 n234 P234 X234 Y234 e234 le234 => ?_)
              obtain ⟨h1v, h2v, h3v, hq234⟩ := e234
              subst h1v h2v h3v
              rcases hq234 with ⟨hz234, ho234, ht234⟩ | ⟨hz234, ho234, hf234⟩
              · subst hz234
                refine r_if_eq (t := 259) (f := 240) dX12_readContract_237 (by decide) rfl (by first | omega | exact xv_in _ _ _) (fun h237 => ?_) (fun h237 => ?_)
                · exfalso; omega
                · refine r_aload_n (i := 0) (pc' := 241) dX12_readContract_240 rfl rfl (.head _) ?_
                  refine r_iload_n (i := 1) (pc' := 242) dX12_readContract_241 rfl rfl (.tail _ (.head _)) ?_
                  refine r_bipush (pc' := 244) dX12_readContract_242 rfl (by decide) ?_
                  refine r_iload (pc' := 246) dX12_readContract_244 rfl (.tail _ (.tail _ (.tail _ (.tail _ (.head _))))) ?_
                  refine r_iadd (pc' := 247) dX12_readContract_246 rfl ?_
                  refine r_S2p (pc' := 250) dX12_readContract_247 rfl lX12_111 (by decide) (Nat.le_of_ble_eq_true rfl) (tX12_placeOf ) ?_
                  rw [show 130 + 86 * (z : Int) + (26 + ((f : Int) + (i : Int))) = (((130 + 86 * z) + 26 + f + i : Nat) : Int) by omega]
                  refine r_iconst (pc' := 251) dX12_readContract_250 rfl ?_
                  refine r_ldc (pc' := 253) dX12_readContract_251 rfl kX12_135 ?_
                  refine r_V3gi (ci := 12) (pc' := 256) dX12_readContract_253 rfl lX12_107 rfl (by decide) (Nat.le_of_ble_eq_true rfl) (by first | assumption | rfl) (by omega) (tX12_reads (C := rdN (rd_exp (rdPays (rd8 C d) d (rdc C d) i) 58) (xv (rdPays (rd8 C d) d (rdc C d) i) d 6) 99999) hm ht234 (by omega) (by omega) (to := (130 + 86 * z) + 26 + f + i) (by omega)) (fun r253 n253 P253 X253 Y253 e253 le253 => ?_)
                  obtain ⟨h1v, h2v, h3v, hq253⟩ := e253
                  subst h1v h2v h3v
                  rcases hq253 with ⟨hz253, X4, ho253, hX4, ht253, hc1, hc2⟩ | ⟨hz253, ho253, hf253⟩
                  · subst hz253
                    subst hX4
                    refine r_if_ne (t := 261) (f := 259) dX12_readContract_256 (by decide) rfl (by first | omega | exact xv_in _ _ _) (fun h256 => ?_) (fun h256 => ?_)
                    · refine r_iinc (pc' := 264) dX12_readContract_261 rfl rfl (.tail _ (.tail _ (.tail _ (.head _)))) (.s1 (.s1 (.s1 (.here (.s1 .nil rfl rfl rfl)) rfl rfl rfl) rfl rfl rfl) rfl rfl rfl) ?_
                      refine r_goto (t := 177) dX12_readContract_264 (by decide) ?_
                      refine r_sub (.kp (.kp (.kp (.kp (.dr .nil))))) ?_
                      refine ih (i + 1) _ (by omega) ((((((ho.trans ho200.u).trans ho225.u).up (by omega)).trans ho234.u).trans ho253.u).up (by omega)) ?_ ?_
                      · rw [rdPays_s]
                        refine (ht253.up _ _).cg ?_ ?_ ?_
                        · rw [c_put_o _ _ _ _ _ (by omega)]
                        · rw [c_put_o _ _ _ _ _ (by omega)]
                        · rw [c_put_o _ _ _ _ _ (by omega)]
                      · refine hI.step (Xa := X3) (Xb := X4) (by omega) ?_ ?_ rfl
                        · rw [ho225.v (by omega), ho200.v (by omega)]
                        · rw [ho253.v (by omega), ho234.v (by omega)]; rfl
                    · exfalso; omega
                  · subst hz253
                    refine r_if_ne (t := 261) (f := 259) dX12_readContract_256 (by decide) rfl (by first | omega | exact xv_in _ _ _) (fun h256 => ?_) (fun h256 => ?_)
                    · exfalso; omega
                    · refine r_iconst (pc' := 260) dX12_readContract_259 rfl ?_
                      refine r_zreturn dX12_readContract_260 rfl (by first | decide | (split <;> omega) | omega) ?_
                      exact kf3 _ (((((ho.trans ho200.u).trans ho225.u).up (by omega)).trans ho234.u).trans ho253.u) (hf253)
              · subst hz234
                refine r_if_eq (t := 259) (f := 240) dX12_readContract_237 (by decide) rfl (by first | omega | exact xv_in _ _ _) (fun h237 => ?_) (fun h237 => ?_)
                · refine r_iconst (pc' := 260) dX12_readContract_259 rfl ?_
                  refine r_zreturn dX12_readContract_260 rfl (by first | decide | (split <;> omega) | omega) ?_
                  exact kf3 _ ((((ho.trans ho200.u).trans ho225.u).up (by omega)).trans ho234.u) (hf234.num _ _)
                · exfalso; omega
          · subst hz225
            refine r_if_eq (t := 259) (f := 231) dX12_readContract_228 (by decide) rfl (by first | omega | exact xv_in _ _ _) (fun h228 => ?_) (fun h228 => ?_)
            · refine r_iconst (pc' := 260) dX12_readContract_259 rfl ?_
              refine r_zreturn dX12_readContract_260 rfl (by first | decide | (split <;> omega) | omega) ?_
              exact kf2 _ ((ho.trans ho200.u).trans ho225.u) (hf225)
            · exfalso; omega
      · subst hz200
        refine r_if_eq (t := 259) (f := 206) dX12_readContract_203 (by decide) rfl (by first | omega | exact xv_in _ _ _) (fun h203 => ?_) (fun h203 => ?_)
        · refine r_iconst (pc' := 260) dX12_readContract_259 rfl ?_
          refine r_zreturn dX12_readContract_260 rfl (by first | decide | (split <;> omega) | omega) ?_
          exact kf _ (ho.trans ho200.u) (hf200)
        · exfalso; omega
