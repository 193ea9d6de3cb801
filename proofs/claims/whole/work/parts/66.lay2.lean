theorem lh_in {C : q_X} {b : Nat} {G T : Nat → Bool} {k : Nat} (hO : bOk C b) (hk : (k : Int) < xv C b 10) : -1 ≤ lh C b G T k ∧ lh C b G T k ≤ 10000000 := by
  have h6 := hO.2.2.2.2.2.2.1
  have := bk_hT_b T (hO.c hk) h6.1
  unfold lh; split <;> omega
set_option maxHeartbeats 4000000 in
set_option maxRecDepth 100000 in
theorem i2X12_layHits {l : Launch} {g : q_G} {n : Nat} {P : q_P} {Y : q_Y} {X : q_X} (hm : isMod n P) {C : q_X} {b : Nat} (hO : bOk C b) (hR : RB C b (xv X 468)) {cu tu : Int64} {G T : Nat → Bool} {day : Int} (hL : LH1 C b G T X (xv C b 10).toNat) {K : q_K} {i : Nat} (hi : (i : Int) < xv C b 10) {r : Int} (kk : q_Tr l g mX12_layHits 4 K 240 [(0, .ref (g.1 + 467)), (1, .long cu), (3, .long tu), (5, .int (zi day)), (6, .int (zi (xv C b 0))), (7, .int (zi (i : Int))), (8, .int (zi r))] [] n P X Y) : ∀ (w o : Nat) (s : Int), o + w = (xv C b 10).toNat → s + q_sum (fun o => if lh C b G T i < lh C b G T o ∨ (lh C b G T o = lh C b G T i ∧ o < i) then (1 : Int) else 0) o w = r → q_Tr l g mX12_layHits 4 K 171 [(0, .ref (g.1 + 467)), (1, .long cu), (3, .long tu), (5, .int (zi day)), (6, .int (zi (xv C b 0))), (7, .int (zi (i : Int))), (8, .int (zi s)), (9, .int (zi (o : Int)))] [] n P X Y := by
  obtain ⟨m0, m2, m3, m8, m9, m14, m15, m16, m17, m18, m20, m22, m25, hnm9⟩ := id hm
  obtain ⟨o0, o1, o2, o3, o4, o5, o6, o10, oc, op0, opz, opi, om0, omi, olim⟩ := id hO
  have hLi := (hL i (by omega)).1
  have hbi := lh_in (G := G) (T := T) hO hi
  intro w
  induction w with
  | zero =>
    intro o s ho hr
    refine r_iload (pc' := 173) dX12_layHits_171 rfl (.tail _ (.tail _ (.tail _ (.tail _ (.tail _ (.tail _ (.tail _ (.head _)))))))) ?_
    refine r_aload_n (i := 0) (pc' := 174) dX12_layHits_173 rfl rfl (.head _) ?_
    refine r_getR (pc' := 177) dX12_layHits_174 rfl fX12_3 rfl (by first | assumption | rfl) (by omega) (by assumption) ?_
    refine r_bipush (pc' := 179) dX12_layHits_177 rfl (by decide) ?_
    refine r_iaload (pc' := 180) dX12_layHits_179 rfl (by first | assumption | rfl) (by omega) (by omega) (by omega) (by first | decide | omega) (show Int.toNat 7 = 7 from rfl) ?_
    rw [hR.m]
    refine r_icmp_ge (t := 240) (f := 183) dX12_layHits_180 (by decide) rfl (by first | omega | exact xv_in _ _ _) (by first | omega | exact xv_in _ _ _) (fun h180 => ?_) (fun h180 => ?_)
    · refine r_sub (.kp (.kp (.kp (.kp (.kp (.kp (.kp (.dr .nil)))))))) ?_
      rw [show s = r by rw [← hr]; simp [q_sum]]
      exact kk
    · exfalso; omega
  | succ w ih =>
    intro o s ho hr
    have hLo := (hL o (by omega)).1
    have hbo := lh_in (G := G) (T := T) (k := o) hO (by omega)
    refine r_iload (pc' := 173) dX12_layHits_171 rfl (.tail _ (.tail _ (.tail _ (.tail _ (.tail _ (.tail _ (.tail _ (.head _)))))))) ?_
    refine r_aload_n (i := 0) (pc' := 174) dX12_layHits_173 rfl rfl (.head _) ?_
    refine r_getR (pc' := 177) dX12_layHits_174 rfl fX12_3 rfl (by first | assumption | rfl) (by omega) (by assumption) ?_
    refine r_bipush (pc' := 179) dX12_layHits_177 rfl (by decide) ?_
    refine r_iaload (pc' := 180) dX12_layHits_179 rfl (by first | assumption | rfl) (by omega) (by omega) (by omega) (by first | decide | omega) (show Int.toNat 7 = 7 from rfl) ?_
    rw [hR.m]
    refine r_icmp_ge (t := 240) (f := 183) dX12_layHits_180 (by decide) rfl (by first | omega | exact xv_in _ _ _) (by first | omega | exact xv_in _ _ _) (fun h180 => ?_) (fun h180 => ?_)
    · exfalso; omega
    · refine r_iload (pc' := 185) dX12_layHits_183 rfl (.tail _ (.tail _ (.tail _ (.tail _ (.tail _ (.tail _ (.head _))))))) ?_
      refine r_aload_n (i := 0) (pc' := 186) dX12_layHits_185 rfl rfl (.head _) ?_
      refine r_getR (pc' := 189) dX12_layHits_186 rfl fX12_39 rfl (by first | assumption | rfl) (by omega) (by assumption) ?_
      refine r_iload (pc' := 191) dX12_layHits_189 rfl (.tail _ (.tail _ (.tail _ (.tail _ (.tail _ (.tail _ (.tail _ (.head _)))))))) ?_
      refine r_iaload (pc' := 192) dX12_layHits_191 rfl (by first | assumption | rfl) (by omega) (by omega) (by omega) (by first | decide | omega) (Int.toNat_natCast _) ?_
      rw [hLo]
      refine r_aload_n (i := 0) (pc' := 193) dX12_layHits_192 rfl rfl (.head _) ?_
      refine r_getR (pc' := 196) dX12_layHits_193 rfl fX12_39 rfl (by first | assumption | rfl) (by omega) (by assumption) ?_
      refine r_iload (pc' := 198) dX12_layHits_196 rfl (.tail _ (.tail _ (.tail _ (.tail _ (.tail _ (.head _)))))) ?_
      refine r_iaload (pc' := 199) dX12_layHits_198 rfl (by first | assumption | rfl) (by omega) (by omega) (by omega) (by first | decide | omega) (Int.toNat_natCast _) ?_
      rw [hLi]
      refine r_icmp_gt (t := 226) (f := 202) dX12_layHits_199 (by decide) rfl (by first | omega | exact xv_in _ _ _) (by first | omega | exact xv_in _ _ _) (fun h199 => ?_) (fun h199 => ?_)
      · refine r_iconst (pc' := 227) dX12_layHits_226 rfl ?_
        refine r_goto (t := 231) dX12_layHits_227 (by decide) ?_
        refine r_iadd (pc' := 232) dX12_layHits_231 rfl ?_
        refine r_istore (pc' := 234) dX12_layHits_232 rfl rfl (.s1 (.s2 (.s2 (.s1 (.s1 (.s1 (.here (.s1 .nil rfl rfl rfl)) rfl rfl rfl) rfl rfl rfl) rfl rfl rfl) rfl (.inl rfl) (.inr rfl)) rfl (.inl rfl) (.inr rfl)) rfl rfl rfl) ?_
        refine r_iinc (pc' := 237) dX12_layHits_234 rfl rfl (.tail _ (.tail _ (.tail _ (.tail _ (.tail _ (.tail _ (.tail _ (.head _)))))))) (.s1 (.s2 (.s2 (.s1 (.s1 (.s1 (.s1 (.here .nil) rfl rfl rfl) rfl rfl rfl) rfl rfl rfl) rfl rfl rfl) rfl (.inl rfl) (.inr rfl)) rfl (.inl rfl) (.inr rfl)) rfl rfl rfl) ?_
        refine r_goto (t := 171) dX12_layHits_237 (by decide) ?_
        refine ih (o + 1) _ (by omega) ?_
        rw [← hr, q_sum]
        try dsimp only
        first | (rw [if_pos (by omega)]; omega) | (rw [if_neg (by omega)]; omega)
      · refine r_aload_n (i := 0) (pc' := 203) dX12_layHits_202 rfl rfl (.head _) ?_
        refine r_getR (pc' := 206) dX12_layHits_203 rfl fX12_39 rfl (by first | assumption | rfl) (by omega) (by assumption) ?_
        refine r_iload (pc' := 208) dX12_layHits_206 rfl (.tail _ (.tail _ (.tail _ (.tail _ (.tail _ (.tail _ (.tail _ (.head _)))))))) ?_
        refine r_iaload (pc' := 209) dX12_layHits_208 rfl (by first | assumption | rfl) (by omega) (by omega) (by omega) (by first | decide | omega) (Int.toNat_natCast _) ?_
        rw [hLo]
        refine r_aload_n (i := 0) (pc' := 210) dX12_layHits_209 rfl rfl (.head _) ?_
        refine r_getR (pc' := 213) dX12_layHits_210 rfl fX12_39 rfl (by first | assumption | rfl) (by omega) (by assumption) ?_
        refine r_iload (pc' := 215) dX12_layHits_213 rfl (.tail _ (.tail _ (.tail _ (.tail _ (.tail _ (.head _)))))) ?_
        refine r_iaload (pc' := 216) dX12_layHits_215 rfl (by first | assumption | rfl) (by omega) (by omega) (by omega) (by first | decide | omega) (Int.toNat_natCast _) ?_
        rw [hLi]
        refine r_icmp_ne (t := 230) (f := 219) dX12_layHits_216 (by decide) rfl (by first | omega | exact xv_in _ _ _) (by first | omega | exact xv_in _ _ _) (fun h216 => ?_) (fun h216 => ?_)
        · refine r_iconst (pc' := 231) dX12_layHits_230 rfl ?_
          refine r_iadd (pc' := 232) dX12_layHits_231 rfl ?_
          refine r_istore (pc' := 234) dX12_layHits_232 rfl rfl (.s1 (.s2 (.s2 (.s1 (.s1 (.s1 (.here (.s1 .nil rfl rfl rfl)) rfl rfl rfl) rfl rfl rfl) rfl rfl rfl) rfl (.inl rfl) (.inr rfl)) rfl (.inl rfl) (.inr rfl)) rfl rfl rfl) ?_
          refine r_iinc (pc' := 237) dX12_layHits_234 rfl rfl (.tail _ (.tail _ (.tail _ (.tail _ (.tail _ (.tail _ (.tail _ (.head _)))))))) (.s1 (.s2 (.s2 (.s1 (.s1 (.s1 (.s1 (.here .nil) rfl rfl rfl) rfl rfl rfl) rfl rfl rfl) rfl rfl rfl) rfl (.inl rfl) (.inr rfl)) rfl (.inl rfl) (.inr rfl)) rfl rfl rfl) ?_
          refine r_goto (t := 171) dX12_layHits_237 (by decide) ?_
          refine ih (o + 1) _ (by omega) ?_
          rw [← hr, q_sum]
          try dsimp only
          first | (rw [if_pos (by omega)]; omega) | (rw [if_neg (by omega)]; omega)
        · refine r_iload (pc' := 221) dX12_layHits_219 rfl (.tail _ (.tail _ (.tail _ (.tail _ (.tail _ (.tail _ (.tail _ (.head _)))))))) ?_
          refine r_iload (pc' := 223) dX12_layHits_221 rfl (.tail _ (.tail _ (.tail _ (.tail _ (.tail _ (.head _)))))) ?_
          refine r_icmp_ge (t := 230) (f := 226) dX12_layHits_223 (by decide) rfl (by first | omega | exact xv_in _ _ _) (by first | omega | exact xv_in _ _ _) (fun h223 => ?_) (fun h223 => ?_)
          · refine r_iconst (pc' := 231) dX12_layHits_230 rfl ?_
            refine r_iadd (pc' := 232) dX12_layHits_231 rfl ?_
            refine r_istore (pc' := 234) dX12_layHits_232 rfl rfl (.s1 (.s2 (.s2 (.s1 (.s1 (.s1 (.here (.s1 .nil rfl rfl rfl)) rfl rfl rfl) rfl rfl rfl) rfl rfl rfl) rfl (.inl rfl) (.inr rfl)) rfl (.inl rfl) (.inr rfl)) rfl rfl rfl) ?_
            refine r_iinc (pc' := 237) dX12_layHits_234 rfl rfl (.tail _ (.tail _ (.tail _ (.tail _ (.tail _ (.tail _ (.tail _ (.head _)))))))) (.s1 (.s2 (.s2 (.s1 (.s1 (.s1 (.s1 (.here .nil) rfl rfl rfl) rfl rfl rfl) rfl rfl rfl) rfl rfl rfl) rfl (.inl rfl) (.inr rfl)) rfl (.inl rfl) (.inr rfl)) rfl rfl rfl) ?_
            refine r_goto (t := 171) dX12_layHits_237 (by decide) ?_
            refine ih (o + 1) _ (by omega) ?_
            rw [← hr, q_sum]
            try dsimp only
            first | (rw [if_pos (by omega)]; omega) | (rw [if_neg (by omega)]; omega)
          · refine r_iconst (pc' := 227) dX12_layHits_226 rfl ?_
            refine r_goto (t := 231) dX12_layHits_227 (by decide) ?_
            refine r_iadd (pc' := 232) dX12_layHits_231 rfl ?_
            refine r_istore (pc' := 234) dX12_layHits_232 rfl rfl (.s1 (.s2 (.s2 (.s1 (.s1 (.s1 (.here (.s1 .nil rfl rfl rfl)) rfl rfl rfl) rfl rfl rfl) rfl rfl rfl) rfl (.inl rfl) (.inr rfl)) rfl (.inl rfl) (.inr rfl)) rfl rfl rfl) ?_
            refine r_iinc (pc' := 237) dX12_layHits_234 rfl rfl (.tail _ (.tail _ (.tail _ (.tail _ (.tail _ (.tail _ (.tail _ (.head _)))))))) (.s1 (.s2 (.s2 (.s1 (.s1 (.s1 (.s1 (.here .nil) rfl rfl rfl) rfl rfl rfl) rfl rfl rfl) rfl rfl rfl) rfl (.inl rfl) (.inr rfl)) rfl (.inl rfl) (.inr rfl)) rfl rfl rfl) ?_
            refine r_goto (t := 171) dX12_layHits_237 (by decide) ?_
            refine ih (o + 1) _ (by omega) ?_
            rw [← hr, q_sum]
            try dsimp only
            first | (rw [if_pos (by omega)]; omega) | (rw [if_neg (by omega)]; omega)
set_option maxHeartbeats 4000000 in
set_option maxRecDepth 100000 in
theorem l2X12_layHits {l : Launch} {g : q_G} {n : Nat} {P : q_P} {Y : q_Y} (hm : isMod n P) {C : q_X} {b : Nat} (hO : bOk C b) {cu tu : Int64} {G T : Nat → Bool} (hG : lB cu G) (hT : lB tu T) {day : Int} (hday : q_in day) {X0 : q_X} : ∀ (w i : Nat) (X : q_X), i + w = (xv C b 10).toNat → hOut X0 X → RB C b (xv X 468) → LH1 C b G T X (xv C b 10).toNat → LH2 C b G T day X i → q_Tr l g mX12_layHits 4 (q_gv (fun n' P' X' Y' => n' = n ∧ P' = P ∧ Y' = Y ∧ hOut X0 X' ∧ LH1 C b G T X' (xv C b 10).toNat ∧ LH2 C b G T day X' (xv C b 10).toNat)) 153 [(0, .ref (g.1 + 467)), (1, .long cu), (3, .long tu), (5, .int (zi day)), (6, .int (zi (xv C b 0))), (7, .int (zi (i : Int)))] [] n P X Y := by
  obtain ⟨m0, m2, m3, m8, m9, m14, m15, m16, m17, m18, m20, m22, m25, hnm9⟩ := id hm
  obtain ⟨o0, o1, o2, o3, o4, o5, o6, o10, oc, op0, opz, opi, om0, omi, olim⟩ := id hO
  intro w
  induction w with
  | zero =>
    intro i X hi ho hR hL hL2
    refine r_iload (pc' := 155) dX12_layHits_153 rfl (.tail _ (.tail _ (.tail _ (.tail _ (.tail _ (.head _)))))) ?_
    refine r_aload_n (i := 0) (pc' := 156) dX12_layHits_155 rfl rfl (.head _) ?_
    refine r_getR (pc' := 159) dX12_layHits_156 rfl fX12_3 rfl (by first | assumption | rfl) (by omega) (by assumption) ?_
    refine r_bipush (pc' := 161) dX12_layHits_159 rfl (by decide) ?_
    refine r_iaload (pc' := 162) dX12_layHits_161 rfl (by first | assumption | rfl) (by omega) (by omega) (by omega) (by first | decide | omega) (show Int.toNat 7 = 7 from rfl) ?_
    rw [hR.m]
    refine r_icmp_ge (t := 291) (f := 165) dX12_layHits_162 (by decide) rfl (by first | omega | exact xv_in _ _ _) (by first | omega | exact xv_in _ _ _) (fun h162 => ?_) (fun h162 => ?_)
    · refine r_return dX12_layHits_291 rfl ?_
      rw [show i = (xv C b 10).toNat by omega] at hL2
      exact ⟨rfl, rfl, rfl, rfl, ho, hL, hL2⟩
    · exfalso; omega
  | succ w ih =>
    intro i X hi ho hR hL hL2
    have hk : (i : Int) < xv C b 10 := by omega
    have hLi := (hL i (by omega)).1
    have hbi := lh_in (G := G) (T := T) hO hk
    have hur := u_rkB (s := (xv C b 10).toNat) (O := lhO C b G) (H := bk_hT C b T) (k := i) (by omega)
    have hfb := bk_full_in hO day
    have hhb := bk_hT_b T (hO.c hk) o6.1
    have hrb : 0 ≤ q_sum (fun o => if lh C b G T i < lh C b G T o ∨ (lh C b G T o = lh C b G T i ∧ o < i) then (1 : Int) else 0) 0 (xv C b 10).toNat ∧ q_sum (fun o => if lh C b G T i < lh C b G T o ∨ (lh C b G T o = lh C b G T i ∧ o < i) then (1 : Int) else 0) 0 (xv C b 10).toNat ≤ 40 := by
      refine ⟨q_sum_nn _ _ (fun o _ _ => by split <;> omega), ?_⟩
      have := q_sum_ub (f := fun o => if lh C b G T i < lh C b G T o ∨ (lh C b G T o = lh C b G T i ∧ o < i) then (1 : Int) else 0) (B := 1) (xv C b 10).toNat 0 (fun o _ _ => by split <;> omega)
      omega
    have hrk : lhO C b G i = true → q_sum (fun o => if lh C b G T i < lh C b G T o ∨ (lh C b G T o = lh C b G T i ∧ o < i) then (1 : Int) else 0) 0 (xv C b 10).toNat = u_rk (xv C b 10).toNat (lhO C b G) (bk_hT C b T) i := fun q => lh_rk hO hk q
    have hop : lh C b G T i = -1 ↔ ¬ lhO C b G i = true := by
      unfold lh; split
      · rename_i q; exact ⟨fun z => by omega, fun z => absurd q z⟩
      · rename_i q; exact ⟨fun _ => q, fun _ => rfl⟩
    have hfu : bk_full C b day = if day < xv C b 4 then xv C b 5 else 40 := rfl
    generalize hrr : q_sum (fun o => if lh C b G T i < lh C b G T o ∨ (lh C b G T o = lh C b G T i ∧ o < i) then (1 : Int) else 0) 0 (xv C b 10).toNat = r at *
    refine r_iload (pc' := 155) dX12_layHits_153 rfl (.tail _ (.tail _ (.tail _ (.tail _ (.tail _ (.head _)))))) ?_
    refine r_aload_n (i := 0) (pc' := 156) dX12_layHits_155 rfl rfl (.head _) ?_
    refine r_getR (pc' := 159) dX12_layHits_156 rfl fX12_3 rfl (by first | assumption | rfl) (by omega) (by assumption) ?_
    refine r_bipush (pc' := 161) dX12_layHits_159 rfl (by decide) ?_
    refine r_iaload (pc' := 162) dX12_layHits_161 rfl (by first | assumption | rfl) (by omega) (by omega) (by omega) (by first | decide | omega) (show Int.toNat 7 = 7 from rfl) ?_
    rw [hR.m]
    refine r_icmp_ge (t := 291) (f := 165) dX12_layHits_162 (by decide) rfl (by first | omega | exact xv_in _ _ _) (by first | omega | exact xv_in _ _ _) (fun h162 => ?_) (fun h162 => ?_)
    · exfalso; omega
    · refine r_iconst (pc' := 166) dX12_layHits_165 rfl ?_
      refine r_istore (pc' := 168) dX12_layHits_166 rfl rfl (.s1 (.s2 (.s2 (.s1 (.s1 (.s1 .nil rfl rfl rfl) rfl rfl rfl) rfl rfl rfl) rfl (.inl rfl) (.inr rfl)) rfl (.inl rfl) (.inr rfl)) rfl rfl rfl) ?_
      refine r_iconst (pc' := 169) dX12_layHits_168 rfl ?_
      refine r_istore (pc' := 171) dX12_layHits_169 rfl rfl (.s1 (.s2 (.s2 (.s1 (.s1 (.s1 (.s1 .nil rfl rfl rfl) rfl rfl rfl) rfl rfl rfl) rfl rfl rfl) rfl (.inl rfl) (.inr rfl)) rfl (.inl rfl) (.inr rfl)) rfl rfl rfl) ?_
      refine i2X12_layHits (X := X) hm hO hR hL (i := i) hk (r := r) ?_ _ 0 0 (Nat.zero_add _) (by rw [Int.zero_add]; exact hrr)
      refine r_aload_n (i := 0) (pc' := 241) dX12_layHits_240 rfl rfl (.head _) ?_
      refine r_getR (pc' := 244) dX12_layHits_241 rfl fX12_45 rfl (by first | assumption | rfl) (by omega) (by assumption) ?_
      refine r_iload (pc' := 246) dX12_layHits_244 rfl (.tail _ (.tail _ (.tail _ (.tail _ (.tail _ (.head _)))))) ?_
      refine r_aload_n (i := 0) (pc' := 247) dX12_layHits_246 rfl rfl (.head _) ?_
      refine r_getR (pc' := 250) dX12_layHits_247 rfl fX12_39 rfl (by first | assumption | rfl) (by omega) (by assumption) ?_
      refine r_iload (pc' := 252) dX12_layHits_250 rfl (.tail _ (.tail _ (.tail _ (.tail _ (.tail _ (.head _)))))) ?_
      refine r_iaload (pc' := 253) dX12_layHits_252 rfl (by first | assumption | rfl) (by omega) (by omega) (by omega) (by first | decide | omega) (Int.toNat_natCast _) ?_
      rw [hLi]
      refine r_iconst (pc' := 254) dX12_layHits_253 rfl ?_
      refine r_icmp_eq (t := 283) (f := 257) dX12_layHits_254 (by decide) rfl (by first | omega | exact xv_in _ _ _) (by first | omega | exact xv_in _ _ _) (fun h254 => ?_) (fun h254 => ?_)
      · refine r_iconst (pc' := 284) dX12_layHits_283 rfl ?_
        refine r_zastore (pc' := 285) dX12_layHits_284 rfl (by first | assumption | rfl) (by omega) (by omega) (by omega) (by first | decide | omega) (Int.toNat_natCast _) (by decide) ?_
        refine r_iinc (pc' := 288) dX12_layHits_285 rfl rfl (.tail _ (.tail _ (.tail _ (.tail _ (.tail _ (.head _)))))) (.s1 (.s2 (.s2 (.s1 (.s1 (.here (.s1 .nil rfl rfl rfl)) rfl rfl rfl) rfl rfl rfl) rfl (.inl rfl) (.inr rfl)) rfl (.inl rfl) (.inr rfl)) rfl rfl rfl) ?_
        refine r_goto (t := 153) dX12_layHits_288 (by decide) ?_
        refine r_sub (.kp (.kp (.kp (.kp (.kp (.kp (.dr .nil))))))) ?_
        refine ih (i + 1) _ (by omega) (ho.up (Or.inr (Or.inr rfl))) (by rw [xv_up_row _ _ _ (by omega)]; exact hR) (fun j hj => by rw [xv_up_ne _ _ (by omega), xv_up_ne _ _ (by omega)]; exact hL j hj) (fun j hj => ?_)
        by_cases ej : j = i
        · subst ej
          rw [xv_up_same _ _ _ (by decide)]
          by_cases hlo : lhO C b G j = true
          · have hr2 := hrk hlo
            have hn1 : ¬ lh C b G T j = -1 := fun q => hop.mp q hlo
            by_cases hds : day < xv C b 4
            · rw [if_pos hds] at hfu
              first
                | (rw [if_pos ⟨hlo, by omega⟩]; done)
                | (rw [if_neg (fun q => by have := q.2; omega)]; done)
            · rw [if_neg hds] at hfu
              first
                | (rw [if_pos ⟨hlo, by omega⟩]; done)
                | (rw [if_neg (fun q => by have := q.2; omega)]; done)
                | (exfalso; omega)
          · have hn1 := hop.mpr hlo
            first
              | (rw [if_neg (fun q => hlo q.1)]; done)
              | (exfalso; omega)
        · rw [xv_up_ne _ _ (by omega)]; exact hL2 j (by omega)
      · refine r_iload (pc' := 259) dX12_layHits_257 rfl (.tail _ (.tail _ (.tail _ (.head _)))) ?_
        refine r_aload_n (i := 0) (pc' := 260) dX12_layHits_259 rfl rfl (.head _) ?_
        refine r_getR (pc' := 263) dX12_layHits_260 rfl fX12_3 rfl (by first | assumption | rfl) (by omega) (by assumption) ?_
        refine r_iconst (pc' := 264) dX12_layHits_263 rfl ?_
        refine r_iaload (pc' := 265) dX12_layHits_264 rfl (by first | assumption | rfl) (by omega) (by omega) (by omega) (by first | decide | omega) (show Int.toNat 4 = 4 from rfl) ?_
        rw [hR.z 4 (by decide)]
        refine r_icmp_ge (t := 279) (f := 268) dX12_layHits_265 (by decide) rfl (by first | omega | exact xv_in _ _ _) (by first | omega | exact xv_in _ _ _) (fun h265 => ?_) (fun h265 => ?_)
        · refine r_iconst (pc' := 280) dX12_layHits_279 rfl ?_
          refine r_goto (t := 284) dX12_layHits_280 (by decide) ?_
          refine r_zastore (pc' := 285) dX12_layHits_284 rfl (by first | assumption | rfl) (by omega) (by omega) (by omega) (by first | decide | omega) (Int.toNat_natCast _) (by decide) ?_
          refine r_iinc (pc' := 288) dX12_layHits_285 rfl rfl (.tail _ (.tail _ (.tail _ (.tail _ (.tail _ (.head _)))))) (.s1 (.s2 (.s2 (.s1 (.s1 (.here (.s1 .nil rfl rfl rfl)) rfl rfl rfl) rfl rfl rfl) rfl (.inl rfl) (.inr rfl)) rfl (.inl rfl) (.inr rfl)) rfl rfl rfl) ?_
          refine r_goto (t := 153) dX12_layHits_288 (by decide) ?_
          refine r_sub (.kp (.kp (.kp (.kp (.kp (.kp (.dr .nil))))))) ?_
          refine ih (i + 1) _ (by omega) (ho.up (Or.inr (Or.inr rfl))) (by rw [xv_up_row _ _ _ (by omega)]; exact hR) (fun j hj => by rw [xv_up_ne _ _ (by omega), xv_up_ne _ _ (by omega)]; exact hL j hj) (fun j hj => ?_)
          by_cases ej : j = i
          · subst ej
            rw [xv_up_same _ _ _ (by decide)]
            by_cases hlo : lhO C b G j = true
            · have hr2 := hrk hlo
              have hn1 : ¬ lh C b G T j = -1 := fun q => hop.mp q hlo
              by_cases hds : day < xv C b 4
              · rw [if_pos hds] at hfu
                first
                  | (rw [if_pos ⟨hlo, by omega⟩]; done)
                  | (rw [if_neg (fun q => by have := q.2; omega)]; done)
              · rw [if_neg hds] at hfu
                first
                  | (rw [if_pos ⟨hlo, by omega⟩]; done)
                  | (rw [if_neg (fun q => by have := q.2; omega)]; done)
                  | (exfalso; omega)
            · have hn1 := hop.mpr hlo
              first
                | (rw [if_neg (fun q => hlo q.1)]; done)
                | (exfalso; omega)
          · rw [xv_up_ne _ _ (by omega)]; exact hL2 j (by omega)
        · refine r_iload (pc' := 270) dX12_layHits_268 rfl (.tail _ (.tail _ (.tail _ (.tail _ (.tail _ (.tail _ (.head _))))))) ?_
          refine r_aload_n (i := 0) (pc' := 271) dX12_layHits_270 rfl rfl (.head _) ?_
          refine r_getR (pc' := 274) dX12_layHits_271 rfl fX12_3 rfl (by first | assumption | rfl) (by omega) (by assumption) ?_
          refine r_iconst (pc' := 275) dX12_layHits_274 rfl ?_
          refine r_iaload (pc' := 276) dX12_layHits_275 rfl (by first | assumption | rfl) (by omega) (by omega) (by omega) (by first | decide | omega) (show Int.toNat 5 = 5 from rfl) ?_
          rw [hR.z 5 (by decide)]
          refine r_icmp_ge (t := 283) (f := 279) dX12_layHits_276 (by decide) rfl (by first | omega | exact xv_in _ _ _) (by first | omega | exact xv_in _ _ _) (fun h276 => ?_) (fun h276 => ?_)
          · refine r_iconst (pc' := 284) dX12_layHits_283 rfl ?_
            refine r_zastore (pc' := 285) dX12_layHits_284 rfl (by first | assumption | rfl) (by omega) (by omega) (by omega) (by first | decide | omega) (Int.toNat_natCast _) (by decide) ?_
            refine r_iinc (pc' := 288) dX12_layHits_285 rfl rfl (.tail _ (.tail _ (.tail _ (.tail _ (.tail _ (.head _)))))) (.s1 (.s2 (.s2 (.s1 (.s1 (.here (.s1 .nil rfl rfl rfl)) rfl rfl rfl) rfl rfl rfl) rfl (.inl rfl) (.inr rfl)) rfl (.inl rfl) (.inr rfl)) rfl rfl rfl) ?_
            refine r_goto (t := 153) dX12_layHits_288 (by decide) ?_
            refine r_sub (.kp (.kp (.kp (.kp (.kp (.kp (.dr .nil))))))) ?_
            refine ih (i + 1) _ (by omega) (ho.up (Or.inr (Or.inr rfl))) (by rw [xv_up_row _ _ _ (by omega)]; exact hR) (fun j hj => by rw [xv_up_ne _ _ (by omega), xv_up_ne _ _ (by omega)]; exact hL j hj) (fun j hj => ?_)
            by_cases ej : j = i
            · subst ej
              rw [xv_up_same _ _ _ (by decide)]
              by_cases hlo : lhO C b G j = true
              · have hr2 := hrk hlo
                have hn1 : ¬ lh C b G T j = -1 := fun q => hop.mp q hlo
                by_cases hds : day < xv C b 4
                · rw [if_pos hds] at hfu
                  first
                    | (rw [if_pos ⟨hlo, by omega⟩]; done)
                    | (rw [if_neg (fun q => by have := q.2; omega)]; done)
                · rw [if_neg hds] at hfu
                  first
                    | (rw [if_pos ⟨hlo, by omega⟩]; done)
                    | (rw [if_neg (fun q => by have := q.2; omega)]; done)
                    | (exfalso; omega)
              · have hn1 := hop.mpr hlo
                first
                  | (rw [if_neg (fun q => hlo q.1)]; done)
                  | (exfalso; omega)
            · rw [xv_up_ne _ _ (by omega)]; exact hL2 j (by omega)
          · refine r_iconst (pc' := 280) dX12_layHits_279 rfl ?_
            refine r_goto (t := 284) dX12_layHits_280 (by decide) ?_
            refine r_zastore (pc' := 285) dX12_layHits_284 rfl (by first | assumption | rfl) (by omega) (by omega) (by omega) (by first | decide | omega) (Int.toNat_natCast _) (by decide) ?_
            refine r_iinc (pc' := 288) dX12_layHits_285 rfl rfl (.tail _ (.tail _ (.tail _ (.tail _ (.tail _ (.head _)))))) (.s1 (.s2 (.s2 (.s1 (.s1 (.here (.s1 .nil rfl rfl rfl)) rfl rfl rfl) rfl rfl rfl) rfl (.inl rfl) (.inr rfl)) rfl (.inl rfl) (.inr rfl)) rfl rfl rfl) ?_
            refine r_goto (t := 153) dX12_layHits_288 (by decide) ?_
            refine r_sub (.kp (.kp (.kp (.kp (.kp (.kp (.dr .nil))))))) ?_
            refine ih (i + 1) _ (by omega) (ho.up (Or.inr (Or.inr rfl))) (by rw [xv_up_row _ _ _ (by omega)]; exact hR) (fun j hj => by rw [xv_up_ne _ _ (by omega), xv_up_ne _ _ (by omega)]; exact hL j hj) (fun j hj => ?_)
            by_cases ej : j = i
            · subst ej
              rw [xv_up_same _ _ _ (by decide)]
              by_cases hlo : lhO C b G j = true
              · have hr2 := hrk hlo
                have hn1 : ¬ lh C b G T j = -1 := fun q => hop.mp q hlo
                by_cases hds : day < xv C b 4
                · rw [if_pos hds] at hfu
                  first
                    | (rw [if_pos ⟨hlo, by omega⟩]; done)
                    | (rw [if_neg (fun q => by have := q.2; omega)]; done)
                · rw [if_neg hds] at hfu
                  first
                    | (rw [if_pos ⟨hlo, by omega⟩]; done)
                    | (rw [if_neg (fun q => by have := q.2; omega)]; done)
                    | (exfalso; omega)
              · have hn1 := hop.mpr hlo
                first
                  | (rw [if_neg (fun q => hlo q.1)]; done)
                  | (exfalso; omega)
            · rw [xv_up_ne _ _ (by omega)]; exact hL2 j (by omega)
set_option maxHeartbeats 4000000 in
set_option maxRecDepth 100000 in
theorem tX12_layHits {l : Launch} {g : q_G} {n : Nat} {P : q_P} {X : q_X} {Y : q_Y} (hm : isMod n P) {C : q_X} {b : Nat} (hR : RB C b (xv X 468)) (hO : bOk C b) {cu tu : Int64} {G T : Nat → Bool} (hG : lB cu G) (hT : lB tu T) {day : Int} (hday : q_in day) : q_Met l g mX12_layHits 4 [.ref (g.1 + 467), .long cu, .long tu, .int (zi day)] n P X Y (q_gv (fun n' P' X' Y' => n' = n ∧ P' = P ∧ Y' = Y ∧ hOut X X' ∧ LH1 C b G T X' (xv C b 10).toNat ∧ LH2 C b G T day X' (xv C b 10).toNat)) := by
  obtain ⟨m0, m2, m3, m8, m9, m14, m15, m16, m17, m18, m20, m22, m25, hnm9⟩ := id hm
  obtain ⟨o0, o1, o2, o3, o4, o5, o6, o10, oc, op0, opz, opi, om0, omi, olim⟩ := id hO
  refine q_enter (L := [(0, .ref (g.1 + 467)), (1, .long cu), (3, .long tu), (5, .int (zi day))]) (by decide) (Nat.le_of_ble_eq_true rfl) rfl ?_
  refine r_aload_n (i := 0) (pc' := 1) dX12_layHits_0 rfl rfl (.head _) ?_
  refine r_getR (pc' := 4) dX12_layHits_1 rfl fX12_3 rfl (by first | assumption | rfl) (by omega) (by assumption) ?_
  refine r_iconst (pc' := 5) dX12_layHits_4 rfl ?_
  refine r_iaload (pc' := 6) dX12_layHits_5 rfl (by first | assumption | rfl) (by omega) (by omega) (by omega) (by first | decide | omega) (show Int.toNat 0 = 0 from rfl) ?_
  rw [hR.z 0 (by decide)]
  refine r_istore (pc' := 8) dX12_layHits_6 rfl rfl (.s1 (.s2 (.s2 (.s1 .nil rfl rfl rfl) rfl (.inl rfl) (.inr rfl)) rfl (.inl rfl) (.inr rfl)) rfl rfl rfl) ?_
  refine r_iconst (pc' := 9) dX12_layHits_8 rfl ?_
  refine r_istore (pc' := 11) dX12_layHits_9 rfl rfl (.s1 (.s2 (.s2 (.s1 (.s1 .nil rfl rfl rfl) rfl rfl rfl) rfl (.inl rfl) (.inr rfl)) rfl (.inl rfl) (.inr rfl)) rfl rfl rfl) ?_
  refine l1X12_layHits hm hO hG hT hday (X0 := X) ?_ _ 0 X (Nat.zero_add _) hOut.rfl hR (fun j hj => by omega)
  intro X1 ho hL
  refine r_iconst (pc' := 151) dX12_layHits_150 rfl ?_
  refine r_istore (pc' := 153) dX12_layHits_151 rfl rfl (.s1 (.s2 (.s2 (.s1 (.s1 .nil rfl rfl rfl) rfl rfl rfl) rfl (.inl rfl) (.inr rfl)) rfl (.inl rfl) (.inr rfl)) rfl rfl rfl) ?_
  exact l2X12_layHits hm hO hG hT hday _ 0 X1 (Nat.zero_add _) ho (by rw [ho.v (by omega)]; exact hR) hL (fun j hj => by omega)
