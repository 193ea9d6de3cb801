set_option maxHeartbeats 4000000 in
set_option maxRecDepth 100000 in
theorem l1X12_sign {l : Launch} {g : q_G} {n : Nat} {P : q_P} {X : q_X} {Y : q_Y} (hm : isMod n P) {ii z : Nat} (hz : z < 40) {K : q_K} (kk : q_Tr l g mX12_sign 5 K 63 [(0, .ref (g.1 + 467)), (1, .int (zi (ii : Int))), (2, .int (zi (3572 + 4 * (ii : Int)))), (3, .int (zi (z : Int)))] [] n P (zR X (130 + 86 * z) 86) Y) : ∀ (w i : Nat), i + w = 86 → q_Tr l g mX12_sign 5 K 38 [(0, .ref (g.1 + 467)), (1, .int (zi (ii : Int))), (2, .int (zi (3572 + 4 * (ii : Int)))), (3, .int (zi (z : Int))), (4, .int (zi (i : Int)))] [] n P (zR X (130 + 86 * z) i) Y := by
  obtain ⟨m0, m2, m3, m8, m9, m14, m15, m16, m17, m18, m20, m22, m25, hnm9⟩ := id hm
  intro w
  induction w with
  | zero =>
    intro i hi
    obtain rfl : i = 86 := by omega
    refine r_iload (pc' := 40) dX12_sign_38 rfl (.tail _ (.tail _ (.tail _ (.tail _ (.head _))))) ?_
    refine r_bipush (pc' := 42) dX12_sign_40 rfl (by decide) ?_
    refine r_icmp_ge (t := 63) (f := 45) dX12_sign_42 (by decide) rfl (by first | omega | exact xv_in _ _ _) (by first | omega | exact xv_in _ _ _) (fun h42 => ?_) (fun h42 => ?_)
    · refine r_sub (.kp (.kp (.kp (.kp (.dr .nil))))) ?_
      exact kk
    · exfalso; omega
  | succ w ih =>
    intro i hi
    refine r_iload (pc' := 40) dX12_sign_38 rfl (.tail _ (.tail _ (.tail _ (.tail _ (.head _))))) ?_
    refine r_bipush (pc' := 42) dX12_sign_40 rfl (by decide) ?_
    refine r_icmp_ge (t := 63) (f := 45) dX12_sign_42 (by decide) rfl (by first | omega | exact xv_in _ _ _) (by first | omega | exact xv_in _ _ _) (fun h42 => ?_) (fun h42 => ?_)
    · exfalso; omega
    · refine r_aload_n (i := 0) (pc' := 46) dX12_sign_45 rfl rfl (.head _) ?_
      refine r_getR (pc' := 49) dX12_sign_46 rfl fX12_3 rfl (by first | assumption | rfl) (by omega) (by assumption) ?_
      refine r_iload_n (i := 3) (pc' := 50) dX12_sign_49 rfl rfl (.tail _ (.tail _ (.tail _ (.head _)))) ?_
      refine r_iload (pc' := 52) dX12_sign_50 rfl (.tail _ (.tail _ (.tail _ (.tail _ (.head _))))) ?_
      refine r_S2p (pc' := 55) dX12_sign_52 rfl lX12_111 (by decide) (Nat.le_of_ble_eq_true rfl) (tX12_placeOf ) ?_
      refine r_iconst (pc' := 56) dX12_sign_55 rfl ?_
      refine r_iastore (pc' := 57) dX12_sign_56 rfl (by first | assumption | rfl) (by omega) (by omega) (by omega) (by first | decide | omega) (show _ = (130 + 86 * z) + i by omega) ?_
      refine r_iinc (pc' := 60) dX12_sign_57 rfl rfl (.tail _ (.tail _ (.tail _ (.tail _ (.head _))))) (.s1 (.s1 (.s1 (.s1 (.here .nil) rfl rfl rfl) rfl rfl rfl) rfl rfl rfl) rfl rfl rfl) ?_
      refine r_goto (t := 38) dX12_sign_60 (by decide) ?_
      rw [zR_s]
      exact ih (i + 1) (by omega)
set_option maxHeartbeats 4000000 in
set_option maxRecDepth 100000 in
theorem l2X12_sign {l : Launch} {g : q_G} {n : Nat} {P : q_P} {X : q_X} {Y : q_Y} (hm : isMod n P) {ii z y0 m : Nat} {v : Int} (hz : z < 40) (hii : ii < 12) (hv : q_in v) (h0 : xv X 468 0 = (y0 : Int)) (h1 : xv X 468 (3572 + 4 * ii + 1) = (m : Int)) (h3 : xv X 468 (3572 + 4 * ii + 3) = v) (hm20 : y0 + m ≤ 20) {K : q_K} (kk : q_Tr l g mX12_sign 5 K 148 [(0, .ref (g.1 + 467)), (1, .int (zi (ii : Int))), (2, .int (zi (3572 + 4 * (ii : Int)))), (3, .int (zi (z : Int)))] [] n P (lgN X ((130 + 86 * z) + 6 + y0) v m) Y) : ∀ (w i : Nat), i + w = m → q_Tr l g mX12_sign 5 K 100 [(0, .ref (g.1 + 467)), (1, .int (zi (ii : Int))), (2, .int (zi (3572 + 4 * (ii : Int)))), (3, .int (zi (z : Int))), (4, .int (zi (i : Int)))] [] n P (lgN X ((130 + 86 * z) + 6 + y0) v i) Y := by
  obtain ⟨m0, m2, m3, m8, m9, m14, m15, m16, m17, m18, m20, m22, m25, hnm9⟩ := id hm
  intro w
  induction w with
  | zero =>
    intro i hi
    obtain rfl : i = m := by omega
    have g1 : xv (lgN X ((130 + 86 * z) + 6 + y0) v i) 468 (3572 + 4 * ii + 1) = (i : Int) := by rw [lgN_at hv, if_neg (by omega), h1]
    refine r_iload (pc' := 102) dX12_sign_100 rfl (.tail _ (.tail _ (.tail _ (.tail _ (.head _))))) ?_
    refine r_aload_n (i := 0) (pc' := 103) dX12_sign_102 rfl rfl (.head _) ?_
    refine r_getR (pc' := 106) dX12_sign_103 rfl fX12_3 rfl (by first | assumption | rfl) (by omega) (by assumption) ?_
    refine r_iload_n (i := 2) (pc' := 107) dX12_sign_106 rfl rfl (.tail _ (.tail _ (.head _))) ?_
    refine r_iconst (pc' := 108) dX12_sign_107 rfl ?_
    refine r_iadd (pc' := 109) dX12_sign_108 rfl ?_
    refine r_iaload (pc' := 110) dX12_sign_109 rfl (by first | assumption | rfl) (by omega) (by omega) (by omega) (by first | decide | omega) (show _ = 3572 + 4 * ii + 1 by omega) ?_
    rw [g1]
    refine r_icmp_ge (t := 148) (f := 113) dX12_sign_110 (by decide) rfl (by first | omega | exact xv_in _ _ _) (by first | omega | exact xv_in _ _ _) (fun h110 => ?_) (fun h110 => ?_)
    · refine r_sub (.kp (.kp (.kp (.kp (.dr .nil))))) ?_
      exact kk
    · exfalso; omega
  | succ w ih =>
    intro i hi
    have g0 : xv (lgN X ((130 + 86 * z) + 6 + y0) v i) 468 0 = (y0 : Int) := by rw [lgN_at hv, if_neg (by omega), h0]
    have g1 : xv (lgN X ((130 + 86 * z) + 6 + y0) v i) 468 (3572 + 4 * ii + 1) = (m : Int) := by rw [lgN_at hv, if_neg (by omega), h1]
    have g3 : xv (lgN X ((130 + 86 * z) + 6 + y0) v i) 468 (3572 + 4 * ii + 3) = v := by rw [lgN_at hv, if_neg (by omega), h3]
    refine r_iload (pc' := 102) dX12_sign_100 rfl (.tail _ (.tail _ (.tail _ (.tail _ (.head _))))) ?_
    refine r_aload_n (i := 0) (pc' := 103) dX12_sign_102 rfl rfl (.head _) ?_
    refine r_getR (pc' := 106) dX12_sign_103 rfl fX12_3 rfl (by first | assumption | rfl) (by omega) (by assumption) ?_
    refine r_iload_n (i := 2) (pc' := 107) dX12_sign_106 rfl rfl (.tail _ (.tail _ (.head _))) ?_
    refine r_iconst (pc' := 108) dX12_sign_107 rfl ?_
    refine r_iadd (pc' := 109) dX12_sign_108 rfl ?_
    refine r_iaload (pc' := 110) dX12_sign_109 rfl (by first | assumption | rfl) (by omega) (by omega) (by omega) (by first | decide | omega) (show _ = 3572 + 4 * ii + 1 by omega) ?_
    rw [g1]
    refine r_icmp_ge (t := 148) (f := 113) dX12_sign_110 (by decide) rfl (by first | omega | exact xv_in _ _ _) (by first | omega | exact xv_in _ _ _) (fun h110 => ?_) (fun h110 => ?_)
    · exfalso; omega
    · refine r_aload_n (i := 0) (pc' := 114) dX12_sign_113 rfl rfl (.head _) ?_
      refine r_getR (pc' := 117) dX12_sign_114 rfl fX12_3 rfl (by first | assumption | rfl) (by omega) (by assumption) ?_
      refine r_iload_n (i := 3) (pc' := 118) dX12_sign_117 rfl rfl (.tail _ (.tail _ (.tail _ (.head _)))) ?_
      refine r_bipush (pc' := 120) dX12_sign_118 rfl (by decide) ?_
      refine r_aload_n (i := 0) (pc' := 121) dX12_sign_120 rfl rfl (.head _) ?_
      refine r_getR (pc' := 124) dX12_sign_121 rfl fX12_3 rfl (by first | assumption | rfl) (by omega) (by assumption) ?_
      refine r_iconst (pc' := 125) dX12_sign_124 rfl ?_
      refine r_iaload (pc' := 126) dX12_sign_125 rfl (by first | assumption | rfl) (by omega) (by omega) (by omega) (by first | decide | omega) (show Int.toNat 0 = 0 from rfl) ?_
      rw [g0]
      refine r_iadd (pc' := 127) dX12_sign_126 rfl ?_
      refine r_iload (pc' := 129) dX12_sign_127 rfl (.tail _ (.tail _ (.tail _ (.tail _ (.head _))))) ?_
      refine r_iadd (pc' := 130) dX12_sign_129 rfl ?_
      refine r_S2p (pc' := 133) dX12_sign_130 rfl lX12_111 (by decide) (Nat.le_of_ble_eq_true rfl) (tX12_placeOf ) ?_
      refine r_aload_n (i := 0) (pc' := 134) dX12_sign_133 rfl rfl (.head _) ?_
      refine r_getR (pc' := 137) dX12_sign_134 rfl fX12_3 rfl (by first | assumption | rfl) (by omega) (by assumption) ?_
      refine r_iload_n (i := 2) (pc' := 138) dX12_sign_137 rfl rfl (.tail _ (.tail _ (.head _))) ?_
      refine r_iconst (pc' := 139) dX12_sign_138 rfl ?_
      refine r_iadd (pc' := 140) dX12_sign_139 rfl ?_
      refine r_iaload (pc' := 141) dX12_sign_140 rfl (by first | assumption | rfl) (by omega) (by omega) (by omega) (by first | decide | omega) (show _ = 3572 + 4 * ii + 3 by omega) ?_
      rw [g3]
      refine r_iastore (pc' := 142) dX12_sign_141 rfl (by first | assumption | rfl) (by omega) (by omega) (by omega) (by first | decide | omega) (show _ = ((130 + 86 * z) + 6 + y0) + i by omega) ?_
      refine r_iinc (pc' := 145) dX12_sign_142 rfl rfl (.tail _ (.tail _ (.tail _ (.tail _ (.head _))))) (.s1 (.s1 (.s1 (.s1 (.here .nil) rfl rfl rfl) rfl rfl rfl) rfl rfl rfl) rfl rfl rfl) ?_
      refine r_goto (t := 100) dX12_sign_145 (by decide) ?_
      exact ih (i + 1) (by omega)
set_option maxHeartbeats 4000000 in
set_option maxRecDepth 100000 in
theorem l3X12_sign {l : Launch} {g : q_G} {n : Nat} {P : q_P} {X : q_X} {Y : q_Y} (hm : isMod n P) {ii z c : Nat} (hc : c ≤ 12) (hii : ii ≤ c) (h0 : xv X 468 3570 = (c : Int)) {K : q_K} (kk : q_Tr l g mX12_sign 5 K 234 [(0, .ref (g.1 + 467)), (1, .int (zi (ii : Int))), (2, .int (zi (3572 + 4 * (ii : Int)))), (3, .int (zi (z : Int)))] [] n P (shR X (3572 + 4 * ii) (3572 + 4 * c)) Y) : ∀ (w t : Nat), t + w = 3572 + 4 * c → 3572 + 4 * ii ≤ t → q_Tr l g mX12_sign 5 K 193 [(0, .ref (g.1 + 467)), (1, .int (zi (ii : Int))), (2, .int (zi (3572 + 4 * (ii : Int)))), (3, .int (zi (z : Int))), (4, .int (zi (t : Int)))] [] n P (shR X (3572 + 4 * ii) t) Y := by
  obtain ⟨m0, m2, m3, m8, m9, m14, m15, m16, m17, m18, m20, m22, m25, hnm9⟩ := id hm
  intro w
  induction w with
  | zero =>
    intro t hi ht
    obtain rfl : t = 3572 + 4 * c := by omega
    have g0 : xv (shR X (3572 + 4 * ii) (3572 + 4 * c)) 468 3570 = (c : Int) := by rw [shR_v, if_neg (by omega), h0]
    refine r_iload (pc' := 195) dX12_sign_193 rfl (.tail _ (.tail _ (.tail _ (.tail _ (.head _))))) ?_
    refine r_sipush (pc' := 198) dX12_sign_195 rfl (by decide) ?_
    refine r_iconst (pc' := 199) dX12_sign_198 rfl ?_
    refine r_aload_n (i := 0) (pc' := 200) dX12_sign_199 rfl rfl (.head _) ?_
    refine r_getR (pc' := 203) dX12_sign_200 rfl fX12_3 rfl (by first | assumption | rfl) (by omega) (by assumption) ?_
    refine r_sipush (pc' := 206) dX12_sign_203 rfl (by decide) ?_
    refine r_iaload (pc' := 207) dX12_sign_206 rfl (by first | assumption | rfl) (by omega) (by omega) (by omega) (by first | decide | omega) (show Int.toNat 3570 = 3570 from rfl) ?_
    rw [g0]
    refine r_imul (pc' := 208) dX12_sign_207 rfl ?_
    refine r_iadd (pc' := 209) dX12_sign_208 rfl ?_
    refine r_icmp_ge (t := 234) (f := 212) dX12_sign_209 (by decide) rfl (by first | omega | exact xv_in _ _ _) (by first | omega | exact xv_in _ _ _) (fun h209 => ?_) (fun h209 => ?_)
    · refine r_sub (.kp (.kp (.kp (.kp (.dr .nil))))) ?_
      exact kk
    · exfalso; omega
  | succ w ih =>
    intro t hi ht
    have g0 : xv (shR X (3572 + 4 * ii) t) 468 3570 = (c : Int) := by rw [shR_v, if_neg (by omega), h0]
    refine r_iload (pc' := 195) dX12_sign_193 rfl (.tail _ (.tail _ (.tail _ (.tail _ (.head _))))) ?_
    refine r_sipush (pc' := 198) dX12_sign_195 rfl (by decide) ?_
    refine r_iconst (pc' := 199) dX12_sign_198 rfl ?_
    refine r_aload_n (i := 0) (pc' := 200) dX12_sign_199 rfl rfl (.head _) ?_
    refine r_getR (pc' := 203) dX12_sign_200 rfl fX12_3 rfl (by first | assumption | rfl) (by omega) (by assumption) ?_
    refine r_sipush (pc' := 206) dX12_sign_203 rfl (by decide) ?_
    refine r_iaload (pc' := 207) dX12_sign_206 rfl (by first | assumption | rfl) (by omega) (by omega) (by omega) (by first | decide | omega) (show Int.toNat 3570 = 3570 from rfl) ?_
    rw [g0]
    refine r_imul (pc' := 208) dX12_sign_207 rfl ?_
    refine r_iadd (pc' := 209) dX12_sign_208 rfl ?_
    refine r_icmp_ge (t := 234) (f := 212) dX12_sign_209 (by decide) rfl (by first | omega | exact xv_in _ _ _) (by first | omega | exact xv_in _ _ _) (fun h209 => ?_) (fun h209 => ?_)
    · exfalso; omega
    · refine r_aload_n (i := 0) (pc' := 213) dX12_sign_212 rfl rfl (.head _) ?_
      refine r_getR (pc' := 216) dX12_sign_213 rfl fX12_3 rfl (by first | assumption | rfl) (by omega) (by assumption) ?_
      refine r_iload (pc' := 218) dX12_sign_216 rfl (.tail _ (.tail _ (.tail _ (.tail _ (.head _))))) ?_
      refine r_aload_n (i := 0) (pc' := 219) dX12_sign_218 rfl rfl (.head _) ?_
      refine r_getR (pc' := 222) dX12_sign_219 rfl fX12_3 rfl (by first | assumption | rfl) (by omega) (by assumption) ?_
      refine r_iload (pc' := 224) dX12_sign_222 rfl (.tail _ (.tail _ (.tail _ (.tail _ (.head _))))) ?_
      refine r_iconst (pc' := 225) dX12_sign_224 rfl ?_
      refine r_iadd (pc' := 226) dX12_sign_225 rfl ?_
      refine r_iaload (pc' := 227) dX12_sign_226 rfl (by first | assumption | rfl) (by omega) (by omega) (by omega) (by first | decide | omega) (show _ = t + 4 by omega) ?_
      refine r_iastore (pc' := 228) dX12_sign_227 rfl (by first | assumption | rfl) (by omega) (by omega) (by omega) (by first | decide | omega) (show _ = t by omega) ?_
      refine r_iinc (pc' := 231) dX12_sign_228 rfl rfl (.tail _ (.tail _ (.tail _ (.tail _ (.head _))))) (.s1 (.s1 (.s1 (.s1 (.here .nil) rfl rfl rfl) rfl rfl rfl) rfl rfl rfl) rfl rfl rfl) ?_
      refine r_goto (t := 193) dX12_sign_231 (by decide) ?_
      rw [shR_s ht]
      exact ih (t + 1) (by omega) (by omega)
set_option maxHeartbeats 4000000 in
set_option maxRecDepth 100000 in
theorem l1cX12_sign {l : Launch} {g : q_G} {n : Nat} {P : q_P} {X : q_X} {Y : q_Y} (hm : isMod n P) {ii z : Nat} (hz : z < 40) {K : q_K} (kk : q_Tr l g mX12_sign 5 K 63 [(0, .ref (g.1 + 467)), (1, .int (zi (ii : Int))), (2, .int (zi (3572 + 4 * (ii : Int)))), (3, .int (zi (z : Int)))] [] n P (zR X (130 + 86 * z) 86) Y) : q_Tr l g mX12_sign 5 K 38 [(0, .ref (g.1 + 467)), (1, .int (zi (ii : Int))), (2, .int (zi (3572 + 4 * (ii : Int)))), (3, .int (zi (z : Int))), (4, .int (zi 0))] [] n P X Y := by
  have h := l1X12_sign hm hz kk 86 0 (Nat.zero_add _)
  rw [zR_0] at h
  exact h
set_option maxHeartbeats 4000000 in
set_option maxRecDepth 100000 in
theorem l3cX12_sign {l : Launch} {g : q_G} {n : Nat} {P : q_P} {X : q_X} {Y : q_Y} (hm : isMod n P) {ii z c : Nat} (hc : c ≤ 12) (hii : ii ≤ c) (h0 : xv X 468 3570 = (c : Int)) {K : q_K} (kk : q_Tr l g mX12_sign 5 K 234 [(0, .ref (g.1 + 467)), (1, .int (zi (ii : Int))), (2, .int (zi (3572 + 4 * (ii : Int)))), (3, .int (zi (z : Int)))] [] n P (shR X (3572 + 4 * ii) (3572 + 4 * c)) Y) : q_Tr l g mX12_sign 5 K 193 [(0, .ref (g.1 + 467)), (1, .int (zi (ii : Int))), (2, .int (zi (3572 + 4 * (ii : Int)))), (3, .int (zi (z : Int))), (4, .int (zi (3572 + 4 * (ii : Int))))] [] n P X Y := by
  have h := l3X12_sign hm hc hii h0 kk (4 * c - 4 * ii) (3572 + 4 * ii) (by omega) (Nat.le_refl _)
  rw [shR_0, show ((3572 + 4 * ii : Nat) : Int) = 3572 + 4 * (ii : Int) by omega] at h
  exact h
set_option maxHeartbeats 4000000 in
set_option maxRecDepth 100000 in
theorem tX12_sign {l : Launch} {g : q_G} {n : Nat} {P : q_P} {X : q_X} {Y : q_Y} (hm : isMod n P) {C : q_X} {b : Nat} (hR : RB C b (xv X 468)) (hO : bOk C b) (hT : xv C (b + 15) 0 ≤ 80) (hD : 0 ≤ xv X 467 1 ∧ xv X 467 1 ≤ 8) {i : Int} (hi : q_in i) : q_Met l g mX12_sign 5 [.ref (g.1 + 467), .int (zi i)] n P X Y (q_gi (fun r' n' P' X' Y' => if bk_sref C b i = 0 then rDE (bk_take C b i.toNat) b (xv C b 10) n P X Y r' n' P' X' Y' else rNO (bk_sref C b i) n P X Y r' n' P' X' Y')) := by
  obtain ⟨m0, m2, m3, m8, m9, m14, m15, m16, m17, m18, m20, m22, m25, hnm9⟩ := id hm
  obtain ⟨o0, o1, o2, o3, o4, o5, o6, o10, oc, op0, opz, opi, om0, omi, olim⟩ := id hO
  have hin : 0 ≤ bk_sref C b i ∧ bk_sref C b i ≤ 6 := by unfold bk_sref; split <;> (try split) <;> omega
  refine q_enter (L := [(0, .ref (g.1 + 467)), (1, .int (zi i))]) (by decide) (Nat.le_of_ble_eq_true rfl) rfl ?_
  by_cases hk0 : bk_sref C b i = 0
  · obtain ⟨ii, rfl⟩ : ∃ ii : Nat, i = (ii : Int) := ⟨i.toNat, by unfold bk_sref at hk0; split at hk0 <;> omega⟩
    have hsr := bk_take_sr hk0
    have hmi := omi ii hsr.1
    obtain ⟨z, hz⟩ : ∃ z : Nat, xv C b 10 = (z : Int) := ⟨(xv C b 10).toNat, by omega⟩
    obtain ⟨y0, hy0⟩ : ∃ y0 : Nat, xv C b 0 = (y0 : Int) := ⟨(xv C b 0).toNat, by omega⟩
    obtain ⟨m, hmm⟩ : ∃ m : Nat, xv C (b + 12) ii = (m : Int) := ⟨(xv C (b + 12) ii).toNat, by omega⟩
    obtain ⟨c, hcc⟩ : ∃ c : Nat, xv C (b + 10) 0 = (c : Int) := ⟨(xv C (b + 10) 0).toNat, by omega⟩
    refine r_aload_n (i := 0) (pc' := 1) dX12_sign_0 rfl rfl (.head _) ?_
    refine r_aload_n (i := 0) (pc' := 2) dX12_sign_1 rfl rfl (.head _) ?_
    refine r_iload_n (i := 1) (pc' := 3) dX12_sign_2 rfl rfl (.tail _ (.head _)) ?_
    refine r_V1p (ci := 12) (pc' := 6) dX12_sign_3 rfl lX12_305 rfl (by decide) (Nat.le_of_ble_eq_true rfl) (by first | assumption | rfl) (by omega) (tX12_whyNotSign hm hR hO (by first | assumption | omega)) ?_
    refine r_V1gi (ci := 12) (pc' := 9) dX12_sign_6 rfl lX12_281 rfl (by decide) (Nat.le_of_ble_eq_true rfl) (by first | assumption | rfl) (by omega) (tX12_refuses hm (by first | exact hin | omega)) (fun r6 n6 P6 X6 Y6 e6 le6 => ?_)
    obtain ⟨h1v, h2v, h3v, h4v, hr6⟩ := e6
    rw [if_pos hk0] at hr6
    rw [hk0] at h4v
    subst h1v h2v h3v h4v hr6
    refine r_if_eq (t := 14) (f := 12) dX12_sign_9 (by decide) rfl (by first | omega | exact xv_in _ _ _) (fun h9 => ?_) (fun h9 => ?_)
    · refine r_aload_n (i := 0) (pc' := 15) dX12_sign_14 rfl rfl (.head _) ?_
      refine r_iconst (pc' := 16) dX12_sign_15 rfl ?_
      refine r_V1gv (ci := 12) (pc' := 19) dX12_sign_16 rfl lX12_72 rfl (by decide) (Nat.le_of_ble_eq_true rfl) (by first | assumption | rfl) (by omega) (tX12_deedOf hm (s := 0) (by omega) (by rw [xv_up_ne _ _ (by omega)]; exact hD)) (fun n16 P16 X16 Y16 e16 le16 => ?_)
      obtain ⟨hg1_16, hg2_16, hg3_16, hg4_16⟩ := e16
      have g1_16 := Eq.symm hg1_16
      have g2_16 := Eq.symm hg2_16
      have g3_16 := Eq.symm hg3_16
      have g4_16 := Eq.symm hg4_16
      clear hg1_16 hg2_16 hg3_16 hg4_16
      subst g1_16 g2_16 g3_16 g4_16
      have hRd := RB.dd (X := q_up X 467 19 (zi 0)) (by rw [xv_up_row _ _ _ (by omega)]; exact hR) hO hT (by rw [xv_up_ne _ _ (by omega)]; exact hD)
      have hrd : rOut (dd (q_up X 467 19 (zi 0)) 0) (dd (q_up X 467 19 (zi 0)) 0) := rOut.rfl
      generalize hXd : dd (q_up X 467 19 (zi 0)) 0 = Xd at hRd hrd ⊢
      refine r_sipush (pc' := 22) dX12_sign_19 rfl (by decide) ?_
      refine r_iconst (pc' := 23) dX12_sign_22 rfl ?_
      refine r_iload_n (i := 1) (pc' := 24) dX12_sign_23 rfl rfl (.tail _ (.head _)) ?_
      refine r_imul (pc' := 25) dX12_sign_24 rfl ?_
      refine r_iadd (pc' := 26) dX12_sign_25 rfl ?_
      refine r_istore_n (i := 2) (pc' := 27) dX12_sign_26 rfl rfl rfl (.s1 (.s1 .nil rfl rfl rfl) rfl rfl rfl) ?_
      refine r_aload_n (i := 0) (pc' := 28) dX12_sign_27 rfl rfl (.head _) ?_
      refine r_getR (pc' := 31) dX12_sign_28 rfl fX12_3 rfl (by first | assumption | rfl) (by omega) (by assumption) ?_
      refine r_bipush (pc' := 33) dX12_sign_31 rfl (by decide) ?_
      refine r_iaload (pc' := 34) dX12_sign_33 rfl (by first | assumption | rfl) (by omega) (by omega) (by omega) (by first | decide | omega) (show Int.toNat 7 = 7 from rfl) ?_
      rw [hRd.m, hz]
      refine r_istore_n (i := 3) (pc' := 35) dX12_sign_34 rfl rfl rfl (.s1 (.s1 (.s1 .nil rfl rfl rfl) rfl rfl rfl) rfl rfl rfl) ?_
      refine r_iconst (pc' := 36) dX12_sign_35 rfl ?_
      refine r_istore (pc' := 38) dX12_sign_36 rfl rfl (.s1 (.s1 (.s1 (.s1 .nil rfl rfl rfl) rfl rfl rfl) rfl rfl rfl) rfl rfl rfl) ?_
      refine l1cX12_sign hm (by omega) ?_
      refine r_aload_n (i := 0) (pc' := 64) dX12_sign_63 rfl rfl (.head _) ?_
      refine r_getR (pc' := 67) dX12_sign_64 rfl fX12_3 rfl (by first | assumption | rfl) (by omega) (by assumption) ?_
      refine r_iload_n (i := 3) (pc' := 68) dX12_sign_67 rfl rfl (.tail _ (.tail _ (.tail _ (.head _)))) ?_
      refine r_iconst (pc' := 69) dX12_sign_68 rfl ?_
      refine r_S2p (pc' := 72) dX12_sign_69 rfl lX12_111 (by decide) (Nat.le_of_ble_eq_true rfl) (tX12_placeOf ) ?_
      refine r_aload_n (i := 0) (pc' := 73) dX12_sign_72 rfl rfl (.head _) ?_
      refine r_getR (pc' := 76) dX12_sign_73 rfl fX12_3 rfl (by first | assumption | rfl) (by omega) (by assumption) ?_
      refine r_iconst (pc' := 77) dX12_sign_76 rfl ?_
      refine r_iaload (pc' := 78) dX12_sign_77 rfl (by first | assumption | rfl) (by omega) (by omega) (by omega) (by first | decide | omega) (show Int.toNat 0 = 0 from rfl) ?_
      rw [zR_v, if_neg (by omega), hRd.z 0 (by decide), hy0]
      refine r_iastore (pc' := 79) dX12_sign_78 rfl (by first | assumption | rfl) (by omega) (by omega) (by omega) (by first | decide | omega) (show _ = (130 + 86 * z) by omega) ?_
      refine r_aload_n (i := 0) (pc' := 80) dX12_sign_79 rfl rfl (.head _) ?_
      refine r_getR (pc' := 83) dX12_sign_80 rfl fX12_3 rfl (by first | assumption | rfl) (by omega) (by assumption) ?_
      refine r_iload_n (i := 3) (pc' := 84) dX12_sign_83 rfl rfl (.tail _ (.tail _ (.tail _ (.head _)))) ?_
      refine r_iconst (pc' := 85) dX12_sign_84 rfl ?_
      refine r_S2p (pc' := 88) dX12_sign_85 rfl lX12_111 (by decide) (Nat.le_of_ble_eq_true rfl) (tX12_placeOf ) ?_
      refine r_aload_n (i := 0) (pc' := 89) dX12_sign_88 rfl rfl (.head _) ?_
      refine r_getR (pc' := 92) dX12_sign_89 rfl fX12_3 rfl (by first | assumption | rfl) (by omega) (by assumption) ?_
      refine r_iload_n (i := 2) (pc' := 93) dX12_sign_92 rfl rfl (.tail _ (.tail _ (.head _))) ?_
      refine r_iconst (pc' := 94) dX12_sign_93 rfl ?_
      refine r_iadd (pc' := 95) dX12_sign_94 rfl ?_
      refine r_iaload (pc' := 96) dX12_sign_95 rfl (by first | assumption | rfl) (by omega) (by omega) (by omega) (by first | decide | omega) (show _ = 3572 + 4 * ii + 1 by omega) ?_
      rw [xv_up_ne _ _ (by omega), zR_v, if_neg (by omega), (hRd.off hsr.1).2.1, hmm]
      refine r_iastore (pc' := 97) dX12_sign_96 rfl (by first | assumption | rfl) (by omega) (by omega) (by omega) (by first | decide | omega) (show _ = (130 + 86 * z) + 1 by omega) ?_
      refine r_iconst (pc' := 98) dX12_sign_97 rfl ?_
      refine r_istore (pc' := 100) dX12_sign_98 rfl rfl (.s1 (.s1 (.s1 (.s1 .nil rfl rfl rfl) rfl rfl rfl) rfl rfl rfl) rfl rfl rfl) ?_
      obtain ⟨X2, hX2⟩ : ∃ X2, q_up (q_up (zR Xd (130 + 86 * z) 86) 468 (130 + 86 * z) (zi (y0 : Int))) 468 ((130 + 86 * z) + 1) (zi (m : Int)) = X2 := ⟨_, rfl⟩
      have hv2 : ∀ j, xv X2 468 j = if j = (130 + 86 * z) then (y0 : Int) else if j = (130 + 86 * z) + 1 then (m : Int) else if (130 + 86 * z) ≤ j ∧ j < (130 + 86 * z) + 86 then 0 else xv Xd 468 j := fun j => by
        rw [← hX2]
        by_cases e1 : j = (130 + 86 * z) + 1
        · subst e1; rw [xv_up_same _ _ _ (by omega), if_neg (by omega), if_pos rfl]
        · rw [xv_up_ne _ _ (by omega)]
          by_cases e2 : j = (130 + 86 * z)
          · subst e2; rw [xv_up_same _ _ _ (by omega), if_pos rfl]
          · rw [xv_up_ne _ _ (by omega), if_neg e2, if_neg e1, zR_v]
      have hr2 : rOut Xd X2 := by rw [← hX2]; exact ((zR_out (by omega)).up (by omega)).up (by omega)
      rw [hX2]
      refine l2X12_sign hm (ii := ii) (z := z) (y0 := y0) (m := m) (v := xv C (b + 14) ii) (by omega) (by omega) (by omega) (by rw [hv2, if_neg (by omega), if_neg (by omega), if_neg (by omega), hRd.z 0 (by decide), hy0]) (by rw [hv2, if_neg (by omega), if_neg (by omega), if_neg (by omega), (hRd.off hsr.1).2.1, hmm]) (by rw [hv2, if_neg (by omega), if_neg (by omega), if_neg (by omega), (hRd.off hsr.1).2.2.2]) (by omega) ?_ m 0 (Nat.zero_add _)
      have hv3 := fun j => lgN_at (X := X2) (a := (130 + 86 * z) + 6 + y0) (v := xv C (b + 14) ii) (by omega) j m
      have hr3 : rOut X2 (lgN X2 ((130 + 86 * z) + 6 + y0) (xv C (b + 14) ii) m) := lgN_out rOut.rfl m (by omega)
      generalize lgN X2 ((130 + 86 * z) + 6 + y0) (xv C (b + 14) ii) m = X3 at hv3 hr3 ⊢
      have g0 : xv X3 468 0 = (y0 : Int) := by rw [hv3, if_neg (by omega), hv2, if_neg (by omega), if_neg (by omega), if_neg (by omega), hRd.z 0 (by decide), hy0]
      have gb : xv X3 468 (3572 + 4 * ii + 2) = xv C (b + 13) ii := by rw [hv3, if_neg (by omega), hv2, if_neg (by omega), if_neg (by omega), if_neg (by omega), (hRd.off hsr.1).2.2.1]
      have ga0 : xv X3 468 (130 + 86 * z) = (y0 : Int) := by rw [hv3, if_neg (by omega), hv2, if_pos rfl]
      have ga1 : xv X3 468 ((130 + 86 * z) + 1) = (m : Int) := by rw [hv3, if_neg (by omega), hv2, if_neg (by omega), if_pos rfl]
      have ga2 : xv X3 468 ((130 + 86 * z) + 2) = 0 := by rw [hv3, if_neg (by omega), hv2, if_neg (by omega), if_neg (by omega), if_pos (by omega)]
      have gz : ∀ w, w < 20 → xv X3 468 ((130 + 86 * z) + 46 + w) = 0 := fun w hw => by rw [hv3, if_neg (by omega), hv2, if_neg (by omega), if_neg (by omega), if_pos (by omega)]
      have gz2 : xv X3 468 ((130 + 86 * z) + 66 + y0) = 0 := by rw [hv3, if_neg (by omega), hv2, if_neg (by omega), if_neg (by omega), if_pos (by omega)]
      refine r_aload_n (i := 0) (pc' := 149) dX12_sign_148 rfl rfl (.head _) ?_
      refine r_iload_n (i := 3) (pc' := 150) dX12_sign_149 rfl rfl (.tail _ (.tail _ (.tail _ (.head _)))) ?_
      refine r_aload_n (i := 0) (pc' := 151) dX12_sign_150 rfl rfl (.head _) ?_
      refine r_getR (pc' := 154) dX12_sign_151 rfl fX12_3 rfl (by first | assumption | rfl) (by omega) (by assumption) ?_
      refine r_iload_n (i := 2) (pc' := 155) dX12_sign_154 rfl rfl (.tail _ (.tail _ (.head _))) ?_
      refine r_iconst (pc' := 156) dX12_sign_155 rfl ?_
      refine r_iadd (pc' := 157) dX12_sign_156 rfl ?_
      refine r_iaload (pc' := 158) dX12_sign_157 rfl (by first | assumption | rfl) (by omega) (by omega) (by omega) (by first | decide | omega) (show _ = 3572 + 4 * ii + 2 by omega) ?_
      rw [gb]
      refine r_aload_n (i := 0) (pc' := 159) dX12_sign_158 rfl rfl (.head _) ?_
      refine r_getR (pc' := 162) dX12_sign_159 rfl fX12_3 rfl (by first | assumption | rfl) (by omega) (by assumption) ?_
      refine r_iconst (pc' := 163) dX12_sign_162 rfl ?_
      refine r_iaload (pc' := 164) dX12_sign_163 rfl (by first | assumption | rfl) (by omega) (by omega) (by omega) (by first | decide | omega) (show Int.toNat 0 = 0 from rfl) ?_
      rw [g0]
      refine r_V3gv (ci := 12) (pc' := 167) dX12_sign_164 rfl lX12_136 rfl (by decide) (Nat.le_of_ble_eq_true rfl) (by first | assumption | rfl) (by omega) (tR_spreads hm (k := z) (f := y0) (x := xv C (b + 13) ii) (y := (m : Int)) (v := 0) (by omega) (by omega) ga0 ga1 ga2 (by omega) gz gz2) (fun n164 P164 X164 Y164 e164 le164 => ?_)
      obtain ⟨hg1_164, hg2_164, hg3_164, hg4_164⟩ := e164
      have g1_164 := Eq.symm hg1_164
      have g2_164 := Eq.symm hg2_164
      have g3_164 := Eq.symm hg3_164
      have g4_164 := Eq.symm hg4_164
      clear hg1_164 hg2_164 hg3_164 hg4_164
      subst g1_164 g2_164 g3_164 g4_164
      have hv4 := fun j => spR_v (X := X3) (a := (130 + 86 * z)) (f := y0) (x := xv C (b + 13) ii) (ov := (m : Int) + 0) (m := (min 5 ((m : Int) + 0)).toNat) (by omega) j
      have hr4 : rOut X2 (spR X3 (130 + 86 * z) y0 (xv C (b + 13) ii) ((m : Int) + 0) (min 5 ((m : Int) + 0)).toNat) := spR_out hr3 (by omega)
      have gm : xv (spR X3 (130 + 86 * z) y0 (xv C (b + 13) ii) ((m : Int) + 0) (min 5 ((m : Int) + 0)).toNat) 468 7 = (z : Int) := by rw [hv4, if_neg (by omega), if_neg (by omega), hv3, if_neg (by omega), hv2, if_neg (by omega), if_neg (by omega), if_neg (by omega), hRd.m, hz]
      have gc0 : xv (spR X3 (130 + 86 * z) y0 (xv C (b + 13) ii) ((m : Int) + 0) (min 5 ((m : Int) + 0)).toNat) 468 3570 = (c : Int) := by rw [hv4, if_neg (by omega), if_neg (by omega), hv3, if_neg (by omega), hv2, if_neg (by omega), if_neg (by omega), if_neg (by omega), hRd.om, hcc]
      generalize spR X3 (130 + 86 * z) y0 (xv C (b + 13) ii) ((m : Int) + 0) (min 5 ((m : Int) + 0)).toNat = X4 at hv4 hr4 gm gc0 ⊢
      have gc : xv (q_up X4 468 7 (zi ((z : Int) + 1))) 468 3570 = (c : Int) := by rw [xv_up_ne _ _ (by omega), gc0]
      refine r_aload_n (i := 0) (pc' := 168) dX12_sign_167 rfl rfl (.head _) ?_
      refine r_getR (pc' := 171) dX12_sign_168 rfl fX12_3 rfl (by first | assumption | rfl) (by omega) (by assumption) ?_
      refine r_bipush (pc' := 173) dX12_sign_171 rfl (by decide) ?_
      refine r_dup2 (pc' := 174) dX12_sign_173 rfl rfl rfl ?_
      refine r_iaload (pc' := 175) dX12_sign_174 rfl (by first | assumption | rfl) (by omega) (by omega) (by omega) (by first | decide | omega) (show Int.toNat 7 = 7 from rfl) ?_
      rw [gm]
      refine r_iconst (pc' := 176) dX12_sign_175 rfl ?_
      refine r_iadd (pc' := 177) dX12_sign_176 rfl ?_
      refine r_iastore (pc' := 178) dX12_sign_177 rfl (by first | assumption | rfl) (by omega) (by omega) (by omega) (by first | decide | omega) (show Int.toNat 7 = 7 from rfl) ?_
      refine r_aload_n (i := 0) (pc' := 179) dX12_sign_178 rfl rfl (.head _) ?_
      refine r_getR (pc' := 182) dX12_sign_179 rfl fX12_3 rfl (by first | assumption | rfl) (by omega) (by assumption) ?_
      refine r_sipush (pc' := 185) dX12_sign_182 rfl (by decide) ?_
      refine r_dup2 (pc' := 186) dX12_sign_185 rfl rfl rfl ?_
      refine r_iaload (pc' := 187) dX12_sign_186 rfl (by first | assumption | rfl) (by omega) (by omega) (by omega) (by first | decide | omega) (show Int.toNat 3570 = 3570 from rfl) ?_
      rw [gc]
      refine r_iconst (pc' := 188) dX12_sign_187 rfl ?_
      refine r_isub (pc' := 189) dX12_sign_188 rfl ?_
      refine r_iastore (pc' := 190) dX12_sign_189 rfl (by first | assumption | rfl) (by omega) (by omega) (by omega) (by first | decide | omega) (show Int.toNat 3570 = 3570 from rfl) ?_
      refine r_iload_n (i := 2) (pc' := 191) dX12_sign_190 rfl rfl (.tail _ (.tail _ (.head _))) ?_
      refine r_istore (pc' := 193) dX12_sign_191 rfl rfl (.s1 (.s1 (.s1 (.s1 .nil rfl rfl rfl) rfl rfl rfl) rfl rfl rfl) rfl rfl rfl) ?_
      obtain ⟨X5, hX5⟩ : ∃ X5, q_up (q_up X4 468 7 (zi ((z : Int) + 1))) 468 3570 (zi ((c : Int) - 1)) = X5 := ⟨_, rfl⟩
      have hv5 : ∀ j, xv X5 468 j = if j = 3570 then (c : Int) - 1 else if j = 7 then (z : Int) + 1 else xv X4 468 j := fun j => by
        rw [← hX5]
        by_cases e1 : j = 3570
        · subst e1; rw [xv_up_same _ _ _ (by omega), if_pos rfl]
        · rw [xv_up_ne _ _ (by omega), if_neg e1]
          by_cases e2 : j = 7
          · subst e2; rw [xv_up_same _ _ _ (by omega), if_pos rfl]
          · rw [xv_up_ne _ _ (by omega), if_neg e2]
      have hr5 : rOut X2 X5 := by rw [← hX5]; exact (hr4.up (by omega)).up (by omega)
      rw [hX5]
      refine l3cX12_sign hm (c := c - 1) (by omega) (by omega) (by rw [hv5, if_pos rfl]; omega) ?_
      refine r_iload_n (i := 3) (pc' := 235) dX12_sign_234 rfl rfl (.tail _ (.tail _ (.tail _ (.head _)))) ?_
      refine r_ireturn dX12_sign_235 rfl ?_
      refine ⟨_, rfl, ?_⟩
      dsimp only
      rw [if_pos hk0]
      refine ⟨rfl, rfl, rfl, ?_, ?_, by first | rfl | exact hz.symm⟩
      · rw [hXd]; exact hr2.trans (shR_out hr5 (by omega))
      · rw [Int.toNat_natCast]
        refine RB_take hO hT hRd hk0 (fun j j1 j2 j3 j4 j5 => ?_) ?_ ?_ (fun q q1 q2 d hd => ?_) ⟨⟨?_, ?_, ?_, ?_, ?_, ?_⟩, fun w hw => ⟨?_, ?_, ?_, ?_⟩⟩
        · rw [hz, Int.toNat_natCast] at j4
          rw [shR_v, if_neg (by omega), hv5, if_neg j3, if_neg j2, hv4, if_neg (by omega), if_neg (by omega), hv3, if_neg (by omega), hv2, if_neg (by omega), if_neg (by omega), if_neg (by omega)]
        · rw [shR_v, if_neg (by omega), hv5, if_neg (by omega), if_pos rfl, hz]
        · rw [shR_v, if_neg (by omega), hv5, if_pos rfl, hcc]; try omega
        · rw [shR_v, if_pos (by omega), hv5, if_neg (by omega), if_neg (by omega), hv4, if_neg (by omega), if_neg (by omega), hv3, if_neg (by omega), hv2, if_neg (by omega), if_neg (by omega), if_neg (by omega)]; try (congr 1; omega)
        all_goals (dsimp only; rw [hz, Int.toNat_natCast, shR_v, if_neg (by omega), hv5, if_neg (by omega), if_neg (by omega), hv4])
        · rw [if_neg (by omega), if_neg (by omega), hv3, if_neg (by omega), hv2, if_pos (by omega), hy0]
        · rw [if_neg (by omega), if_neg (by omega), hv3, if_neg (by omega), hv2, if_neg (by omega), if_pos (by omega), hmm]
        · rw [if_neg (by omega), if_neg (by omega), hv3, if_neg (by omega), hv2, if_neg (by omega), if_neg (by omega), if_pos (by omega)]
        · rw [if_neg (by omega), if_neg (by omega), hv3, if_neg (by omega), hv2, if_neg (by omega), if_neg (by omega), if_pos (by omega)]
        · rw [if_neg (by omega), if_neg (by omega), hv3, if_neg (by omega), hv2, if_neg (by omega), if_neg (by omega), if_pos (by omega)]
        · rw [if_neg (by omega), if_neg (by omega), hv3, if_neg (by omega), hv2, if_neg (by omega), if_neg (by omega), if_pos (by omega)]
        · rw [if_neg (by omega), if_neg (by omega), hv3]
          by_cases e : xv C b 0 ≤ (w : Int) ∧ (w : Int) - xv C b 0 < xv C (b + 12) ii
          · rw [if_pos (by omega), if_pos e]
          · rw [if_neg (by omega), if_neg e, hv2, if_neg (by omega), if_neg (by omega), if_pos (by omega)]
        · rw [if_neg (by omega), if_neg (by omega), hv3, if_neg (by omega), hv2, if_neg (by omega), if_neg (by omega), if_pos (by omega)]
          split <;> rfl
        · by_cases e : (130 + 86 * z) + 46 + y0 ≤ (130 + 86 * z) + (46 + w) ∧ (130 + 86 * z) + (46 + w) < (130 + 86 * z) + 46 + y0 + (min 5 ((m : Int) + 0)).toNat
          · rw [if_pos e, if_pos (by omega), hmm, hy0]; congr 1; omega
          · rw [if_neg e, if_neg (by omega), hv3, if_neg (by omega), hv2, if_neg (by omega), if_neg (by omega), if_pos (by omega)]
            by_cases e2 : xv C b 0 ≤ (w : Int) ∧ (w : Int) - xv C b 0 < 10
            · rw [if_pos e2, c_piece_0 (by omega)]
            · rw [if_neg e2]
        · rw [if_neg (by omega)]
          by_cases e : (w : Int) = xv C b 0
          · rw [if_pos (by omega), if_pos e]
          · rw [if_neg (by omega), if_neg e, hv3, if_neg (by omega), hv2, if_neg (by omega), if_neg (by omega), if_pos (by omega)]
    · exfalso; omega
  · refine r_aload_n (i := 0) (pc' := 1) dX12_sign_0 rfl rfl (.head _) ?_
    refine r_aload_n (i := 0) (pc' := 2) dX12_sign_1 rfl rfl (.head _) ?_
    refine r_iload_n (i := 1) (pc' := 3) dX12_sign_2 rfl rfl (.tail _ (.head _)) ?_
    refine r_V1p (ci := 12) (pc' := 6) dX12_sign_3 rfl lX12_305 rfl (by decide) (Nat.le_of_ble_eq_true rfl) (by first | assumption | rfl) (by omega) (tX12_whyNotSign hm hR hO (by first | assumption | omega)) ?_
    refine r_V1gi (ci := 12) (pc' := 9) dX12_sign_6 rfl lX12_281 rfl (by decide) (Nat.le_of_ble_eq_true rfl) (by first | assumption | rfl) (by omega) (tX12_refuses hm (by first | exact hin | omega)) (fun r6 n6 P6 X6 Y6 e6 le6 => ?_)
    obtain ⟨h1v, h2v, h3v, h4v, hr6⟩ := e6
    rw [if_neg hk0] at hr6
    subst h1v h2v h3v h4v hr6
    refine r_if_eq (t := 14) (f := 12) dX12_sign_9 (by decide) rfl (by first | omega | exact xv_in _ _ _) (fun h9 => ?_) (fun h9 => ?_)
    · exfalso; omega
    · refine r_iconst (pc' := 13) dX12_sign_12 rfl ?_
      refine r_ireturn dX12_sign_13 rfl ?_
      refine ⟨_, rfl, ?_⟩
      dsimp only
      rw [if_neg hk0]
      exact ⟨rfl, rfl, rfl, rfl, rfl⟩
