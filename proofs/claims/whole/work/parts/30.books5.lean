theorem c_start_o (X : q_X) (c : Nat) (f y v s : Int) {i : Nat} (h : i < c ∨ c + 4 < i) : xv (c_start X c f y v s) i = xv X i := by
  funext j
  simp only [c_start, xv, c_zero]
  rw [if_neg (by omega), q_up_ne _ _ (by omega), q_up_ne _ _ (by omega), q_up_ne _ _ (by omega), q_up_ne _ _ (by omega), q_up_ne _ _ (by omega), q_up_ne _ _ (by omega)]
theorem c_spread_o (X : q_X) (c : Nat) (y b : Int) {i : Nat} (h : i ≠ c + 3 ∧ i ≠ c + 4) : xv (c_spread X c y b) i = xv X i := by
  funext j
  unfold c_spread; split
  · rw [c_spN_f _ _ _ _ _ _ _ h.1, xv_up_ne _ _ (by omega)]
  · rfl
theorem c_put_o (X : q_X) (c : Nat) (a b r : Int) {i : Nat} (h : i ≠ c + 1 ∧ i ≠ c + 2) : xv (c_put X c a b r) i = xv X i := by
  funext j
  unfold c_put; split
  · rw [xv_up_ne _ _ (by omega), xv_up_ne _ _ (by omega)]
  · rfl
theorem c_putN_o (X : q_X) (c : Nat) (a b : Int) {i : Nat} (h : i ≠ c + 1 ∧ i ≠ c + 2) : ∀ k, xv (c_putN X c a b k) i = xv X i
  | 0 => rfl
  | k + 1 => by rw [c_putN, c_put_o _ _ _ _ _ h, c_putN_o X c a b h k]
theorem c_start_c (X : q_X) (c : Nat) {f y v s : Int} (hf : q_in f) (hy : q_in y) (hv : q_in v) (hs : q_in s) : xv (c_start X c f y v s) c 0 = f ∧ xv (c_start X c f y v s) c 1 = y ∧ xv (c_start X c f y v s) c 2 = v ∧ xv (c_start X c f y v s) c 3 = s ∧ xv (c_start X c f y v s) c 4 = 0 ∧ xv (c_start X c f y v s) c 5 = 0 := by
  have e : ∀ j, c_start X c f y v s c j = (q_up (q_up (q_up (q_up (q_up (q_up X c 0 (zi f)) c 1 (zi y)) c 2 (zi v)) c 3 (zi s)) c 4 (zi 0)) c 5 (zi 0)) c j := fun j => by simp only [c_start, c_zero]; rw [if_neg (by omega)]
  simp only [xv, e]
  simp [q_up, zi_toInt hf, zi_toInt hy, zi_toInt hv, zi_toInt hs, zi_toInt (show q_in 0 by omega)]
def mk_sh (X : q_X) (o i t : Nat) : q_X := fun a q => if o + 1 ≤ a ∧ a ≤ o + 4 ∧ i ≤ q ∧ q < t then X a (q + 1) else X a q
theorem mk_sh_0 (X : q_X) (o i : Nat) : mk_sh X o i i = X := by
  funext a q; simp only [mk_sh]; rw [if_neg (by omega)]
theorem mk_sh_at (X : q_X) (o i t a : Nat) : xv (mk_sh X o i t) a (t + 1) = xv X a (t + 1) := by
  simp only [mk_sh, xv]; rw [if_neg (by omega)]
theorem mk_sh_o (X : q_X) (o i t : Nat) {a : Nat} (h : a ≤ o ∨ o + 4 < a) : xv (mk_sh X o i t) a = xv X a := by
  funext q; simp only [mk_sh, xv]; rw [if_neg (by omega)]
theorem mk_sh_s (X : q_X) (o i t : Nat) (h : i ≤ t) : q_up (q_up (q_up (q_up (mk_sh X o i t) (o + 1) t (zi (xv X (o + 1) (t + 1)))) (o + 2) t (zi (xv X (o + 2) (t + 1)))) (o + 3) t (zi (xv X (o + 3) (t + 1)))) (o + 4) t (zi (xv X (o + 4) (t + 1))) = mk_sh X o i (t + 1) := by
  funext a q
  simp only [q_up, mk_sh, zi_xv]
  by_cases hq : q = t
  · subst hq
    by_cases ha : o + 1 ≤ a ∧ a ≤ o + 4
    · rw [if_pos (show o + 1 ≤ a ∧ a ≤ o + 4 ∧ i ≤ q ∧ q < q + 1 by omega)]
      have : a = o + 1 ∨ a = o + 2 ∨ a = o + 3 ∨ a = o + 4 := by omega
      rcases this with e | e | e | e <;> simp [e]
    · rw [if_neg (show ¬ (o + 1 ≤ a ∧ a ≤ o + 4 ∧ i ≤ q ∧ q < q + 1) by omega), if_neg (by omega), if_neg (by omega), if_neg (by omega), if_neg (by omega), if_neg (by omega)]
  · rw [if_neg (by omega), if_neg (by omega), if_neg (by omega), if_neg (by omega)]
    by_cases hb : o + 1 ≤ a ∧ a ≤ o + 4 ∧ i ≤ q ∧ q < t
    · rw [if_pos hb, if_pos (by omega)]
    · rw [if_neg hb, if_neg (by omega)]
def mk_rem (X : q_X) (o i : Nat) : q_X := q_up (mk_sh X o i ((xv X o 0).toNat - 1)) o 0 (zi (xv X o 0 - 1))
set_option maxHeartbeats 4000000 in
set_option maxRecDepth 100000 in
theorem lX7_remove {l : Launch} {g : q_G} {n : Nat} {P : q_P} {X : q_X} {Y : q_Y} {o i : Nat} (hm : isMar n P o) (hs : 0 ≤ xv X o 0 ∧ xv X o 0 ≤ 12) (hi : (i : Int) < xv X o 0) : ∀ (w t : Nat), t + w + 1 = (xv X o 0).toNat → i ≤ t → q_Tr l g mX7_remove 1 (q_gv (fun n' P' X' Y' => n' = n ∧ P' = P ∧ Y' = Y ∧ X' = mk_rem X o i)) 11 [(0, .ref (g.1 + o)), (1, .int (zi (i : Int))), (2, .int (zi (t : Int)))] [] n P (mk_sh X o i t) Y := by
  obtain ⟨a0, a1, a2, a3, a4, u1, u2, u3, u4, hnm⟩ := id hm
  intro w
  induction w with
  | zero =>
    intro t hk ht
    have hz := congrFun (mk_sh_o X o i t (a := o) (by omega)) 0
    refine r_iload_n (i := 2) (pc' := 12) dX7_remove_11 rfl rfl (.tail _ (.tail _ (.head _))) ?_
    refine r_iconst (pc' := 13) dX7_remove_12 rfl ?_
    refine r_iadd (pc' := 14) dX7_remove_13 rfl ?_
    refine r_aload_n (i := 0) (pc' := 15) dX7_remove_14 rfl rfl (.head _) ?_
    refine r_getI (pc' := 18) dX7_remove_15 rfl fX7_24 rfl (by first | assumption | rfl) (by omega) ?_
    rw [hz]
    refine r_icmp_ge (t := 83) (f := 21) dX7_remove_18 (by decide) rfl (by first | omega | exact xv_in _ _ _) (by first | omega | exact xv_in _ _ _) (fun h18 => ?_) (fun h18 => ?_)
    · refine r_aload_n (i := 0) (pc' := 84) dX7_remove_83 rfl rfl (.head _) ?_
      refine r_dup (pc' := 85) dX7_remove_84 rfl rfl ?_
      refine r_getI (pc' := 88) dX7_remove_85 rfl fX7_24 rfl (by first | assumption | rfl) (by omega) ?_
      refine r_iconst (pc' := 89) dX7_remove_88 rfl ?_
      refine r_isub (pc' := 90) dX7_remove_89 rfl ?_
      refine r_putI (pc' := 93) dX7_remove_90 rfl fX7_24 rfl (by first | assumption | rfl) (by omega) rfl rfl ?_
      refine r_return dX7_remove_93 rfl ?_
      refine ⟨rfl, rfl, rfl, rfl, ?_⟩
      rw [mk_rem, hz, show (xv X o 0).toNat - 1 = t by omega]
    · exfalso; omega
  | succ w ih =>
    intro t hk ht
    have hz := congrFun (mk_sh_o X o i t (a := o) (by omega)) 0
    refine r_iload_n (i := 2) (pc' := 12) dX7_remove_11 rfl rfl (.tail _ (.tail _ (.head _))) ?_
    refine r_iconst (pc' := 13) dX7_remove_12 rfl ?_
    refine r_iadd (pc' := 14) dX7_remove_13 rfl ?_
    refine r_aload_n (i := 0) (pc' := 15) dX7_remove_14 rfl rfl (.head _) ?_
    refine r_getI (pc' := 18) dX7_remove_15 rfl fX7_24 rfl (by first | assumption | rfl) (by omega) ?_
    rw [hz]
    refine r_icmp_ge (t := 83) (f := 21) dX7_remove_18 (by decide) rfl (by first | omega | exact xv_in _ _ _) (by first | omega | exact xv_in _ _ _) (fun h18 => ?_) (fun h18 => ?_)
    · exfalso; omega
    · refine r_aload_n (i := 0) (pc' := 22) dX7_remove_21 rfl rfl (.head _) ?_
      refine r_getR (pc' := 25) dX7_remove_22 rfl fX7_11 rfl (by first | assumption | rfl) (by omega) (by assumption) ?_
      refine r_iload_n (i := 2) (pc' := 26) dX7_remove_25 rfl rfl (.tail _ (.tail _ (.head _))) ?_
      refine r_aload_n (i := 0) (pc' := 27) dX7_remove_26 rfl rfl (.head _) ?_
      refine r_getR (pc' := 30) dX7_remove_27 rfl fX7_11 rfl (by first | assumption | rfl) (by omega) (by assumption) ?_
      refine r_iload_n (i := 2) (pc' := 31) dX7_remove_30 rfl rfl (.tail _ (.tail _ (.head _))) ?_
      refine r_iconst (pc' := 32) dX7_remove_31 rfl ?_
      refine r_iadd (pc' := 33) dX7_remove_32 rfl ?_
      refine r_iaload (pc' := 34) dX7_remove_33 rfl (by first | assumption | rfl) (by omega) (by omega) (by omega) (by first | decide | omega) (show ((t : Int) + 1).toNat = t + 1 by omega) ?_
      rw [mk_sh_at]
      refine r_iastore (pc' := 35) dX7_remove_34 rfl (by first | assumption | rfl) (by omega) (by omega) (by omega) (by first | decide | omega) (Int.toNat_natCast _) ?_
      refine r_aload_n (i := 0) (pc' := 36) dX7_remove_35 rfl rfl (.head _) ?_
      refine r_getR (pc' := 39) dX7_remove_36 rfl fX7_15 rfl (by first | assumption | rfl) (by omega) (by assumption) ?_
      refine r_iload_n (i := 2) (pc' := 40) dX7_remove_39 rfl rfl (.tail _ (.tail _ (.head _))) ?_
      refine r_aload_n (i := 0) (pc' := 41) dX7_remove_40 rfl rfl (.head _) ?_
      refine r_getR (pc' := 44) dX7_remove_41 rfl fX7_15 rfl (by first | assumption | rfl) (by omega) (by assumption) ?_
      refine r_iload_n (i := 2) (pc' := 45) dX7_remove_44 rfl rfl (.tail _ (.tail _ (.head _))) ?_
      refine r_iconst (pc' := 46) dX7_remove_45 rfl ?_
      refine r_iadd (pc' := 47) dX7_remove_46 rfl ?_
      refine r_iaload (pc' := 48) dX7_remove_47 rfl (by first | assumption | rfl) (by omega) (by omega) (by omega) (by first | decide | omega) (show ((t : Int) + 1).toNat = t + 1 by omega) ?_
      simp (disch := omega) only [xv_up_ne]
      rw [mk_sh_at]
      refine r_iastore (pc' := 49) dX7_remove_48 rfl (by first | assumption | rfl) (by omega) (by omega) (by omega) (by first | decide | omega) (Int.toNat_natCast _) ?_
      refine r_aload_n (i := 0) (pc' := 50) dX7_remove_49 rfl rfl (.head _) ?_
      refine r_getR (pc' := 53) dX7_remove_50 rfl fX7_18 rfl (by first | assumption | rfl) (by omega) (by assumption) ?_
      refine r_iload_n (i := 2) (pc' := 54) dX7_remove_53 rfl rfl (.tail _ (.tail _ (.head _))) ?_
      refine r_aload_n (i := 0) (pc' := 55) dX7_remove_54 rfl rfl (.head _) ?_
      refine r_getR (pc' := 58) dX7_remove_55 rfl fX7_18 rfl (by first | assumption | rfl) (by omega) (by assumption) ?_
      refine r_iload_n (i := 2) (pc' := 59) dX7_remove_58 rfl rfl (.tail _ (.tail _ (.head _))) ?_
      refine r_iconst (pc' := 60) dX7_remove_59 rfl ?_
      refine r_iadd (pc' := 61) dX7_remove_60 rfl ?_
      refine r_iaload (pc' := 62) dX7_remove_61 rfl (by first | assumption | rfl) (by omega) (by omega) (by omega) (by first | decide | omega) (show ((t : Int) + 1).toNat = t + 1 by omega) ?_
      simp (disch := omega) only [xv_up_ne]
      rw [mk_sh_at]
      refine r_iastore (pc' := 63) dX7_remove_62 rfl (by first | assumption | rfl) (by omega) (by omega) (by omega) (by first | decide | omega) (Int.toNat_natCast _) ?_
      refine r_aload_n (i := 0) (pc' := 64) dX7_remove_63 rfl rfl (.head _) ?_
      refine r_getR (pc' := 67) dX7_remove_64 rfl fX7_21 rfl (by first | assumption | rfl) (by omega) (by assumption) ?_
      refine r_iload_n (i := 2) (pc' := 68) dX7_remove_67 rfl rfl (.tail _ (.tail _ (.head _))) ?_
      refine r_aload_n (i := 0) (pc' := 69) dX7_remove_68 rfl rfl (.head _) ?_
      refine r_getR (pc' := 72) dX7_remove_69 rfl fX7_21 rfl (by first | assumption | rfl) (by omega) (by assumption) ?_
      refine r_iload_n (i := 2) (pc' := 73) dX7_remove_72 rfl rfl (.tail _ (.tail _ (.head _))) ?_
      refine r_iconst (pc' := 74) dX7_remove_73 rfl ?_
      refine r_iadd (pc' := 75) dX7_remove_74 rfl ?_
      refine r_iaload (pc' := 76) dX7_remove_75 rfl (by first | assumption | rfl) (by omega) (by omega) (by omega) (by first | decide | omega) (show ((t : Int) + 1).toNat = t + 1 by omega) ?_
      simp (disch := omega) only [xv_up_ne]
      rw [mk_sh_at]
      refine r_iastore (pc' := 77) dX7_remove_76 rfl (by first | assumption | rfl) (by omega) (by omega) (by omega) (by first | decide | omega) (Int.toNat_natCast _) ?_
      refine r_iinc (pc' := 80) dX7_remove_77 rfl rfl (.tail _ (.tail _ (.head _))) (.s1 (.s1 (.here .nil) rfl rfl rfl) rfl rfl rfl) ?_
      refine r_goto (t := 11) dX7_remove_80 (by decide) ?_
      rw [mk_sh_s _ _ _ _ ht]
      exact ih (t + 1) (by omega) (by omega)
set_option maxHeartbeats 4000000 in
set_option maxRecDepth 100000 in
theorem tX7_remove {l : Launch} {g : q_G} {n : Nat} {P : q_P} {X : q_X} {Y : q_Y} {o i : Nat} (hm : isMar n P o) (hs : 0 ≤ xv X o 0 ∧ xv X o 0 ≤ 12) (hi : (i : Int) < xv X o 0) : q_Met l g mX7_remove 1 [.ref (g.1 + o), .int (zi (i : Int))] n P X Y (q_gv (fun n' P' X' Y' => n' = n ∧ P' = P ∧ Y' = Y ∧ X' = mk_rem X o i)) := by
  obtain ⟨a0, a1, a2, a3, a4, u1, u2, u3, u4, hnm⟩ := id hm
  refine q_enter (L := [(0, .ref (g.1 + o)), (1, .int (zi (i : Int)))]) (by decide) (Nat.le_of_ble_eq_true rfl) rfl ?_
  refine r_aload_n (i := 0) (pc' := 1) dX7_remove_0 rfl rfl (.head _) ?_
  refine r_iload_n (i := 1) (pc' := 2) dX7_remove_1 rfl rfl (.tail _ (.head _)) ?_
  refine r_V1p (ci := 7) (pc' := 5) dX7_remove_2 rfl lX7_40 rfl (by decide) (Nat.le_of_ble_eq_true rfl) (by first | assumption | rfl) (by omega) (tX7_has (by assumption) (by omega)) ?_
  refine r_bif_ne (t := 9) (f := 8) dX7_remove_5 (by decide) rfl (fun h5 => ?_) (fun h5 => ?_)
  · refine r_iload_n (i := 1) (pc' := 10) dX7_remove_9 rfl rfl (.tail _ (.head _)) ?_
    refine r_istore_n (i := 2) (pc' := 11) dX7_remove_10 rfl rfl rfl (.s1 (.s1 .nil rfl rfl rfl) rfl rfl rfl) ?_
    refine r_eqX (mk_sh_0 X o i).symm ?_
    exact lX7_remove hm hs hi ((xv X o 0).toNat - i - 1) i (by omega) (by omega)
  · exfalso; omega
set_option maxHeartbeats 4000000 in
set_option maxRecDepth 100000 in
theorem tX1_addContract {l : Launch} {g : q_G} {n : Nat} {P : q_P} {X : q_X} {Y : q_Y} {b : Nat} (hb : isBk n P b) (hs : 0 ≤ xv X b 10 ∧ xv X b 10 < 40) : q_Met l g mX1_addContract 0 [.ref (g.1 + b)] n P X Y (q_gr g (fun r' n' P' X' Y' => n' = n ∧ P' = P ∧ Y' = Y ∧ X' = q_up X b 10 (zi (xv X b 10 + 1)) ∧ r' = some (con b (xv X b 10).toNat))) := by
  obtain ⟨b0, b1, b2, b3, q7, q8, q9, q11, q12, q13, hn, hpro, hmar, hfor, hcs⟩ := id hb
  refine q_enter (L := [(0, .ref (g.1 + b))]) (by decide) (Nat.le_of_ble_eq_true rfl) rfl ?_
  refine r_aload_n (i := 0) (pc' := 1) dX1_addContract_0 rfl rfl (.head _) ?_
  refine r_getI (pc' := 4) dX1_addContract_1 rfl fX1_75 rfl (by first | assumption | rfl) (by omega) ?_
  refine r_bipush (pc' := 6) dX1_addContract_4 rfl (by decide) ?_
  refine r_icmp_lt (t := 11) (f := 9) dX1_addContract_6 (by decide) rfl (by first | omega | exact xv_in _ _ _) (by first | omega | exact xv_in _ _ _) (fun h6 => ?_) (fun h6 => ?_)
  · refine r_aload_n (i := 0) (pc' := 12) dX1_addContract_11 rfl rfl (.head _) ?_
    refine r_dup (pc' := 13) dX1_addContract_12 rfl rfl ?_
    refine r_getI (pc' := 16) dX1_addContract_13 rfl fX1_75 rfl (by first | assumption | rfl) (by omega) ?_
    refine r_iconst (pc' := 17) dX1_addContract_16 rfl ?_
    refine r_iadd (pc' := 18) dX1_addContract_17 rfl ?_
    refine r_putI (pc' := 21) dX1_addContract_18 rfl fX1_75 rfl (by first | assumption | rfl) (by omega) rfl rfl ?_
    refine r_aload_n (i := 0) (pc' := 22) dX1_addContract_21 rfl rfl (.head _) ?_
    refine r_getR (pc' := 25) dX1_addContract_22 rfl fX1_36 rfl (by first | assumption | rfl) (by omega) (by assumption) ?_
    refine r_aload_n (i := 0) (pc' := 26) dX1_addContract_25 rfl rfl (.head _) ?_
    refine r_getI (pc' := 29) dX1_addContract_26 rfl fX1_75 rfl (by first | assumption | rfl) (by omega) ?_
    rw [xv_up_same _ _ _ (by omega)]
    refine r_iconst (pc' := 30) dX1_addContract_29 rfl ?_
    refine r_isub (pc' := 31) dX1_addContract_30 rfl ?_
    refine r_aaload (pc' := 32) (v := .ref (g.1 + con b (xv X b 10).toNat)) dX1_addContract_31 rfl (by first | assumption | rfl) (by decide) (by omega) (by omega) (by omega) (by first | decide | omega) (show (xv X b 10 + 1 - 1).toNat = (xv X b 10).toNat by omega) (hb.r (by omega)) ?_
    refine r_areturn (o := some (g.1 + con b (xv X b 10).toNat)) dX1_addContract_32 rfl ?_
    exact ⟨some (con b (xv X b 10).toNat), rfl, rfl, rfl, rfl, rfl, rfl⟩
  · exfalso; omega
