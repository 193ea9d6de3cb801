/-! the tape, there and here -/
def tS (C X : q_X) (m : Int) : Prop := (0 ≤ m ∧ m ≤ 500) ∧ xv C 445 1 = m ∧ xv X 467 4 = m ∧ ∀ j : Nat, (j : Int) < m → xv X 470 j % 256 = xv C 446 j
def tO (X X' : q_X) : Prop := ∀ a j, a ≠ 470 → ¬ (a = 467 ∧ j = 4) → X' a j = X a j
theorem tO.rfl {X : q_X} : tO X X := fun _ _ _ _ => Eq.refl _
theorem tO.trans {X X' X2 : q_X} (h : tO X X') (h2 : tO X' X2) : tO X X2 := fun a j a1 a2 => (h2 a j a1 a2).trans (h a j a1 a2)
theorem tO_up (X : q_X) (j : Nat) (u v : Int32) : tO X (q_up (q_up X 470 j u) 467 4 v) := fun a q a1 a2 => by rw [q_up_ne _ _ (by omega), q_up_ne _ _ (by omega)]
theorem tS.add {C X : q_X} {m c w : Int} (h : tS C X m) (hm : m < 500) (hc : -128 ≤ c ∧ c ≤ 127) (hw : c % 256 = w % 256) : tS (b_add C 445 500 w) (q_up (q_up X 470 m.toNat (zi c)) 467 4 (zi (m + 1))) (m + 1) := by
  obtain ⟨h0, h1, h2, h3⟩ := h
  unfold b_add
  rw [h1, if_pos (by omega)]
  refine ⟨by omega, by rw [xv_up_same _ _ _ (by omega)], by rw [xv_up_same _ _ _ (by omega)], fun j hj => ?_⟩
  rw [xv_up_ne (i := 467) _ _ (by omega), xv_up_ne (i := 445) _ _ (by omega)]
  by_cases e : j = m.toNat
  · subst e; rw [xv_up_same X 470 _ (by omega), hw]; exact (xv_up_same C (445 + 1) _ (by omega)).symm
  · rw [xv_up_ne (i := 470) _ _ (by omega), xv_up_ne (i := 445 + 1) _ _ (by omega)]; exact h3 j (by omega)
theorem bv_sh (x : BitVec 32) {k : Nat} (hk : k ≤ 24) : ((x.sshiftRight k).setWidth 8).toNat = x.toNat / 2 ^ k % 256 := by
  have e : (x.sshiftRight k).setWidth 8 = (x >>> k).setWidth 8 := by
    apply BitVec.eq_of_getLsbD_eq
    intro i hi
    rw [BitVec.getLsbD_setWidth, BitVec.getLsbD_setWidth, BitVec.getLsbD_sshiftRight, BitVec.getLsbD_ushiftRight]
    simp [show ¬ 32 ≤ i by omega, show k + i < 32 by omega]
  rw [e, BitVec.toNat_setWidth, BitVec.toNat_ushiftRight, Nat.shiftRight_eq_div_pow]
theorem bv8_mod (y : BitVec 8) : y.toInt % 256 = (y.toNat : Int) := by
  have := y.isLt
  rw [BitVec.toInt_eq_toNat_cond]
  split <;> omega
theorem four_b {v : Int} {k : Int} (hk : k = 24 ∨ k = 16 ∨ k = 8 ∨ k = 0) : i8 ((zi v >>> (zi k &&& 31)).toInt) % 256 = (v % 4294967296 / 2 ^ k.toNat) % 256 := by
  unfold i8
  rw [zi_of]
  have hx : (zi v).toBitVec.toNat = (v % 4294967296).toNat := zi_tn v
  have hs : ∀ n : Nat, n ≤ 24 → (zi v >>> (zi k &&& 31)).toBitVec = (zi v).toBitVec.sshiftRight n → (zi v >>> (zi k &&& 31)).toInt8.toInt % 256 = (v % 4294967296 / 2 ^ n) % 256 := fun n hn he => by
    have h1 : (zi v >>> (zi k &&& 31)).toInt8.toInt = (((zi v).toBitVec.sshiftRight n).setWidth 8).toInt := by
      rw [← he, ← BitVec.signExtend_eq_setWidth_of_le _ (by omega)]; rfl
    rw [h1, bv8_mod, bv_sh _ hn, hx, Int.natCast_emod, Int.natCast_ediv, Int.natCast_pow, Int.toNat_of_nonneg (by omega)]; rfl
  rcases hk with e | e | e | e <;> subst e
  · exact hs 24 (by omega) (by rw [Int32.toBitVec_shiftRight, BitVec.sshiftRight']; congr 1)
  · exact hs 16 (by omega) (by rw [Int32.toBitVec_shiftRight, BitVec.sshiftRight']; congr 1)
  · exact hs 8 (by omega) (by rw [Int32.toBitVec_shiftRight, BitVec.sshiftRight']; congr 1)
  · exact hs 0 (by omega) (by rw [Int32.toBitVec_shiftRight, BitVec.sshiftRight']; congr 1)
set_option maxHeartbeats 4000000 in
set_option maxRecDepth 100000 in
theorem oX12_four {l : Launch} {g : q_G} {n : Nat} {P : q_P} {X : q_X} {Y : q_Y} (hm : isMod n P) {C : q_X} {m : Int} (hS : tS C X m) (hmm : m < 500) {v k : Int} (hk : k = 24 ∨ k = 16 ∨ k = 8 ∨ k = 0) {K : q_K} (kk : ∀ X', tO X X' → tS (b_add C 445 500 (v % 4294967296 / 2 ^ k.toNat)) X' (m + 1) → q_Tr l g mX12_four 0 K 3 [(0, .ref (g.1 + 467)), (1, .int (zi v)), (2, .int (zi (k + -8)))] [] n P X' Y) : q_Tr l g mX12_four 0 K 3 [(0, .ref (g.1 + 467)), (1, .int (zi v)), (2, .int (zi k))] [] n P X Y := by
  obtain ⟨m0, m2, m3, m8, m9, m14, m15, m16, m17, m18, m20, m22, m25, hnm9⟩ := id hm
  have h3 := hS.2.2.1
  have h0 := hS.1
  refine r_iload_n (i := 2) (pc' := 4) dX12_four_3 rfl rfl (.tail _ (.tail _ (.head _))) ?_
  refine r_if_lt (t := 36) (f := 7) dX12_four_4 (by decide) rfl (by first | omega | exact xv_in _ _ _) (fun h4 => ?_) (fun h4 => ?_)
  · exfalso; omega
  · refine r_aload_n (i := 0) (pc' := 8) dX12_four_7 rfl rfl (.head _) ?_
    refine r_getR (pc' := 11) dX12_four_8 rfl fX12_18 rfl (by first | assumption | rfl) (by omega) (by assumption) ?_
    refine r_aload_n (i := 0) (pc' := 12) dX12_four_11 rfl rfl (.head _) ?_
    refine r_getI (pc' := 15) dX12_four_12 rfl fX12_76 rfl (by first | assumption | rfl) (by omega) ?_
    rw [h3]
    refine r_iload_n (i := 1) (pc' := 16) dX12_four_15 rfl rfl (.tail _ (.head _)) ?_
    refine r_iload_n (i := 2) (pc' := 17) dX12_four_16 rfl rfl (.tail _ (.tail _ (.head _))) ?_
    refine r_ishr (pc' := 18) dX12_four_17 rfl ((zi_of _).symm) ?_
    refine r_i2b (pc' := 19) dX12_four_18 rfl (i8_z _) ?_
    refine r_bastore (pc' := 20) dX12_four_19 rfl (by first | assumption | rfl) (by omega) (by omega) (by omega) (by first | decide | omega) rfl (by first | (simp only [narrow, i8_i8]; done) | (unfold narrow; rw [i8_i8]) | exact congrArg Value.int (i8_i8 _)) ?_
    refine r_aload_n (i := 0) (pc' := 21) dX12_four_20 rfl rfl (.head _) ?_
    refine r_dup (pc' := 22) dX12_four_21 rfl rfl ?_
    refine r_getI (pc' := 25) dX12_four_22 rfl fX12_76 rfl (by first | assumption | rfl) (by omega) ?_
    rw [xv_up_ne _ _ (by omega), h3]
    refine r_iconst (pc' := 26) dX12_four_25 rfl ?_
    refine r_iadd (pc' := 27) dX12_four_26 rfl ?_
    refine r_putI (pc' := 30) dX12_four_27 rfl fX12_76 rfl (by first | assumption | rfl) (by omega) rfl rfl ?_
    refine r_iinc (pc' := 33) dX12_four_30 rfl rfl (.tail _ (.tail _ (.head _))) (.s1 (.s1 (.here .nil) rfl rfl rfl) rfl rfl rfl) ?_
    refine r_goto (t := 3) dX12_four_33 (by decide) ?_
    exact kk _ (tO_up _ _ _ _) (hS.add hmm (i8_b _) (four_b hk))
set_option maxHeartbeats 4000000 in
set_option maxRecDepth 100000 in
theorem tX12_four {l : Launch} {g : q_G} {n : Nat} {P : q_P} {X : q_X} {Y : q_Y} (hm : isMod n P) {C : q_X} {m : Int} (hS : tS C X m) (hmm : m + 4 ≤ 500) {v : Int} : q_Met l g mX12_four 0 [.ref (g.1 + 467), .int (zi v)] n P X Y (q_gv (fun n' P' X' Y' => n' = n ∧ P' = P ∧ Y' = Y ∧ tO X X' ∧ tS (b_word C 445 500 v) X' (m + 4))) := by
  obtain ⟨m0, m2, m3, m8, m9, m14, m15, m16, m17, m18, m20, m22, m25, hnm9⟩ := id hm
  refine q_enter (L := [(0, .ref (g.1 + 467)), (1, .int (zi v))]) (by decide) (Nat.le_of_ble_eq_true rfl) rfl ?_
  refine r_bipush (pc' := 2) dX12_four_0 rfl (by decide) ?_
  refine r_istore_n (i := 2) (pc' := 3) dX12_four_2 rfl rfl rfl (.s1 (.s1 .nil rfl rfl rfl) rfl rfl rfl) ?_
  refine oX12_four hm hS (by omega) (by omega) (fun X1 o1 s1 => ?_)
  refine oX12_four hm s1 (by omega) (by omega) (fun X2 o2 s2 => ?_)
  refine oX12_four hm s2 (by omega) (by omega) (fun X3 o3 s3 => ?_)
  refine oX12_four hm s3 (by omega) (by omega) (fun X4 o4 s4 => ?_)
  have hs4 : tS (b_word C 445 500 v) X4 (m + 4) := by
    have e : b_add (b_add (b_add (b_add C 445 500 (v % 4294967296 / 2 ^ 24)) 445 500 (v % 4294967296 / 2 ^ 16)) 445 500 (v % 4294967296 / 2 ^ 8)) 445 500 (v % 4294967296 / 2 ^ 0) = b_word C 445 500 v := by
      unfold b_word
      generalize b_add (b_add (b_add C 445 500 (v % 4294967296 / 2 ^ 24)) 445 500 (v % 4294967296 / 2 ^ 16)) 445 500 (v % 4294967296 / 2 ^ 8) = D
      unfold b_add
      rw [show v % 4294967296 / 2 ^ 0 % 256 = v % 256 by omega]
    rw [show m + 1 + 1 + 1 + 1 = m + 4 by omega] at s4
    rw [← e]; exact s4
  refine r_iload_n (i := 2) (pc' := 4) dX12_four_3 rfl rfl (.tail _ (.tail _ (.head _))) ?_
  refine r_if_lt (t := 36) (f := 7) dX12_four_4 (by decide) rfl (by first | omega | exact xv_in _ _ _) (fun h4 => ?_) (fun h4 => ?_)
  · refine r_return dX12_four_36 rfl ?_
    exact ⟨rfl, rfl, rfl, rfl, ((o1.trans o2).trans o3).trans o4, hs4⟩
  · exfalso; omega
set_option maxHeartbeats 4000000 in
set_option maxRecDepth 100000 in
theorem tX12_feed {l : Launch} {g : q_G} {n : Nat} {P : q_P} {X : q_X} {Y : q_Y} (hm : isMod n P) {C : q_X} {m : Int} (hS : tS C X m) {a1 a2 a3 a4 a5 : Int} : q_Met l g mX12_feed 1 [.ref (g.1 + 467), .int (zi a1), .int (zi a2), .int (zi a3), .int (zi a4), .int (zi a5)] n P X Y (q_gi (fun r' n' P' X' Y' => n' = n ∧ P' = P ∧ Y' = Y ∧ if m ≤ 480 then tO X X' ∧ tS (b_feed C a1 a2 a3 a4 a5) X' (m + 20) ∧ r' = m + 20 else X' = X ∧ r' = -1)) := by
  obtain ⟨m0, m2, m3, m8, m9, m14, m15, m16, m17, m18, m20, m22, m25, hnm9⟩ := id hm
  have h3 := hS.2.2.1
  have h0 := hS.1
  refine q_enter (L := [(0, .ref (g.1 + 467)), (1, .int (zi a1)), (2, .int (zi a2)), (3, .int (zi a3)), (4, .int (zi a4)), (5, .int (zi a5))]) (by decide) (Nat.le_of_ble_eq_true rfl) rfl ?_
  refine r_aload_n (i := 0) (pc' := 1) dX12_feed_0 rfl rfl (.head _) ?_
  refine r_getI (pc' := 4) dX12_feed_1 rfl fX12_76 rfl (by first | assumption | rfl) (by omega) ?_
  rw [h3]
  refine r_bipush (pc' := 6) dX12_feed_4 rfl (by decide) ?_
  refine r_iadd (pc' := 7) dX12_feed_6 rfl ?_
  refine r_sipush (pc' := 10) dX12_feed_7 rfl (by decide) ?_
  refine r_icmp_le (t := 15) (f := 13) dX12_feed_10 (by decide) rfl (by first | omega | exact xv_in _ _ _) (by first | omega | exact xv_in _ _ _) (fun h10 => ?_) (fun h10 => ?_)
  · refine r_aload_n (i := 0) (pc' := 16) dX12_feed_15 rfl rfl (.head _) ?_
    refine r_iload_n (i := 1) (pc' := 17) dX12_feed_16 rfl rfl (.tail _ (.head _)) ?_
    refine r_V1gv (ci := 12) (pc' := 20) dX12_feed_17 rfl lX12_79 rfl (by decide) (Nat.le_of_ble_eq_true rfl) (by first | assumption | rfl) (by omega) (tX12_four hm hS (by omega)) (fun n17 P17 X17 Y17 e17 le17 => ?_)
    obtain ⟨h1v, h2v, h3v, ho17, hS17⟩ := e17
    subst h1v h2v h3v
    refine r_aload_n (i := 0) (pc' := 21) dX12_feed_20 rfl rfl (.head _) ?_
    refine r_iload_n (i := 2) (pc' := 22) dX12_feed_21 rfl rfl (.tail _ (.tail _ (.head _))) ?_
    refine r_V1gv (ci := 12) (pc' := 25) dX12_feed_22 rfl lX12_79 rfl (by decide) (Nat.le_of_ble_eq_true rfl) (by first | assumption | rfl) (by omega) (tX12_four hm hS17 (by omega)) (fun n22 P22 X22 Y22 e22 le22 => ?_)
    obtain ⟨h1v, h2v, h3v, ho22, hS22⟩ := e22
    subst h1v h2v h3v
    refine r_aload_n (i := 0) (pc' := 26) dX12_feed_25 rfl rfl (.head _) ?_
    refine r_iload_n (i := 3) (pc' := 27) dX12_feed_26 rfl rfl (.tail _ (.tail _ (.tail _ (.head _)))) ?_
    refine r_V1gv (ci := 12) (pc' := 30) dX12_feed_27 rfl lX12_79 rfl (by decide) (Nat.le_of_ble_eq_true rfl) (by first | assumption | rfl) (by omega) (tX12_four hm hS22 (by omega)) (fun n27 P27 X27 Y27 e27 le27 => ?_)
    obtain ⟨h1v, h2v, h3v, ho27, hS27⟩ := e27
    subst h1v h2v h3v
    refine r_aload_n (i := 0) (pc' := 31) dX12_feed_30 rfl rfl (.head _) ?_
    refine r_iload (pc' := 33) dX12_feed_31 rfl (.tail _ (.tail _ (.tail _ (.tail _ (.head _))))) ?_
    refine r_V1gv (ci := 12) (pc' := 36) dX12_feed_33 rfl lX12_79 rfl (by decide) (Nat.le_of_ble_eq_true rfl) (by first | assumption | rfl) (by omega) (tX12_four hm hS27 (by omega)) (fun n33 P33 X33 Y33 e33 le33 => ?_)
    obtain ⟨h1v, h2v, h3v, ho33, hS33⟩ := e33
    subst h1v h2v h3v
    refine r_aload_n (i := 0) (pc' := 37) dX12_feed_36 rfl rfl (.head _) ?_
    refine r_iload (pc' := 39) dX12_feed_37 rfl (.tail _ (.tail _ (.tail _ (.tail _ (.tail _ (.head _)))))) ?_
    refine r_V1gv (ci := 12) (pc' := 42) dX12_feed_39 rfl lX12_79 rfl (by decide) (Nat.le_of_ble_eq_true rfl) (by first | assumption | rfl) (by omega) (tX12_four hm hS33 (by omega)) (fun n39 P39 X39 Y39 e39 le39 => ?_)
    obtain ⟨h1v, h2v, h3v, ho39, hS39⟩ := e39
    subst h1v h2v h3v
    refine r_aload_n (i := 0) (pc' := 43) dX12_feed_42 rfl rfl (.head _) ?_
    refine r_getI (pc' := 46) dX12_feed_43 rfl fX12_76 rfl (by first | assumption | rfl) (by omega) ?_
    rw [hS39.2.2.1]
    refine r_ireturn dX12_feed_46 rfl ?_
    refine ⟨_, rfl, rfl, rfl, rfl, ?_⟩
    first
      | (rw [if_neg (by omega)]; exact ⟨rfl, rfl⟩)
      | (rw [if_pos (by omega)]
         have e20 : m + 4 + 4 + 4 + 4 + 4 = m + 20 := by omega
         rw [e20] at hS39 ⊢
         exact ⟨(((ho17.trans ho22).trans ho27).trans ho33).trans ho39, hS39, rfl⟩)
  · refine r_iconst (pc' := 14) dX12_feed_13 rfl ?_
    refine r_ireturn dX12_feed_14 rfl ?_
    refine ⟨_, rfl, rfl, rfl, rfl, ?_⟩
    first
      | (rw [if_neg (by omega)]; exact ⟨rfl, rfl⟩)
      | (rw [if_pos (by omega)]
         have e20 : m + 4 + 4 + 4 + 4 + 4 = m + 20 := by omega
         rw [e20] at hS39 ⊢
         exact ⟨(((ho17.trans ho22).trans ho27).trans ho33).trans ho39, hS39, rfl⟩)
theorem tS.r {C X : q_X} {m a : Int} (h : tS C X m) (ha : 0 ≤ a) : mRd X a = rd C a := by
  obtain ⟨h0, h1, h2, h3⟩ := h
  unfold mRd rd b_at
  rw [h2, h1]
  by_cases e : a < m
  · rw [if_pos e, if_pos (by omega), h3 _ (by omega)]
  · rw [if_neg e, if_neg (by omega)]
