/-! what stays where only deads move -/
def cAg (X X' : q_X) (c : Nat) : Prop := ∀ d, d ≤ 4 → xv X' (c + d) = xv X (c + d)
theorem cAg.z {X X' : q_X} {c : Nat} (h : cAg X X' c) : xv X' c = xv X c := h 0 (by omega)
theorem c_base_ag {X X' : q_X} {c : Nat} (h : cAg X X' c) (y : Int) : c_base X' c y = c_base X c y := by simp only [c_base, c_plays, h.z, h 1 (by omega)]
theorem c_roster_ag {X X' : q_X} {c : Nat} (h : cAg X X' c) (y : Int) : c_roster X' c y = c_roster X c y := by simp only [c_roster, c_plays, h.z, h 2 (by omega)]
theorem c_parts_ag {X X' : q_X} {c : Nat} (h : cAg X X' c) (y : Int) : c_parts X' c y = c_parts X c y := by simp only [c_parts, h.z, h 3 (by omega)]
theorem c_given_ag {X X' : q_X} {c : Nat} (h : cAg X X' c) (y : Int) : c_given X' c y = c_given X c y := by simp only [c_given, h.z, h 4 (by omega)]
theorem c_from_ag {X X' : q_X} {c : Nat} (h : cAg X X' c) (y : Int) : c_from X' c y = c_from X c y := by simp only [c_from, h.z, h 3 (by omega)]
theorem c_sure_ag {X X' : q_X} {c : Nat} (h : cAg X X' c) (y : Int) : c_sure X' c y = c_sure X c y := by simp only [c_sure, h.z, h 1 (by omega)]
theorem cOk_ag {X X' : q_X} {c : Nat} (h : cAg X X' c) (h0 : cOk X c) : cOk X' c := by
  unfold cOk at h0 ⊢
  rw [h.z, h 1 (by omega), h 2 (by omega), h 3 (by omega), h 4 (by omega)]
  exact h0
/-- the books but for deads -/
def bAg (X X' : q_X) (b : Nat) : Prop := ∀ d, d < 220 → (d ≠ 2 ∧ d ≠ 18) → xv X' (b + d) = xv X (b + d)
theorem bAg.z {X X' : q_X} {b : Nat} (h : bAg X X' b) : xv X' b = xv X b := h 0 (by omega) (by omega)
theorem bAg.c {X X' : q_X} {b k : Nat} (h : bAg X X' b) (hk : k < 40) : cAg X X' (con b k) := fun d hd => by
  have := h (20 + 5 * k + d) (by omega) (by omega)
  rw [show con b k + d = b + (20 + 5 * k + d) by unfold con; omega]
  exact this
theorem bOk_ag {X X' : q_X} {b : Nat} (h : bAg X X' b) (h0 : bOk X b) : bOk X' b := by
  have hc := fun (k : Nat) (hk : (k : Int) < xv X b 10) => cOk_ag (h.c (k := k) (by have := h0.2.2.2.2.2.2.2.1; omega)) (h0.c hk)
  unfold bOk at h0 ⊢
  rw [h.z, h 1 (by omega) (by omega), h 4 (by omega) (by omega), h 5 (by omega) (by omega), h 6 (by omega) (by omega), h 7 (by omega) (by omega), h 8 (by omega) (by omega), h 9 (by omega) (by omega), h 10 (by omega) (by omega), h 11 (by omega) (by omega), h 12 (by omega) (by omega), h 13 (by omega) (by omega), h 14 (by omega) (by omega)]
  obtain ⟨a1, a2, a3, a4, a5, a6, a7, a8, -, rest⟩ := h0
  exact ⟨a1, a2, a3, a4, a5, a6, a7, a8, hc, rest⟩
theorem bk_dPay_ag {X X' : q_X} {b c : Nat} (h : bAg X X' b) (hc : cAg X X' c) (y d : Int) : bk_dPay X' b c y d = bk_dPay X b c y d := by simp only [bk_dPay, h.z, c_sure_ag hc, c_roster_ag hc]
theorem bk_dNow_ag {X X' : q_X} {b c : Nat} (h : bAg X X' b) (hc : cAg X X' c) (d : Int) : bk_dNow X' b c d = bk_dNow X b c d := by simp only [bk_dNow, h.z, c_from_ag hc, c_parts_ag hc]
theorem bk_next_ag {X X' : q_X} {b c : Nat} (h : bAg X X' b) (hc : cAg X X' c) (d : Int) : bk_next X' b c d = bk_next X b c d := by simp only [bk_next, h.z, c_from_ag hc, bk_dNow_ag h hc]
theorem xv_up_row (X : q_X) {i a : Nat} (j : Nat) (v : Int32) (h : a ≠ i) : xv (q_up X i j v) a = xv X a := by funext b; exact xv_up_ne _ _ (by omega)
theorem bAg_up (X : q_X) (b j : Nat) (v : Int32) : bAg X (q_up X (b + 2) j v) b := fun d _ h2 => xv_up_row X j v (by omega)
def bk_rel (X : q_X) (b : Nat) (k t : Int) : q_X := if ¬ bk_ref X b k = 0 then X else
  q_up (q_up (if xv X b 0 < 19 then q_up (q_up X (b + 2) (xv X b 0).toNat (zi (xv X (b + 2) (xv X b 0).toNat + if t = 0 then bk_dead X b (con b k.toNat) (xv X b 1) else bk_dNow X b (con b k.toNat) (xv X b 1)))) (b + 2) (xv X b 0 + 1).toNat (zi (xv X (b + 2) (xv X b 0 + 1).toNat + bk_next X b (con b k.toNat) (xv X b 1)))
    else q_up X (b + 2) (xv X b 0).toNat (zi (xv X (b + 2) (xv X b 0).toNat + if t = 0 then bk_dead X b (con b k.toNat) (xv X b 1) else bk_dNow X b (con b k.toNat) (xv X b 1)))) (con b k.toNat) 4 (zi 1)) (con b k.toNat) 5 (zi (xv X b 0))
set_option maxHeartbeats 4000000 in
set_option maxRecDepth 100000 in
theorem tB_likely {l : Launch} {g : q_G} {n : Nat} {P : q_P} {X : q_X} {Y : q_Y} {b : Nat} {k y : Int} (hp : isPro n P (b + 4)) (hs : 0 ≤ xv X (b + 4) 0 ∧ xv X (b + 4) 0 ≤ 24) (hk : q_in k) (hy : q_in y) : q_Met l g mX8_likelyOf 0 [.ref (g.1 + (b + 4)), .int (zi k), .int (zi y)] n P X Y (q_pv (.int (zi (q_sum (fun j => if ¬ xv X (b + 8) j = 0 ∧ xv X (b + 5) j = k ∧ xv X (b + 6) j = y then xv X (b + 7) j else 0) 0 (xv X (b + 4) 0).toNat))) n P X Y) := tX8_likelyOf hp hs hk hy
set_option maxHeartbeats 4000000 in
set_option maxRecDepth 100000 in
theorem tB_settled {l : Launch} {g : q_G} {n : Nat} {P : q_P} {X : q_X} {Y : q_Y} {b i : Nat} (hp : isPro n P (b + 4)) (hi : i < 24) : q_Met l g mX8_settled 0 [.ref (g.1 + (b + 4)), .int (zi (i : Int))] n P X Y (q_pv (.int (zi (if xv X (b + 8) i = xv X (b + 9) i then 0 else if xv X (b + 8) i = 0 then - xv X (b + 7) i else xv X (b + 7) i))) n P X Y) := tX8_settled hp hi
set_option maxHeartbeats 4000000 in
set_option maxRecDepth 100000 in
theorem tB_mhit {l : Launch} {g : q_G} {n : Nat} {P : q_P} {X : q_X} {Y : q_Y} {b i : Nat} (hm : isMar n P (b + 10)) (hi : i < 12) : q_Met l g mX7_hit 2 [.ref (g.1 + (b + 10)), .int (zi (i : Int))] n P X Y (q_pv (.int (zi (c_piece (xv X (b + 13) i) (xv X (b + 12) i) 0 + xv X (b + 14) i))) n P X Y) := tX7_hit hm hi
set_option maxHeartbeats 4000000 in
set_option maxRecDepth 100000 in
theorem tX11_isYear {l : Launch} {g : q_G} {n : Nat} {P : q_P} {X : q_X} {Y : q_Y} {y : Int} (hy : q_in y) : q_Met l g mX11_isYear 0 [.int (zi y)] n P X Y (q_pv (.int (zi (if 0 ≤ y ∧ y < 20 then 1 else 0))) n P X Y) := by
  skip
  refine q_enter (L := [(0, .int (zi y))]) (by decide) (Nat.le_of_ble_eq_true rfl) rfl ?_
  refine r_iload_n (i := 0) (pc' := 1) dX11_isYear_0 rfl rfl (.head _) ?_
  refine r_if_lt (t := 14) (f := 4) dX11_isYear_1 (by decide) rfl (by first | omega | exact xv_in _ _ _) (fun h1 => ?_) (fun h1 => ?_)
  · refine r_iconst (pc' := 15) dX11_isYear_14 rfl ?_
    refine r_zreturn dX11_isYear_15 rfl (by decide) ?_
    refine ⟨?_, rfl, rfl, rfl, rfl⟩
    (repeat' split) <;> first | rfl | (exfalso; omega) | (congr 3; omega)
  · refine r_iload_n (i := 0) (pc' := 5) dX11_isYear_4 rfl rfl (.head _) ?_
    refine r_bipush (pc' := 7) dX11_isYear_5 rfl (by decide) ?_
    refine r_icmp_ge (t := 14) (f := 10) dX11_isYear_7 (by decide) rfl (by first | omega | exact xv_in _ _ _) (by first | omega | exact xv_in _ _ _) (fun h7 => ?_) (fun h7 => ?_)
    · refine r_iconst (pc' := 15) dX11_isYear_14 rfl ?_
      refine r_zreturn dX11_isYear_15 rfl (by decide) ?_
      refine ⟨?_, rfl, rfl, rfl, rfl⟩
      (repeat' split) <;> first | rfl | (exfalso; omega) | (congr 3; omega)
    · refine r_iconst (pc' := 11) dX11_isYear_10 rfl ?_
      refine r_goto (t := 15) dX11_isYear_11 (by decide) ?_
      refine r_zreturn dX11_isYear_15 rfl (by decide) ?_
      refine ⟨?_, rfl, rfl, rfl, rfl⟩
      (repeat' split) <;> first | rfl | (exfalso; omega) | (congr 3; omega)
set_option maxHeartbeats 4000000 in
set_option maxRecDepth 100000 in
theorem tX11_isGoal {l : Launch} {g : q_G} {n : Nat} {P : q_P} {X : q_X} {Y : q_Y} {y : Int} (hy : q_in y) : q_Met l g mX11_isGoal 0 [.int (zi y)] n P X Y (q_pv (.int (zi (if -999999 ≤ y ∧ y ≤ 999999 then 1 else 0))) n P X Y) := by
  skip
  refine q_enter (L := [(0, .int (zi y))]) (by decide) (Nat.le_of_ble_eq_true rfl) rfl ?_
  refine r_iload_n (i := 0) (pc' := 1) dX11_isGoal_0 rfl rfl (.head _) ?_
  refine r_ldcw (pc' := 4) dX11_isGoal_1 rfl kX11_445 ?_
  refine r_icmp_lt (t := 18) (f := 7) dX11_isGoal_4 (by decide) rfl (by first | omega | exact xv_in _ _ _) (by first | omega | exact xv_in _ _ _) (fun h4 => ?_) (fun h4 => ?_)
  · refine r_iconst (pc' := 19) dX11_isGoal_18 rfl ?_
    refine r_zreturn dX11_isGoal_19 rfl (by decide) ?_
    refine ⟨?_, rfl, rfl, rfl, rfl⟩
    (repeat' split) <;> first | rfl | (exfalso; omega) | (congr 3; omega)
  · refine r_iload_n (i := 0) (pc' := 8) dX11_isGoal_7 rfl rfl (.head _) ?_
    refine r_ldcw (pc' := 11) dX11_isGoal_8 rfl kX11_446 ?_
    refine r_icmp_gt (t := 18) (f := 14) dX11_isGoal_11 (by decide) rfl (by first | omega | exact xv_in _ _ _) (by first | omega | exact xv_in _ _ _) (fun h11 => ?_) (fun h11 => ?_)
    · refine r_iconst (pc' := 19) dX11_isGoal_18 rfl ?_
      refine r_zreturn dX11_isGoal_19 rfl (by decide) ?_
      refine ⟨?_, rfl, rfl, rfl, rfl⟩
      (repeat' split) <;> first | rfl | (exfalso; omega) | (congr 3; omega)
    · refine r_iconst (pc' := 15) dX11_isGoal_14 rfl ?_
      refine r_goto (t := 19) dX11_isGoal_15 (by decide) ?_
      refine r_zreturn dX11_isGoal_19 rfl (by decide) ?_
      refine ⟨?_, rfl, rfl, rfl, rfl⟩
      (repeat' split) <;> first | rfl | (exfalso; omega) | (congr 3; omega)
set_option maxHeartbeats 4000000 in
set_option maxRecDepth 100000 in
theorem lX1_countAhead {l : Launch} {g : q_G} {n : Nat} {P : q_P} {X : q_X} {Y : q_Y} {b : Nat} {y : Int} (hb : isBk n P b) (hO : bOk X b) (hy : 0 ≤ y ∧ y < 20) {r : Int} : ∀ (w i : Nat) (s : Int), i + w = (xv X b 10).toNat → s + q_sum (fun i => if xv X (con b i) 4 = 0 then (if y < xv X (con b i) 0 + xv X (con b i) 1 then c_hit X (con b i) y + q_sum (fun j => if ¬ xv X (b + 8) j = 0 ∧ xv X (b + 5) j = (i : Int) ∧ xv X (b + 6) j = y then xv X (b + 7) j else 0) 0 (xv X (b + 4) 0).toNat else if y = xv X (con b i) 0 + xv X (con b i) 1 then c_from X (con b i) y else 0) else 0) i w = r → q_Tr l g mX1_countAhead 3 (q_pv (.int (zi r)) n P X Y) 20 [(0, .ref (g.1 + b)), (1, .int (zi y)), (2, .int (zi s)), (3, .int (zi (i : Int)))] [] n P X Y := by
  obtain ⟨b0, b1, b2, b3, q7, q8, q9, q11, q12, q13, hn, hpro, hmar, hfor, hcs⟩ := id hb
  obtain ⟨o0, o1, o2, o3, o4, o5, o6, o10, oc, op0, opz, opi, om0, omi, olim⟩ := id hO
  obtain ⟨c0, c1, c2, c3, c4, c5, v1, v2, v3, v4, v5, hnp⟩ := isBk.pro hpro
  intro w
  induction w with
  | zero =>
    intro i s hk hr
    refine r_iload_n (i := 3) (pc' := 21) dX1_countAhead_20 rfl rfl (.tail _ (.tail _ (.tail _ (.head _)))) ?_
    refine r_aload_n (i := 0) (pc' := 22) dX1_countAhead_21 rfl rfl (.head _) ?_
    refine r_getI (pc' := 25) dX1_countAhead_22 rfl fX1_75 rfl (by first | assumption | rfl) (by omega) ?_
    refine r_icmp_ge (t := 109) (f := 28) dX1_countAhead_25 (by decide) rfl (by first | omega | exact xv_in _ _ _) (by first | omega | exact xv_in _ _ _) (fun h25 => ?_) (fun h25 => ?_)
    · refine r_iload_n (i := 2) (pc' := 110) dX1_countAhead_109 rfl rfl (.tail _ (.tail _ (.head _))) ?_
      refine r_ireturn dX1_countAhead_110 rfl ?_
      refine ⟨?_, rfl, rfl, rfl, rfl⟩
      rw [← hr]; simp [q_sum]
    · exfalso; omega
  | succ w ih =>
    intro i s hk hr
    have hc := hb.c (k := i) (by omega)
    obtain ⟨s0, s1, s2, s3, s4, p6, p7, p8, p9, hnc⟩ := id hc
    have hck := hO.c (k := i) (by omega)
    obtain ⟨hf, hf2, hf3, hf4, hfj, hfs, hfg⟩ := id hck
    refine r_iload_n (i := 3) (pc' := 21) dX1_countAhead_20 rfl rfl (.tail _ (.tail _ (.tail _ (.head _)))) ?_
    refine r_aload_n (i := 0) (pc' := 22) dX1_countAhead_21 rfl rfl (.head _) ?_
    refine r_getI (pc' := 25) dX1_countAhead_22 rfl fX1_75 rfl (by first | assumption | rfl) (by omega) ?_
    refine r_icmp_ge (t := 109) (f := 28) dX1_countAhead_25 (by decide) rfl (by first | omega | exact xv_in _ _ _) (by first | omega | exact xv_in _ _ _) (fun h25 => ?_) (fun h25 => ?_)
    · exfalso; omega
    · refine r_aload_n (i := 0) (pc' := 29) dX1_countAhead_28 rfl rfl (.head _) ?_
      refine r_getR (pc' := 32) dX1_countAhead_29 rfl fX1_36 rfl (by first | assumption | rfl) (by omega) (by assumption) ?_
      refine r_iload_n (i := 3) (pc' := 33) dX1_countAhead_32 rfl rfl (.tail _ (.tail _ (.tail _ (.head _)))) ?_
      refine r_aaload (pc' := 34) (v := .ref (g.1 + con b i)) dX1_countAhead_33 rfl (by first | assumption | rfl) (by decide) (by omega) (by omega) (by omega) (by first | decide | omega) (Int.toNat_natCast _) (hb.r (k := i) (by omega)) ?_
      refine r_astore (pc' := 36) dX1_countAhead_34 rfl rfl (.s1 (.s1 (.s1 (.s1 .nil rfl rfl rfl) rfl rfl rfl) rfl rfl rfl) rfl rfl rfl) ?_
      refine r_aload (pc' := 38) dX1_countAhead_36 rfl (.tail _ (.tail _ (.tail _ (.tail _ (.head _))))) ?_
      refine r_V0p (ci := 4) (pc' := 41) dX1_countAhead_38 rfl lX1_102 rfl (by decide) (Nat.le_of_ble_eq_true rfl) (by first | assumption | rfl) (by omega) (tX4_isOpen (by assumption)) ?_
      refine r_bif_ne (t := 47) (f := 44) dX1_countAhead_41 (by decide) rfl (fun h41 => ?_) (fun h41 => ?_)
      · refine r_aload (pc' := 49) dX1_countAhead_47 rfl (.tail _ (.tail _ (.tail _ (.tail _ (.head _))))) ?_
        refine r_getI (pc' := 52) dX1_countAhead_49 rfl fX1_106 rfl (by first | assumption | rfl) (by omega) ?_
        refine r_aload (pc' := 54) dX1_countAhead_52 rfl (.tail _ (.tail _ (.tail _ (.tail _ (.head _))))) ?_
        refine r_getI (pc' := 57) dX1_countAhead_54 rfl fX1_113 rfl (by first | assumption | rfl) (by omega) ?_
        refine r_iadd (pc' := 58) dX1_countAhead_57 rfl ?_
        refine r_istore (pc' := 60) dX1_countAhead_58 rfl rfl (.s1 (.s1 (.s1 (.s1 (.s1 .nil rfl rfl rfl) rfl rfl rfl) rfl rfl rfl) rfl rfl rfl) rfl rfl rfl) ?_
        refine r_iload_n (i := 1) (pc' := 61) dX1_countAhead_60 rfl rfl (.tail _ (.head _)) ?_
        refine r_iload (pc' := 63) dX1_countAhead_61 rfl (.tail _ (.tail _ (.tail _ (.tail _ (.tail _ (.head _)))))) ?_
        refine r_icmp_ge (t := 88) (f := 66) dX1_countAhead_63 (by decide) rfl (by first | omega | exact xv_in _ _ _) (by first | omega | exact xv_in _ _ _) (fun h63 => ?_) (fun h63 => ?_)
        · refine r_iload_n (i := 1) (pc' := 89) dX1_countAhead_88 rfl rfl (.tail _ (.head _)) ?_
          refine r_iload (pc' := 91) dX1_countAhead_89 rfl (.tail _ (.tail _ (.tail _ (.tail _ (.tail _ (.head _)))))) ?_
          refine r_icmp_ne (t := 103) (f := 94) dX1_countAhead_91 (by decide) rfl (by first | omega | exact xv_in _ _ _) (by first | omega | exact xv_in _ _ _) (fun h91 => ?_) (fun h91 => ?_)
          · refine r_iinc (pc' := 106) dX1_countAhead_103 rfl rfl (.tail _ (.tail _ (.tail _ (.head _)))) (.s1 (.s1 (.s1 (.here (.s1 (.s1 .nil rfl rfl rfl) rfl rfl rfl)) rfl rfl rfl) rfl rfl rfl) rfl rfl rfl) ?_
            refine r_goto (t := 20) dX1_countAhead_106 (by decide) ?_
            refine r_sub (.kp (.kp (.kp (.kp (.dr (.dr .nil)))))) ?_
            refine ih (i + 1) _ (by omega) ?_
            rw [← hr, q_sum]
            try dsimp only
            first | (rw [if_pos (by omega), if_pos (by omega)]; omega) | (rw [if_pos (by omega), if_neg (by omega), if_pos (by omega)]; omega) | (rw [if_pos (by omega), if_neg (by omega), if_neg (by omega)]; omega) | (rw [if_neg (by omega)]; omega)
          · refine r_iload_n (i := 2) (pc' := 95) dX1_countAhead_94 rfl rfl (.tail _ (.tail _ (.head _))) ?_
            refine r_aload (pc' := 97) dX1_countAhead_95 rfl (.tail _ (.tail _ (.tail _ (.tail _ (.head _))))) ?_
            refine r_iload_n (i := 1) (pc' := 98) dX1_countAhead_97 rfl rfl (.tail _ (.head _)) ?_
            refine r_V1p (ci := 4) (pc' := 101) dX1_countAhead_98 rfl lX1_161 rfl (by decide) (Nat.le_of_ble_eq_true rfl) (by first | assumption | rfl) (by omega) (tX4_partsFrom (by assumption) (by assumption) (by omega)) ?_
            refine r_iadd (pc' := 102) dX1_countAhead_101 rfl ?_
            refine r_istore_n (i := 2) (pc' := 103) dX1_countAhead_102 rfl rfl rfl (.s1 (.s1 (.here (.s1 (.s1 (.s1 .nil rfl rfl rfl) rfl rfl rfl) rfl rfl rfl)) rfl rfl rfl) rfl rfl rfl) ?_
            refine r_iinc (pc' := 106) dX1_countAhead_103 rfl rfl (.tail _ (.tail _ (.tail _ (.head _)))) (.s1 (.s1 (.s1 (.here (.s1 (.s1 .nil rfl rfl rfl) rfl rfl rfl)) rfl rfl rfl) rfl rfl rfl) rfl rfl rfl) ?_
            refine r_goto (t := 20) dX1_countAhead_106 (by decide) ?_
            refine r_sub (.kp (.kp (.kp (.kp (.dr (.dr .nil)))))) ?_
            refine ih (i + 1) _ (by omega) ?_
            rw [← hr, q_sum]
            try dsimp only
            first | (rw [if_pos (by omega), if_pos (by omega)]; omega) | (rw [if_pos (by omega), if_neg (by omega), if_pos (by omega)]; omega) | (rw [if_pos (by omega), if_neg (by omega), if_neg (by omega)]; omega) | (rw [if_neg (by omega)]; omega)
        · refine r_iload_n (i := 2) (pc' := 67) dX1_countAhead_66 rfl rfl (.tail _ (.tail _ (.head _))) ?_
          refine r_aload (pc' := 69) dX1_countAhead_67 rfl (.tail _ (.tail _ (.tail _ (.tail _ (.head _))))) ?_
          refine r_iload_n (i := 1) (pc' := 70) dX1_countAhead_69 rfl rfl (.tail _ (.head _)) ?_
          refine r_V1p (ci := 4) (pc' := 73) dX1_countAhead_70 rfl lX1_196 rfl (by decide) (Nat.le_of_ble_eq_true rfl) (by first | assumption | rfl) (by omega) (tX4_hit (by assumption) (by assumption) (by omega)) ?_
          refine r_aload_n (i := 0) (pc' := 74) dX1_countAhead_73 rfl rfl (.head _) ?_
          refine r_getR (pc' := 77) dX1_countAhead_74 rfl fX1_43 rfl (by first | assumption | rfl) (by omega) (by assumption) ?_
          refine r_iload_n (i := 3) (pc' := 78) dX1_countAhead_77 rfl rfl (.tail _ (.tail _ (.tail _ (.head _)))) ?_
          refine r_iload_n (i := 1) (pc' := 79) dX1_countAhead_78 rfl rfl (.tail _ (.head _)) ?_
          refine r_V2p (ci := 8) (pc' := 82) dX1_countAhead_79 rfl lX1_199 rfl (by decide) (Nat.le_of_ble_eq_true rfl) (by first | assumption | rfl) (by omega) (tB_likely hpro (by omega) (by omega) (by omega)) ?_
          refine r_iadd (pc' := 83) dX1_countAhead_82 rfl ?_
          refine r_iadd (pc' := 84) dX1_countAhead_83 rfl ?_
          refine r_istore_n (i := 2) (pc' := 85) dX1_countAhead_84 rfl rfl rfl (.s1 (.s1 (.here (.s1 (.s1 (.s1 .nil rfl rfl rfl) rfl rfl rfl) rfl rfl rfl)) rfl rfl rfl) rfl rfl rfl) ?_
          refine r_goto (t := 103) dX1_countAhead_85 (by decide) ?_
          refine r_iinc (pc' := 106) dX1_countAhead_103 rfl rfl (.tail _ (.tail _ (.tail _ (.head _)))) (.s1 (.s1 (.s1 (.here (.s1 (.s1 .nil rfl rfl rfl) rfl rfl rfl)) rfl rfl rfl) rfl rfl rfl) rfl rfl rfl) ?_
          refine r_goto (t := 20) dX1_countAhead_106 (by decide) ?_
          refine r_sub (.kp (.kp (.kp (.kp (.dr (.dr .nil)))))) ?_
          refine ih (i + 1) _ (by omega) ?_
          rw [← hr, q_sum]
          try dsimp only
          first | (rw [if_pos (by omega), if_pos (by omega)]; omega) | (rw [if_pos (by omega), if_neg (by omega), if_pos (by omega)]; omega) | (rw [if_pos (by omega), if_neg (by omega), if_neg (by omega)]; omega) | (rw [if_neg (by omega)]; omega)
      · refine r_goto (t := 103) dX1_countAhead_44 (by decide) ?_
        refine r_iinc (pc' := 106) dX1_countAhead_103 rfl rfl (.tail _ (.tail _ (.tail _ (.head _)))) (.s1 (.s1 (.s1 (.here (.s1 .nil rfl rfl rfl)) rfl rfl rfl) rfl rfl rfl) rfl rfl rfl) ?_
        refine r_goto (t := 20) dX1_countAhead_106 (by decide) ?_
        refine r_sub (.kp (.kp (.kp (.kp (.dr .nil))))) ?_
        refine ih (i + 1) _ (by omega) ?_
        rw [← hr, q_sum]
        try dsimp only
        first | (rw [if_pos (by omega), if_pos (by omega)]; omega) | (rw [if_pos (by omega), if_neg (by omega), if_pos (by omega)]; omega) | (rw [if_pos (by omega), if_neg (by omega), if_neg (by omega)]; omega) | (rw [if_neg (by omega)]; omega)
set_option maxHeartbeats 4000000 in
set_option maxRecDepth 100000 in
theorem tX1_countAhead {l : Launch} {g : q_G} {n : Nat} {P : q_P} {X : q_X} {Y : q_Y} {b : Nat} {y : Int} (hb : isBk n P b) (hO : bOk X b) (hy : 0 ≤ y ∧ y < 20) : q_Met l g mX1_countAhead 3 [.ref (g.1 + b), .int (zi y)] n P X Y (q_pv (.int (zi (xv X (b + 2) y.toNat + q_sum (fun i => if xv X (con b i) 4 = 0 then (if y < xv X (con b i) 0 + xv X (con b i) 1 then c_hit X (con b i) y + q_sum (fun j => if ¬ xv X (b + 8) j = 0 ∧ xv X (b + 5) j = (i : Int) ∧ xv X (b + 6) j = y then xv X (b + 7) j else 0) 0 (xv X (b + 4) 0).toNat else if y = xv X (con b i) 0 + xv X (con b i) 1 then c_from X (con b i) y else 0) else 0) 0 (xv X b 10).toNat))) n P X Y) := by
  obtain ⟨b0, b1, b2, b3, q7, q8, q9, q11, q12, q13, hn, hpro, hmar, hfor, hcs⟩ := id hb
  obtain ⟨o0, o1, o2, o3, o4, o5, o6, o10, oc, op0, opz, opi, om0, omi, olim⟩ := id hO
  obtain ⟨c0, c1, c2, c3, c4, c5, v1, v2, v3, v4, v5, hnp⟩ := isBk.pro hpro
  refine q_enter (L := [(0, .ref (g.1 + b)), (1, .int (zi y))]) (by decide) (Nat.le_of_ble_eq_true rfl) rfl ?_
  refine r_iload_n (i := 1) (pc' := 1) dX1_countAhead_0 rfl rfl (.tail _ (.head _)) ?_
  refine r_SN1p (pc' := 4) dX1_countAhead_1 rfl lX1_193 (by decide) (Nat.le_of_ble_eq_true rfl) (tX11_isYear (by first | omega | exact xv_in _ _ _)) ?_
  refine r_bif_eq (t := 16) (f := 7) dX1_countAhead_4 (by decide) rfl (fun h4 => ?_) (fun h4 => ?_)
  · exfalso; omega
  · refine r_aload_n (i := 0) (pc' := 8) dX1_countAhead_7 rfl rfl (.head _) ?_
    refine r_getR (pc' := 11) dX1_countAhead_8 rfl fX1_31 rfl (by first | assumption | rfl) (by omega) (by assumption) ?_
    refine r_iload_n (i := 1) (pc' := 12) dX1_countAhead_11 rfl rfl (.tail _ (.head _)) ?_
    refine r_iaload (pc' := 13) dX1_countAhead_12 rfl (by first | assumption | rfl) (by omega) (by omega) (by omega) (by first | decide | omega) rfl ?_
    refine r_goto (t := 17) dX1_countAhead_13 (by decide) ?_
    refine r_istore_n (i := 2) (pc' := 18) dX1_countAhead_17 rfl rfl rfl (.s1 (.s1 .nil rfl rfl rfl) rfl rfl rfl) ?_
    refine r_iconst (pc' := 19) dX1_countAhead_18 rfl ?_
    refine r_istore_n (i := 3) (pc' := 20) dX1_countAhead_19 rfl rfl rfl (.s1 (.s1 (.s1 .nil rfl rfl rfl) rfl rfl rfl) rfl rfl rfl) ?_
    exact lX1_countAhead hb hO hy ((xv X b 10).toNat) 0 _ (by omega) rfl
set_option maxHeartbeats 4000000 in
set_option maxRecDepth 100000 in
theorem lX1_promisesSettled {l : Launch} {g : q_G} {n : Nat} {P : q_P} {X : q_X} {Y : q_Y} {b : Nat} (hb : isBk n P b) (hO : bOk X b) {r : Int} : ∀ (w i : Nat) (s : Int), i + w = (xv X (b + 4) 0).toNat → s + q_sum (fun i => if xv X (con b (xv X (b + 5) i).toNat) 4 = 0 ∧ xv X (b + 6) i = xv X b 0 then (if xv X (b + 8) i = xv X (b + 9) i then 0 else if xv X (b + 8) i = 0 then - xv X (b + 7) i else xv X (b + 7) i) else 0) i w = r → q_Tr l g mX1_promisesSettled 1 (q_pv (.int (zi r)) n P X Y) 4 [(0, .ref (g.1 + b)), (1, .int (zi s)), (2, .int (zi (i : Int)))] [] n P X Y := by
  obtain ⟨b0, b1, b2, b3, q7, q8, q9, q11, q12, q13, hn, hpro, hmar, hfor, hcs⟩ := id hb
  obtain ⟨o0, o1, o2, o3, o4, o5, o6, o10, oc, op0, opz, opi, om0, omi, olim⟩ := id hO
  obtain ⟨c0, c1, c2, c3, c4, c5, v1, v2, v3, v4, v5, hnp⟩ := isBk.pro hpro
  intro w
  induction w with
  | zero =>
    intro i s hk hr
    refine r_iload_n (i := 2) (pc' := 5) dX1_promisesSettled_4 rfl rfl (.tail _ (.tail _ (.head _))) ?_
    refine r_aload_n (i := 0) (pc' := 6) dX1_promisesSettled_5 rfl rfl (.head _) ?_
    refine r_getR (pc' := 9) dX1_promisesSettled_6 rfl fX1_43 rfl (by first | assumption | rfl) (by omega) (by assumption) ?_
    refine r_getI (pc' := 12) dX1_promisesSettled_9 rfl fX1_212 rfl (by first | assumption | rfl) (by omega) ?_
    refine r_icmp_ge (t := 73) (f := 15) dX1_promisesSettled_12 (by decide) rfl (by first | omega | exact xv_in _ _ _) (by first | omega | exact xv_in _ _ _) (fun h12 => ?_) (fun h12 => ?_)
    · refine r_iload_n (i := 1) (pc' := 74) dX1_promisesSettled_73 rfl rfl (.tail _ (.head _)) ?_
      refine r_ireturn dX1_promisesSettled_74 rfl ?_
      refine ⟨?_, rfl, rfl, rfl, rfl⟩
      rw [← hr]; simp [q_sum]
    · exfalso; omega
  | succ w ih =>
    intro i s hk hr
    have hpi := opi i (by omega)
    have hfd : bk_has X b (xv X (b + 5) i) := by omega
    have hc := hb.c (k := (xv X (b + 5) i).toNat) (by omega)
    obtain ⟨s0, s1, s2, s3, s4, p6, p7, p8, p9, hnc⟩ := id hc
    have hck := hO.c (k := (xv X (b + 5) i).toNat) (by omega)
    obtain ⟨hf, hf2, hf3, hf4, hfj, hfs, hfg⟩ := id hck
    refine r_iload_n (i := 2) (pc' := 5) dX1_promisesSettled_4 rfl rfl (.tail _ (.tail _ (.head _))) ?_
    refine r_aload_n (i := 0) (pc' := 6) dX1_promisesSettled_5 rfl rfl (.head _) ?_
    refine r_getR (pc' := 9) dX1_promisesSettled_6 rfl fX1_43 rfl (by first | assumption | rfl) (by omega) (by assumption) ?_
    refine r_getI (pc' := 12) dX1_promisesSettled_9 rfl fX1_212 rfl (by first | assumption | rfl) (by omega) ?_
    refine r_icmp_ge (t := 73) (f := 15) dX1_promisesSettled_12 (by decide) rfl (by first | omega | exact xv_in _ _ _) (by first | omega | exact xv_in _ _ _) (fun h12 => ?_) (fun h12 => ?_)
    · exfalso; omega
    · refine r_aload_n (i := 0) (pc' := 16) dX1_promisesSettled_15 rfl rfl (.head _) ?_
      refine r_aload_n (i := 0) (pc' := 17) dX1_promisesSettled_16 rfl rfl (.head _) ?_
      refine r_getR (pc' := 20) dX1_promisesSettled_17 rfl fX1_43 rfl (by first | assumption | rfl) (by omega) (by assumption) ?_
      refine r_getR (pc' := 23) dX1_promisesSettled_20 rfl fX1_213 rfl (by first | assumption | rfl) (by omega) (by assumption) ?_
      refine r_iload_n (i := 2) (pc' := 24) dX1_promisesSettled_23 rfl rfl (.tail _ (.tail _ (.head _))) ?_
      refine r_iaload (pc' := 25) dX1_promisesSettled_24 rfl (by first | assumption | rfl) (by omega) (by omega) (by omega) (by first | decide | omega) (Int.toNat_natCast _) ?_
      refine r_V1p (ci := 1) (pc' := 28) dX1_promisesSettled_25 rfl lX1_98 rfl (by decide) (Nat.le_of_ble_eq_true rfl) (by first | assumption | rfl) (by omega) (tX1_find hb hO hfd) ?_
      refine r_astore_n (i := 3) (pc' := 29) dX1_promisesSettled_28 rfl rfl rfl (.s1 (.s1 (.s1 .nil rfl rfl rfl) rfl rfl rfl) rfl rfl rfl) ?_
      refine r_aload_n (i := 3) (pc' := 30) dX1_promisesSettled_29 rfl rfl (.tail _ (.tail _ (.tail _ (.head _)))) ?_
      refine r_ifnull (pc' := 33) dX1_promisesSettled_30 rfl ?_
      refine r_aload_n (i := 3) (pc' := 34) dX1_promisesSettled_33 rfl rfl (.tail _ (.tail _ (.tail _ (.head _)))) ?_
      refine r_V0p (ci := 4) (pc' := 37) dX1_promisesSettled_34 rfl lX1_102 rfl (by decide) (Nat.le_of_ble_eq_true rfl) (by first | assumption | rfl) (by omega) (tX4_isOpen (by assumption)) ?_
      refine r_bif_eq (t := 67) (f := 40) dX1_promisesSettled_37 (by decide) rfl (fun h37 => ?_) (fun h37 => ?_)
      · refine r_iinc (pc' := 70) dX1_promisesSettled_67 rfl rfl (.tail _ (.tail _ (.head _))) (.s1 (.s1 (.here (.s1 .nil rfl rfl rfl)) rfl rfl rfl) rfl rfl rfl) ?_
        refine r_goto (t := 4) dX1_promisesSettled_70 (by decide) ?_
        refine r_sub (.kp (.kp (.kp (.dr .nil)))) ?_
        refine ih (i + 1) _ (by omega) ?_
        rw [← hr, q_sum]
        try dsimp only
        first | (rw [if_pos (c := xv X (con b (xv X (b + 5) i).toNat) 4 = 0 ∧ xv X (b + 6) i = xv X b 0) (by omega)]; exact Int.add_assoc _ _ _) | (rw [if_neg (c := xv X (con b (xv X (b + 5) i).toNat) 4 = 0 ∧ xv X (b + 6) i = xv X b 0) (by omega), Int.zero_add])
      · refine r_aload_n (i := 0) (pc' := 41) dX1_promisesSettled_40 rfl rfl (.head _) ?_
        refine r_getR (pc' := 44) dX1_promisesSettled_41 rfl fX1_43 rfl (by first | assumption | rfl) (by omega) (by assumption) ?_
        refine r_getR (pc' := 47) dX1_promisesSettled_44 rfl fX1_216 rfl (by first | assumption | rfl) (by omega) (by assumption) ?_
        refine r_iload_n (i := 2) (pc' := 48) dX1_promisesSettled_47 rfl rfl (.tail _ (.tail _ (.head _))) ?_
        refine r_iaload (pc' := 49) dX1_promisesSettled_48 rfl (by first | assumption | rfl) (by omega) (by omega) (by omega) (by first | decide | omega) (Int.toNat_natCast _) ?_
        refine r_aload_n (i := 0) (pc' := 50) dX1_promisesSettled_49 rfl rfl (.head _) ?_
        refine r_getI (pc' := 53) dX1_promisesSettled_50 rfl fX1_63 rfl (by first | assumption | rfl) (by omega) ?_
        refine r_icmp_ne (t := 67) (f := 56) dX1_promisesSettled_53 (by decide) rfl (by first | omega | exact xv_in _ _ _) (by first | omega | exact xv_in _ _ _) (fun h53 => ?_) (fun h53 => ?_)
        · refine r_iinc (pc' := 70) dX1_promisesSettled_67 rfl rfl (.tail _ (.tail _ (.head _))) (.s1 (.s1 (.here (.s1 .nil rfl rfl rfl)) rfl rfl rfl) rfl rfl rfl) ?_
          refine r_goto (t := 4) dX1_promisesSettled_70 (by decide) ?_
          refine r_sub (.kp (.kp (.kp (.dr .nil)))) ?_
          refine ih (i + 1) _ (by omega) ?_
          rw [← hr, q_sum]
          try dsimp only
          first | (rw [if_pos (c := xv X (con b (xv X (b + 5) i).toNat) 4 = 0 ∧ xv X (b + 6) i = xv X b 0) (by omega)]; exact Int.add_assoc _ _ _) | (rw [if_neg (c := xv X (con b (xv X (b + 5) i).toNat) 4 = 0 ∧ xv X (b + 6) i = xv X b 0) (by omega), Int.zero_add])
        · refine r_iload_n (i := 1) (pc' := 57) dX1_promisesSettled_56 rfl rfl (.tail _ (.head _)) ?_
          refine r_aload_n (i := 0) (pc' := 58) dX1_promisesSettled_57 rfl rfl (.head _) ?_
          refine r_getR (pc' := 61) dX1_promisesSettled_58 rfl fX1_43 rfl (by first | assumption | rfl) (by omega) (by assumption) ?_
          refine r_iload_n (i := 2) (pc' := 62) dX1_promisesSettled_61 rfl rfl (.tail _ (.tail _ (.head _))) ?_
          refine r_V1p (ci := 8) (pc' := 65) dX1_promisesSettled_62 rfl lX1_218 rfl (by decide) (Nat.le_of_ble_eq_true rfl) (by first | assumption | rfl) (by omega) (tB_settled hpro (by omega)) ?_
          refine r_iadd (pc' := 66) dX1_promisesSettled_65 rfl ?_
          refine r_istore_n (i := 1) (pc' := 67) dX1_promisesSettled_66 rfl rfl rfl (.s1 (.here (.s1 (.s1 .nil rfl rfl rfl) rfl rfl rfl)) rfl rfl rfl) ?_
          refine r_iinc (pc' := 70) dX1_promisesSettled_67 rfl rfl (.tail _ (.tail _ (.head _))) (.s1 (.s1 (.here (.s1 .nil rfl rfl rfl)) rfl rfl rfl) rfl rfl rfl) ?_
          refine r_goto (t := 4) dX1_promisesSettled_70 (by decide) ?_
          refine r_sub (.kp (.kp (.kp (.dr .nil)))) ?_
          refine ih (i + 1) _ (by omega) ?_
          rw [← hr, q_sum]
          try dsimp only
          first | (rw [if_pos (c := xv X (con b (xv X (b + 5) i).toNat) 4 = 0 ∧ xv X (b + 6) i = xv X b 0) (by omega)]; exact Int.add_assoc _ _ _) | (rw [if_neg (c := xv X (con b (xv X (b + 5) i).toNat) 4 = 0 ∧ xv X (b + 6) i = xv X b 0) (by omega), Int.zero_add])
set_option maxHeartbeats 4000000 in
set_option maxRecDepth 100000 in
theorem tX1_promisesSettled {l : Launch} {g : q_G} {n : Nat} {P : q_P} {X : q_X} {Y : q_Y} {b : Nat} (hb : isBk n P b) (hO : bOk X b) : q_Met l g mX1_promisesSettled 1 [.ref (g.1 + b)] n P X Y (q_pv (.int (zi (q_sum (fun i => if xv X (con b (xv X (b + 5) i).toNat) 4 = 0 ∧ xv X (b + 6) i = xv X b 0 then (if xv X (b + 8) i = xv X (b + 9) i then 0 else if xv X (b + 8) i = 0 then - xv X (b + 7) i else xv X (b + 7) i) else 0) 0 ((xv X (b + 4) 0).toNat)))) n P X Y) := by
  obtain ⟨b0, b1, b2, b3, q7, q8, q9, q11, q12, q13, hn, hpro, hmar, hfor, hcs⟩ := id hb
  obtain ⟨o0, o1, o2, o3, o4, o5, o6, o10, oc, op0, opz, opi, om0, omi, olim⟩ := id hO
  obtain ⟨c0, c1, c2, c3, c4, c5, v1, v2, v3, v4, v5, hnp⟩ := isBk.pro hpro
  refine q_enter (L := [(0, .ref (g.1 + b))]) (by decide) (Nat.le_of_ble_eq_true rfl) rfl ?_
  refine r_iconst (pc' := 1) dX1_promisesSettled_0 rfl ?_
  refine r_istore_n (i := 1) (pc' := 2) dX1_promisesSettled_1 rfl rfl rfl (.s1 .nil rfl rfl rfl) ?_
  refine r_iconst (pc' := 3) dX1_promisesSettled_2 rfl ?_
  refine r_istore_n (i := 2) (pc' := 4) dX1_promisesSettled_3 rfl rfl rfl (.s1 (.s1 .nil rfl rfl rfl) rfl rfl rfl) ?_
  exact lX1_promisesSettled hb hO ((xv X (b + 4) 0).toNat) 0 _ (by omega) (Int.zero_add _)
set_option maxHeartbeats 4000000 in
set_option maxRecDepth 100000 in
theorem tX1_release {l : Launch} {g : q_G} {n : Nat} {P : q_P} {X : q_X} {Y : q_Y} {b : Nat} {k t : Int} (hb : isBk n P b) (hO : bOk X b) (hi : q_in k) (ht : q_in t) : q_Met l g mX1_release 4 [.ref (g.1 + b), .int (zi k), .int (zi t)] n P X Y (q_gv (fun n' P' X' Y' => n' = n ∧ P' = P ∧ Y' = Y ∧ X' = bk_rel X b k t)) := by
  obtain ⟨b0, b1, b2, b3, q7, q8, q9, q11, q12, q13, hn, hpro, hmar, hfor, hcs⟩ := id hb
  obtain ⟨o0, o1, o2, o3, o4, o5, o6, o10, oc, op0, opz, opi, om0, omi, olim⟩ := id hO
  refine q_enter (L := [(0, .ref (g.1 + b)), (1, .int (zi k)), (2, .int (zi t))]) (by decide) (Nat.le_of_ble_eq_true rfl) rfl ?_
  refine r_aload_n (i := 0) (pc' := 1) dX1_release_0 rfl rfl (.head _) ?_
  refine r_iload_n (i := 1) (pc' := 2) dX1_release_1 rfl rfl (.tail _ (.head _)) ?_
  by_cases hk : bk_ref X b k = 0
  · have hh := bk_ref_has hk
    have hc := hb.c (k := k.toNat) (by omega)
    obtain ⟨s0, s1, s2, s3, s4, p6, p7, p8, p9, hnc⟩ := id hc
    have hck := hO.c (k := k.toNat) (by omega)
    obtain ⟨hf, hf2, hf3, hf4, hfj, hfs, hfg⟩ := id hck
    have hne : con b k.toNat = b + 20 + 5 * k.toNat := rfl
    refine r_V1p (ci := 1) (pc' := 5) dX1_release_2 rfl lX1_175 rfl (by decide) (Nat.le_of_ble_eq_true rfl) (by first | assumption | rfl) (by omega) (tX1_findBegun (by assumption) (by assumption) (by first | assumption | omega) (by assumption)) ?_
    refine r_astore_n (i := 3) (pc' := 6) dX1_release_5 rfl rfl rfl (.s1 (.s1 (.s1 .nil rfl rfl rfl) rfl rfl rfl) rfl rfl rfl) ?_
    refine r_aload_n (i := 3) (pc' := 7) dX1_release_6 rfl rfl (.tail _ (.tail _ (.tail _ (.head _)))) ?_
    refine r_ifnonnull (t := 11) dX1_release_7 (by decide) ?_
    refine r_aload_n (i := 0) (pc' := 12) dX1_release_11 rfl rfl (.head _) ?_
    refine r_getR (pc' := 15) dX1_release_12 rfl fX1_31 rfl (by first | assumption | rfl) (by omega) (by assumption) ?_
    refine r_aload_n (i := 0) (pc' := 16) dX1_release_15 rfl rfl (.head _) ?_
    refine r_getI (pc' := 19) dX1_release_16 rfl fX1_63 rfl (by first | assumption | rfl) (by omega) ?_
    refine r_dup2 (pc' := 20) dX1_release_19 rfl rfl rfl ?_
    refine r_iaload (pc' := 21) dX1_release_20 rfl (by first | assumption | rfl) (by omega) (by omega) (by omega) (by first | decide | omega) rfl ?_
    refine r_iload_n (i := 2) (pc' := 22) dX1_release_21 rfl rfl (.tail _ (.tail _ (.head _))) ?_
    refine r_if_eq (t := 37) (f := 25) dX1_release_22 (by decide) rfl (by first | omega | exact xv_in _ _ _) (fun h22 => ?_) (fun h22 => ?_)
    · refine r_aload_n (i := 0) (pc' := 38) dX1_release_37 rfl rfl (.head _) ?_
      refine r_aload_n (i := 3) (pc' := 39) dX1_release_38 rfl rfl (.tail _ (.tail _ (.tail _ (.head _)))) ?_
      refine r_aload_n (i := 0) (pc' := 40) dX1_release_39 rfl rfl (.head _) ?_
      refine r_getI (pc' := 43) dX1_release_40 rfl fX1_66 rfl (by first | assumption | rfl) (by omega) ?_
      refine r_V2p (ci := 1) (pc' := 46) dX1_release_43 rfl lX1_178 rfl (by decide) (Nat.le_of_ble_eq_true rfl) (by first | assumption | rfl) (by omega) (tX1_deadNow (by assumption) (by assumption) (by assumption) (by assumption) (by omega)) ?_
      refine r_iadd (pc' := 47) dX1_release_46 rfl ?_
      refine r_iastore (pc' := 48) dX1_release_47 rfl (by first | assumption | rfl) (by omega) (by omega) (by omega) (by first | decide | omega) rfl ?_
      generalize hv1 : xv X (b + 2) (xv X b 0).toNat + _ = v1
      have hag := bAg_up X b (xv X b 0).toNat (zi v1)
      have hO1 := bOk_ag hag hO
      have hag2 := hag.c (k := k.toNat) (by omega)
      have hck1 := cOk_ag hag2 hck
      refine r_aload_n (i := 0) (pc' := 49) dX1_release_48 rfl rfl (.head _) ?_
      refine r_getI (pc' := 52) dX1_release_49 rfl fX1_63 rfl (by first | assumption | rfl) (by omega) ?_
      rw [hag.z]
      refine r_bipush (pc' := 54) dX1_release_52 rfl (by decide) ?_
      refine r_icmp_ge (t := 80) (f := 57) dX1_release_54 (by decide) rfl (by first | omega | exact xv_in _ _ _) (by first | omega | exact xv_in _ _ _) (fun h54 => ?_) (fun h54 => ?_)
      · refine r_aload_n (i := 3) (pc' := 81) dX1_release_80 rfl rfl (.tail _ (.tail _ (.tail _ (.head _)))) ?_
        refine r_iconst (pc' := 82) dX1_release_81 rfl ?_
        refine r_putI (pc' := 85) dX1_release_82 rfl fX1_95 rfl (by first | assumption | rfl) (by omega) rfl rfl ?_
        refine r_aload_n (i := 3) (pc' := 86) dX1_release_85 rfl rfl (.tail _ (.tail _ (.tail _ (.head _)))) ?_
        refine r_aload_n (i := 0) (pc' := 87) dX1_release_86 rfl rfl (.head _) ?_
        refine r_getI (pc' := 90) dX1_release_87 rfl fX1_63 rfl (by first | assumption | rfl) (by omega) ?_
        simp (disch := omega) only [xv_up_ne]
        refine r_putI (pc' := 93) dX1_release_90 rfl fX1_184 rfl (by first | assumption | rfl) (by omega) rfl rfl ?_
        refine r_return dX1_release_93 rfl ?_
        refine ⟨rfl, rfl, rfl, rfl, ?_⟩
        rw [bk_rel]
        first | (rw [if_pos hk]; done) | (rw [if_neg (fun q => q hk), ← hv1]; (repeat' split) <;> first | rfl | (exfalso; omega))
      · refine r_aload_n (i := 0) (pc' := 58) dX1_release_57 rfl rfl (.head _) ?_
        refine r_getR (pc' := 61) dX1_release_58 rfl fX1_31 rfl (by first | assumption | rfl) (by omega) (by assumption) ?_
        refine r_aload_n (i := 0) (pc' := 62) dX1_release_61 rfl rfl (.head _) ?_
        refine r_getI (pc' := 65) dX1_release_62 rfl fX1_63 rfl (by first | assumption | rfl) (by omega) ?_
        rw [hag.z]
        refine r_iconst (pc' := 66) dX1_release_65 rfl ?_
        refine r_iadd (pc' := 67) dX1_release_66 rfl ?_
        refine r_dup2 (pc' := 68) dX1_release_67 rfl rfl rfl ?_
        refine r_iaload (pc' := 69) dX1_release_68 rfl (by first | assumption | rfl) (by omega) (by omega) (by omega) (by first | decide | omega) rfl ?_
        rw [xv_up_ne _ _ (by omega)]
        refine r_aload_n (i := 0) (pc' := 70) dX1_release_69 rfl rfl (.head _) ?_
        refine r_aload_n (i := 3) (pc' := 71) dX1_release_70 rfl rfl (.tail _ (.tail _ (.tail _ (.head _)))) ?_
        refine r_aload_n (i := 0) (pc' := 72) dX1_release_71 rfl rfl (.head _) ?_
        refine r_getI (pc' := 75) dX1_release_72 rfl fX1_66 rfl (by first | assumption | rfl) (by omega) ?_
        rw [hag.z]
        refine r_V2p (ci := 1) (pc' := 78) dX1_release_75 rfl lX1_181 rfl (by decide) (Nat.le_of_ble_eq_true rfl) (by first | assumption | rfl) (by omega) (tX1_deadNext hb hO1 hc hck1 (by omega)) ?_
        rw [bk_next_ag hag hag2]
        refine r_iadd (pc' := 79) dX1_release_78 rfl ?_
        refine r_iastore (pc' := 80) dX1_release_79 rfl (by first | assumption | rfl) (by omega) (by omega) (by omega) (by first | decide | omega) rfl ?_
        refine r_aload_n (i := 3) (pc' := 81) dX1_release_80 rfl rfl (.tail _ (.tail _ (.tail _ (.head _)))) ?_
        refine r_iconst (pc' := 82) dX1_release_81 rfl ?_
        refine r_putI (pc' := 85) dX1_release_82 rfl fX1_95 rfl (by first | assumption | rfl) (by omega) rfl rfl ?_
        refine r_aload_n (i := 3) (pc' := 86) dX1_release_85 rfl rfl (.tail _ (.tail _ (.tail _ (.head _)))) ?_
        refine r_aload_n (i := 0) (pc' := 87) dX1_release_86 rfl rfl (.head _) ?_
        refine r_getI (pc' := 90) dX1_release_87 rfl fX1_63 rfl (by first | assumption | rfl) (by omega) ?_
        simp (disch := omega) only [xv_up_ne]
        refine r_putI (pc' := 93) dX1_release_90 rfl fX1_184 rfl (by first | assumption | rfl) (by omega) rfl rfl ?_
        refine r_return dX1_release_93 rfl ?_
        refine ⟨rfl, rfl, rfl, rfl, ?_⟩
        rw [bk_rel]
        first | (rw [if_pos hk]; done) | (rw [if_neg (fun q => q hk), ← hv1]; (repeat' split) <;> first | rfl | (exfalso; omega))
    · refine r_aload_n (i := 0) (pc' := 26) dX1_release_25 rfl rfl (.head _) ?_
      refine r_aload_n (i := 3) (pc' := 27) dX1_release_26 rfl rfl (.tail _ (.tail _ (.tail _ (.head _)))) ?_
      refine r_aload_n (i := 0) (pc' := 28) dX1_release_27 rfl rfl (.head _) ?_
      refine r_getI (pc' := 31) dX1_release_28 rfl fX1_66 rfl (by first | assumption | rfl) (by omega) ?_
      refine r_V2p (ci := 1) (pc' := 34) dX1_release_31 rfl lX1_171 rfl (by decide) (Nat.le_of_ble_eq_true rfl) (by first | assumption | rfl) (by omega) (tX1_deadPartsNow (by assumption) (by assumption) (by assumption) (by assumption) (by omega)) ?_
      refine r_goto (t := 46) dX1_release_34 (by decide) ?_
      refine r_iadd (pc' := 47) dX1_release_46 rfl ?_
      refine r_iastore (pc' := 48) dX1_release_47 rfl (by first | assumption | rfl) (by omega) (by omega) (by omega) (by first | decide | omega) rfl ?_
      generalize hv1 : xv X (b + 2) (xv X b 0).toNat + _ = v1
      have hag := bAg_up X b (xv X b 0).toNat (zi v1)
      have hO1 := bOk_ag hag hO
      have hag2 := hag.c (k := k.toNat) (by omega)
      have hck1 := cOk_ag hag2 hck
      refine r_aload_n (i := 0) (pc' := 49) dX1_release_48 rfl rfl (.head _) ?_
      refine r_getI (pc' := 52) dX1_release_49 rfl fX1_63 rfl (by first | assumption | rfl) (by omega) ?_
      rw [hag.z]
      refine r_bipush (pc' := 54) dX1_release_52 rfl (by decide) ?_
      refine r_icmp_ge (t := 80) (f := 57) dX1_release_54 (by decide) rfl (by first | omega | exact xv_in _ _ _) (by first | omega | exact xv_in _ _ _) (fun h54 => ?_) (fun h54 => ?_)
      · refine r_aload_n (i := 3) (pc' := 81) dX1_release_80 rfl rfl (.tail _ (.tail _ (.tail _ (.head _)))) ?_
        refine r_iconst (pc' := 82) dX1_release_81 rfl ?_
        refine r_putI (pc' := 85) dX1_release_82 rfl fX1_95 rfl (by first | assumption | rfl) (by omega) rfl rfl ?_
        refine r_aload_n (i := 3) (pc' := 86) dX1_release_85 rfl rfl (.tail _ (.tail _ (.tail _ (.head _)))) ?_
        refine r_aload_n (i := 0) (pc' := 87) dX1_release_86 rfl rfl (.head _) ?_
        refine r_getI (pc' := 90) dX1_release_87 rfl fX1_63 rfl (by first | assumption | rfl) (by omega) ?_
        simp (disch := omega) only [xv_up_ne]
        refine r_putI (pc' := 93) dX1_release_90 rfl fX1_184 rfl (by first | assumption | rfl) (by omega) rfl rfl ?_
        refine r_return dX1_release_93 rfl ?_
        refine ⟨rfl, rfl, rfl, rfl, ?_⟩
        rw [bk_rel]
        first | (rw [if_pos hk]; done) | (rw [if_neg (fun q => q hk), ← hv1]; (repeat' split) <;> first | rfl | (exfalso; omega))
      · refine r_aload_n (i := 0) (pc' := 58) dX1_release_57 rfl rfl (.head _) ?_
        refine r_getR (pc' := 61) dX1_release_58 rfl fX1_31 rfl (by first | assumption | rfl) (by omega) (by assumption) ?_
        refine r_aload_n (i := 0) (pc' := 62) dX1_release_61 rfl rfl (.head _) ?_
        refine r_getI (pc' := 65) dX1_release_62 rfl fX1_63 rfl (by first | assumption | rfl) (by omega) ?_
        rw [hag.z]
        refine r_iconst (pc' := 66) dX1_release_65 rfl ?_
        refine r_iadd (pc' := 67) dX1_release_66 rfl ?_
        refine r_dup2 (pc' := 68) dX1_release_67 rfl rfl rfl ?_
        refine r_iaload (pc' := 69) dX1_release_68 rfl (by first | assumption | rfl) (by omega) (by omega) (by omega) (by first | decide | omega) rfl ?_
        rw [xv_up_ne _ _ (by omega)]
        refine r_aload_n (i := 0) (pc' := 70) dX1_release_69 rfl rfl (.head _) ?_
        refine r_aload_n (i := 3) (pc' := 71) dX1_release_70 rfl rfl (.tail _ (.tail _ (.tail _ (.head _)))) ?_
        refine r_aload_n (i := 0) (pc' := 72) dX1_release_71 rfl rfl (.head _) ?_
        refine r_getI (pc' := 75) dX1_release_72 rfl fX1_66 rfl (by first | assumption | rfl) (by omega) ?_
        rw [hag.z]
        refine r_V2p (ci := 1) (pc' := 78) dX1_release_75 rfl lX1_181 rfl (by decide) (Nat.le_of_ble_eq_true rfl) (by first | assumption | rfl) (by omega) (tX1_deadNext hb hO1 hc hck1 (by omega)) ?_
        rw [bk_next_ag hag hag2]
        refine r_iadd (pc' := 79) dX1_release_78 rfl ?_
        refine r_iastore (pc' := 80) dX1_release_79 rfl (by first | assumption | rfl) (by omega) (by omega) (by omega) (by first | decide | omega) rfl ?_
        refine r_aload_n (i := 3) (pc' := 81) dX1_release_80 rfl rfl (.tail _ (.tail _ (.tail _ (.head _)))) ?_
        refine r_iconst (pc' := 82) dX1_release_81 rfl ?_
        refine r_putI (pc' := 85) dX1_release_82 rfl fX1_95 rfl (by first | assumption | rfl) (by omega) rfl rfl ?_
        refine r_aload_n (i := 3) (pc' := 86) dX1_release_85 rfl rfl (.tail _ (.tail _ (.tail _ (.head _)))) ?_
        refine r_aload_n (i := 0) (pc' := 87) dX1_release_86 rfl rfl (.head _) ?_
        refine r_getI (pc' := 90) dX1_release_87 rfl fX1_63 rfl (by first | assumption | rfl) (by omega) ?_
        simp (disch := omega) only [xv_up_ne]
        refine r_putI (pc' := 93) dX1_release_90 rfl fX1_184 rfl (by first | assumption | rfl) (by omega) rfl rfl ?_
        refine r_return dX1_release_93 rfl ?_
        refine ⟨rfl, rfl, rfl, rfl, ?_⟩
        rw [bk_rel]
        first | (rw [if_pos hk]; done) | (rw [if_neg (fun q => q hk), ← hv1]; (repeat' split) <;> first | rfl | (exfalso; omega))
  · refine r_V1p (ci := 1) (pc' := 5) dX1_release_2 rfl lX1_175 rfl (by decide) (Nat.le_of_ble_eq_true rfl) (by first | assumption | rfl) (by omega) (tX1_findBegunN (by assumption) (by assumption) (by first | assumption | omega) (by assumption)) ?_
    refine r_astoreN_n (i := 3) (pc' := 6) dX1_release_5 rfl rfl rfl (.s1 (.s1 (.s1 .nil rfl rfl rfl) rfl rfl rfl) rfl rfl rfl) ?_
    refine r_aloadN_n (i := 3) (pc' := 7) dX1_release_6 rfl rfl (.tail _ (.tail _ (.tail _ (.head _)))) ?_
    refine r_ifnonnullN (pc' := 10) dX1_release_7 rfl ?_
    refine r_return dX1_release_10 rfl ?_
    refine ⟨rfl, rfl, rfl, rfl, ?_⟩
    rw [bk_rel]
    first | (rw [if_pos hk]; done) | (rw [if_neg (fun q => q hk), ← hv1]; (repeat' split) <;> first | rfl | (exfalso; omega))
