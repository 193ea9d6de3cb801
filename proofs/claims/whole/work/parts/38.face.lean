/-! the face, at 0 -/
def isFace (n : Nat) (P : q_P) (b : Nat) : Prop := P 0 0 = some b ∧ P 0 2 = some 441 ∧ P 0 3 = some 442 ∧ P 0 4 = some 444 ∧ P 0 5 = some 447 ∧ P 0 6 = some 449 ∧ P 0 7 = some 453 ∧ P 0 8 = some 459 ∧ 481 ≤ n
theorem c_from_b {X : q_X} {c : Nat} (h : cOk X c) (y : Int) : 0 ≤ c_from X c y ∧ c_from X c y ≤ 2099979 := by
  have hj := h.2.2.2.2.1
  unfold c_from
  generalize (max 0 (y - xv X c 0)).toNat = s
  have h1 := q_sum_nn (f := xv X (c + 3)) (10 - s) s (fun i _ hi => (hj i (by omega)).2.2.2.2.1)
  refine ⟨h1, ?_⟩
  by_cases hs : s ≤ 10
  · have e := q_sum_add (xv X (c + 3)) s (10 - s) 0
    rw [show s + (10 - s) = 10 by omega, Nat.zero_add] at e
    have h2 := q_sum_nn (f := xv X (c + 3)) s 0 (fun i _ hi => (hj i (by omega)).2.2.2.2.1)
    have h3 := q_sum_nn (f := xv X (c + 1)) 10 0 (fun i _ hi => (hj i (by omega)).1)
    have h4 := h.2.2.2.2.2.1
    have h5 := h.2.1
    omega
  · rw [show 10 - s = 0 by omega]; simp [q_sum]
theorem c_sure_b {X : q_X} {c : Nat} (h : cOk X c) (y : Int) : 0 ≤ c_sure X c y ∧ c_sure X c y ≤ 99999 := by
  unfold c_sure; split
  · have h1 := h.2.2.2.2.1 0 (by omega)
    have h3 := h.2.2.1
    have a1 : 0 ≤ xv X (c + 1) 0 * xv X c 3 := Int.mul_nonneg h1.1 h3.1
    have a2 : xv X (c + 1) 0 * xv X c 3 ≤ 99999 * 100 := Int.mul_le_mul h1.2.1 h3.2 h3.1 (by omega)
    rw [Int.tdiv_eq_ediv_of_nonneg a1]
    omega
  · omega
theorem bk_dPay_b {X : q_X} {b c : Nat} (h : cOk X c) (y d : Int) : 0 ≤ bk_dPay X b c y d ∧ bk_dPay X b c y d ≤ 199998 := by
  have h1 := c_sure_b h y
  have h2 := c_roster_b h y
  unfold bk_dPay; split <;> omega
theorem bk_dNow_b {X : q_X} {b c : Nat} (h : cOk X c) (d : Int) : 0 ≤ bk_dNow X b c d ∧ bk_dNow X b c d ≤ 2099979 := by
  have h1 := c_from_b h (xv X b 0)
  have h2 := c_parts_b h (xv X b 0)
  unfold bk_dNow; split <;> omega
theorem bk_dead_b {X : q_X} {b c : Nat} (h : cOk X c) (d : Int) : 0 ≤ bk_dead X b c d ∧ bk_dead X b c d ≤ 2299977 := by
  have h1 := bk_dPay_b (b := b) h (xv X b 0) d
  have h2 := bk_dNow_b (b := b) h d
  unfold bk_dead; omega
def f_pay (X : q_X) (b : Nat) (k y w : Int) : Int := if ¬ bk_has X b k ∨ ¬ (0 ≤ y ∧ y < 20) then -1 else if w = 0 then c_base X (con b k.toNat) y else if w = 1 then c_roster X (con b k.toNat) y else if w = 2 then c_parts X (con b k.toNat) y else if w = 3 then c_hit X (con b k.toNat) y else -1
def f_cash (X : q_X) (b : Nat) (k y : Int) : Int := if ¬ bk_has X b k ∨ ¬ (0 ≤ y ∧ y < 20) then -1 else c_cash X (con b k.toNat) y
def f_coins (X : q_X) (b : Nat) (k w : Int) : Int := if ¬ bk_has X b k then -1 else if w = 0 then c_from X (con b k.toNat) (xv X (con b k.toNat) 0) else if w = 1 then c_from X (con b k.toNat) (xv X (con b k.toNat) 0) - c_from X (con b k.toNat) (if xv X (con b k.toNat) 4 = 0 then xv X b 0 + 1 else xv X (con b k.toNat) 5) else if w = 2 then (if xv X (con b k.toNat) 4 = 0 then 0 else c_from X (con b k.toNat) (xv X (con b k.toNat) 5)) else if w = 3 then (if xv X (con b k.toNat) 4 = 0 then c_from X (con b k.toNat) (xv X b 0 + 1) else 0) else -1
def f_best (X : q_X) (b : Nat) (k : Int) : Int := if ¬ bk_ref X b k = 0 then -1 else if xv X b 1 < xv X b 2 ∧ bk_dead X b (con b k.toNat) (xv X b 2) < bk_dead X b (con b k.toNat) (xv X b 1) then 1 else 0
def f_piece (X : q_X) (b : Nat) (k x i : Int) : Int := if ¬ bk_ref X b k = 0 ∨ x < 1 ∨ 99999 < x ∨ i < 0 ∨ 5 ≤ i then -1 else c_piece x (c_last X (con b k.toNat) - xv X b 0 + 1) i
def f_cnt (X : q_X) (b : Nat) (y : Int) : Int := xv X (b + 2) y.toNat + q_sum (fun i => if xv X (con b i) 4 = 0 then (if y < xv X (con b i) 0 + xv X (con b i) 1 then c_hit X (con b i) y + q_sum (fun j => if ¬ xv X (b + 8) j = 0 ∧ xv X (b + 5) j = (i : Int) ∧ xv X (b + 6) j = y then xv X (b + 7) j else 0) 0 (xv X (b + 4) 0).toNat else if y = xv X (con b i) 0 + xv X (con b i) 1 then c_from X (con b i) y else 0) else 0) 0 (xv X b 10).toNat
def f_ahead (X : q_X) (b : Nat) (y : Int) : Int := if 0 ≤ y ∧ y < 20 ∧ xv X b 0 < y then f_cnt X b y else -1
def f_would (X : q_X) (b : Nat) (k w : Int) : Int := if ¬ bk_ref X b k = 0 then -1000000000 else if w = 0 then bk_dead X b (con b k.toNat) (xv X b 1) else if w = 1 then bk_next X b (con b k.toNat) (xv X b 1) else if w = 2 then bk_all X b (con b k.toNat) else -1000000000
set_option maxHeartbeats 4000000 in
set_option maxRecDepth 100000 in
theorem tX11_fault {l : Launch} {g : q_G} {n : Nat} {P : q_P} {X : q_X} {Y : q_Y} {b : Nat} (hF : isFace n P b) (hb : isBk n P b) (hO : bOk X b) : q_Met l g mX11_fault 0 [.ref (g.1 + 0)] n P X Y (q_pv (.int (zi (xv X 0 9))) n P X Y) := by
  obtain ⟨f0, f2, f3, f4, f5, f6, f7, f8, hn0⟩ := id hF
  obtain ⟨b0, b1, b2, b3, q7, q8, q9, q11, q12, q13, hn, hpro, hmar, hfor, hcs⟩ := id hb
  obtain ⟨o0, o1, o2, o3, o4, o5, o6, o10, oc, op0, opz, opi, om0, omi, olim⟩ := id hO
  refine q_enter (L := [(0, .ref (g.1 + 0))]) (by decide) (Nat.le_of_ble_eq_true rfl) rfl ?_
  refine r_aload_n (i := 0) (pc' := 1) dX11_fault_0 rfl rfl (.head _) ?_
  refine r_getI (pc' := 4) dX11_fault_1 rfl fX11_67 rfl (by first | assumption | rfl) (by omega) ?_
  refine r_ireturn dX11_fault_4 rfl ?_
  refine ⟨?_, rfl, rfl, rfl, rfl⟩
  (repeat' split) <;> first | rfl | (exfalso; omega) | (congr 3; omega)
set_option maxHeartbeats 4000000 in
set_option maxRecDepth 100000 in
theorem tX11_ended {l : Launch} {g : q_G} {n : Nat} {P : q_P} {X : q_X} {Y : q_Y} {b : Nat} (hF : isFace n P b) (hb : isBk n P b) (hO : bOk X b) : q_Met l g mX11_ended 0 [.ref (g.1 + 0)] n P X Y (q_pv (.int (zi (xv X 0 10))) n P X Y) := by
  obtain ⟨f0, f2, f3, f4, f5, f6, f7, f8, hn0⟩ := id hF
  obtain ⟨b0, b1, b2, b3, q7, q8, q9, q11, q12, q13, hn, hpro, hmar, hfor, hcs⟩ := id hb
  obtain ⟨o0, o1, o2, o3, o4, o5, o6, o10, oc, op0, opz, opi, om0, omi, olim⟩ := id hO
  refine q_enter (L := [(0, .ref (g.1 + 0))]) (by decide) (Nat.le_of_ble_eq_true rfl) rfl ?_
  refine r_aload_n (i := 0) (pc' := 1) dX11_ended_0 rfl rfl (.head _) ?_
  refine r_getI (pc' := 4) dX11_ended_1 rfl fX11_71 rfl (by first | assumption | rfl) (by omega) ?_
  refine r_ireturn dX11_ended_4 rfl ?_
  refine ⟨?_, rfl, rfl, rfl, rfl⟩
  (repeat' split) <;> first | rfl | (exfalso; omega) | (congr 3; omega)
set_option maxHeartbeats 4000000 in
set_option maxRecDepth 100000 in
theorem tX11_why {l : Launch} {g : q_G} {n : Nat} {P : q_P} {X : q_X} {Y : q_Y} {b : Nat} (hF : isFace n P b) (hb : isBk n P b) (hO : bOk X b) : q_Met l g mX11_why 0 [.ref (g.1 + 0)] n P X Y (q_pv (.int (zi (xv X 0 11))) n P X Y) := by
  obtain ⟨f0, f2, f3, f4, f5, f6, f7, f8, hn0⟩ := id hF
  obtain ⟨b0, b1, b2, b3, q7, q8, q9, q11, q12, q13, hn, hpro, hmar, hfor, hcs⟩ := id hb
  obtain ⟨o0, o1, o2, o3, o4, o5, o6, o10, oc, op0, opz, opi, om0, omi, olim⟩ := id hO
  refine q_enter (L := [(0, .ref (g.1 + 0))]) (by decide) (Nat.le_of_ble_eq_true rfl) rfl ?_
  refine r_aload_n (i := 0) (pc' := 1) dX11_why_0 rfl rfl (.head _) ?_
  refine r_getI (pc' := 4) dX11_why_1 rfl fX11_74 rfl (by first | assumption | rfl) (by omega) ?_
  refine r_ireturn dX11_why_4 rfl ?_
  refine ⟨?_, rfl, rfl, rfl, rfl⟩
  (repeat' split) <;> first | rfl | (exfalso; omega) | (congr 3; omega)
set_option maxHeartbeats 4000000 in
set_option maxRecDepth 100000 in
theorem tX11_limit {l : Launch} {g : q_G} {n : Nat} {P : q_P} {X : q_X} {Y : q_Y} {b : Nat} (hF : isFace n P b) (hb : isBk n P b) (hO : bOk X b) {y : Int} (hy : q_in y) : q_Met l g mX11_limit 1 [.ref (g.1 + 0), .int (zi y)] n P X Y (q_pv (.int (zi (if 0 ≤ y ∧ y < 20 then xv X (b + 1) y.toNat else -1))) n P X Y) := by
  obtain ⟨f0, f2, f3, f4, f5, f6, f7, f8, hn0⟩ := id hF
  obtain ⟨b0, b1, b2, b3, q7, q8, q9, q11, q12, q13, hn, hpro, hmar, hfor, hcs⟩ := id hb
  obtain ⟨o0, o1, o2, o3, o4, o5, o6, o10, oc, op0, opz, opi, om0, omi, olim⟩ := id hO
  refine q_enter (L := [(0, .ref (g.1 + 0)), (1, .int (zi y))]) (by decide) (Nat.le_of_ble_eq_true rfl) rfl ?_
  refine r_iload_n (i := 1) (pc' := 1) dX11_limit_0 rfl rfl (.tail _ (.head _)) ?_
  refine r_S1p (pc' := 4) dX11_limit_1 rfl lX11_158 (by decide) (Nat.le_of_ble_eq_true rfl) (tX11_isYear (by first | omega | exact xv_in _ _ _)) ?_
  refine r_bif_eq (t := 19) (f := 7) dX11_limit_4 (by decide) rfl (fun h4 => ?_) (fun h4 => ?_)
  · refine r_iconst (pc' := 20) dX11_limit_19 rfl ?_
    refine r_ireturn dX11_limit_20 rfl ?_
    refine ⟨?_, rfl, rfl, rfl, rfl⟩
    (repeat' split) <;> first | rfl | (exfalso; omega) | (congr 3; omega)
  · refine r_aload_n (i := 0) (pc' := 8) dX11_limit_7 rfl rfl (.head _) ?_
    refine r_getR (pc' := 11) dX11_limit_8 rfl fX11_10 rfl (by first | assumption | rfl) (by omega) (by assumption) ?_
    refine r_getR (pc' := 14) dX11_limit_11 rfl fX11_161 rfl (by first | assumption | rfl) (by omega) (by assumption) ?_
    refine r_iload_n (i := 1) (pc' := 15) dX11_limit_14 rfl rfl (.tail _ (.head _)) ?_
    refine r_iaload (pc' := 16) dX11_limit_15 rfl (by first | assumption | rfl) (by omega) (by omega) (by omega) (by first | decide | omega) rfl ?_
    refine r_goto (t := 20) dX11_limit_16 (by decide) ?_
    refine r_ireturn dX11_limit_20 rfl ?_
    refine ⟨?_, rfl, rfl, rfl, rfl⟩
    (repeat' split) <;> first | rfl | (exfalso; omega) | (congr 3; omega)
set_option maxHeartbeats 4000000 in
set_option maxRecDepth 100000 in
theorem tX11_dead {l : Launch} {g : q_G} {n : Nat} {P : q_P} {X : q_X} {Y : q_Y} {b : Nat} (hF : isFace n P b) (hb : isBk n P b) (hO : bOk X b) {y : Int} (hy : q_in y) : q_Met l g mX11_dead 1 [.ref (g.1 + 0), .int (zi y)] n P X Y (q_pv (.int (zi (if 0 ≤ y ∧ y < 20 then xv X (b + 2) y.toNat else -1))) n P X Y) := by
  obtain ⟨f0, f2, f3, f4, f5, f6, f7, f8, hn0⟩ := id hF
  obtain ⟨b0, b1, b2, b3, q7, q8, q9, q11, q12, q13, hn, hpro, hmar, hfor, hcs⟩ := id hb
  obtain ⟨o0, o1, o2, o3, o4, o5, o6, o10, oc, op0, opz, opi, om0, omi, olim⟩ := id hO
  refine q_enter (L := [(0, .ref (g.1 + 0)), (1, .int (zi y))]) (by decide) (Nat.le_of_ble_eq_true rfl) rfl ?_
  refine r_iload_n (i := 1) (pc' := 1) dX11_dead_0 rfl rfl (.tail _ (.head _)) ?_
  refine r_S1p (pc' := 4) dX11_dead_1 rfl lX11_158 (by decide) (Nat.le_of_ble_eq_true rfl) (tX11_isYear (by first | omega | exact xv_in _ _ _)) ?_
  refine r_bif_eq (t := 19) (f := 7) dX11_dead_4 (by decide) rfl (fun h4 => ?_) (fun h4 => ?_)
  · refine r_iconst (pc' := 20) dX11_dead_19 rfl ?_
    refine r_ireturn dX11_dead_20 rfl ?_
    refine ⟨?_, rfl, rfl, rfl, rfl⟩
    (repeat' split) <;> first | rfl | (exfalso; omega) | (congr 3; omega)
  · refine r_aload_n (i := 0) (pc' := 8) dX11_dead_7 rfl rfl (.head _) ?_
    refine r_getR (pc' := 11) dX11_dead_8 rfl fX11_10 rfl (by first | assumption | rfl) (by omega) (by assumption) ?_
    refine r_getR (pc' := 14) dX11_dead_11 rfl fX11_165 rfl (by first | assumption | rfl) (by omega) (by assumption) ?_
    refine r_iload_n (i := 1) (pc' := 15) dX11_dead_14 rfl rfl (.tail _ (.head _)) ?_
    refine r_iaload (pc' := 16) dX11_dead_15 rfl (by first | assumption | rfl) (by omega) (by omega) (by omega) (by first | decide | omega) rfl ?_
    refine r_goto (t := 20) dX11_dead_16 (by decide) ?_
    refine r_ireturn dX11_dead_20 rfl ?_
    refine ⟨?_, rfl, rfl, rfl, rfl⟩
    (repeat' split) <;> first | rfl | (exfalso; omega) | (congr 3; omega)
set_option maxHeartbeats 4000000 in
set_option maxRecDepth 100000 in
theorem tX11_pay {l : Launch} {g : q_G} {n : Nat} {P : q_P} {X : q_X} {Y : q_Y} {b : Nat} (hF : isFace n P b) (hb : isBk n P b) (hO : bOk X b) {k y w : Int} (hi : q_in k) (hy : q_in y) (hw : q_in w) : q_Met l g mX11_pay 3 [.ref (g.1 + 0), .int (zi k), .int (zi y), .int (zi w)] n P X Y (q_pv (.int (zi (f_pay X b k y w))) n P X Y) := by
  obtain ⟨f0, f2, f3, f4, f5, f6, f7, f8, hn0⟩ := id hF
  obtain ⟨b0, b1, b2, b3, q7, q8, q9, q11, q12, q13, hn, hpro, hmar, hfor, hcs⟩ := id hb
  obtain ⟨o0, o1, o2, o3, o4, o5, o6, o10, oc, op0, opz, opi, om0, omi, olim⟩ := id hO
  refine q_enter (L := [(0, .ref (g.1 + 0)), (1, .int (zi k)), (2, .int (zi y)), (3, .int (zi w))]) (by decide) (Nat.le_of_ble_eq_true rfl) rfl ?_
  refine r_aload_n (i := 0) (pc' := 1) dX11_pay_0 rfl rfl (.head _) ?_
  refine r_getR (pc' := 4) dX11_pay_1 rfl fX11_10 rfl (by first | assumption | rfl) (by omega) (by assumption) ?_
  refine r_iload_n (i := 1) (pc' := 5) dX11_pay_4 rfl rfl (.tail _ (.head _)) ?_
  by_cases hk : bk_has X b k
  · have hc := hb.c (k := k.toNat) (by omega)
    obtain ⟨s0, s1, s2, s3, s4, p6, p7, p8, p9, hnc⟩ := id hc
    have hck := hO.c (k := k.toNat) (by omega)
    obtain ⟨hf, hf2, hf3, hf4, hfj, hfs, hfg⟩ := id hck
    refine r_V1p (ci := 1) (pc' := 8) dX11_pay_5 rfl lX11_168 rfl (by decide) (Nat.le_of_ble_eq_true rfl) (by first | assumption | rfl) (by omega) (tX1_find (by assumption) (by assumption) (by assumption)) ?_
    refine r_astore (pc' := 10) dX11_pay_8 rfl rfl (.s1 (.s1 (.s1 (.s1 .nil rfl rfl rfl) rfl rfl rfl) rfl rfl rfl) rfl rfl rfl) ?_
    refine r_aload (pc' := 12) dX11_pay_10 rfl (.tail _ (.tail _ (.tail _ (.tail _ (.head _))))) ?_
    refine r_ifnull (pc' := 15) dX11_pay_12 rfl ?_
    refine r_iload_n (i := 2) (pc' := 16) dX11_pay_15 rfl rfl (.tail _ (.tail _ (.head _))) ?_
    refine r_S1p (pc' := 19) dX11_pay_16 rfl lX11_158 (by decide) (Nat.le_of_ble_eq_true rfl) (tX11_isYear (by first | omega | exact xv_in _ _ _)) ?_
    refine r_bif_ne (t := 24) (f := 22) dX11_pay_19 (by decide) rfl (fun h19 => ?_) (fun h19 => ?_)
    · refine r_iload_n (i := 3) (pc' := 25) dX11_pay_24 rfl rfl (.tail _ (.tail _ (.tail _ (.head _)))) ?_
      by_cases hs25 : w < 0 ∨ 3 < w
      · refine r_tout (t := 84) dX11_pay_25 (by first | omega | exact xv_in _ _ _) hs25 (by decide) ?_
        refine r_iconst (pc' := 85) dX11_pay_84 rfl ?_
        refine r_ireturn dX11_pay_85 rfl ?_
        refine ⟨?_, rfl, rfl, rfl, rfl⟩
        unfold f_pay
        (repeat' split) <;> first | rfl | (exfalso; omega) | (congr 3; omega)
      · have hc25 : w = 0 ∨ w = 1 ∨ w = 2 ∨ w = 3 := by omega
        rcases hc25 with hc25 | hc25 | hc25 | hc25
        · refine r_tin (t := 56) (off := 31) dX11_pay_25 (by first | omega | exact xv_in _ _ _) (by omega) (by omega) (by rw [hc25]; rfl) (by decide) ?_
          refine r_aload (pc' := 58) dX11_pay_56 rfl (.tail _ (.tail _ (.tail _ (.tail _ (.head _))))) ?_
          refine r_iload_n (i := 2) (pc' := 59) dX11_pay_58 rfl rfl (.tail _ (.tail _ (.head _))) ?_
          refine r_V1p (ci := 4) (pc' := 62) dX11_pay_59 rfl lX11_202 rfl (by decide) (Nat.le_of_ble_eq_true rfl) (by first | assumption | rfl) (by omega) (tX4_basePay (by assumption) (by assumption) (by omega)) ?_
          refine r_ireturn dX11_pay_62 rfl ?_
          refine ⟨?_, rfl, rfl, rfl, rfl⟩
          unfold f_pay
          (repeat' split) <;> first | rfl | (exfalso; omega) | (congr 3; omega)
        · refine r_tin (t := 63) (off := 38) dX11_pay_25 (by first | omega | exact xv_in _ _ _) (by omega) (by omega) (by rw [hc25]; rfl) (by decide) ?_
          refine r_aload (pc' := 65) dX11_pay_63 rfl (.tail _ (.tail _ (.tail _ (.tail _ (.head _))))) ?_
          refine r_iload_n (i := 2) (pc' := 66) dX11_pay_65 rfl rfl (.tail _ (.tail _ (.head _))) ?_
          refine r_V1p (ci := 4) (pc' := 69) dX11_pay_66 rfl lX11_205 rfl (by decide) (Nat.le_of_ble_eq_true rfl) (by first | assumption | rfl) (by omega) (tX4_rosterBonus (by assumption) (by assumption) (by omega)) ?_
          refine r_ireturn dX11_pay_69 rfl ?_
          refine ⟨?_, rfl, rfl, rfl, rfl⟩
          unfold f_pay
          (repeat' split) <;> first | rfl | (exfalso; omega) | (congr 3; omega)
        · refine r_tin (t := 70) (off := 45) dX11_pay_25 (by first | omega | exact xv_in _ _ _) (by omega) (by omega) (by rw [hc25]; rfl) (by decide) ?_
          refine r_aload (pc' := 72) dX11_pay_70 rfl (.tail _ (.tail _ (.tail _ (.tail _ (.head _))))) ?_
          refine r_iload_n (i := 2) (pc' := 73) dX11_pay_72 rfl rfl (.tail _ (.tail _ (.head _))) ?_
          refine r_V1p (ci := 4) (pc' := 76) dX11_pay_73 rfl lX11_208 rfl (by decide) (Nat.le_of_ble_eq_true rfl) (by first | assumption | rfl) (by omega) (tX4_partsIn (by assumption) (by assumption) (by omega)) ?_
          refine r_ireturn dX11_pay_76 rfl ?_
          refine ⟨?_, rfl, rfl, rfl, rfl⟩
          unfold f_pay
          (repeat' split) <;> first | rfl | (exfalso; omega) | (congr 3; omega)
        · refine r_tin (t := 77) (off := 52) dX11_pay_25 (by first | omega | exact xv_in _ _ _) (by omega) (by omega) (by rw [hc25]; rfl) (by decide) ?_
          refine r_aload (pc' := 79) dX11_pay_77 rfl (.tail _ (.tail _ (.tail _ (.tail _ (.head _))))) ?_
          refine r_iload_n (i := 2) (pc' := 80) dX11_pay_79 rfl rfl (.tail _ (.tail _ (.head _))) ?_
          refine r_V1p (ci := 4) (pc' := 83) dX11_pay_80 rfl lX11_196 rfl (by decide) (Nat.le_of_ble_eq_true rfl) (by first | assumption | rfl) (by omega) (tX4_hit (by assumption) (by assumption) (by omega)) ?_
          refine r_ireturn dX11_pay_83 rfl ?_
          refine ⟨?_, rfl, rfl, rfl, rfl⟩
          unfold f_pay
          (repeat' split) <;> first | rfl | (exfalso; omega) | (congr 3; omega)
    · refine r_iconst (pc' := 23) dX11_pay_22 rfl ?_
      refine r_ireturn dX11_pay_23 rfl ?_
      refine ⟨?_, rfl, rfl, rfl, rfl⟩
      unfold f_pay
      (repeat' split) <;> first | rfl | (exfalso; omega) | (congr 3; omega)
  · refine r_V1p (ci := 1) (pc' := 8) dX11_pay_5 rfl lX11_168 rfl (by decide) (Nat.le_of_ble_eq_true rfl) (by first | assumption | rfl) (by omega) (tX1_findN (by assumption) (by assumption) (by first | assumption | omega) (by assumption)) ?_
    refine r_astoreN (pc' := 10) dX11_pay_8 rfl rfl (.s1 (.s1 (.s1 (.s1 .nil rfl rfl rfl) rfl rfl rfl) rfl rfl rfl) rfl rfl rfl) ?_
    refine r_aloadN (pc' := 12) dX11_pay_10 rfl (.tail _ (.tail _ (.tail _ (.tail _ (.head _))))) ?_
    refine r_ifnullN (t := 22) dX11_pay_12 (by decide) ?_
    refine r_iconst (pc' := 23) dX11_pay_22 rfl ?_
    refine r_ireturn dX11_pay_23 rfl ?_
    refine ⟨?_, rfl, rfl, rfl, rfl⟩
    unfold f_pay
    (repeat' split) <;> first | rfl | (exfalso; omega) | (congr 3; omega)
set_option maxHeartbeats 4000000 in
set_option maxRecDepth 100000 in
theorem tX11_cash {l : Launch} {g : q_G} {n : Nat} {P : q_P} {X : q_X} {Y : q_Y} {b : Nat} (hF : isFace n P b) (hb : isBk n P b) (hO : bOk X b) {k y : Int} (hi : q_in k) (hy : q_in y) : q_Met l g mX11_cash 3 [.ref (g.1 + 0), .int (zi k), .int (zi y)] n P X Y (q_pv (.int (zi (f_cash X b k y))) n P X Y) := by
  obtain ⟨f0, f2, f3, f4, f5, f6, f7, f8, hn0⟩ := id hF
  obtain ⟨b0, b1, b2, b3, q7, q8, q9, q11, q12, q13, hn, hpro, hmar, hfor, hcs⟩ := id hb
  obtain ⟨o0, o1, o2, o3, o4, o5, o6, o10, oc, op0, opz, opi, om0, omi, olim⟩ := id hO
  refine q_enter (L := [(0, .ref (g.1 + 0)), (1, .int (zi k)), (2, .int (zi y))]) (by decide) (Nat.le_of_ble_eq_true rfl) rfl ?_
  refine r_aload_n (i := 0) (pc' := 1) dX11_cash_0 rfl rfl (.head _) ?_
  refine r_getR (pc' := 4) dX11_cash_1 rfl fX11_10 rfl (by first | assumption | rfl) (by omega) (by assumption) ?_
  refine r_iload_n (i := 1) (pc' := 5) dX11_cash_4 rfl rfl (.tail _ (.head _)) ?_
  by_cases hk : bk_has X b k
  · have hc := hb.c (k := k.toNat) (by omega)
    obtain ⟨s0, s1, s2, s3, s4, p6, p7, p8, p9, hnc⟩ := id hc
    have hck := hO.c (k := k.toNat) (by omega)
    obtain ⟨hf, hf2, hf3, hf4, hfj, hfs, hfg⟩ := id hck
    refine r_V1p (ci := 1) (pc' := 8) dX11_cash_5 rfl lX11_168 rfl (by decide) (Nat.le_of_ble_eq_true rfl) (by first | assumption | rfl) (by omega) (tX1_find (by assumption) (by assumption) (by assumption)) ?_
    refine r_astore_n (i := 3) (pc' := 9) dX11_cash_8 rfl rfl rfl (.s1 (.s1 (.s1 .nil rfl rfl rfl) rfl rfl rfl) rfl rfl rfl) ?_
    refine r_aload_n (i := 3) (pc' := 10) dX11_cash_9 rfl rfl (.tail _ (.tail _ (.tail _ (.head _)))) ?_
    refine r_ifnull (pc' := 13) dX11_cash_10 rfl ?_
    refine r_iload_n (i := 2) (pc' := 14) dX11_cash_13 rfl rfl (.tail _ (.tail _ (.head _))) ?_
    refine r_S1p (pc' := 17) dX11_cash_14 rfl lX11_158 (by decide) (Nat.le_of_ble_eq_true rfl) (tX11_isYear (by first | omega | exact xv_in _ _ _)) ?_
    refine r_bif_ne (t := 24) (f := 20) dX11_cash_17 (by decide) rfl (fun h17 => ?_) (fun h17 => ?_)
    · refine r_aload_n (i := 3) (pc' := 25) dX11_cash_24 rfl rfl (.tail _ (.tail _ (.tail _ (.head _)))) ?_
      refine r_iload_n (i := 2) (pc' := 26) dX11_cash_25 rfl rfl (.tail _ (.tail _ (.head _))) ?_
      refine r_V1p (ci := 4) (pc' := 29) dX11_cash_26 rfl lX11_389 rfl (by decide) (Nat.le_of_ble_eq_true rfl) (by first | assumption | rfl) (by omega) (tX4_cashIn (by assumption) (by assumption) (by omega)) ?_
      refine r_ireturn dX11_cash_29 rfl ?_
      refine ⟨?_, rfl, rfl, rfl, rfl⟩
      unfold f_cash
      (repeat' split) <;> first | rfl | (exfalso; omega) | (congr 3; omega)
    · refine r_iconst (pc' := 21) dX11_cash_20 rfl ?_
      refine r_goto (t := 29) dX11_cash_21 (by decide) ?_
      refine r_ireturn dX11_cash_29 rfl ?_
      refine ⟨?_, rfl, rfl, rfl, rfl⟩
      unfold f_cash
      (repeat' split) <;> first | rfl | (exfalso; omega) | (congr 3; omega)
  · refine r_V1p (ci := 1) (pc' := 8) dX11_cash_5 rfl lX11_168 rfl (by decide) (Nat.le_of_ble_eq_true rfl) (by first | assumption | rfl) (by omega) (tX1_findN (by assumption) (by assumption) (by first | assumption | omega) (by assumption)) ?_
    refine r_astoreN_n (i := 3) (pc' := 9) dX11_cash_8 rfl rfl rfl (.s1 (.s1 (.s1 .nil rfl rfl rfl) rfl rfl rfl) rfl rfl rfl) ?_
    refine r_aloadN_n (i := 3) (pc' := 10) dX11_cash_9 rfl rfl (.tail _ (.tail _ (.tail _ (.head _)))) ?_
    refine r_ifnullN (t := 20) dX11_cash_10 (by decide) ?_
    refine r_iconst (pc' := 21) dX11_cash_20 rfl ?_
    refine r_goto (t := 29) dX11_cash_21 (by decide) ?_
    refine r_ireturn dX11_cash_29 rfl ?_
    refine ⟨?_, rfl, rfl, rfl, rfl⟩
    unfold f_cash
    (repeat' split) <;> first | rfl | (exfalso; omega) | (congr 3; omega)
set_option maxHeartbeats 4000000 in
set_option maxRecDepth 100000 in
theorem tX11_coins {l : Launch} {g : q_G} {n : Nat} {P : q_P} {X : q_X} {Y : q_Y} {b : Nat} (hF : isFace n P b) (hb : isBk n P b) (hO : bOk X b) {k w : Int} (hi : q_in k) (hw : q_in w) : q_Met l g mX11_coins 2 [.ref (g.1 + 0), .int (zi k), .int (zi w)] n P X Y (q_pv (.int (zi (f_coins X b k w))) n P X Y) := by
  obtain ⟨f0, f2, f3, f4, f5, f6, f7, f8, hn0⟩ := id hF
  obtain ⟨b0, b1, b2, b3, q7, q8, q9, q11, q12, q13, hn, hpro, hmar, hfor, hcs⟩ := id hb
  obtain ⟨o0, o1, o2, o3, o4, o5, o6, o10, oc, op0, opz, opi, om0, omi, olim⟩ := id hO
  refine q_enter (L := [(0, .ref (g.1 + 0)), (1, .int (zi k)), (2, .int (zi w))]) (by decide) (Nat.le_of_ble_eq_true rfl) rfl ?_
  refine r_aload_n (i := 0) (pc' := 1) dX11_coins_0 rfl rfl (.head _) ?_
  refine r_getR (pc' := 4) dX11_coins_1 rfl fX11_10 rfl (by first | assumption | rfl) (by omega) (by assumption) ?_
  refine r_iload_n (i := 1) (pc' := 5) dX11_coins_4 rfl rfl (.tail _ (.head _)) ?_
  by_cases hk : bk_has X b k
  · have hc := hb.c (k := k.toNat) (by omega)
    obtain ⟨s0, s1, s2, s3, s4, p6, p7, p8, p9, hnc⟩ := id hc
    have hck := hO.c (k := k.toNat) (by omega)
    obtain ⟨hf, hf2, hf3, hf4, hfj, hfs, hfg⟩ := id hck
    refine r_V1p (ci := 1) (pc' := 8) dX11_coins_5 rfl lX11_168 rfl (by decide) (Nat.le_of_ble_eq_true rfl) (by first | assumption | rfl) (by omega) (tX1_find (by assumption) (by assumption) (by assumption)) ?_
    refine r_astore_n (i := 3) (pc' := 9) dX11_coins_8 rfl rfl rfl (.s1 (.s1 (.s1 .nil rfl rfl rfl) rfl rfl rfl) rfl rfl rfl) ?_
    refine r_aload_n (i := 3) (pc' := 10) dX11_coins_9 rfl rfl (.tail _ (.tail _ (.tail _ (.head _)))) ?_
    refine r_ifnonnull (t := 15) dX11_coins_10 (by decide) ?_
    refine r_aload_n (i := 3) (pc' := 16) dX11_coins_15 rfl rfl (.tail _ (.tail _ (.tail _ (.head _)))) ?_
    refine r_aload_n (i := 3) (pc' := 17) dX11_coins_16 rfl rfl (.tail _ (.tail _ (.tail _ (.head _)))) ?_
    refine r_getI (pc' := 20) dX11_coins_17 rfl fX11_172 rfl (by first | assumption | rfl) (by omega) ?_
    refine r_V1p (ci := 4) (pc' := 23) dX11_coins_20 rfl lX11_347 rfl (by decide) (Nat.le_of_ble_eq_true rfl) (by first | assumption | rfl) (by omega) (tX4_partsFrom (by assumption) (by assumption) (by omega)) ?_
    refine r_istore (pc' := 25) dX11_coins_23 rfl rfl (.s1 (.s1 (.s1 (.s1 .nil rfl rfl rfl) rfl rfl rfl) rfl rfl rfl) rfl rfl rfl) ?_
    refine r_aload_n (i := 3) (pc' := 26) dX11_coins_25 rfl rfl (.tail _ (.tail _ (.tail _ (.head _)))) ?_
    refine r_aload_n (i := 3) (pc' := 27) dX11_coins_26 rfl rfl (.tail _ (.tail _ (.tail _ (.head _)))) ?_
    refine r_V0p (ci := 4) (pc' := 30) dX11_coins_27 rfl lX11_192 rfl (by decide) (Nat.le_of_ble_eq_true rfl) (by first | assumption | rfl) (by omega) (tX4_isOpen (by assumption)) ?_
    refine r_bif_eq (t := 45) (f := 33) dX11_coins_30 (by decide) rfl (fun h30 => ?_) (fun h30 => ?_)
    · refine r_aload_n (i := 3) (pc' := 46) dX11_coins_45 rfl rfl (.tail _ (.tail _ (.tail _ (.head _)))) ?_
      refine r_getI (pc' := 49) dX11_coins_46 rfl fX11_350 rfl (by first | assumption | rfl) (by omega) ?_
      refine r_V1p (ci := 4) (pc' := 52) dX11_coins_49 rfl lX11_347 rfl (by decide) (Nat.le_of_ble_eq_true rfl) (by first | assumption | rfl) (by omega) (tX4_partsFrom (by assumption) (by assumption) (by omega)) ?_
      refine r_istore (pc' := 54) dX11_coins_52 rfl rfl (.s1 (.s1 (.s1 (.s1 (.s1 .nil rfl rfl rfl) rfl rfl rfl) rfl rfl rfl) rfl rfl rfl) rfl rfl rfl) ?_
      refine r_iload_n (i := 2) (pc' := 55) dX11_coins_54 rfl rfl (.tail _ (.tail _ (.head _))) ?_
      by_cases hs55 : w < 0 ∨ 3 < w
      · refine r_tout (t := 121) dX11_coins_55 (by first | omega | exact xv_in _ _ _) hs55 (by decide) ?_
        refine r_iconst (pc' := 122) dX11_coins_121 rfl ?_
        refine r_ireturn dX11_coins_122 rfl ?_
        refine ⟨?_, rfl, rfl, rfl, rfl⟩
        unfold f_coins
        (repeat' split) <;> first | rfl | (exfalso; omega) | (congr 3; omega)
      · have hc55 : w = 0 ∨ w = 1 ∨ w = 2 ∨ w = 3 := by omega
        rcases hc55 with hc55 | hc55 | hc55 | hc55
        · refine r_tin (t := 84) (off := 29) dX11_coins_55 (by first | omega | exact xv_in _ _ _) (by omega) (by omega) (by rw [hc55]; rfl) (by decide) ?_
          refine r_iload (pc' := 86) dX11_coins_84 rfl (.tail _ (.tail _ (.tail _ (.tail _ (.head _))))) ?_
          refine r_ireturn dX11_coins_86 rfl ?_
          refine ⟨?_, rfl, rfl, rfl, rfl⟩
          unfold f_coins
          (repeat' split) <;> first | rfl | (exfalso; omega) | (congr 3; omega)
        · refine r_tin (t := 87) (off := 32) dX11_coins_55 (by first | omega | exact xv_in _ _ _) (by omega) (by omega) (by rw [hc55]; rfl) (by decide) ?_
          refine r_iload (pc' := 89) dX11_coins_87 rfl (.tail _ (.tail _ (.tail _ (.tail _ (.head _))))) ?_
          refine r_iload (pc' := 91) dX11_coins_89 rfl (.tail _ (.tail _ (.tail _ (.tail _ (.tail _ (.head _)))))) ?_
          refine r_isub (pc' := 92) dX11_coins_91 rfl ?_
          refine r_ireturn dX11_coins_92 rfl ?_
          refine ⟨?_, rfl, rfl, rfl, rfl⟩
          unfold f_coins
          (repeat' split) <;> first | rfl | (exfalso; omega) | (congr 3; omega)
        · refine r_tin (t := 93) (off := 38) dX11_coins_55 (by first | omega | exact xv_in _ _ _) (by omega) (by omega) (by rw [hc55]; rfl) (by decide) ?_
          refine r_aload_n (i := 3) (pc' := 94) dX11_coins_93 rfl rfl (.tail _ (.tail _ (.tail _ (.head _)))) ?_
          refine r_V0p (ci := 4) (pc' := 97) dX11_coins_94 rfl lX11_192 rfl (by decide) (Nat.le_of_ble_eq_true rfl) (by first | assumption | rfl) (by omega) (tX4_isOpen (by assumption)) ?_
          refine r_bif_eq (t := 104) (f := 100) dX11_coins_97 (by decide) rfl (fun h97 => ?_) (fun h97 => ?_)
          · refine r_iload (pc' := 106) dX11_coins_104 rfl (.tail _ (.tail _ (.tail _ (.tail _ (.tail _ (.head _)))))) ?_
            refine r_ireturn dX11_coins_106 rfl ?_
            refine ⟨?_, rfl, rfl, rfl, rfl⟩
            unfold f_coins
            (repeat' split) <;> first | rfl | (exfalso; omega) | (congr 3; omega)
          · refine r_iconst (pc' := 101) dX11_coins_100 rfl ?_
            refine r_goto (t := 106) dX11_coins_101 (by decide) ?_
            refine r_ireturn dX11_coins_106 rfl ?_
            refine ⟨?_, rfl, rfl, rfl, rfl⟩
            unfold f_coins
            (repeat' split) <;> first | rfl | (exfalso; omega) | (congr 3; omega)
        · refine r_tin (t := 107) (off := 52) dX11_coins_55 (by first | omega | exact xv_in _ _ _) (by omega) (by omega) (by rw [hc55]; rfl) (by decide) ?_
          refine r_aload_n (i := 3) (pc' := 108) dX11_coins_107 rfl rfl (.tail _ (.tail _ (.tail _ (.head _)))) ?_
          refine r_V0p (ci := 4) (pc' := 111) dX11_coins_108 rfl lX11_192 rfl (by decide) (Nat.le_of_ble_eq_true rfl) (by first | assumption | rfl) (by omega) (tX4_isOpen (by assumption)) ?_
          refine r_bif_eq (t := 119) (f := 114) dX11_coins_111 (by decide) rfl (fun h111 => ?_) (fun h111 => ?_)
          · refine r_iconst (pc' := 120) dX11_coins_119 rfl ?_
            refine r_ireturn dX11_coins_120 rfl ?_
            refine ⟨?_, rfl, rfl, rfl, rfl⟩
            unfold f_coins
            (repeat' split) <;> first | rfl | (exfalso; omega) | (congr 3; omega)
          · refine r_iload (pc' := 116) dX11_coins_114 rfl (.tail _ (.tail _ (.tail _ (.tail _ (.tail _ (.head _)))))) ?_
            refine r_goto (t := 120) dX11_coins_116 (by decide) ?_
            refine r_ireturn dX11_coins_120 rfl ?_
            refine ⟨?_, rfl, rfl, rfl, rfl⟩
            unfold f_coins
            (repeat' split) <;> first | rfl | (exfalso; omega) | (congr 3; omega)
    · refine r_aload_n (i := 0) (pc' := 34) dX11_coins_33 rfl rfl (.head _) ?_
      refine r_getR (pc' := 37) dX11_coins_34 rfl fX11_10 rfl (by first | assumption | rfl) (by omega) (by assumption) ?_
      refine r_getI (pc' := 40) dX11_coins_37 rfl fX11_135 rfl (by first | assumption | rfl) (by omega) ?_
      refine r_iconst (pc' := 41) dX11_coins_40 rfl ?_
      refine r_iadd (pc' := 42) dX11_coins_41 rfl ?_
      refine r_goto (t := 49) dX11_coins_42 (by decide) ?_
      refine r_V1p (ci := 4) (pc' := 52) dX11_coins_49 rfl lX11_347 rfl (by decide) (Nat.le_of_ble_eq_true rfl) (by first | assumption | rfl) (by omega) (tX4_partsFrom (by assumption) (by assumption) (by omega)) ?_
      refine r_istore (pc' := 54) dX11_coins_52 rfl rfl (.s1 (.s1 (.s1 (.s1 (.s1 .nil rfl rfl rfl) rfl rfl rfl) rfl rfl rfl) rfl rfl rfl) rfl rfl rfl) ?_
      refine r_iload_n (i := 2) (pc' := 55) dX11_coins_54 rfl rfl (.tail _ (.tail _ (.head _))) ?_
      by_cases hs55 : w < 0 ∨ 3 < w
      · refine r_tout (t := 121) dX11_coins_55 (by first | omega | exact xv_in _ _ _) hs55 (by decide) ?_
        refine r_iconst (pc' := 122) dX11_coins_121 rfl ?_
        refine r_ireturn dX11_coins_122 rfl ?_
        refine ⟨?_, rfl, rfl, rfl, rfl⟩
        unfold f_coins
        (repeat' split) <;> first | rfl | (exfalso; omega) | (congr 3; omega)
      · have hc55 : w = 0 ∨ w = 1 ∨ w = 2 ∨ w = 3 := by omega
        rcases hc55 with hc55 | hc55 | hc55 | hc55
        · refine r_tin (t := 84) (off := 29) dX11_coins_55 (by first | omega | exact xv_in _ _ _) (by omega) (by omega) (by rw [hc55]; rfl) (by decide) ?_
          refine r_iload (pc' := 86) dX11_coins_84 rfl (.tail _ (.tail _ (.tail _ (.tail _ (.head _))))) ?_
          refine r_ireturn dX11_coins_86 rfl ?_
          refine ⟨?_, rfl, rfl, rfl, rfl⟩
          unfold f_coins
          (repeat' split) <;> first | rfl | (exfalso; omega) | (congr 3; omega)
        · refine r_tin (t := 87) (off := 32) dX11_coins_55 (by first | omega | exact xv_in _ _ _) (by omega) (by omega) (by rw [hc55]; rfl) (by decide) ?_
          refine r_iload (pc' := 89) dX11_coins_87 rfl (.tail _ (.tail _ (.tail _ (.tail _ (.head _))))) ?_
          refine r_iload (pc' := 91) dX11_coins_89 rfl (.tail _ (.tail _ (.tail _ (.tail _ (.tail _ (.head _)))))) ?_
          refine r_isub (pc' := 92) dX11_coins_91 rfl ?_
          refine r_ireturn dX11_coins_92 rfl ?_
          refine ⟨?_, rfl, rfl, rfl, rfl⟩
          unfold f_coins
          (repeat' split) <;> first | rfl | (exfalso; omega) | (congr 3; omega)
        · refine r_tin (t := 93) (off := 38) dX11_coins_55 (by first | omega | exact xv_in _ _ _) (by omega) (by omega) (by rw [hc55]; rfl) (by decide) ?_
          refine r_aload_n (i := 3) (pc' := 94) dX11_coins_93 rfl rfl (.tail _ (.tail _ (.tail _ (.head _)))) ?_
          refine r_V0p (ci := 4) (pc' := 97) dX11_coins_94 rfl lX11_192 rfl (by decide) (Nat.le_of_ble_eq_true rfl) (by first | assumption | rfl) (by omega) (tX4_isOpen (by assumption)) ?_
          refine r_bif_eq (t := 104) (f := 100) dX11_coins_97 (by decide) rfl (fun h97 => ?_) (fun h97 => ?_)
          · refine r_iload (pc' := 106) dX11_coins_104 rfl (.tail _ (.tail _ (.tail _ (.tail _ (.tail _ (.head _)))))) ?_
            refine r_ireturn dX11_coins_106 rfl ?_
            refine ⟨?_, rfl, rfl, rfl, rfl⟩
            unfold f_coins
            (repeat' split) <;> first | rfl | (exfalso; omega) | (congr 3; omega)
          · refine r_iconst (pc' := 101) dX11_coins_100 rfl ?_
            refine r_goto (t := 106) dX11_coins_101 (by decide) ?_
            refine r_ireturn dX11_coins_106 rfl ?_
            refine ⟨?_, rfl, rfl, rfl, rfl⟩
            unfold f_coins
            (repeat' split) <;> first | rfl | (exfalso; omega) | (congr 3; omega)
        · refine r_tin (t := 107) (off := 52) dX11_coins_55 (by first | omega | exact xv_in _ _ _) (by omega) (by omega) (by rw [hc55]; rfl) (by decide) ?_
          refine r_aload_n (i := 3) (pc' := 108) dX11_coins_107 rfl rfl (.tail _ (.tail _ (.tail _ (.head _)))) ?_
          refine r_V0p (ci := 4) (pc' := 111) dX11_coins_108 rfl lX11_192 rfl (by decide) (Nat.le_of_ble_eq_true rfl) (by first | assumption | rfl) (by omega) (tX4_isOpen (by assumption)) ?_
          refine r_bif_eq (t := 119) (f := 114) dX11_coins_111 (by decide) rfl (fun h111 => ?_) (fun h111 => ?_)
          · refine r_iconst (pc' := 120) dX11_coins_119 rfl ?_
            refine r_ireturn dX11_coins_120 rfl ?_
            refine ⟨?_, rfl, rfl, rfl, rfl⟩
            unfold f_coins
            (repeat' split) <;> first | rfl | (exfalso; omega) | (congr 3; omega)
          · refine r_iload (pc' := 116) dX11_coins_114 rfl (.tail _ (.tail _ (.tail _ (.tail _ (.tail _ (.head _)))))) ?_
            refine r_goto (t := 120) dX11_coins_116 (by decide) ?_
            refine r_ireturn dX11_coins_120 rfl ?_
            refine ⟨?_, rfl, rfl, rfl, rfl⟩
            unfold f_coins
            (repeat' split) <;> first | rfl | (exfalso; omega) | (congr 3; omega)
  · refine r_V1p (ci := 1) (pc' := 8) dX11_coins_5 rfl lX11_168 rfl (by decide) (Nat.le_of_ble_eq_true rfl) (by first | assumption | rfl) (by omega) (tX1_findN (by assumption) (by assumption) (by first | assumption | omega) (by assumption)) ?_
    refine r_astoreN_n (i := 3) (pc' := 9) dX11_coins_8 rfl rfl rfl (.s1 (.s1 (.s1 .nil rfl rfl rfl) rfl rfl rfl) rfl rfl rfl) ?_
    refine r_aloadN_n (i := 3) (pc' := 10) dX11_coins_9 rfl rfl (.tail _ (.tail _ (.tail _ (.head _)))) ?_
    refine r_ifnonnullN (pc' := 13) dX11_coins_10 rfl ?_
    refine r_iconst (pc' := 14) dX11_coins_13 rfl ?_
    refine r_ireturn dX11_coins_14 rfl ?_
    refine ⟨?_, rfl, rfl, rfl, rfl⟩
    unfold f_coins
    (repeat' split) <;> first | rfl | (exfalso; omega) | (congr 3; omega)
set_option maxHeartbeats 4000000 in
set_option maxRecDepth 100000 in
theorem tX11_bestDay {l : Launch} {g : q_G} {n : Nat} {P : q_P} {X : q_X} {Y : q_Y} {b : Nat} (hF : isFace n P b) (hb : isBk n P b) (hO : bOk X b) {k : Int} (hi : q_in k) : q_Met l g mX11_bestDay 4 [.ref (g.1 + 0), .int (zi k)] n P X Y (q_pv (.int (zi (f_best X b k))) n P X Y) := by
  obtain ⟨f0, f2, f3, f4, f5, f6, f7, f8, hn0⟩ := id hF
  obtain ⟨b0, b1, b2, b3, q7, q8, q9, q11, q12, q13, hn, hpro, hmar, hfor, hcs⟩ := id hb
  obtain ⟨o0, o1, o2, o3, o4, o5, o6, o10, oc, op0, opz, opi, om0, omi, olim⟩ := id hO
  refine q_enter (L := [(0, .ref (g.1 + 0)), (1, .int (zi k))]) (by decide) (Nat.le_of_ble_eq_true rfl) rfl ?_
  refine r_aload_n (i := 0) (pc' := 1) dX11_bestDay_0 rfl rfl (.head _) ?_
  refine r_getR (pc' := 4) dX11_bestDay_1 rfl fX11_10 rfl (by first | assumption | rfl) (by omega) (by assumption) ?_
  refine r_iload_n (i := 1) (pc' := 5) dX11_bestDay_4 rfl rfl (.tail _ (.head _)) ?_
  by_cases hk : bk_ref X b k = 0
  · have hh := bk_ref_has hk
    have hc := hb.c (k := k.toNat) (by omega)
    obtain ⟨s0, s1, s2, s3, s4, p6, p7, p8, p9, hnc⟩ := id hc
    have hck := hO.c (k := k.toNat) (by omega)
    obtain ⟨hf, hf2, hf3, hf4, hfj, hfs, hfg⟩ := id hck
    have hd1 := bk_dead_b (b := b) hck (xv X b 2)
    have hd2 := bk_dead_b (b := b) hck (xv X b 1)
    refine r_V1p (ci := 1) (pc' := 8) dX11_bestDay_5 rfl lX11_222 rfl (by decide) (Nat.le_of_ble_eq_true rfl) (by first | assumption | rfl) (by omega) (tX1_findBegun (by assumption) (by assumption) (by first | assumption | omega) (by assumption)) ?_
    refine r_astore_n (i := 2) (pc' := 9) dX11_bestDay_8 rfl rfl rfl (.s1 (.s1 .nil rfl rfl rfl) rfl rfl rfl) ?_
    refine r_aload_n (i := 2) (pc' := 10) dX11_bestDay_9 rfl rfl (.tail _ (.tail _ (.head _))) ?_
    refine r_ifnonnull (t := 15) dX11_bestDay_10 (by decide) ?_
    refine r_aload_n (i := 0) (pc' := 16) dX11_bestDay_15 rfl rfl (.head _) ?_
    refine r_getR (pc' := 19) dX11_bestDay_16 rfl fX11_10 rfl (by first | assumption | rfl) (by omega) (by assumption) ?_
    refine r_getI (pc' := 22) dX11_bestDay_19 rfl fX11_138 rfl (by first | assumption | rfl) (by omega) ?_
    refine r_aload_n (i := 0) (pc' := 23) dX11_bestDay_22 rfl rfl (.head _) ?_
    refine r_getR (pc' := 26) dX11_bestDay_23 rfl fX11_10 rfl (by first | assumption | rfl) (by omega) (by assumption) ?_
    refine r_getI (pc' := 29) dX11_bestDay_26 rfl fX11_141 rfl (by first | assumption | rfl) (by omega) ?_
    refine r_icmp_ge (t := 36) (f := 32) dX11_bestDay_29 (by decide) rfl (by first | omega | exact xv_in _ _ _) (by first | omega | exact xv_in _ _ _) (fun h29 => ?_) (fun h29 => ?_)
    · refine r_iconst (pc' := 37) dX11_bestDay_36 rfl ?_
      refine r_istore_n (i := 3) (pc' := 38) dX11_bestDay_37 rfl rfl rfl (.s1 (.s1 (.s1 .nil rfl rfl rfl) rfl rfl rfl) rfl rfl rfl) ?_
      refine r_iload_n (i := 3) (pc' := 39) dX11_bestDay_38 rfl rfl (.tail _ (.tail _ (.tail _ (.head _)))) ?_
      refine r_if_eq (t := 79) (f := 42) dX11_bestDay_39 (by decide) rfl (by first | omega | exact xv_in _ _ _) (fun h39 => ?_) (fun h39 => ?_)
      · refine r_iconst (pc' := 80) dX11_bestDay_79 rfl ?_
        refine r_ireturn dX11_bestDay_80 rfl ?_
        refine ⟨?_, rfl, rfl, rfl, rfl⟩
        unfold f_best
        (repeat' split) <;> first | rfl | (exfalso; omega) | (congr 3; omega)
      · refine r_aload_n (i := 0) (pc' := 43) dX11_bestDay_42 rfl rfl (.head _) ?_
        refine r_getR (pc' := 46) dX11_bestDay_43 rfl fX11_10 rfl (by first | assumption | rfl) (by omega) (by assumption) ?_
        refine r_aload_n (i := 2) (pc' := 47) dX11_bestDay_46 rfl rfl (.tail _ (.tail _ (.head _))) ?_
        refine r_aload_n (i := 0) (pc' := 48) dX11_bestDay_47 rfl rfl (.head _) ?_
        refine r_getR (pc' := 51) dX11_bestDay_48 rfl fX11_10 rfl (by first | assumption | rfl) (by omega) (by assumption) ?_
        refine r_getI (pc' := 54) dX11_bestDay_51 rfl fX11_141 rfl (by first | assumption | rfl) (by omega) ?_
        refine r_V2p (ci := 1) (pc' := 57) dX11_bestDay_54 rfl lX11_225 rfl (by decide) (Nat.le_of_ble_eq_true rfl) (by first | assumption | rfl) (by omega) (tX1_deadNow (by assumption) (by assumption) (by assumption) (by assumption) (by omega)) ?_
        refine r_aload_n (i := 0) (pc' := 58) dX11_bestDay_57 rfl rfl (.head _) ?_
        refine r_getR (pc' := 61) dX11_bestDay_58 rfl fX11_10 rfl (by first | assumption | rfl) (by omega) (by assumption) ?_
        refine r_aload_n (i := 2) (pc' := 62) dX11_bestDay_61 rfl rfl (.tail _ (.tail _ (.head _))) ?_
        refine r_aload_n (i := 0) (pc' := 63) dX11_bestDay_62 rfl rfl (.head _) ?_
        refine r_getR (pc' := 66) dX11_bestDay_63 rfl fX11_10 rfl (by first | assumption | rfl) (by omega) (by assumption) ?_
        refine r_getI (pc' := 69) dX11_bestDay_66 rfl fX11_138 rfl (by first | assumption | rfl) (by omega) ?_
        refine r_V2p (ci := 1) (pc' := 72) dX11_bestDay_69 rfl lX11_225 rfl (by decide) (Nat.le_of_ble_eq_true rfl) (by first | assumption | rfl) (by omega) (tX1_deadNow (by assumption) (by assumption) (by assumption) (by assumption) (by omega)) ?_
        refine r_icmp_ge (t := 79) (f := 75) dX11_bestDay_72 (by decide) rfl (by first | omega | exact xv_in _ _ _) (by first | omega | exact xv_in _ _ _) (fun h72 => ?_) (fun h72 => ?_)
        · refine r_iconst (pc' := 80) dX11_bestDay_79 rfl ?_
          refine r_ireturn dX11_bestDay_80 rfl ?_
          refine ⟨?_, rfl, rfl, rfl, rfl⟩
          unfold f_best
          (repeat' split) <;> first | rfl | (exfalso; omega) | (congr 3; omega)
        · refine r_iconst (pc' := 76) dX11_bestDay_75 rfl ?_
          refine r_goto (t := 80) dX11_bestDay_76 (by decide) ?_
          refine r_ireturn dX11_bestDay_80 rfl ?_
          refine ⟨?_, rfl, rfl, rfl, rfl⟩
          unfold f_best
          (repeat' split) <;> first | rfl | (exfalso; omega) | (congr 3; omega)
    · refine r_iconst (pc' := 33) dX11_bestDay_32 rfl ?_
      refine r_goto (t := 37) dX11_bestDay_33 (by decide) ?_
      refine r_istore_n (i := 3) (pc' := 38) dX11_bestDay_37 rfl rfl rfl (.s1 (.s1 (.s1 .nil rfl rfl rfl) rfl rfl rfl) rfl rfl rfl) ?_
      refine r_iload_n (i := 3) (pc' := 39) dX11_bestDay_38 rfl rfl (.tail _ (.tail _ (.tail _ (.head _)))) ?_
      refine r_if_eq (t := 79) (f := 42) dX11_bestDay_39 (by decide) rfl (by first | omega | exact xv_in _ _ _) (fun h39 => ?_) (fun h39 => ?_)
      · refine r_iconst (pc' := 80) dX11_bestDay_79 rfl ?_
        refine r_ireturn dX11_bestDay_80 rfl ?_
        refine ⟨?_, rfl, rfl, rfl, rfl⟩
        unfold f_best
        (repeat' split) <;> first | rfl | (exfalso; omega) | (congr 3; omega)
      · refine r_aload_n (i := 0) (pc' := 43) dX11_bestDay_42 rfl rfl (.head _) ?_
        refine r_getR (pc' := 46) dX11_bestDay_43 rfl fX11_10 rfl (by first | assumption | rfl) (by omega) (by assumption) ?_
        refine r_aload_n (i := 2) (pc' := 47) dX11_bestDay_46 rfl rfl (.tail _ (.tail _ (.head _))) ?_
        refine r_aload_n (i := 0) (pc' := 48) dX11_bestDay_47 rfl rfl (.head _) ?_
        refine r_getR (pc' := 51) dX11_bestDay_48 rfl fX11_10 rfl (by first | assumption | rfl) (by omega) (by assumption) ?_
        refine r_getI (pc' := 54) dX11_bestDay_51 rfl fX11_141 rfl (by first | assumption | rfl) (by omega) ?_
        refine r_V2p (ci := 1) (pc' := 57) dX11_bestDay_54 rfl lX11_225 rfl (by decide) (Nat.le_of_ble_eq_true rfl) (by first | assumption | rfl) (by omega) (tX1_deadNow (by assumption) (by assumption) (by assumption) (by assumption) (by omega)) ?_
        refine r_aload_n (i := 0) (pc' := 58) dX11_bestDay_57 rfl rfl (.head _) ?_
        refine r_getR (pc' := 61) dX11_bestDay_58 rfl fX11_10 rfl (by first | assumption | rfl) (by omega) (by assumption) ?_
        refine r_aload_n (i := 2) (pc' := 62) dX11_bestDay_61 rfl rfl (.tail _ (.tail _ (.head _))) ?_
        refine r_aload_n (i := 0) (pc' := 63) dX11_bestDay_62 rfl rfl (.head _) ?_
        refine r_getR (pc' := 66) dX11_bestDay_63 rfl fX11_10 rfl (by first | assumption | rfl) (by omega) (by assumption) ?_
        refine r_getI (pc' := 69) dX11_bestDay_66 rfl fX11_138 rfl (by first | assumption | rfl) (by omega) ?_
        refine r_V2p (ci := 1) (pc' := 72) dX11_bestDay_69 rfl lX11_225 rfl (by decide) (Nat.le_of_ble_eq_true rfl) (by first | assumption | rfl) (by omega) (tX1_deadNow (by assumption) (by assumption) (by assumption) (by assumption) (by omega)) ?_
        refine r_icmp_ge (t := 79) (f := 75) dX11_bestDay_72 (by decide) rfl (by first | omega | exact xv_in _ _ _) (by first | omega | exact xv_in _ _ _) (fun h72 => ?_) (fun h72 => ?_)
        · refine r_iconst (pc' := 80) dX11_bestDay_79 rfl ?_
          refine r_ireturn dX11_bestDay_80 rfl ?_
          refine ⟨?_, rfl, rfl, rfl, rfl⟩
          unfold f_best
          (repeat' split) <;> first | rfl | (exfalso; omega) | (congr 3; omega)
        · refine r_iconst (pc' := 76) dX11_bestDay_75 rfl ?_
          refine r_goto (t := 80) dX11_bestDay_76 (by decide) ?_
          refine r_ireturn dX11_bestDay_80 rfl ?_
          refine ⟨?_, rfl, rfl, rfl, rfl⟩
          unfold f_best
          (repeat' split) <;> first | rfl | (exfalso; omega) | (congr 3; omega)
  · refine r_V1p (ci := 1) (pc' := 8) dX11_bestDay_5 rfl lX11_222 rfl (by decide) (Nat.le_of_ble_eq_true rfl) (by first | assumption | rfl) (by omega) (tX1_findBegunN (by assumption) (by assumption) (by first | assumption | omega) (by assumption)) ?_
    refine r_astoreN_n (i := 2) (pc' := 9) dX11_bestDay_8 rfl rfl rfl (.s1 (.s1 .nil rfl rfl rfl) rfl rfl rfl) ?_
    refine r_aloadN_n (i := 2) (pc' := 10) dX11_bestDay_9 rfl rfl (.tail _ (.tail _ (.head _))) ?_
    refine r_ifnonnullN (pc' := 13) dX11_bestDay_10 rfl ?_
    refine r_iconst (pc' := 14) dX11_bestDay_13 rfl ?_
    refine r_ireturn dX11_bestDay_14 rfl ?_
    refine ⟨?_, rfl, rfl, rfl, rfl⟩
    unfold f_best
    (repeat' split) <;> first | rfl | (exfalso; omega) | (congr 3; omega)
set_option maxHeartbeats 4000000 in
set_option maxRecDepth 100000 in
theorem tX11_piece {l : Launch} {g : q_G} {n : Nat} {P : q_P} {X : q_X} {Y : q_Y} {b : Nat} (hF : isFace n P b) (hb : isBk n P b) (hO : bOk X b) {k x i : Int} (hi : q_in k) (hx : q_in x) (hj : q_in i) : q_Met l g mX11_piece 3 [.ref (g.1 + 0), .int (zi k), .int (zi x), .int (zi i)] n P X Y (q_pv (.int (zi (f_piece X b k x i))) n P X Y) := by
  obtain ⟨f0, f2, f3, f4, f5, f6, f7, f8, hn0⟩ := id hF
  obtain ⟨b0, b1, b2, b3, q7, q8, q9, q11, q12, q13, hn, hpro, hmar, hfor, hcs⟩ := id hb
  obtain ⟨o0, o1, o2, o3, o4, o5, o6, o10, oc, op0, opz, opi, om0, omi, olim⟩ := id hO
  refine q_enter (L := [(0, .ref (g.1 + 0)), (1, .int (zi k)), (2, .int (zi x)), (3, .int (zi i))]) (by decide) (Nat.le_of_ble_eq_true rfl) rfl ?_
  refine r_aload_n (i := 0) (pc' := 1) dX11_piece_0 rfl rfl (.head _) ?_
  refine r_getR (pc' := 4) dX11_piece_1 rfl fX11_10 rfl (by first | assumption | rfl) (by omega) (by assumption) ?_
  refine r_iload_n (i := 1) (pc' := 5) dX11_piece_4 rfl rfl (.tail _ (.head _)) ?_
  by_cases hk : bk_ref X b k = 0
  · have hh := bk_ref_has hk
    have hc := hb.c (k := k.toNat) (by omega)
    obtain ⟨s0, s1, s2, s3, s4, p6, p7, p8, p9, hnc⟩ := id hc
    have hck := hO.c (k := k.toNat) (by omega)
    obtain ⟨hf, hf2, hf3, hf4, hfj, hfs, hfg⟩ := id hck
    have hlst : c_last X (con b k.toNat) = xv X (con b k.toNat) 0 + xv X (con b k.toNat) 1 + xv X (con b k.toNat) 2 - 1 := rfl
    refine r_V1p (ci := 1) (pc' := 8) dX11_piece_5 rfl lX11_222 rfl (by decide) (Nat.le_of_ble_eq_true rfl) (by first | assumption | rfl) (by omega) (tX1_findBegun (by assumption) (by assumption) (by first | assumption | omega) (by assumption)) ?_
    refine r_astore (pc' := 10) dX11_piece_8 rfl rfl (.s1 (.s1 (.s1 (.s1 .nil rfl rfl rfl) rfl rfl rfl) rfl rfl rfl) rfl rfl rfl) ?_
    refine r_aload (pc' := 12) dX11_piece_10 rfl (.tail _ (.tail _ (.tail _ (.tail _ (.head _))))) ?_
    refine r_ifnull (pc' := 15) dX11_piece_12 rfl ?_
    refine r_iload_n (i := 2) (pc' := 16) dX11_piece_15 rfl rfl (.tail _ (.tail _ (.head _))) ?_
    refine r_iconst (pc' := 17) dX11_piece_16 rfl ?_
    refine r_icmp_lt (t := 35) (f := 20) dX11_piece_17 (by decide) rfl (by first | omega | exact xv_in _ _ _) (by first | omega | exact xv_in _ _ _) (fun h17 => ?_) (fun h17 => ?_)
    · refine r_iconst (pc' := 36) dX11_piece_35 rfl ?_
      refine r_ireturn dX11_piece_36 rfl ?_
      refine ⟨?_, rfl, rfl, rfl, rfl⟩
      unfold f_piece
      (repeat' split) <;> first | rfl | (exfalso; omega) | (congr 3; omega)
    · refine r_iload_n (i := 2) (pc' := 21) dX11_piece_20 rfl rfl (.tail _ (.tail _ (.head _))) ?_
      refine r_ldc (pc' := 23) dX11_piece_21 rfl kX11_253 ?_
      refine r_icmp_gt (t := 35) (f := 26) dX11_piece_23 (by decide) rfl (by first | omega | exact xv_in _ _ _) (by first | omega | exact xv_in _ _ _) (fun h23 => ?_) (fun h23 => ?_)
      · refine r_iconst (pc' := 36) dX11_piece_35 rfl ?_
        refine r_ireturn dX11_piece_36 rfl ?_
        refine ⟨?_, rfl, rfl, rfl, rfl⟩
        unfold f_piece
        (repeat' split) <;> first | rfl | (exfalso; omega) | (congr 3; omega)
      · refine r_iload_n (i := 3) (pc' := 27) dX11_piece_26 rfl rfl (.tail _ (.tail _ (.tail _ (.head _)))) ?_
        refine r_if_lt (t := 35) (f := 30) dX11_piece_27 (by decide) rfl (by first | omega | exact xv_in _ _ _) (fun h27 => ?_) (fun h27 => ?_)
        · refine r_iconst (pc' := 36) dX11_piece_35 rfl ?_
          refine r_ireturn dX11_piece_36 rfl ?_
          refine ⟨?_, rfl, rfl, rfl, rfl⟩
          unfold f_piece
          (repeat' split) <;> first | rfl | (exfalso; omega) | (congr 3; omega)
        · refine r_iload_n (i := 3) (pc' := 31) dX11_piece_30 rfl rfl (.tail _ (.tail _ (.tail _ (.head _)))) ?_
          refine r_iconst (pc' := 32) dX11_piece_31 rfl ?_
          refine r_icmp_lt (t := 37) (f := 35) dX11_piece_32 (by decide) rfl (by first | omega | exact xv_in _ _ _) (by first | omega | exact xv_in _ _ _) (fun h32 => ?_) (fun h32 => ?_)
          · refine r_aload (pc' := 39) dX11_piece_37 rfl (.tail _ (.tail _ (.tail _ (.tail _ (.head _))))) ?_
            refine r_iload_n (i := 2) (pc' := 40) dX11_piece_39 rfl rfl (.tail _ (.tail _ (.head _))) ?_
            refine r_aload_n (i := 0) (pc' := 41) dX11_piece_40 rfl rfl (.head _) ?_
            refine r_getR (pc' := 44) dX11_piece_41 rfl fX11_10 rfl (by first | assumption | rfl) (by omega) (by assumption) ?_
            refine r_getI (pc' := 47) dX11_piece_44 rfl fX11_135 rfl (by first | assumption | rfl) (by omega) ?_
            refine r_iload_n (i := 3) (pc' := 48) dX11_piece_47 rfl rfl (.tail _ (.tail _ (.tail _ (.head _)))) ?_
            refine r_V3p (ci := 4) (pc' := 51) dX11_piece_48 rfl lX11_365 rfl (by decide) (Nat.le_of_ble_eq_true rfl) (by first | assumption | rfl) (by omega) (tX4_partOf hc (by omega) (by omega) (by omega) (by omega)) ?_
            refine r_ireturn dX11_piece_51 rfl ?_
            refine ⟨?_, rfl, rfl, rfl, rfl⟩
            unfold f_piece
            (repeat' split) <;> first | rfl | (exfalso; omega) | (congr 3; omega)
          · refine r_iconst (pc' := 36) dX11_piece_35 rfl ?_
            refine r_ireturn dX11_piece_36 rfl ?_
            refine ⟨?_, rfl, rfl, rfl, rfl⟩
            unfold f_piece
            (repeat' split) <;> first | rfl | (exfalso; omega) | (congr 3; omega)
  · refine r_V1p (ci := 1) (pc' := 8) dX11_piece_5 rfl lX11_222 rfl (by decide) (Nat.le_of_ble_eq_true rfl) (by first | assumption | rfl) (by omega) (tX1_findBegunN (by assumption) (by assumption) (by first | assumption | omega) (by assumption)) ?_
    refine r_astoreN (pc' := 10) dX11_piece_8 rfl rfl (.s1 (.s1 (.s1 (.s1 .nil rfl rfl rfl) rfl rfl rfl) rfl rfl rfl) rfl rfl rfl) ?_
    refine r_aloadN (pc' := 12) dX11_piece_10 rfl (.tail _ (.tail _ (.tail _ (.tail _ (.head _))))) ?_
    refine r_ifnullN (t := 35) dX11_piece_12 (by decide) ?_
    refine r_iconst (pc' := 36) dX11_piece_35 rfl ?_
    refine r_ireturn dX11_piece_36 rfl ?_
    refine ⟨?_, rfl, rfl, rfl, rfl⟩
    unfold f_piece
    (repeat' split) <;> first | rfl | (exfalso; omega) | (congr 3; omega)
set_option maxHeartbeats 4000000 in
set_option maxRecDepth 100000 in
theorem tX11_ahead {l : Launch} {g : q_G} {n : Nat} {P : q_P} {X : q_X} {Y : q_Y} {b : Nat} (hF : isFace n P b) (hb : isBk n P b) (hO : bOk X b) {y : Int} (hy : q_in y) : q_Met l g mX11_ahead 4 [.ref (g.1 + 0), .int (zi y)] n P X Y (q_pv (.int (zi (f_ahead X b y))) n P X Y) := by
  obtain ⟨f0, f2, f3, f4, f5, f6, f7, f8, hn0⟩ := id hF
  obtain ⟨b0, b1, b2, b3, q7, q8, q9, q11, q12, q13, hn, hpro, hmar, hfor, hcs⟩ := id hb
  obtain ⟨o0, o1, o2, o3, o4, o5, o6, o10, oc, op0, opz, opi, om0, omi, olim⟩ := id hO
  refine q_enter (L := [(0, .ref (g.1 + 0)), (1, .int (zi y))]) (by decide) (Nat.le_of_ble_eq_true rfl) rfl ?_
  refine r_iload_n (i := 1) (pc' := 1) dX11_ahead_0 rfl rfl (.tail _ (.head _)) ?_
  refine r_S1p (pc' := 4) dX11_ahead_1 rfl lX11_158 (by decide) (Nat.le_of_ble_eq_true rfl) (tX11_isYear (by first | omega | exact xv_in _ _ _)) ?_
  refine r_bif_eq (t := 29) (f := 7) dX11_ahead_4 (by decide) rfl (fun h4 => ?_) (fun h4 => ?_)
  · refine r_iconst (pc' := 30) dX11_ahead_29 rfl ?_
    refine r_ireturn dX11_ahead_30 rfl ?_
    refine ⟨?_, rfl, rfl, rfl, rfl⟩
    unfold f_ahead
    (repeat' split) <;> first | rfl | (exfalso; omega) | (congr 3; omega)
  · refine r_iload_n (i := 1) (pc' := 8) dX11_ahead_7 rfl rfl (.tail _ (.head _)) ?_
    refine r_aload_n (i := 0) (pc' := 9) dX11_ahead_8 rfl rfl (.head _) ?_
    refine r_getR (pc' := 12) dX11_ahead_9 rfl fX11_10 rfl (by first | assumption | rfl) (by omega) (by assumption) ?_
    refine r_getI (pc' := 15) dX11_ahead_12 rfl fX11_135 rfl (by first | assumption | rfl) (by omega) ?_
    refine r_icmp_le (t := 29) (f := 18) dX11_ahead_15 (by decide) rfl (by first | omega | exact xv_in _ _ _) (by first | omega | exact xv_in _ _ _) (fun h15 => ?_) (fun h15 => ?_)
    · refine r_iconst (pc' := 30) dX11_ahead_29 rfl ?_
      refine r_ireturn dX11_ahead_30 rfl ?_
      refine ⟨?_, rfl, rfl, rfl, rfl⟩
      unfold f_ahead
      (repeat' split) <;> first | rfl | (exfalso; omega) | (congr 3; omega)
    · refine r_aload_n (i := 0) (pc' := 19) dX11_ahead_18 rfl rfl (.head _) ?_
      refine r_getR (pc' := 22) dX11_ahead_19 rfl fX11_10 rfl (by first | assumption | rfl) (by omega) (by assumption) ?_
      refine r_iload_n (i := 1) (pc' := 23) dX11_ahead_22 rfl rfl (.tail _ (.head _)) ?_
      refine r_V1p (ci := 1) (pc' := 26) dX11_ahead_23 rfl lX11_344 rfl (by decide) (Nat.le_of_ble_eq_true rfl) (by first | assumption | rfl) (by omega) (tX1_countAhead hb hO (by omega)) ?_
      refine r_goto (t := 30) dX11_ahead_26 (by decide) ?_
      refine r_ireturn dX11_ahead_30 rfl ?_
      refine ⟨?_, rfl, rfl, rfl, rfl⟩
      unfold f_ahead
      (repeat' split) <;> first | rfl | (exfalso; omega) | (congr 3; omega)
set_option maxHeartbeats 4000000 in
set_option maxRecDepth 100000 in
theorem tX11_allCash {l : Launch} {g : q_G} {n : Nat} {P : q_P} {X : q_X} {Y : q_Y} {b : Nat} (hF : isFace n P b) (hb : isBk n P b) (hO : bOk X b) {y : Int} (hy : q_in y) : q_Met l g mX11_allCash 4 [.ref (g.1 + 0), .int (zi y)] n P X Y (q_pv (.int (zi (if 0 ≤ y ∧ y < 20 then q_sum (fun i => c_cash X (con b i) y) 0 (xv X b 10).toNat else -1))) n P X Y) := by
  obtain ⟨f0, f2, f3, f4, f5, f6, f7, f8, hn0⟩ := id hF
  obtain ⟨b0, b1, b2, b3, q7, q8, q9, q11, q12, q13, hn, hpro, hmar, hfor, hcs⟩ := id hb
  obtain ⟨o0, o1, o2, o3, o4, o5, o6, o10, oc, op0, opz, opi, om0, omi, olim⟩ := id hO
  refine q_enter (L := [(0, .ref (g.1 + 0)), (1, .int (zi y))]) (by decide) (Nat.le_of_ble_eq_true rfl) rfl ?_
  refine r_iload_n (i := 1) (pc' := 1) dX11_allCash_0 rfl rfl (.tail _ (.head _)) ?_
  refine r_S1p (pc' := 4) dX11_allCash_1 rfl lX11_158 (by decide) (Nat.le_of_ble_eq_true rfl) (tX11_isYear (by first | omega | exact xv_in _ _ _)) ?_
  refine r_bif_eq (t := 18) (f := 7) dX11_allCash_4 (by decide) rfl (fun h4 => ?_) (fun h4 => ?_)
  · refine r_iconst (pc' := 19) dX11_allCash_18 rfl ?_
    refine r_ireturn dX11_allCash_19 rfl ?_
    refine ⟨?_, rfl, rfl, rfl, rfl⟩
    (repeat' split) <;> first | rfl | (exfalso; omega) | (congr 3; omega)
  · refine r_aload_n (i := 0) (pc' := 8) dX11_allCash_7 rfl rfl (.head _) ?_
    refine r_getR (pc' := 11) dX11_allCash_8 rfl fX11_10 rfl (by first | assumption | rfl) (by omega) (by assumption) ?_
    refine r_iload_n (i := 1) (pc' := 12) dX11_allCash_11 rfl rfl (.tail _ (.head _)) ?_
    refine r_V1p (ci := 1) (pc' := 15) dX11_allCash_12 rfl lX11_392 rfl (by decide) (Nat.le_of_ble_eq_true rfl) (by first | assumption | rfl) (by omega) (tX1_cashOfAll (by assumption) (by assumption) (by omega)) ?_
    refine r_goto (t := 19) dX11_allCash_15 (by decide) ?_
    refine r_ireturn dX11_allCash_19 rfl ?_
    refine ⟨?_, rfl, rfl, rfl, rfl⟩
    (repeat' split) <;> first | rfl | (exfalso; omega) | (congr 3; omega)
