/-! the books lie at b: the object, limits, deads, the row of contracts, promises, market, formula, the contracts -/
def con (b k : Nat) : Nat := b + 20 + 5 * k
def isPro (n : Nat) (P : q_P) (o : Nat) : Prop := q_sh o = (8, 6) ∧ q_sh (o + 1) = (20, 24) ∧ q_sh (o + 2) = (20, 24) ∧ q_sh (o + 3) = (20, 24) ∧ q_sh (o + 4) = (22, 24) ∧ q_sh (o + 5) = (22, 24) ∧ P o 1 = some (o + 1) ∧ P o 2 = some (o + 2) ∧ P o 3 = some (o + 3) ∧ P o 4 = some (o + 4) ∧ P o 5 = some (o + 5) ∧ o + 6 ≤ n
def isMar (n : Nat) (P : q_P) (o : Nat) : Prop := q_sh o = (7, 5) ∧ q_sh (o + 1) = (20, 12) ∧ q_sh (o + 2) = (20, 12) ∧ q_sh (o + 3) = (20, 12) ∧ q_sh (o + 4) = (20, 12) ∧ P o 1 = some (o + 1) ∧ P o 2 = some (o + 2) ∧ P o 3 = some (o + 3) ∧ P o 4 = some (o + 4) ∧ o + 5 ≤ n
def isFor (n : Nat) (P : q_P) (o : Nat) : Prop := q_sh o = (5, 6) ∧ q_sh (o + 1) = (20, 80) ∧ q_sh (o + 2) = (20, 21) ∧ q_sh (o + 3) = (20, 6) ∧ q_sh (o + 4) = (21, 21) ∧ P o 1 = some (o + 1) ∧ P o 2 = some (o + 2) ∧ P o 4 = some (o + 3) ∧ P o 5 = some (o + 4) ∧ o + 5 ≤ n
def isBk (n : Nat) (P : q_P) (b : Nat) : Prop := q_sh b = (1, 14) ∧ q_sh (b + 1) = (20, 20) ∧ q_sh (b + 2) = (20, 20) ∧ q_sh (b + 3) = (24, 40) ∧ P b 7 = some (b + 1) ∧ P b 8 = some (b + 2) ∧ P b 9 = some (b + 3) ∧ P b 11 = some (b + 4) ∧ P b 12 = some (b + 10) ∧ P b 13 = some (b + 15) ∧ b + 220 ≤ n ∧ isPro n P (b + 4) ∧ isMar n P (b + 10) ∧ isFor n P (b + 15) ∧ ∀ k, k < 40 → P (b + 3) k = some (con b k) ∧ isCon n P (con b k)
theorem isBk.r {g : q_G} {n : Nat} {P : q_P} {b k : Nat} (h : isBk n P b) (hk : k < 40) : va_rf (q_rf g (P (b + 3) k)) = .ref (g.1 + con b k) := by rw [(h.2.2.2.2.2.2.2.2.2.2.2.2.2.2 k hk).1]; rfl
theorem isBk.c {n : Nat} {P : q_P} {b k : Nat} (h : isBk n P b) (hk : k < 40) : isCon n P (con b k) := (h.2.2.2.2.2.2.2.2.2.2.2.2.2.2 k hk).2
/-- a contract as it may be -/
def cOk (X : q_X) (c : Nat) : Prop := (0 ≤ xv X c 0 ∧ xv X c 0 ≤ 19) ∧ (1 ≤ xv X c 1 ∧ 0 ≤ xv X c 2 ∧ xv X c 1 + xv X c 2 ≤ 10 ∧ xv X c 0 + xv X c 1 + xv X c 2 ≤ 20) ∧ (0 ≤ xv X c 3 ∧ xv X c 3 ≤ 100) ∧ (0 ≤ xv X c 4 ∧ xv X c 4 ≤ 2 ∧ 0 ≤ xv X c 5 ∧ xv X c 5 ≤ 19) ∧
  (∀ j, j < 10 → 0 ≤ xv X (c + 1) j ∧ xv X (c + 1) j ≤ 99999 ∧ 0 ≤ xv X (c + 2) j ∧ xv X (c + 2) j ≤ 99999 ∧ 0 ≤ xv X (c + 3) j ∧ 0 ≤ xv X (c + 4) j ∧ (xv X c 1 ≤ j → xv X (c + 1) j = 0 ∧ xv X (c + 2) j = 0) ∧ (xv X c 1 + xv X c 2 ≤ j → xv X (c + 3) j = 0)) ∧
  q_sum (xv X (c + 1)) 0 10 + q_sum (xv X (c + 3)) 0 10 ≤ 99999 * (2 * xv X c 1 + 1) ∧ q_sum (xv X (c + 1)) 0 10 + q_sum (xv X (c + 4)) 0 10 ≤ 99999 * (2 * xv X c 1 + 1)
/-- the books as they may be -/
def bOk (X : q_X) (b : Nat) : Prop := (0 ≤ xv X b 0 ∧ xv X b 0 ≤ 19) ∧ (0 ≤ xv X b 1 ∧ xv X b 1 ≤ 364) ∧ (0 ≤ xv X b 2 ∧ xv X b 2 ≤ 364) ∧ (0 ≤ xv X b 3 ∧ xv X b 3 ≤ 364) ∧ (0 ≤ xv X b 4 ∧ xv X b 4 ≤ 364) ∧ (1 ≤ xv X b 5 ∧ xv X b 5 ≤ 40) ∧ (0 ≤ xv X b 6 ∧ xv X b 6 ≤ 9999) ∧ (0 ≤ xv X b 10 ∧ xv X b 10 ≤ 40) ∧
  (∀ k : Nat, (k : Int) < xv X b 10 → cOk X (con b k)) ∧ (0 ≤ xv X (b + 4) 0 ∧ xv X (b + 4) 0 ≤ 24) ∧ (∀ i, i < 24 → (xv X (b + 8) i = 0 ∨ xv X (b + 8) i = 1) ∧ (xv X (b + 9) i = 0 ∨ xv X (b + 9) i = 1)) ∧
  (∀ i : Nat, (i : Int) < xv X (b + 4) 0 → 0 ≤ xv X (b + 5) i ∧ xv X (b + 5) i < xv X b 10 ∧ 0 ≤ xv X (b + 6) i ∧ xv X (b + 6) i ≤ 19 ∧ 1 ≤ xv X (b + 7) i ∧ xv X (b + 7) i ≤ 99999) ∧
  (0 ≤ xv X (b + 10) 0 ∧ xv X (b + 10) 0 ≤ 12) ∧ (∀ i : Nat, (i : Int) < xv X (b + 10) 0 → 1 ≤ xv X (b + 11) i ∧ xv X (b + 11) i ≤ 9999 ∧ 1 ≤ xv X (b + 12) i ∧ xv X (b + 12) i ≤ 6 ∧ 0 ≤ xv X (b + 13) i ∧ xv X (b + 13) i ≤ 99999 ∧ 0 ≤ xv X (b + 14) i ∧ xv X (b + 14) i ≤ 99999) ∧
  ∀ y, y < 20 → 0 ≤ xv X (b + 1) y ∧ xv X (b + 1) y ≤ 999999
theorem bOk.c {X : q_X} {b k : Nat} (h : bOk X b) (hk : (k : Int) < xv X b 10) : cOk X (con b k) := h.2.2.2.2.2.2.2.2.1 k hk
theorem cOk.sure {X : q_X} {c : Nat} (h : cOk X c) : q_in (xv X (c + 1) 0 * xv X c 3) := by
  have h1 := h.2.2.2.2.1 0 (by omega)
  have h3 := h.2.2.1
  have a1 : 0 ≤ xv X (c + 1) 0 * xv X c 3 := Int.mul_nonneg h1.1 h3.1
  have a2 : xv X (c + 1) 0 * xv X c 3 ≤ 99999 * 100 := Int.mul_le_mul h1.2.1 h3.2 h3.1 (by omega)
  omega
abbrev bk_has (X : q_X) (b : Nat) (k : Int) : Prop := 0 ≤ k ∧ k < xv X b 10
def bk_ref (X : q_X) (b : Nat) (k : Int) : Int := if ¬ bk_has X b k then 1 else if ¬ xv X (con b k.toNat) 4 = 0 then 2 else if xv X b 0 < xv X (con b k.toNat) 0 then 3 else 0
def bk_many (X : q_X) (b : Nat) (s : Int) (a k : Nat) : Int := q_sum (fun i => if xv X (con b i) 4 = s then 1 else 0) a k
def bk_full (X : q_X) (b : Nat) (day : Int) : Int := if day < xv X b 4 then xv X b 5 else 40
def bk_dPay (X : q_X) (b c : Nat) (y day : Int) : Int := c_sure X c y + if xv X b 3 ≤ day then c_roster X c y else 0
def bk_dNow (X : q_X) (b c : Nat) (day : Int) : Int := if day < xv X b 2 ∨ 19 ≤ xv X b 0 then c_from X c (xv X b 0) else c_parts X c (xv X b 0)
def bk_dead (X : q_X) (b c : Nat) (day : Int) : Int := bk_dPay X b c (xv X b 0) day + bk_dNow X b c day
def bk_next (X : q_X) (b c : Nat) (day : Int) : Int := c_from X c (xv X b 0) - bk_dNow X b c day
def bk_all (X : q_X) (b c : Nat) : Int := bk_dPay X b c (xv X b 0) (xv X b 1) + c_from X c (xv X b 0)
def bk_most (X : q_X) (b c : Nat) : Int := max 0 (c_base X c (xv X b 0) - xv X b 6)
theorem c_base_b {X : q_X} {c : Nat} (h : cOk X c) (y : Int) : 0 ≤ c_base X c y ∧ c_base X c y ≤ 99999 := by
  unfold c_base; split
  · have := h.2.2.2.2.1 (y - xv X c 0).toNat (by omega); omega
  · omega
set_option maxHeartbeats 4000000 in
set_option maxRecDepth 100000 in
theorem tX1_find {l : Launch} {g : q_G} {n : Nat} {P : q_P} {X : q_X} {Y : q_Y} {b : Nat} {k : Int} (hb : isBk n P b) (hO : bOk X b) (hk : bk_has X b k) : q_Met l g mX1_find 0 [.ref (g.1 + b), .int (zi k)] n P X Y (q_pv (.ref (g.1 + con b k.toNat)) n P X Y) := by
  obtain ⟨b0, b1, b2, b3, q7, q8, q9, q11, q12, q13, hn, hpro, hmar, hfor, hcs⟩ := id hb
  obtain ⟨o0, o1, o2, o3, o4, o5, o6, o10, oc, op0, opz, opi, om0, omi, olim⟩ := id hO
  refine q_enter (L := [(0, .ref (g.1 + b)), (1, .int (zi k))]) (by decide) (Nat.le_of_ble_eq_true rfl) rfl ?_
  refine r_iload_n (i := 1) (pc' := 1) dX1_find_0 rfl rfl (.tail _ (.head _)) ?_
  refine r_if_lt (t := 21) (f := 4) dX1_find_1 (by decide) rfl (by first | omega | exact xv_in _ _ _) (fun h1 => ?_) (fun h1 => ?_)
  · exfalso; omega
  · refine r_iload_n (i := 1) (pc' := 5) dX1_find_4 rfl rfl (.tail _ (.head _)) ?_
    refine r_aload_n (i := 0) (pc' := 6) dX1_find_5 rfl rfl (.head _) ?_
    refine r_getI (pc' := 9) dX1_find_6 rfl fX1_75 rfl (by first | assumption | rfl) (by omega) ?_
    refine r_icmp_ge (t := 21) (f := 12) dX1_find_9 (by decide) rfl (by first | omega | exact xv_in _ _ _) (by first | omega | exact xv_in _ _ _) (fun h9 => ?_) (fun h9 => ?_)
    · exfalso; omega
    · refine r_aload_n (i := 0) (pc' := 13) dX1_find_12 rfl rfl (.head _) ?_
      refine r_getR (pc' := 16) dX1_find_13 rfl fX1_36 rfl (by first | assumption | rfl) (by omega) (by assumption) ?_
      refine r_iload_n (i := 1) (pc' := 17) dX1_find_16 rfl rfl (.tail _ (.head _)) ?_
      refine r_aaload (pc' := 18) (v := .ref (g.1 + con b k.toNat)) dX1_find_17 rfl (by first | assumption | rfl) (by decide) (by omega) (by omega) (by omega) (by first | decide | omega) rfl (hb.r (k := k.toNat) (by omega)) ?_
      refine r_goto (t := 22) dX1_find_18 (by decide) ?_
      refine r_areturn (o := some (g.1 + con b k.toNat)) dX1_find_22 rfl ?_
      exact ⟨rfl, rfl, rfl, rfl, rfl⟩
set_option maxHeartbeats 4000000 in
set_option maxRecDepth 100000 in
theorem tX1_findN {l : Launch} {g : q_G} {n : Nat} {P : q_P} {X : q_X} {Y : q_Y} {b : Nat} {k : Int} (hb : isBk n P b) (hO : bOk X b) (hi : q_in k) (hk : ¬ bk_has X b k) : q_Met l g mX1_find 0 [.ref (g.1 + b), .int (zi k)] n P X Y (q_pv (.null) n P X Y) := by
  obtain ⟨b0, b1, b2, b3, q7, q8, q9, q11, q12, q13, hn, hpro, hmar, hfor, hcs⟩ := id hb
  obtain ⟨o0, o1, o2, o3, o4, o5, o6, o10, oc, op0, opz, opi, om0, omi, olim⟩ := id hO
  refine q_enter (L := [(0, .ref (g.1 + b)), (1, .int (zi k))]) (by decide) (Nat.le_of_ble_eq_true rfl) rfl ?_
  refine r_iload_n (i := 1) (pc' := 1) dX1_find_0 rfl rfl (.tail _ (.head _)) ?_
  refine r_if_lt (t := 21) (f := 4) dX1_find_1 (by decide) rfl (by first | omega | exact xv_in _ _ _) (fun h1 => ?_) (fun h1 => ?_)
  · refine r_null (pc' := 22) dX1_find_21 rfl ?_
    refine r_areturn (o := none) dX1_find_22 rfl ?_
    exact ⟨rfl, rfl, rfl, rfl, rfl⟩
  · refine r_iload_n (i := 1) (pc' := 5) dX1_find_4 rfl rfl (.tail _ (.head _)) ?_
    refine r_aload_n (i := 0) (pc' := 6) dX1_find_5 rfl rfl (.head _) ?_
    refine r_getI (pc' := 9) dX1_find_6 rfl fX1_75 rfl (by first | assumption | rfl) (by omega) ?_
    refine r_icmp_ge (t := 21) (f := 12) dX1_find_9 (by decide) rfl (by first | omega | exact xv_in _ _ _) (by first | omega | exact xv_in _ _ _) (fun h9 => ?_) (fun h9 => ?_)
    · refine r_null (pc' := 22) dX1_find_21 rfl ?_
      refine r_areturn (o := none) dX1_find_22 rfl ?_
      exact ⟨rfl, rfl, rfl, rfl, rfl⟩
    · exfalso; omega
set_option maxHeartbeats 4000000 in
set_option maxRecDepth 100000 in
theorem tX1_refusal {l : Launch} {g : q_G} {n : Nat} {P : q_P} {X : q_X} {Y : q_Y} {b : Nat} {k : Int} (hb : isBk n P b) (hO : bOk X b) (hi : q_in k) : q_Met l g mX1_refusal 1 [.ref (g.1 + b), .int (zi k)] n P X Y (q_pv (.int (zi (bk_ref X b k))) n P X Y) := by
  obtain ⟨b0, b1, b2, b3, q7, q8, q9, q11, q12, q13, hn, hpro, hmar, hfor, hcs⟩ := id hb
  obtain ⟨o0, o1, o2, o3, o4, o5, o6, o10, oc, op0, opz, opi, om0, omi, olim⟩ := id hO
  refine q_enter (L := [(0, .ref (g.1 + b)), (1, .int (zi k))]) (by decide) (Nat.le_of_ble_eq_true rfl) rfl ?_
  refine r_aload_n (i := 0) (pc' := 1) dX1_refusal_0 rfl rfl (.head _) ?_
  refine r_iload_n (i := 1) (pc' := 2) dX1_refusal_1 rfl rfl (.tail _ (.head _)) ?_
  by_cases hk : bk_has X b k
  · have hc := hb.c (k := k.toNat) (by omega)
    obtain ⟨s0, s1, s2, s3, s4, p6, p7, p8, p9, hnc⟩ := id hc
    have hck := hO.c (k := k.toNat) (by omega)
    obtain ⟨hf, hf2, hf3, hf4, hfj, hfs, hfg⟩ := id hck
    refine r_V1p (ci := 1) (pc' := 5) dX1_refusal_2 rfl lX1_98 rfl (by decide) (Nat.le_of_ble_eq_true rfl) (by first | assumption | rfl) (by omega) (tX1_find (by assumption) (by assumption) (by assumption)) ?_
    refine r_astore_n (i := 2) (pc' := 6) dX1_refusal_5 rfl rfl rfl (.s1 (.s1 .nil rfl rfl rfl) rfl rfl rfl) ?_
    refine r_aload_n (i := 2) (pc' := 7) dX1_refusal_6 rfl rfl (.tail _ (.tail _ (.head _))) ?_
    refine r_ifnonnull (t := 12) dX1_refusal_7 (by decide) ?_
    refine r_aload_n (i := 2) (pc' := 13) dX1_refusal_12 rfl rfl (.tail _ (.tail _ (.head _))) ?_
    refine r_V0p (ci := 4) (pc' := 16) dX1_refusal_13 rfl lX1_102 rfl (by decide) (Nat.le_of_ble_eq_true rfl) (by first | assumption | rfl) (by omega) (tX4_isOpen (by assumption)) ?_
    refine r_bif_ne (t := 21) (f := 19) dX1_refusal_16 (by decide) rfl (fun h16 => ?_) (fun h16 => ?_)
    · refine r_aload_n (i := 2) (pc' := 22) dX1_refusal_21 rfl rfl (.tail _ (.tail _ (.head _))) ?_
      refine r_getI (pc' := 25) dX1_refusal_22 rfl fX1_106 rfl (by first | assumption | rfl) (by omega) ?_
      refine r_aload_n (i := 0) (pc' := 26) dX1_refusal_25 rfl rfl (.head _) ?_
      refine r_getI (pc' := 29) dX1_refusal_26 rfl fX1_63 rfl (by first | assumption | rfl) (by omega) ?_
      refine r_icmp_le (t := 36) (f := 32) dX1_refusal_29 (by decide) rfl (by first | omega | exact xv_in _ _ _) (by first | omega | exact xv_in _ _ _) (fun h29 => ?_) (fun h29 => ?_)
      · refine r_iconst (pc' := 37) dX1_refusal_36 rfl ?_
        refine r_ireturn dX1_refusal_37 rfl ?_
        refine ⟨?_, rfl, rfl, rfl, rfl⟩
        unfold bk_ref
        (repeat' split) <;> first | rfl | (exfalso; omega) | (congr 3; omega)
      · refine r_iconst (pc' := 33) dX1_refusal_32 rfl ?_
        refine r_goto (t := 37) dX1_refusal_33 (by decide) ?_
        refine r_ireturn dX1_refusal_37 rfl ?_
        refine ⟨?_, rfl, rfl, rfl, rfl⟩
        unfold bk_ref
        (repeat' split) <;> first | rfl | (exfalso; omega) | (congr 3; omega)
    · refine r_iconst (pc' := 20) dX1_refusal_19 rfl ?_
      refine r_ireturn dX1_refusal_20 rfl ?_
      refine ⟨?_, rfl, rfl, rfl, rfl⟩
      unfold bk_ref
      (repeat' split) <;> first | rfl | (exfalso; omega) | (congr 3; omega)
  · refine r_V1p (ci := 1) (pc' := 5) dX1_refusal_2 rfl lX1_98 rfl (by decide) (Nat.le_of_ble_eq_true rfl) (by first | assumption | rfl) (by omega) (tX1_findN (by assumption) (by assumption) (by first | assumption | omega) (by assumption)) ?_
    refine r_astoreN_n (i := 2) (pc' := 6) dX1_refusal_5 rfl rfl rfl (.s1 (.s1 .nil rfl rfl rfl) rfl rfl rfl) ?_
    refine r_aloadN_n (i := 2) (pc' := 7) dX1_refusal_6 rfl rfl (.tail _ (.tail _ (.head _))) ?_
    refine r_ifnonnullN (pc' := 10) dX1_refusal_7 rfl ?_
    refine r_iconst (pc' := 11) dX1_refusal_10 rfl ?_
    refine r_ireturn dX1_refusal_11 rfl ?_
    refine ⟨?_, rfl, rfl, rfl, rfl⟩
    unfold bk_ref
    (repeat' split) <;> first | rfl | (exfalso; omega) | (congr 3; omega)
set_option maxHeartbeats 4000000 in
set_option maxRecDepth 100000 in
theorem tX1_findBegun {l : Launch} {g : q_G} {n : Nat} {P : q_P} {X : q_X} {Y : q_Y} {b : Nat} {k : Int} (hb : isBk n P b) (hO : bOk X b) (hi : q_in k) (hk : bk_ref X b k = 0) : q_Met l g mX1_findBegun 2 [.ref (g.1 + b), .int (zi k)] n P X Y (q_pv (.ref (g.1 + con b k.toNat)) n P X Y) := by
  obtain ⟨b0, b1, b2, b3, q7, q8, q9, q11, q12, q13, hn, hpro, hmar, hfor, hcs⟩ := id hb
  obtain ⟨o0, o1, o2, o3, o4, o5, o6, o10, oc, op0, opz, opi, om0, omi, olim⟩ := id hO
  have hh : bk_has X b k := by unfold bk_ref at hk; split at hk <;> omega
  refine q_enter (L := [(0, .ref (g.1 + b)), (1, .int (zi k))]) (by decide) (Nat.le_of_ble_eq_true rfl) rfl ?_
  refine r_aload_n (i := 0) (pc' := 1) dX1_findBegun_0 rfl rfl (.head _) ?_
  refine r_iload_n (i := 1) (pc' := 2) dX1_findBegun_1 rfl rfl (.tail _ (.head _)) ?_
  refine r_V1p (ci := 1) (pc' := 5) dX1_findBegun_2 rfl lX1_91 rfl (by decide) (Nat.le_of_ble_eq_true rfl) (by first | assumption | rfl) (by omega) (tX1_refusal (by assumption) (by assumption) (by first | assumption | omega)) ?_
  refine r_if_ne (t := 17) (f := 8) dX1_findBegun_5 (by decide) rfl (by first | omega | exact xv_in _ _ _) (fun h5 => ?_) (fun h5 => ?_)
  · exfalso; omega
  · refine r_aload_n (i := 0) (pc' := 9) dX1_findBegun_8 rfl rfl (.head _) ?_
    refine r_getR (pc' := 12) dX1_findBegun_9 rfl fX1_36 rfl (by first | assumption | rfl) (by omega) (by assumption) ?_
    refine r_iload_n (i := 1) (pc' := 13) dX1_findBegun_12 rfl rfl (.tail _ (.head _)) ?_
    refine r_aaload (pc' := 14) (v := .ref (g.1 + con b k.toNat)) dX1_findBegun_13 rfl (by first | assumption | rfl) (by decide) (by omega) (by omega) (by omega) (by first | decide | omega) rfl (hb.r (k := k.toNat) (by omega)) ?_
    refine r_goto (t := 18) dX1_findBegun_14 (by decide) ?_
    refine r_areturn (o := some (g.1 + con b k.toNat)) dX1_findBegun_18 rfl ?_
    exact ⟨rfl, rfl, rfl, rfl, rfl⟩
set_option maxHeartbeats 4000000 in
set_option maxRecDepth 100000 in
theorem tX1_findBegunN {l : Launch} {g : q_G} {n : Nat} {P : q_P} {X : q_X} {Y : q_Y} {b : Nat} {k : Int} (hb : isBk n P b) (hO : bOk X b) (hi : q_in k) (hk : ¬ bk_ref X b k = 0) : q_Met l g mX1_findBegun 2 [.ref (g.1 + b), .int (zi k)] n P X Y (q_pv (.null) n P X Y) := by
  obtain ⟨b0, b1, b2, b3, q7, q8, q9, q11, q12, q13, hn, hpro, hmar, hfor, hcs⟩ := id hb
  obtain ⟨o0, o1, o2, o3, o4, o5, o6, o10, oc, op0, opz, opi, om0, omi, olim⟩ := id hO
  have hr : q_in (bk_ref X b k) := by unfold bk_ref; (repeat' split) <;> omega
  refine q_enter (L := [(0, .ref (g.1 + b)), (1, .int (zi k))]) (by decide) (Nat.le_of_ble_eq_true rfl) rfl ?_
  refine r_aload_n (i := 0) (pc' := 1) dX1_findBegun_0 rfl rfl (.head _) ?_
  refine r_iload_n (i := 1) (pc' := 2) dX1_findBegun_1 rfl rfl (.tail _ (.head _)) ?_
  refine r_V1p (ci := 1) (pc' := 5) dX1_findBegun_2 rfl lX1_91 rfl (by decide) (Nat.le_of_ble_eq_true rfl) (by first | assumption | rfl) (by omega) (tX1_refusal (by assumption) (by assumption) (by first | assumption | omega)) ?_
  refine r_if_ne (t := 17) (f := 8) dX1_findBegun_5 (by decide) rfl (by first | omega | assumption) (fun h5 => ?_) (fun h5 => ?_)
  · refine r_null (pc' := 18) dX1_findBegun_17 rfl ?_
    refine r_areturn (o := none) dX1_findBegun_18 rfl ?_
    exact ⟨rfl, rfl, rfl, rfl, rfl⟩
  · exfalso; omega
