def f_cashS (X : q_X) (b : Nat) (y : Nat) : Int := q_sum (fun i => c_cash X (con b i) (y : Int)) 0 (xv X b 10).toNat
def f_paid (X : q_X) (b : Nat) (y : Nat) : Int := q_sum (f_cashS X b) y (min 4 (20 - y))
def f_lims (X : q_X) (b : Nat) (y : Nat) : Int := q_sum (xv X (b + 1)) y (min 4 (20 - y))
def f_floor (X : q_X) (b : Nat) (y w : Int) : Int := if ¬ (0 ≤ y ∧ y < 20) ∨ w < 0 ∨ 2 < w then -1 else if w = 0 then f_paid X b y.toNat else if w = 1 then (f_lims X b y.toNat * 89).tdiv 100 else max 0 (nz ((f_lims X b y.toNat * 89).tdiv 100 - f_paid X b y.toNat))
theorem f_lims_b {X : q_X} {b : Nat} (hO : bOk X b) {y : Nat} (hy : y < 20) : 0 ≤ f_lims X b y ∧ f_lims X b y ≤ 3999996 := by
  have hl := hO.2.2.2.2.2.2.2.2.2.2.2.2.2.2
  have h1 := q_sum_nn (f := xv X (b + 1)) (min 4 (20 - y)) y (fun i _ hi => (hl i (by omega)).1)
  have h2 := q_sum_ub (f := xv X (b + 1)) (B := 999999) (min 4 (20 - y)) y (fun i _ hi => (hl i (by omega)).2)
  unfold f_lims
  refine ⟨h1, ?_⟩
  have : ((min 4 (20 - y) : Nat) : Int) * 999999 ≤ 4 * 999999 := Int.mul_le_mul_of_nonneg_right (by omega) (by omega)
  omega
def f_fy (X : q_X) (b c : Nat) : Nat → Int → Int
  | 0, _ => -2
  | w + 1, y => if bk_dPay X b c y 0 + c_from X c y < c_hit X c y then y else f_fy X b c w (y + 1)
def f_free (X : q_X) (b : Nat) (k : Int) : Int := if ¬ bk_has X b k ∨ ¬ xv X (con b k.toNat) 4 = 0 then -1 else f_fy X b (con b k.toNat) (xv X (con b k.toNat) 0 + xv X (con b k.toNat) 1 - max (xv X b 0) (xv X (con b k.toNat) 0)).toNat (max (xv X b 0) (xv X (con b k.toNat) 0))
/-- the dearest of the first m -/
def dr_P (X : q_X) (b : Nat) (y : Int) (m : Nat) (best most : Int) : Prop := (best = -2 ∧ most = -1 ∧ ∀ i, i < m → ¬ xv X (con b i) 4 = 0) ∨ (0 ≤ best ∧ best < m ∧ xv X (con b best.toNat) 4 = 0 ∧ most = c_hit X (con b best.toNat) y ∧ ∀ i : Nat, i < m → xv X (con b i) 4 = 0 → c_hit X (con b i) y < most ∨ (c_hit X (con b i) y = most ∧ best ≤ i))
/-- an int that fits a property, the store as it was -/
def q_ip (Q : Int → Prop) (n : Nat) (P : q_P) (X : q_X) (Y : q_Y) : q_K := q_gi (fun r' n' P' X' Y' => n' = n ∧ P' = P ∧ Y' = Y ∧ X' = X ∧ Q r')
set_option maxHeartbeats 4000000 in
set_option maxRecDepth 100000 in
theorem lX11_floor {l : Launch} {g : q_G} {n : Nat} {P : q_P} {X : q_X} {Y : q_Y} {b : Nat} (hF : isFace n P b) (hb : isBk n P b) (hO : bOk X b) {y : Nat} {v : Int} (hy : y < 20) {K : q_K} (kk : q_Tr l g mX11_floor 4 K 72 [(0, .ref (g.1 + 0)), (1, .int (zi (y : Int))), (2, .int (zi v)), (3, .int (zi (f_paid X b y))), (4, .int (zi (f_lims X b y)))] [] n P X Y) : ∀ (w i : Nat) (s t : Int), i + w = y + min 4 (20 - y) → y ≤ i → s + q_sum (f_cashS X b) i w = f_paid X b y → t + q_sum (xv X (b + 1)) i w = f_lims X b y → q_Tr l g mX11_floor 4 K 26 [(0, .ref (g.1 + 0)), (1, .int (zi (y : Int))), (2, .int (zi v)), (3, .int (zi s)), (4, .int (zi t)), (5, .int (zi (i : Int)))] [] n P X Y := by
  obtain ⟨f0, f2, f3, f4, f5, f6, f7, f8, hn0⟩ := id hF
  obtain ⟨b0, b1, b2, b3, q7, q8, q9, q11, q12, q13, hn, hpro, hmar, hfor, hcs⟩ := id hb
  obtain ⟨o0, o1, o2, o3, o4, o5, o6, o10, oc, op0, opz, opi, om0, omi, olim⟩ := id hO
  intro w
  induction w with
  | zero =>
    intro i s t hk hi hs ht
    rw [q_sum, Int.add_zero] at hs ht
    subst hs ht
    refine r_iload (pc' := 28) dX11_floor_26 rfl (.tail _ (.tail _ (.tail _ (.tail _ (.tail _ (.head _)))))) ?_
    refine r_iload_n (i := 1) (pc' := 29) dX11_floor_28 rfl rfl (.tail _ (.head _)) ?_
    refine r_iconst (pc' := 30) dX11_floor_29 rfl ?_
    refine r_iadd (pc' := 31) dX11_floor_30 rfl ?_
    refine r_bipush (pc' := 33) dX11_floor_31 rfl (by decide) ?_
    refine r_min (pc' := 36) dX11_floor_33 rfl lX11_353 (by decide) (Nat.le_of_ble_eq_true rfl) (by first | omega | exact xv_in _ _ _) (by first | omega | exact xv_in _ _ _) ?_
    refine r_icmp_gt (t := 72) (f := 39) dX11_floor_36 (by decide) rfl (by first | omega | exact xv_in _ _ _) (by first | omega | exact xv_in _ _ _) (fun h36 => ?_) (fun h36 => ?_)
    · refine r_sub (.kp (.kp (.kp (.kp (.kp (.dr .nil)))))) ?_
      exact kk
    · exfalso; omega
  | succ w ih =>
    intro i s t hk hi hs ht
    rw [q_sum] at hs ht
    refine r_iload (pc' := 28) dX11_floor_26 rfl (.tail _ (.tail _ (.tail _ (.tail _ (.tail _ (.head _)))))) ?_
    refine r_iload_n (i := 1) (pc' := 29) dX11_floor_28 rfl rfl (.tail _ (.head _)) ?_
    refine r_iconst (pc' := 30) dX11_floor_29 rfl ?_
    refine r_iadd (pc' := 31) dX11_floor_30 rfl ?_
    refine r_bipush (pc' := 33) dX11_floor_31 rfl (by decide) ?_
    refine r_min (pc' := 36) dX11_floor_33 rfl lX11_353 (by decide) (Nat.le_of_ble_eq_true rfl) (by first | omega | exact xv_in _ _ _) (by first | omega | exact xv_in _ _ _) ?_
    refine r_icmp_gt (t := 72) (f := 39) dX11_floor_36 (by decide) rfl (by first | omega | exact xv_in _ _ _) (by first | omega | exact xv_in _ _ _) (fun h36 => ?_) (fun h36 => ?_)
    · exfalso; omega
    · refine r_iload_n (i := 3) (pc' := 40) dX11_floor_39 rfl rfl (.tail _ (.tail _ (.tail _ (.head _)))) ?_
      refine r_aload_n (i := 0) (pc' := 41) dX11_floor_40 rfl rfl (.head _) ?_
      refine r_getR (pc' := 44) dX11_floor_41 rfl fX11_10 rfl (by first | assumption | rfl) (by omega) (by assumption) ?_
      refine r_iload (pc' := 46) dX11_floor_44 rfl (.tail _ (.tail _ (.tail _ (.tail _ (.tail _ (.head _)))))) ?_
      refine r_V1p (ci := 1) (pc' := 49) dX11_floor_46 rfl lX11_392 rfl (by decide) (Nat.le_of_ble_eq_true rfl) (by first | assumption | rfl) (by omega) (tX1_cashOfAll hb hO (by omega)) ?_
      refine r_iadd (pc' := 50) dX11_floor_49 rfl ?_
      refine r_istore_n (i := 3) (pc' := 51) dX11_floor_50 rfl rfl rfl (.s1 (.s1 (.s1 (.here (.s1 (.s1 .nil rfl rfl rfl) rfl rfl rfl)) rfl rfl rfl) rfl rfl rfl) rfl rfl rfl) ?_
      refine r_iload (pc' := 53) dX11_floor_51 rfl (.tail _ (.tail _ (.tail _ (.tail _ (.head _))))) ?_
      refine r_aload_n (i := 0) (pc' := 54) dX11_floor_53 rfl rfl (.head _) ?_
      refine r_getR (pc' := 57) dX11_floor_54 rfl fX11_10 rfl (by first | assumption | rfl) (by omega) (by assumption) ?_
      refine r_getR (pc' := 60) dX11_floor_57 rfl fX11_161 rfl (by first | assumption | rfl) (by omega) (by assumption) ?_
      refine r_iload (pc' := 62) dX11_floor_60 rfl (.tail _ (.tail _ (.tail _ (.tail _ (.tail _ (.head _)))))) ?_
      refine r_iaload (pc' := 63) dX11_floor_62 rfl (by first | assumption | rfl) (by omega) (by omega) (by omega) (by first | decide | omega) (Int.toNat_natCast _) ?_
      refine r_iadd (pc' := 64) dX11_floor_63 rfl ?_
      refine r_istore (pc' := 66) dX11_floor_64 rfl rfl (.s1 (.s1 (.s1 (.s1 (.here (.s1 .nil rfl rfl rfl)) rfl rfl rfl) rfl rfl rfl) rfl rfl rfl) rfl rfl rfl) ?_
      refine r_iinc (pc' := 69) dX11_floor_66 rfl rfl (.tail _ (.tail _ (.tail _ (.tail _ (.tail _ (.head _)))))) (.s1 (.s1 (.s1 (.s1 (.s1 (.here .nil) rfl rfl rfl) rfl rfl rfl) rfl rfl rfl) rfl rfl rfl) rfl rfl rfl) ?_
      refine r_goto (t := 26) dX11_floor_69 (by decide) ?_
      exact ih (i + 1) _ _ (by omega) (by omega) (by rw [← hs, f_cashS]; omega) (by rw [← ht]; omega)
set_option maxHeartbeats 4000000 in
set_option maxRecDepth 100000 in
theorem tX11_floor {l : Launch} {g : q_G} {n : Nat} {P : q_P} {X : q_X} {Y : q_Y} {b : Nat} (hF : isFace n P b) (hb : isBk n P b) (hO : bOk X b) {y w : Int} (hy : q_in y) (hw : q_in w) : q_Met l g mX11_floor 4 [.ref (g.1 + 0), .int (zi y), .int (zi w)] n P X Y (q_pv (.int (zi (f_floor X b y w))) n P X Y) := by
  obtain ⟨f0, f2, f3, f4, f5, f6, f7, f8, hn0⟩ := id hF
  obtain ⟨b0, b1, b2, b3, q7, q8, q9, q11, q12, q13, hn, hpro, hmar, hfor, hcs⟩ := id hb
  obtain ⟨o0, o1, o2, o3, o4, o5, o6, o10, oc, op0, opz, opi, om0, omi, olim⟩ := id hO
  refine q_enter (L := [(0, .ref (g.1 + 0)), (1, .int (zi y)), (2, .int (zi w))]) (by decide) (Nat.le_of_ble_eq_true rfl) rfl ?_
  refine r_iload_n (i := 1) (pc' := 1) dX11_floor_0 rfl rfl (.tail _ (.head _)) ?_
  refine r_S1p (pc' := 4) dX11_floor_1 rfl lX11_158 (by decide) (Nat.le_of_ble_eq_true rfl) (tX11_isYear (by first | omega | exact xv_in _ _ _)) ?_
  refine r_bif_eq (t := 16) (f := 7) dX11_floor_4 (by decide) rfl (fun h4 => ?_) (fun h4 => ?_)
  · refine r_iconst (pc' := 17) dX11_floor_16 rfl ?_
    refine r_ireturn dX11_floor_17 rfl ?_
    refine ⟨?_, rfl, rfl, rfl, rfl⟩
    rw [f_floor, if_pos (by omega)]
  · refine r_iload_n (i := 2) (pc' := 8) dX11_floor_7 rfl rfl (.tail _ (.tail _ (.head _))) ?_
    refine r_if_lt (t := 16) (f := 11) dX11_floor_8 (by decide) rfl (by first | omega | exact xv_in _ _ _) (fun h8 => ?_) (fun h8 => ?_)
    · refine r_iconst (pc' := 17) dX11_floor_16 rfl ?_
      refine r_ireturn dX11_floor_17 rfl ?_
      refine ⟨?_, rfl, rfl, rfl, rfl⟩
      rw [f_floor, if_pos (by omega)]
    · refine r_iload_n (i := 2) (pc' := 12) dX11_floor_11 rfl rfl (.tail _ (.tail _ (.head _))) ?_
      refine r_iconst (pc' := 13) dX11_floor_12 rfl ?_
      refine r_icmp_le (t := 18) (f := 16) dX11_floor_13 (by decide) rfl (by first | omega | exact xv_in _ _ _) (by first | omega | exact xv_in _ _ _) (fun h13 => ?_) (fun h13 => ?_)
      · refine r_iconst (pc' := 19) dX11_floor_18 rfl ?_
        refine r_istore_n (i := 3) (pc' := 20) dX11_floor_19 rfl rfl rfl (.s1 (.s1 (.s1 .nil rfl rfl rfl) rfl rfl rfl) rfl rfl rfl) ?_
        refine r_iconst (pc' := 21) dX11_floor_20 rfl ?_
        refine r_istore (pc' := 23) dX11_floor_21 rfl rfl (.s1 (.s1 (.s1 (.s1 .nil rfl rfl rfl) rfl rfl rfl) rfl rfl rfl) rfl rfl rfl) ?_
        refine r_iload_n (i := 1) (pc' := 24) dX11_floor_23 rfl rfl (.tail _ (.head _)) ?_
        refine r_istore (pc' := 26) dX11_floor_24 rfl rfl (.s1 (.s1 (.s1 (.s1 (.s1 .nil rfl rfl rfl) rfl rfl rfl) rfl rfl rfl) rfl rfl rfl) rfl rfl rfl) ?_
        have hll := f_lims_b hO (y := y.toNat) (by omega)
        rw [← Int.toNat_of_nonneg (a := y) (by omega)]
        refine lX11_floor hF hb hO (y := y.toNat) (by omega) ?_ (min 4 (20 - y.toNat)) y.toNat 0 0 (by omega) (by omega) (by rw [f_paid]; omega) (by rw [f_lims]; omega)
        rw [f_floor, if_neg (by omega)]
        simp only [Int.toNat_natCast]
        refine r_iload (pc' := 74) dX11_floor_72 rfl (.tail _ (.tail _ (.tail _ (.tail _ (.head _))))) ?_
        refine r_bipush (pc' := 76) dX11_floor_74 rfl (by decide) ?_
        refine r_imul (pc' := 77) dX11_floor_76 rfl ?_
        refine r_bipush (pc' := 79) dX11_floor_77 rfl (by decide) ?_
        refine r_idiv (pc' := 80) dX11_floor_79 rfl (by first | omega | exact nz_in _) (by first | omega | exact nz_in _) (by omega) ?_
        refine r_istore (pc' := 82) dX11_floor_80 rfl rfl (.s1 (.s1 (.s1 (.s1 (.s1 .nil rfl rfl rfl) rfl rfl rfl) rfl rfl rfl) rfl rfl rfl) rfl rfl rfl) ?_
        refine r_iload_n (i := 2) (pc' := 83) dX11_floor_82 rfl rfl (.tail _ (.tail _ (.head _))) ?_
        refine r_if_ne (t := 88) (f := 86) dX11_floor_83 (by decide) rfl (by first | omega | exact nz_in _) (fun h83 => ?_) (fun h83 => ?_)
        · refine r_iload_n (i := 2) (pc' := 89) dX11_floor_88 rfl rfl (.tail _ (.tail _ (.head _))) ?_
          refine r_iconst (pc' := 90) dX11_floor_89 rfl ?_
          refine r_icmp_ne (t := 98) (f := 93) dX11_floor_90 (by decide) rfl (by first | omega | exact nz_in _) (by first | omega | exact nz_in _) (fun h90 => ?_) (fun h90 => ?_)
          · refine r_iconst (pc' := 99) dX11_floor_98 rfl ?_
            refine r_iload (pc' := 101) dX11_floor_99 rfl (.tail _ (.tail _ (.tail _ (.tail _ (.tail _ (.head _)))))) ?_
            refine r_iload_n (i := 3) (pc' := 102) dX11_floor_101 rfl rfl (.tail _ (.tail _ (.tail _ (.head _)))) ?_
            refine r_isub (pc' := 103) dX11_floor_102 rfl ?_
            rw [← zi_nz (_ - _)]
            refine r_max (pc' := 106) dX11_floor_103 rfl lX11_358 (by decide) (Nat.le_of_ble_eq_true rfl) (by first | omega | exact nz_in _) (by first | omega | exact nz_in _) ?_
            refine r_ireturn dX11_floor_106 rfl ?_
            refine ⟨?_, rfl, rfl, rfl, rfl⟩
            (repeat' split) <;> first | rfl | (exfalso; omega)
          · refine r_iload (pc' := 95) dX11_floor_93 rfl (.tail _ (.tail _ (.tail _ (.tail _ (.tail _ (.head _)))))) ?_
            refine r_goto (t := 106) dX11_floor_95 (by decide) ?_
            refine r_ireturn dX11_floor_106 rfl ?_
            refine ⟨?_, rfl, rfl, rfl, rfl⟩
            (repeat' split) <;> first | rfl | (exfalso; omega)
        · refine r_iload_n (i := 3) (pc' := 87) dX11_floor_86 rfl rfl (.tail _ (.tail _ (.tail _ (.head _)))) ?_
          refine r_ireturn dX11_floor_87 rfl ?_
          refine ⟨?_, rfl, rfl, rfl, rfl⟩
          (repeat' split) <;> first | rfl | (exfalso; omega)
      · refine r_iconst (pc' := 17) dX11_floor_16 rfl ?_
        refine r_ireturn dX11_floor_17 rfl ?_
        refine ⟨?_, rfl, rfl, rfl, rfl⟩
        rw [f_floor, if_pos (by omega)]
set_option maxHeartbeats 4000000 in
set_option maxRecDepth 100000 in
theorem lX11_freeYear {l : Launch} {g : q_G} {n : Nat} {P : q_P} {X : q_X} {Y : q_Y} {b : Nat} (hF : isFace n P b) (hb : isBk n P b) (hO : bOk X b) {c : Nat} {k e r : Int} (hc : isCon n P c) (hck : cOk X c) (he : 0 ≤ e ∧ e ≤ 20) : ∀ (w : Nat) (y : Int), y + w = max y e → 0 ≤ y ∧ y ≤ 20 → f_fy X b c w y = r → q_Tr l g mX11_freeYear 3 (q_pv (.int (zi r)) n P X Y) 53 [(0, .ref (g.1 + 0)), (1, .int (zi k)), (2, .ref (g.1 + c)), (3, .int (zi e)), (4, .int (zi y))] [] n P X Y := by
  obtain ⟨f0, f2, f3, f4, f5, f6, f7, f8, hn0⟩ := id hF
  obtain ⟨b0, b1, b2, b3, q7, q8, q9, q11, q12, q13, hn, hpro, hmar, hfor, hcs⟩ := id hb
  obtain ⟨o0, o1, o2, o3, o4, o5, o6, o10, oc, op0, opz, opi, om0, omi, olim⟩ := id hO
  obtain ⟨s0, s1, s2, s3, s4, p6, p7, p8, p9, hnc⟩ := id hc
  obtain ⟨hf, hf2, hf3, hf4, hfj, hfs, hfg⟩ := id hck
  have hsu := hck.sure
  intro w
  induction w with
  | zero =>
    intro y hk hy hr
    rw [f_fy] at hr
    subst hr
    refine r_iload (pc' := 55) dX11_freeYear_53 rfl (.tail _ (.tail _ (.tail _ (.tail _ (.head _))))) ?_
    refine r_iload_n (i := 3) (pc' := 56) dX11_freeYear_55 rfl rfl (.tail _ (.tail _ (.tail _ (.head _)))) ?_
    refine r_icmp_ge (t := 95) (f := 59) dX11_freeYear_56 (by decide) rfl (by first | omega | exact xv_in _ _ _) (by first | omega | exact xv_in _ _ _) (fun h56 => ?_) (fun h56 => ?_)
    · refine r_bipush (pc' := 97) dX11_freeYear_95 rfl (by decide) ?_
      refine r_ireturn dX11_freeYear_97 rfl ?_
      exact ⟨rfl, rfl, rfl, rfl, rfl⟩
    · exfalso; omega
  | succ w ih =>
    intro y hk hy hr
    rw [f_fy] at hr
    have h1 := bk_dPay_b (b := b) hck y 0
    have h2 := c_from_b hck y
    have h3 := c_hit_b hck y
    refine r_iload (pc' := 55) dX11_freeYear_53 rfl (.tail _ (.tail _ (.tail _ (.tail _ (.head _))))) ?_
    refine r_iload_n (i := 3) (pc' := 56) dX11_freeYear_55 rfl rfl (.tail _ (.tail _ (.tail _ (.head _)))) ?_
    refine r_icmp_ge (t := 95) (f := 59) dX11_freeYear_56 (by decide) rfl (by first | omega | exact xv_in _ _ _) (by first | omega | exact xv_in _ _ _) (fun h56 => ?_) (fun h56 => ?_)
    · exfalso; omega
    · refine r_aload_n (i := 0) (pc' := 60) dX11_freeYear_59 rfl rfl (.head _) ?_
      refine r_getR (pc' := 63) dX11_freeYear_60 rfl fX11_10 rfl (by first | assumption | rfl) (by omega) (by assumption) ?_
      refine r_aload_n (i := 2) (pc' := 64) dX11_freeYear_63 rfl rfl (.tail _ (.tail _ (.head _))) ?_
      refine r_iload (pc' := 66) dX11_freeYear_64 rfl (.tail _ (.tail _ (.tail _ (.tail _ (.head _))))) ?_
      refine r_iconst (pc' := 67) dX11_freeYear_66 rfl ?_
      refine r_V3p (ci := 1) (pc' := 70) dX11_freeYear_67 rfl lX11_361 rfl (by decide) (Nat.le_of_ble_eq_true rfl) (by first | assumption | rfl) (by omega) (tX1_deadPay (by assumption) (by assumption) (by assumption) (by assumption) (by omega) (by omega)) ?_
      refine r_aload_n (i := 2) (pc' := 71) dX11_freeYear_70 rfl rfl (.tail _ (.tail _ (.head _))) ?_
      refine r_iload (pc' := 73) dX11_freeYear_71 rfl (.tail _ (.tail _ (.tail _ (.tail _ (.head _))))) ?_
      refine r_V1p (ci := 4) (pc' := 76) dX11_freeYear_73 rfl lX11_347 rfl (by decide) (Nat.le_of_ble_eq_true rfl) (by first | assumption | rfl) (by omega) (tX4_partsFrom (by assumption) (by assumption) (by omega)) ?_
      refine r_iadd (pc' := 77) dX11_freeYear_76 rfl ?_
      refine r_aload_n (i := 2) (pc' := 78) dX11_freeYear_77 rfl rfl (.tail _ (.tail _ (.head _))) ?_
      refine r_iload (pc' := 80) dX11_freeYear_78 rfl (.tail _ (.tail _ (.tail _ (.tail _ (.head _))))) ?_
      refine r_V1p (ci := 4) (pc' := 83) dX11_freeYear_80 rfl lX11_196 rfl (by decide) (Nat.le_of_ble_eq_true rfl) (by first | assumption | rfl) (by omega) (tX4_hit (by assumption) (by assumption) (by omega)) ?_
      refine r_icmp_ge (t := 89) (f := 86) dX11_freeYear_83 (by decide) rfl (by first | omega | exact xv_in _ _ _) (by first | omega | exact xv_in _ _ _) (fun h83 => ?_) (fun h83 => ?_)
      · rw [if_neg (by omega)] at hr
        refine r_iinc (pc' := 92) dX11_freeYear_89 rfl rfl (.tail _ (.tail _ (.tail _ (.tail _ (.head _))))) (.s1 (.s1 (.s1 (.s1 (.here .nil) rfl rfl rfl) rfl rfl rfl) rfl rfl rfl) rfl rfl rfl) ?_
        refine r_goto (t := 53) dX11_freeYear_92 (by decide) ?_
        exact ih (y + 1) (by omega) (by omega) hr
      · rw [if_pos (by omega)] at hr
        subst hr
        refine r_iload (pc' := 88) dX11_freeYear_86 rfl (.tail _ (.tail _ (.tail _ (.tail _ (.head _))))) ?_
        refine r_ireturn dX11_freeYear_88 rfl ?_
        exact ⟨rfl, rfl, rfl, rfl, rfl⟩
set_option maxHeartbeats 4000000 in
set_option maxRecDepth 100000 in
theorem tX11_freeYear {l : Launch} {g : q_G} {n : Nat} {P : q_P} {X : q_X} {Y : q_Y} {b : Nat} (hF : isFace n P b) (hb : isBk n P b) (hO : bOk X b) {k : Int} (hi : q_in k) : q_Met l g mX11_freeYear 3 [.ref (g.1 + 0), .int (zi k)] n P X Y (q_pv (.int (zi (f_free X b k))) n P X Y) := by
  obtain ⟨f0, f2, f3, f4, f5, f6, f7, f8, hn0⟩ := id hF
  obtain ⟨b0, b1, b2, b3, q7, q8, q9, q11, q12, q13, hn, hpro, hmar, hfor, hcs⟩ := id hb
  obtain ⟨o0, o1, o2, o3, o4, o5, o6, o10, oc, op0, opz, opi, om0, omi, olim⟩ := id hO
  refine q_enter (L := [(0, .ref (g.1 + 0)), (1, .int (zi k))]) (by decide) (Nat.le_of_ble_eq_true rfl) rfl ?_
  refine r_aload_n (i := 0) (pc' := 1) dX11_freeYear_0 rfl rfl (.head _) ?_
  refine r_getR (pc' := 4) dX11_freeYear_1 rfl fX11_10 rfl (by first | assumption | rfl) (by omega) (by assumption) ?_
  refine r_iload_n (i := 1) (pc' := 5) dX11_freeYear_4 rfl rfl (.tail _ (.head _)) ?_
  by_cases hk : bk_has X b k
  · have hc := hb.c (k := k.toNat) (by omega)
    obtain ⟨s0, s1, s2, s3, s4, p6, p7, p8, p9, hnc⟩ := id hc
    have hck := hO.c (k := k.toNat) (by omega)
    obtain ⟨hf, hf2, hf3, hf4, hfj, hfs, hfg⟩ := id hck
    refine r_V1p (ci := 1) (pc' := 8) dX11_freeYear_5 rfl lX11_168 rfl (by decide) (Nat.le_of_ble_eq_true rfl) (by first | assumption | rfl) (by omega) (tX1_find (by assumption) (by assumption) (by assumption)) ?_
    refine r_astore_n (i := 2) (pc' := 9) dX11_freeYear_8 rfl rfl rfl (.s1 (.s1 .nil rfl rfl rfl) rfl rfl rfl) ?_
    refine r_aload_n (i := 2) (pc' := 10) dX11_freeYear_9 rfl rfl (.tail _ (.tail _ (.head _))) ?_
    refine r_ifnull (pc' := 13) dX11_freeYear_10 rfl ?_
    refine r_aload_n (i := 2) (pc' := 14) dX11_freeYear_13 rfl rfl (.tail _ (.tail _ (.head _))) ?_
    refine r_V0p (ci := 4) (pc' := 17) dX11_freeYear_14 rfl lX11_192 rfl (by decide) (Nat.le_of_ble_eq_true rfl) (by first | assumption | rfl) (by omega) (tX4_isOpen (by assumption)) ?_
    refine r_bif_ne (t := 22) (f := 20) dX11_freeYear_17 (by decide) rfl (fun h17 => ?_) (fun h17 => ?_)
    · refine r_aload_n (i := 2) (pc' := 23) dX11_freeYear_22 rfl rfl (.tail _ (.tail _ (.head _))) ?_
      refine r_getI (pc' := 26) dX11_freeYear_23 rfl fX11_172 rfl (by first | assumption | rfl) (by omega) ?_
      refine r_aload_n (i := 2) (pc' := 27) dX11_freeYear_26 rfl rfl (.tail _ (.tail _ (.head _))) ?_
      refine r_getI (pc' := 30) dX11_freeYear_27 rfl fX11_177 rfl (by first | assumption | rfl) (by omega) ?_
      refine r_iadd (pc' := 31) dX11_freeYear_30 rfl ?_
      refine r_bipush (pc' := 33) dX11_freeYear_31 rfl (by decide) ?_
      refine r_min (pc' := 36) dX11_freeYear_33 rfl lX11_353 (by decide) (Nat.le_of_ble_eq_true rfl) (by first | omega | exact xv_in _ _ _) (by first | omega | exact xv_in _ _ _) ?_
      refine r_istore_n (i := 3) (pc' := 37) dX11_freeYear_36 rfl rfl rfl (.s1 (.s1 (.s1 .nil rfl rfl rfl) rfl rfl rfl) rfl rfl rfl) ?_
      refine r_aload_n (i := 0) (pc' := 38) dX11_freeYear_37 rfl rfl (.head _) ?_
      refine r_getR (pc' := 41) dX11_freeYear_38 rfl fX11_10 rfl (by first | assumption | rfl) (by omega) (by assumption) ?_
      refine r_getI (pc' := 44) dX11_freeYear_41 rfl fX11_135 rfl (by first | assumption | rfl) (by omega) ?_
      refine r_aload_n (i := 2) (pc' := 45) dX11_freeYear_44 rfl rfl (.tail _ (.tail _ (.head _))) ?_
      refine r_getI (pc' := 48) dX11_freeYear_45 rfl fX11_172 rfl (by first | assumption | rfl) (by omega) ?_
      refine r_max (pc' := 51) dX11_freeYear_48 rfl lX11_358 (by decide) (Nat.le_of_ble_eq_true rfl) (by first | omega | exact xv_in _ _ _) (by first | omega | exact xv_in _ _ _) ?_
      refine r_istore (pc' := 53) dX11_freeYear_51 rfl rfl (.s1 (.s1 (.s1 (.s1 .nil rfl rfl rfl) rfl rfl rfl) rfl rfl rfl) rfl rfl rfl) ?_
      rw [f_free, if_neg (by omega)]
      exact lX11_freeYear hF hb hO hc hck (by omega) _ _ (by omega) (by omega) rfl
    · refine r_iconst (pc' := 21) dX11_freeYear_20 rfl ?_
      refine r_ireturn dX11_freeYear_21 rfl ?_
      refine ⟨?_, rfl, rfl, rfl, rfl⟩
      rw [f_free, if_pos (by omega)]
  · refine r_V1p (ci := 1) (pc' := 8) dX11_freeYear_5 rfl lX11_168 rfl (by decide) (Nat.le_of_ble_eq_true rfl) (by first | assumption | rfl) (by omega) (tX1_findN (by assumption) (by assumption) (by first | assumption | omega) (by assumption)) ?_
    refine r_astoreN_n (i := 2) (pc' := 9) dX11_freeYear_8 rfl rfl rfl (.s1 (.s1 .nil rfl rfl rfl) rfl rfl rfl) ?_
    refine r_aloadN_n (i := 2) (pc' := 10) dX11_freeYear_9 rfl rfl (.tail _ (.tail _ (.head _))) ?_
    refine r_ifnullN (t := 20) dX11_freeYear_10 (by decide) ?_
    refine r_iconst (pc' := 21) dX11_freeYear_20 rfl ?_
    refine r_ireturn dX11_freeYear_21 rfl ?_
    refine ⟨?_, rfl, rfl, rfl, rfl⟩
    rw [f_free, if_pos (by omega)]
set_option maxHeartbeats 4000000 in
set_option maxRecDepth 100000 in
theorem lX11_dearest {l : Launch} {g : q_G} {n : Nat} {P : q_P} {X : q_X} {Y : q_Y} {b : Nat} (hF : isFace n P b) (hb : isBk n P b) (hO : bOk X b) {y : Int} (hy : 0 ≤ y ∧ y < 20) : ∀ (w i : Nat) (best most : Int), i + w = (xv X b 10).toNat → dr_P X b y i best most → q_Tr l g mX11_dearest 3 (q_ip (fun r => ∃ m, dr_P X b y (xv X b 10).toNat r m) n P X Y) 17 [(0, .ref (g.1 + 0)), (1, .int (zi y)), (2, .int (zi best)), (3, .int (zi most)), (4, .int (zi (i : Int)))] [] n P X Y := by
  obtain ⟨f0, f2, f3, f4, f5, f6, f7, f8, hn0⟩ := id hF
  obtain ⟨b0, b1, b2, b3, q7, q8, q9, q11, q12, q13, hn, hpro, hmar, hfor, hcs⟩ := id hb
  obtain ⟨o0, o1, o2, o3, o4, o5, o6, o10, oc, op0, opz, opi, om0, omi, olim⟩ := id hO
  intro w
  induction w with
  | zero =>
    intro i best most hk hd
    refine r_iload (pc' := 19) dX11_dearest_17 rfl (.tail _ (.tail _ (.tail _ (.tail _ (.head _))))) ?_
    refine r_aload_n (i := 0) (pc' := 20) dX11_dearest_19 rfl rfl (.head _) ?_
    refine r_getR (pc' := 23) dX11_dearest_20 rfl fX11_10 rfl (by first | assumption | rfl) (by omega) (by assumption) ?_
    refine r_getI (pc' := 26) dX11_dearest_23 rfl fX11_153 rfl (by first | assumption | rfl) (by omega) ?_
    refine r_icmp_ge (t := 75) (f := 29) dX11_dearest_26 (by decide) rfl (by first | omega | exact xv_in _ _ _) (by first | omega | exact xv_in _ _ _) (fun h26 => ?_) (fun h26 => ?_)
    · refine r_iload_n (i := 2) (pc' := 76) dX11_dearest_75 rfl rfl (.tail _ (.tail _ (.head _))) ?_
      refine r_ireturn dX11_dearest_76 rfl ?_
      refine ⟨_, rfl, rfl, rfl, rfl, rfl, most, ?_⟩
      rw [show (xv X b 10).toNat = i by omega]; exact hd
    · exfalso; omega
  | succ w ih =>
    intro i best most hk hd
    have hmi : q_in most := by
      rcases hd with ⟨h1, h2, h3⟩ | ⟨h1, h2, h3, h4, h5⟩
      · omega
      · have := c_hit_b (hO.c (k := best.toNat) (by omega)) y; omega
    have hc := hb.c (k := i) (by omega)
    obtain ⟨s0, s1, s2, s3, s4, p6, p7, p8, p9, hnc⟩ := id hc
    have hck := hO.c (k := i) (by omega)
    obtain ⟨hf, hf2, hf3, hf4, hfj, hfs, hfg⟩ := id hck
    have hhi := c_hit_b hck y
    refine r_iload (pc' := 19) dX11_dearest_17 rfl (.tail _ (.tail _ (.tail _ (.tail _ (.head _))))) ?_
    refine r_aload_n (i := 0) (pc' := 20) dX11_dearest_19 rfl rfl (.head _) ?_
    refine r_getR (pc' := 23) dX11_dearest_20 rfl fX11_10 rfl (by first | assumption | rfl) (by omega) (by assumption) ?_
    refine r_getI (pc' := 26) dX11_dearest_23 rfl fX11_153 rfl (by first | assumption | rfl) (by omega) ?_
    refine r_icmp_ge (t := 75) (f := 29) dX11_dearest_26 (by decide) rfl (by first | omega | assumption) (by first | omega | assumption) (fun h26 => ?_) (fun h26 => ?_)
    · exfalso; omega
    · refine r_aload_n (i := 0) (pc' := 30) dX11_dearest_29 rfl rfl (.head _) ?_
      refine r_getR (pc' := 33) dX11_dearest_30 rfl fX11_10 rfl (by first | assumption | rfl) (by omega) (by assumption) ?_
      refine r_getR (pc' := 36) dX11_dearest_33 rfl fX11_407 rfl (by first | assumption | rfl) (by omega) (by assumption) ?_
      refine r_iload (pc' := 38) dX11_dearest_36 rfl (.tail _ (.tail _ (.tail _ (.tail _ (.head _))))) ?_
      refine r_aaload (pc' := 39) (v := .ref (g.1 + con b i)) dX11_dearest_38 rfl (by first | assumption | rfl) (by decide) (by omega) (by omega) (by omega) (by first | decide | omega) (Int.toNat_natCast _) (hb.r (k := i) (by omega)) ?_
      refine r_astore (pc' := 41) dX11_dearest_39 rfl rfl (.s1 (.s1 (.s1 (.s1 (.s1 .nil rfl rfl rfl) rfl rfl rfl) rfl rfl rfl) rfl rfl rfl) rfl rfl rfl) ?_
      refine r_aload (pc' := 43) dX11_dearest_41 rfl (.tail _ (.tail _ (.tail _ (.tail _ (.tail _ (.head _)))))) ?_
      refine r_V0p (ci := 4) (pc' := 46) dX11_dearest_43 rfl lX11_192 rfl (by decide) (Nat.le_of_ble_eq_true rfl) (by first | assumption | rfl) (by omega) (tX4_isOpen (by assumption)) ?_
      refine r_bif_eq (t := 69) (f := 49) dX11_dearest_46 (by decide) rfl (fun h46 => ?_) (fun h46 => ?_)
      · have hcase : ¬ (xv X (con b i) 4 = 0 ∧ most < c_hit X (con b i) y) := by omega
        refine r_iinc (pc' := 72) dX11_dearest_69 rfl rfl (.tail _ (.tail _ (.tail _ (.tail _ (.head _))))) (.s1 (.s1 (.s1 (.s1 (.here (.s1 .nil rfl rfl rfl)) rfl rfl rfl) rfl rfl rfl) rfl rfl rfl) rfl rfl rfl) ?_
        refine r_goto (t := 17) dX11_dearest_72 (by decide) ?_
        refine r_sub (.kp (.kp (.kp (.kp (.kp (.dr .nil)))))) ?_
        refine ih (i + 1) _ _ (by omega) ?_
        rcases hd with ⟨h1, h2, h3⟩ | ⟨h1, h2, h3, h4, h5⟩
        · first
            | (left; refine ⟨h1, h2, fun j hj => ?_⟩; rcases Nat.lt_succ_iff_lt_or_eq.mp hj with hj | rfl; exact h3 j hj; omega)
            | (right; refine ⟨by omega, by omega, by rw [Int.toNat_natCast]; omega, by rw [Int.toNat_natCast], fun j hj ho => ?_⟩; rcases Nat.lt_succ_iff_lt_or_eq.mp hj with hj | rfl; exact absurd ho (h3 j hj); right; omega)
        · first
            | (right; refine ⟨h1, by omega, h3, h4, fun j hj ho => ?_⟩; rcases Nat.lt_succ_iff_lt_or_eq.mp hj with hj | rfl; exact h5 j hj ho; omega)
            | (right; refine ⟨by omega, by omega, by rw [Int.toNat_natCast]; omega, by rw [Int.toNat_natCast], fun j hj ho => ?_⟩; rcases Nat.lt_succ_iff_lt_or_eq.mp hj with hj | rfl; have := h5 j hj ho; left; omega; right; omega)
      · refine r_aload (pc' := 51) dX11_dearest_49 rfl (.tail _ (.tail _ (.tail _ (.tail _ (.tail _ (.head _)))))) ?_
        refine r_iload_n (i := 1) (pc' := 52) dX11_dearest_51 rfl rfl (.tail _ (.head _)) ?_
        refine r_V1p (ci := 4) (pc' := 55) dX11_dearest_52 rfl lX11_196 rfl (by decide) (Nat.le_of_ble_eq_true rfl) (by first | assumption | rfl) (by omega) (tX4_hit (by assumption) (by assumption) (by omega)) ?_
        refine r_iload_n (i := 3) (pc' := 56) dX11_dearest_55 rfl rfl (.tail _ (.tail _ (.tail _ (.head _)))) ?_
        refine r_icmp_le (t := 69) (f := 59) dX11_dearest_56 (by decide) rfl (by first | omega | assumption) (by first | omega | assumption) (fun h56 => ?_) (fun h56 => ?_)
        · have hcase : ¬ (xv X (con b i) 4 = 0 ∧ most < c_hit X (con b i) y) := by omega
          refine r_iinc (pc' := 72) dX11_dearest_69 rfl rfl (.tail _ (.tail _ (.tail _ (.tail _ (.head _))))) (.s1 (.s1 (.s1 (.s1 (.here (.s1 .nil rfl rfl rfl)) rfl rfl rfl) rfl rfl rfl) rfl rfl rfl) rfl rfl rfl) ?_
          refine r_goto (t := 17) dX11_dearest_72 (by decide) ?_
          refine r_sub (.kp (.kp (.kp (.kp (.kp (.dr .nil)))))) ?_
          refine ih (i + 1) _ _ (by omega) ?_
          rcases hd with ⟨h1, h2, h3⟩ | ⟨h1, h2, h3, h4, h5⟩
          · first
              | (left; refine ⟨h1, h2, fun j hj => ?_⟩; rcases Nat.lt_succ_iff_lt_or_eq.mp hj with hj | rfl; exact h3 j hj; omega)
              | (right; refine ⟨by omega, by omega, by rw [Int.toNat_natCast]; omega, by rw [Int.toNat_natCast], fun j hj ho => ?_⟩; rcases Nat.lt_succ_iff_lt_or_eq.mp hj with hj | rfl; exact absurd ho (h3 j hj); right; omega)
          · first
              | (right; refine ⟨h1, by omega, h3, h4, fun j hj ho => ?_⟩; rcases Nat.lt_succ_iff_lt_or_eq.mp hj with hj | rfl; exact h5 j hj ho; omega)
              | (right; refine ⟨by omega, by omega, by rw [Int.toNat_natCast]; omega, by rw [Int.toNat_natCast], fun j hj ho => ?_⟩; rcases Nat.lt_succ_iff_lt_or_eq.mp hj with hj | rfl; have := h5 j hj ho; left; omega; right; omega)
        · refine r_iload (pc' := 61) dX11_dearest_59 rfl (.tail _ (.tail _ (.tail _ (.tail _ (.head _))))) ?_
          refine r_istore_n (i := 2) (pc' := 62) dX11_dearest_61 rfl rfl rfl (.s1 (.s1 (.here (.s1 (.s1 (.s1 .nil rfl rfl rfl) rfl rfl rfl) rfl rfl rfl)) rfl rfl rfl) rfl rfl rfl) ?_
          refine r_aload (pc' := 64) dX11_dearest_62 rfl (.tail _ (.tail _ (.tail _ (.tail _ (.tail _ (.head _)))))) ?_
          refine r_iload_n (i := 1) (pc' := 65) dX11_dearest_64 rfl rfl (.tail _ (.head _)) ?_
          refine r_V1p (ci := 4) (pc' := 68) dX11_dearest_65 rfl lX11_196 rfl (by decide) (Nat.le_of_ble_eq_true rfl) (by first | assumption | rfl) (by omega) (tX4_hit (by assumption) (by assumption) (by omega)) ?_
          refine r_istore_n (i := 3) (pc' := 69) dX11_dearest_68 rfl rfl rfl (.s1 (.s1 (.s1 (.here (.s1 (.s1 .nil rfl rfl rfl) rfl rfl rfl)) rfl rfl rfl) rfl rfl rfl) rfl rfl rfl) ?_
          refine r_iinc (pc' := 72) dX11_dearest_69 rfl rfl (.tail _ (.tail _ (.tail _ (.tail _ (.head _))))) (.s1 (.s1 (.s1 (.s1 (.here (.s1 .nil rfl rfl rfl)) rfl rfl rfl) rfl rfl rfl) rfl rfl rfl) rfl rfl rfl) ?_
          refine r_goto (t := 17) dX11_dearest_72 (by decide) ?_
          refine r_sub (.kp (.kp (.kp (.kp (.kp (.dr .nil)))))) ?_
          refine ih (i + 1) _ _ (by omega) ?_
          rcases hd with ⟨h1, h2, h3⟩ | ⟨h1, h2, h3, h4, h5⟩
          · first
              | (left; refine ⟨h1, h2, fun j hj => ?_⟩; rcases Nat.lt_succ_iff_lt_or_eq.mp hj with hj | rfl; exact h3 j hj; omega)
              | (right; refine ⟨by omega, by omega, by rw [Int.toNat_natCast]; omega, by rw [Int.toNat_natCast], fun j hj ho => ?_⟩; rcases Nat.lt_succ_iff_lt_or_eq.mp hj with hj | rfl; exact absurd ho (h3 j hj); right; omega)
          · first
              | (right; refine ⟨h1, by omega, h3, h4, fun j hj ho => ?_⟩; rcases Nat.lt_succ_iff_lt_or_eq.mp hj with hj | rfl; exact h5 j hj ho; omega)
              | (right; refine ⟨by omega, by omega, by rw [Int.toNat_natCast]; omega, by rw [Int.toNat_natCast], fun j hj ho => ?_⟩; rcases Nat.lt_succ_iff_lt_or_eq.mp hj with hj | rfl; have := h5 j hj ho; left; omega; right; omega)
set_option maxHeartbeats 4000000 in
set_option maxRecDepth 100000 in
theorem tX11_dearest {l : Launch} {g : q_G} {n : Nat} {P : q_P} {X : q_X} {Y : q_Y} {b : Nat} (hF : isFace n P b) (hb : isBk n P b) (hO : bOk X b) {y : Int} (hy : q_in y) : q_Met l g mX11_dearest 3 [.ref (g.1 + 0), .int (zi y)] n P X Y (q_ip (fun r => if 0 ≤ y ∧ y < 20 then ∃ m, dr_P X b y (xv X b 10).toNat r m else r = -1) n P X Y) := by
  obtain ⟨f0, f2, f3, f4, f5, f6, f7, f8, hn0⟩ := id hF
  obtain ⟨b0, b1, b2, b3, q7, q8, q9, q11, q12, q13, hn, hpro, hmar, hfor, hcs⟩ := id hb
  obtain ⟨o0, o1, o2, o3, o4, o5, o6, o10, oc, op0, opz, opi, om0, omi, olim⟩ := id hO
  refine q_enter (L := [(0, .ref (g.1 + 0)), (1, .int (zi y))]) (by decide) (Nat.le_of_ble_eq_true rfl) rfl ?_
  refine r_iload_n (i := 1) (pc' := 1) dX11_dearest_0 rfl rfl (.tail _ (.head _)) ?_
  refine r_S1p (pc' := 4) dX11_dearest_1 rfl lX11_158 (by decide) (Nat.le_of_ble_eq_true rfl) (tX11_isYear (by first | omega | exact xv_in _ _ _)) ?_
  refine r_bif_ne (t := 9) (f := 7) dX11_dearest_4 (by decide) rfl (fun h4 => ?_) (fun h4 => ?_)
  · refine r_bipush (pc' := 11) dX11_dearest_9 rfl (by decide) ?_
    refine r_istore_n (i := 2) (pc' := 12) dX11_dearest_11 rfl rfl rfl (.s1 (.s1 .nil rfl rfl rfl) rfl rfl rfl) ?_
    refine r_iconst (pc' := 13) dX11_dearest_12 rfl ?_
    refine r_istore_n (i := 3) (pc' := 14) dX11_dearest_13 rfl rfl rfl (.s1 (.s1 (.s1 .nil rfl rfl rfl) rfl rfl rfl) rfl rfl rfl) ?_
    refine r_iconst (pc' := 15) dX11_dearest_14 rfl ?_
    refine r_istore (pc' := 17) dX11_dearest_15 rfl rfl (.s1 (.s1 (.s1 (.s1 .nil rfl rfl rfl) rfl rfl rfl) rfl rfl rfl) rfl rfl rfl) ?_
    simp only [if_pos (show 0 ≤ y ∧ y < 20 by omega)]
    exact lX11_dearest hF hb hO (by omega) (xv X b 10).toNat 0 _ _ (by omega) (.inl ⟨rfl, rfl, fun i hi => by omega⟩)
  · refine r_iconst (pc' := 8) dX11_dearest_7 rfl ?_
    refine r_ireturn dX11_dearest_8 rfl ?_
    exact ⟨_, rfl, rfl, rfl, rfl, rfl, by show if _ then _ else _; rw [if_neg (by omega)]⟩
