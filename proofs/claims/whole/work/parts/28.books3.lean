theorem isBk.mar {n : Nat} {P : q_P} {b : Nat} (h : isMar n P (b + 10)) : q_sh (b + 10) = (7, 5) ∧ q_sh (b + 11) = (20, 12) ∧ q_sh (b + 12) = (20, 12) ∧ q_sh (b + 13) = (20, 12) ∧ q_sh (b + 14) = (20, 12) ∧ P (b + 10) 1 = some (b + 11) ∧ P (b + 10) 2 = some (b + 12) ∧ P (b + 10) 3 = some (b + 13) ∧ P (b + 10) 4 = some (b + 14) ∧ b + 15 ≤ n := h
theorem isBk.pro {n : Nat} {P : q_P} {b : Nat} (h : isPro n P (b + 4)) : q_sh (b + 4) = (8, 6) ∧ q_sh (b + 5) = (20, 24) ∧ q_sh (b + 6) = (20, 24) ∧ q_sh (b + 7) = (20, 24) ∧ q_sh (b + 8) = (22, 24) ∧ q_sh (b + 9) = (22, 24) ∧ P (b + 4) 1 = some (b + 5) ∧ P (b + 4) 2 = some (b + 6) ∧ P (b + 4) 3 = some (b + 7) ∧ P (b + 4) 4 = some (b + 8) ∧ P (b + 4) 5 = some (b + 9) ∧ b + 10 ≤ n := h
theorem isBk.frm {n : Nat} {P : q_P} {b : Nat} (h : isFor n P (b + 15)) : q_sh (b + 15) = (5, 6) ∧ q_sh (b + 16) = (20, 80) ∧ q_sh (b + 17) = (20, 21) ∧ q_sh (b + 18) = (20, 6) ∧ q_sh (b + 19) = (21, 21) ∧ P (b + 15) 1 = some (b + 16) ∧ P (b + 15) 2 = some (b + 17) ∧ P (b + 15) 4 = some (b + 18) ∧ P (b + 15) 5 = some (b + 19) ∧ b + 20 ≤ n := h
set_option maxHeartbeats 4000000 in
set_option maxRecDepth 100000 in
theorem tX8_has {l : Launch} {g : q_G} {n : Nat} {P : q_P} {X : q_X} {Y : q_Y} {o : Nat} {i : Int} (hp : isPro n P o) (hi : q_in i) : q_Met l g mX8_has 0 [.ref (g.1 + o), .int (zi i)] n P X Y (q_pv (.int (zi (if 0 ≤ i ∧ i < xv X o 0 then 1 else 0))) n P X Y) := by
  obtain ⟨a0, a1, a2, a3, a4, a5, u1, u2, u3, u4, u5, hnp⟩ := id hp
  refine q_enter (L := [(0, .ref (g.1 + o)), (1, .int (zi i))]) (by decide) (Nat.le_of_ble_eq_true rfl) rfl ?_
  refine r_iload_n (i := 1) (pc' := 1) dX8_has_0 rfl rfl (.tail _ (.head _)) ?_
  refine r_if_lt (t := 16) (f := 4) dX8_has_1 (by decide) rfl (by first | omega | exact xv_in _ _ _) (fun h1 => ?_) (fun h1 => ?_)
  · refine r_iconst (pc' := 17) dX8_has_16 rfl ?_
    refine r_zreturn dX8_has_17 rfl (by decide) ?_
    refine ⟨?_, rfl, rfl, rfl, rfl⟩
    (repeat' split) <;> first | rfl | (exfalso; omega) | (congr 3; omega)
  · refine r_iload_n (i := 1) (pc' := 5) dX8_has_4 rfl rfl (.tail _ (.head _)) ?_
    refine r_aload_n (i := 0) (pc' := 6) dX8_has_5 rfl rfl (.head _) ?_
    refine r_getI (pc' := 9) dX8_has_6 rfl fX8_28 rfl (by first | assumption | rfl) (by omega) ?_
    refine r_icmp_ge (t := 16) (f := 12) dX8_has_9 (by decide) rfl (by first | omega | exact xv_in _ _ _) (by first | omega | exact xv_in _ _ _) (fun h9 => ?_) (fun h9 => ?_)
    · refine r_iconst (pc' := 17) dX8_has_16 rfl ?_
      refine r_zreturn dX8_has_17 rfl (by decide) ?_
      refine ⟨?_, rfl, rfl, rfl, rfl⟩
      (repeat' split) <;> first | rfl | (exfalso; omega) | (congr 3; omega)
    · refine r_iconst (pc' := 13) dX8_has_12 rfl ?_
      refine r_goto (t := 17) dX8_has_13 (by decide) ?_
      refine r_zreturn dX8_has_17 rfl (by decide) ?_
      refine ⟨?_, rfl, rfl, rfl, rfl⟩
      (repeat' split) <;> first | rfl | (exfalso; omega) | (congr 3; omega)
set_option maxHeartbeats 4000000 in
set_option maxRecDepth 100000 in
theorem tX8_isFull {l : Launch} {g : q_G} {n : Nat} {P : q_P} {X : q_X} {Y : q_Y} {o : Nat} (hp : isPro n P o) : q_Met l g mX8_isFull 0 [.ref (g.1 + o)] n P X Y (q_pv (.int (zi (if 24 ≤ xv X o 0 then 1 else 0))) n P X Y) := by
  obtain ⟨a0, a1, a2, a3, a4, a5, u1, u2, u3, u4, u5, hnp⟩ := id hp
  refine q_enter (L := [(0, .ref (g.1 + o))]) (by decide) (Nat.le_of_ble_eq_true rfl) rfl ?_
  refine r_aload_n (i := 0) (pc' := 1) dX8_isFull_0 rfl rfl (.head _) ?_
  refine r_getI (pc' := 4) dX8_isFull_1 rfl fX8_28 rfl (by first | assumption | rfl) (by omega) ?_
  refine r_bipush (pc' := 6) dX8_isFull_4 rfl (by decide) ?_
  refine r_icmp_lt (t := 13) (f := 9) dX8_isFull_6 (by decide) rfl (by first | omega | exact xv_in _ _ _) (by first | omega | exact xv_in _ _ _) (fun h6 => ?_) (fun h6 => ?_)
  · refine r_iconst (pc' := 14) dX8_isFull_13 rfl ?_
    refine r_zreturn dX8_isFull_14 rfl (by decide) ?_
    refine ⟨?_, rfl, rfl, rfl, rfl⟩
    (repeat' split) <;> first | rfl | (exfalso; omega) | (congr 3; omega)
  · refine r_iconst (pc' := 10) dX8_isFull_9 rfl ?_
    refine r_goto (t := 14) dX8_isFull_10 (by decide) ?_
    refine r_zreturn dX8_isFull_14 rfl (by decide) ?_
    refine ⟨?_, rfl, rfl, rfl, rfl⟩
    (repeat' split) <;> first | rfl | (exfalso; omega) | (congr 3; omega)
set_option maxHeartbeats 4000000 in
set_option maxRecDepth 100000 in
theorem tX7_has {l : Launch} {g : q_G} {n : Nat} {P : q_P} {X : q_X} {Y : q_Y} {o : Nat} {i : Int} (hm : isMar n P o) (hi : q_in i) : q_Met l g mX7_has 0 [.ref (g.1 + o), .int (zi i)] n P X Y (q_pv (.int (zi (if 0 ≤ i ∧ i < xv X o 0 then 1 else 0))) n P X Y) := by
  obtain ⟨a0, a1, a2, a3, a4, u1, u2, u3, u4, hnm⟩ := id hm
  refine q_enter (L := [(0, .ref (g.1 + o)), (1, .int (zi i))]) (by decide) (Nat.le_of_ble_eq_true rfl) rfl ?_
  refine r_iload_n (i := 1) (pc' := 1) dX7_has_0 rfl rfl (.tail _ (.head _)) ?_
  refine r_if_lt (t := 16) (f := 4) dX7_has_1 (by decide) rfl (by first | omega | exact xv_in _ _ _) (fun h1 => ?_) (fun h1 => ?_)
  · refine r_iconst (pc' := 17) dX7_has_16 rfl ?_
    refine r_zreturn dX7_has_17 rfl (by decide) ?_
    refine ⟨?_, rfl, rfl, rfl, rfl⟩
    (repeat' split) <;> first | rfl | (exfalso; omega) | (congr 3; omega)
  · refine r_iload_n (i := 1) (pc' := 5) dX7_has_4 rfl rfl (.tail _ (.head _)) ?_
    refine r_aload_n (i := 0) (pc' := 6) dX7_has_5 rfl rfl (.head _) ?_
    refine r_getI (pc' := 9) dX7_has_6 rfl fX7_24 rfl (by first | assumption | rfl) (by omega) ?_
    refine r_icmp_ge (t := 16) (f := 12) dX7_has_9 (by decide) rfl (by first | omega | exact xv_in _ _ _) (by first | omega | exact xv_in _ _ _) (fun h9 => ?_) (fun h9 => ?_)
    · refine r_iconst (pc' := 17) dX7_has_16 rfl ?_
      refine r_zreturn dX7_has_17 rfl (by decide) ?_
      refine ⟨?_, rfl, rfl, rfl, rfl⟩
      (repeat' split) <;> first | rfl | (exfalso; omega) | (congr 3; omega)
    · refine r_iconst (pc' := 13) dX7_has_12 rfl ?_
      refine r_goto (t := 17) dX7_has_13 (by decide) ?_
      refine r_zreturn dX7_has_17 rfl (by decide) ?_
      refine ⟨?_, rfl, rfl, rfl, rfl⟩
      (repeat' split) <;> first | rfl | (exfalso; omega) | (congr 3; omega)
set_option maxHeartbeats 4000000 in
set_option maxRecDepth 100000 in
theorem tX7_hit {l : Launch} {g : q_G} {n : Nat} {P : q_P} {X : q_X} {Y : q_Y} {o i : Nat} (hm : isMar n P o) (hi : i < 12) : q_Met l g mX7_hit 2 [.ref (g.1 + o), .int (zi (i : Int))] n P X Y (q_pv (.int (zi (c_piece (xv X (o + 3) i) (xv X (o + 2) i) 0 + xv X (o + 4) i))) n P X Y) := by
  obtain ⟨a0, a1, a2, a3, a4, u1, u2, u3, u4, hnm⟩ := id hm
  refine q_enter (L := [(0, .ref (g.1 + o)), (1, .int (zi (i : Int)))]) (by decide) (Nat.le_of_ble_eq_true rfl) rfl ?_
  refine r_aload_n (i := 0) (pc' := 1) dX7_hit_0 rfl rfl (.head _) ?_
  refine r_getR (pc' := 4) dX7_hit_1 rfl fX7_18 rfl (by first | assumption | rfl) (by omega) (by assumption) ?_
  refine r_iload_n (i := 1) (pc' := 5) dX7_hit_4 rfl rfl (.tail _ (.head _)) ?_
  refine r_iaload (pc' := 6) dX7_hit_5 rfl (by first | assumption | rfl) (by omega) (by omega) (by omega) (by first | decide | omega) (Int.toNat_natCast _) ?_
  refine r_aload_n (i := 0) (pc' := 7) dX7_hit_6 rfl rfl (.head _) ?_
  refine r_getR (pc' := 10) dX7_hit_7 rfl fX7_15 rfl (by first | assumption | rfl) (by omega) (by assumption) ?_
  refine r_iload_n (i := 1) (pc' := 11) dX7_hit_10 rfl rfl (.tail _ (.head _)) ?_
  refine r_iaload (pc' := 12) dX7_hit_11 rfl (by first | assumption | rfl) (by omega) (by omega) (by omega) (by first | decide | omega) (Int.toNat_natCast _) ?_
  refine r_iconst (pc' := 13) dX7_hit_12 rfl ?_
  refine r_S3p (pc' := 16) dX7_hit_13 rfl lX7_34 (by decide) (Nat.le_of_ble_eq_true rfl) (tX4_partOfMany (xv_in _ _ _) (xv_in _ _ _) (by omega)) ?_
  refine r_aload_n (i := 0) (pc' := 17) dX7_hit_16 rfl rfl (.head _) ?_
  refine r_getR (pc' := 20) dX7_hit_17 rfl fX7_21 rfl (by first | assumption | rfl) (by omega) (by assumption) ?_
  refine r_iload_n (i := 1) (pc' := 21) dX7_hit_20 rfl rfl (.tail _ (.head _)) ?_
  refine r_iaload (pc' := 22) dX7_hit_21 rfl (by first | assumption | rfl) (by omega) (by omega) (by omega) (by first | decide | omega) (Int.toNat_natCast _) ?_
  refine r_iadd (pc' := 23) dX7_hit_22 rfl ?_
  refine r_ireturn dX7_hit_23 rfl ?_
  refine ⟨?_, rfl, rfl, rfl, rfl⟩
  (repeat' split) <;> first | rfl | (exfalso; omega) | (congr 3; omega)
set_option maxHeartbeats 4000000 in
set_option maxRecDepth 100000 in
theorem lX8_likelyOf {l : Launch} {g : q_G} {n : Nat} {P : q_P} {X : q_X} {Y : q_Y} {o : Nat} {k y : Int} (hp : isPro n P o) (hs : 0 ≤ xv X o 0 ∧ xv X o 0 ≤ 24) (hk : q_in k) (hy : q_in y) {r : Int} : ∀ (w i : Nat) (s : Int), i + w = (xv X o 0).toNat → s + q_sum (fun i => if ¬ xv X (o + 4) i = 0 ∧ xv X (o + 1) i = k ∧ xv X (o + 2) i = y then xv X (o + 3) i else 0) i w = r → q_Tr l g mX8_likelyOf 0 (q_pv (.int (zi r)) n P X Y) 5 [(0, .ref (g.1 + o)), (1, .int (zi k)), (2, .int (zi y)), (3, .int (zi s)), (4, .int (zi (i : Int)))] [] n P X Y := by
  obtain ⟨a0, a1, a2, a3, a4, a5, u1, u2, u3, u4, u5, hnp⟩ := id hp
  intro w
  induction w with
  | zero =>
    intro i s hk hr
    refine r_iload (pc' := 7) dX8_likelyOf_5 rfl (.tail _ (.tail _ (.tail _ (.tail _ (.head _))))) ?_
    refine r_aload_n (i := 0) (pc' := 8) dX8_likelyOf_7 rfl rfl (.head _) ?_
    refine r_getI (pc' := 11) dX8_likelyOf_8 rfl fX8_28 rfl (by first | assumption | rfl) (by omega) ?_
    refine r_icmp_ge (t := 62) (f := 14) dX8_likelyOf_11 (by decide) rfl (by first | omega | exact xv_in _ _ _) (by first | omega | exact xv_in _ _ _) (fun h11 => ?_) (fun h11 => ?_)
    · refine r_iload_n (i := 3) (pc' := 63) dX8_likelyOf_62 rfl rfl (.tail _ (.tail _ (.tail _ (.head _)))) ?_
      refine r_ireturn dX8_likelyOf_63 rfl ?_
      refine ⟨?_, rfl, rfl, rfl, rfl⟩
      rw [← hr]; simp [q_sum]
    · exfalso; omega
  | succ w ih =>
    intro i s hk hr
    refine r_iload (pc' := 7) dX8_likelyOf_5 rfl (.tail _ (.tail _ (.tail _ (.tail _ (.head _))))) ?_
    refine r_aload_n (i := 0) (pc' := 8) dX8_likelyOf_7 rfl rfl (.head _) ?_
    refine r_getI (pc' := 11) dX8_likelyOf_8 rfl fX8_28 rfl (by first | assumption | rfl) (by omega) ?_
    refine r_icmp_ge (t := 62) (f := 14) dX8_likelyOf_11 (by decide) rfl (by first | omega | exact xv_in _ _ _) (by first | omega | exact xv_in _ _ _) (fun h11 => ?_) (fun h11 => ?_)
    · exfalso; omega
    · refine r_aload_n (i := 0) (pc' := 15) dX8_likelyOf_14 rfl rfl (.head _) ?_
      refine r_getR (pc' := 18) dX8_likelyOf_15 rfl fX8_21 rfl (by first | assumption | rfl) (by omega) (by assumption) ?_
      refine r_iload (pc' := 20) dX8_likelyOf_18 rfl (.tail _ (.tail _ (.tail _ (.tail _ (.head _))))) ?_
      refine r_zaload (pc' := 21) dX8_likelyOf_20 rfl (by first | assumption | rfl) (by omega) (by omega) (by omega) (by first | decide | omega) (Int.toNat_natCast _) ?_
      refine r_if_eq (t := 56) (f := 24) dX8_likelyOf_21 (by decide) rfl (by first | omega | exact xv_in _ _ _) (fun h21 => ?_) (fun h21 => ?_)
      · refine r_iinc (pc' := 59) dX8_likelyOf_56 rfl rfl (.tail _ (.tail _ (.tail _ (.tail _ (.head _))))) (.s1 (.s1 (.s1 (.s1 (.here .nil) rfl rfl rfl) rfl rfl rfl) rfl rfl rfl) rfl rfl rfl) ?_
        refine r_goto (t := 5) dX8_likelyOf_59 (by decide) ?_
        refine ih (i + 1) _ (by omega) ?_
        rw [← hr, q_sum]
        try dsimp only
        first | (rw [if_pos (by omega)]; omega) | (rw [if_neg (by omega)]; omega)
      · refine r_aload_n (i := 0) (pc' := 25) dX8_likelyOf_24 rfl rfl (.head _) ?_
        refine r_getR (pc' := 28) dX8_likelyOf_25 rfl fX8_11 rfl (by first | assumption | rfl) (by omega) (by assumption) ?_
        refine r_iload (pc' := 30) dX8_likelyOf_28 rfl (.tail _ (.tail _ (.tail _ (.tail _ (.head _))))) ?_
        refine r_iaload (pc' := 31) dX8_likelyOf_30 rfl (by first | assumption | rfl) (by omega) (by omega) (by omega) (by first | decide | omega) (Int.toNat_natCast _) ?_
        refine r_iload_n (i := 1) (pc' := 32) dX8_likelyOf_31 rfl rfl (.tail _ (.head _)) ?_
        refine r_icmp_ne (t := 56) (f := 35) dX8_likelyOf_32 (by decide) rfl (by first | omega | exact xv_in _ _ _) (by first | omega | exact xv_in _ _ _) (fun h32 => ?_) (fun h32 => ?_)
        · refine r_iinc (pc' := 59) dX8_likelyOf_56 rfl rfl (.tail _ (.tail _ (.tail _ (.tail _ (.head _))))) (.s1 (.s1 (.s1 (.s1 (.here .nil) rfl rfl rfl) rfl rfl rfl) rfl rfl rfl) rfl rfl rfl) ?_
          refine r_goto (t := 5) dX8_likelyOf_59 (by decide) ?_
          refine ih (i + 1) _ (by omega) ?_
          rw [← hr, q_sum]
          try dsimp only
          first | (rw [if_pos (by omega)]; omega) | (rw [if_neg (by omega)]; omega)
        · refine r_aload_n (i := 0) (pc' := 36) dX8_likelyOf_35 rfl rfl (.head _) ?_
          refine r_getR (pc' := 39) dX8_likelyOf_36 rfl fX8_15 rfl (by first | assumption | rfl) (by omega) (by assumption) ?_
          refine r_iload (pc' := 41) dX8_likelyOf_39 rfl (.tail _ (.tail _ (.tail _ (.tail _ (.head _))))) ?_
          refine r_iaload (pc' := 42) dX8_likelyOf_41 rfl (by first | assumption | rfl) (by omega) (by omega) (by omega) (by first | decide | omega) (Int.toNat_natCast _) ?_
          refine r_iload_n (i := 2) (pc' := 43) dX8_likelyOf_42 rfl rfl (.tail _ (.tail _ (.head _))) ?_
          refine r_icmp_ne (t := 56) (f := 46) dX8_likelyOf_43 (by decide) rfl (by first | omega | exact xv_in _ _ _) (by first | omega | exact xv_in _ _ _) (fun h43 => ?_) (fun h43 => ?_)
          · refine r_iinc (pc' := 59) dX8_likelyOf_56 rfl rfl (.tail _ (.tail _ (.tail _ (.tail _ (.head _))))) (.s1 (.s1 (.s1 (.s1 (.here .nil) rfl rfl rfl) rfl rfl rfl) rfl rfl rfl) rfl rfl rfl) ?_
            refine r_goto (t := 5) dX8_likelyOf_59 (by decide) ?_
            refine ih (i + 1) _ (by omega) ?_
            rw [← hr, q_sum]
            try dsimp only
            first | (rw [if_pos (by omega)]; omega) | (rw [if_neg (by omega)]; omega)
          · refine r_iload_n (i := 3) (pc' := 47) dX8_likelyOf_46 rfl rfl (.tail _ (.tail _ (.tail _ (.head _)))) ?_
            refine r_aload_n (i := 0) (pc' := 48) dX8_likelyOf_47 rfl rfl (.head _) ?_
            refine r_getR (pc' := 51) dX8_likelyOf_48 rfl fX8_18 rfl (by first | assumption | rfl) (by omega) (by assumption) ?_
            refine r_iload (pc' := 53) dX8_likelyOf_51 rfl (.tail _ (.tail _ (.tail _ (.tail _ (.head _))))) ?_
            refine r_iaload (pc' := 54) dX8_likelyOf_53 rfl (by first | assumption | rfl) (by omega) (by omega) (by omega) (by first | decide | omega) (Int.toNat_natCast _) ?_
            refine r_iadd (pc' := 55) dX8_likelyOf_54 rfl ?_
            refine r_istore_n (i := 3) (pc' := 56) dX8_likelyOf_55 rfl rfl rfl (.s1 (.s1 (.s1 (.here (.s1 .nil rfl rfl rfl)) rfl rfl rfl) rfl rfl rfl) rfl rfl rfl) ?_
            refine r_iinc (pc' := 59) dX8_likelyOf_56 rfl rfl (.tail _ (.tail _ (.tail _ (.tail _ (.head _))))) (.s1 (.s1 (.s1 (.s1 (.here .nil) rfl rfl rfl) rfl rfl rfl) rfl rfl rfl) rfl rfl rfl) ?_
            refine r_goto (t := 5) dX8_likelyOf_59 (by decide) ?_
            refine ih (i + 1) _ (by omega) ?_
            rw [← hr, q_sum]
            try dsimp only
            first | (rw [if_pos (by omega)]; omega) | (rw [if_neg (by omega)]; omega)
set_option maxHeartbeats 4000000 in
set_option maxRecDepth 100000 in
theorem tX8_likelyOf {l : Launch} {g : q_G} {n : Nat} {P : q_P} {X : q_X} {Y : q_Y} {o : Nat} {k y : Int} (hp : isPro n P o) (hs : 0 ≤ xv X o 0 ∧ xv X o 0 ≤ 24) (hk : q_in k) (hy : q_in y) : q_Met l g mX8_likelyOf 0 [.ref (g.1 + o), .int (zi k), .int (zi y)] n P X Y (q_pv (.int (zi (q_sum (fun i => if ¬ xv X (o + 4) i = 0 ∧ xv X (o + 1) i = k ∧ xv X (o + 2) i = y then xv X (o + 3) i else 0) 0 ((xv X o 0).toNat)))) n P X Y) := by
  obtain ⟨a0, a1, a2, a3, a4, a5, u1, u2, u3, u4, u5, hnp⟩ := id hp
  refine q_enter (L := [(0, .ref (g.1 + o)), (1, .int (zi k)), (2, .int (zi y))]) (by decide) (Nat.le_of_ble_eq_true rfl) rfl ?_
  refine r_iconst (pc' := 1) dX8_likelyOf_0 rfl ?_
  refine r_istore_n (i := 3) (pc' := 2) dX8_likelyOf_1 rfl rfl rfl (.s1 (.s1 (.s1 .nil rfl rfl rfl) rfl rfl rfl) rfl rfl rfl) ?_
  refine r_iconst (pc' := 3) dX8_likelyOf_2 rfl ?_
  refine r_istore (pc' := 5) dX8_likelyOf_3 rfl rfl (.s1 (.s1 (.s1 (.s1 .nil rfl rfl rfl) rfl rfl rfl) rfl rfl rfl) rfl rfl rfl) ?_
  exact lX8_likelyOf hp hs hk hy ((xv X o 0).toNat) 0 _ (by omega) (Int.zero_add _)
set_option maxHeartbeats 4000000 in
set_option maxRecDepth 100000 in
theorem tX8_settled {l : Launch} {g : q_G} {n : Nat} {P : q_P} {X : q_X} {Y : q_Y} {o i : Nat} (hp : isPro n P o) (hi : i < 24) : q_Met l g mX8_settled 0 [.ref (g.1 + o), .int (zi (i : Int))] n P X Y (q_pv (.int (zi (if xv X (o + 4) i = xv X (o + 5) i then 0 else if xv X (o + 4) i = 0 then - xv X (o + 3) i else xv X (o + 3) i))) n P X Y) := by
  obtain ⟨a0, a1, a2, a3, a4, a5, u1, u2, u3, u4, u5, hnp⟩ := id hp
  refine q_enter (L := [(0, .ref (g.1 + o)), (1, .int (zi (i : Int)))]) (by decide) (Nat.le_of_ble_eq_true rfl) rfl ?_
  refine r_aload_n (i := 0) (pc' := 1) dX8_settled_0 rfl rfl (.head _) ?_
  refine r_getR (pc' := 4) dX8_settled_1 rfl fX8_21 rfl (by first | assumption | rfl) (by omega) (by assumption) ?_
  refine r_iload_n (i := 1) (pc' := 5) dX8_settled_4 rfl rfl (.tail _ (.head _)) ?_
  refine r_zaload (pc' := 6) dX8_settled_5 rfl (by first | assumption | rfl) (by omega) (by omega) (by omega) (by first | decide | omega) (Int.toNat_natCast _) ?_
  refine r_aload_n (i := 0) (pc' := 7) dX8_settled_6 rfl rfl (.head _) ?_
  refine r_getR (pc' := 10) dX8_settled_7 rfl fX8_25 rfl (by first | assumption | rfl) (by omega) (by assumption) ?_
  refine r_iload_n (i := 1) (pc' := 11) dX8_settled_10 rfl rfl (.tail _ (.head _)) ?_
  refine r_zaload (pc' := 12) dX8_settled_11 rfl (by first | assumption | rfl) (by omega) (by omega) (by omega) (by first | decide | omega) (Int.toNat_natCast _) ?_
  refine r_icmp_ne (t := 17) (f := 15) dX8_settled_12 (by decide) rfl (by first | omega | exact xv_in _ _ _) (by first | omega | exact xv_in _ _ _) (fun h12 => ?_) (fun h12 => ?_)
  · refine r_aload_n (i := 0) (pc' := 18) dX8_settled_17 rfl rfl (.head _) ?_
    refine r_getR (pc' := 21) dX8_settled_18 rfl fX8_21 rfl (by first | assumption | rfl) (by omega) (by assumption) ?_
    refine r_iload_n (i := 1) (pc' := 22) dX8_settled_21 rfl rfl (.tail _ (.head _)) ?_
    refine r_zaload (pc' := 23) dX8_settled_22 rfl (by first | assumption | rfl) (by omega) (by omega) (by omega) (by first | decide | omega) (Int.toNat_natCast _) ?_
    refine r_if_eq (t := 35) (f := 26) dX8_settled_23 (by decide) rfl (by first | omega | exact xv_in _ _ _) (fun h23 => ?_) (fun h23 => ?_)
    · refine r_aload_n (i := 0) (pc' := 36) dX8_settled_35 rfl rfl (.head _) ?_
      refine r_getR (pc' := 39) dX8_settled_36 rfl fX8_18 rfl (by first | assumption | rfl) (by omega) (by assumption) ?_
      refine r_iload_n (i := 1) (pc' := 40) dX8_settled_39 rfl rfl (.tail _ (.head _)) ?_
      refine r_iaload (pc' := 41) dX8_settled_40 rfl (by first | assumption | rfl) (by omega) (by omega) (by omega) (by first | decide | omega) (Int.toNat_natCast _) ?_
      refine r_ineg (pc' := 42) dX8_settled_41 rfl ?_
      refine r_ireturn dX8_settled_42 rfl ?_
      refine ⟨?_, rfl, rfl, rfl, rfl⟩
      (repeat' split) <;> first | rfl | (exfalso; omega) | (congr 3; omega)
    · refine r_aload_n (i := 0) (pc' := 27) dX8_settled_26 rfl rfl (.head _) ?_
      refine r_getR (pc' := 30) dX8_settled_27 rfl fX8_18 rfl (by first | assumption | rfl) (by omega) (by assumption) ?_
      refine r_iload_n (i := 1) (pc' := 31) dX8_settled_30 rfl rfl (.tail _ (.head _)) ?_
      refine r_iaload (pc' := 32) dX8_settled_31 rfl (by first | assumption | rfl) (by omega) (by omega) (by omega) (by first | decide | omega) (Int.toNat_natCast _) ?_
      refine r_goto (t := 42) dX8_settled_32 (by decide) ?_
      refine r_ireturn dX8_settled_42 rfl ?_
      refine ⟨?_, rfl, rfl, rfl, rfl⟩
      (repeat' split) <;> first | rfl | (exfalso; omega) | (congr 3; omega)
  · refine r_iconst (pc' := 16) dX8_settled_15 rfl ?_
    refine r_ireturn dX8_settled_16 rfl ?_
    refine ⟨?_, rfl, rfl, rfl, rfl⟩
    (repeat' split) <;> first | rfl | (exfalso; omega) | (congr 3; omega)
def pr_add (X : q_X) (o : Nat) (k y a l : Int) : q_X := q_up (q_up (q_up (q_up (q_up (q_up X (o + 1) (xv X o 0).toNat (zi k)) (o + 2) (xv X o 0).toNat (zi y)) (o + 3) (xv X o 0).toNat (zi a)) (o + 4) (xv X o 0).toNat (zi l)) (o + 5) (xv X o 0).toNat (zi 0)) o 0 (zi (xv X o 0 + 1))
set_option maxHeartbeats 4000000 in
set_option maxRecDepth 100000 in
theorem tX8_add {l : Launch} {g : q_G} {n : Nat} {P : q_P} {X : q_X} {Y : q_Y} {o : Nat} {k y a lk : Int} (hp : isPro n P o) (hs : 0 ≤ xv X o 0 ∧ xv X o 0 < 24) (hl : lk = 0 ∨ lk = 1) : q_Met l g mX8_add 1 [.ref (g.1 + o), .int (zi k), .int (zi y), .int (zi a), .int (zi lk)] n P X Y (q_gi (fun r' n' P' X' Y' => n' = n ∧ P' = P ∧ Y' = Y ∧ X' = pr_add X o k y a lk ∧ r' = xv X o 0)) := by
  obtain ⟨a0, a1, a2, a3, a4, a5, u1, u2, u3, u4, u5, hnp⟩ := id hp
  refine q_enter (L := [(0, .ref (g.1 + o)), (1, .int (zi k)), (2, .int (zi y)), (3, .int (zi a)), (4, .int (zi lk))]) (by decide) (Nat.le_of_ble_eq_true rfl) rfl ?_
  refine r_aload_n (i := 0) (pc' := 1) dX8_add_0 rfl rfl (.head _) ?_
  refine r_V0p (ci := 8) (pc' := 4) dX8_add_1 rfl lX8_38 rfl (by decide) (Nat.le_of_ble_eq_true rfl) (by first | assumption | rfl) (by omega) (tX8_isFull (by assumption)) ?_
  refine r_bif_eq (t := 9) (f := 7) dX8_add_4 (by decide) rfl (fun h4 => ?_) (fun h4 => ?_)
  · refine r_aload_n (i := 0) (pc' := 10) dX8_add_9 rfl rfl (.head _) ?_
    refine r_getR (pc' := 13) dX8_add_10 rfl fX8_11 rfl (by first | assumption | rfl) (by omega) (by assumption) ?_
    refine r_aload_n (i := 0) (pc' := 14) dX8_add_13 rfl rfl (.head _) ?_
    refine r_getI (pc' := 17) dX8_add_14 rfl fX8_28 rfl (by first | assumption | rfl) (by omega) ?_
    refine r_iload_n (i := 1) (pc' := 18) dX8_add_17 rfl rfl (.tail _ (.head _)) ?_
    refine r_iastore (pc' := 19) dX8_add_18 rfl (by first | assumption | rfl) (by omega) (by omega) (by omega) (by first | decide | omega) rfl ?_
    refine r_aload_n (i := 0) (pc' := 20) dX8_add_19 rfl rfl (.head _) ?_
    refine r_getR (pc' := 23) dX8_add_20 rfl fX8_15 rfl (by first | assumption | rfl) (by omega) (by assumption) ?_
    refine r_aload_n (i := 0) (pc' := 24) dX8_add_23 rfl rfl (.head _) ?_
    refine r_getI (pc' := 27) dX8_add_24 rfl fX8_28 rfl (by first | assumption | rfl) (by omega) ?_
    simp (disch := omega) only [xv_up_ne]
    refine r_iload_n (i := 2) (pc' := 28) dX8_add_27 rfl rfl (.tail _ (.tail _ (.head _))) ?_
    refine r_iastore (pc' := 29) dX8_add_28 rfl (by first | assumption | rfl) (by omega) (by omega) (by omega) (by first | decide | omega) rfl ?_
    refine r_aload_n (i := 0) (pc' := 30) dX8_add_29 rfl rfl (.head _) ?_
    refine r_getR (pc' := 33) dX8_add_30 rfl fX8_18 rfl (by first | assumption | rfl) (by omega) (by assumption) ?_
    refine r_aload_n (i := 0) (pc' := 34) dX8_add_33 rfl rfl (.head _) ?_
    refine r_getI (pc' := 37) dX8_add_34 rfl fX8_28 rfl (by first | assumption | rfl) (by omega) ?_
    simp (disch := omega) only [xv_up_ne]
    refine r_iload_n (i := 3) (pc' := 38) dX8_add_37 rfl rfl (.tail _ (.tail _ (.tail _ (.head _)))) ?_
    refine r_iastore (pc' := 39) dX8_add_38 rfl (by first | assumption | rfl) (by omega) (by omega) (by omega) (by first | decide | omega) rfl ?_
    refine r_aload_n (i := 0) (pc' := 40) dX8_add_39 rfl rfl (.head _) ?_
    refine r_getR (pc' := 43) dX8_add_40 rfl fX8_21 rfl (by first | assumption | rfl) (by omega) (by assumption) ?_
    refine r_aload_n (i := 0) (pc' := 44) dX8_add_43 rfl rfl (.head _) ?_
    refine r_getI (pc' := 47) dX8_add_44 rfl fX8_28 rfl (by first | assumption | rfl) (by omega) ?_
    simp (disch := omega) only [xv_up_ne]
    refine r_iload (pc' := 49) dX8_add_47 rfl (.tail _ (.tail _ (.tail _ (.tail _ (.head _))))) ?_
    refine r_zastore (pc' := 50) dX8_add_49 rfl (by first | assumption | rfl) (by omega) (by omega) (by omega) (by first | decide | omega) rfl (by omega) ?_
    refine r_aload_n (i := 0) (pc' := 51) dX8_add_50 rfl rfl (.head _) ?_
    refine r_getR (pc' := 54) dX8_add_51 rfl fX8_25 rfl (by first | assumption | rfl) (by omega) (by assumption) ?_
    refine r_aload_n (i := 0) (pc' := 55) dX8_add_54 rfl rfl (.head _) ?_
    refine r_getI (pc' := 58) dX8_add_55 rfl fX8_28 rfl (by first | assumption | rfl) (by omega) ?_
    simp (disch := omega) only [xv_up_ne]
    refine r_iconst (pc' := 59) dX8_add_58 rfl ?_
    refine r_zastore (pc' := 60) dX8_add_59 rfl (by first | assumption | rfl) (by omega) (by omega) (by omega) (by first | decide | omega) rfl (by omega) ?_
    refine r_aload_n (i := 0) (pc' := 61) dX8_add_60 rfl rfl (.head _) ?_
    refine r_dup (pc' := 62) dX8_add_61 rfl rfl ?_
    refine r_getI (pc' := 65) dX8_add_62 rfl fX8_28 rfl (by first | assumption | rfl) (by omega) ?_
    simp (disch := omega) only [xv_up_ne]
    refine r_iconst (pc' := 66) dX8_add_65 rfl ?_
    refine r_iadd (pc' := 67) dX8_add_66 rfl ?_
    refine r_putI (pc' := 70) dX8_add_67 rfl fX8_28 rfl (by first | assumption | rfl) (by omega) rfl rfl ?_
    refine r_aload_n (i := 0) (pc' := 71) dX8_add_70 rfl rfl (.head _) ?_
    refine r_getI (pc' := 74) dX8_add_71 rfl fX8_28 rfl (by first | assumption | rfl) (by omega) ?_
    rw [xv_up_same _ _ _ (by omega)]
    refine r_iconst (pc' := 75) dX8_add_74 rfl ?_
    refine r_isub (pc' := 76) dX8_add_75 rfl ?_
    refine r_ireturn dX8_add_76 rfl ?_
    refine ⟨_, rfl, rfl, rfl, rfl, ?_, ?_⟩
    · rfl
    · omega
  · exfalso; omega
set_option maxHeartbeats 4000000 in
set_option maxRecDepth 100000 in
theorem tX1_longerRefusal {l : Launch} {g : q_G} {n : Nat} {P : q_P} {X : q_X} {Y : q_Y} {b : Nat} {k m x z : Int} (hb : isBk n P b) (hO : bOk X b) (hi : q_in k) (hm : q_in m) (hx : q_in x) (hz : q_in z) : q_Met l g mX1_longerRefusal 2 [.ref (g.1 + b), .int (zi k), .int (zi m), .int (zi x), .int (zi z)] n P X Y (q_pv (.int (zi (bk_lref X b k m x z))) n P X Y) := by
  obtain ⟨b0, b1, b2, b3, q7, q8, q9, q11, q12, q13, hn, hpro, hmar, hfor, hcs⟩ := id hb
  obtain ⟨o0, o1, o2, o3, o4, o5, o6, o10, oc, op0, opz, opi, om0, omi, olim⟩ := id hO
  have hri := bk_ref_in X b k
  refine q_enter (L := [(0, .ref (g.1 + b)), (1, .int (zi k)), (2, .int (zi m)), (3, .int (zi x)), (4, .int (zi z))]) (by decide) (Nat.le_of_ble_eq_true rfl) rfl ?_
  refine r_aload_n (i := 0) (pc' := 1) dX1_longerRefusal_0 rfl rfl (.head _) ?_
  refine r_iload_n (i := 1) (pc' := 2) dX1_longerRefusal_1 rfl rfl (.tail _ (.head _)) ?_
  refine r_V1p (ci := 1) (pc' := 5) dX1_longerRefusal_2 rfl lX1_91 rfl (by decide) (Nat.le_of_ble_eq_true rfl) (by first | assumption | rfl) (by omega) (tX1_refusal (by assumption) (by assumption) (by first | assumption | omega)) ?_
  refine r_istore (pc' := 7) dX1_longerRefusal_5 rfl rfl (.s1 (.s1 (.s1 (.s1 (.s1 .nil rfl rfl rfl) rfl rfl rfl) rfl rfl rfl) rfl rfl rfl) rfl rfl rfl) ?_
  refine r_iload (pc' := 9) dX1_longerRefusal_7 rfl (.tail _ (.tail _ (.tail _ (.tail _ (.tail _ (.head _)))))) ?_
  refine r_if_eq (t := 15) (f := 12) dX1_longerRefusal_9 (by decide) rfl (by first | omega | exact xv_in _ _ _) (fun h9 => ?_) (fun h9 => ?_)
  · have hh := bk_ref_has h9
    have hc := hb.c (k := k.toNat) (by omega)
    obtain ⟨s0, s1, s2, s3, s4, p6, p7, p8, p9, hnc⟩ := id hc
    have hck := hO.c (k := k.toNat) (by omega)
    obtain ⟨hf, hf2, hf3, hf4, hfj, hfs, hfg⟩ := id hck
    have hlst : c_last X (con b k.toNat) = xv X (con b k.toNat) 0 + xv X (con b k.toNat) 1 + xv X (con b k.toNat) 2 - 1 := rfl
    refine r_iload_n (i := 2) (pc' := 16) dX1_longerRefusal_15 rfl rfl (.tail _ (.tail _ (.head _))) ?_
    refine r_iconst (pc' := 17) dX1_longerRefusal_16 rfl ?_
    refine r_icmp_lt (t := 47) (f := 20) dX1_longerRefusal_17 (by decide) rfl (by first | omega | exact xv_in _ _ _) (by first | omega | exact xv_in _ _ _) (fun h17 => ?_) (fun h17 => ?_)
    · refine r_iconst (pc' := 48) dX1_longerRefusal_47 rfl ?_
      refine r_ireturn dX1_longerRefusal_48 rfl ?_
      refine ⟨?_, rfl, rfl, rfl, rfl⟩
      unfold bk_lref
      (repeat' split) <;> first | rfl | (exfalso; omega) | (congr 3; omega)
    · refine r_iload_n (i := 2) (pc' := 21) dX1_longerRefusal_20 rfl rfl (.tail _ (.tail _ (.head _))) ?_
      refine r_iconst (pc' := 22) dX1_longerRefusal_21 rfl ?_
      refine r_icmp_gt (t := 47) (f := 25) dX1_longerRefusal_22 (by decide) rfl (by first | omega | exact xv_in _ _ _) (by first | omega | exact xv_in _ _ _) (fun h22 => ?_) (fun h22 => ?_)
      · refine r_iconst (pc' := 48) dX1_longerRefusal_47 rfl ?_
        refine r_ireturn dX1_longerRefusal_48 rfl ?_
        refine ⟨?_, rfl, rfl, rfl, rfl⟩
        unfold bk_lref
        (repeat' split) <;> first | rfl | (exfalso; omega) | (congr 3; omega)
      · refine r_iload_n (i := 3) (pc' := 26) dX1_longerRefusal_25 rfl rfl (.tail _ (.tail _ (.tail _ (.head _)))) ?_
        refine r_if_lt (t := 47) (f := 29) dX1_longerRefusal_26 (by decide) rfl (by first | omega | exact xv_in _ _ _) (fun h26 => ?_) (fun h26 => ?_)
        · refine r_iconst (pc' := 48) dX1_longerRefusal_47 rfl ?_
          refine r_ireturn dX1_longerRefusal_48 rfl ?_
          refine ⟨?_, rfl, rfl, rfl, rfl⟩
          unfold bk_lref
          (repeat' split) <;> first | rfl | (exfalso; omega) | (congr 3; omega)
        · refine r_iload_n (i := 3) (pc' := 30) dX1_longerRefusal_29 rfl rfl (.tail _ (.tail _ (.tail _ (.head _)))) ?_
          refine r_ldc (pc' := 32) dX1_longerRefusal_30 rfl kX1_109 ?_
          refine r_icmp_gt (t := 47) (f := 35) dX1_longerRefusal_32 (by decide) rfl (by first | omega | exact xv_in _ _ _) (by first | omega | exact xv_in _ _ _) (fun h32 => ?_) (fun h32 => ?_)
          · refine r_iconst (pc' := 48) dX1_longerRefusal_47 rfl ?_
            refine r_ireturn dX1_longerRefusal_48 rfl ?_
            refine ⟨?_, rfl, rfl, rfl, rfl⟩
            unfold bk_lref
            (repeat' split) <;> first | rfl | (exfalso; omega) | (congr 3; omega)
          · refine r_iload (pc' := 37) dX1_longerRefusal_35 rfl (.tail _ (.tail _ (.tail _ (.tail _ (.head _))))) ?_
            refine r_if_lt (t := 47) (f := 40) dX1_longerRefusal_37 (by decide) rfl (by first | omega | exact xv_in _ _ _) (fun h37 => ?_) (fun h37 => ?_)
            · refine r_iconst (pc' := 48) dX1_longerRefusal_47 rfl ?_
              refine r_ireturn dX1_longerRefusal_48 rfl ?_
              refine ⟨?_, rfl, rfl, rfl, rfl⟩
              unfold bk_lref
              (repeat' split) <;> first | rfl | (exfalso; omega) | (congr 3; omega)
            · refine r_iload (pc' := 42) dX1_longerRefusal_40 rfl (.tail _ (.tail _ (.tail _ (.tail _ (.head _))))) ?_
              refine r_ldc (pc' := 44) dX1_longerRefusal_42 rfl kX1_109 ?_
              refine r_icmp_le (t := 49) (f := 47) dX1_longerRefusal_44 (by decide) rfl (by first | omega | exact xv_in _ _ _) (by first | omega | exact xv_in _ _ _) (fun h44 => ?_) (fun h44 => ?_)
              · refine r_iload_n (i := 3) (pc' := 50) dX1_longerRefusal_49 rfl rfl (.tail _ (.tail _ (.tail _ (.head _)))) ?_
                refine r_aload_n (i := 0) (pc' := 51) dX1_longerRefusal_50 rfl rfl (.head _) ?_
                refine r_getI (pc' := 54) dX1_longerRefusal_51 rfl fX1_24 rfl (by first | assumption | rfl) (by omega) ?_
                refine r_icmp_ge (t := 59) (f := 57) dX1_longerRefusal_54 (by decide) rfl (by first | omega | exact xv_in _ _ _) (by first | omega | exact xv_in _ _ _) (fun h54 => ?_) (fun h54 => ?_)
                · refine r_aload_n (i := 0) (pc' := 60) dX1_longerRefusal_59 rfl rfl (.head _) ?_
                  refine r_getR (pc' := 63) dX1_longerRefusal_60 rfl fX1_36 rfl (by first | assumption | rfl) (by omega) (by assumption) ?_
                  refine r_iload_n (i := 1) (pc' := 64) dX1_longerRefusal_63 rfl rfl (.tail _ (.head _)) ?_
                  refine r_aaload (pc' := 65) (v := .ref (g.1 + con b k.toNat)) dX1_longerRefusal_64 rfl (by first | assumption | rfl) (by decide) (by omega) (by omega) (by omega) (by first | decide | omega) rfl (hb.r (k := k.toNat) (by omega)) ?_
                  refine r_astore (pc' := 67) dX1_longerRefusal_65 rfl rfl (.s1 (.s1 (.s1 (.s1 (.s1 (.s1 .nil rfl rfl rfl) rfl rfl rfl) rfl rfl rfl) rfl rfl rfl) rfl rfl rfl) rfl rfl rfl) ?_
                  refine r_aload (pc' := 69) dX1_longerRefusal_67 rfl (.tail _ (.tail _ (.tail _ (.tail _ (.tail _ (.tail _ (.head _))))))) ?_
                  refine r_getI (pc' := 72) dX1_longerRefusal_69 rfl fX1_113 rfl (by first | assumption | rfl) (by omega) ?_
                  refine r_aload (pc' := 74) dX1_longerRefusal_72 rfl (.tail _ (.tail _ (.tail _ (.tail _ (.tail _ (.tail _ (.head _))))))) ?_
                  refine r_getI (pc' := 77) dX1_longerRefusal_74 rfl fX1_116 rfl (by first | assumption | rfl) (by omega) ?_
                  refine r_iadd (pc' := 78) dX1_longerRefusal_77 rfl ?_
                  refine r_iload_n (i := 2) (pc' := 79) dX1_longerRefusal_78 rfl rfl (.tail _ (.tail _ (.head _))) ?_
                  refine r_iadd (pc' := 80) dX1_longerRefusal_79 rfl ?_
                  refine r_bipush (pc' := 82) dX1_longerRefusal_80 rfl (by decide) ?_
                  refine r_icmp_gt (t := 97) (f := 85) dX1_longerRefusal_82 (by decide) rfl (by first | omega | exact xv_in _ _ _) (by first | omega | exact xv_in _ _ _) (fun h82 => ?_) (fun h82 => ?_)
                  · refine r_iconst (pc' := 98) dX1_longerRefusal_97 rfl ?_
                    refine r_goto (t := 102) dX1_longerRefusal_98 (by decide) ?_
                    refine r_istore (pc' := 104) dX1_longerRefusal_102 rfl rfl (.s1 (.s1 (.s1 (.s1 (.s1 (.s1 (.s1 .nil rfl rfl rfl) rfl rfl rfl) rfl rfl rfl) rfl rfl rfl) rfl rfl rfl) rfl rfl rfl) rfl rfl rfl) ?_
                    refine r_iload (pc' := 106) dX1_longerRefusal_104 rfl (.tail _ (.tail _ (.tail _ (.tail _ (.tail _ (.tail _ (.tail _ (.head _)))))))) ?_
                    refine r_if_eq (t := 114) (f := 109) dX1_longerRefusal_106 (by decide) rfl (by first | omega | exact xv_in _ _ _) (fun h106 => ?_) (fun h106 => ?_)
                    · refine r_iconst (pc' := 115) dX1_longerRefusal_114 rfl ?_
                      refine r_ireturn dX1_longerRefusal_115 rfl ?_
                      refine ⟨?_, rfl, rfl, rfl, rfl⟩
                      unfold bk_lref
                      (repeat' split) <;> first | rfl | (exfalso; omega) | (congr 3; omega)
                    · refine r_bipush (pc' := 111) dX1_longerRefusal_109 rfl (by decide) ?_
                      refine r_goto (t := 115) dX1_longerRefusal_111 (by decide) ?_
                      refine r_ireturn dX1_longerRefusal_115 rfl ?_
                      refine ⟨?_, rfl, rfl, rfl, rfl⟩
                      unfold bk_lref
                      (repeat' split) <;> first | rfl | (exfalso; omega) | (congr 3; omega)
                  · refine r_aload (pc' := 87) dX1_longerRefusal_85 rfl (.tail _ (.tail _ (.tail _ (.tail _ (.tail _ (.tail _ (.head _))))))) ?_
                    refine r_V0p (ci := 4) (pc' := 90) dX1_longerRefusal_87 rfl lX1_119 rfl (by decide) (Nat.le_of_ble_eq_true rfl) (by first | assumption | rfl) (by omega) (tX4_lastYear (by assumption)) ?_
                    refine r_iload_n (i := 2) (pc' := 91) dX1_longerRefusal_90 rfl rfl (.tail _ (.tail _ (.head _))) ?_
                    refine r_iadd (pc' := 92) dX1_longerRefusal_91 rfl ?_
                    refine r_bipush (pc' := 94) dX1_longerRefusal_92 rfl (by decide) ?_
                    refine r_icmp_le (t := 101) (f := 97) dX1_longerRefusal_94 (by decide) rfl (by first | omega | exact xv_in _ _ _) (by first | omega | exact xv_in _ _ _) (fun h94 => ?_) (fun h94 => ?_)
                    · refine r_iconst (pc' := 102) dX1_longerRefusal_101 rfl ?_
                      refine r_istore (pc' := 104) dX1_longerRefusal_102 rfl rfl (.s1 (.s1 (.s1 (.s1 (.s1 (.s1 (.s1 .nil rfl rfl rfl) rfl rfl rfl) rfl rfl rfl) rfl rfl rfl) rfl rfl rfl) rfl rfl rfl) rfl rfl rfl) ?_
                      refine r_iload (pc' := 106) dX1_longerRefusal_104 rfl (.tail _ (.tail _ (.tail _ (.tail _ (.tail _ (.tail _ (.tail _ (.head _)))))))) ?_
                      refine r_if_eq (t := 114) (f := 109) dX1_longerRefusal_106 (by decide) rfl (by first | omega | exact xv_in _ _ _) (fun h106 => ?_) (fun h106 => ?_)
                      · refine r_iconst (pc' := 115) dX1_longerRefusal_114 rfl ?_
                        refine r_ireturn dX1_longerRefusal_115 rfl ?_
                        refine ⟨?_, rfl, rfl, rfl, rfl⟩
                        unfold bk_lref
                        (repeat' split) <;> first | rfl | (exfalso; omega) | (congr 3; omega)
                      · refine r_bipush (pc' := 111) dX1_longerRefusal_109 rfl (by decide) ?_
                        refine r_goto (t := 115) dX1_longerRefusal_111 (by decide) ?_
                        refine r_ireturn dX1_longerRefusal_115 rfl ?_
                        refine ⟨?_, rfl, rfl, rfl, rfl⟩
                        unfold bk_lref
                        (repeat' split) <;> first | rfl | (exfalso; omega) | (congr 3; omega)
                    · refine r_iconst (pc' := 98) dX1_longerRefusal_97 rfl ?_
                      refine r_goto (t := 102) dX1_longerRefusal_98 (by decide) ?_
                      refine r_istore (pc' := 104) dX1_longerRefusal_102 rfl rfl (.s1 (.s1 (.s1 (.s1 (.s1 (.s1 (.s1 .nil rfl rfl rfl) rfl rfl rfl) rfl rfl rfl) rfl rfl rfl) rfl rfl rfl) rfl rfl rfl) rfl rfl rfl) ?_
                      refine r_iload (pc' := 106) dX1_longerRefusal_104 rfl (.tail _ (.tail _ (.tail _ (.tail _ (.tail _ (.tail _ (.tail _ (.head _)))))))) ?_
                      refine r_if_eq (t := 114) (f := 109) dX1_longerRefusal_106 (by decide) rfl (by first | omega | exact xv_in _ _ _) (fun h106 => ?_) (fun h106 => ?_)
                      · refine r_iconst (pc' := 115) dX1_longerRefusal_114 rfl ?_
                        refine r_ireturn dX1_longerRefusal_115 rfl ?_
                        refine ⟨?_, rfl, rfl, rfl, rfl⟩
                        unfold bk_lref
                        (repeat' split) <;> first | rfl | (exfalso; omega) | (congr 3; omega)
                      · refine r_bipush (pc' := 111) dX1_longerRefusal_109 rfl (by decide) ?_
                        refine r_goto (t := 115) dX1_longerRefusal_111 (by decide) ?_
                        refine r_ireturn dX1_longerRefusal_115 rfl ?_
                        refine ⟨?_, rfl, rfl, rfl, rfl⟩
                        unfold bk_lref
                        (repeat' split) <;> first | rfl | (exfalso; omega) | (congr 3; omega)
                · refine r_iconst (pc' := 58) dX1_longerRefusal_57 rfl ?_
                  refine r_ireturn dX1_longerRefusal_58 rfl ?_
                  refine ⟨?_, rfl, rfl, rfl, rfl⟩
                  unfold bk_lref
                  (repeat' split) <;> first | rfl | (exfalso; omega) | (congr 3; omega)
              · refine r_iconst (pc' := 48) dX1_longerRefusal_47 rfl ?_
                refine r_ireturn dX1_longerRefusal_48 rfl ?_
                refine ⟨?_, rfl, rfl, rfl, rfl⟩
                unfold bk_lref
                (repeat' split) <;> first | rfl | (exfalso; omega) | (congr 3; omega)
  · refine r_iload (pc' := 14) dX1_longerRefusal_12 rfl (.tail _ (.tail _ (.tail _ (.tail _ (.tail _ (.head _)))))) ?_
    refine r_ireturn dX1_longerRefusal_14 rfl ?_
    refine ⟨?_, rfl, rfl, rfl, rfl⟩
    unfold bk_lref
    (repeat' split) <;> first | rfl | (exfalso; omega) | (congr 3; omega)
set_option maxHeartbeats 4000000 in
set_option maxRecDepth 100000 in
theorem tX1_signRefusal {l : Launch} {g : q_G} {n : Nat} {P : q_P} {X : q_X} {Y : q_Y} {b : Nat} {i : Int} (hb : isBk n P b) (hO : bOk X b) (hi : q_in i) : q_Met l g mX1_signRefusal 1 [.ref (g.1 + b), .int (zi i)] n P X Y (q_pv (.int (zi (bk_sref X b i))) n P X Y) := by
  obtain ⟨b0, b1, b2, b3, q7, q8, q9, q11, q12, q13, hn, hpro, hmar, hfor, hcs⟩ := id hb
  obtain ⟨o0, o1, o2, o3, o4, o5, o6, o10, oc, op0, opz, opi, om0, omi, olim⟩ := id hO
  obtain ⟨a0, a1, a2, a3, a4, u1, u2, u3, u4, hnm⟩ := isBk.mar hmar
  refine q_enter (L := [(0, .ref (g.1 + b)), (1, .int (zi i))]) (by decide) (Nat.le_of_ble_eq_true rfl) rfl ?_
  refine r_aload_n (i := 0) (pc' := 1) dX1_signRefusal_0 rfl rfl (.head _) ?_
  refine r_getR (pc' := 4) dX1_signRefusal_1 rfl fX1_50 rfl (by first | assumption | rfl) (by omega) (by assumption) ?_
  refine r_iload_n (i := 1) (pc' := 5) dX1_signRefusal_4 rfl rfl (.tail _ (.head _)) ?_
  refine r_V1p (ci := 7) (pc' := 8) dX1_signRefusal_5 rfl lX1_123 rfl (by decide) (Nat.le_of_ble_eq_true rfl) (by first | assumption | rfl) (by omega) (tX7_has (by assumption) (by omega)) ?_
  refine r_bif_ne (t := 13) (f := 11) dX1_signRefusal_8 (by decide) rfl (fun h8 => ?_) (fun h8 => ?_)
  · have hmi := omi i.toNat (by omega)
    refine r_aload_n (i := 0) (pc' := 14) dX1_signRefusal_13 rfl rfl (.head _) ?_
    refine r_getI (pc' := 17) dX1_signRefusal_14 rfl fX1_75 rfl (by first | assumption | rfl) (by omega) ?_
    refine r_bipush (pc' := 19) dX1_signRefusal_17 rfl (by decide) ?_
    refine r_icmp_ge (t := 41) (f := 22) dX1_signRefusal_19 (by decide) rfl (by first | omega | exact xv_in _ _ _) (by first | omega | exact xv_in _ _ _) (fun h19 => ?_) (fun h19 => ?_)
    · refine r_iconst (pc' := 42) dX1_signRefusal_41 rfl ?_
      refine r_goto (t := 46) dX1_signRefusal_42 (by decide) ?_
      refine r_istore_n (i := 2) (pc' := 47) dX1_signRefusal_46 rfl rfl rfl (.s1 (.s1 .nil rfl rfl rfl) rfl rfl rfl) ?_
      refine r_iload_n (i := 2) (pc' := 48) dX1_signRefusal_47 rfl rfl (.tail _ (.tail _ (.head _))) ?_
      refine r_if_eq (t := 56) (f := 51) dX1_signRefusal_48 (by decide) rfl (by first | omega | exact xv_in _ _ _) (fun h48 => ?_) (fun h48 => ?_)
      · refine r_iconst (pc' := 57) dX1_signRefusal_56 rfl ?_
        refine r_ireturn dX1_signRefusal_57 rfl ?_
        refine ⟨?_, rfl, rfl, rfl, rfl⟩
        unfold bk_sref
        (repeat' split) <;> first | rfl | (exfalso; omega) | (congr 3; omega)
      · refine r_bipush (pc' := 53) dX1_signRefusal_51 rfl (by decide) ?_
        refine r_goto (t := 57) dX1_signRefusal_53 (by decide) ?_
        refine r_ireturn dX1_signRefusal_57 rfl ?_
        refine ⟨?_, rfl, rfl, rfl, rfl⟩
        unfold bk_sref
        (repeat' split) <;> first | rfl | (exfalso; omega) | (congr 3; omega)
    · refine r_aload_n (i := 0) (pc' := 23) dX1_signRefusal_22 rfl rfl (.head _) ?_
      refine r_getI (pc' := 26) dX1_signRefusal_23 rfl fX1_63 rfl (by first | assumption | rfl) (by omega) ?_
      refine r_aload_n (i := 0) (pc' := 27) dX1_signRefusal_26 rfl rfl (.head _) ?_
      refine r_getR (pc' := 30) dX1_signRefusal_27 rfl fX1_50 rfl (by first | assumption | rfl) (by omega) (by assumption) ?_
      refine r_getR (pc' := 33) dX1_signRefusal_30 rfl fX1_127 rfl (by first | assumption | rfl) (by omega) (by assumption) ?_
      refine r_iload_n (i := 1) (pc' := 34) dX1_signRefusal_33 rfl rfl (.tail _ (.head _)) ?_
      refine r_iaload (pc' := 35) dX1_signRefusal_34 rfl (by first | assumption | rfl) (by omega) (by omega) (by omega) (by first | decide | omega) rfl ?_
      refine r_iadd (pc' := 36) dX1_signRefusal_35 rfl ?_
      refine r_bipush (pc' := 38) dX1_signRefusal_36 rfl (by decide) ?_
      refine r_icmp_le (t := 45) (f := 41) dX1_signRefusal_38 (by decide) rfl (by first | omega | exact xv_in _ _ _) (by first | omega | exact xv_in _ _ _) (fun h38 => ?_) (fun h38 => ?_)
      · refine r_iconst (pc' := 46) dX1_signRefusal_45 rfl ?_
        refine r_istore_n (i := 2) (pc' := 47) dX1_signRefusal_46 rfl rfl rfl (.s1 (.s1 .nil rfl rfl rfl) rfl rfl rfl) ?_
        refine r_iload_n (i := 2) (pc' := 48) dX1_signRefusal_47 rfl rfl (.tail _ (.tail _ (.head _))) ?_
        refine r_if_eq (t := 56) (f := 51) dX1_signRefusal_48 (by decide) rfl (by first | omega | exact xv_in _ _ _) (fun h48 => ?_) (fun h48 => ?_)
        · refine r_iconst (pc' := 57) dX1_signRefusal_56 rfl ?_
          refine r_ireturn dX1_signRefusal_57 rfl ?_
          refine ⟨?_, rfl, rfl, rfl, rfl⟩
          unfold bk_sref
          (repeat' split) <;> first | rfl | (exfalso; omega) | (congr 3; omega)
        · refine r_bipush (pc' := 53) dX1_signRefusal_51 rfl (by decide) ?_
          refine r_goto (t := 57) dX1_signRefusal_53 (by decide) ?_
          refine r_ireturn dX1_signRefusal_57 rfl ?_
          refine ⟨?_, rfl, rfl, rfl, rfl⟩
          unfold bk_sref
          (repeat' split) <;> first | rfl | (exfalso; omega) | (congr 3; omega)
      · refine r_iconst (pc' := 42) dX1_signRefusal_41 rfl ?_
        refine r_goto (t := 46) dX1_signRefusal_42 (by decide) ?_
        refine r_istore_n (i := 2) (pc' := 47) dX1_signRefusal_46 rfl rfl rfl (.s1 (.s1 .nil rfl rfl rfl) rfl rfl rfl) ?_
        refine r_iload_n (i := 2) (pc' := 48) dX1_signRefusal_47 rfl rfl (.tail _ (.tail _ (.head _))) ?_
        refine r_if_eq (t := 56) (f := 51) dX1_signRefusal_48 (by decide) rfl (by first | omega | exact xv_in _ _ _) (fun h48 => ?_) (fun h48 => ?_)
        · refine r_iconst (pc' := 57) dX1_signRefusal_56 rfl ?_
          refine r_ireturn dX1_signRefusal_57 rfl ?_
          refine ⟨?_, rfl, rfl, rfl, rfl⟩
          unfold bk_sref
          (repeat' split) <;> first | rfl | (exfalso; omega) | (congr 3; omega)
        · refine r_bipush (pc' := 53) dX1_signRefusal_51 rfl (by decide) ?_
          refine r_goto (t := 57) dX1_signRefusal_53 (by decide) ?_
          refine r_ireturn dX1_signRefusal_57 rfl ?_
          refine ⟨?_, rfl, rfl, rfl, rfl⟩
          unfold bk_sref
          (repeat' split) <;> first | rfl | (exfalso; omega) | (congr 3; omega)
  · refine r_iconst (pc' := 12) dX1_signRefusal_11 rfl ?_
    refine r_ireturn dX1_signRefusal_12 rfl ?_
    refine ⟨?_, rfl, rfl, rfl, rfl⟩
    unfold bk_sref
    (repeat' split) <;> first | rfl | (exfalso; omega) | (congr 3; omega)
