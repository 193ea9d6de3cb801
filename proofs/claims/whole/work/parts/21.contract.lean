/-! a contract lies at c: the object, then base, roster, parts, given -/
def isCon (n : Nat) (P : q_P) (c : Nat) : Prop := q_sh c = (4, 10) ∧ q_sh (c + 1) = (20, 10) ∧ q_sh (c + 2) = (20, 10) ∧ q_sh (c + 3) = (20, 10) ∧ q_sh (c + 4) = (20, 10) ∧ P c 6 = some (c + 1) ∧ P c 7 = some (c + 2) ∧ P c 8 = some (c + 3) ∧ P c 9 = some (c + 4) ∧ c + 5 ≤ n
/-- k terms from a on -/
def q_sum (f : Nat → Int) : Nat → Nat → Int
  | _, 0 => 0
  | a, k + 1 => f a + q_sum f (a + 1) k
abbrev c_plays (X : q_X) (c : Nat) (y : Int) : Prop := xv X c 0 ≤ y ∧ y - xv X c 0 < xv X c 1 ∧ y - xv X c 0 < 10
def c_base (X : q_X) (c : Nat) (y : Int) : Int := if c_plays X c y then xv X (c + 1) (y - xv X c 0).toNat else 0
def c_roster (X : q_X) (c : Nat) (y : Int) : Int := if c_plays X c y then xv X (c + 2) (y - xv X c 0).toNat else 0
def c_parts (X : q_X) (c : Nat) (y : Int) : Int := if 0 ≤ y - xv X c 0 ∧ y - xv X c 0 < 10 then xv X (c + 3) (y - xv X c 0).toNat else 0
def c_given (X : q_X) (c : Nat) (y : Int) : Int := if 0 ≤ y - xv X c 0 ∧ y - xv X c 0 < 10 then xv X (c + 4) (y - xv X c 0).toNat else 0
def c_from (X : q_X) (c : Nat) (y : Int) : Int := q_sum (xv X (c + 3)) (max 0 (y - xv X c 0)).toNat (10 - (max 0 (y - xv X c 0)).toNat)
def c_hit (X : q_X) (c : Nat) (y : Int) : Int := c_base X c y + c_roster X c y + c_parts X c y
def c_last (X : q_X) (c : Nat) : Int := xv X c 0 + xv X c 1 + xv X c 2 - 1
set_option maxHeartbeats 4000000 in
set_option maxRecDepth 100000 in
theorem tX4_plays {l : Launch} {g : q_G} {n : Nat} {P : q_P} {X : q_X} {Y : q_Y} {c : Nat} {y : Int} (hc : isCon n P c) (hf : 0 ≤ xv X c 0 ∧ xv X c 0 ≤ 19) (hy : -1 ≤ y ∧ y ≤ 40) : q_Met l g mX4_plays 0 [.ref (g.1 + c), .int (zi y)] n P X Y (q_pv (.int (zi (if c_plays X c y then 1 else 0))) n P X Y) := by
  obtain ⟨s0, s1, s2, s3, s4, p6, p7, p8, p9, hn⟩ := id hc
  refine q_enter (by decide) (Nat.le_of_ble_eq_true rfl) rfl ?_
  refine r_iload_n (pc' := 1) dX4_plays_0 rfl rfl (.tail _ (.head _)) ?_
  refine r_aload_n (pc' := 2) dX4_plays_1 rfl rfl (.head _) ?_
  refine r_getI (pc' := 5) dX4_plays_2 rfl fX4_24 rfl (by assumption) (by omega) ?_
  refine r_icmp_lt (t := 36) (f := 8) dX4_plays_5 (by decide) rfl (by first | omega | exact xv_in _ _ _) (by first | omega | exact xv_in _ _ _) (fun h5 => ?_) (fun h5 => ?_)
  · refine r_iconst (pc' := 37) dX4_plays_36 rfl ?_
    refine r_zreturn dX4_plays_37 rfl (by decide) ?_
    refine ⟨?_, rfl, rfl, rfl, rfl⟩
    (repeat' split) <;> first | rfl | (exfalso; omega)
  · refine r_iload_n (pc' := 9) dX4_plays_8 rfl rfl (.tail _ (.head _)) ?_
    refine r_aload_n (pc' := 10) dX4_plays_9 rfl rfl (.head _) ?_
    refine r_getI (pc' := 13) dX4_plays_10 rfl fX4_24 rfl (by assumption) (by omega) ?_
    refine r_isub (pc' := 14) dX4_plays_13 rfl ?_
    refine r_aload_n (pc' := 15) dX4_plays_14 rfl rfl (.head _) ?_
    refine r_getI (pc' := 18) dX4_plays_15 rfl fX4_28 rfl (by assumption) (by omega) ?_
    refine r_icmp_ge (t := 36) (f := 21) dX4_plays_18 (by decide) rfl (by first | omega | exact xv_in _ _ _) (by first | omega | exact xv_in _ _ _) (fun h18 => ?_) (fun h18 => ?_)
    · refine r_iconst (pc' := 37) dX4_plays_36 rfl ?_
      refine r_zreturn dX4_plays_37 rfl (by decide) ?_
      refine ⟨?_, rfl, rfl, rfl, rfl⟩
      (repeat' split) <;> first | rfl | (exfalso; omega)
    · refine r_iload_n (pc' := 22) dX4_plays_21 rfl rfl (.tail _ (.head _)) ?_
      refine r_aload_n (pc' := 23) dX4_plays_22 rfl rfl (.head _) ?_
      refine r_getI (pc' := 26) dX4_plays_23 rfl fX4_24 rfl (by assumption) (by omega) ?_
      refine r_isub (pc' := 27) dX4_plays_26 rfl ?_
      refine r_bipush (pc' := 29) dX4_plays_27 rfl (by decide) ?_
      refine r_icmp_ge (t := 36) (f := 32) dX4_plays_29 (by decide) rfl (by first | omega | exact xv_in _ _ _) (by first | omega | exact xv_in _ _ _) (fun h29 => ?_) (fun h29 => ?_)
      · refine r_iconst (pc' := 37) dX4_plays_36 rfl ?_
        refine r_zreturn dX4_plays_37 rfl (by decide) ?_
        refine ⟨?_, rfl, rfl, rfl, rfl⟩
        (repeat' split) <;> first | rfl | (exfalso; omega)
      · refine r_iconst (pc' := 33) dX4_plays_32 rfl ?_
        refine r_goto (t := 37) dX4_plays_33 (by decide) ?_
        refine r_zreturn dX4_plays_37 rfl (by decide) ?_
        refine ⟨?_, rfl, rfl, rfl, rfl⟩
        (repeat' split) <;> first | rfl | (exfalso; omega)
set_option maxHeartbeats 4000000 in
set_option maxRecDepth 100000 in
theorem tX4_isOpen {l : Launch} {g : q_G} {n : Nat} {P : q_P} {X : q_X} {Y : q_Y} {c : Nat} (hc : isCon n P c) : q_Met l g mX4_isOpen 0 [.ref (g.1 + c)] n P X Y (q_pv (.int (zi (if xv X c 4 = 0 then 1 else 0))) n P X Y) := by
  obtain ⟨s0, s1, s2, s3, s4, p6, p7, p8, p9, hn⟩ := id hc
  refine q_enter (by decide) (Nat.le_of_ble_eq_true rfl) rfl ?_
  refine r_aload_n (pc' := 1) dX4_isOpen_0 rfl rfl (.head _) ?_
  refine r_getI (pc' := 4) dX4_isOpen_1 rfl fX4_37 rfl (by assumption) (by omega) ?_
  refine r_if_ne (t := 11) (f := 7) dX4_isOpen_4 (by decide) rfl (by first | omega | exact xv_in _ _ _) (fun h4 => ?_) (fun h4 => ?_)
  · refine r_iconst (pc' := 12) dX4_isOpen_11 rfl ?_
    refine r_zreturn dX4_isOpen_12 rfl (by decide) ?_
    refine ⟨?_, rfl, rfl, rfl, rfl⟩
    (repeat' split) <;> first | rfl | (exfalso; omega)
  · refine r_iconst (pc' := 8) dX4_isOpen_7 rfl ?_
    refine r_goto (t := 12) dX4_isOpen_8 (by decide) ?_
    refine r_zreturn dX4_isOpen_12 rfl (by decide) ?_
    refine ⟨?_, rfl, rfl, rfl, rfl⟩
    (repeat' split) <;> first | rfl | (exfalso; omega)
set_option maxHeartbeats 4000000 in
set_option maxRecDepth 100000 in
theorem tX4_lastYear {l : Launch} {g : q_G} {n : Nat} {P : q_P} {X : q_X} {Y : q_Y} {c : Nat} (hc : isCon n P c) : q_Met l g mX4_lastYear 0 [.ref (g.1 + c)] n P X Y (q_pv (.int (zi (c_last X c))) n P X Y) := by
  obtain ⟨s0, s1, s2, s3, s4, p6, p7, p8, p9, hn⟩ := id hc
  refine q_enter (by decide) (Nat.le_of_ble_eq_true rfl) rfl ?_
  refine r_aload_n (pc' := 1) dX4_lastYear_0 rfl rfl (.head _) ?_
  refine r_getI (pc' := 4) dX4_lastYear_1 rfl fX4_24 rfl (by assumption) (by omega) ?_
  refine r_aload_n (pc' := 5) dX4_lastYear_4 rfl rfl (.head _) ?_
  refine r_getI (pc' := 8) dX4_lastYear_5 rfl fX4_28 rfl (by assumption) (by omega) ?_
  refine r_iadd (pc' := 9) dX4_lastYear_8 rfl ?_
  refine r_aload_n (pc' := 10) dX4_lastYear_9 rfl rfl (.head _) ?_
  refine r_getI (pc' := 13) dX4_lastYear_10 rfl fX4_31 rfl (by assumption) (by omega) ?_
  refine r_iadd (pc' := 14) dX4_lastYear_13 rfl ?_
  refine r_iconst (pc' := 15) dX4_lastYear_14 rfl ?_
  refine r_isub (pc' := 16) dX4_lastYear_15 rfl ?_
  refine r_ireturn dX4_lastYear_16 rfl ?_
  exact ⟨rfl, rfl, rfl, rfl, rfl⟩
