theorem q_sum_swap (f : Nat → Nat → Int) (N : Nat) : ∀ (s a : Nat), q_sum (fun k => q_sum (f k) 0 N) a s = q_sum (fun j => q_sum (fun k => f k j) a s) 0 N
  | 0, a => (q_sum_0 (f := fun j => q_sum (fun k => f k j) a 0) N 0 (fun _ _ _ => rfl)).symm
  | s + 1, a => by
    have e : (fun j => q_sum (fun k => f k j) a (s + 1)) = fun j => f a j + q_sum (fun k => f k j) (a + 1) s := by funext j; rw [q_sum]
    have e2 := q_sum_plus (f := f a) (h := fun j => q_sum (fun k => f k j) (a + 1) s) N 0
    rw [e, e2, q_sum, q_sum_swap f N s (a + 1)]
theorem u_rk_surj {s : Nat} {O : Nat → Bool} {H : Nat → Int} {i : Int} (h0 : 0 ≤ i) (hi : i < q_sum (fun k => if O k = true then (1 : Int) else 0) 0 s) : ∃ k, k < s ∧ O k = true ∧ u_rk s O H k = i := by
  apply Classical.byContradiction
  intro hno
  have hnn := q_sum_nn (f := fun k => if O k = true then (1 : Int) else 0) s 0 (fun k _ _ => by split <;> omega)
  obtain ⟨N, hN⟩ : ∃ N : Nat, q_sum (fun k => if O k = true then (1 : Int) else 0) 0 s = (N : Int) := ⟨(q_sum (fun k => if O k = true then (1 : Int) else 0) 0 s).toNat, by omega⟩
  obtain ⟨q, rfl⟩ : ∃ q : Nat, i = (q : Int) := ⟨i.toNat, by omega⟩
  rw [hN] at hi
  have e1 : q_sum (fun k => if O k = true then (1 : Int) else 0) 0 s = q_sum (fun k => q_sum (fun j : Nat => if O k = true ∧ u_rk s O H k = (j : Int) then (1 : Int) else 0) 0 N) 0 s := by
    refine q_sum_congr _ _ (fun k _ hk => ?_)
    by_cases ho : O k = true
    · have hb := u_rk_b (H := H) (show k < s by omega) ho
      rw [hN] at hb
      have e3 := q_sum_congr (f := fun j : Nat => if O k = true ∧ u_rk s O H k = (j : Int) then (1 : Int) else 0) (h := fun j => if j = (u_rk s O H k).toNat then (1 : Int) else 0) N 0 (fun j _ _ => by
        by_cases e : j = (u_rk s O H k).toNat
        · rw [if_pos ⟨ho, by omega⟩, if_pos e]
        · rw [if_neg (fun z => e (by have := z.2; omega)), if_neg e])
      rw [if_pos ho, e3, q_sum_ind _ _ (by omega)]
    · rw [if_neg ho, q_sum_0 _ _ (fun j _ _ => if_neg (fun z => ho z.1))]
  rw [hN, q_sum_swap (fun k j => if O k = true ∧ u_rk s O H k = (j : Int) then (1 : Int) else 0)] at e1
  have e2 : ∀ j : Nat, q_sum (fun k => if O k = true ∧ u_rk s O H k = (j : Int) then (1 : Int) else 0) 0 s ≤ 1 := fun j => by
    by_cases hx : ∃ k, k < s ∧ O k = true ∧ u_rk s O H k = (j : Int)
    · obtain ⟨k, k1, k2, k3⟩ := hx
      have e4 := q_sum_congr (f := fun k => if O k = true ∧ u_rk s O H k = (j : Int) then (1 : Int) else 0) (h := fun a => if a = k then (1 : Int) else 0) s 0 (fun a _ ha => by
        by_cases e : a = k
        · subst e; rw [if_pos ⟨k2, k3⟩, if_pos rfl]
        · rw [if_neg (fun z => e (u_rk_inj (by omega) k1 z.1 k2 (z.2.trans k3.symm))), if_neg e])
      rw [e4, q_sum_ind _ _ k1]; omega
    · rw [q_sum_0 _ _ (fun a _ ha => if_neg (fun z => hx ⟨a, by omega, z.1, z.2⟩))]; omega
  have e5 : q_sum (fun k => if O k = true ∧ u_rk s O H k = (q : Int) then (1 : Int) else 0) 0 s = 0 := q_sum_0 _ _ (fun a _ ha => if_neg (fun z => hno ⟨a, by omega, z.1, z.2⟩))
  have e6 := q_sum_lt (f := fun j : Nat => q_sum (fun k => if O k = true ∧ u_rk s O H k = (j : Int) then (1 : Int) else 0) 0 s) (h := fun _ => 1) (j := q) N 0 (fun j _ _ => e2 j) (by omega) (by omega) (by show q_sum _ 0 s < 1; rw [e5]; omega)
  have e7 := q_sum_ub (f := fun _ => 1) (B := 1) N 0 (fun _ _ _ => by omega)
  omega
theorem f_place_ok {C : q_X} {b : Nat} {y i : Int} (h0 : 0 ≤ i) (hi : i < bk_many C b 0 0 (xv C b 10).toNat) : ∃ k : Nat, (k : Int) < xv C b 10 ∧ f_place C b y i = k := by
  have e : bk_many C b 0 0 (xv C b 10).toNat = q_sum (fun k => if bk_op C b k = true then (1 : Int) else 0) 0 (xv C b 10).toNat := by
    unfold bk_many
    refine q_sum_congr _ _ (fun k _ _ => ?_)
    by_cases h : xv C (con b k) 4 = 0
    · rw [if_pos h, if_pos ((bop C b k).mpr h)]
    · rw [if_neg h, if_neg (fun z => h ((bop C b k).mp z))]
  rw [e] at hi
  obtain ⟨k, k1, k2, k3⟩ := u_rk_surj (H := fun k => c_hit C (con b k) y) h0 hi
  exact ⟨k, by omega, f_pl_eq k1 k2 k3 _ 0 (Nat.zero_add _) (Nat.zero_le _)⟩
set_option maxHeartbeats 4000000 in
set_option maxRecDepth 100000 in
theorem lX12_tag {l : Launch} {g : q_G} {n : Nat} {P : q_P} {X : q_X} {Y : q_Y} (hm : isMod n P) {C : q_X} {b : Nat} (hR : RB C b (xv X 468)) (hO : bOk C b) {v : Int} {mn : Nat} (hmn : (mn : Int) ≤ bk_many C b 0 0 (xv C b 10).toNat) (h40 : mn ≤ 40) {r : Int} {K : q_K} (kk : q_Tr l g mX12_tag 4 K 73 [(0, .ref (g.1 + 467)), (1, .int (zi v)), (2, .int (zi (mn : Int))), (3, .int (zi r))] [] n P X Y) : ∀ (w i : Nat) (s : Int), i + w = mn → s + q_sum (fun i : Nat => c_hit C (con b (f_place C b (xv C b 0) i).toNat) (xv C b 0)) i w = r → q_Tr l g mX12_tag 4 K 36 [(0, .ref (g.1 + 467)), (1, .int (zi v)), (2, .int (zi (mn : Int))), (3, .int (zi s)), (4, .int (zi (i : Int)))] [] n P X Y := by
  obtain ⟨m0, m2, m3, m8, m9, m14, m15, m16, m17, m18, m20, m22, m25, hnm9⟩ := id hm
  obtain ⟨o0, o1, o2, o3, o4, o5, o6, o10, oc, op0, opz, opi, om0, omi, olim⟩ := id hO
  intro w
  induction w with
  | zero =>
    intro i s hi hr
    refine r_iload (pc' := 38) dX12_tag_36 rfl (.tail _ (.tail _ (.tail _ (.tail _ (.head _))))) ?_
    refine r_iload_n (i := 2) (pc' := 39) dX12_tag_38 rfl rfl (.tail _ (.tail _ (.head _))) ?_
    refine r_icmp_ge (t := 73) (f := 42) dX12_tag_39 (by decide) rfl (by first | omega | exact xv_in _ _ _) (by first | omega | exact xv_in _ _ _) (fun h39 => ?_) (fun h39 => ?_)
    · refine r_sub (.kp (.kp (.kp (.kp (.dr .nil))))) ?_
      rw [show s = r by rw [← hr]; simp [q_sum]]
      exact kk
    · exfalso; omega
  | succ w ih =>
    intro i s hi hr
    obtain ⟨kp, hkp, hpk⟩ := f_place_ok (C := C) (b := b) (y := xv C b 0) (i := (i : Int)) (by omega) (by omega)
    refine r_iload (pc' := 38) dX12_tag_36 rfl (.tail _ (.tail _ (.tail _ (.tail _ (.head _))))) ?_
    refine r_iload_n (i := 2) (pc' := 39) dX12_tag_38 rfl rfl (.tail _ (.tail _ (.head _))) ?_
    refine r_icmp_ge (t := 73) (f := 42) dX12_tag_39 (by decide) rfl (by first | omega | exact xv_in _ _ _) (by first | omega | exact xv_in _ _ _) (fun h39 => ?_) (fun h39 => ?_)
    · exfalso; omega
    · refine r_iload_n (i := 3) (pc' := 43) dX12_tag_42 rfl rfl (.tail _ (.tail _ (.tail _ (.head _)))) ?_
      refine r_aload_n (i := 0) (pc' := 44) dX12_tag_43 rfl rfl (.head _) ?_
      refine r_aload_n (i := 0) (pc' := 45) dX12_tag_44 rfl rfl (.head _) ?_
      refine r_iload (pc' := 47) dX12_tag_45 rfl (.tail _ (.tail _ (.tail _ (.tail _ (.head _))))) ?_
      refine r_aload_n (i := 0) (pc' := 48) dX12_tag_47 rfl rfl (.head _) ?_
      refine r_getR (pc' := 51) dX12_tag_48 rfl fX12_3 rfl (by first | assumption | rfl) (by omega) (by assumption) ?_
      refine r_iconst (pc' := 52) dX12_tag_51 rfl ?_
      refine r_iaload (pc' := 53) dX12_tag_52 rfl (by first | assumption | rfl) (by omega) (by omega) (by omega) (by first | decide | omega) (show Int.toNat 0 = 0 from rfl) ?_
      rw [hR.z 0 (by decide)]
      refine r_V2p (ci := 12) (pc' := 56) dX12_tag_53 rfl lX12_356 rfl (by decide) (Nat.le_of_ble_eq_true rfl) (by first | assumption | rfl) (by omega) (tX12_placed hm hR hO (by omega) (by omega)) ?_
      rw [hpk]
      refine r_aload_n (i := 0) (pc' := 57) dX12_tag_56 rfl rfl (.head _) ?_
      refine r_getR (pc' := 60) dX12_tag_57 rfl fX12_3 rfl (by first | assumption | rfl) (by omega) (by assumption) ?_
      refine r_iconst (pc' := 61) dX12_tag_60 rfl ?_
      refine r_iaload (pc' := 62) dX12_tag_61 rfl (by first | assumption | rfl) (by omega) (by omega) (by omega) (by first | decide | omega) (show Int.toNat 0 = 0 from rfl) ?_
      rw [hR.z 0 (by decide)]
      refine r_V2p (ci := 12) (pc' := 65) dX12_tag_62 rfl lX12_230 rfl (by decide) (Nat.le_of_ble_eq_true rfl) (by first | assumption | rfl) (by omega) (tX12_hitOf hm hR hO hkp (by omega)) ?_
      refine r_iadd (pc' := 66) dX12_tag_65 rfl ?_
      refine r_istore_n (i := 3) (pc' := 67) dX12_tag_66 rfl rfl rfl (.s1 (.s1 (.s1 (.here (.s1 .nil rfl rfl rfl)) rfl rfl rfl) rfl rfl rfl) rfl rfl rfl) ?_
      refine r_iinc (pc' := 70) dX12_tag_67 rfl rfl (.tail _ (.tail _ (.tail _ (.tail _ (.head _))))) (.s1 (.s1 (.s1 (.s1 (.here .nil) rfl rfl rfl) rfl rfl rfl) rfl rfl rfl) rfl rfl rfl) ?_
      refine r_goto (t := 36) dX12_tag_70 (by decide) ?_
      refine ih (i + 1) _ (by omega) ?_
      rw [← hr, q_sum]
      try dsimp only
      rw [hpk, Int.toNat_natCast]; omega
theorem f_tagS_b {C : q_X} {b m : Nat} (hO : bOk C b) (hm : (m : Int) ≤ bk_many C b 0 0 (xv C b 10).toNat) (h40 : m ≤ 40) : 0 ≤ f_tagS C b m ∧ f_tagS C b m ≤ 92000000 := by
  have hh : ∀ i : Nat, i < m → 0 ≤ c_hit C (con b (f_place C b (xv C b 0) i).toNat) (xv C b 0) ∧ c_hit C (con b (f_place C b (xv C b 0) i).toNat) (xv C b 0) ≤ 2299977 := fun i hi => by
    obtain ⟨k, hk, e⟩ := f_place_ok (C := C) (b := b) (y := xv C b 0) (i := (i : Int)) (by omega) (by omega)
    rw [e, Int.toNat_natCast]
    have := c_hit_b (hO.c hk) (xv C b 0)
    omega
  unfold f_tagS
  have h1 := q_sum_nn (f := fun i : Nat => c_hit C (con b (f_place C b (xv C b 0) i).toNat) (xv C b 0)) m 0 (fun i _ hi => (hh i (by omega)).1)
  have h2 := q_sum_ub (f := fun i : Nat => c_hit C (con b (f_place C b (xv C b 0) i).toNat) (xv C b 0)) (B := 2299977) m 0 (fun i _ hi => (hh i (by omega)).2)
  have h3 : (m : Int) * 2299977 ≤ 40 * 2299977 := by omega
  exact ⟨h1, by omega⟩
set_option maxHeartbeats 4000000 in
set_option maxRecDepth 100000 in
theorem tX12_tag {l : Launch} {g : q_G} {n : Nat} {P : q_P} {X : q_X} {Y : q_Y} (hm : isMod n P) {C : q_X} {b : Nat} (hR : RB C b (xv X 468)) (hO : bOk C b) {v : Int} (hv : q_in v) : q_Met l g mX12_tag 4 [.ref (g.1 + 467), .int (zi v)] n P X Y (q_pv (.int (zi (f_tag C b v))) n P X Y) := by
  obtain ⟨m0, m2, m3, m8, m9, m14, m15, m16, m17, m18, m20, m22, m25, hnm9⟩ := id hm
  obtain ⟨o0, o1, o2, o3, o4, o5, o6, o10, oc, op0, opz, opi, om0, omi, olim⟩ := id hO
  have hmb := bkm_b C b 0 (xv C b 10).toNat 0
  refine q_enter (L := [(0, .ref (g.1 + 467)), (1, .int (zi v))]) (by decide) (Nat.le_of_ble_eq_true rfl) rfl ?_
  refine r_iload_n (i := 1) (pc' := 1) dX12_tag_0 rfl rfl (.tail _ (.head _)) ?_
  refine r_i2l (pc' := 2) dX12_tag_1 rfl rfl ?_
  refine r_lconst (pc' := 3) (z := 1) dX12_tag_2 rfl rfl ?_
  refine r_ldc2 (pc' := 6) dX12_tag_3 rfl kX12_359 ?_
  refine r_S3p (pc' := 9) dX12_tag_6 rfl lX12_68 (by decide) (Nat.le_of_ble_eq_true rfl) (tX12_isIn (by first | exact li_z (by omega) | exact li_z (xv_in _ _ _) | rfl) (by first | exact li_z (by omega) | exact li_z (xv_in _ _ _) | rfl) (by first | exact li_z (by omega) | exact li_z (xv_in _ _ _) | rfl)) ?_
  try simp only [i64_0, i64_1, i64_2, i64_3, i64_4, i64_5, i64_6, i64_7, i64_10, i64_19, i64_40, i64_100, i64_364, i64_9999, i64_99999, i64_999999, i64_m999999]
  refine r_bif_ne (t := 14) (f := 12) dX12_tag_9 (by decide) rfl (fun h9 => ?_) (fun h9 => ?_)
  · refine r_iload_n (i := 1) (pc' := 15) dX12_tag_14 rfl rfl (.tail _ (.head _)) ?_
    refine r_aload_n (i := 0) (pc' := 16) dX12_tag_15 rfl rfl (.head _) ?_
    refine r_iconst (pc' := 17) dX12_tag_16 rfl ?_
    refine r_V1p (ci := 12) (pc' := 20) dX12_tag_17 rfl lX12_250 rfl (by decide) (Nat.le_of_ble_eq_true rfl) (by first | assumption | rfl) (by omega) (tX12_howMany hm hR hO (by omega)) ?_
    rw [← bk_many]
    refine r_S2p (pc' := 23) dX12_tag_20 rfl lX12_122 (by decide) (Nat.le_of_ble_eq_true rfl) (tX12_lesser (by omega) (by omega)) ?_
    refine r_istore_n (i := 2) (pc' := 24) dX12_tag_23 rfl rfl rfl (.s1 (.s1 .nil rfl rfl rfl) rfl rfl rfl) ?_
    refine r_iload_n (i := 2) (pc' := 25) dX12_tag_24 rfl rfl (.tail _ (.tail _ (.head _))) ?_
    refine r_if_ne (t := 31) (f := 28) dX12_tag_25 (by decide) rfl (by first | omega | exact xv_in _ _ _) (fun h25 => ?_) (fun h25 => ?_)
    · refine r_iconst (pc' := 32) dX12_tag_31 rfl ?_
      refine r_istore_n (i := 3) (pc' := 33) dX12_tag_32 rfl rfl rfl (.s1 (.s1 (.s1 .nil rfl rfl rfl) rfl rfl rfl) rfl rfl rfl) ?_
      refine r_iconst (pc' := 34) dX12_tag_33 rfl ?_
      refine r_istore (pc' := 36) dX12_tag_34 rfl rfl (.s1 (.s1 (.s1 (.s1 .nil rfl rfl rfl) rfl rfl rfl) rfl rfl rfl) rfl rfl rfl) ?_
      obtain ⟨mn, hmn⟩ : ∃ mn : Nat, min v (bk_many C b 0 0 (xv C b 10).toNat) = (mn : Int) := ⟨(min v (bk_many C b 0 0 (xv C b 10).toNat)).toNat, by omega⟩
      have htb := f_tagS_b (m := mn) hO (by omega) (by omega)
      rw [hmn]
      refine lX12_tag hm hR hO (mn := mn) (by omega) (by omega) (r := f_tagS C b mn) ?_ mn 0 0 (Nat.zero_add _) (Int.zero_add _)
      refine r_iload_n (i := 3) (pc' := 74) dX12_tag_73 rfl rfl (.tail _ (.tail _ (.tail _ (.head _)))) ?_
      refine r_iload_n (i := 2) (pc' := 75) dX12_tag_74 rfl rfl (.tail _ (.tail _ (.head _))) ?_
      refine r_idiv (pc' := 76) dX12_tag_75 rfl (by first | omega | exact xv_in _ _ _) (by first | omega | exact xv_in _ _ _) (by omega) ?_
      refine r_ireturn dX12_tag_76 rfl ?_
      refine ⟨?_, rfl, rfl, rfl, rfl⟩
      unfold f_tag
      rw [hmn, if_neg (by omega), if_neg (by omega), Int.toNat_natCast]
    · refine r_bipush (pc' := 30) dX12_tag_28 rfl (by decide) ?_
      refine r_ireturn dX12_tag_30 rfl ?_
      refine ⟨?_, rfl, rfl, rfl, rfl⟩
      unfold f_tag
      first
        | (rw [if_pos (by omega)]; done)
        | (rw [if_neg (by omega), if_pos (by omega)]; done)
  · refine r_iconst (pc' := 13) dX12_tag_12 rfl ?_
    refine r_ireturn dX12_tag_13 rfl ?_
    refine ⟨?_, rfl, rfl, rfl, rfl⟩
    unfold f_tag
    first
      | (rw [if_pos (by omega)]; done)
      | (rw [if_neg (by omega), if_pos (by omega)]; done)
