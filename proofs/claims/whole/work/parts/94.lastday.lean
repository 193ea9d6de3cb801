theorem q_sum_mono {f h : Nat → Int} : ∀ (k a : Nat), (∀ i, a ≤ i → i < a + k → f i ≤ h i) → q_sum f a k ≤ q_sum h a k
  | 0, _, _ => by simp [q_sum]
  | k + 1, a, H => by
    have h1 := H a (by omega) (by omega)
    have h2 := q_sum_mono (f := f) (h := h) k (a + 1) (fun i h1 h2 => H i (by omega) (by omega))
    rw [q_sum, q_sum]; omega
theorem u_rk_sub {s : Nat} {O O' : Nat → Bool} {H : Nat → Int} (j : Nat) (h : ∀ i, O' i = true → O i = true) : u_rk s O' H j ≤ u_rk s O H j := by
  unfold u_rk
  refine q_sum_mono _ _ (fun i _ _ => ?_)
  by_cases q : O' i = true ∧ u_ah H i j
  · rw [if_pos q, if_pos ⟨h i q.1, q.2⟩]; omega
  · rw [if_neg q]; split <;> omega
theorem u_ct_one {s : Nat} {O O' : Nat → Bool} {Lk H Pa : Nat → Int} {k : Nat} (hk : k < s) (hOk : O k = true) (hk' : O' k = false) (hj : ∀ j, j ≠ k → O' j = O j) (hp : ∀ j, j < s → Pa j ≤ H j) (fp : Int) : u_ct s O Lk H Pa fp ≤ u_ct s O' Lk H Pa fp + (Lk k + H k) := by
  have e := q_sum_ind k (Lk k + H k) hk
  unfold u_ct
  rw [← e, ← q_sum_plus]
  refine q_sum_mono _ _ (fun j _ hjs => ?_)
  by_cases ej : j = k
  · subst ej
    have := hp j hk
    rw [if_pos hOk, if_pos rfl, if_neg (c := O' j = true) (by rw [hk']; decide)]
    split <;> omega
  · rw [if_neg ej, hj j ej]
    by_cases q : O j = true
    · rw [if_pos q, if_pos q]
      have hr := u_rk_sub (s := s) (O := O) (O' := O') (H := H) j (fun i hi => by
        by_cases e : i = k
        · subst e; rw [hk'] at hi; exact absurd hi (by decide)
        · rw [← hj i e]; exact hi)
      have := hp j (by omega)
      by_cases a : u_rk s O H j < fp
      · rw [if_pos a, if_pos (by omega)]; omega
      · rw [if_neg a]; split <;> omega
    · rw [if_neg q, if_neg q]; omega
theorem u_ct_all {s : Nat} {O O' : Nat → Bool} {Lk H Pa : Nat → Int} {k : Nat} (hk : k < s) (hOk : O k = true) (hk' : O' k = false) (hj : ∀ j, j ≠ k → O' j = O j) {fp : Int} (hf : (s : Int) ≤ fp) : u_ct s O Lk H Pa fp = u_ct s O' Lk H Pa fp + (Lk k + H k) := by
  have e := q_sum_ind k (Lk k + H k) hk
  unfold u_ct
  rw [← e, ← q_sum_plus]
  refine q_sum_congr _ _ (fun j _ hjs => ?_)
  have r1 := u_rkB (s := s) (O := O) (H := H) (k := j) (by omega)
  have r2 := u_rkB (s := s) (O := O') (H := H) (k := j) (by omega)
  by_cases ej : j = k
  · subst ej
    rw [if_pos hOk, if_pos rfl, if_neg (c := O' j = true) (by rw [hk']; decide), if_pos (by omega)]; omega
  · rw [if_neg ej, hj j ej]
    by_cases q : O j = true
    · rw [if_pos q, if_pos q, if_pos (by omega), if_pos (by omega)]; omega
    · rw [if_neg q, if_neg q]; omega
theorem sav_mono {C : q_X} {b k : Nat} {d d' : Int} (hO : bOk C b) (hk : (k : Int) < xv C b 10) (hop : xv C (con b k) 4 = 0) (hd : d ≤ d') (hr : d' < xv C b 3 ∨ xv C b 3 ≤ d) : bk_sav C b k d ≤ bk_sav C b k d' := by
  have o10 := hO.2.2.2.2.2.2.2.1
  have h6 := hO.2.2.2.2.2.2.1
  have hck := hO.c hk
  have a1 : (fun j => bk_op C b j && !g0 j) k = true := by simp [g0, bk_op, hop]
  have a2 : (fun j => bk_op C b j && !g1 k j) k = false := by simp [g1]
  have a3 : ∀ j, j ≠ k → (fun j => bk_op C b j && !g1 k j) j = (fun j => bk_op C b j && !g0 j) j := fun j hj => by simp [g0, g1, hj]
  have a4 : ∀ j, j < (xv C b 10).toNat → bk_pT C b g0 j ≤ bk_hT C b g0 j := fun j hj => (bk_hT_b g0 (hO.c (show (j : Int) < xv C b 10 by omega)) h6.1).2.2.2
  have c1 := u_ct_one (s := (xv C b 10).toNat) (Lk := fun k => t_lik C b k (xv C (b + 4) 0).toNat) (show k < (xv C b 10).toNat by omega) a1 a2 a3 a4 (bk_full C b d)
  have hd1 : bk_dead C b (con b k) d' ≤ bk_dead C b (con b k) d := by
    have f1 := c_from_step (X := C) (c := con b k) (xv C b 0)
    have f2 := c_from_b hck (xv C b 0 + 1)
    have e1 : bk_dPay C b (con b k) (xv C b 0) d' = bk_dPay C b (con b k) (xv C b 0) d := by
      unfold bk_dPay
      by_cases q : xv C b 3 ≤ d
      · rw [if_pos q, if_pos (by omega)]
      · rw [if_neg q, if_neg (by omega)]
    have e2 : bk_dNow C b (con b k) d' ≤ bk_dNow C b (con b k) d := by
      unfold bk_dNow
      by_cases q : d' < xv C b 2 ∨ 19 ≤ xv C b 0
      · rw [if_pos q, if_pos (by omega)]; omega
      · rw [if_neg q]; split <;> omega
    unfold bk_dead; omega
  by_cases hs : d' < xv C b 4
  · have e : bk_full C b d' = bk_full C b d := by unfold bk_full; rw [if_pos hs, if_pos (by omega)]
    unfold bk_sav bk_cnt
    rw [e]; omega
  · have e : bk_full C b d' = 40 := by unfold bk_full; rw [if_neg hs]
    have c2 := u_ct_all (s := (xv C b 10).toNat) (Lk := fun k => t_lik C b k (xv C (b + 4) 0).toNat) (H := bk_hT C b g0) (Pa := bk_pT C b g0) (show k < (xv C b 10).toNat by omega) a1 a2 a3 (fp := 40) (by omega)
    unfold bk_sav bk_cnt
    rw [e]; omega
theorem f_last_no {C : q_X} {b k : Nat} {m : Int} (h0 : bk_ref C b (k : Int) = 0) (h3 : 0 ≤ xv C b 3 ∧ xv C b 3 ≤ 364) (hn : ∀ d : Int, xv C b 1 ≤ d → d ≤ 364 → ¬ m ≤ bk_sav C b k d) : f_last C b k m = -2 := by
  unfold f_last f_dis
  rw [if_neg (fun q => q h0), Int.toNat_natCast, if_neg (fun q => hn _ q.1 (by omega) q.2), if_neg (fun q => hn _ q.1 (by omega) q.2)]
  omega
theorem f_last_at {C : q_X} {b k : Nat} {m d : Int} (hO : bOk C b) (hk : (k : Int) < xv C b 10) (h0 : bk_ref C b (k : Int) = 0) (hop : xv C (con b k) 4 = 0) (hd : xv C b 1 ≤ d ∧ d ≤ 364) (hs : m ≤ bk_sav C b k d) (hn : ∀ d' : Int, d < d' → d' ≤ 364 → ¬ m ≤ bk_sav C b k d') : f_last C b k m = d := by
  have h3 := hO.2.2.2.1
  by_cases hr : d < xv C b 3
  · have q := sav_mono hO hk hop (d := d) (d' := xv C b 3 - 1) (by omega) (by omega)
    have e : xv C b 3 - 1 = d := by
      apply Classical.byContradiction
      intro z; exact hn (xv C b 3 - 1) (by omega) (by omega) (by omega)
    unfold f_last f_dis
    rw [if_neg (fun q => q h0), Int.toNat_natCast, e, if_neg (c := _ ∧ m ≤ bk_sav C b k 364) (fun q => hn 364 (by omega) (by omega) q.2), if_pos ⟨hd.1, hs⟩]
    have := hO.2.1
    omega
  · have q := sav_mono hO hk hop (d := d) (d' := 364) (by omega) (by omega)
    have e : d = 364 := by
      apply Classical.byContradiction
      intro z; exact hn 364 (by omega) (by omega) (by omega)
    subst e
    unfold f_last f_dis
    rw [if_neg (fun q => q h0), Int.toNat_natCast, if_pos ⟨hd.1, hs⟩]
    split <;> omega
set_option maxHeartbeats 4000000 in
set_option maxRecDepth 100000 in
theorem lX12_lastDay {l : Launch} {g : q_G} {n : Nat} {P : q_P} {Y : q_Y} (hm : isMod n P) {C : q_X} {b : Nat} (hO : bOk C b) {k : Nat} (hk : (k : Int) < xv C b 10) {m : Int} (hmi : q_in m) (h0 : bk_ref C b (k : Int) = 0) (hop : xv C (con b k) 4 = 0) {X0 : q_X} : ∀ (w : Nat) (d : Int) (X : q_X), d + 1 = xv C b 1 + w → d ≤ 364 → hOut X0 X → RB C b (xv X 468) → (∀ d' : Int, d < d' → d' ≤ 364 → ¬ m ≤ bk_sav C b k d') → q_Tr l g mX12_lastDay 7 (q_gi (fun r' n' P' X' Y' => n' = n ∧ P' = P ∧ Y' = Y ∧ hOut X0 X' ∧ r' = f_last C b k m)) 14 [(0, .ref (g.1 + 467)), (1, .int (zi (k : Int))), (2, .int (zi m)), (3, .int (zi d))] [] n P X Y := by
  obtain ⟨m0, m2, m3, m8, m9, m14, m15, m16, m17, m18, m20, m22, m25, hnm9⟩ := id hm
  obtain ⟨o0, o1, o2, o3, o4, o5, o6, o10, oc, op0, opz, opi, om0, omi, olim⟩ := id hO
  intro w
  induction w with
  | zero =>
    intro d X hd h364 ho hR hn
    refine r_iload_n (i := 3) (pc' := 15) dX12_lastDay_14 rfl rfl (.tail _ (.tail _ (.tail _ (.head _)))) ?_
    refine r_aload_n (i := 0) (pc' := 16) dX12_lastDay_15 rfl rfl (.head _) ?_
    refine r_getR (pc' := 19) dX12_lastDay_16 rfl fX12_3 rfl (by first | assumption | rfl) (by omega) (by assumption) ?_
    refine r_iconst (pc' := 20) dX12_lastDay_19 rfl ?_
    refine r_iaload (pc' := 21) dX12_lastDay_20 rfl (by first | assumption | rfl) (by omega) (by omega) (by omega) (by first | decide | omega) (show Int.toNat 1 = 1 from rfl) ?_
    rw [hR.z 1 (by decide)]
    refine r_icmp_lt (t := 42) (f := 24) dX12_lastDay_21 (by decide) rfl (by first | omega | exact xv_in _ _ _) (by first | omega | exact xv_in _ _ _) (fun h21 => ?_) (fun h21 => ?_)
    · refine r_bipush (pc' := 44) dX12_lastDay_42 rfl (by decide) ?_
      refine r_ireturn dX12_lastDay_44 rfl ?_
      refine ⟨_, rfl, rfl, rfl, rfl, ho, ?_⟩
      rw [f_last_no h0 o3 (fun d' h1 h2 => hn d' (by omega) h2)]
    · exfalso; omega
  | succ w ih =>
    intro d X hd h364 ho hR hn
    have hsb := bk_sav_b hO hk d
    refine r_iload_n (i := 3) (pc' := 15) dX12_lastDay_14 rfl rfl (.tail _ (.tail _ (.tail _ (.head _)))) ?_
    refine r_aload_n (i := 0) (pc' := 16) dX12_lastDay_15 rfl rfl (.head _) ?_
    refine r_getR (pc' := 19) dX12_lastDay_16 rfl fX12_3 rfl (by first | assumption | rfl) (by omega) (by assumption) ?_
    refine r_iconst (pc' := 20) dX12_lastDay_19 rfl ?_
    refine r_iaload (pc' := 21) dX12_lastDay_20 rfl (by first | assumption | rfl) (by omega) (by omega) (by omega) (by first | decide | omega) (show Int.toNat 1 = 1 from rfl) ?_
    rw [hR.z 1 (by decide)]
    refine r_icmp_lt (t := 42) (f := 24) dX12_lastDay_21 (by decide) rfl (by first | omega | exact xv_in _ _ _) (by first | omega | exact xv_in _ _ _) (fun h21 => ?_) (fun h21 => ?_)
    · exfalso; omega
    · refine r_aload_n (i := 0) (pc' := 25) dX12_lastDay_24 rfl rfl (.head _) ?_
      refine r_iload_n (i := 1) (pc' := 26) dX12_lastDay_25 rfl rfl (.tail _ (.head _)) ?_
      refine r_iload_n (i := 3) (pc' := 27) dX12_lastDay_26 rfl rfl (.tail _ (.tail _ (.tail _ (.head _)))) ?_
      refine r_V2gi (ci := 12) (pc' := 30) dX12_lastDay_27 rfl lX12_269 rfl (by decide) (Nat.le_of_ble_eq_true rfl) (by first | assumption | rfl) (by omega) (tX12_savedOn hm hR hO hk (by omega)) (fun r27 n27 P27 X27 Y27 e27 le27 => ?_)
      obtain ⟨h1v, h2v, h3v, ho27, hr27⟩ := e27
      subst h1v h2v h3v hr27
      have hR27 : RB C b (xv X27 468) := by rw [ho27.v (by omega)]; exact hR
      refine r_iload_n (i := 2) (pc' := 31) dX12_lastDay_30 rfl rfl (.tail _ (.tail _ (.head _))) ?_
      refine r_icmp_lt (t := 36) (f := 34) dX12_lastDay_31 (by decide) rfl (by first | omega | exact xv_in _ _ _) (by first | omega | exact xv_in _ _ _) (fun h31 => ?_) (fun h31 => ?_)
      · refine r_iinc (pc' := 39) dX12_lastDay_36 rfl rfl (.tail _ (.tail _ (.tail _ (.head _)))) (.s1 (.s1 (.s1 (.here .nil) rfl rfl rfl) rfl rfl rfl) rfl rfl rfl) ?_
        refine r_goto (t := 14) dX12_lastDay_39 (by decide) ?_
        refine ih (d - 1) _ (by omega) (by omega) (ho.trans ho27) hR27 (fun d' h1 h2 => ?_)
        by_cases e : d' = d
        · subst e; omega
        · exact hn d' (by omega) h2
      · refine r_iload_n (i := 3) (pc' := 35) dX12_lastDay_34 rfl rfl (.tail _ (.tail _ (.tail _ (.head _)))) ?_
        refine r_ireturn dX12_lastDay_35 rfl ?_
        refine ⟨_, rfl, rfl, rfl, rfl, ho.trans ho27, ?_⟩
        rw [f_last_at hO hk h0 hop (by omega) (by omega) hn]
set_option maxHeartbeats 4000000 in
set_option maxRecDepth 100000 in
theorem tX12_lastDay {l : Launch} {g : q_G} {n : Nat} {P : q_P} {X : q_X} {Y : q_Y} (hm : isMod n P) {C : q_X} {b : Nat} (hR : RB C b (xv X 468)) (hO : bOk C b) {k : Int} (hki : q_in k) {m : Int} (hmi : q_in m) : q_Met l g mX12_lastDay 7 [.ref (g.1 + 467), .int (zi k), .int (zi m)] n P X Y (q_gi (fun r' n' P' X' Y' => n' = n ∧ P' = P ∧ Y' = Y ∧ hOut X X' ∧ r' = f_last C b k m)) := by
  obtain ⟨m0, m2, m3, m8, m9, m14, m15, m16, m17, m18, m20, m22, m25, hnm9⟩ := id hm
  obtain ⟨o0, o1, o2, o3, o4, o5, o6, o10, oc, op0, opz, opi, om0, omi, olim⟩ := id hO
  refine q_enter (L := [(0, .ref (g.1 + 467)), (1, .int (zi k)), (2, .int (zi m))]) (by decide) (Nat.le_of_ble_eq_true rfl) rfl ?_
  refine r_aload_n (i := 0) (pc' := 1) dX12_lastDay_0 rfl rfl (.head _) ?_
  refine r_iload_n (i := 1) (pc' := 2) dX12_lastDay_1 rfl rfl (.tail _ (.head _)) ?_
  by_cases hk0 : bk_ref C b k = 0
  · have hk := bk_ref_has hk0
    obtain ⟨kn, rfl⟩ : ∃ kn : Nat, k = (kn : Int) := ⟨k.toNat, by omega⟩
    have hkk : (kn : Int) < xv C b 10 := hk.2
    have hck := hO.c hkk
    have hop : xv C (con b kn) 4 = 0 := by
      have q := hk0
      unfold bk_ref at q
      rw [if_neg (fun z => z hk), Int.toNat_natCast] at q
      apply Classical.byContradiction
      intro z
      rw [if_pos z] at q
      omega
    refine r_V1p (ci := 12) (pc' := 5) dX12_lastDay_2 rfl lX12_261 rfl (by decide) (Nat.le_of_ble_eq_true rfl) (by first | assumption | rfl) (by omega) (tX12_canCut (by assumption) (by assumption) (by assumption) (by first | omega | assumption)) ?_
    refine r_bif_ne (t := 10) (f := 8) dX12_lastDay_5 (by decide) rfl (fun h5 => ?_) (fun h5 => ?_)
    · refine r_sipush (pc' := 13) dX12_lastDay_10 rfl (by decide) ?_
      refine r_istore_n (i := 3) (pc' := 14) dX12_lastDay_13 rfl rfl rfl (.s1 (.s1 (.s1 .nil rfl rfl rfl) rfl rfl rfl) rfl rfl rfl) ?_
      exact lX12_lastDay hm hO hkk hmi hk0 hop (365 - xv C b 1).toNat 364 X (by omega) (by omega) hOut.rfl hR (fun d h1 h2 => by omega)
    · exfalso; omega
  · refine r_V1p (ci := 12) (pc' := 5) dX12_lastDay_2 rfl lX12_261 rfl (by decide) (Nat.le_of_ble_eq_true rfl) (by first | assumption | rfl) (by omega) (tX12_canCut (by assumption) (by assumption) (by assumption) (by first | omega | assumption)) ?_
    refine r_bif_ne (t := 10) (f := 8) dX12_lastDay_5 (by decide) rfl (fun h5 => ?_) (fun h5 => ?_)
    · exfalso; omega
    · refine r_iconst (pc' := 9) dX12_lastDay_8 rfl ?_
      refine r_ireturn dX12_lastDay_9 rfl ?_
      refine ⟨_, rfl, rfl, rfl, rfl, hOut.rfl, ?_⟩
      unfold f_last
      rw [if_pos hk0]
