theorem TT.hit {X X' : q_X} {b : Nat} (h : TT X X' b g0 g0) (hO : bOk X b) {j : Nat} (hj : (j : Int) < xv X' 453 5) : xv X' 454 (xv X' 458 j).toNat = c_hit X (con b (f_place X b (xv X b 0) j).toNat) (xv X b 0) ∧ (0 ≤ xv X' 458 j ∧ xv X' 458 j < 40) ∧ 0 ≤ xv X' 454 (xv X' 458 j).toNat ∧ xv X' 454 (xv X' 458 j).toNat ≤ 2299977 := by
  obtain ⟨k, h1, h2, h3, h4⟩ := h.ord hO hj
  have h10 := hO.2.2.2.2.2.2.2.1
  have hp := h.place hO hj
  rw [← hp, h1, Int.toNat_natCast, (h.2.2 k h2).1, bk_hT, g0, if_neg (by decide), Int.add_zero]
  have := c_hit_b (hO.c h2) (xv X b 0)
  exact ⟨rfl, by omega, this.1, this.2.1⟩
/-- the least hit of those that count in full -/
def cntP (X : q_X) (b : Nat) (r : Int) : Prop := (r = -2 ∧ ∀ k : Nat, (k : Int) < xv X b 10 → ¬ bk_isFull X b k) ∨ ∃ k : Nat, (k : Int) < xv X b 10 ∧ bk_isFull X b k ∧ r = c_hit X (con b k) (xv X b 0) ∧ ∀ i : Nat, (i : Int) < xv X b 10 → bk_isFull X b i → c_hit X (con b k) (xv X b 0) ≤ c_hit X (con b i) (xv X b 0)
def f_cntN (X : q_X) (b : Nat) : Int := q_sum (fun k => if bk_op X b k = true ∧ ¬ bk_isFull X b k then 1 else 0) 0 (xv X b 10).toNat
theorem TT.full {X X' : q_X} {b : Nat} (h : TT X X' b g0 g0) (hO : bOk X b) {k : Nat} (hk : (k : Int) < xv X b 10) : bk_isFull X b k ↔ ∃ j : Nat, (j : Int) < xv X' 453 5 ∧ (j : Int) < bk_full X b (xv X b 1) ∧ xv X' 458 j = k := by
  constructor
  · intro hf
    obtain ⟨j, j1, j2⟩ := h.2.1.mem (k := k) (by omega) hf.1
    obtain ⟨k2, a1, a2, a3, a4⟩ := h.ord hO j1
    have e : k2 = k := by omega
    subst e
    have := hf.2
    exact ⟨j, j1, by omega, j2⟩
  · intro ⟨j, j1, j2, j3⟩
    obtain ⟨k2, a1, a2, a3, a4⟩ := h.ord hO j1
    have e : k2 = k := by omega
    subst e
    exact ⟨a3, by omega⟩
theorem TT.cntN {X X' : q_X} {b : Nat} (h : TT X X' b g0 g0) (hO : bOk X b) : xv X' 453 5 - min (xv X' 453 5) (bk_full X b (xv X b 1)) = f_cntN X b := by
  have h1 := h.2.1.2.1 (fun x => if ¬ bk_isFull X b x.toNat then 1 else 0)
  have hz := h.2.1.1.1
  have hfb := bk_full_in hO (xv X b 1)
  have e1 : f_cntN X b = q_sum (fun i => if bk_op X b i = true then (if ¬ bk_isFull X b (i : Int).toNat then (1 : Int) else 0) else 0) 0 (xv X b 10).toNat := by
    refine q_sum_congr _ _ (fun i _ _ => ?_)
    rw [Int.toNat_natCast]
    by_cases ho : bk_op X b i = true
    · simp only [ho, true_and, if_true]
    · rw [if_neg ho, if_neg (fun q => ho q.1)]
  rw [e1, ← h1]
  have e2 : q_sum (fun j => if ¬ bk_isFull X b (xv X' 458 j).toNat then (1 : Int) else 0) 0 (xv X' 453 5).toNat = q_sum (fun j => if bk_full X b (xv X b 1) ≤ (j : Int) then (1 : Int) else 0) 0 (xv X' 453 5).toNat := by
    refine q_sum_congr _ _ (fun j _ hj => ?_)
    obtain ⟨k, a1, a2, a3, a4⟩ := h.ord hO (j := j) (by omega)
    rw [a1, Int.toNat_natCast]
    by_cases hf : bk_isFull X b k
    · have := hf.2
      rw [if_neg (fun q => q hf), if_neg (by omega)]
    · rw [if_pos hf, if_pos (Int.not_lt.mp (fun q => hf ⟨a3, by omega⟩))]
  rw [e2]
  have e3 : ∀ m : Nat, q_sum (fun j => if bk_full X b (xv X b 1) ≤ (j : Int) then (1 : Int) else 0) 0 m = m - min (m : Int) (bk_full X b (xv X b 1)) := by
    intro m
    induction m with
    | zero => simp only [q_sum]; omega
    | succ m ih => rw [q_sum_snoc, ih]; split <;> omega
  rw [e3]; omega
theorem TT.cntP {X X' : q_X} {b : Nat} (h : TT X X' b g0 g0) (hO : bOk X b) : cntP X b (if min (xv X' 453 5) (bk_full X b (xv X b 1)) < 1 then -2 else xv X' 454 (xv X' 458 (min (xv X' 453 5) (bk_full X b (xv X b 1)) - 1).toNat).toNat) := by
  have hfb := bk_full_in hO (xv X b 1)
  have hz := h.2.1.1.1
  split
  · left
    refine ⟨rfl, fun k hk hf => ?_⟩
    obtain ⟨j, j1, -, -⟩ := (h.full hO hk).mp hf
    omega
  · right
    rename_i hm
    generalize hj : (min (xv X' 453 5) (bk_full X b (xv X b 1)) - 1).toNat = j
    obtain ⟨k, a1, a2, a3, a4⟩ := h.ord hO (j := j) (by omega)
    have hh : ∀ k : Nat, (k : Int) < xv X b 10 → xv X' 454 k = c_hit X (con b k) (xv X b 0) := fun k hk => by rw [(h.2.2 k hk).1, bk_hT, g0, if_neg (by decide), Int.add_zero]
    refine ⟨k, a2, ⟨a3, by omega⟩, by rw [a1, Int.toNat_natCast, hh k a2], fun i hi hf => ?_⟩
    obtain ⟨p, p1, p2, p3⟩ := (h.full hO hi).mp hf
    have hpj : p ≤ j := by omega
    by_cases e : p = j
    · subst e
      have : i = k := by omega
      subst this; exact Int.le_refl _
    · have := h.2.1.2.2 p j (by omega) (by omega)
      rw [p3, a1] at this
      unfold t_ahead at this
      rw [Int.toNat_natCast, Int.toNat_natCast, hh k a2, hh i hi] at this
      omega
def f_dearest (X : q_X) (b : Nat) (y : Int) : Int := if ¬ (0 ≤ y ∧ y < 20) then -1 else if bk_many X b 0 0 (xv X b 10).toNat = 0 then -2 else f_place X b y 0
theorem dr_eq {X : q_X} {b : Nat} {y r m : Int} (hO : bOk X b) (hy : 0 ≤ y ∧ y < 20) (h : dr_P X b y (xv X b 10).toNat r m) : r = f_dearest X b y := by
  have h10 := hO.2.2.2.2.2.2.2.1
  rw [f_dearest, if_neg (by omega)]
  rcases h with ⟨h1, h2, h3⟩ | ⟨h1, h2, h3, h4, h5⟩
  · rw [if_pos, h1]
    rw [bk_many]
    exact q_sum_0 _ _ (fun i _ hi => by rw [if_neg (h3 i (by omega))])
  · rw [if_neg]
    · have : u_rk (xv X b 10).toNat (bk_op X b) (fun k => c_hit X (con b k) y) r.toNat = 0 := q_sum_0 _ _ (fun i _ hi => by
        rw [if_neg]
        intro q
        have q1 : xv X (con b i) 4 = 0 := by simpa [bk_op] using q.1
        have := h5 i (by omega) q1
        have q2 : c_hit X (con b r.toNat) y < c_hit X (con b i) y ∨ (c_hit X (con b i) y = c_hit X (con b r.toNat) y ∧ i < r.toNat) := q.2
        omega)
      rw [f_place, f_pl_eq (k := r.toNat) (by omega) (by simpa [bk_op] using h3) this _ 0 (Nat.zero_add _) (by omega)]
      omega
    · have := q_sum_le (f := fun i => if xv X (con b i) 4 = 0 then (1 : Int) else 0) (xv X b 10).toNat 0 r.toNat (fun i _ _ => by split <;> omega) (by omega) (by omega)
      rw [if_pos h3] at this
      rw [bk_many]; omega
set_option maxHeartbeats 4000000 in
set_option maxRecDepth 100000 in
theorem lX11_tag {l : Launch} {g : q_G} {n : Nat} {P : q_P} {X : q_X} {Y : q_Y} {X1 : q_X} {b : Nat} (hF : isFace n P b) (hb : isBk n P b) (hO : bOk X b) (hap : bApart b) (ht : isTal n P) {m pl : Int} (hTT : TT X X1 b g0 g0) (hpl : 1 ≤ pl ∧ pl ≤ xv X1 453 5) : ∀ (w i : Nat), i + w = pl.toNat → q_Tr l g mX11_tag 4 (q_gi (fun r' n' P' X' Y' => n' = n ∧ P' = P ∧ Y' = Y ∧ tOut X X' ∧ r' = (f_tagS X b pl.toNat).tdiv pl)) 49 [(0, .ref (g.1 + 0)), (1, .int (zi m)), (2, .int (zi pl)), (3, .int (zi (f_tagS X b i))), (4, .int (zi (i : Int)))] [] n P X1 Y := by
  obtain ⟨f0, f2, f3, f4, f5, f6, f7, f8, hn0⟩ := id hF
  obtain ⟨b0, b1, b2, b3, q7, q8, q9, q11, q12, q13, hn, hpro, hmar, hfor, hcs⟩ := id hb
  obtain ⟨o0, o1, o2, o3, o4, o5, o6, o10, oc, op0, opz, opi, om0, omi, olim⟩ := id hO
  obtain ⟨t0, t1, t2, t3, t4, hnt⟩ := id ht
  have h40 := hTT.2.1.1.1
  intro w
  have hsb : ∀ i : Nat, (i : Int) ≤ xv X1 453 5 → 0 ≤ f_tagS X b i ∧ f_tagS X b i ≤ i * 2299977 := fun i hi => by
    unfold f_tagS
    refine ⟨q_sum_nn _ _ (fun j _ hj => ?_), q_sum_ub _ _ (fun j _ hj => ?_)⟩
    · have := hTT.hit hO (j := j) (by omega); omega
    · have := hTT.hit hO (j := j) (by omega); omega
  induction w with
  | zero =>
    intro i hi
    have hs := hsb i (by omega)
    have hs2 : ((i : Nat) : Int) * 2299977 ≤ 40 * 2299977 := Int.mul_le_mul_of_nonneg_right (by omega) (by omega)
    refine r_iload (pc' := 51) dX11_tag_49 rfl (.tail _ (.tail _ (.tail _ (.tail _ (.head _))))) ?_
    refine r_iload_n (i := 2) (pc' := 52) dX11_tag_51 rfl rfl (.tail _ (.tail _ (.head _))) ?_
    refine r_icmp_ge (t := 82) (f := 55) dX11_tag_52 (by decide) rfl (by first | omega | exact xv_in _ _ _) (by first | omega | exact xv_in _ _ _) (fun h52 => ?_) (fun h52 => ?_)
    · refine r_iload_n (i := 3) (pc' := 83) dX11_tag_82 rfl rfl (.tail _ (.tail _ (.tail _ (.head _)))) ?_
      refine r_iload_n (i := 2) (pc' := 84) dX11_tag_83 rfl rfl (.tail _ (.tail _ (.head _))) ?_
      refine r_idiv (pc' := 85) dX11_tag_84 rfl (by first | omega | exact xv_in _ _ _) (by first | omega | exact xv_in _ _ _) (by omega) ?_
      refine r_ireturn dX11_tag_85 rfl ?_
      refine ⟨_, rfl, rfl, rfl, rfl, hTT.1, ?_⟩
      rw [show i = pl.toNat by omega]
    · exfalso; omega
  | succ w ih =>
    intro i hi
    have hh := hTT.hit hO (j := i) (by omega)
    refine r_iload (pc' := 51) dX11_tag_49 rfl (.tail _ (.tail _ (.tail _ (.tail _ (.head _))))) ?_
    refine r_iload_n (i := 2) (pc' := 52) dX11_tag_51 rfl rfl (.tail _ (.tail _ (.head _))) ?_
    refine r_icmp_ge (t := 82) (f := 55) dX11_tag_52 (by decide) rfl (by first | omega | exact xv_in _ _ _) (by first | omega | exact xv_in _ _ _) (fun h52 => ?_) (fun h52 => ?_)
    · exfalso; omega
    · refine r_iload_n (i := 3) (pc' := 56) dX11_tag_55 rfl rfl (.tail _ (.tail _ (.tail _ (.head _)))) ?_
      refine r_aload_n (i := 0) (pc' := 57) dX11_tag_56 rfl rfl (.head _) ?_
      refine r_getR (pc' := 60) dX11_tag_57 rfl fX11_56 rfl (by first | assumption | rfl) (by omega) (by assumption) ?_
      refine r_getR (pc' := 63) dX11_tag_60 rfl fX11_395 rfl (by first | assumption | rfl) (by omega) (by assumption) ?_
      refine r_aload_n (i := 0) (pc' := 64) dX11_tag_63 rfl rfl (.head _) ?_
      refine r_getR (pc' := 67) dX11_tag_64 rfl fX11_56 rfl (by first | assumption | rfl) (by omega) (by assumption) ?_
      refine r_getR (pc' := 70) dX11_tag_67 rfl fX11_377 rfl (by first | assumption | rfl) (by omega) (by assumption) ?_
      refine r_iload (pc' := 72) dX11_tag_70 rfl (.tail _ (.tail _ (.tail _ (.tail _ (.head _))))) ?_
      refine r_iaload (pc' := 73) dX11_tag_72 rfl (by first | assumption | rfl) (by omega) (by omega) (by omega) (by first | decide | omega) (Int.toNat_natCast _) ?_
      refine r_iaload (pc' := 74) dX11_tag_73 rfl (by first | assumption | rfl) (by omega) (by omega) (by omega) (by first | decide | omega) rfl ?_
      refine r_iadd (pc' := 75) dX11_tag_74 rfl ?_
      refine r_istore_n (i := 3) (pc' := 76) dX11_tag_75 rfl rfl rfl (.s1 (.s1 (.s1 (.here (.s1 .nil rfl rfl rfl)) rfl rfl rfl) rfl rfl rfl) rfl rfl rfl) ?_
      refine r_iinc (pc' := 79) dX11_tag_76 rfl rfl (.tail _ (.tail _ (.tail _ (.tail _ (.head _))))) (.s1 (.s1 (.s1 (.s1 (.here .nil) rfl rfl rfl) rfl rfl rfl) rfl rfl rfl) rfl rfl rfl) ?_
      refine r_goto (t := 49) dX11_tag_79 (by decide) ?_
      rw [hh.1]
      have e := q_sum_snoc (fun i => c_hit X (con b (f_place X b (xv X b 0) i).toNat) (xv X b 0)) i
      have e2 : f_tagS X b i + c_hit X (con b (f_place X b (xv X b 0) i).toNat) (xv X b 0) = f_tagS X b (i + 1) := e.symm
      rw [e2]
      exact ih (i + 1) (by omega)
set_option maxHeartbeats 4000000 in
set_option maxRecDepth 100000 in
theorem tX11_tag {l : Launch} {g : q_G} {n : Nat} {P : q_P} {X : q_X} {Y : q_Y} {b : Nat} (hF : isFace n P b) (hb : isBk n P b) (hO : bOk X b) (hap : bApart b) (ht : isTal n P) {m : Int} (hm : q_in m) : q_Met l g mX11_tag 4 [.ref (g.1 + 0), .int (zi m)] n P X Y (q_it (f_tag X b m) n P X Y) := by
  obtain ⟨f0, f2, f3, f4, f5, f6, f7, f8, hn0⟩ := id hF
  obtain ⟨b0, b1, b2, b3, q7, q8, q9, q11, q12, q13, hn, hpro, hmar, hfor, hcs⟩ := id hb
  obtain ⟨o0, o1, o2, o3, o4, o5, o6, o10, oc, op0, opz, opi, om0, omi, olim⟩ := id hO
  obtain ⟨t0, t1, t2, t3, t4, hnt⟩ := id ht
  refine q_enter (L := [(0, .ref (g.1 + 0)), (1, .int (zi m))]) (by decide) (Nat.le_of_ble_eq_true rfl) rfl ?_
  refine r_iload_n (i := 1) (pc' := 1) dX11_tag_0 rfl rfl (.tail _ (.head _)) ?_
  refine r_iconst (pc' := 2) dX11_tag_1 rfl ?_
  refine r_icmp_lt (t := 11) (f := 5) dX11_tag_2 (by decide) rfl (by first | omega | exact xv_in _ _ _) (by first | omega | exact xv_in _ _ _) (fun h2 => ?_) (fun h2 => ?_)
  · refine r_iconst (pc' := 12) dX11_tag_11 rfl ?_
    refine r_ireturn dX11_tag_12 rfl ?_
    refine ⟨_, rfl, rfl, rfl, rfl, by first | exact ho | exact tOut.rfl, ?_⟩
    first
      | rw [f_tag, if_pos (by omega)]
      | rw [f_tag, if_neg (by omega), if_pos (by omega)]
  · refine r_iload_n (i := 1) (pc' := 6) dX11_tag_5 rfl rfl (.tail _ (.head _)) ?_
    refine r_bipush (pc' := 8) dX11_tag_6 rfl (by decide) ?_
    refine r_icmp_le (t := 13) (f := 11) dX11_tag_8 (by decide) rfl (by first | omega | exact xv_in _ _ _) (by first | omega | exact xv_in _ _ _) (fun h8 => ?_) (fun h8 => ?_)
    · refine r_aload_n (i := 0) (pc' := 14) dX11_tag_13 rfl rfl (.head _) ?_
      refine r_getR (pc' := 17) dX11_tag_14 rfl fX11_56 rfl (by first | assumption | rfl) (by omega) (by assumption) ?_
      refine r_aload_n (i := 0) (pc' := 18) dX11_tag_17 rfl rfl (.head _) ?_
      refine r_getR (pc' := 21) dX11_tag_18 rfl fX11_10 rfl (by first | assumption | rfl) (by omega) (by assumption) ?_
      refine r_V1gv (ci := 10) (pc' := 24) dX11_tag_21 rfl lX11_211 rfl (by decide) (Nat.le_of_ble_eq_true rfl) (by first | assumption | rfl) (by omega) (tX10_load hb hO ht hap) (fun n21 P21 X21 Y21 e21 le21 => ?_)
      obtain ⟨rfl, rfl, rfl, ho, htl⟩ := e21
      have hTT := TT.of ho hap hO htl
      have hT1 := htl.1
      have hag := ho.ag hap
      have hO1 := bOk_ag hag hO
      have eb : xv X21 b = xv X b := hag.z
      have h40 := hTT.2.1.1.1
      have hmn := hTT.many
      refine r_iload_n (i := 1) (pc' := 25) dX11_tag_24 rfl rfl (.tail _ (.head _)) ?_
      refine r_aload_n (i := 0) (pc' := 26) dX11_tag_25 rfl rfl (.head _) ?_
      refine r_getR (pc' := 29) dX11_tag_26 rfl fX11_56 rfl (by first | assumption | rfl) (by omega) (by assumption) ?_
      refine r_getI (pc' := 32) dX11_tag_29 rfl fX11_376 rfl (by first | assumption | rfl) (by omega) ?_
      refine r_min (pc' := 35) dX11_tag_32 rfl lX11_353 (by decide) (Nat.le_of_ble_eq_true rfl) (by first | omega | exact xv_in _ _ _) (by first | omega | exact xv_in _ _ _) ?_
      refine r_istore_n (i := 2) (pc' := 36) dX11_tag_35 rfl rfl rfl (.s1 (.s1 .nil rfl rfl rfl) rfl rfl rfl) ?_
      refine r_iload_n (i := 2) (pc' := 37) dX11_tag_36 rfl rfl (.tail _ (.tail _ (.head _))) ?_
      refine r_iconst (pc' := 38) dX11_tag_37 rfl ?_
      refine r_icmp_ge (t := 44) (f := 41) dX11_tag_38 (by decide) rfl (by first | omega | exact xv_in _ _ _) (by first | omega | exact xv_in _ _ _) (fun h38 => ?_) (fun h38 => ?_)
      · refine r_iconst (pc' := 45) dX11_tag_44 rfl ?_
        refine r_istore_n (i := 3) (pc' := 46) dX11_tag_45 rfl rfl rfl (.s1 (.s1 (.s1 .nil rfl rfl rfl) rfl rfl rfl) rfl rfl rfl) ?_
        refine r_iconst (pc' := 47) dX11_tag_46 rfl ?_
        refine r_istore (pc' := 49) dX11_tag_47 rfl rfl (.s1 (.s1 (.s1 (.s1 .nil rfl rfl rfl) rfl rfl rfl) rfl rfl rfl) rfl rfl rfl) ?_
        have hf : f_tag X b m = (f_tagS X b (min m (xv X21 453 5)).toNat).tdiv (min m (xv X21 453 5)) := by rw [f_tag, if_neg (by omega), if_neg (by omega), ← hmn]
        obtain ⟨v, N, P', X', Y', ⟨r, hr, a1, a2, a3, a4, a5⟩, hrun⟩ := lX11_tag (m := m) (Y := Y21) (l := l) (g := g) hF hb hO hap ht hTT (pl := min m (xv X21 453 5)) (by omega) _ 0 (Nat.zero_add _)
        exact ⟨v, N, P', X', Y', ⟨r, hr, a1, a2, a3, a4, by rw [a5, hf]⟩, hrun⟩
      · refine r_bipush (pc' := 43) dX11_tag_41 rfl (by decide) ?_
        refine r_ireturn dX11_tag_43 rfl ?_
        refine ⟨_, rfl, rfl, rfl, rfl, by first | exact ho | exact tOut.rfl, ?_⟩
        first
          | rw [f_tag, if_pos (by omega)]
          | rw [f_tag, if_neg (by omega), if_pos (by omega)]
    · refine r_iconst (pc' := 12) dX11_tag_11 rfl ?_
      refine r_ireturn dX11_tag_12 rfl ?_
      refine ⟨_, rfl, rfl, rfl, rfl, by first | exact ho | exact tOut.rfl, ?_⟩
      first
        | rw [f_tag, if_pos (by omega)]
        | rw [f_tag, if_neg (by omega), if_pos (by omega)]
set_option maxHeartbeats 4000000 in
set_option maxRecDepth 100000 in
theorem tX11_counted {l : Launch} {g : q_G} {n : Nat} {P : q_P} {X : q_X} {Y : q_Y} {b : Nat} (hF : isFace n P b) (hb : isBk n P b) (hO : bOk X b) (hap : bApart b) (ht : isTal n P) {w : Int} (hw : q_in w) : q_Met l g mX11_counted 4 [.ref (g.1 + 0), .int (zi w)] n P X Y (q_gi (fun r' n' P' X' Y' => n' = n ∧ P' = P ∧ Y' = Y ∧ tOut X X' ∧ (if w = 0 then cntP X b r' else if w = 1 then r' = f_cntN X b else r' = -1))) := by
  obtain ⟨f0, f2, f3, f4, f5, f6, f7, f8, hn0⟩ := id hF
  obtain ⟨b0, b1, b2, b3, q7, q8, q9, q11, q12, q13, hn, hpro, hmar, hfor, hcs⟩ := id hb
  obtain ⟨o0, o1, o2, o3, o4, o5, o6, o10, oc, op0, opz, opi, om0, omi, olim⟩ := id hO
  obtain ⟨t0, t1, t2, t3, t4, hnt⟩ := id ht
  refine q_enter (L := [(0, .ref (g.1 + 0)), (1, .int (zi w))]) (by decide) (Nat.le_of_ble_eq_true rfl) rfl ?_
  refine r_aload_n (i := 0) (pc' := 1) dX11_counted_0 rfl rfl (.head _) ?_
  refine r_getR (pc' := 4) dX11_counted_1 rfl fX11_56 rfl (by first | assumption | rfl) (by omega) (by assumption) ?_
  refine r_aload_n (i := 0) (pc' := 5) dX11_counted_4 rfl rfl (.head _) ?_
  refine r_getR (pc' := 8) dX11_counted_5 rfl fX11_10 rfl (by first | assumption | rfl) (by omega) (by assumption) ?_
  refine r_V1gv (ci := 10) (pc' := 11) dX11_counted_8 rfl lX11_211 rfl (by decide) (Nat.le_of_ble_eq_true rfl) (by first | assumption | rfl) (by omega) (tX10_load hb hO ht hap) (fun n8 P8 X8 Y8 e8 le8 => ?_)
  obtain ⟨rfl, rfl, rfl, ho, htl⟩ := e8
  have hTT := TT.of ho hap hO htl
  have hT1 := htl.1
  have hag := ho.ag hap
  have hO1 := bOk_ag hag hO
  have eb : xv X8 b = xv X b := hag.z
  refine r_aload_n (i := 0) (pc' := 12) dX11_counted_11 rfl rfl (.head _) ?_
  refine r_getR (pc' := 15) dX11_counted_12 rfl fX11_56 rfl (by first | assumption | rfl) (by omega) (by assumption) ?_
  refine r_getI (pc' := 18) dX11_counted_15 rfl fX11_376 rfl (by first | assumption | rfl) (by omega) ?_
  refine r_aload_n (i := 0) (pc' := 19) dX11_counted_18 rfl rfl (.head _) ?_
  refine r_getR (pc' := 22) dX11_counted_19 rfl fX11_10 rfl (by first | assumption | rfl) (by omega) (by assumption) ?_
  refine r_aload_n (i := 0) (pc' := 23) dX11_counted_22 rfl rfl (.head _) ?_
  refine r_getR (pc' := 26) dX11_counted_23 rfl fX11_10 rfl (by first | assumption | rfl) (by omega) (by assumption) ?_
  refine r_getI (pc' := 29) dX11_counted_26 rfl fX11_138 rfl (by first | assumption | rfl) (by omega) ?_
  rw [eb]
  refine r_V1p (ci := 1) (pc' := 32) dX11_counted_29 rfl lX11_397 rfl (by decide) (Nat.le_of_ble_eq_true rfl) (by first | assumption | rfl) (by omega) (tX1_fullPlaces hb (by omega)) ?_
  rw [bk_full_ag eb]
  have hfb := bk_full_in hO (xv X b 1)
  have h40 := hTT.2.1.1.1
  have hcP := hTT.cntP hO
  have hcN := hTT.cntN hO
  refine r_min (pc' := 35) dX11_counted_32 rfl lX11_353 (by decide) (Nat.le_of_ble_eq_true rfl) (by first | omega | exact xv_in _ _ _) (by first | omega | exact xv_in _ _ _) ?_
  refine r_istore_n (i := 2) (pc' := 36) dX11_counted_35 rfl rfl rfl (.s1 (.s1 .nil rfl rfl rfl) rfl rfl rfl) ?_
  refine r_iload_n (i := 1) (pc' := 37) dX11_counted_36 rfl rfl (.tail _ (.head _)) ?_
  by_cases hs37 : w = 0 ∨ w = 1
  · rcases hs37 with hs37 | hs37
    · refine r_look (t := 64) (off := 27) dX11_counted_37 rfl (by first | omega | exact xv_in _ _ _) (by rw [hs37]; rfl) (by decide) ?_
      refine r_iload_n (i := 2) (pc' := 65) dX11_counted_64 rfl rfl (.tail _ (.tail _ (.head _))) ?_
      refine r_iconst (pc' := 66) dX11_counted_65 rfl ?_
      refine r_icmp_ge (t := 74) (f := 69) dX11_counted_66 (by decide) rfl (by first | omega | exact xv_in _ _ _) (by first | omega | exact xv_in _ _ _) (fun h66 => ?_) (fun h66 => ?_)
      · have hh := hTT.hit hO (j := (min (xv X8 453 5) (bk_full X b (xv X b 1)) - 1).toNat) (by omega)
        refine r_aload_n (i := 0) (pc' := 75) dX11_counted_74 rfl rfl (.head _) ?_
        refine r_getR (pc' := 78) dX11_counted_75 rfl fX11_56 rfl (by first | assumption | rfl) (by omega) (by assumption) ?_
        refine r_getR (pc' := 81) dX11_counted_78 rfl fX11_395 rfl (by first | assumption | rfl) (by omega) (by assumption) ?_
        refine r_aload_n (i := 0) (pc' := 82) dX11_counted_81 rfl rfl (.head _) ?_
        refine r_getR (pc' := 85) dX11_counted_82 rfl fX11_56 rfl (by first | assumption | rfl) (by omega) (by assumption) ?_
        refine r_getR (pc' := 88) dX11_counted_85 rfl fX11_377 rfl (by first | assumption | rfl) (by omega) (by assumption) ?_
        refine r_iload_n (i := 2) (pc' := 89) dX11_counted_88 rfl rfl (.tail _ (.tail _ (.head _))) ?_
        refine r_iconst (pc' := 90) dX11_counted_89 rfl ?_
        refine r_isub (pc' := 91) dX11_counted_90 rfl ?_
        refine r_iaload (pc' := 92) dX11_counted_91 rfl (by first | assumption | rfl) (by omega) (by omega) (by omega) (by first | decide | omega) rfl ?_
        refine r_iaload (pc' := 93) dX11_counted_92 rfl (by first | assumption | rfl) (by omega) (by omega) (by omega) (by first | decide | omega) rfl ?_
        refine r_ireturn dX11_counted_93 rfl ?_
        refine ⟨_, rfl, rfl, rfl, rfl, ho, ?_⟩
        first
          | (rw [if_pos (by assumption)]; first | (rw [if_pos (by omega)] at hcP; exact hcP) | (rw [if_neg (by omega)] at hcP; exact hcP))
          | (rw [if_neg (by omega), if_pos (by assumption)]; exact hcN)
          | (rw [if_neg (by omega), if_neg (by omega)])
      · refine r_bipush (pc' := 71) dX11_counted_69 rfl (by decide) ?_
        refine r_goto (t := 93) dX11_counted_71 (by decide) ?_
        refine r_ireturn dX11_counted_93 rfl ?_
        refine ⟨_, rfl, rfl, rfl, rfl, ho, ?_⟩
        first
          | (rw [if_pos (by assumption)]; first | (rw [if_pos (by omega)] at hcP; exact hcP) | (rw [if_neg (by omega)] at hcP; exact hcP))
          | (rw [if_neg (by omega), if_pos (by assumption)]; exact hcN)
          | (rw [if_neg (by omega), if_neg (by omega)])
    · refine r_look (t := 94) (off := 57) dX11_counted_37 rfl (by first | omega | exact xv_in _ _ _) (by rw [hs37]; rfl) (by decide) ?_
      refine r_aload_n (i := 0) (pc' := 95) dX11_counted_94 rfl rfl (.head _) ?_
      refine r_getR (pc' := 98) dX11_counted_95 rfl fX11_56 rfl (by first | assumption | rfl) (by omega) (by assumption) ?_
      refine r_getI (pc' := 101) dX11_counted_98 rfl fX11_376 rfl (by first | assumption | rfl) (by omega) ?_
      refine r_iload_n (i := 2) (pc' := 102) dX11_counted_101 rfl rfl (.tail _ (.tail _ (.head _))) ?_
      refine r_isub (pc' := 103) dX11_counted_102 rfl ?_
      refine r_ireturn dX11_counted_103 rfl ?_
      refine ⟨_, rfl, rfl, rfl, rfl, ho, ?_⟩
      first
        | (rw [if_pos (by assumption)]; first | (rw [if_pos (by omega)] at hcP; exact hcP) | (rw [if_neg (by omega)] at hcP; exact hcP))
        | (rw [if_neg (by omega), if_pos (by assumption)]; exact hcN)
        | (rw [if_neg (by omega), if_neg (by omega)])
  · refine r_look (t := 104) (off := 67) dX11_counted_37 rfl (by first | omega | exact xv_in _ _ _) (by simp [Op.lookupswitch.offset]; omega) (by decide) ?_
    refine r_iconst (pc' := 105) dX11_counted_104 rfl ?_
    refine r_ireturn dX11_counted_105 rfl ?_
    refine ⟨_, rfl, rfl, rfl, rfl, ho, ?_⟩
    first
      | (rw [if_pos (by assumption)]; first | (rw [if_pos (by omega)] at hcP; exact hcP) | (rw [if_neg (by omega)] at hcP; exact hcP))
      | (rw [if_neg (by omega), if_pos (by assumption)]; exact hcN)
      | (rw [if_neg (by omega), if_neg (by omega)])
set_option maxHeartbeats 4000000 in
set_option maxRecDepth 100000 in
theorem tX11_dayIfSaved {l : Launch} {g : q_G} {n : Nat} {P : q_P} {X : q_X} {Y : q_Y} {X0 : q_X} {b : Nat} {k much day : Int} (hF : isFace n P b) (hb : isBk n P b) (hO0 : bOk X0 b) (hap : bApart b) (ht : isTal n P) (hk : bk_ref X0 b k = 0) (hi : q_in k) (hmu : q_in much) (hd : -1 ≤ day ∧ day ≤ 400) (hTT : TT X0 X b g0 g0) : q_Met l g mX11_dayIfSaved 5 [.ref (g.1 + 0), .int (zi k), .int (zi much), .int (zi day)] n P X Y (q_pv (.int (zi (f_dis X0 b k much day))) n P X Y) := by
  have ho := hTT.1
  have hag := ho.ag hap
  have hO := bOk_ag hag hO0
  have eb : xv X b = xv X0 b := hag.z
  have hT1 := hTT.2.1.1
  have hh := bk_ref_has hk
  have hsb := bk_sav_b hO0 (k := k.toNat) (by omega) day
  obtain ⟨f0, f2, f3, f4, f5, f6, f7, f8, hn0⟩ := id hF
  obtain ⟨b0, b1, b2, b3, q7, q8, q9, q11, q12, q13, hn, hpro, hmar, hfor, hcs⟩ := id hb
  obtain ⟨o0, o1, o2, o3, o4, o5, o6, o10, oc, op0, opz, opi, om0, omi, olim⟩ := id hO
  obtain ⟨t0, t1, t2, t3, t4, hnt⟩ := id ht
  have o1' := hO0.2.1
  refine q_enter (L := [(0, .ref (g.1 + 0)), (1, .int (zi k)), (2, .int (zi much)), (3, .int (zi day))]) (by decide) (Nat.le_of_ble_eq_true rfl) rfl ?_
  refine r_iload_n (i := 3) (pc' := 1) dX11_dayIfSaved_0 rfl rfl (.tail _ (.tail _ (.tail _ (.head _)))) ?_
  refine r_aload_n (i := 0) (pc' := 2) dX11_dayIfSaved_1 rfl rfl (.head _) ?_
  refine r_getR (pc' := 5) dX11_dayIfSaved_2 rfl fX11_10 rfl (by first | assumption | rfl) (by omega) (by assumption) ?_
  refine r_getI (pc' := 8) dX11_dayIfSaved_5 rfl fX11_138 rfl (by first | assumption | rfl) (by omega) ?_
  rw [eb]
  refine r_icmp_lt (t := 32) (f := 11) dX11_dayIfSaved_8 (by decide) rfl (by first | omega | exact xv_in _ _ _) (by first | omega | exact xv_in _ _ _) (fun h8 => ?_) (fun h8 => ?_)
  · refine r_bipush (pc' := 34) dX11_dayIfSaved_32 rfl (by decide) ?_
    refine r_ireturn dX11_dayIfSaved_34 rfl ?_
    refine ⟨?_, rfl, rfl, rfl, rfl⟩
    unfold f_dis
    (repeat' split) <;> first | rfl | (exfalso; omega) | (congr 3; omega)
  · refine r_aload_n (i := 0) (pc' := 12) dX11_dayIfSaved_11 rfl rfl (.head _) ?_
    refine r_getR (pc' := 15) dX11_dayIfSaved_12 rfl fX11_56 rfl (by first | assumption | rfl) (by omega) (by assumption) ?_
    refine r_aload_n (i := 0) (pc' := 16) dX11_dayIfSaved_15 rfl rfl (.head _) ?_
    refine r_getR (pc' := 19) dX11_dayIfSaved_16 rfl fX11_10 rfl (by first | assumption | rfl) (by omega) (by assumption) ?_
    refine r_iload_n (i := 1) (pc' := 20) dX11_dayIfSaved_19 rfl rfl (.tail _ (.head _)) ?_
    refine r_iload_n (i := 3) (pc' := 21) dX11_dayIfSaved_20 rfl rfl (.tail _ (.tail _ (.tail _ (.head _)))) ?_
    refine r_V3p (ci := 10) (pc' := 24) dX11_dayIfSaved_21 rfl lX11_236 rfl (by decide) (Nat.le_of_ble_eq_true rfl) (by first | assumption | rfl) (by omega) (tX10_saved hb hO ht hT1 hap (by omega) (by omega) (fun _ => by rw [t_tot_g hTT.s (by omega)])) ?_
    rw [hTT.sav hap hO0 hk]
    refine r_iload_n (i := 2) (pc' := 25) dX11_dayIfSaved_24 rfl rfl (.tail _ (.tail _ (.head _))) ?_
    refine r_icmp_lt (t := 32) (f := 28) dX11_dayIfSaved_25 (by decide) rfl (by first | omega | exact xv_in _ _ _) (by first | omega | exact xv_in _ _ _) (fun h25 => ?_) (fun h25 => ?_)
    · refine r_bipush (pc' := 34) dX11_dayIfSaved_32 rfl (by decide) ?_
      refine r_ireturn dX11_dayIfSaved_34 rfl ?_
      refine ⟨?_, rfl, rfl, rfl, rfl⟩
      unfold f_dis
      (repeat' split) <;> first | rfl | (exfalso; omega) | (congr 3; omega)
    · refine r_iload_n (i := 3) (pc' := 29) dX11_dayIfSaved_28 rfl rfl (.tail _ (.tail _ (.tail _ (.head _)))) ?_
      refine r_goto (t := 34) dX11_dayIfSaved_29 (by decide) ?_
      refine r_ireturn dX11_dayIfSaved_34 rfl ?_
      refine ⟨?_, rfl, rfl, rfl, rfl⟩
      unfold f_dis
      (repeat' split) <;> first | rfl | (exfalso; omega) | (congr 3; omega)
set_option maxHeartbeats 4000000 in
set_option maxRecDepth 100000 in
theorem tX11_lastDay {l : Launch} {g : q_G} {n : Nat} {P : q_P} {X : q_X} {Y : q_Y} {b : Nat} (hF : isFace n P b) (hb : isBk n P b) (hO : bOk X b) (hap : bApart b) (ht : isTal n P) {k m : Int} (hi : q_in k) (hm : q_in m) : q_Met l g mX11_lastDay 6 [.ref (g.1 + 0), .int (zi k), .int (zi m)] n P X Y (q_it (f_last X b k m) n P X Y) := by
  obtain ⟨f0, f2, f3, f4, f5, f6, f7, f8, hn0⟩ := id hF
  obtain ⟨b0, b1, b2, b3, q7, q8, q9, q11, q12, q13, hn, hpro, hmar, hfor, hcs⟩ := id hb
  obtain ⟨o0, o1, o2, o3, o4, o5, o6, o10, oc, op0, opz, opi, om0, omi, olim⟩ := id hO
  obtain ⟨t0, t1, t2, t3, t4, hnt⟩ := id ht
  refine q_enter (L := [(0, .ref (g.1 + 0)), (1, .int (zi k)), (2, .int (zi m))]) (by decide) (Nat.le_of_ble_eq_true rfl) rfl ?_
  refine r_aload_n (i := 0) (pc' := 1) dX11_lastDay_0 rfl rfl (.head _) ?_
  refine r_getR (pc' := 4) dX11_lastDay_1 rfl fX11_10 rfl (by first | assumption | rfl) (by omega) (by assumption) ?_
  refine r_iload_n (i := 1) (pc' := 5) dX11_lastDay_4 rfl rfl (.tail _ (.head _)) ?_
  by_cases hk : bk_ref X b k = 0
  · have hh := bk_ref_has hk
    have hc := hb.c (k := k.toNat) (by omega)
    obtain ⟨s0, s1, s2, s3, s4, p6, p7, p8, p9, hnc⟩ := id hc
    have hck := hO.c (k := k.toNat) (by omega)
    obtain ⟨hf, hf2, hf3, hf4, hfj, hfs, hfg⟩ := id hck
    have hd1 : q_in (f_dis X b k m 364) := by unfold f_dis; split <;> omega
    have hd2 : q_in (f_dis X b k m (xv X b 3 - 1)) := by unfold f_dis; split <;> omega
    refine r_V1p (ci := 1) (pc' := 8) dX11_lastDay_5 rfl lX11_222 rfl (by decide) (Nat.le_of_ble_eq_true rfl) (by first | assumption | rfl) (by omega) (tX1_findBegun (by assumption) (by assumption) (by first | assumption | omega) (by assumption)) ?_
    refine r_ifnonnull (t := 13) dX11_lastDay_8 (by decide) ?_
    refine r_aload_n (i := 0) (pc' := 14) dX11_lastDay_13 rfl rfl (.head _) ?_
    refine r_getR (pc' := 17) dX11_lastDay_14 rfl fX11_56 rfl (by first | assumption | rfl) (by omega) (by assumption) ?_
    refine r_aload_n (i := 0) (pc' := 18) dX11_lastDay_17 rfl rfl (.head _) ?_
    refine r_getR (pc' := 21) dX11_lastDay_18 rfl fX11_10 rfl (by first | assumption | rfl) (by omega) (by assumption) ?_
    refine r_V1gv (ci := 10) (pc' := 24) dX11_lastDay_21 rfl lX11_211 rfl (by decide) (Nat.le_of_ble_eq_true rfl) (by first | assumption | rfl) (by omega) (tX10_load hb hO ht hap) (fun n21 P21 X21 Y21 e21 le21 => ?_)
    obtain ⟨rfl, rfl, rfl, ho, htl⟩ := e21
    have hTT := TT.of ho hap hO htl
    have hT1 := htl.1
    have hag := ho.ag hap
    have hO1 := bOk_ag hag hO
    have eb : xv X21 b = xv X b := hag.z
    refine r_aload_n (i := 0) (pc' := 25) dX11_lastDay_24 rfl rfl (.head _) ?_
    refine r_iload_n (i := 1) (pc' := 26) dX11_lastDay_25 rfl rfl (.tail _ (.head _)) ?_
    refine r_iload_n (i := 2) (pc' := 27) dX11_lastDay_26 rfl rfl (.tail _ (.tail _ (.head _))) ?_
    refine r_sipush (pc' := 30) dX11_lastDay_27 rfl (by decide) ?_
    refine r_V3p (ci := 11) (pc' := 33) dX11_lastDay_30 rfl lX11_386 rfl (by decide) (Nat.le_of_ble_eq_true rfl) (by first | assumption | rfl) (by omega) (tX11_dayIfSaved hF hb hO hap ht hk (by omega) (by omega) (by omega) hTT) ?_
    refine r_aload_n (i := 0) (pc' := 34) dX11_lastDay_33 rfl rfl (.head _) ?_
    refine r_iload_n (i := 1) (pc' := 35) dX11_lastDay_34 rfl rfl (.tail _ (.head _)) ?_
    refine r_iload_n (i := 2) (pc' := 36) dX11_lastDay_35 rfl rfl (.tail _ (.tail _ (.head _))) ?_
    refine r_aload_n (i := 0) (pc' := 37) dX11_lastDay_36 rfl rfl (.head _) ?_
    refine r_getR (pc' := 40) dX11_lastDay_37 rfl fX11_10 rfl (by first | assumption | rfl) (by omega) (by assumption) ?_
    refine r_getI (pc' := 43) dX11_lastDay_40 rfl fX11_144 rfl (by first | assumption | rfl) (by omega) ?_
    rw [eb]
    refine r_iconst (pc' := 44) dX11_lastDay_43 rfl ?_
    refine r_isub (pc' := 45) dX11_lastDay_44 rfl ?_
    refine r_V3p (ci := 11) (pc' := 48) dX11_lastDay_45 rfl lX11_386 rfl (by decide) (Nat.le_of_ble_eq_true rfl) (by first | assumption | rfl) (by omega) (tX11_dayIfSaved hF hb hO hap ht hk (by omega) (by omega) (by omega) hTT) ?_
    refine r_max (pc' := 51) dX11_lastDay_48 rfl lX11_358 (by decide) (Nat.le_of_ble_eq_true rfl) (by first | omega | assumption) (by first | omega | assumption) ?_
    refine r_ireturn dX11_lastDay_51 rfl ?_
    refine ⟨_, rfl, rfl, rfl, rfl, by first | exact ho | exact tOut.rfl, ?_⟩
    first
      | rw [f_last, if_pos hk]
      | rw [f_last, if_neg (fun q => q hk)]
  · refine r_V1p (ci := 1) (pc' := 8) dX11_lastDay_5 rfl lX11_222 rfl (by decide) (Nat.le_of_ble_eq_true rfl) (by first | assumption | rfl) (by omega) (tX1_findBegunN (by assumption) (by assumption) (by first | assumption | omega) (by assumption)) ?_
    refine r_ifnonnullN (pc' := 11) dX11_lastDay_8 rfl ?_
    refine r_iconst (pc' := 12) dX11_lastDay_11 rfl ?_
    refine r_ireturn dX11_lastDay_12 rfl ?_
    refine ⟨_, rfl, rfl, rfl, rfl, by first | exact ho | exact tOut.rfl, ?_⟩
    first
      | rw [f_last, if_pos hk]
      | rw [f_last, if_neg (fun q => q hk)]
