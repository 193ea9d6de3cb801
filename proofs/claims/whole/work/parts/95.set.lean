/-! sets of the first ones that can be cut -/
def sL (X : q_X) (L : List Nat) : Prop := xv X 467 21 = (L.length : Int) ∧ ∀ i, i < L.length → xv X 478 i = (wAt L i : Int)
/-- hits and some alone are changed -/
def aOut (X X' : q_X) : Prop := ∀ a j, a ≠ 475 → a ≠ 476 → a ≠ 477 → a ≠ 478 → ¬ (a = 467 ∧ j = 21) → X' a j = X a j
theorem aOut.rfl {X : q_X} : aOut X X := fun _ _ _ _ _ _ _ => Eq.refl _
theorem aOut.trans {X X' X2 : q_X} (h : aOut X X') (h2 : aOut X' X2) : aOut X X2 := fun a j a1 a2 a3 a4 a5 => (h2 a j a1 a2 a3 a4 a5).trans (h a j a1 a2 a3 a4 a5)
theorem hOut.a {X X' : q_X} (h : hOut X X') : aOut X X' := fun a j a1 a2 a3 _ _ => by rw [h a a1 a2 a3]
theorem aOut.v {X X' : q_X} (h : aOut X X') {a : Nat} (ha : a = 468 ∨ a = 470) : xv X' a = xv X a := by funext j; simp only [xv]; rw [h a j (by omega) (by omega) (by omega) (by omega) (by omega)]
theorem sL.h {X X' : q_X} {L : List Nat} (h : sL X L) (ho : hOut X X') : sL X' L := by
  unfold sL; rw [ho.v (by omega), ho.v (by omega)]; exact h
theorem q_sum_gS {C : q_X} {b s N : Nat} {L : List Nat} (hL : LOk C b L) (hN : ∀ i, i < L.length → wAt L i < N) (f : Nat → Int) : q_sum (fun k => if gS L s k = true then f k else 0) 0 N = p_sumS (fun i => f (wAt L i)) s L.length := by
  have e1 : q_sum (fun k => if gS L s k = true then f k else 0) 0 N = q_sum (fun k => q_sum (fun i => if k = wAt L i then (if p_bit s i then f (wAt L i) else 0) else 0) 0 L.length) 0 N := by
    refine q_sum_congr _ _ (fun k _ _ => ?_)
    by_cases hg : gS L s k = true
    · obtain ⟨i, i1, i2, i3⟩ := (gS_iff L s k).mp hg
      have e := q_sum_congr (f := fun j => if k = wAt L j then (if p_bit s j then f (wAt L j) else 0) else 0) (h := fun j => if j = i then f k else 0) L.length 0 (fun j _ hj => by
        by_cases q : j = i
        · subst q; rw [if_pos i2.symm, if_pos i3, if_pos rfl, i2]
        · have : ¬ k = wAt L j := fun z => by
            rcases Nat.lt_or_gt_of_ne q with u | u
            · have := hL.2.2 j i u i1; omega
            · have := hL.2.2 i j u (by omega); omega
          rw [if_neg this, if_neg q])
      rw [if_pos hg, e, q_sum_ind _ _ i1]
    · rw [if_neg hg, q_sum_0 _ _ (fun j _ hj => by
        by_cases q : k = wAt L j
        · rw [if_pos q]
          by_cases u : p_bit s j
          · exact absurd ((gS_iff L s k).mpr ⟨j, by omega, q.symm, u⟩) hg
          · rw [if_neg u]
        · rw [if_neg q])]
  rw [e1, q_sum_swap (fun k i => if k = wAt L i then (if p_bit s i then f (wAt L i) else 0) else 0), p_sumS]
  refine q_sum_congr _ _ (fun i _ hi => ?_)
  try dsimp only
  rw [q_sum_ind _ _ (hN i (by omega))]
theorem roomG_set {C : q_X} {b s : Nat} {L : List Nat} (hL : LOk C b L) (T : Nat → Bool) : roomG C b (gS L s) T = bk_room C b (gS L s) T - ch_now C b L s := by
  have e := q_sum_gS (s := s) (N := (xv C b 10).toNat) hL (fun i hi => by have := (hL.2.1 i hi).1; omega) (fun k => bk_dead C b (con b k) (xv C b 1))
  unfold roomG bk_room cnG ch_now
  rw [e]; omega
def gU (L : List Nat) (s i k : Nat) : Bool := (List.range i).any (fun j => wAt L j == k && s / 2 ^ j % 2 == 1)
theorem gU_0 (L : List Nat) (s k : Nat) : gU L s 0 k = false := by simp [gU]
theorem gU_s (L : List Nat) (s i k : Nat) : gU L s (i + 1) k = (gU L s i k || (wAt L i == k && s / 2 ^ i % 2 == 1)) := by
  simp only [gU, List.range_succ, List.any_append, List.any_cons, List.any_nil, Bool.or_false]
def sR (bt lt : Int) (r : Bool × Int × Nat) : Prop := (r.1 = true ∧ bt = (r.2.2 : Int) ∧ lt = r.2.1) ∨ (r.1 = false ∧ bt = -2)
set_option maxHeartbeats 4000000 in
set_option maxRecDepth 100000 in
theorem lX12_bits {l : Launch} {g : q_G} {n : Nat} {P : q_P} {X : q_X} {Y : q_Y} {st : Nat} (hst : st < 10000) {r : Int} : ∀ (w i : Nat) (s : Int), i + w = 10 → s + q_sum (fun i => ((st / 2 ^ i % 2 : Nat) : Int)) i w = r → q_Tr l g mX12_bits 0 (q_pv (.int (zi r)) n P X Y) 4 [(0, .int (zi (st : Int))), (1, .int (zi s)), (2, .int (zi (i : Int)))] [] n P X Y := by
  skip
  intro w
  induction w with
  | zero =>
    intro i s hk hr
    refine r_iload_n (i := 2) (pc' := 5) dX12_bits_4 rfl rfl (.tail _ (.tail _ (.head _))) ?_
    refine r_bipush (pc' := 7) dX12_bits_5 rfl (by decide) ?_
    refine r_icmp_ge (t := 24) (f := 10) dX12_bits_7 (by decide) rfl (by first | omega | exact xv_in _ _ _) (by first | omega | exact xv_in _ _ _) (fun h7 => ?_) (fun h7 => ?_)
    · refine r_iload_n (i := 1) (pc' := 25) dX12_bits_24 rfl rfl (.tail _ (.head _)) ?_
      refine r_ireturn dX12_bits_25 rfl ?_
      refine ⟨?_, rfl, rfl, rfl, rfl⟩
      rw [← hr]; simp [q_sum]
    · exfalso; omega
  | succ w ih =>
    intro i s hk hr
    refine r_iload_n (i := 2) (pc' := 5) dX12_bits_4 rfl rfl (.tail _ (.tail _ (.head _))) ?_
    refine r_bipush (pc' := 7) dX12_bits_5 rfl (by decide) ?_
    refine r_icmp_ge (t := 24) (f := 10) dX12_bits_7 (by decide) rfl (by first | omega | exact xv_in _ _ _) (by first | omega | exact xv_in _ _ _) (fun h7 => ?_) (fun h7 => ?_)
    · exfalso; omega
    · refine r_iload_n (i := 1) (pc' := 11) dX12_bits_10 rfl rfl (.tail _ (.head _)) ?_
      refine r_iload_n (i := 0) (pc' := 12) dX12_bits_11 rfl rfl (.head _) ?_
      refine r_iload_n (i := 2) (pc' := 13) dX12_bits_12 rfl rfl (.tail _ (.tail _ (.head _))) ?_
      refine r_ishr (pc' := 14) dX12_bits_13 rfl (p_shr (by omega) (by omega)) ?_
      refine r_iconst (pc' := 15) dX12_bits_14 rfl ?_
      refine r_iand (pc' := 16) dX12_bits_15 rfl (p_and1 _) ?_
      refine r_iadd (pc' := 17) dX12_bits_16 rfl ?_
      refine r_istore_n (i := 1) (pc' := 18) dX12_bits_17 rfl rfl rfl (.s1 (.here (.s1 .nil rfl rfl rfl)) rfl rfl rfl) ?_
      refine r_iinc (pc' := 21) dX12_bits_18 rfl rfl (.tail _ (.tail _ (.head _))) (.s1 (.s1 (.here .nil) rfl rfl rfl) rfl rfl rfl) ?_
      refine r_goto (t := 4) dX12_bits_21 (by decide) ?_
      refine ih (i + 1) _ (by omega) ?_
      rw [← hr, q_sum]; omega
set_option maxHeartbeats 4000000 in
set_option maxRecDepth 100000 in
theorem tX12_bits {l : Launch} {g : q_G} {n : Nat} {P : q_P} {X : q_X} {Y : q_Y} {st : Nat} (hst : st < 10000) : q_Met l g mX12_bits 0 [.int (zi (st : Int))] n P X Y (q_pv (.int (zi (q_sum (fun i => ((st / 2 ^ i % 2 : Nat) : Int)) 0 (10)))) n P X Y) := by
  skip
  refine q_enter (L := [(0, .int (zi (st : Int)))]) (by decide) (Nat.le_of_ble_eq_true rfl) rfl ?_
  refine r_iconst (pc' := 1) dX12_bits_0 rfl ?_
  refine r_istore_n (i := 1) (pc' := 2) dX12_bits_1 rfl rfl rfl (.s1 .nil rfl rfl rfl) ?_
  refine r_iconst (pc' := 3) dX12_bits_2 rfl ?_
  refine r_istore_n (i := 2) (pc' := 4) dX12_bits_3 rfl rfl rfl (.s1 (.s1 .nil rfl rfl rfl) rfl rfl rfl) ?_
  exact lX12_bits hst (10) 0 _ (by omega) (Int.zero_add _)
set_option maxHeartbeats 4000000 in
set_option maxRecDepth 100000 in
theorem lX12_laySome {l : Launch} {g : q_G} {n : Nat} {P : q_P} {Y : q_Y} (hm : isMod n P) {C : q_X} {b : Nat} (hO : bOk C b) {m : Nat} (hm10 : m ≤ 10) {X0 : q_X} : ∀ (w i : Nat) (X : q_X), i + w = (xv C b 10).toNat → aOut X0 X → RB C b (xv X 468) → sL X (whoL C b m i) → q_Tr l g mX12_laySome 4 (q_gv (fun n' P' X' Y' => n' = n ∧ P' = P ∧ Y' = Y ∧ aOut X0 X' ∧ sL X' (whoA C b m))) 7 [(0, .ref (g.1 + 467)), (1, .int (zi (m : Int))), (2, .int (zi (i : Int)))] [] n P X Y := by
  obtain ⟨m0, m2, m3, m8, m9, m14, m15, m16, m17, m18, m20, m22, m25, hnm9⟩ := id hm
  obtain ⟨o0, o1, o2, o3, o4, o5, o6, o10, oc, op0, opz, opi, om0, omi, olim⟩ := id hO
  intro w
  induction w with
  | zero =>
    intro i X hi ho hR hS
    refine r_iload_n (i := 2) (pc' := 8) dX12_laySome_7 rfl rfl (.tail _ (.tail _ (.head _))) ?_
    refine r_aload_n (i := 0) (pc' := 9) dX12_laySome_8 rfl rfl (.head _) ?_
    refine r_getR (pc' := 12) dX12_laySome_9 rfl fX12_3 rfl (by first | assumption | rfl) (by omega) (by assumption) ?_
    refine r_bipush (pc' := 14) dX12_laySome_12 rfl (by decide) ?_
    refine r_iaload (pc' := 15) dX12_laySome_14 rfl (by first | assumption | rfl) (by omega) (by omega) (by omega) (by first | decide | omega) (show Int.toNat 7 = 7 from rfl) ?_
    rw [hR.m]
    refine r_icmp_ge (t := 63) (f := 18) dX12_laySome_15 (by decide) rfl (by first | omega | exact xv_in _ _ _) (by first | omega | exact xv_in _ _ _) (fun h15 => ?_) (fun h15 => ?_)
    · refine r_return dX12_laySome_63 rfl ?_
      rw [show i = (xv C b 10).toNat by omega] at hS
      exact ⟨rfl, rfl, rfl, rfl, ho, hS⟩
    · exfalso; omega
  | succ w ih =>
    intro i X hi ho hR hS
    have hln := whoL_len C b m i
    have z21 := hS.1
    generalize hs : (whoL C b m i).length = s at hln z21
    have ih := ih (i + 1)
    rw [whoL] at ih
    refine r_iload_n (i := 2) (pc' := 8) dX12_laySome_7 rfl rfl (.tail _ (.tail _ (.head _))) ?_
    refine r_aload_n (i := 0) (pc' := 9) dX12_laySome_8 rfl rfl (.head _) ?_
    refine r_getR (pc' := 12) dX12_laySome_9 rfl fX12_3 rfl (by first | assumption | rfl) (by omega) (by assumption) ?_
    refine r_bipush (pc' := 14) dX12_laySome_12 rfl (by decide) ?_
    refine r_iaload (pc' := 15) dX12_laySome_14 rfl (by first | assumption | rfl) (by omega) (by omega) (by omega) (by first | decide | omega) (show Int.toNat 7 = 7 from rfl) ?_
    rw [hR.m]
    refine r_icmp_ge (t := 63) (f := 18) dX12_laySome_15 (by decide) rfl (by first | omega | exact xv_in _ _ _) (by first | omega | exact xv_in _ _ _) (fun h15 => ?_) (fun h15 => ?_)
    · exfalso; omega
    · refine r_aload_n (i := 0) (pc' := 19) dX12_laySome_18 rfl rfl (.head _) ?_
      refine r_getI (pc' := 22) dX12_laySome_19 rfl fX12_333 rfl (by first | assumption | rfl) (by omega) ?_
      rw [z21]
      refine r_iload_n (i := 1) (pc' := 23) dX12_laySome_22 rfl rfl (.tail _ (.head _)) ?_
      refine r_icmp_ge (t := 63) (f := 26) dX12_laySome_23 (by decide) rfl (by first | omega | exact xv_in _ _ _) (by first | omega | exact xv_in _ _ _) (fun h23 => ?_) (fun h23 => ?_)
      · refine r_return dX12_laySome_63 rfl ?_
        refine ⟨rfl, rfl, rfl, rfl, ho, ?_⟩
        have := whoL_full C b m i (by omega) (w + 1)
        rw [hi] at this
        rw [whoA, this]; exact hS
      · refine r_aload_n (i := 0) (pc' := 27) dX12_laySome_26 rfl rfl (.head _) ?_
        refine r_iload_n (i := 2) (pc' := 28) dX12_laySome_27 rfl rfl (.tail _ (.tail _ (.head _))) ?_
        refine r_V1p (ci := 12) (pc' := 31) dX12_laySome_28 rfl lX12_261 rfl (by decide) (Nat.le_of_ble_eq_true rfl) (by first | assumption | rfl) (by omega) (tX12_canCut (by assumption) (by assumption) (by assumption) (by first | omega | assumption)) ?_
        refine r_bif_ne (t := 37) (f := 34) dX12_laySome_31 (by decide) rfl (fun h31 => ?_) (fun h31 => ?_)
        · refine r_aload_n (i := 0) (pc' := 38) dX12_laySome_37 rfl rfl (.head _) ?_
          refine r_getR (pc' := 41) dX12_laySome_38 rfl fX12_48 rfl (by first | assumption | rfl) (by omega) (by assumption) ?_
          refine r_aload_n (i := 0) (pc' := 42) dX12_laySome_41 rfl rfl (.head _) ?_
          refine r_getI (pc' := 45) dX12_laySome_42 rfl fX12_333 rfl (by first | assumption | rfl) (by omega) ?_
          rw [z21]
          refine r_iload_n (i := 2) (pc' := 46) dX12_laySome_45 rfl rfl (.tail _ (.tail _ (.head _))) ?_
          refine r_iastore (pc' := 47) dX12_laySome_46 rfl (by first | assumption | rfl) (by omega) (by omega) (by omega) (by first | decide | omega) (Int.toNat_natCast _) ?_
          refine r_aload_n (i := 0) (pc' := 48) dX12_laySome_47 rfl rfl (.head _) ?_
          refine r_dup (pc' := 49) dX12_laySome_48 rfl rfl ?_
          refine r_getI (pc' := 52) dX12_laySome_49 rfl fX12_333 rfl (by first | assumption | rfl) (by omega) ?_
          rw [xv_up_ne _ _ (by omega), z21]
          refine r_iconst (pc' := 53) dX12_laySome_52 rfl ?_
          refine r_iadd (pc' := 54) dX12_laySome_53 rfl ?_
          refine r_putI (pc' := 57) dX12_laySome_54 rfl fX12_333 rfl (by first | assumption | rfl) (by omega) rfl rfl ?_
          refine r_iinc (pc' := 60) dX12_laySome_57 rfl rfl (.tail _ (.tail _ (.head _))) (.s1 (.s1 (.here .nil) rfl rfl rfl) rfl rfl rfl) ?_
          refine r_goto (t := 7) dX12_laySome_60 (by decide) ?_
          first
            | (rw [if_neg (fun q => by have := q.2; omega)] at ih
               exact ih X (by omega) ho hR hS)
            | (rw [if_pos ⟨by omega, by assumption⟩] at ih
               refine ih _ (by omega) ?_ ?_ ⟨?_, fun j hj => ?_⟩
               · intro a q a1 a2 a3 a4 a5
                 rw [q_up_ne _ _ (by omega), q_up_ne _ _ (by omega)]; exact ho a q a1 a2 a3 a4 a5
               · rw [xv_up_row _ _ _ (by omega), xv_up_row _ _ _ (by omega)]; exact hR
               · rw [xv_up_same _ _ _ (by omega), List.length_append, List.length_singleton, hs]; omega
               · rw [List.length_append, List.length_singleton, hs] at hj
                 rw [xv_up_ne _ _ (by omega)]
                 by_cases e : j = s
                 · subst e; rw [xv_up_same _ _ _ (by omega), ← hs, wAt_end]
                 · rw [xv_up_ne _ _ (by omega), wAt_app _ _ (by omega)]; exact hS.2 j (by omega))
        · refine r_goto (t := 57) dX12_laySome_34 (by decide) ?_
          refine r_iinc (pc' := 60) dX12_laySome_57 rfl rfl (.tail _ (.tail _ (.head _))) (.s1 (.s1 (.here .nil) rfl rfl rfl) rfl rfl rfl) ?_
          refine r_goto (t := 7) dX12_laySome_60 (by decide) ?_
          first
            | (rw [if_neg (fun q => by have := q.2; omega)] at ih
               exact ih X (by omega) ho hR hS)
            | (rw [if_pos ⟨by omega, by assumption⟩] at ih
               refine ih _ (by omega) ?_ ?_ ⟨?_, fun j hj => ?_⟩
               · intro a q a1 a2 a3 a4 a5
                 rw [q_up_ne _ _ (by omega), q_up_ne _ _ (by omega)]; exact ho a q a1 a2 a3 a4 a5
               · rw [xv_up_row _ _ _ (by omega), xv_up_row _ _ _ (by omega)]; exact hR
               · rw [xv_up_same _ _ _ (by omega), List.length_append, List.length_singleton, hs]; omega
               · rw [List.length_append, List.length_singleton, hs] at hj
                 rw [xv_up_ne _ _ (by omega)]
                 by_cases e : j = s
                 · subst e; rw [xv_up_same _ _ _ (by omega), ← hs, wAt_end]
                 · rw [xv_up_ne _ _ (by omega), wAt_app _ _ (by omega)]; exact hS.2 j (by omega))
set_option maxHeartbeats 4000000 in
set_option maxRecDepth 100000 in
theorem tX12_laySome {l : Launch} {g : q_G} {n : Nat} {P : q_P} {X : q_X} {Y : q_Y} (hm : isMod n P) {C : q_X} {b : Nat} (hR : RB C b (xv X 468)) (hO : bOk C b) {m : Nat} (hm10 : m ≤ 10) : q_Met l g mX12_laySome 4 [.ref (g.1 + 467), .int (zi (m : Int))] n P X Y (q_gv (fun n' P' X' Y' => n' = n ∧ P' = P ∧ Y' = Y ∧ aOut X X' ∧ sL X' (whoA C b m))) := by
  obtain ⟨m0, m2, m3, m8, m9, m14, m15, m16, m17, m18, m20, m22, m25, hnm9⟩ := id hm
  obtain ⟨o0, o1, o2, o3, o4, o5, o6, o10, oc, op0, opz, opi, om0, omi, olim⟩ := id hO
  refine q_enter (L := [(0, .ref (g.1 + 467)), (1, .int (zi (m : Int)))]) (by decide) (Nat.le_of_ble_eq_true rfl) rfl ?_
  refine r_aload_n (i := 0) (pc' := 1) dX12_laySome_0 rfl rfl (.head _) ?_
  refine r_iconst (pc' := 2) dX12_laySome_1 rfl ?_
  refine r_putI (pc' := 5) dX12_laySome_2 rfl fX12_333 rfl (by first | assumption | rfl) (by omega) rfl rfl ?_
  refine r_iconst (pc' := 6) dX12_laySome_5 rfl ?_
  refine r_istore_n (i := 2) (pc' := 7) dX12_laySome_6 rfl rfl rfl (.s1 (.s1 .nil rfl rfl rfl) rfl rfl rfl) ?_
  refine lX12_laySome hm hO hm10 _ 0 _ (Nat.zero_add _) ?_ ?_ ⟨?_, fun j hj => ?_⟩
  · intro a q a1 a2 a3 a4 a5
    rw [q_up_ne _ _ (by omega)]
  · rw [xv_up_row _ _ _ (by omega)]; exact hR
  · rw [xv_up_same _ _ _ (by omega)]; rfl
  · simp [whoL] at hj
set_option maxHeartbeats 4000000 in
set_option maxRecDepth 100000 in
theorem lX12_deadOf {l : Launch} {g : q_G} {n : Nat} {P : q_P} {X : q_X} {Y : q_Y} (hm : isMod n P) {C : q_X} {b : Nat} (hR : RB C b (xv X 468)) (hO : bOk C b) {L : List Nat} (hS : sL X L) (hL : LOk C b L) {st : Nat} (hst : st < 10000) {r : Int} : ∀ (w i : Nat) (s : Int), i + w = L.length → s + q_sum (fun i => if p_bit st i then bk_all C b (con b (wAt L i)) else 0) i w = r → q_Tr l g mX12_deadOf 5 (q_pv (.int (zi r)) n P X Y) 4 [(0, .ref (g.1 + 467)), (1, .int (zi (st : Int))), (2, .int (zi s)), (3, .int (zi (i : Int)))] [] n P X Y := by
  obtain ⟨m0, m2, m3, m8, m9, m14, m15, m16, m17, m18, m20, m22, m25, hnm9⟩ := id hm
  obtain ⟨o0, o1, o2, o3, o4, o5, o6, o10, oc, op0, opz, opi, om0, omi, olim⟩ := id hO
  have hl10 := hL.1
  intro w
  induction w with
  | zero =>
    intro i s hk hr
    refine r_iload_n (i := 3) (pc' := 5) dX12_deadOf_4 rfl rfl (.tail _ (.tail _ (.tail _ (.head _)))) ?_
    refine r_aload_n (i := 0) (pc' := 6) dX12_deadOf_5 rfl rfl (.head _) ?_
    refine r_getI (pc' := 9) dX12_deadOf_6 rfl fX12_333 rfl (by first | assumption | rfl) (by omega) ?_
    rw [hS.1]
    refine r_icmp_ge (t := 40) (f := 12) dX12_deadOf_9 (by decide) rfl (by first | omega | exact xv_in _ _ _) (by first | omega | exact xv_in _ _ _) (fun h9 => ?_) (fun h9 => ?_)
    · refine r_iload_n (i := 2) (pc' := 41) dX12_deadOf_40 rfl rfl (.tail _ (.tail _ (.head _))) ?_
      refine r_ireturn dX12_deadOf_41 rfl ?_
      refine ⟨?_, rfl, rfl, rfl, rfl⟩
      rw [← hr]; simp [q_sum]
    · exfalso; omega
  | succ w ih =>
    intro i s hk hr
    refine r_iload_n (i := 3) (pc' := 5) dX12_deadOf_4 rfl rfl (.tail _ (.tail _ (.tail _ (.head _)))) ?_
    refine r_aload_n (i := 0) (pc' := 6) dX12_deadOf_5 rfl rfl (.head _) ?_
    refine r_getI (pc' := 9) dX12_deadOf_6 rfl fX12_333 rfl (by first | assumption | rfl) (by omega) ?_
    rw [hS.1]
    refine r_icmp_ge (t := 40) (f := 12) dX12_deadOf_9 (by decide) rfl (by first | omega | exact xv_in _ _ _) (by first | omega | exact xv_in _ _ _) (fun h9 => ?_) (fun h9 => ?_)
    · exfalso; omega
    · refine r_iload_n (i := 1) (pc' := 13) dX12_deadOf_12 rfl rfl (.tail _ (.head _)) ?_
      refine r_iload_n (i := 3) (pc' := 14) dX12_deadOf_13 rfl rfl (.tail _ (.tail _ (.tail _ (.head _)))) ?_
      refine r_ishr (pc' := 15) dX12_deadOf_14 rfl (p_shr (by omega) (by omega)) ?_
      refine r_iconst (pc' := 16) dX12_deadOf_15 rfl ?_
      refine r_iand (pc' := 17) dX12_deadOf_16 rfl (p_and1 _) ?_
      refine r_iconst (pc' := 18) dX12_deadOf_17 rfl ?_
      refine r_icmp_ne (t := 34) (f := 21) dX12_deadOf_18 (by decide) rfl (by first | omega | exact xv_in _ _ _) (by first | omega | exact xv_in _ _ _) (fun h18 => ?_) (fun h18 => ?_)
      · refine r_iinc (pc' := 37) dX12_deadOf_34 rfl rfl (.tail _ (.tail _ (.tail _ (.head _)))) (.s1 (.s1 (.s1 (.here .nil) rfl rfl rfl) rfl rfl rfl) rfl rfl rfl) ?_
        refine r_goto (t := 4) dX12_deadOf_37 (by decide) ?_
        refine ih (i + 1) _ (by omega) ?_
        rw [← hr, q_sum]
        first
          | (rw [if_neg (by unfold p_bit; omega)]; omega)
          | (rw [if_pos (by unfold p_bit; omega)]; omega)
      · refine r_iload_n (i := 2) (pc' := 22) dX12_deadOf_21 rfl rfl (.tail _ (.tail _ (.head _))) ?_
        refine r_aload_n (i := 0) (pc' := 23) dX12_deadOf_22 rfl rfl (.head _) ?_
        refine r_aload_n (i := 0) (pc' := 24) dX12_deadOf_23 rfl rfl (.head _) ?_
        refine r_getR (pc' := 27) dX12_deadOf_24 rfl fX12_48 rfl (by first | assumption | rfl) (by omega) (by assumption) ?_
        refine r_iload_n (i := 3) (pc' := 28) dX12_deadOf_27 rfl rfl (.tail _ (.tail _ (.tail _ (.head _)))) ?_
        refine r_iaload (pc' := 29) dX12_deadOf_28 rfl (by first | assumption | rfl) (by omega) (by omega) (by omega) (by first | decide | omega) (Int.toNat_natCast _) ?_
        rw [hS.2 i (by omega)]
        refine r_V1p (ci := 12) (pc' := 32) dX12_deadOf_29 rfl lX12_266 rfl (by decide) (Nat.le_of_ble_eq_true rfl) (by first | assumption | rfl) (by omega) (tX12_deadInAll hm hR hO (hL.2.1 i (by omega)).1) ?_
        refine r_iadd (pc' := 33) dX12_deadOf_32 rfl ?_
        refine r_istore_n (i := 2) (pc' := 34) dX12_deadOf_33 rfl rfl rfl (.s1 (.s1 (.here (.s1 .nil rfl rfl rfl)) rfl rfl rfl) rfl rfl rfl) ?_
        refine r_iinc (pc' := 37) dX12_deadOf_34 rfl rfl (.tail _ (.tail _ (.tail _ (.head _)))) (.s1 (.s1 (.s1 (.here .nil) rfl rfl rfl) rfl rfl rfl) rfl rfl rfl) ?_
        refine r_goto (t := 4) dX12_deadOf_37 (by decide) ?_
        refine ih (i + 1) _ (by omega) ?_
        rw [← hr, q_sum]
        first
          | (rw [if_neg (by unfold p_bit; omega)]; omega)
          | (rw [if_pos (by unfold p_bit; omega)]; omega)
set_option maxHeartbeats 4000000 in
set_option maxRecDepth 100000 in
theorem tX12_deadOf {l : Launch} {g : q_G} {n : Nat} {P : q_P} {X : q_X} {Y : q_Y} (hm : isMod n P) {C : q_X} {b : Nat} (hR : RB C b (xv X 468)) (hO : bOk C b) {L : List Nat} (hS : sL X L) (hL : LOk C b L) {st : Nat} (hst : st < 10000) : q_Met l g mX12_deadOf 5 [.ref (g.1 + 467), .int (zi (st : Int))] n P X Y (q_pv (.int (zi (q_sum (fun i => if p_bit st i then bk_all C b (con b (wAt L i)) else 0) 0 (L.length)))) n P X Y) := by
  obtain ⟨m0, m2, m3, m8, m9, m14, m15, m16, m17, m18, m20, m22, m25, hnm9⟩ := id hm
  obtain ⟨o0, o1, o2, o3, o4, o5, o6, o10, oc, op0, opz, opi, om0, omi, olim⟩ := id hO
  have hl10 := hL.1
  refine q_enter (L := [(0, .ref (g.1 + 467)), (1, .int (zi (st : Int)))]) (by decide) (Nat.le_of_ble_eq_true rfl) rfl ?_
  refine r_iconst (pc' := 1) dX12_deadOf_0 rfl ?_
  refine r_istore_n (i := 2) (pc' := 2) dX12_deadOf_1 rfl rfl rfl (.s1 (.s1 .nil rfl rfl rfl) rfl rfl rfl) ?_
  refine r_iconst (pc' := 3) dX12_deadOf_2 rfl ?_
  refine r_istore_n (i := 3) (pc' := 4) dX12_deadOf_3 rfl rfl rfl (.s1 (.s1 (.s1 .nil rfl rfl rfl) rfl rfl rfl) rfl rfl rfl) ?_
  exact lX12_deadOf hm hR hO hS hL hst (L.length) 0 _ (by omega) (Int.zero_add _)
set_option maxHeartbeats 4000000 in
set_option maxRecDepth 100000 in
theorem lX12_contractsOf {l : Launch} {g : q_G} {n : Nat} {P : q_P} {X : q_X} {Y : q_Y} (hm : isMod n P) {C : q_X} {b : Nat} (hO : bOk C b) {L : List Nat} (hS : sL X L) (hL : LOk C b L) {st : Nat} (hst : st < 10000) : ∀ (w i : Nat) (v : Int64), i + w = L.length → lB v (gU L st i) → q_Tr l g mX12_contractsOf 0 (q_gl (fun r' n' P' X' Y' => n' = n ∧ P' = P ∧ X' = X ∧ Y' = Y ∧ lB r' (gS L st))) 5 [(0, .ref (g.1 + 467)), (1, .int (zi (st : Int))), (2, .long v), (4, .int (zi (i : Int)))] [] n P X Y := by
  obtain ⟨m0, m2, m3, m8, m9, m14, m15, m16, m17, m18, m20, m22, m25, hnm9⟩ := id hm
  obtain ⟨o0, o1, o2, o3, o4, o5, o6, o10, oc, op0, opz, opi, om0, omi, olim⟩ := id hO
  have hl10 := hL.1
  intro w
  induction w with
  | zero =>
    intro i v hi hv
    refine r_iload (pc' := 7) dX12_contractsOf_5 rfl (.tail _ (.tail _ (.tail _ (.head _)))) ?_
    refine r_aload_n (i := 0) (pc' := 8) dX12_contractsOf_7 rfl rfl (.head _) ?_
    refine r_getI (pc' := 11) dX12_contractsOf_8 rfl fX12_333 rfl (by first | assumption | rfl) (by omega) ?_
    rw [hS.1]
    refine r_icmp_ge (t := 42) (f := 14) dX12_contractsOf_11 (by decide) rfl (by first | omega | exact xv_in _ _ _) (by first | omega | exact xv_in _ _ _) (fun h11 => ?_) (fun h11 => ?_)
    · refine r_lload_n (i := 2) (pc' := 43) dX12_contractsOf_42 rfl rfl (.tail _ (.tail _ (.head _))) ?_
      refine r_lreturn dX12_contractsOf_43 rfl ?_
      refine ⟨_, rfl, rfl, rfl, rfl, rfl, ?_⟩
      rw [show i = L.length by omega] at hv
      exact hv
    · exfalso; omega
  | succ w ih =>
    intro i v hi hv
    have hwi := (hL.2.1 i (by omega)).1
    refine r_iload (pc' := 7) dX12_contractsOf_5 rfl (.tail _ (.tail _ (.tail _ (.head _)))) ?_
    refine r_aload_n (i := 0) (pc' := 8) dX12_contractsOf_7 rfl rfl (.head _) ?_
    refine r_getI (pc' := 11) dX12_contractsOf_8 rfl fX12_333 rfl (by first | assumption | rfl) (by omega) ?_
    rw [hS.1]
    refine r_icmp_ge (t := 42) (f := 14) dX12_contractsOf_11 (by decide) rfl (by first | omega | exact xv_in _ _ _) (by first | omega | exact xv_in _ _ _) (fun h11 => ?_) (fun h11 => ?_)
    · exfalso; omega
    · refine r_iload_n (i := 1) (pc' := 15) dX12_contractsOf_14 rfl rfl (.tail _ (.head _)) ?_
      refine r_iload (pc' := 17) dX12_contractsOf_15 rfl (.tail _ (.tail _ (.tail _ (.head _)))) ?_
      refine r_ishr (pc' := 18) dX12_contractsOf_17 rfl (p_shr (by omega) (by omega)) ?_
      refine r_iconst (pc' := 19) dX12_contractsOf_18 rfl ?_
      refine r_iand (pc' := 20) dX12_contractsOf_19 rfl (p_and1 _) ?_
      refine r_iconst (pc' := 21) dX12_contractsOf_20 rfl ?_
      refine r_icmp_ne (t := 36) (f := 24) dX12_contractsOf_21 (by decide) rfl (by first | omega | exact xv_in _ _ _) (by first | omega | exact xv_in _ _ _) (fun h21 => ?_) (fun h21 => ?_)
      · refine r_iinc (pc' := 39) dX12_contractsOf_36 rfl rfl (.tail _ (.tail _ (.tail _ (.head _)))) (.s1 (.s1 (.s2 (.here .nil) rfl (.inl rfl) (.inr rfl)) rfl rfl rfl) rfl rfl rfl) ?_
        refine r_goto (t := 5) dX12_contractsOf_39 (by decide) ?_
        first
          | (refine ih (i + 1) _ (by omega) (hv.congr (fun k hk => ?_))
             rw [gU_s, show (st / 2 ^ i % 2 == 1) = false by simp; omega, Bool.and_false, Bool.or_false])
          | (refine ih (i + 1) _ (by omega) ((lB_or hv (lB_1 (k := wAt L i) (by omega))).congr (fun k hk => ?_))
             rw [gU_s, show (st / 2 ^ i % 2 == 1) = true by simp; omega, Bool.and_true]
             congr 1
             unfold g1
             rw [Bool.eq_iff_iff, beq_iff_eq, beq_iff_eq]; omega)
      · refine r_lload_n (i := 2) (pc' := 25) dX12_contractsOf_24 rfl rfl (.tail _ (.tail _ (.head _))) ?_
        refine r_lconst (pc' := 26) (z := 1) dX12_contractsOf_25 rfl rfl ?_
        refine r_aload_n (i := 0) (pc' := 27) dX12_contractsOf_26 rfl rfl (.head _) ?_
        refine r_getR (pc' := 30) dX12_contractsOf_27 rfl fX12_48 rfl (by first | assumption | rfl) (by omega) (by assumption) ?_
        refine r_iload (pc' := 32) dX12_contractsOf_30 rfl (.tail _ (.tail _ (.tail _ (.head _)))) ?_
        refine r_iaload (pc' := 33) dX12_contractsOf_32 rfl (by first | assumption | rfl) (by omega) (by omega) (by omega) (by first | decide | omega) (Int.toNat_natCast _) ?_
        rw [hS.2 i (by omega)]
        refine r_lshl (pc' := 34) dX12_contractsOf_33 rfl rfl ?_
        refine r_lor (pc' := 35) dX12_contractsOf_34 rfl ?_
        refine r_lstore_n (i := 2) (pc' := 36) dX12_contractsOf_35 rfl rfl rfl (.s2 (.s2 (.here (.s2 .nil rfl (.inr rfl) (.inl rfl))) rfl (.inr rfl) (.inl rfl)) rfl (.inr rfl) (.inl rfl)) ?_
        refine r_iinc (pc' := 39) dX12_contractsOf_36 rfl rfl (.tail _ (.tail _ (.tail _ (.head _)))) (.s1 (.s1 (.s2 (.here .nil) rfl (.inl rfl) (.inr rfl)) rfl rfl rfl) rfl rfl rfl) ?_
        refine r_goto (t := 5) dX12_contractsOf_39 (by decide) ?_
        first
          | (refine ih (i + 1) _ (by omega) (hv.congr (fun k hk => ?_))
             rw [gU_s, show (st / 2 ^ i % 2 == 1) = false by simp; omega, Bool.and_false, Bool.or_false])
          | (refine ih (i + 1) _ (by omega) ((lB_or hv (lB_1 (k := wAt L i) (by omega))).congr (fun k hk => ?_))
             rw [gU_s, show (st / 2 ^ i % 2 == 1) = true by simp; omega, Bool.and_true]
             congr 1
             unfold g1
             rw [Bool.eq_iff_iff, beq_iff_eq, beq_iff_eq]; omega)
set_option maxHeartbeats 4000000 in
set_option maxRecDepth 100000 in
theorem tX12_contractsOf {l : Launch} {g : q_G} {n : Nat} {P : q_P} {X : q_X} {Y : q_Y} (hm : isMod n P) {C : q_X} {b : Nat} (hO : bOk C b) {L : List Nat} (hS : sL X L) (hL : LOk C b L) {st : Nat} (hst : st < 10000) : q_Met l g mX12_contractsOf 0 [.ref (g.1 + 467), .int (zi (st : Int))] n P X Y (q_gl (fun r' n' P' X' Y' => n' = n ∧ P' = P ∧ X' = X ∧ Y' = Y ∧ lB r' (gS L st))) := by
  obtain ⟨m0, m2, m3, m8, m9, m14, m15, m16, m17, m18, m20, m22, m25, hnm9⟩ := id hm
  obtain ⟨o0, o1, o2, o3, o4, o5, o6, o10, oc, op0, opz, opi, om0, omi, olim⟩ := id hO
  refine q_enter (L := [(0, .ref (g.1 + 467)), (1, .int (zi (st : Int)))]) (by decide) (Nat.le_of_ble_eq_true rfl) rfl ?_
  refine r_lconst (pc' := 1) (z := 0) dX12_contractsOf_0 rfl rfl ?_
  refine r_lstore_n (i := 2) (pc' := 2) dX12_contractsOf_1 rfl rfl rfl (.s2 (.s2 .nil rfl (.inr rfl) (.inl rfl)) rfl (.inr rfl) (.inl rfl)) ?_
  refine r_iconst (pc' := 3) dX12_contractsOf_2 rfl ?_
  refine r_istore (pc' := 5) dX12_contractsOf_3 rfl rfl (.s1 (.s1 (.s2 .nil rfl (.inl rfl) (.inr rfl)) rfl rfl rfl) rfl rfl rfl) ?_
  exact lX12_contractsOf hm hO hS hL hst L.length 0 0 (Nat.zero_add _) (lB_0.congr (fun k hk => (gU_0 L st k).symm))
