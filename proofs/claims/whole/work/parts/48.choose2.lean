/-! gone or turned, as far as the first i have been laid -/
def gI (L : List Nat) (s : Nat) (G : Nat → Bool) (i k : Nat) : Bool := if (List.range i).any (fun j => wAt L j == k) = true then gS L s k else G k
theorem gI_z (L : List Nat) (s : Nat) (G : Nat → Bool) (k : Nat) : gI L s G 0 k = G k := by simp [gI]
theorem gI_s {L : List Nat} {s : Nat} {G : Nat → Bool} {i k : Nat} (h : k ≠ wAt L i) : gI L s G (i + 1) k = gI L s G i k := by
  have : (wAt L i == k) = false := by simp; omega
  simp only [gI, List.range_succ, List.any_append, List.any_cons, List.any_nil, this, Bool.or_false]
theorem gI_at (L : List Nat) (s : Nat) (G : Nat → Bool) (i : Nat) : gI L s G (i + 1) (wAt L i) = gS L s (wAt L i) := by
  simp only [gI, List.range_succ, List.any_append, List.any_cons, List.any_nil, beq_self_eq_true, Bool.or_false, Bool.or_true, if_true]
theorem gI_end {L : List Nat} {s : Nat} {G : Nat → Bool} (h : ∀ k, (∀ i, i < L.length → wAt L i ≠ k) → G k = false) (k : Nat) : gI L s G L.length k = gS L s k := by
  unfold gI
  split
  · rfl
  · rename_i hn
    have hm : ∀ i, i < L.length → wAt L i ≠ k := fun i hi q => hn (List.any_eq_true.mpr ⟨i, List.mem_range.mpr hi, by simp [q]⟩)
    rw [h k hm]
    cases hg : gS L s k with
    | false => rfl
    | true =>
      obtain ⟨i, h1, h2, -⟩ := (gS_iff L s k).mp hg
      exact absurd h2 (hm i h1)
theorem gS_out {L : List Nat} {s k : Nat} (h : ∀ i, i < L.length → wAt L i ≠ k) : gS L s k = false := by
  cases hg : gS L s k with
  | false => rfl
  | true =>
    obtain ⟨i, h1, h2, -⟩ := (gS_iff L s k).mp hg
    exact absurd h2 (h i h1)
/-- who they are: in order, contracts that could be cut -/
def LOk (X : q_X) (b : Nat) (L : List Nat) : Prop := L.length ≤ 10 ∧ (∀ i, i < L.length → (wAt L i : Int) < xv X b 10 ∧ bk_ref X b (wAt L i) = 0) ∧ ∀ i j, i < j → j < L.length → wAt L i < wAt L j
theorem LOk_who {X : q_X} {b m : Nat} (hm : m ≤ 10) : LOk X b (whoA X b m) := by
  unfold LOk whoA
  refine ⟨by have := whoL_len X b m (xv X b 10).toNat; omega, fun i hi => ?_, fun i j hij hj => whoL_inj X b m _ i j hij hj⟩
  have := whoL_at X b m _ i hi
  exact ⟨by omega, this.2⟩
theorem gS_at {X : q_X} {b s i : Nat} {L : List Nat} (h : LOk X b L) (hi : i < L.length) : gS L s (wAt L i) = true ↔ p_bit s i := by
  rw [gS_iff]
  constructor
  · intro ⟨j, h1, h2, h3⟩
    have : j = i := by
      rcases Nat.lt_trichotomy j i with q | q | q
      · have := h.2.2 j i q hi; omega
      · exact q
      · have := h.2.2 i j q h1; omega
    rw [← this]; exact h3
  · intro q; exact ⟨i, hi, rfl, q⟩
theorem ch_dead_b {X : q_X} {b : Nat} {L : List Nat} (hO : bOk X b) (h : LOk X b L) (s : Nat) : 0 ≤ ch_dead X b L s ∧ ch_dead X b L s ≤ 22999770 := by
  have := p_sumS_b (f := fun i => bk_all X b (con b (wAt L i))) (s := s) (m := L.length) (B := 2299977) (fun i hi => bk_all_b (hO.c (h.2.1 i hi).1))
  have h1 := h.1
  unfold ch_dead; omega
theorem ch_now_b {X : q_X} {b : Nat} {L : List Nat} (hO : bOk X b) (h : LOk X b L) (s : Nat) : 0 ≤ ch_now X b L s ∧ ch_now X b L s ≤ 22999770 := by
  have := p_sumS_b (f := fun i => bk_dead X b (con b (wAt L i)) (xv X b 1)) (s := s) (m := L.length) (B := 2299977) (fun i hi => bk_dead_b (hO.c (h.2.1 i hi).1) _)
  have h1 := h.1
  unfold ch_now; omega
theorem TT.put {X X' : q_X} {b k : Nat} {G G' T : Nat → Bool} {u : Int} (h : TT X X' b G T) (hT : ∀ i, i ≠ k → G' i = G i) (hu : u = if G' k = true then 1 else 0) : TT X (q_up X' 457 k (zi u)) b G' T := TT.ofS h (h.s.gone hT hu) (xv_up_row _ _ _ (by omega)) (xv_up_row _ _ _ (by omega)) (xv_up_row _ _ _ (by omega))
theorem TS.congrF {X X' : q_X} {b : Nat} {G G' T T' : Nat → Bool} (h : TS X X' b G T) (hG : ∀ k, G k = G' k) (hT : ∀ k, T k = T' k) : TS X X' b G' T' := h.congr (fun k _ => ⟨hT k, hG k⟩)
def chS (X' : q_X) (r : Bool × Int × Nat) : Prop := xv X' 459 8 = (if r.1 = true then 1 else 0) ∧ (r.1 = true → xv X' 459 9 = r.2.1 ∧ xv X' 459 11 = (r.2.2 : Int))
def chF (X' : q_X) (r : Bool × Int × Nat × Nat) : Prop := xv X' 459 8 = (if r.1 = true then 1 else 0) ∧ (r.1 = true → xv X' 459 9 = r.2.1 ∧ xv X' 459 11 = (r.2.2.1 : Int) ∧ xv X' 459 12 = (r.2.2.2 : Int))
set_option maxHeartbeats 4000000 in
set_option maxRecDepth 100000 in
theorem tX3_chD {l : Launch} {g : q_G} {n : Nat} {P : q_P} {X : q_X} {Y : q_Y} {X1 : q_X} {b st : Nat} {L : List Nat} (hn9 : 481 ≤ n) (hL : LOk X b L) (hst : st < 10000) (hcg : chG X X1 b L) : q_Met l g mX3_sumOf 0 [.ref (g.1 + 459), .ref (g.1 + 462), .int (zi (st : Int))] n P X1 Y (q_pv (.int (zi (ch_dead X b L st))) n P X1 Y) := tX3_sum (N := 10) rfl (by omega) hn9 (by omega) hcg.1 ⟨hL.1, by have := hL.1; omega⟩ hst (fun i hi => (hcg.2 i hi).2.2.1)
set_option maxHeartbeats 4000000 in
set_option maxRecDepth 100000 in
theorem tX3_chN {l : Launch} {g : q_G} {n : Nat} {P : q_P} {X : q_X} {Y : q_Y} {X1 : q_X} {b st : Nat} {L : List Nat} (hn9 : 481 ≤ n) (hL : LOk X b L) (hst : st < 10000) (hcg : chG X X1 b L) : q_Met l g mX3_sumOf 0 [.ref (g.1 + 459), .ref (g.1 + 461), .int (zi (st : Int))] n P X1 Y (q_pv (.int (zi (ch_now X b L st))) n P X1 Y) := tX3_sum (N := 10) rfl (by omega) hn9 (by omega) hcg.1 ⟨hL.1, by have := hL.1; omega⟩ hst (fun i hi => (hcg.2 i hi).2.1)
set_option maxHeartbeats 4000000 in
set_option maxRecDepth 100000 in
theorem lX3_digits {l : Launch} {g : q_G} {n : Nat} {P : q_P} {X : q_X} {Y : q_Y} {v d z : Nat} (hn9 : 481 ≤ n) (hz0 : xv X 459 7 = (z : Int)) (hz : z ≤ 10) (hv : v < 100000) (hd : d < 3) : ∀ (w i : Nat), i + w = z → q_Tr l g mX3_digits 0 (q_pv (.int (zi (dgN d v z : Int))) n P X Y) 8 [(0, .ref (g.1 + 459)), (1, .int (zi (v : Int))), (2, .int (zi (d : Int))), (3, .int (zi (dgN d v i : Int))), (4, .int (zi ((v / 3 ^ i : Nat) : Int))), (5, .int (zi (i : Int)))] [] n P X Y := by
  intro w
  induction w with
  | zero =>
    intro i hi
    obtain rfl : i = z := by omega
    refine r_iload (pc' := 10) dX3_digits_8 rfl (.tail _ (.tail _ (.tail _ (.tail _ (.tail _ (.head _)))))) ?_
    refine r_aload_n (i := 0) (pc' := 11) dX3_digits_10 rfl rfl (.head _) ?_
    refine r_getI (pc' := 14) dX3_digits_11 rfl fX3_41 rfl (by first | assumption | rfl) (by omega) ?_
    rw [hz0]
    refine r_icmp_ge (t := 44) (f := 17) dX3_digits_14 (by decide) rfl (by first | omega | exact xv_in _ _ _) (by first | omega | exact xv_in _ _ _) (fun h14 => ?_) (fun h14 => ?_)
    · refine r_iload_n (i := 3) (pc' := 45) dX3_digits_44 rfl rfl (.tail _ (.tail _ (.tail _ (.head _)))) ?_
      refine r_ireturn dX3_digits_45 rfl ?_
      exact ⟨rfl, rfl, rfl, rfl, rfl⟩
    · exfalso; omega
  | succ w ih =>
    intro i hi
    have hrb : v / 3 ^ i ≤ v := Nat.div_le_self _ _
    have e1 : v / 3 ^ (i + 1) = v / 3 ^ i / 3 := by rw [Nat.pow_succ, Nat.div_div_eq_div_mul]
    have ih := ih (i + 1) (by omega)
    have hlt := dgN_lt d v i
    rw [dgN, e1] at ih
    generalize v / 3 ^ i = r at *
    generalize hD : dgN d v i = D at *
    refine r_iload (pc' := 10) dX3_digits_8 rfl (.tail _ (.tail _ (.tail _ (.tail _ (.tail _ (.head _)))))) ?_
    refine r_aload_n (i := 0) (pc' := 11) dX3_digits_10 rfl rfl (.head _) ?_
    refine r_getI (pc' := 14) dX3_digits_11 rfl fX3_41 rfl (by first | assumption | rfl) (by omega) ?_
    rw [hz0]
    refine r_icmp_ge (t := 44) (f := 17) dX3_digits_14 (by decide) rfl (by first | omega | exact xv_in _ _ _) (by first | omega | exact xv_in _ _ _) (fun h14 => ?_) (fun h14 => ?_)
    · exfalso; omega
    · refine r_iload (pc' := 19) dX3_digits_17 rfl (.tail _ (.tail _ (.tail _ (.tail _ (.head _))))) ?_
      refine r_iconst (pc' := 20) dX3_digits_19 rfl ?_
      refine r_irem (pc' := 21) dX3_digits_20 rfl (by first | omega | exact xv_in _ _ _) (by first | omega | exact xv_in _ _ _) (by omega) ?_
      rw [show ((r : Nat) : Int).tmod 3 = ((r % 3 : Nat) : Int) from rfl]
      refine r_iload_n (i := 2) (pc' := 22) dX3_digits_21 rfl rfl (.tail _ (.tail _ (.head _))) ?_
      refine r_icmp_ne (t := 32) (f := 25) dX3_digits_22 (by decide) rfl (by first | omega | exact xv_in _ _ _) (by first | omega | exact xv_in _ _ _) (fun h22 => ?_) (fun h22 => ?_)
      · refine r_iload (pc' := 34) dX3_digits_32 rfl (.tail _ (.tail _ (.tail _ (.tail _ (.head _))))) ?_
        refine r_iconst (pc' := 35) dX3_digits_34 rfl ?_
        refine r_idiv (pc' := 36) dX3_digits_35 rfl (by first | omega | exact xv_in _ _ _) (by first | omega | exact xv_in _ _ _) (by omega) ?_
        rw [show ((r : Nat) : Int).tdiv 3 = ((r / 3 : Nat) : Int) from rfl]
        refine r_istore (pc' := 38) dX3_digits_36 rfl rfl (.s1 (.s1 (.s1 (.s1 (.here (.s1 .nil rfl rfl rfl)) rfl rfl rfl) rfl rfl rfl) rfl rfl rfl) rfl rfl rfl) ?_
        refine r_iinc (pc' := 41) dX3_digits_38 rfl rfl (.tail _ (.tail _ (.tail _ (.tail _ (.tail _ (.head _)))))) (.s1 (.s1 (.s1 (.s1 (.s1 (.here .nil) rfl rfl rfl) rfl rfl rfl) rfl rfl rfl) rfl rfl rfl) rfl rfl rfl) ?_
        refine r_goto (t := 8) dX3_digits_41 (by decide) ?_
        first
          | (rw [if_pos (by omega)] at ih; exact ih)
          | (rw [if_neg (by omega), Nat.add_zero] at ih; exact ih)
      · refine r_iload_n (i := 3) (pc' := 26) dX3_digits_25 rfl rfl (.tail _ (.tail _ (.tail _ (.head _)))) ?_
        refine r_iconst (pc' := 27) dX3_digits_26 rfl ?_
        refine r_iload (pc' := 29) dX3_digits_27 rfl (.tail _ (.tail _ (.tail _ (.tail _ (.tail _ (.head _)))))) ?_
        refine r_ishl (pc' := 30) dX3_digits_29 rfl (zi_shl1 i (by omega)) ?_
        refine r_ior (pc' := 31) dX3_digits_30 rfl (zi_or1 (by omega) hlt) ?_
        refine r_istore_n (i := 3) (pc' := 32) dX3_digits_31 rfl rfl rfl (.s1 (.s1 (.s1 (.here (.s1 (.s1 .nil rfl rfl rfl) rfl rfl rfl)) rfl rfl rfl) rfl rfl rfl) rfl rfl rfl) ?_
        refine r_iload (pc' := 34) dX3_digits_32 rfl (.tail _ (.tail _ (.tail _ (.tail _ (.head _))))) ?_
        refine r_iconst (pc' := 35) dX3_digits_34 rfl ?_
        refine r_idiv (pc' := 36) dX3_digits_35 rfl (by first | omega | exact xv_in _ _ _) (by first | omega | exact xv_in _ _ _) (by omega) ?_
        rw [show ((r : Nat) : Int).tdiv 3 = ((r / 3 : Nat) : Int) from rfl]
        refine r_istore (pc' := 38) dX3_digits_36 rfl rfl (.s1 (.s1 (.s1 (.s1 (.here (.s1 .nil rfl rfl rfl)) rfl rfl rfl) rfl rfl rfl) rfl rfl rfl) rfl rfl rfl) ?_
        refine r_iinc (pc' := 41) dX3_digits_38 rfl rfl (.tail _ (.tail _ (.tail _ (.tail _ (.tail _ (.head _)))))) (.s1 (.s1 (.s1 (.s1 (.s1 (.here .nil) rfl rfl rfl) rfl rfl rfl) rfl rfl rfl) rfl rfl rfl) rfl rfl rfl) ?_
        refine r_goto (t := 8) dX3_digits_41 (by decide) ?_
        first
          | (rw [if_pos (by omega)] at ih; exact ih)
          | (rw [if_neg (by omega), Nat.add_zero] at ih; exact ih)
set_option maxHeartbeats 4000000 in
set_option maxRecDepth 100000 in
theorem tX3_digits {l : Launch} {g : q_G} {n : Nat} {P : q_P} {X : q_X} {Y : q_Y} {v d z : Nat} (hn9 : 481 ≤ n) (hz0 : xv X 459 7 = (z : Int)) (hz : z ≤ 10) (hv : v < 100000) (hd : d < 3) : q_Met l g mX3_digits 0 [.ref (g.1 + 459), .int (zi (v : Int)), .int (zi (d : Int))] n P X Y (q_pv (.int (zi ((dgN d v z : Int)))) n P X Y) := by
  refine q_enter (L := [(0, .ref (g.1 + 459)), (1, .int (zi (v : Int))), (2, .int (zi (d : Int)))]) (by decide) (Nat.le_of_ble_eq_true rfl) rfl ?_
  refine r_iconst (pc' := 1) dX3_digits_0 rfl ?_
  refine r_istore_n (i := 3) (pc' := 2) dX3_digits_1 rfl rfl rfl (.s1 (.s1 (.s1 .nil rfl rfl rfl) rfl rfl rfl) rfl rfl rfl) ?_
  refine r_iload_n (i := 1) (pc' := 3) dX3_digits_2 rfl rfl (.tail _ (.head _)) ?_
  refine r_istore (pc' := 5) dX3_digits_3 rfl rfl (.s1 (.s1 (.s1 (.s1 .nil rfl rfl rfl) rfl rfl rfl) rfl rfl rfl) rfl rfl rfl) ?_
  refine r_iconst (pc' := 6) dX3_digits_5 rfl ?_
  refine r_istore (pc' := 8) dX3_digits_6 rfl rfl (.s1 (.s1 (.s1 (.s1 (.s1 .nil rfl rfl rfl) rfl rfl rfl) rfl rfl rfl) rfl rfl rfl) rfl rfl rfl) ?_
  have := lX3_digits (l := l) (g := g) (Y := Y) (P := P) (v := v) (d := d) hn9 hz0 hz hv hd z 0 (Nat.zero_add _)
  rw [Nat.pow_zero, Nat.div_one] at this
  exact this
set_option maxHeartbeats 4000000 in
set_option maxRecDepth 100000 in
theorem iX3_chooseSet {l : Launch} {g : q_G} {n : Nat} {P : q_P} {X : q_X} {Y : q_Y} {b : Nat} (hb : isBk n P b) (hO : bOk X b) (hap : bApart b) (ht : isTal n P) (hch : isCho n P) {L : List Nat} (hL : LOk X b L) {K : q_K} {goal dd : Int} {s : Nat} {G : Nat → Bool} {r9 : Nat → Int} (hs : s < 10000)
    (kk : ∀ X2, TT X X2 b (gI L s G L.length) g0 → chG X X2 b L → xv X2 459 = r9 → q_Tr l g mX3_chooseSet 5 K 134 [(0, .ref (g.1 + 459)), (1, .ref (g.1 + b)), (2, .ref (g.1 + 453)), (3, .int (zi goal)), (4, .int (zi (s : Int))), (5, .int (zi dd))] [] n P X2 Y) : ∀ (w i : Nat) (X1 : q_X), i + w = L.length → TT X X1 b (gI L s G i) g0 → chG X X1 b L → xv X1 459 = r9 → q_Tr l g mX3_chooseSet 5 K 92 [(0, .ref (g.1 + 459)), (1, .ref (g.1 + b)), (2, .ref (g.1 + 453)), (3, .int (zi goal)), (4, .int (zi (s : Int))), (5, .int (zi dd)), (7, .int (zi (i : Int)))] [] n P X1 Y := by
  obtain ⟨b0, b1, b2, b3, q7, q8, q9, q11, q12, q13, hn, hpro, hmar, hfor, hcs⟩ := id hb
  obtain ⟨o0, o1, o2, o3, o4, o5, o6, o10, oc, op0, opz, opi, om0, omi, olim⟩ := id hO
  obtain ⟨t0, t1, t2, t3, t4, hnt⟩ := id ht
  obtain ⟨v0, v1, v2, v3, v4, v5, v6, hnh⟩ := id hch
  have hLl := hL.1
  intro w
  induction w with
  | zero =>
    intro i X1 hi hTT hcg h9
    have zX1 := hcg.1
    obtain rfl : i = L.length := by omega
    refine r_iload (pc' := 94) dX3_chooseSet_92 rfl (.tail _ (.tail _ (.tail _ (.tail _ (.tail _ (.tail _ (.head _))))))) ?_
    refine r_aload_n (i := 0) (pc' := 95) dX3_chooseSet_94 rfl rfl (.head _) ?_
    refine r_getI (pc' := 98) dX3_chooseSet_95 rfl fX3_41 rfl (by first | assumption | rfl) (by omega) ?_
    rw [zX1]
    refine r_icmp_ge (t := 134) (f := 101) dX3_chooseSet_98 (by decide) rfl (by first | omega | exact xv_in _ _ _) (by first | omega | exact xv_in _ _ _) (fun h98 => ?_) (fun h98 => ?_)
    · refine r_sub (.kp (.kp (.kp (.kp (.kp (.kp (.dr .nil))))))) ?_
      exact kk X1 hTT hcg h9
    · exfalso; omega
  | succ w ih =>
    intro i X1 hi hTT hcg h9
    have zX1 := hcg.1
    have h460 := (hcg.2 i (by omega)).1
    have hwi := hL.2.1 i (by omega)
    have hga := gS_at (s := s) hL (i := i) (by omega)
    refine r_iload (pc' := 94) dX3_chooseSet_92 rfl (.tail _ (.tail _ (.tail _ (.tail _ (.tail _ (.tail _ (.head _))))))) ?_
    refine r_aload_n (i := 0) (pc' := 95) dX3_chooseSet_94 rfl rfl (.head _) ?_
    refine r_getI (pc' := 98) dX3_chooseSet_95 rfl fX3_41 rfl (by first | assumption | rfl) (by omega) ?_
    rw [zX1]
    refine r_icmp_ge (t := 134) (f := 101) dX3_chooseSet_98 (by decide) rfl (by first | omega | exact xv_in _ _ _) (by first | omega | exact xv_in _ _ _) (fun h98 => ?_) (fun h98 => ?_)
    · exfalso; omega
    · refine r_aload_n (i := 2) (pc' := 102) dX3_chooseSet_101 rfl rfl (.tail _ (.tail _ (.head _))) ?_
      refine r_getR (pc' := 105) dX3_chooseSet_102 rfl fX3_97 rfl (by first | assumption | rfl) (by omega) (by assumption) ?_
      refine r_aload_n (i := 0) (pc' := 106) dX3_chooseSet_105 rfl rfl (.head _) ?_
      refine r_getR (pc' := 109) dX3_chooseSet_106 rfl fX3_9 rfl (by first | assumption | rfl) (by omega) (by assumption) ?_
      refine r_iload (pc' := 111) dX3_chooseSet_109 rfl (.tail _ (.tail _ (.tail _ (.tail _ (.tail _ (.tail _ (.head _))))))) ?_
      refine r_iaload (pc' := 112) dX3_chooseSet_111 rfl (by first | assumption | rfl) (by omega) (by omega) (by omega) (by first | decide | omega) (Int.toNat_natCast _) ?_
      rw [h460]
      refine r_iload (pc' := 114) dX3_chooseSet_112 rfl (.tail _ (.tail _ (.tail _ (.tail _ (.head _))))) ?_
      refine r_iload (pc' := 116) dX3_chooseSet_114 rfl (.tail _ (.tail _ (.tail _ (.tail _ (.tail _ (.tail _ (.head _))))))) ?_
      refine r_ishr (pc' := 117) dX3_chooseSet_116 rfl (p_shr (by omega) (by omega)) ?_
      refine r_iconst (pc' := 118) dX3_chooseSet_117 rfl ?_
      refine r_iand (pc' := 119) dX3_chooseSet_118 rfl (p_and1 _) ?_
      refine r_if_eq (t := 126) (f := 122) dX3_chooseSet_119 (by decide) rfl (by first | omega | exact xv_in _ _ _) (fun h119 => ?_) (fun h119 => ?_)
      · refine r_iconst (pc' := 127) dX3_chooseSet_126 rfl ?_
        refine r_zastore (pc' := 128) dX3_chooseSet_127 rfl (by first | assumption | rfl) (by omega) (by omega) (by omega) (by first | decide | omega) (Int.toNat_natCast _) (by omega) ?_
        refine r_iinc (pc' := 131) dX3_chooseSet_128 rfl rfl (.tail _ (.tail _ (.tail _ (.tail _ (.tail _ (.tail _ (.head _))))))) (.s1 (.s1 (.s1 (.s1 (.s1 (.s1 (.here .nil) rfl rfl rfl) rfl rfl rfl) rfl rfl rfl) rfl rfl rfl) rfl rfl rfl) rfl rfl rfl) ?_
        refine r_goto (t := 92) dX3_chooseSet_131 (by decide) ?_
        refine ih (i + 1) _ (by omega) (hTT.put (fun k hk => gI_s hk) ?_) (hcg.out (by rw [xv_up_ne _ _ (by omega)]) (fun a a1 a2 => xv_up_row _ _ _ (by omega))) ((xv_up_row _ _ _ (by omega)).trans h9)
        rw [gI_at]
        first
          | rw [if_pos (hga.mpr (by unfold p_bit; omega))]
          | rw [if_neg (fun q => by have := hga.mp q; unfold p_bit at this; omega)]
      · refine r_iconst (pc' := 123) dX3_chooseSet_122 rfl ?_
        refine r_goto (t := 127) dX3_chooseSet_123 (by decide) ?_
        refine r_zastore (pc' := 128) dX3_chooseSet_127 rfl (by first | assumption | rfl) (by omega) (by omega) (by omega) (by first | decide | omega) (Int.toNat_natCast _) (by omega) ?_
        refine r_iinc (pc' := 131) dX3_chooseSet_128 rfl rfl (.tail _ (.tail _ (.tail _ (.tail _ (.tail _ (.tail _ (.head _))))))) (.s1 (.s1 (.s1 (.s1 (.s1 (.s1 (.here .nil) rfl rfl rfl) rfl rfl rfl) rfl rfl rfl) rfl rfl rfl) rfl rfl rfl) rfl rfl rfl) ?_
        refine r_goto (t := 92) dX3_chooseSet_131 (by decide) ?_
        refine ih (i + 1) _ (by omega) (hTT.put (fun k hk => gI_s hk) ?_) (hcg.out (by rw [xv_up_ne _ _ (by omega)]) (fun a a1 a2 => xv_up_row _ _ _ (by omega))) ((xv_up_row _ _ _ (by omega)).trans h9)
        rw [gI_at]
        first
          | rw [if_pos (hga.mpr (by unfold p_bit; omega))]
          | rw [if_neg (fun q => by have := hga.mp q; unfold p_bit at this; omega)]
set_option maxHeartbeats 4000000 in
set_option maxRecDepth 100000 in
theorem lX3_chooseSet {l : Launch} {g : q_G} {n : Nat} {P : q_P} {X : q_X} {Y : q_Y} {b : Nat} (hb : isBk n P b) (hO : bOk X b) (hap : bApart b) (ht : isTal n P) (hch : isCho n P) {L : List Nat} (hL : LOk X b L) {goal : Int} (hgo : q_in goal) : ∀ (w s : Nat) (X1 : q_X) (G : Nat → Bool), s + w = 2 ^ L.length → TT X X1 b G g0 → (∀ k, (∀ i, i < L.length → wAt L i ≠ k) → G k = false) → chG X X1 b L → chS X1 (ch_set X b L goal s) → q_Tr l g mX3_chooseSet 5 (q_gv (fun n' P' X' Y' => n' = n ∧ P' = P ∧ Y' = Y ∧ tOut X X' ∧ chS X' (ch_set X b L goal (2 ^ L.length)))) 11 [(0, .ref (g.1 + 459)), (1, .ref (g.1 + b)), (2, .ref (g.1 + 453)), (3, .int (zi goal)), (4, .int (zi (s : Int)))] [] n P X1 Y := by
  obtain ⟨b0, b1, b2, b3, q7, q8, q9, q11, q12, q13, hn, hpro, hmar, hfor, hcs⟩ := id hb
  obtain ⟨o0, o1, o2, o3, o4, o5, o6, o10, oc, op0, opz, opi, om0, omi, olim⟩ := id hO
  obtain ⟨t0, t1, t2, t3, t4, hnt⟩ := id ht
  obtain ⟨v0, v1, v2, v3, v4, v5, v6, hnh⟩ := id hch
  have hLl := hL.1
  have hZ : 2 ^ L.length ≤ 1024 := Nat.pow_le_pow_right (n := 2) (by omega) hL.1
  have hpw : (2 : Int) ^ L.length = ((2 ^ L.length : Nat) : Int) := by rw [Int.natCast_pow]; rfl
  generalize hZe : 2 ^ L.length = Z at *
  intro w
  induction w with
  | zero =>
    intro s X1 G hi hTT hG hcg hS
    have zX1 := hcg.1
    obtain rfl : s = Z := by omega
    refine r_iload (pc' := 13) dX3_chooseSet_11 rfl (.tail _ (.tail _ (.tail _ (.tail _ (.head _))))) ?_
    refine r_iconst (pc' := 14) dX3_chooseSet_13 rfl ?_
    refine r_aload_n (i := 0) (pc' := 15) dX3_chooseSet_14 rfl rfl (.head _) ?_
    refine r_getI (pc' := 18) dX3_chooseSet_15 rfl fX3_41 rfl (by first | assumption | rfl) (by omega) ?_
    rw [zX1]
    refine r_ishl (pc' := 19) dX3_chooseSet_18 rfl (zi_shl1 L.length (by omega)) ?_
    rw [hpw]
    refine r_icmp_ge (t := 177) (f := 22) dX3_chooseSet_19 (by decide) rfl (by first | omega | exact xv_in _ _ _) (by first | omega | exact xv_in _ _ _) (fun h19 => ?_) (fun h19 => ?_)
    · refine r_return dX3_chooseSet_177 rfl ?_
      exact ⟨rfl, rfl, rfl, rfl, hTT.1, hS⟩
    · exfalso; omega
  | succ w ih =>
    intro s X1 G hi hTT hG hcg hS
    have zX1 := hcg.1
    have hdb := ch_dead_b hO hL s
    have hnb := ch_now_b hO hL s
    have hps := b_bc_pop s (by omega)
    have hcb := ch_set_b X b L goal s
    have hpp := p_pop_b s
    have hbi := b_bc_in (xv X1 459 11)
    have hSm : (ch_set X b L goal s).1 = true → xv X1 459 9 = (ch_set X b L goal s).2.1 ∧ b_bc (xv X1 459 11) = p_pop (ch_set X b L goal s).2.2 := fun q => ⟨(hS.2 q).1, by rw [(hS.2 q).2]; exact b_bc_pop _ (by omega)⟩
    have cont : ∀ X2, TT X X2 b (gI L s G L.length) g0 → chG X X2 b L → xv X2 459 = xv X1 459 → ¬ ((ch_set X b L goal s).1 = true ∧ ¬ (ch_dead X b L s < (ch_set X b L goal s).2.1 ∨ (ch_dead X b L s = (ch_set X b L goal s).2.1 ∧ p_pop s < p_pop (ch_set X b L goal s).2.2))) → q_Tr l g mX3_chooseSet 5 (q_gv (fun n' P' X' Y' => n' = n ∧ P' = P ∧ Y' = Y ∧ tOut X X' ∧ chS X' (ch_set X b L goal (Z)))) 134 [(0, .ref (g.1 + 459)), (1, .ref (g.1 + b)), (2, .ref (g.1 + 453)), (3, .int (zi goal)), (4, .int (zi (s : Int))), (5, .int (zi (ch_dead X b L s)))] [] n P X2 Y := by
      intro X2 hTT2 hcg2 h92 hne
      have hTT2 := hTT2.congr (G' := gS L s) (T' := g0) (fun k _ => ⟨rfl, gI_end hG k⟩)
      have hO2 := bOk_ag (hTT2.1.ag hap) hO
      refine r_aload_n (i := 2) (pc' := 135) dX3_chooseSet_134 rfl rfl (.tail _ (.tail _ (.head _))) ?_
      refine r_aload_n (i := 1) (pc' := 136) dX3_chooseSet_135 rfl rfl (.tail _ (.head _)) ?_
      refine r_V1p (ci := 10) (pc' := 139) dX3_chooseSet_136 rfl lX3_101 rfl (by decide) (Nat.le_of_ble_eq_true rfl) (by first | assumption | rfl) (by omega) (tX10_room hb hO2 ht hTT2.2.1.1) ?_
      rw [hTT2.room hap]
      refine r_aload_n (i := 0) (pc' := 140) dX3_chooseSet_139 rfl rfl (.head _) ?_
      refine r_aload_n (i := 0) (pc' := 141) dX3_chooseSet_140 rfl rfl (.head _) ?_
      refine r_getR (pc' := 144) dX3_chooseSet_141 rfl fX3_13 rfl (by first | assumption | rfl) (by omega) (by assumption) ?_
      refine r_iload (pc' := 146) dX3_chooseSet_144 rfl (.tail _ (.tail _ (.tail _ (.tail _ (.head _))))) ?_
      refine r_V2p (ci := 3) (pc' := 149) dX3_chooseSet_146 rfl lX3_81 rfl (by decide) (Nat.le_of_ble_eq_true rfl) (by first | assumption | rfl) (by omega) (tX3_chN (by omega) hL (by omega) hcg2) ?_
      refine r_isub (pc' := 150) dX3_chooseSet_149 rfl ?_
      rw [← zi_nz (bk_room X b (gS L s) g0 - ch_now X b L s)]
      refine r_iload_n (i := 3) (pc' := 151) dX3_chooseSet_150 rfl rfl (.tail _ (.tail _ (.tail _ (.head _)))) ?_
      refine r_icmp_lt (t := 171) (f := 154) dX3_chooseSet_151 (by decide) rfl (by first | omega | exact xv_in _ _ _ | exact nz_in _) (by first | omega | exact xv_in _ _ _ | exact nz_in _) (fun h151 => ?_) (fun h151 => ?_)
      · refine r_iinc (pc' := 174) dX3_chooseSet_171 rfl rfl (.tail _ (.tail _ (.tail _ (.tail _ (.head _))))) (.s1 (.s1 (.s1 (.s1 (.here (.s1 .nil rfl rfl rfl)) rfl rfl rfl) rfl rfl rfl) rfl rfl rfl) rfl rfl rfl) ?_
        refine r_goto (t := 11) dX3_chooseSet_174 (by decide) ?_
        refine r_sub (.kp (.kp (.kp (.kp (.kp (.dr .nil)))))) ?_
        first
          | (refine ih (s + 1) X2 (gS L s) (by omega) hTT2 (fun k hk => gS_out hk) hcg2 ?_
             rw [ch_set, if_neg hne, if_neg (by omega)]
             unfold chS at hS ⊢
             rw [h92]; exact hS)
          | (refine ih (s + 1) _ (gS L s) (by omega) (hTT2.out (((hTT2.1.up _ _ (by omega)).up _ _ (by omega)).up _ _ (by omega)) (fun a a1 a2 => ?_)) (fun k hk => gS_out hk) (hcg2.out (by rw [xv_up_ne _ _ (by omega), xv_up_ne _ _ (by omega), xv_up_ne _ _ (by omega)]) (fun a a1 a2 => ?_)) ?_
             · rw [xv_up_row _ _ _ (by omega), xv_up_row _ _ _ (by omega), xv_up_row _ _ _ (by omega)]
             · rw [xv_up_row _ _ _ (by omega), xv_up_row _ _ _ (by omega), xv_up_row _ _ _ (by omega)]
             · rw [ch_set, if_neg hne, if_pos (by omega)]
               refine ⟨?_, fun _ => ⟨?_, ?_⟩⟩
               · rw [xv_up_ne _ _ (by omega), xv_up_ne _ _ (by omega), xv_up_same _ _ _ (by omega), if_pos rfl]
               · rw [xv_up_ne _ _ (by omega), xv_up_same _ _ _ (by omega)]
               · rw [xv_up_same _ _ _ (by omega)])
      · refine r_aload_n (i := 0) (pc' := 155) dX3_chooseSet_154 rfl rfl (.head _) ?_
        refine r_iconst (pc' := 156) dX3_chooseSet_155 rfl ?_
        refine r_putI (pc' := 159) dX3_chooseSet_156 rfl fX3_37 rfl (by first | assumption | rfl) (by omega) rfl rfl ?_
        refine r_aload_n (i := 0) (pc' := 160) dX3_chooseSet_159 rfl rfl (.head _) ?_
        refine r_iload (pc' := 162) dX3_chooseSet_160 rfl (.tail _ (.tail _ (.tail _ (.tail _ (.tail _ (.head _)))))) ?_
        refine r_putI (pc' := 165) dX3_chooseSet_162 rfl fX3_85 rfl (by first | assumption | rfl) (by omega) rfl rfl ?_
        refine r_aload_n (i := 0) (pc' := 166) dX3_chooseSet_165 rfl rfl (.head _) ?_
        refine r_iload (pc' := 168) dX3_chooseSet_166 rfl (.tail _ (.tail _ (.tail _ (.tail _ (.head _))))) ?_
        refine r_putI (pc' := 171) dX3_chooseSet_168 rfl fX3_94 rfl (by first | assumption | rfl) (by omega) rfl rfl ?_
        refine r_iinc (pc' := 174) dX3_chooseSet_171 rfl rfl (.tail _ (.tail _ (.tail _ (.tail _ (.head _))))) (.s1 (.s1 (.s1 (.s1 (.here (.s1 .nil rfl rfl rfl)) rfl rfl rfl) rfl rfl rfl) rfl rfl rfl) rfl rfl rfl) ?_
        refine r_goto (t := 11) dX3_chooseSet_174 (by decide) ?_
        refine r_sub (.kp (.kp (.kp (.kp (.kp (.dr .nil)))))) ?_
        first
          | (refine ih (s + 1) X2 (gS L s) (by omega) hTT2 (fun k hk => gS_out hk) hcg2 ?_
             rw [ch_set, if_neg hne, if_neg (by omega)]
             unfold chS at hS ⊢
             rw [h92]; exact hS)
          | (refine ih (s + 1) _ (gS L s) (by omega) (hTT2.out (((hTT2.1.up _ _ (by omega)).up _ _ (by omega)).up _ _ (by omega)) (fun a a1 a2 => ?_)) (fun k hk => gS_out hk) (hcg2.out (by rw [xv_up_ne _ _ (by omega), xv_up_ne _ _ (by omega), xv_up_ne _ _ (by omega)]) (fun a a1 a2 => ?_)) ?_
             · rw [xv_up_row _ _ _ (by omega), xv_up_row _ _ _ (by omega), xv_up_row _ _ _ (by omega)]
             · rw [xv_up_row _ _ _ (by omega), xv_up_row _ _ _ (by omega), xv_up_row _ _ _ (by omega)]
             · rw [ch_set, if_neg hne, if_pos (by omega)]
               refine ⟨?_, fun _ => ⟨?_, ?_⟩⟩
               · rw [xv_up_ne _ _ (by omega), xv_up_ne _ _ (by omega), xv_up_same _ _ _ (by omega), if_pos rfl]
               · rw [xv_up_ne _ _ (by omega), xv_up_same _ _ _ (by omega)]
               · rw [xv_up_same _ _ _ (by omega)])
    refine r_iload (pc' := 13) dX3_chooseSet_11 rfl (.tail _ (.tail _ (.tail _ (.tail _ (.head _))))) ?_
    refine r_iconst (pc' := 14) dX3_chooseSet_13 rfl ?_
    refine r_aload_n (i := 0) (pc' := 15) dX3_chooseSet_14 rfl rfl (.head _) ?_
    refine r_getI (pc' := 18) dX3_chooseSet_15 rfl fX3_41 rfl (by first | assumption | rfl) (by omega) ?_
    rw [zX1]
    refine r_ishl (pc' := 19) dX3_chooseSet_18 rfl (zi_shl1 L.length (by omega)) ?_
    rw [hpw]
    refine r_icmp_ge (t := 177) (f := 22) dX3_chooseSet_19 (by decide) rfl (by first | omega | exact xv_in _ _ _ | exact b_bc_in _) (by first | omega | exact xv_in _ _ _ | exact b_bc_in _) (fun h19 => ?_) (fun h19 => ?_)
    · exfalso; omega
    · refine r_aload_n (i := 0) (pc' := 23) dX3_chooseSet_22 rfl rfl (.head _) ?_
      refine r_aload_n (i := 0) (pc' := 24) dX3_chooseSet_23 rfl rfl (.head _) ?_
      refine r_getR (pc' := 27) dX3_chooseSet_24 rfl fX3_16 rfl (by first | assumption | rfl) (by omega) (by assumption) ?_
      refine r_iload (pc' := 29) dX3_chooseSet_27 rfl (.tail _ (.tail _ (.tail _ (.tail _ (.head _))))) ?_
      refine r_V2p (ci := 3) (pc' := 32) dX3_chooseSet_29 rfl lX3_81 rfl (by decide) (Nat.le_of_ble_eq_true rfl) (by first | assumption | rfl) (by omega) (tX3_chD (by omega) hL (by omega) hcg) ?_
      refine r_istore (pc' := 34) dX3_chooseSet_32 rfl rfl (.s1 (.s1 (.s1 (.s1 (.s1 .nil rfl rfl rfl) rfl rfl rfl) rfl rfl rfl) rfl rfl rfl) rfl rfl rfl) ?_
      refine r_iload (pc' := 36) dX3_chooseSet_34 rfl (.tail _ (.tail _ (.tail _ (.tail _ (.tail _ (.head _)))))) ?_
      refine r_aload_n (i := 0) (pc' := 37) dX3_chooseSet_36 rfl rfl (.head _) ?_
      refine r_getI (pc' := 40) dX3_chooseSet_37 rfl fX3_85 rfl (by first | assumption | rfl) (by omega) ?_
      refine r_icmp_lt (t := 67) (f := 43) dX3_chooseSet_40 (by decide) rfl (by first | omega | exact xv_in _ _ _ | exact b_bc_in _) (by first | omega | exact xv_in _ _ _ | exact b_bc_in _) (fun h40 => ?_) (fun h40 => ?_)
      · refine r_iconst (pc' := 68) dX3_chooseSet_67 rfl ?_
        refine r_goto (t := 72) dX3_chooseSet_68 (by decide) ?_
        refine r_istore (pc' := 74) dX3_chooseSet_72 rfl rfl (.s1 (.s1 (.s1 (.s1 (.s1 (.s1 .nil rfl rfl rfl) rfl rfl rfl) rfl rfl rfl) rfl rfl rfl) rfl rfl rfl) rfl rfl rfl) ?_
        refine r_aload_n (i := 0) (pc' := 75) dX3_chooseSet_74 rfl rfl (.head _) ?_
        refine r_getI (pc' := 78) dX3_chooseSet_75 rfl fX3_37 rfl (by first | assumption | rfl) (by omega) ?_
        refine r_if_eq (t := 89) (f := 81) dX3_chooseSet_78 (by decide) rfl (by first | omega | exact xv_in _ _ _ | exact b_bc_in _) (fun h78 => ?_) (fun h78 => ?_)
        · refine r_iconst (pc' := 90) dX3_chooseSet_89 rfl ?_
          refine r_istore (pc' := 92) dX3_chooseSet_90 rfl rfl (.s1 (.s1 (.s1 (.s1 (.s1 (.s1 (.s1 .nil rfl rfl rfl) rfl rfl rfl) rfl rfl rfl) rfl rfl rfl) rfl rfl rfl) rfl rfl rfl) rfl rfl rfl) ?_
          refine r_sub (.kp (.kp (.kp (.kp (.kp (.kp (.dr (.kp .nil)))))))) ?_
          refine iX3_chooseSet hb hO hap ht hch hL (G := G) (r9 := xv X1 459) (by omega) (fun X2 a1 a2 a3 => cont X2 a1 a2 a3 ?_) L.length 0 X1 (Nat.zero_add _) (hTT.congr (fun k _ => ⟨rfl, (gI_z L s G k).symm⟩)) hcg rfl
          intro q
          obtain ⟨m1, m2⟩ := hSm q.1
          first
            | (have := hS.1; rw [q.1, if_pos rfl] at this; omega)
            | exact q.2 (by omega)
        · refine r_iload (pc' := 83) dX3_chooseSet_81 rfl (.tail _ (.tail _ (.tail _ (.tail _ (.tail _ (.tail _ (.head _))))))) ?_
          refine r_if_ne (t := 89) (f := 86) dX3_chooseSet_83 (by decide) rfl (by first | omega | exact xv_in _ _ _ | exact b_bc_in _) (fun h83 => ?_) (fun h83 => ?_)
          · refine r_iconst (pc' := 90) dX3_chooseSet_89 rfl ?_
            refine r_istore (pc' := 92) dX3_chooseSet_90 rfl rfl (.s1 (.s1 (.s1 (.s1 (.s1 (.s1 (.s1 .nil rfl rfl rfl) rfl rfl rfl) rfl rfl rfl) rfl rfl rfl) rfl rfl rfl) rfl rfl rfl) rfl rfl rfl) ?_
            refine r_sub (.kp (.kp (.kp (.kp (.kp (.kp (.dr (.kp .nil)))))))) ?_
            refine iX3_chooseSet hb hO hap ht hch hL (G := G) (r9 := xv X1 459) (by omega) (fun X2 a1 a2 a3 => cont X2 a1 a2 a3 ?_) L.length 0 X1 (Nat.zero_add _) (hTT.congr (fun k _ => ⟨rfl, (gI_z L s G k).symm⟩)) hcg rfl
            intro q
            obtain ⟨m1, m2⟩ := hSm q.1
            first
              | (have := hS.1; rw [q.1, if_pos rfl] at this; omega)
              | exact q.2 (by omega)
          · refine r_goto (t := 171) dX3_chooseSet_86 (by decide) ?_
            refine r_iinc (pc' := 174) dX3_chooseSet_171 rfl rfl (.tail _ (.tail _ (.tail _ (.tail _ (.head _))))) (.s1 (.s1 (.s1 (.s1 (.here (.s1 (.s1 .nil rfl rfl rfl) rfl rfl rfl)) rfl rfl rfl) rfl rfl rfl) rfl rfl rfl) rfl rfl rfl) ?_
            refine r_goto (t := 11) dX3_chooseSet_174 (by decide) ?_
            refine r_sub (.kp (.kp (.kp (.kp (.kp (.dr (.dr .nil))))))) ?_
            have hfd : (ch_set X b L goal s).1 = true := by
              cases hh : (ch_set X b L goal s).1 with
              | true => rfl
              | false => exfalso; have := hS.1; rw [hh, if_neg (by decide)] at this; omega
            obtain ⟨m1, m2⟩ := hSm hfd
            refine ih (s + 1) X1 G (by omega) hTT hG hcg ?_
            rw [ch_set, if_pos ⟨hfd, by omega⟩]; exact hS
      · refine r_iload (pc' := 45) dX3_chooseSet_43 rfl (.tail _ (.tail _ (.tail _ (.tail _ (.tail _ (.head _)))))) ?_
        refine r_aload_n (i := 0) (pc' := 46) dX3_chooseSet_45 rfl rfl (.head _) ?_
        refine r_getI (pc' := 49) dX3_chooseSet_46 rfl fX3_85 rfl (by first | assumption | rfl) (by omega) ?_
        refine r_icmp_ne (t := 71) (f := 52) dX3_chooseSet_49 (by decide) rfl (by first | omega | exact xv_in _ _ _ | exact b_bc_in _) (by first | omega | exact xv_in _ _ _ | exact b_bc_in _) (fun h49 => ?_) (fun h49 => ?_)
        · refine r_iconst (pc' := 72) dX3_chooseSet_71 rfl ?_
          refine r_istore (pc' := 74) dX3_chooseSet_72 rfl rfl (.s1 (.s1 (.s1 (.s1 (.s1 (.s1 .nil rfl rfl rfl) rfl rfl rfl) rfl rfl rfl) rfl rfl rfl) rfl rfl rfl) rfl rfl rfl) ?_
          refine r_aload_n (i := 0) (pc' := 75) dX3_chooseSet_74 rfl rfl (.head _) ?_
          refine r_getI (pc' := 78) dX3_chooseSet_75 rfl fX3_37 rfl (by first | assumption | rfl) (by omega) ?_
          refine r_if_eq (t := 89) (f := 81) dX3_chooseSet_78 (by decide) rfl (by first | omega | exact xv_in _ _ _ | exact b_bc_in _) (fun h78 => ?_) (fun h78 => ?_)
          · refine r_iconst (pc' := 90) dX3_chooseSet_89 rfl ?_
            refine r_istore (pc' := 92) dX3_chooseSet_90 rfl rfl (.s1 (.s1 (.s1 (.s1 (.s1 (.s1 (.s1 .nil rfl rfl rfl) rfl rfl rfl) rfl rfl rfl) rfl rfl rfl) rfl rfl rfl) rfl rfl rfl) rfl rfl rfl) ?_
            refine r_sub (.kp (.kp (.kp (.kp (.kp (.kp (.dr (.kp .nil)))))))) ?_
            refine iX3_chooseSet hb hO hap ht hch hL (G := G) (r9 := xv X1 459) (by omega) (fun X2 a1 a2 a3 => cont X2 a1 a2 a3 ?_) L.length 0 X1 (Nat.zero_add _) (hTT.congr (fun k _ => ⟨rfl, (gI_z L s G k).symm⟩)) hcg rfl
            intro q
            obtain ⟨m1, m2⟩ := hSm q.1
            first
              | (have := hS.1; rw [q.1, if_pos rfl] at this; omega)
              | exact q.2 (by omega)
          · refine r_iload (pc' := 83) dX3_chooseSet_81 rfl (.tail _ (.tail _ (.tail _ (.tail _ (.tail _ (.tail _ (.head _))))))) ?_
            refine r_if_ne (t := 89) (f := 86) dX3_chooseSet_83 (by decide) rfl (by first | omega | exact xv_in _ _ _ | exact b_bc_in _) (fun h83 => ?_) (fun h83 => ?_)
            · refine r_iconst (pc' := 90) dX3_chooseSet_89 rfl ?_
              refine r_istore (pc' := 92) dX3_chooseSet_90 rfl rfl (.s1 (.s1 (.s1 (.s1 (.s1 (.s1 (.s1 .nil rfl rfl rfl) rfl rfl rfl) rfl rfl rfl) rfl rfl rfl) rfl rfl rfl) rfl rfl rfl) rfl rfl rfl) ?_
              refine r_sub (.kp (.kp (.kp (.kp (.kp (.kp (.dr (.kp .nil)))))))) ?_
              refine iX3_chooseSet hb hO hap ht hch hL (G := G) (r9 := xv X1 459) (by omega) (fun X2 a1 a2 a3 => cont X2 a1 a2 a3 ?_) L.length 0 X1 (Nat.zero_add _) (hTT.congr (fun k _ => ⟨rfl, (gI_z L s G k).symm⟩)) hcg rfl
              intro q
              obtain ⟨m1, m2⟩ := hSm q.1
              first
                | (have := hS.1; rw [q.1, if_pos rfl] at this; omega)
                | exact q.2 (by omega)
            · refine r_goto (t := 171) dX3_chooseSet_86 (by decide) ?_
              refine r_iinc (pc' := 174) dX3_chooseSet_171 rfl rfl (.tail _ (.tail _ (.tail _ (.tail _ (.head _))))) (.s1 (.s1 (.s1 (.s1 (.here (.s1 (.s1 .nil rfl rfl rfl) rfl rfl rfl)) rfl rfl rfl) rfl rfl rfl) rfl rfl rfl) rfl rfl rfl) ?_
              refine r_goto (t := 11) dX3_chooseSet_174 (by decide) ?_
              refine r_sub (.kp (.kp (.kp (.kp (.kp (.dr (.dr .nil))))))) ?_
              have hfd : (ch_set X b L goal s).1 = true := by
                cases hh : (ch_set X b L goal s).1 with
                | true => rfl
                | false => exfalso; have := hS.1; rw [hh, if_neg (by decide)] at this; omega
              obtain ⟨m1, m2⟩ := hSm hfd
              refine ih (s + 1) X1 G (by omega) hTT hG hcg ?_
              rw [ch_set, if_pos ⟨hfd, by omega⟩]; exact hS
        · refine r_iload (pc' := 54) dX3_chooseSet_52 rfl (.tail _ (.tail _ (.tail _ (.tail _ (.head _))))) ?_
          refine r_S1p (pc' := 57) dX3_chooseSet_54 rfl lX3_88 (by decide) (Nat.le_of_ble_eq_true rfl) (tJ6_bitCount_0f7a4) ?_
          refine r_aload_n (i := 0) (pc' := 58) dX3_chooseSet_57 rfl rfl (.head _) ?_
          refine r_getI (pc' := 61) dX3_chooseSet_58 rfl fX3_94 rfl (by first | assumption | rfl) (by omega) ?_
          refine r_S1p (pc' := 64) dX3_chooseSet_61 rfl lX3_88 (by decide) (Nat.le_of_ble_eq_true rfl) (tJ6_bitCount_0f7a4) ?_
          refine r_icmp_ge (t := 71) (f := 67) dX3_chooseSet_64 (by decide) rfl (by first | omega | exact xv_in _ _ _ | exact b_bc_in _) (by first | omega | exact xv_in _ _ _ | exact b_bc_in _) (fun h64 => ?_) (fun h64 => ?_)
          · refine r_iconst (pc' := 72) dX3_chooseSet_71 rfl ?_
            refine r_istore (pc' := 74) dX3_chooseSet_72 rfl rfl (.s1 (.s1 (.s1 (.s1 (.s1 (.s1 .nil rfl rfl rfl) rfl rfl rfl) rfl rfl rfl) rfl rfl rfl) rfl rfl rfl) rfl rfl rfl) ?_
            refine r_aload_n (i := 0) (pc' := 75) dX3_chooseSet_74 rfl rfl (.head _) ?_
            refine r_getI (pc' := 78) dX3_chooseSet_75 rfl fX3_37 rfl (by first | assumption | rfl) (by omega) ?_
            refine r_if_eq (t := 89) (f := 81) dX3_chooseSet_78 (by decide) rfl (by first | omega | exact xv_in _ _ _ | exact b_bc_in _) (fun h78 => ?_) (fun h78 => ?_)
            · refine r_iconst (pc' := 90) dX3_chooseSet_89 rfl ?_
              refine r_istore (pc' := 92) dX3_chooseSet_90 rfl rfl (.s1 (.s1 (.s1 (.s1 (.s1 (.s1 (.s1 .nil rfl rfl rfl) rfl rfl rfl) rfl rfl rfl) rfl rfl rfl) rfl rfl rfl) rfl rfl rfl) rfl rfl rfl) ?_
              refine r_sub (.kp (.kp (.kp (.kp (.kp (.kp (.dr (.kp .nil)))))))) ?_
              refine iX3_chooseSet hb hO hap ht hch hL (G := G) (r9 := xv X1 459) (by omega) (fun X2 a1 a2 a3 => cont X2 a1 a2 a3 ?_) L.length 0 X1 (Nat.zero_add _) (hTT.congr (fun k _ => ⟨rfl, (gI_z L s G k).symm⟩)) hcg rfl
              intro q
              obtain ⟨m1, m2⟩ := hSm q.1
              first
                | (have := hS.1; rw [q.1, if_pos rfl] at this; omega)
                | exact q.2 (by omega)
            · refine r_iload (pc' := 83) dX3_chooseSet_81 rfl (.tail _ (.tail _ (.tail _ (.tail _ (.tail _ (.tail _ (.head _))))))) ?_
              refine r_if_ne (t := 89) (f := 86) dX3_chooseSet_83 (by decide) rfl (by first | omega | exact xv_in _ _ _ | exact b_bc_in _) (fun h83 => ?_) (fun h83 => ?_)
              · refine r_iconst (pc' := 90) dX3_chooseSet_89 rfl ?_
                refine r_istore (pc' := 92) dX3_chooseSet_90 rfl rfl (.s1 (.s1 (.s1 (.s1 (.s1 (.s1 (.s1 .nil rfl rfl rfl) rfl rfl rfl) rfl rfl rfl) rfl rfl rfl) rfl rfl rfl) rfl rfl rfl) rfl rfl rfl) ?_
                refine r_sub (.kp (.kp (.kp (.kp (.kp (.kp (.dr (.kp .nil)))))))) ?_
                refine iX3_chooseSet hb hO hap ht hch hL (G := G) (r9 := xv X1 459) (by omega) (fun X2 a1 a2 a3 => cont X2 a1 a2 a3 ?_) L.length 0 X1 (Nat.zero_add _) (hTT.congr (fun k _ => ⟨rfl, (gI_z L s G k).symm⟩)) hcg rfl
                intro q
                obtain ⟨m1, m2⟩ := hSm q.1
                first
                  | (have := hS.1; rw [q.1, if_pos rfl] at this; omega)
                  | exact q.2 (by omega)
              · refine r_goto (t := 171) dX3_chooseSet_86 (by decide) ?_
                refine r_iinc (pc' := 174) dX3_chooseSet_171 rfl rfl (.tail _ (.tail _ (.tail _ (.tail _ (.head _))))) (.s1 (.s1 (.s1 (.s1 (.here (.s1 (.s1 .nil rfl rfl rfl) rfl rfl rfl)) rfl rfl rfl) rfl rfl rfl) rfl rfl rfl) rfl rfl rfl) ?_
                refine r_goto (t := 11) dX3_chooseSet_174 (by decide) ?_
                refine r_sub (.kp (.kp (.kp (.kp (.kp (.dr (.dr .nil))))))) ?_
                have hfd : (ch_set X b L goal s).1 = true := by
                  cases hh : (ch_set X b L goal s).1 with
                  | true => rfl
                  | false => exfalso; have := hS.1; rw [hh, if_neg (by decide)] at this; omega
                obtain ⟨m1, m2⟩ := hSm hfd
                refine ih (s + 1) X1 G (by omega) hTT hG hcg ?_
                rw [ch_set, if_pos ⟨hfd, by omega⟩]; exact hS
          · refine r_iconst (pc' := 68) dX3_chooseSet_67 rfl ?_
            refine r_goto (t := 72) dX3_chooseSet_68 (by decide) ?_
            refine r_istore (pc' := 74) dX3_chooseSet_72 rfl rfl (.s1 (.s1 (.s1 (.s1 (.s1 (.s1 .nil rfl rfl rfl) rfl rfl rfl) rfl rfl rfl) rfl rfl rfl) rfl rfl rfl) rfl rfl rfl) ?_
            refine r_aload_n (i := 0) (pc' := 75) dX3_chooseSet_74 rfl rfl (.head _) ?_
            refine r_getI (pc' := 78) dX3_chooseSet_75 rfl fX3_37 rfl (by first | assumption | rfl) (by omega) ?_
            refine r_if_eq (t := 89) (f := 81) dX3_chooseSet_78 (by decide) rfl (by first | omega | exact xv_in _ _ _ | exact b_bc_in _) (fun h78 => ?_) (fun h78 => ?_)
            · refine r_iconst (pc' := 90) dX3_chooseSet_89 rfl ?_
              refine r_istore (pc' := 92) dX3_chooseSet_90 rfl rfl (.s1 (.s1 (.s1 (.s1 (.s1 (.s1 (.s1 .nil rfl rfl rfl) rfl rfl rfl) rfl rfl rfl) rfl rfl rfl) rfl rfl rfl) rfl rfl rfl) rfl rfl rfl) ?_
              refine r_sub (.kp (.kp (.kp (.kp (.kp (.kp (.dr (.kp .nil)))))))) ?_
              refine iX3_chooseSet hb hO hap ht hch hL (G := G) (r9 := xv X1 459) (by omega) (fun X2 a1 a2 a3 => cont X2 a1 a2 a3 ?_) L.length 0 X1 (Nat.zero_add _) (hTT.congr (fun k _ => ⟨rfl, (gI_z L s G k).symm⟩)) hcg rfl
              intro q
              obtain ⟨m1, m2⟩ := hSm q.1
              first
                | (have := hS.1; rw [q.1, if_pos rfl] at this; omega)
                | exact q.2 (by omega)
            · refine r_iload (pc' := 83) dX3_chooseSet_81 rfl (.tail _ (.tail _ (.tail _ (.tail _ (.tail _ (.tail _ (.head _))))))) ?_
              refine r_if_ne (t := 89) (f := 86) dX3_chooseSet_83 (by decide) rfl (by first | omega | exact xv_in _ _ _ | exact b_bc_in _) (fun h83 => ?_) (fun h83 => ?_)
              · refine r_iconst (pc' := 90) dX3_chooseSet_89 rfl ?_
                refine r_istore (pc' := 92) dX3_chooseSet_90 rfl rfl (.s1 (.s1 (.s1 (.s1 (.s1 (.s1 (.s1 .nil rfl rfl rfl) rfl rfl rfl) rfl rfl rfl) rfl rfl rfl) rfl rfl rfl) rfl rfl rfl) rfl rfl rfl) ?_
                refine r_sub (.kp (.kp (.kp (.kp (.kp (.kp (.dr (.kp .nil)))))))) ?_
                refine iX3_chooseSet hb hO hap ht hch hL (G := G) (r9 := xv X1 459) (by omega) (fun X2 a1 a2 a3 => cont X2 a1 a2 a3 ?_) L.length 0 X1 (Nat.zero_add _) (hTT.congr (fun k _ => ⟨rfl, (gI_z L s G k).symm⟩)) hcg rfl
                intro q
                obtain ⟨m1, m2⟩ := hSm q.1
                first
                  | (have := hS.1; rw [q.1, if_pos rfl] at this; omega)
                  | exact q.2 (by omega)
              · refine r_goto (t := 171) dX3_chooseSet_86 (by decide) ?_
                refine r_iinc (pc' := 174) dX3_chooseSet_171 rfl rfl (.tail _ (.tail _ (.tail _ (.tail _ (.head _))))) (.s1 (.s1 (.s1 (.s1 (.here (.s1 (.s1 .nil rfl rfl rfl) rfl rfl rfl)) rfl rfl rfl) rfl rfl rfl) rfl rfl rfl) rfl rfl rfl) ?_
                refine r_goto (t := 11) dX3_chooseSet_174 (by decide) ?_
                refine r_sub (.kp (.kp (.kp (.kp (.kp (.dr (.dr .nil))))))) ?_
                have hfd : (ch_set X b L goal s).1 = true := by
                  cases hh : (ch_set X b L goal s).1 with
                  | true => rfl
                  | false => exfalso; have := hS.1; rw [hh, if_neg (by decide)] at this; omega
                obtain ⟨m1, m2⟩ := hSm hfd
                refine ih (s + 1) X1 G (by omega) hTT hG hcg ?_
                rw [ch_set, if_pos ⟨hfd, by omega⟩]; exact hS
set_option maxHeartbeats 4000000 in
set_option maxRecDepth 100000 in
theorem tX3_chooseSet {l : Launch} {g : q_G} {n : Nat} {P : q_P} {X : q_X} {Y : q_Y} {b : Nat} (hb : isBk n P b) (hO : bOk X b) (hap : bApart b) (ht : isTal n P) (hch : isCho n P) {goal : Int} (hgo : q_in goal) : q_Met l g mX3_chooseSet 5 [.ref (g.1 + 459), .ref (g.1 + b), .ref (g.1 + 453), .int (zi goal)] n P X Y (q_gv (fun n' P' X' Y' => n' = n ∧ P' = P ∧ Y' = Y ∧ tOut X X' ∧ chS X' (ch_set X b (whoA X b 10) goal (2 ^ (whoA X b 10).length)))) := by
  obtain ⟨b0, b1, b2, b3, q7, q8, q9, q11, q12, q13, hn, hpro, hmar, hfor, hcs⟩ := id hb
  obtain ⟨o0, o1, o2, o3, o4, o5, o6, o10, oc, op0, opz, opi, om0, omi, olim⟩ := id hO
  obtain ⟨t0, t1, t2, t3, t4, hnt⟩ := id ht
  obtain ⟨v0, v1, v2, v3, v4, v5, v6, hnh⟩ := id hch
  refine q_enter (L := [(0, .ref (g.1 + 459)), (1, .ref (g.1 + b)), (2, .ref (g.1 + 453)), (3, .int (zi goal))]) (by decide) (Nat.le_of_ble_eq_true rfl) rfl ?_
  refine r_aload_n (i := 0) (pc' := 1) dX3_chooseSet_0 rfl rfl (.head _) ?_
  refine r_aload_n (i := 1) (pc' := 2) dX3_chooseSet_1 rfl rfl (.tail _ (.head _)) ?_
  refine r_aload_n (i := 2) (pc' := 3) dX3_chooseSet_2 rfl rfl (.tail _ (.tail _ (.head _))) ?_
  refine r_bipush (pc' := 5) dX3_chooseSet_3 rfl (by decide) ?_
  refine r_V3gv (ci := 3) (pc' := 8) dX3_chooseSet_5 rfl lX3_77 rfl (by decide) (Nat.le_of_ble_eq_true rfl) (by first | assumption | rfl) (by omega) (tX3_gather (m := 10) hb hO hap ht hch (by omega)) (fun n5 P5 X5 Y5 e5 le5 => ?_)
  obtain ⟨rfl, rfl, rfl, hTT, hcg, h8⟩ := e5
  refine r_iconst (pc' := 9) dX3_chooseSet_8 rfl ?_
  refine r_istore (pc' := 11) dX3_chooseSet_9 rfl rfl (.s1 (.s1 (.s1 (.s1 .nil rfl rfl rfl) rfl rfl rfl) rfl rfl rfl) rfl rfl rfl) ?_
  exact lX3_chooseSet hb hO hap ht hch (LOk_who (by omega)) hgo _ 0 _ g0 (Nat.zero_add _) hTT (fun k _ => rfl) hcg ⟨by rw [h8]; rfl, fun q => by cases q⟩
