theorem lg_cmp_z (a b : Int64) : lg_cmp a b = zi (if a < b then -1 else if a = b then 0 else 1) := by
  unfold lg_cmp
  have k1 := Int64.lt_iff_toInt_lt (x := a) (y := b)
  have k2 := Int64.lt_iff_toInt_lt (x := b) (y := a)
  by_cases h : a < b
  · have h2 : ¬ a > b := fun q => by have := k1.mp h; have := k2.mp q; omega
    have h3 : ¬ a = b := fun q => by subst q; have := k1.mp h; omega
    rw [if_neg h2, if_neg h3, if_pos h]; rfl
  · by_cases e : a = b
    · have h2 : ¬ a > b := fun q => by subst e; have := k2.mp q; omega
      rw [if_neg h2, if_pos e, if_neg h, if_pos e]; rfl
    · have h2 : a > b := k2.mpr (by
        have : ¬ a.toInt < b.toInt := fun q => h (k1.mpr q)
        have : ¬ a.toInt = b.toInt := fun q => e (Int64.toInt_inj.mp q)
        omega)
      rw [if_pos h2, if_neg h, if_neg e]; rfl
theorem lg_le_z (a b : Int64) : (if a < b then (-1 : Int) else if a = b then 0 else 1) ≤ 0 ↔ ¬ b < a := by
  by_cases h : a < b
  · rw [if_pos h]
    rw [Int64.lt_iff_toInt_lt] at h ⊢
    constructor <;> intro _ <;> omega
  · rw [if_neg h]
    rw [Int64.lt_iff_toInt_lt] at h ⊢
    by_cases e : a = b
    · rw [if_pos e]; subst e; constructor <;> intro _ <;> omega
    · have : ¬ a.toInt = b.toInt := fun q => e (Int64.toInt_inj.mp q)
      rw [if_neg e]; constructor <;> intro _ <;> omega
theorem q_Tr.mono {l : Launch} {g : q_G} {y : q_M} {d : Nat} {K K' : q_K} {pc : Nat} {L : List (Nat × Value)} {S : List Value} {n : Nat} {P : q_P} {X : q_X} {Y : q_Y} (hk : ∀ v n P X Y, K' v n P X Y → K v n P X Y) (h : q_Tr l g y d K' pc L S n P X Y) : q_Tr l g y d K pc L S n P X Y := by
  obtain ⟨v, N, P', X', Y', h1, h2⟩ := h
  exact ⟨v, N, P', X', Y', hk _ _ _ _ _ h1, h2⟩
def f_saysF (X : q_X) (b : Nat) (k : Int) : Int64 := if xv X (b + 15) 0 = 0 ∨ ¬ bk_ref X b k = 0 then -1000000000000 else f_says X b k.toNat
def gp (X : q_X) (b : Nat) : Nat → Int × Int64
  | 0 => (-1, 0)
  | k + 1 => if bk_ref X b k = 0 ∧ 0 < bk_sav X b k (xv X b 1) ∧ ((gp X b k).1 = -1 ∨ (gp X b k).2 < f_says X b k) then ((k : Int), f_says X b k) else gp X b k
theorem gp_ok (X : q_X) (b : Nat) : ∀ s, (gp X b s).1 = -1 ∨ (0 ≤ (gp X b s).1 ∧ (gp X b s).1 < s ∧ bk_ref X b (gp X b s).1 = 0)
  | 0 => Or.inl rfl
  | s + 1 => by
    have ih := gp_ok X b s
    rw [gp]; split
    · rename_i h; exact Or.inr ⟨by dsimp only; omega, by dsimp only; omega, h.1⟩
    · rcases ih with h | h
      · exact Or.inl h
      · exact Or.inr ⟨h.1, by omega, h.2.2⟩
theorem gp_s {X X' : q_X} {b : Nat} (h : bS X X' b) (h10 : xv X b 10 ≤ 40) : ∀ s, s ≤ 40 → gp X' b s = gp X b s
  | 0, _ => rfl
  | s + 1, hs => by
    rw [gp, gp, gp_s h h10 s (by omega), bk_ref_ag h.ag h10, h.v0, h.sav h10 (by omega), h.says h10 (by omega)]
theorem up_row {X X' : q_X} {i j a : Nat} {v : Int32} (h : X' a = X a) : q_up X' i j v a = q_up X i j v a := by
  funext q; simp only [q_up, h]
theorem bS.rel {X X' : q_X} {b : Nat} (h : bS X X' b) (h10 : xv X b 10 ≤ 40) (k t : Int) : bS (bk_rel X b k t) (bk_rel X' b k t) b := by
  intro d hd h8
  have e := h d hd h8
  unfold bk_rel
  rw [bk_ref_ag h.ag h10]
  by_cases hk : bk_ref X b k = 0
  · have hh := bk_ref_has hk
    have hc := h.ag.c (k := k.toNat) (by omega)
    rw [if_neg (c := ¬ bk_ref X b k = 0) (fun q => q hk), if_neg (c := ¬ bk_ref X b k = 0) (fun q => q hk), h.v0, h.v 2 (by omega) (by omega), bk_dead_ag h.ag hc, bk_dNow_ag h.ag hc, bk_next_ag h.ag hc]
    refine up_row (up_row ?_)
    split
    · exact up_row (up_row e)
    · exact up_row e
  · rw [if_pos hk, if_pos hk]; exact e
theorem bF.rel {X : q_X} {b : Nat} {k t : Int} (h : bF X b) : bF (bk_rel X b k t) b := by
  unfold bF at h ⊢
  rw [bk_rel_o (i := b + 15) (by omega) (by unfold con; omega), bk_rel_o (i := b + 16) (by omega) (by unfold con; omega)]
  exact h
theorem bk_rel_out {X : q_X} {b : Nat} {k t : Int} {a : Nat} (hk : bk_ref X b k = 0) (h10 : xv X b 10 ≤ 40) (h : a < b ∨ b + 220 ≤ a) : bk_rel X b k t a = X a := by
  have hh := bk_ref_has hk
  have hc : con b k.toNat + 5 ≤ b + 220 := by unfold con; omega
  have hc2 : b + 20 ≤ con b k.toNat := by unfold con; omega
  unfold bk_rel
  rw [if_neg (fun q => q hk)]
  funext q
  split <;> simp (disch := omega) only [q_up_ne]
/-- cuts by the policy -/
def bp (b : Nat) (goal : Int) : Nat → q_X → Int → q_X × Int
  | 0, X, m => (X, m)
  | w + 1, X, m => if goal ≤ nz (bk_room X b g0 g0) then (X, m) else if (gp X b (xv X b 10).toNat).1 = -1 then (X, m) else bp b goal w (bk_rel X b (gp X b (xv X b 10).toNat).1 0) (m + 1)
theorem bp_s {b : Nat} {goal : Int} : ∀ (w : Nat) (X X' : q_X) (m : Int), bS X X' b → bOk X b → (bp b goal w X' m).2 = (bp b goal w X m).2 ∧ bS (bp b goal w X m).1 (bp b goal w X' m).1 b
  | 0, _, _, _, h, _ => ⟨rfl, h⟩
  | w + 1, X, X', m, h, hO => by
    have h10 := hO.2.2.2.2.2.2.2.1
    rw [bp, bp, h.room h10.2, h.v0, gp_s h h10.2 _ (by omega)]
    split
    · exact ⟨rfl, h⟩
    · split
      · exact ⟨rfl, h⟩
      · rename_i hg
        have hk := gp_ok X b (xv X b 10).toNat
        exact bp_s w _ _ _ (h.rel h10.2 _ 0) (bOk_rel 0 hO (by rcases hk with q | q; exact absurd q hg; exact q.2.2))
theorem bp_m {b : Nat} {goal : Int} : ∀ (w : Nat) (X : q_X) (m : Int), m ≤ (bp b goal w X m).2 ∧ (bp b goal w X m).2 ≤ m + w
  | 0, _, m => ⟨by simp [bp], by simp [bp]⟩
  | w + 1, X, m => by
    rw [bp]; split
    · dsimp only; omega
    · split
      · dsimp only; omega
      · have := bp_m (b := b) (goal := goal) w (bk_rel X b (gp X b (xv X b 10).toNat).1 0) (m + 1)
        omega
set_option maxHeartbeats 4000000 in
set_option maxRecDepth 100000 in
theorem tX11_says {l : Launch} {g : q_G} {n : Nat} {P : q_P} {X : q_X} {Y : q_Y} {b : Nat} (hF : isFace n P b) (hb : isBk n P b) (hO : bOk X b) (hap : bApart b) (ht : isTal n P) (hfm : bF X b) {k : Int} (hi : q_in k) : q_Met l g mX11_says 7 [.ref (g.1 + 0), .int (zi k)] n P X Y (q_gl (fun r' n' P' X' Y' => n' = n ∧ P' = P ∧ tOL b X X' ∧ r' = f_saysF X b k)) := by
  obtain ⟨f0, f2, f3, f4, f5, f6, f7, f8, hn0⟩ := id hF
  obtain ⟨b0, b1, b2, b3, q7, q8, q9, q11, q12, q13, hn, hpro, hmar, hfor, hcs⟩ := id hb
  obtain ⟨o0, o1, o2, o3, o4, o5, o6, o10, oc, op0, opz, opi, om0, omi, olim⟩ := id hO
  obtain ⟨t0, t1, t2, t3, t4, hnt⟩ := id ht
  obtain ⟨s0f, s1f, s2f, s3f, s4f, p1f, p2f, p4f, p5f, hnf⟩ := isBk.frm hfor
  refine q_enter (L := [(0, .ref (g.1 + 0)), (1, .int (zi k))]) (by decide) (Nat.le_of_ble_eq_true rfl) rfl ?_
  refine r_aload_n (i := 0) (pc' := 1) dX11_says_0 rfl rfl (.head _) ?_
  refine r_getR (pc' := 4) dX11_says_1 rfl fX11_10 rfl (by first | assumption | rfl) (by omega) (by assumption) ?_
  refine r_getR (pc' := 7) dX11_says_4 rfl fX11_101 rfl (by first | assumption | rfl) (by omega) (by assumption) ?_
  refine r_getI (pc' := 10) dX11_says_7 rfl fX11_306 rfl (by first | assumption | rfl) (by omega) ?_
  refine r_if_eq (t := 24) (f := 13) dX11_says_10 (by decide) rfl (by first | omega | exact xv_in _ _ _ | assumption) (fun h10 => ?_) (fun h10 => ?_)
  · refine r_ldc2 (pc' := 27) dX11_says_24 rfl kX11_307 ?_
    refine r_lreturn dX11_says_27 rfl ?_
    refine ⟨_, rfl, rfl, rfl, tOL.rfl, ?_⟩
    rw [f_saysF]
    first | (rw [if_pos (Or.inl h10)]; done) | (rw [if_pos (Or.inr hk)]; done)
  · refine r_aload_n (i := 0) (pc' := 14) dX11_says_13 rfl rfl (.head _) ?_
    refine r_getR (pc' := 17) dX11_says_14 rfl fX11_10 rfl (by first | assumption | rfl) (by omega) (by assumption) ?_
    refine r_iload_n (i := 1) (pc' := 18) dX11_says_17 rfl rfl (.tail _ (.head _)) ?_
    by_cases hk : bk_ref X b k = 0
    · have hh := bk_ref_has hk
      refine r_V1p (ci := 1) (pc' := 21) dX11_says_18 rfl lX11_222 rfl (by decide) (Nat.le_of_ble_eq_true rfl) (by first | assumption | rfl) (by omega) (tX1_findBegun hb hO (by omega) hk) ?_
      refine r_ifnonnull (t := 28) dX11_says_21 (by decide) ?_
      refine r_aload_n (i := 0) (pc' := 29) dX11_says_28 rfl rfl (.head _) ?_
      refine r_getR (pc' := 32) dX11_says_29 rfl fX11_56 rfl (by first | assumption | rfl) (by omega) (by assumption) ?_
      refine r_aload_n (i := 0) (pc' := 33) dX11_says_32 rfl rfl (.head _) ?_
      refine r_getR (pc' := 36) dX11_says_33 rfl fX11_10 rfl (by first | assumption | rfl) (by omega) (by assumption) ?_
      refine r_V1gv (ci := 10) (pc' := 39) dX11_says_36 rfl lX11_211 rfl (by decide) (Nat.le_of_ble_eq_true rfl) (by first | assumption | rfl) (by omega) (tX10_load hb hO ht hap) (fun n36 P36 X36 Y36 e36 le36 => ?_)
      obtain ⟨rfl, rfl, rfl, ho, htl⟩ := e36
      have hTT := TT.of ho hap hO htl
      have hT1 := htl.1
      have hag := ho.ag hap
      have hO1 := bOk_ag hag hO
      have eb : xv X36 b = xv X b := hag.z
      refine r_aload_n (i := 0) (pc' := 40) dX11_says_39 rfl rfl (.head _) ?_
      refine r_iload_n (i := 1) (pc' := 41) dX11_says_40 rfl rfl (.tail _ (.head _)) ?_
      refine r_V1gl (ci := 11) (pc' := 44) dX11_says_41 rfl lX11_309 rfl (by decide) (Nat.le_of_ble_eq_true rfl) (by first | assumption | rfl) (by omega) (tX11_policySum hF hb hO1 hap ht htl ((bEq.to ho hap).s.f hfm) (by rw [(bEq.to ho hap).v 15 (by omega)]; have := hfm.1; omega) (by omega) (by rw [bk_ref_ag hag o10.2]; exact hk)) (fun r41 n41 P41 X41 Y41 e41 le41 => ?_)
      obtain ⟨h1v, h2v, h3v, h4v⟩ := e41
      subst h1v h2v
      refine r_lreturn dX11_says_44 rfl ?_
      refine ⟨_, rfl, rfl, rfl, ho.ol.trans h3v.ol, ?_⟩
      rw [h4v, f_saysF, if_neg (fun q => q.elim h10 (fun q => q hk)), (bEq.to ho hap).s.says o10.2 (by omega)]
    · refine r_V1p (ci := 1) (pc' := 21) dX11_says_18 rfl lX11_222 rfl (by decide) (Nat.le_of_ble_eq_true rfl) (by first | assumption | rfl) (by omega) (tX1_findBegunN hb hO (by omega) hk) ?_
      refine r_ifnonnullN (pc' := 24) dX11_says_21 rfl ?_
      refine r_ldc2 (pc' := 27) dX11_says_24 rfl kX11_307 ?_
      refine r_lreturn dX11_says_27 rfl ?_
      refine ⟨_, rfl, rfl, rfl, tOL.rfl, ?_⟩
      rw [f_saysF]
      first | (rw [if_pos (Or.inl h10)]; done) | (rw [if_pos (Or.inr hk)]; done)
set_option maxHeartbeats 4000000 in
set_option maxRecDepth 100000 in
theorem lX11_greatestByPolicy {l : Launch} {g : q_G} {n : Nat} {P : q_P} {X : q_X} {b : Nat} (hF : isFace n P b) (hb : isBk n P b) (hO : bOk X b) (hap : bApart b) (ht : isTal n P) (htl : TL X b) (hfm : bF X b) (hfs : 1 ≤ xv X (b + 15) 0) : ∀ (w i : Nat) (X1 : q_X) (Y1 : q_Y), i + w = (xv X b 10).toNat → bL b X X1 → q_Tr l g mX11_greatestByPolicy 7 (q_gi (fun r' n' P' X' Y' => n' = n ∧ P' = P ∧ bL b X X' ∧ r' = (gp X b (xv X b 10).toNat).1)) 7 [(0, .ref (g.1 + 0)), (1, .int (zi (gp X b i).1)), (2, .long (gp X b i).2), (4, .int (zi (i : Int)))] [] n P X1 Y1 := by
  obtain ⟨f0, f2, f3, f4, f5, f6, f7, f8, hn0⟩ := id hF
  obtain ⟨b0, b1, b2, b3, q7, q8, q9, q11, q12, q13, hn, hpro, hmar, hfor, hcs⟩ := id hb
  obtain ⟨o0, o1, o2, o3, o4, o5, o6, o10, oc, op0, opz, opi, om0, omi, olim⟩ := id hO
  obtain ⟨t0, t1, t2, t3, t4, hnt⟩ := id ht
  intro w
  induction w with
  | zero =>
    intro i X1 Y1 hi hL
    have hS := hL.s
    obtain rfl : i = (xv X b 10).toNat := by omega
    refine r_iload (pc' := 9) dX11_greatestByPolicy_7 rfl (.tail _ (.tail _ (.tail _ (.head _)))) ?_
    refine r_aload_n (i := 0) (pc' := 10) dX11_greatestByPolicy_9 rfl rfl (.head _) ?_
    refine r_getR (pc' := 13) dX11_greatestByPolicy_10 rfl fX11_10 rfl (by first | assumption | rfl) (by omega) (by assumption) ?_
    refine r_getI (pc' := 16) dX11_greatestByPolicy_13 rfl fX11_153 rfl (by first | assumption | rfl) (by omega) ?_
    rw [hS.v0]
    refine r_icmp_ge (t := 89) (f := 19) dX11_greatestByPolicy_16 (by decide) rfl (by first | omega | exact xv_in _ _ _ | assumption) (by first | omega | exact xv_in _ _ _ | assumption) (fun h16 => ?_) (fun h16 => ?_)
    · refine r_iload_n (i := 1) (pc' := 90) dX11_greatestByPolicy_89 rfl rfl (.tail _ (.head _)) ?_
      refine r_ireturn dX11_greatestByPolicy_90 rfl ?_
      exact ⟨_, rfl, rfl, rfl, hL, rfl⟩
    · exfalso; omega
  | succ w ih =>
    intro i X1 Y1 hi hL
    have hS := hL.s
    have hO1 := bOk_ag hS.ag hO
    have hT1 := htl.lt hO hS (fun a h1 h2 => hL a (by unfold bApart at hap; omega))
    have hg := gp.eq_2 X b i
    have hgo := gp_ok X b i
    have hsv := bk_sav_b hO (k := i) (by omega) (xv X b 1)
    refine r_iload (pc' := 9) dX11_greatestByPolicy_7 rfl (.tail _ (.tail _ (.tail _ (.head _)))) ?_
    refine r_aload_n (i := 0) (pc' := 10) dX11_greatestByPolicy_9 rfl rfl (.head _) ?_
    refine r_getR (pc' := 13) dX11_greatestByPolicy_10 rfl fX11_10 rfl (by first | assumption | rfl) (by omega) (by assumption) ?_
    refine r_getI (pc' := 16) dX11_greatestByPolicy_13 rfl fX11_153 rfl (by first | assumption | rfl) (by omega) ?_
    rw [hS.v0]
    refine r_icmp_ge (t := 89) (f := 19) dX11_greatestByPolicy_16 (by decide) rfl (by first | omega | exact xv_in _ _ _ | assumption) (by first | omega | exact xv_in _ _ _ | assumption) (fun h16 => ?_) (fun h16 => ?_)
    · exfalso; omega
    · refine r_aload_n (i := 0) (pc' := 20) dX11_greatestByPolicy_19 rfl rfl (.head _) ?_
      refine r_getR (pc' := 23) dX11_greatestByPolicy_20 rfl fX11_10 rfl (by first | assumption | rfl) (by omega) (by assumption) ?_
      refine r_iload (pc' := 25) dX11_greatestByPolicy_23 rfl (.tail _ (.tail _ (.tail _ (.head _)))) ?_
      by_cases hk : bk_ref X b i = 0
      · refine r_V1p (ci := 1) (pc' := 28) dX11_greatestByPolicy_25 rfl lX11_222 rfl (by decide) (Nat.le_of_ble_eq_true rfl) (by first | assumption | rfl) (by omega) (tX1_findBegun hb hO1 (by omega) (by rw [bk_ref_ag hS.ag o10.2]; exact hk)) ?_
        refine r_ifnull (pc' := 31) dX11_greatestByPolicy_28 rfl ?_
        refine r_aload_n (i := 0) (pc' := 32) dX11_greatestByPolicy_31 rfl rfl (.head _) ?_
        refine r_getR (pc' := 35) dX11_greatestByPolicy_32 rfl fX11_56 rfl (by first | assumption | rfl) (by omega) (by assumption) ?_
        refine r_aload_n (i := 0) (pc' := 36) dX11_greatestByPolicy_35 rfl rfl (.head _) ?_
        refine r_getR (pc' := 39) dX11_greatestByPolicy_36 rfl fX11_10 rfl (by first | assumption | rfl) (by omega) (by assumption) ?_
        refine r_iload (pc' := 41) dX11_greatestByPolicy_39 rfl (.tail _ (.tail _ (.tail _ (.head _)))) ?_
        refine r_aload_n (i := 0) (pc' := 42) dX11_greatestByPolicy_41 rfl rfl (.head _) ?_
        refine r_getR (pc' := 45) dX11_greatestByPolicy_42 rfl fX11_10 rfl (by first | assumption | rfl) (by omega) (by assumption) ?_
        refine r_getI (pc' := 48) dX11_greatestByPolicy_45 rfl fX11_138 rfl (by first | assumption | rfl) (by omega) ?_
        rw [hS.v0]
        refine r_V3p (ci := 10) (pc' := 51) dX11_greatestByPolicy_48 rfl lX11_236 rfl (by decide) (Nat.le_of_ble_eq_true rfl) (by first | assumption | rfl) (by omega) (tX10_saved hb hO1 ht hT1.1 hap (by omega) (by omega) (fun _ => (hT1.2.1 i (by rw [hS.v0]; omega)).2.2.2)) ?_
        rw [(TT.of tOut.rfl hap hO1 hT1).sav hap hO1 (by rw [bk_ref_ag hS.ag o10.2]; exact hk), Int.toNat_natCast, hS.sav o10.2 (by omega)]
        refine r_if_gt (t := 57) (f := 54) dX11_greatestByPolicy_51 (by decide) rfl (by first | omega | exact xv_in _ _ _ | assumption) (fun h51 => ?_) (fun h51 => ?_)
        · refine r_aload_n (i := 0) (pc' := 58) dX11_greatestByPolicy_57 rfl rfl (.head _) ?_
          refine r_iload (pc' := 60) dX11_greatestByPolicy_58 rfl (.tail _ (.tail _ (.tail _ (.head _)))) ?_
          refine r_V1gl (ci := 11) (pc' := 63) dX11_greatestByPolicy_60 rfl lX11_309 rfl (by decide) (Nat.le_of_ble_eq_true rfl) (by first | assumption | rfl) (by omega) (tX11_policySum hF hb hO1 hap ht hT1 (hS.f hfm) (by rw [hS.v 15 (by omega) (by omega)]; exact hfs) (by omega) (by rw [bk_ref_ag hS.ag o10.2]; exact hk)) (fun r60 n60 P60 X60 Y60 e60 le60 => ?_)
          obtain ⟨h1v, h2v, h3v, h4v⟩ := e60
          subst h1v h2v
          rw [Int.toNat_natCast, hS.says o10.2 (by omega)] at h4v
          subst h4v
          have hL2 := hL.trans h3v
          refine r_lstore (pc' := 65) dX11_greatestByPolicy_63 rfl rfl (.s2 (.s2 (.s2 (.s2 .nil rfl (.inr rfl) (.inl rfl)) rfl (.inl rfl) (.inl rfl)) rfl (.inr rfl) (.inl rfl)) rfl (.inr rfl) (.inl rfl)) ?_
          refine r_iload_n (i := 1) (pc' := 66) dX11_greatestByPolicy_65 rfl rfl (.tail _ (.head _)) ?_
          refine r_iconst (pc' := 67) dX11_greatestByPolicy_66 rfl ?_
          refine r_icmp_eq (t := 77) (f := 70) dX11_greatestByPolicy_67 (by decide) rfl (by first | omega | exact xv_in _ _ _ | assumption) (by first | omega | exact xv_in _ _ _ | assumption) (fun h67 => ?_) (fun h67 => ?_)
          · refine r_iload (pc' := 79) dX11_greatestByPolicy_77 rfl (.tail _ (.tail _ (.tail _ (.head _)))) ?_
            refine r_istore_n (i := 1) (pc' := 80) dX11_greatestByPolicy_79 rfl rfl rfl (.s1 (.here (.s2 (.s1 (.s2 .nil rfl (.inl rfl) (.inr rfl)) rfl rfl rfl) rfl (.inl rfl) (.inr rfl))) rfl rfl rfl) ?_
            refine r_lload (pc' := 82) dX11_greatestByPolicy_80 rfl (.tail _ (.tail _ (.tail _ (.tail _ (.head _))))) ?_
            refine r_lstore_n (i := 2) (pc' := 83) dX11_greatestByPolicy_82 rfl rfl rfl (.s2 (.s2 (.here (.s2 (.s2 .nil rfl (.inl rfl) (.inl rfl)) rfl (.inr rfl) (.inl rfl))) rfl (.inr rfl) (.inl rfl)) rfl (.inr rfl) (.inl rfl)) ?_
            refine r_iinc (pc' := 86) dX11_greatestByPolicy_83 rfl rfl (.tail _ (.tail _ (.tail _ (.head _)))) (.s1 (.s1 (.s2 (.here (.s2 .nil rfl (.inl rfl) (.inr rfl))) rfl (.inl rfl) (.inr rfl)) rfl rfl rfl) rfl rfl rfl) ?_
            refine r_goto (t := 7) dX11_greatestByPolicy_86 (by decide) ?_
            refine r_sub (.kp (.kp (.kp (.kp (.dr .nil))))) ?_
            first
              | (rw [if_pos ⟨hk, by omega, Or.inl (by omega)⟩] at hg
                 have := ih (i + 1) _ Y60 (by omega) hL2
                 rw [hg] at this; exact this)
              | (rw [if_pos ⟨hk, by omega, Or.inr (Classical.not_not.mp (fun q => by have := (lg_le_z _ _).mpr q; omega))⟩] at hg
                 have := ih (i + 1) _ Y60 (by omega) hL2
                 rw [hg] at this; exact this)
              | (rw [if_neg (fun q => q.2.2.elim (fun q => h67 q) (fun q => (lg_le_z _ _).mp h74 q))] at hg
                 have := ih (i + 1) _ Y60 (by omega) hL2
                 rw [hg] at this; exact this)
              | (rw [if_neg (fun q => hk q.1)] at hg
                 have := ih (i + 1) _ Y1 (by omega) hL
                 rw [hg] at this; exact this)
              | (rw [if_neg (fun q => by have := q.2.1; omega)] at hg
                 have := ih (i + 1) _ Y1 (by omega) hL
                 rw [hg] at this; exact this)
          · refine r_lload (pc' := 72) dX11_greatestByPolicy_70 rfl (.tail _ (.tail _ (.tail _ (.tail _ (.head _))))) ?_
            refine r_lload_n (i := 2) (pc' := 73) dX11_greatestByPolicy_72 rfl rfl (.tail _ (.tail _ (.head _))) ?_
            refine r_lcmp (pc' := 74) dX11_greatestByPolicy_73 rfl ?_
            rw [lg_cmp_z]
            refine r_if_le (t := 83) (f := 77) dX11_greatestByPolicy_74 (by decide) rfl (by split <;> first | omega | (split <;> omega)) (fun h74 => ?_) (fun h74 => ?_)
            · refine r_iinc (pc' := 86) dX11_greatestByPolicy_83 rfl rfl (.tail _ (.tail _ (.tail _ (.head _)))) (.s1 (.s1 (.s2 (.here (.s2 .nil rfl (.inl rfl) (.inr rfl))) rfl (.inl rfl) (.inr rfl)) rfl rfl rfl) rfl rfl rfl) ?_
              refine r_goto (t := 7) dX11_greatestByPolicy_86 (by decide) ?_
              refine r_sub (.kp (.kp (.kp (.kp (.dr .nil))))) ?_
              first
                | (rw [if_pos ⟨hk, by omega, Or.inl (by omega)⟩] at hg
                   have := ih (i + 1) _ Y60 (by omega) hL2
                   rw [hg] at this; exact this)
                | (rw [if_pos ⟨hk, by omega, Or.inr (Classical.not_not.mp (fun q => by have := (lg_le_z _ _).mpr q; omega))⟩] at hg
                   have := ih (i + 1) _ Y60 (by omega) hL2
                   rw [hg] at this; exact this)
                | (rw [if_neg (fun q => q.2.2.elim (fun q => h67 q) (fun q => (lg_le_z _ _).mp h74 q))] at hg
                   have := ih (i + 1) _ Y60 (by omega) hL2
                   rw [hg] at this; exact this)
                | (rw [if_neg (fun q => hk q.1)] at hg
                   have := ih (i + 1) _ Y1 (by omega) hL
                   rw [hg] at this; exact this)
                | (rw [if_neg (fun q => by have := q.2.1; omega)] at hg
                   have := ih (i + 1) _ Y1 (by omega) hL
                   rw [hg] at this; exact this)
            · refine r_iload (pc' := 79) dX11_greatestByPolicy_77 rfl (.tail _ (.tail _ (.tail _ (.head _)))) ?_
              refine r_istore_n (i := 1) (pc' := 80) dX11_greatestByPolicy_79 rfl rfl rfl (.s1 (.here (.s2 (.s1 (.s2 .nil rfl (.inl rfl) (.inr rfl)) rfl rfl rfl) rfl (.inl rfl) (.inr rfl))) rfl rfl rfl) ?_
              refine r_lload (pc' := 82) dX11_greatestByPolicy_80 rfl (.tail _ (.tail _ (.tail _ (.tail _ (.head _))))) ?_
              refine r_lstore_n (i := 2) (pc' := 83) dX11_greatestByPolicy_82 rfl rfl rfl (.s2 (.s2 (.here (.s2 (.s2 .nil rfl (.inl rfl) (.inl rfl)) rfl (.inr rfl) (.inl rfl))) rfl (.inr rfl) (.inl rfl)) rfl (.inr rfl) (.inl rfl)) ?_
              refine r_iinc (pc' := 86) dX11_greatestByPolicy_83 rfl rfl (.tail _ (.tail _ (.tail _ (.head _)))) (.s1 (.s1 (.s2 (.here (.s2 .nil rfl (.inl rfl) (.inr rfl))) rfl (.inl rfl) (.inr rfl)) rfl rfl rfl) rfl rfl rfl) ?_
              refine r_goto (t := 7) dX11_greatestByPolicy_86 (by decide) ?_
              refine r_sub (.kp (.kp (.kp (.kp (.dr .nil))))) ?_
              first
                | (rw [if_pos ⟨hk, by omega, Or.inl (by omega)⟩] at hg
                   have := ih (i + 1) _ Y60 (by omega) hL2
                   rw [hg] at this; exact this)
                | (rw [if_pos ⟨hk, by omega, Or.inr (Classical.not_not.mp (fun q => by have := (lg_le_z _ _).mpr q; omega))⟩] at hg
                   have := ih (i + 1) _ Y60 (by omega) hL2
                   rw [hg] at this; exact this)
                | (rw [if_neg (fun q => q.2.2.elim (fun q => h67 q) (fun q => (lg_le_z _ _).mp h74 q))] at hg
                   have := ih (i + 1) _ Y60 (by omega) hL2
                   rw [hg] at this; exact this)
                | (rw [if_neg (fun q => hk q.1)] at hg
                   have := ih (i + 1) _ Y1 (by omega) hL
                   rw [hg] at this; exact this)
                | (rw [if_neg (fun q => by have := q.2.1; omega)] at hg
                   have := ih (i + 1) _ Y1 (by omega) hL
                   rw [hg] at this; exact this)
        · refine r_goto (t := 83) dX11_greatestByPolicy_54 (by decide) ?_
          refine r_iinc (pc' := 86) dX11_greatestByPolicy_83 rfl rfl (.tail _ (.tail _ (.tail _ (.head _)))) (.s1 (.s1 (.s2 (.here .nil) rfl (.inl rfl) (.inr rfl)) rfl rfl rfl) rfl rfl rfl) ?_
          refine r_goto (t := 7) dX11_greatestByPolicy_86 (by decide) ?_
          first
            | (rw [if_pos ⟨hk, by omega, Or.inl (by omega)⟩] at hg
               have := ih (i + 1) _ Y60 (by omega) hL2
               rw [hg] at this; exact this)
            | (rw [if_pos ⟨hk, by omega, Or.inr (Classical.not_not.mp (fun q => by have := (lg_le_z _ _).mpr q; omega))⟩] at hg
               have := ih (i + 1) _ Y60 (by omega) hL2
               rw [hg] at this; exact this)
            | (rw [if_neg (fun q => q.2.2.elim (fun q => h67 q) (fun q => (lg_le_z _ _).mp h74 q))] at hg
               have := ih (i + 1) _ Y60 (by omega) hL2
               rw [hg] at this; exact this)
            | (rw [if_neg (fun q => hk q.1)] at hg
               have := ih (i + 1) _ Y1 (by omega) hL
               rw [hg] at this; exact this)
            | (rw [if_neg (fun q => by have := q.2.1; omega)] at hg
               have := ih (i + 1) _ Y1 (by omega) hL
               rw [hg] at this; exact this)
      · refine r_V1p (ci := 1) (pc' := 28) dX11_greatestByPolicy_25 rfl lX11_222 rfl (by decide) (Nat.le_of_ble_eq_true rfl) (by first | assumption | rfl) (by omega) (tX1_findBegunN hb hO1 (by omega) (by rw [bk_ref_ag hS.ag o10.2]; exact hk)) ?_
        refine r_ifnullN (t := 83) dX11_greatestByPolicy_28 (by decide) ?_
        refine r_iinc (pc' := 86) dX11_greatestByPolicy_83 rfl rfl (.tail _ (.tail _ (.tail _ (.head _)))) (.s1 (.s1 (.s2 (.here .nil) rfl (.inl rfl) (.inr rfl)) rfl rfl rfl) rfl rfl rfl) ?_
        refine r_goto (t := 7) dX11_greatestByPolicy_86 (by decide) ?_
        first
          | (rw [if_pos ⟨hk, by omega, Or.inl (by omega)⟩] at hg
             have := ih (i + 1) _ Y60 (by omega) hL2
             rw [hg] at this; exact this)
          | (rw [if_pos ⟨hk, by omega, Or.inr (Classical.not_not.mp (fun q => by have := (lg_le_z _ _).mpr q; omega))⟩] at hg
             have := ih (i + 1) _ Y60 (by omega) hL2
             rw [hg] at this; exact this)
          | (rw [if_neg (fun q => q.2.2.elim (fun q => h67 q) (fun q => (lg_le_z _ _).mp h74 q))] at hg
             have := ih (i + 1) _ Y60 (by omega) hL2
             rw [hg] at this; exact this)
          | (rw [if_neg (fun q => hk q.1)] at hg
             have := ih (i + 1) _ Y1 (by omega) hL
             rw [hg] at this; exact this)
          | (rw [if_neg (fun q => by have := q.2.1; omega)] at hg
             have := ih (i + 1) _ Y1 (by omega) hL
             rw [hg] at this; exact this)
set_option maxHeartbeats 4000000 in
set_option maxRecDepth 100000 in
theorem tX11_greatestByPolicy {l : Launch} {g : q_G} {n : Nat} {P : q_P} {X : q_X} {Y : q_Y} {b : Nat} (hF : isFace n P b) (hb : isBk n P b) (hO : bOk X b) (hap : bApart b) (ht : isTal n P) (htl : TL X b) (hfm : bF X b) (hfs : 1 ≤ xv X (b + 15) 0) : q_Met l g mX11_greatestByPolicy 7 [.ref (g.1 + 0)] n P X Y (q_gi (fun r' n' P' X' Y' => n' = n ∧ P' = P ∧ bL b X X' ∧ r' = (gp X b (xv X b 10).toNat).1)) := by
  obtain ⟨f0, f2, f3, f4, f5, f6, f7, f8, hn0⟩ := id hF
  obtain ⟨b0, b1, b2, b3, q7, q8, q9, q11, q12, q13, hn, hpro, hmar, hfor, hcs⟩ := id hb
  obtain ⟨o0, o1, o2, o3, o4, o5, o6, o10, oc, op0, opz, opi, om0, omi, olim⟩ := id hO
  obtain ⟨t0, t1, t2, t3, t4, hnt⟩ := id ht
  refine q_enter (L := [(0, .ref (g.1 + 0))]) (by decide) (Nat.le_of_ble_eq_true rfl) rfl ?_
  refine r_iconst (pc' := 1) dX11_greatestByPolicy_0 rfl ?_
  refine r_istore_n (i := 1) (pc' := 2) dX11_greatestByPolicy_1 rfl rfl rfl (.s1 .nil rfl rfl rfl) ?_
  refine r_lconst (pc' := 3) (z := 0) dX11_greatestByPolicy_2 rfl rfl ?_
  refine r_lstore_n (i := 2) (pc' := 4) dX11_greatestByPolicy_3 rfl rfl rfl (.s2 (.s2 .nil rfl (.inr rfl) (.inl rfl)) rfl (.inr rfl) (.inl rfl)) ?_
  refine r_iconst (pc' := 5) dX11_greatestByPolicy_4 rfl ?_
  refine r_istore (pc' := 7) dX11_greatestByPolicy_5 rfl rfl (.s1 (.s1 (.s2 .nil rfl (.inl rfl) (.inr rfl)) rfl rfl rfl) rfl rfl rfl) ?_
  exact lX11_greatestByPolicy hF hb hO hap ht htl hfm hfs _ 0 X Y (Nat.zero_add _) bL.rfl
set_option maxHeartbeats 4000000 in
set_option maxRecDepth 100000 in
theorem lX11_byPolicy {l : Launch} {g : q_G} {n : Nat} {P : q_P} {b : Nat} (hF : isFace n P b) (hb : isBk n P b) (hap : bApart b) (ht : isTal n P) {goal : Int} (hgoal : q_in goal) : ∀ (w i : Nat) (X : q_X) (Y : q_Y) (m : Int), i + w = 40 → (1 ≤ m ∧ m ≤ i) → bOk X b → bF X b → 1 ≤ xv X (b + 15) 0 → q_Tr l g mX11_byPolicy 8 (q_gi (fun r' n' P' X' Y' => n' = n ∧ P' = P ∧ r' = (bp b goal w X m).2 ∧ bS (bp b goal w X m).1 X' b ∧ ∀ a, (a < b ∨ b + 220 ≤ a) → (a < 453 ∨ 466 < a) → X' a = X a)) 26 [(0, .ref (g.1 + 0)), (1, .int (zi goal)), (2, .int (zi (m))), (3, .int (zi (i : Int)))] [] n P X Y := by
  obtain ⟨f0, f2, f3, f4, f5, f6, f7, f8, hn0⟩ := id hF
  obtain ⟨b0, b1, b2, b3, q7, q8, q9, q11, q12, q13, hn, hpro, hmar, hfor, hcs⟩ := id hb
  obtain ⟨t0, t1, t2, t3, t4, hnt⟩ := id ht
  intro w
  induction w with
  | zero =>
    intro i X Y m hi hm hO hfm hfs
    refine r_iload_n (i := 3) (pc' := 27) dX11_byPolicy_26 rfl rfl (.tail _ (.tail _ (.tail _ (.head _)))) ?_
    refine r_bipush (pc' := 29) dX11_byPolicy_27 rfl (by decide) ?_
    refine r_icmp_ge (t := 108) (f := 32) dX11_byPolicy_29 (by decide) rfl (by first | omega | exact xv_in _ _ _ | assumption) (by first | omega | exact xv_in _ _ _ | assumption) (fun h29 => ?_) (fun h29 => ?_)
    · refine r_iload_n (i := 2) (pc' := 109) dX11_byPolicy_108 rfl rfl (.tail _ (.tail _ (.head _))) ?_
      refine r_ireturn dX11_byPolicy_109 rfl ?_
      exact ⟨_, rfl, rfl, rfl, rfl, bS.rfl, fun _ _ _ => rfl⟩
    · exfalso; omega
  | succ w ih =>
    intro i X Y m hi hm hO hfm hfs
    obtain ⟨o0, o1, o2, o3, o4, o5, o6, o10, oc, op0, opz, opi, om0, omi, olim⟩ := id hO
    have hbq := bp.eq_2 b goal X m w
    refine r_iload_n (i := 3) (pc' := 27) dX11_byPolicy_26 rfl rfl (.tail _ (.tail _ (.tail _ (.head _)))) ?_
    refine r_bipush (pc' := 29) dX11_byPolicy_27 rfl (by decide) ?_
    refine r_icmp_ge (t := 108) (f := 32) dX11_byPolicy_29 (by decide) rfl (by first | omega | exact xv_in _ _ _ | assumption) (by first | omega | exact xv_in _ _ _ | assumption) (fun h29 => ?_) (fun h29 => ?_)
    · exfalso; omega
    · refine r_aload_n (i := 0) (pc' := 33) dX11_byPolicy_32 rfl rfl (.head _) ?_
      refine r_getR (pc' := 36) dX11_byPolicy_33 rfl fX11_56 rfl (by first | assumption | rfl) (by omega) (by assumption) ?_
      refine r_aload_n (i := 0) (pc' := 37) dX11_byPolicy_36 rfl rfl (.head _) ?_
      refine r_getR (pc' := 40) dX11_byPolicy_37 rfl fX11_10 rfl (by first | assumption | rfl) (by omega) (by assumption) ?_
      refine r_V1gv (ci := 10) (pc' := 43) dX11_byPolicy_40 rfl lX11_211 rfl (by decide) (Nat.le_of_ble_eq_true rfl) (by first | assumption | rfl) (by omega) (tX10_load hb hO ht hap) (fun n40 P40 X40 Y40 e40 le40 => ?_)
      obtain ⟨rfl, rfl, rfl, ho, htl⟩ := e40
      have hTT := TT.of ho hap hO htl
      have hT1 := htl.1
      have hag := ho.ag hap
      have hO1 := bOk_ag hag hO
      have eb : xv X40 b = xv X b := hag.z
      have hbe := bEq.to ho hap
      refine r_aload_n (i := 0) (pc' := 44) dX11_byPolicy_43 rfl rfl (.head _) ?_
      refine r_getR (pc' := 47) dX11_byPolicy_44 rfl fX11_56 rfl (by first | assumption | rfl) (by omega) (by assumption) ?_
      refine r_aload_n (i := 0) (pc' := 48) dX11_byPolicy_47 rfl rfl (.head _) ?_
      refine r_getR (pc' := 51) dX11_byPolicy_48 rfl fX11_10 rfl (by first | assumption | rfl) (by omega) (by assumption) ?_
      refine r_V1p (ci := 10) (pc' := 54) dX11_byPolicy_51 rfl lX11_218 rfl (by decide) (Nat.le_of_ble_eq_true rfl) (by first | assumption | rfl) (by omega) (tX10_room hb hO1 ht hT1) ?_
      rw [hTT.room hap, ← zi_nz (bk_room X b g0 g0)]
      have hni := nz_in (bk_room X b g0 g0)
      refine r_iload_n (i := 1) (pc' := 55) dX11_byPolicy_54 rfl rfl (.tail _ (.head _)) ?_
      refine r_icmp_lt (t := 60) (f := 58) dX11_byPolicy_55 (by decide) rfl (by first | omega | exact xv_in _ _ _ | assumption) (by first | omega | exact xv_in _ _ _ | assumption) (fun h55 => ?_) (fun h55 => ?_)
      · refine r_aload_n (i := 0) (pc' := 61) dX11_byPolicy_60 rfl rfl (.head _) ?_
        refine r_V0gi (ci := 11) (pc' := 64) dX11_byPolicy_61 rfl lX11_316 rfl (by decide) (Nat.le_of_ble_eq_true rfl) (by first | assumption | rfl) (by omega) (tX11_greatestByPolicy hF hb hO1 hap ht htl (hbe.s.f hfm) (by rw [hbe.v 15 (by omega)]; exact hfs)) (fun r61 n61 P61 X61 Y61 e61 le61 => ?_)
        obtain ⟨h1v, h2v, h3v, h4v⟩ := e61
        subst h1v h2v
        rw [gp_s hbe.s o10.2 _ (by rw [eb]; omega), eb] at h4v
        have hS := hbe.s.trans h3v.s
        have hO2 := bOk_ag hS.ag hO
        have hgo := gp_ok X b (xv X b 10).toNat
        have hri : q_in r61 := by omega
        refine r_istore (pc' := 66) dX11_byPolicy_64 rfl rfl (.s1 (.s1 (.s1 (.s1 .nil rfl rfl rfl) rfl rfl rfl) rfl rfl rfl) rfl rfl rfl) ?_
        refine r_iload (pc' := 68) dX11_byPolicy_66 rfl (.tail _ (.tail _ (.tail _ (.tail _ (.head _))))) ?_
        refine r_iconst (pc' := 69) dX11_byPolicy_68 rfl ?_
        refine r_icmp_ne (t := 74) (f := 72) dX11_byPolicy_69 (by decide) rfl (by first | omega | exact xv_in _ _ _ | assumption) (by first | omega | exact xv_in _ _ _ | assumption) (fun h69 => ?_) (fun h69 => ?_)
        · refine r_iload_n (i := 2) (pc' := 75) dX11_byPolicy_74 rfl rfl (.tail _ (.tail _ (.head _))) ?_
          refine r_if_ne (t := 89) (f := 78) dX11_byPolicy_75 (by decide) rfl (by first | omega | exact xv_in _ _ _ | assumption) (fun h75 => ?_) (fun h75 => ?_)
          · refine r_aload_n (i := 0) (pc' := 90) dX11_byPolicy_89 rfl rfl (.head _) ?_
            refine r_getR (pc' := 93) dX11_byPolicy_90 rfl fX11_10 rfl (by first | assumption | rfl) (by omega) (by assumption) ?_
            refine r_iload (pc' := 95) dX11_byPolicy_93 rfl (.tail _ (.tail _ (.tail _ (.tail _ (.head _))))) ?_
            refine r_iconst (pc' := 96) dX11_byPolicy_95 rfl ?_
            refine r_V2gv (ci := 1) (pc' := 99) dX11_byPolicy_96 rfl lX11_319 rfl (by decide) (Nat.le_of_ble_eq_true rfl) (by first | assumption | rfl) (by omega) (tX1_release hb hO2 (by omega) (by omega)) (fun n96 P96 X96 Y96 e96 le96 => ?_)
            obtain ⟨hg1_96, hg2_96, hg3_96, hg4_96⟩ := e96
            have g1_96 := Eq.symm hg1_96
            have g2_96 := Eq.symm hg2_96
            have g3_96 := Eq.symm hg3_96
            have g4_96 := Eq.symm hg4_96
            clear hg1_96 hg2_96 hg3_96 hg4_96
            subst g1_96 g2_96 g3_96 g4_96
            refine r_iinc (pc' := 102) dX11_byPolicy_99 rfl rfl (.tail _ (.tail _ (.head _))) (.s1 (.s1 (.here (.s1 (.s1 .nil rfl rfl rfl) rfl rfl rfl)) rfl rfl rfl) rfl rfl rfl) ?_
            refine r_iinc (pc' := 105) dX11_byPolicy_102 rfl rfl (.tail _ (.tail _ (.tail _ (.head _)))) (.s1 (.s1 (.s1 (.here (.s1 .nil rfl rfl rfl)) rfl rfl rfl) rfl rfl rfl) rfl rfl rfl) ?_
            refine r_goto (t := 26) dX11_byPolicy_105 (by decide) ?_
            refine r_sub (.kp (.kp (.kp (.kp (.dr .nil))))) ?_
            rw [if_neg (by omega), if_neg (by omega)] at hbq
            have hkr : bk_ref X b r61 = 0 := by rw [h4v]; rcases hgo with q | q; exact absurd q (by omega); exact q.2.2
            have hkr2 : bk_ref X61 b r61 = 0 := by rw [bk_ref_ag hS.ag o10.2]; exact hkr
            have hO3 := bOk_rel 0 hO2 hkr2
            have e10 : xv X61 b 10 ≤ 40 := by rw [hS.v0]; exact o10.2
            have h15 : xv (bk_rel X61 b r61 0) (b + 15) = xv X (b + 15) := by rw [bk_rel_o (by omega) (by unfold con; omega), hS.v 15 (by omega) (by omega)]
            have hcg := bp_s (goal := goal) w _ _ (m + 1) (hS.rel o10.2 r61 0) (bOk_rel 0 hO hkr)
            refine q_Tr.mono ?_ (ih (i + 1) _ _ (m + 1) (by omega) (by omega) hO3 (hS.f hfm).rel (by rw [h15]; exact hfs))
            intro v' n' P' X' Y' hq
            obtain ⟨r', z1, z2, z3, z4, z5, z6⟩ := hq
            refine ⟨r', z1, z2, z3, ?_, ?_, fun a a1 a2 => ?_⟩
            · rw [z4, hcg.1, hbq, h4v]
            · rw [hbq, ← h4v]; exact hcg.2.trans z5
            · rw [z6 a a1 a2, bk_rel_out hkr2 e10 a1, h3v a (by omega), ho a a2]
          · exfalso; omega
        · refine r_iload_n (i := 2) (pc' := 73) dX11_byPolicy_72 rfl rfl (.tail _ (.tail _ (.head _))) ?_
          refine r_ireturn dX11_byPolicy_73 rfl ?_
          rw [if_neg (by omega), if_pos (by omega)] at hbq
          refine ⟨_, rfl, rfl, rfl, ?_, ?_, fun a h1 h2 => (h3v a (by omega)).trans (ho a h2)⟩
          · rw [hbq]
          · rw [hbq]; exact hS
      · refine r_iload_n (i := 2) (pc' := 59) dX11_byPolicy_58 rfl rfl (.tail _ (.tail _ (.head _))) ?_
        refine r_ireturn dX11_byPolicy_59 rfl ?_
        rw [if_pos (by omega)] at hbq
        refine ⟨_, rfl, rfl, rfl, ?_, ?_, fun a h1 h2 => ho a h2⟩
        · rw [hbq]
        · rw [hbq]; exact hbe.s
set_option maxHeartbeats 4000000 in
set_option maxRecDepth 100000 in
theorem fX11_byPolicy {l : Launch} {g : q_G} {n : Nat} {P : q_P} {X : q_X} {Y : q_Y} {b : Nat} (hF : isFace n P b) (hb : isBk n P b) (hO : bOk X b) {x : Nat} (hH : isHi n P X x) (hb1 : 1 ≤ b ∧ b + 220 ≤ 441) (ht : isTal n P) (hfm : bF X b) (hfs : 1 ≤ xv X (b + 15) 0) {goal : Int} (hgoal : -999999 ≤ goal ∧ goal ≤ 999999) : q_Tr l g mX11_byPolicy 8 (q_gi (fun r' n' P' X' Y' => if xv X (b + 15) 0 = 0 ∨ ¬ (-999999 ≤ goal ∧ goal ≤ 999999) then NO n P X Y r' n' P' X' Y' else r' = (bp b goal 40 X 0).2 ∧ ((r' = 0 ∧ n' = n ∧ P' = P ∧ tOL b X X') ∨ (r' ≠ 0 ∧ ∃ X0 Y0 X1 Y1, tOL b X X0 ∧ PU x b n P X0 Y0 n' P' X1 Y1 ∧ bS (bp b goal 40 X 0).1 X' b ∧ ∀ a, (a < b ∨ b + 220 ≤ a) → (a < 453 ∨ 466 < a) → X' a = X1 a)))) 26 [(0, .ref (g.1 + 0)), (1, .int (zi goal)), (2, .int (zi (0))), (3, .int (zi (0 : Int)))] [] n P X Y := by
  obtain ⟨f0, f2, f3, f4, f5, f6, f7, f8, hn0⟩ := id hF
  obtain ⟨b0, b1, b2, b3, q7, q8, q9, q11, q12, q13, hn, hpro, hmar, hfor, hcs⟩ := id hb
  obtain ⟨o0, o1, o2, o3, o4, o5, o6, o10, oc, op0, opz, opi, om0, omi, olim⟩ := id hO
  obtain ⟨h442, hMS, hx, hx1, hz0, hz8⟩ := id hH
  have hn9 := hMS.n
  obtain ⟨t0, t1, t2, t3, t4, hnt⟩ := id ht
  have hap : bApart b := Or.inl (by omega)
  have hbq : bp b goal 40 X 0 = _ := bp.eq_2 b goal X 0 39
  refine r_iload_n (i := 3) (pc' := 27) dX11_byPolicy_26 rfl rfl (.tail _ (.tail _ (.tail _ (.head _)))) ?_
  refine r_bipush (pc' := 29) dX11_byPolicy_27 rfl (by decide) ?_
  refine r_icmp_ge (t := 108) (f := 32) dX11_byPolicy_29 (by decide) rfl (by first | omega | exact xv_in _ _ _ | assumption) (by first | omega | exact xv_in _ _ _ | assumption) (fun h29 => ?_) (fun h29 => ?_)
  · exfalso; omega
  · refine r_aload_n (i := 0) (pc' := 33) dX11_byPolicy_32 rfl rfl (.head _) ?_
    refine r_getR (pc' := 36) dX11_byPolicy_33 rfl fX11_56 rfl (by first | assumption | rfl) (by omega) (by assumption) ?_
    refine r_aload_n (i := 0) (pc' := 37) dX11_byPolicy_36 rfl rfl (.head _) ?_
    refine r_getR (pc' := 40) dX11_byPolicy_37 rfl fX11_10 rfl (by first | assumption | rfl) (by omega) (by assumption) ?_
    refine r_V1gv (ci := 10) (pc' := 43) dX11_byPolicy_40 rfl lX11_211 rfl (by decide) (Nat.le_of_ble_eq_true rfl) (by first | assumption | rfl) (by omega) (tX10_load hb hO ht hap) (fun n40 P40 X40 Y40 e40 le40 => ?_)
    obtain ⟨rfl, rfl, rfl, ho, htl⟩ := e40
    have hTT := TT.of ho hap hO htl
    have hT1 := htl.1
    have hag := ho.ag hap
    have hO1 := bOk_ag hag hO
    have eb : xv X40 b = xv X b := hag.z
    have hbe := bEq.to ho hap
    refine r_aload_n (i := 0) (pc' := 44) dX11_byPolicy_43 rfl rfl (.head _) ?_
    refine r_getR (pc' := 47) dX11_byPolicy_44 rfl fX11_56 rfl (by first | assumption | rfl) (by omega) (by assumption) ?_
    refine r_aload_n (i := 0) (pc' := 48) dX11_byPolicy_47 rfl rfl (.head _) ?_
    refine r_getR (pc' := 51) dX11_byPolicy_48 rfl fX11_10 rfl (by first | assumption | rfl) (by omega) (by assumption) ?_
    refine r_V1p (ci := 10) (pc' := 54) dX11_byPolicy_51 rfl lX11_218 rfl (by decide) (Nat.le_of_ble_eq_true rfl) (by first | assumption | rfl) (by omega) (tX10_room hb hO1 ht hT1) ?_
    rw [hTT.room hap, ← zi_nz (bk_room X b g0 g0)]
    have hni := nz_in (bk_room X b g0 g0)
    refine r_iload_n (i := 1) (pc' := 55) dX11_byPolicy_54 rfl rfl (.tail _ (.head _)) ?_
    refine r_icmp_lt (t := 60) (f := 58) dX11_byPolicy_55 (by decide) rfl (by first | omega | exact xv_in _ _ _ | assumption) (by first | omega | exact xv_in _ _ _ | assumption) (fun h55 => ?_) (fun h55 => ?_)
    · refine r_aload_n (i := 0) (pc' := 61) dX11_byPolicy_60 rfl rfl (.head _) ?_
      refine r_V0gi (ci := 11) (pc' := 64) dX11_byPolicy_61 rfl lX11_316 rfl (by decide) (Nat.le_of_ble_eq_true rfl) (by first | assumption | rfl) (by omega) (tX11_greatestByPolicy hF hb hO1 hap ht htl (hbe.s.f hfm) (by rw [hbe.v 15 (by omega)]; exact hfs)) (fun r61 n61 P61 X61 Y61 e61 le61 => ?_)
      obtain ⟨h1v, h2v, h3v, h4v⟩ := e61
      subst h1v h2v
      rw [gp_s hbe.s o10.2 _ (by rw [eb]; omega), eb] at h4v
      have hS := hbe.s.trans h3v.s
      have hO2 := bOk_ag hS.ag hO
      have hgo := gp_ok X b (xv X b 10).toNat
      have hri : q_in r61 := by omega
      have hx61 : xv X61 442 = xv X 442 := by funext j; simp only [xv]; rw [h3v 442 (by omega), ho 442 (by omega)]
      refine r_istore (pc' := 66) dX11_byPolicy_64 rfl rfl (.s1 (.s1 (.s1 (.s1 .nil rfl rfl rfl) rfl rfl rfl) rfl rfl rfl) rfl rfl rfl) ?_
      refine r_iload (pc' := 68) dX11_byPolicy_66 rfl (.tail _ (.tail _ (.tail _ (.tail _ (.head _))))) ?_
      refine r_iconst (pc' := 69) dX11_byPolicy_68 rfl ?_
      refine r_icmp_ne (t := 74) (f := 72) dX11_byPolicy_69 (by decide) rfl (by first | omega | exact xv_in _ _ _ | assumption) (by first | omega | exact xv_in _ _ _ | assumption) (fun h69 => ?_) (fun h69 => ?_)
      · refine r_iload_n (i := 2) (pc' := 75) dX11_byPolicy_74 rfl rfl (.tail _ (.tail _ (.head _))) ?_
        refine r_if_ne (t := 89) (f := 78) dX11_byPolicy_75 (by decide) rfl (by first | omega | exact xv_in _ _ _ | assumption) (fun h75 => ?_) (fun h75 => ?_)
        · exfalso; omega
        · refine r_aload_n (i := 0) (pc' := 79) dX11_byPolicy_78 rfl rfl (.head _) ?_
          refine r_getR (pc' := 82) dX11_byPolicy_79 rfl fX11_26 rfl (by first | assumption | rfl) (by omega) (by assumption) ?_
          refine r_aload_n (i := 0) (pc' := 83) dX11_byPolicy_82 rfl rfl (.head _) ?_
          refine r_getR (pc' := 86) dX11_byPolicy_83 rfl fX11_10 rfl (by first | assumption | rfl) (by omega) (by assumption) ?_
          refine r_V1gv (ci := 6) (pc' := 89) dX11_byPolicy_86 rfl lX11_247 rfl (by decide) (Nat.le_of_ble_eq_true rfl) (by first | assumption | rfl) (by omega) (tX6_push (x := x) h442 hMS hb hO2 (by omega) hx (by rw [hx61]; exact hx1) (by rw [hx61]; omega)) (fun n86 P86 X86 Y86 e86 le86 => ?_)
          have hF1 := e86.face hF
          have hb1' := e86.b hb (by omega)
          have ht' := e86.tal ht
          have hbe1 := e86.e (by omega) (b2 := b) (by omega)
          have hO4 := bOk_ag hbe1.ag hO2
          have hnn := e86.n
          obtain ⟨g0', g2', g3', g4', g5', g6', g7', g8', hn1⟩ := id hF1
          obtain ⟨-, -, -, -, q7', q8', q9', q11', q12', q13', hnb', hpro', hmar', hfor', hcs'⟩ := id hb1'
          refine r_aload_n (i := 0) (pc' := 90) dX11_byPolicy_89 rfl rfl (.head _) ?_
          refine r_getR (pc' := 93) dX11_byPolicy_90 rfl fX11_10 rfl (by first | assumption | rfl) (by omega) (by assumption) ?_
          refine r_iload (pc' := 95) dX11_byPolicy_93 rfl (.tail _ (.tail _ (.tail _ (.tail _ (.head _))))) ?_
          refine r_iconst (pc' := 96) dX11_byPolicy_95 rfl ?_
          refine r_V2gv (ci := 1) (pc' := 99) dX11_byPolicy_96 rfl lX11_319 rfl (by decide) (Nat.le_of_ble_eq_true rfl) (by first | assumption | rfl) (by omega) (tX1_release hb1' hO4 (by omega) (by omega)) (fun n96 P96 X96 Y96 e96 le96 => ?_)
          obtain ⟨hg1_96, hg2_96, hg3_96, hg4_96⟩ := e96
          have g1_96 := Eq.symm hg1_96
          have g2_96 := Eq.symm hg2_96
          have g3_96 := Eq.symm hg3_96
          have g4_96 := Eq.symm hg4_96
          clear hg1_96 hg2_96 hg3_96 hg4_96
          subst g1_96 g2_96 g3_96 g4_96
          refine r_iinc (pc' := 102) dX11_byPolicy_99 rfl rfl (.tail _ (.tail _ (.head _))) (.s1 (.s1 (.here (.s1 (.s1 .nil rfl rfl rfl) rfl rfl rfl)) rfl rfl rfl) rfl rfl rfl) ?_
          refine r_iinc (pc' := 105) dX11_byPolicy_102 rfl rfl (.tail _ (.tail _ (.tail _ (.head _)))) (.s1 (.s1 (.s1 (.here (.s1 .nil rfl rfl rfl)) rfl rfl rfl) rfl rfl rfl) rfl rfl rfl) ?_
          refine r_goto (t := 26) dX11_byPolicy_105 (by decide) ?_
          refine r_sub (.kp (.kp (.kp (.kp (.dr .nil))))) ?_
          rw [if_neg (by omega), if_neg (by omega)] at hbq
          have hkr : bk_ref X b r61 = 0 := by rw [h4v]; rcases hgo with q | q; exact absurd q (by omega); exact q.2.2
          have hS2 := hS.trans hbe1.s
          have hkr2 : bk_ref X86 b r61 = 0 := by rw [bk_ref_ag hS2.ag o10.2]; exact hkr
          have hO3 := bOk_rel 0 hO4 hkr2
          have e10 : xv X86 b 10 ≤ 40 := by rw [hS2.v0]; exact o10.2
          have h15 : xv (bk_rel X86 b r61 0) (b + 15) = xv X (b + 15) := by rw [bk_rel_o (by omega) (by unfold con; omega), hS2.v 15 (by omega) (by omega)]
          have hcg := bp_s (goal := goal) 39 _ _ (0 + 1) (hS2.rel o10.2 r61 0) (bOk_rel 0 hO hkr)
          have hbm := bp_m (b := b) (goal := goal) 39 (bk_rel X86 b r61 0) (0 + 1)
          refine q_Tr.mono ?_ (lX11_byPolicy hF1 hb1' hap ht' (by omega) 39 1 _ _ (0 + 1) (by omega) (by omega) hO3 (hS2.f hfm).rel (by rw [h15]; exact hfs))
          intro v' n' P' X' Y' hq
          obtain ⟨r', z1, z2, z3, z4, z5, z6⟩ := hq
          refine ⟨r', z1, ?_⟩
          dsimp only
          rw [if_neg (by omega)]
          refine ⟨by rw [z4, hcg.1, hbq, h4v], Or.inr ⟨by omega, X61, _, X86, _, ho.ol.trans h3v.ol, by rw [z2, z3]; exact e86, ?_, fun a a1 a2 => ?_⟩⟩
          · rw [hbq, ← h4v]; exact hcg.2.trans z5
          · rw [z6 a a1 a2, bk_rel_out hkr2 e10 a1]
      · refine r_iload_n (i := 2) (pc' := 73) dX11_byPolicy_72 rfl rfl (.tail _ (.tail _ (.head _))) ?_
        refine r_ireturn dX11_byPolicy_73 rfl ?_
        rw [if_neg (by omega), if_pos (by omega)] at hbq
        refine ⟨_, rfl, ?_⟩
        dsimp only
        rw [if_neg (by omega), hbq]
        exact ⟨rfl, Or.inl ⟨rfl, rfl, rfl, ho.ol.trans h3v.ol⟩⟩
    · refine r_iload_n (i := 2) (pc' := 59) dX11_byPolicy_58 rfl rfl (.tail _ (.tail _ (.head _))) ?_
      refine r_ireturn dX11_byPolicy_59 rfl ?_
      rw [if_pos (by omega)] at hbq
      refine ⟨_, rfl, ?_⟩
      dsimp only
      rw [if_neg (by omega), hbq]
      exact ⟨rfl, Or.inl ⟨rfl, rfl, rfl, ho.ol⟩⟩
set_option maxHeartbeats 4000000 in
set_option maxRecDepth 100000 in
theorem tX11_byPolicy {l : Launch} {g : q_G} {n : Nat} {P : q_P} {X : q_X} {Y : q_Y} {b : Nat} (hF : isFace n P b) (hb : isBk n P b) (hO : bOk X b) {x : Nat} (hH : isHi n P X x) (hb1 : 1 ≤ b ∧ b + 220 ≤ 441) (ht : isTal n P) (hfm : bF X b) {goal : Int} (hgoal : q_in goal) : q_Met l g mX11_byPolicy 8 [.ref (g.1 + 0), .int (zi goal)] n P X Y (q_gi (fun r' n' P' X' Y' => if xv X (b + 15) 0 = 0 ∨ ¬ (-999999 ≤ goal ∧ goal ≤ 999999) then NO n P X Y r' n' P' X' Y' else r' = (bp b goal 40 X 0).2 ∧ ((r' = 0 ∧ n' = n ∧ P' = P ∧ tOL b X X') ∨ (r' ≠ 0 ∧ ∃ X0 Y0 X1 Y1, tOL b X X0 ∧ PU x b n P X0 Y0 n' P' X1 Y1 ∧ bS (bp b goal 40 X 0).1 X' b ∧ ∀ a, (a < b ∨ b + 220 ≤ a) → (a < 453 ∨ 466 < a) → X' a = X1 a)))) := by
  obtain ⟨f0, f2, f3, f4, f5, f6, f7, f8, hn0⟩ := id hF
  obtain ⟨b0, b1, b2, b3, q7, q8, q9, q11, q12, q13, hn, hpro, hmar, hfor, hcs⟩ := id hb
  obtain ⟨o0, o1, o2, o3, o4, o5, o6, o10, oc, op0, opz, opi, om0, omi, olim⟩ := id hO
  obtain ⟨h442, hS, hx, hx1, hz0, hz8⟩ := id hH
  have hn9 := hS.n
  obtain ⟨s0f, s1f, s2f, s3f, s4f, p1f, p2f, p4f, p5f, hnf⟩ := isBk.frm hfor
  refine q_enter (L := [(0, .ref (g.1 + 0)), (1, .int (zi goal))]) (by decide) (Nat.le_of_ble_eq_true rfl) rfl ?_
  refine r_aload_n (i := 0) (pc' := 1) dX11_byPolicy_0 rfl rfl (.head _) ?_
  refine r_getR (pc' := 4) dX11_byPolicy_1 rfl fX11_10 rfl (by first | assumption | rfl) (by omega) (by assumption) ?_
  refine r_getR (pc' := 7) dX11_byPolicy_4 rfl fX11_101 rfl (by first | assumption | rfl) (by omega) (by assumption) ?_
  refine r_getI (pc' := 10) dX11_byPolicy_7 rfl fX11_306 rfl (by first | assumption | rfl) (by omega) ?_
  refine r_if_eq (t := 20) (f := 13) dX11_byPolicy_10 (by decide) rfl (by first | omega | exact xv_in _ _ _ | assumption) (fun h10 => ?_) (fun h10 => ?_)
  · refine r_iconst (pc' := 21) dX11_byPolicy_20 rfl ?_
    refine r_ireturn dX11_byPolicy_21 rfl ?_
    refine ⟨_, rfl, ?_⟩
    dsimp only
    rw [if_pos (by omega)]
    exact ⟨rfl, rfl, rfl, rfl, rfl⟩
  · refine r_iload_n (i := 1) (pc' := 14) dX11_byPolicy_13 rfl rfl (.tail _ (.head _)) ?_
    refine r_S1p (pc' := 17) dX11_byPolicy_14 rfl lX11_313 (by decide) (Nat.le_of_ble_eq_true rfl) (tX11_isGoal (by omega)) ?_
    refine r_bif_ne (t := 22) (f := 20) dX11_byPolicy_17 (by decide) rfl (fun h17 => ?_) (fun h17 => ?_)
    · refine r_iconst (pc' := 23) dX11_byPolicy_22 rfl ?_
      refine r_istore_n (i := 2) (pc' := 24) dX11_byPolicy_23 rfl rfl rfl (.s1 (.s1 .nil rfl rfl rfl) rfl rfl rfl) ?_
      refine r_iconst (pc' := 25) dX11_byPolicy_24 rfl ?_
      refine r_istore_n (i := 3) (pc' := 26) dX11_byPolicy_25 rfl rfl rfl (.s1 (.s1 (.s1 .nil rfl rfl rfl) rfl rfl rfl) rfl rfl rfl) ?_
      exact fX11_byPolicy hF hb hO hH hb1 ht hfm (by have := hfm.1; omega) (by omega)
    · refine r_iconst (pc' := 21) dX11_byPolicy_20 rfl ?_
      refine r_ireturn dX11_byPolicy_21 rfl ?_
      refine ⟨_, rfl, ?_⟩
      dsimp only
      rw [if_pos (by omega)]
      exact ⟨rfl, rfl, rfl, rfl, rfl⟩
