/-! the policy of the books -/
/-- the books b but for the letters -/
def bS (X X' : q_X) (b : Nat) : Prop := ∀ d, d < 220 → d ≠ 18 → X' (b + d) = X (b + d)
theorem bS.rfl {X : q_X} {b : Nat} : bS X X b := fun _ _ _ => Eq.refl _
theorem bS.trans {X X' X2 : q_X} {b : Nat} (h : bS X X' b) (h2 : bS X' X2 b) : bS X X2 b := fun d hd h8 => (h2 d hd h8).trans (h d hd h8)
theorem bS.symm {X X' : q_X} {b : Nat} (h : bS X X' b) : bS X' X b := fun d hd h8 => (h d hd h8).symm
theorem bS.v {X X' : q_X} {b : Nat} (h : bS X X' b) (d : Nat) (hd : d < 220) (h8 : d ≠ 18) : xv X' (b + d) = xv X (b + d) := by funext j; simp only [xv, h d hd h8]
theorem bS.v0 {X X' : q_X} {b : Nat} (h : bS X X' b) : xv X' b = xv X b := h.v 0 (by omega) (by omega)
theorem bS.ag {X X' : q_X} {b : Nat} (h : bS X X' b) : bAg X X' b := fun d hd h8 => h.v d hd h8.2
theorem bEq.s {X X' : q_X} {b : Nat} (h : bEq X X' b) : bS X X' b := fun d hd _ => h d hd
theorem bS.cnt {X X' : q_X} {b : Nat} (h : bS X X' b) (h10 : xv X b 10 ≤ 40) (G T : Nat → Bool) (day : Int) : bk_cnt X' b G T day = bk_cnt X b G T day := by
  have hag := h.ag
  have hsh : ∀ i, i < 40 → bk_hT X' b T i = bk_hT X b T i ∧ bk_pT X' b T i = bk_pT X b T i := fun i hi => by
    simp only [bk_hT, bk_pT, bk_sh, c_hit_ag (hag.c hi), c_parts_ag (hag.c hi), bk_most_ag hag (hag.c hi), c_last_ag (hag.c hi), h.v0, and_self]
  unfold bk_cnt
  rw [h.v0, h.v 2 (by omega) (by omega), bk_full_ag h.v0, h.v 4 (by omega) (by omega)]
  congr 1
  refine u_ct_congr _ (fun i hi => ?_) (fun i hi _ => ⟨(hsh i (by omega)).1, ?_, (hsh i (by omega)).2⟩)
  · show (bk_op X' b i && !G i) = (bk_op X b i && !G i)
    rw [bk_op, bk_op, (hag.c (k := i) (by omega)).z]
  · exact t_lik_ag hag _ _
theorem bS.room {X X' : q_X} {b : Nat} (h : bS X X' b) (h10 : xv X b 10 ≤ 40) (G T : Nat → Bool) : bk_room X' b G T = bk_room X b G T := by
  unfold bk_room; rw [h.cnt h10, h.v0, h.v 1 (by omega) (by omega)]
theorem bS.sav {X X' : q_X} {b k : Nat} (h : bS X X' b) (h10 : xv X b 10 ≤ 40) (hk : k < 40) (day : Int) : bk_sav X' b k day = bk_sav X b k day := by
  unfold bk_sav; rw [h.cnt h10, h.cnt h10, bk_dead_ag h.ag (h.ag.c hk)]
theorem TL.lt {X X' : q_X} {b : Nat} (h : TL X b) (hO : bOk X b) (hb : bS X X' b) (ht : ∀ a, 453 ≤ a → a ≤ 458 → X' a = X a) : TL X' b := by
  have e : ∀ a, 453 ≤ a → a ≤ 458 → xv X' a = xv X a := fun a h1 h2 => by funext j; simp only [xv, ht a h1 h2]
  have h10 := hO.2.2.2.2.2.2.2.1
  have hag := hb.ag
  obtain ⟨h1, h2, h3, h4⟩ := h
  unfold TL
  rw [hb.v0, hb.v 4 (by omega) (by omega), e 453 (by omega) (by omega), e 454 (by omega) (by omega), e 455 (by omega) (by omega), e 456 (by omega) (by omega), e 457 (by omega) (by omega), e 458 (by omega) (by omega)]
  refine ⟨?_, fun k hk => ?_, fun F => ?_, fun p q hp hq => ?_⟩
  · unfold tOk at h1 ⊢; rw [e 453 (by omega) (by omega), e 458 (by omega) (by omega)]; exact h1
  · rw [c_hit_ag (hag.c (k := k) (by omega)), c_parts_ag (hag.c (k := k) (by omega)), t_lik_ag hag]; exact h2 k hk
  · rw [h3 F]
    refine q_sum_congr _ _ (fun i _ hi => ?_)
    rw [(hag.c (k := i) (by omega)).z]
  · have := h4 p q hp hq
    unfold t_ahead at this ⊢
    rw [e 454 (by omega) (by omega)]; exact this
def f_lv (X : q_X) (b k j : Nat) : Int := if j = 0 then c_hit X (con b k) (xv X b 0) else if j = 1 then bk_all X b (con b k) else if j = 2 then bk_sav X b k (xv X b 1) else if j = 3 then c_left X (con b k) (xv X b 0) else if j = 4 then c_base X (con b k) (xv X b 0) else (k : Int)
def f_lt (X : q_X) (b k : Nat) : Nat → Int64 := fun j => (zi (f_lv X b k j)).toInt64
def f_says (X : q_X) (b k : Nat) : Int64 := fV (xv X (b + 16)) (f_lt X b k) (xv X (b + 15) 0).toNat 0
theorem fV_congr {tok : Nat → Int} {lt lt' : Nat → Int64} {m : Nat} (hw : fWF tok m) (h : ∀ j, j < 6 → lt j = lt' j) : ∀ i, i ≤ m → fV tok lt i = fV tok lt' i
  | 0, _ => rfl
  | i + 1, hi => by
    have ih := fV_congr hw h i (by omega)
    have hk := (hw i (by omega)).1
    unfold fV
    rw [ih]
    split
    · rfl
    · have : fVv lt (tok i) = fVv lt' (tok i) := by
        unfold fVv; split
        · exact h _ (by unfold tkOk at hk; omega)
        · rfl
      rw [this]
theorem c_left_ag {X X' : q_X} {c : Nat} (h : cAg X X' c) (y : Int) : c_left X' c y = c_left X c y := by simp only [c_left, c_plays, h.z]
/-- all but the tally and the letters of the books b -/
def tOL (b : Nat) (X X' : q_X) : Prop := ∀ a, (a < 453 ∨ 466 < a) → a ≠ b + 18 → X' a = X a
theorem tOL.s {b : Nat} {X X' : q_X} (h : tOL b X X') (hb : bApart b) : bS X X' b := fun d hd h8 => h _ (by unfold bApart at hb; omega) (by omega)
theorem tOL.rfl {b : Nat} {X : q_X} : tOL b X X := fun _ _ _ => Eq.refl _
theorem tOL.trans {b : Nat} {X X' X2 : q_X} (h : tOL b X X') (h2 : tOL b X' X2) : tOL b X X2 := fun a ha h8 => (h2 a ha h8).trans (h a ha h8)
theorem tOut.ol {b : Nat} {X X' : q_X} (h : tOut X X') : tOL b X X' := fun a ha _ => h a ha
/-- all but the letters -/
def bL (b : Nat) (X X' : q_X) : Prop := ∀ a, a ≠ b + 18 → X' a = X a
theorem bL.s {b : Nat} {X X' : q_X} (h : bL b X X') : bS X X' b := fun d _ h8 => h _ (by omega)
theorem bL.ol {b : Nat} {X X' : q_X} (h : bL b X X') : tOL b X X' := fun a _ h8 => h a h8
theorem bL.rfl {b : Nat} {X : q_X} : bL b X X := fun _ _ => Eq.refl _
theorem bL.trans {b : Nat} {X X' X2 : q_X} (h : bL b X X') (h2 : bL b X' X2) : bL b X X2 := fun a h8 => (h2 a h8).trans (h a h8)
theorem bL.up {b : Nat} {X X' : q_X} (h : bL b X X') {j : Nat} {v : Int32} : bL b X (q_up X' (b + 18) j v) := fun a h8 => by
  rw [← h a h8]; funext q; exact q_up_ne _ _ (by omega)
/-- the formula as it may be -/
def bF (X : q_X) (b : Nat) : Prop := (0 ≤ xv X (b + 15) 0 ∧ xv X (b + 15) 0 ≤ 80) ∧ fWF (xv X (b + 16)) (xv X (b + 15) 0).toNat
theorem bS.f {X X' : q_X} {b : Nat} (h : bS X X' b) (hF : bF X b) : bF X' b := by
  unfold bF at hF ⊢; rw [h.v 15 (by omega) (by omega), h.v 16 (by omega) (by omega)]; exact hF
theorem bS.says {X X' : q_X} {b k : Nat} (h : bS X X' b) (h10 : xv X b 10 ≤ 40) (hk : k < 40) : f_says X' b k = f_says X b k := by
  have hc := h.ag.c hk
  have : f_lt X' b k = f_lt X b k := by
    funext j
    unfold f_lt f_lv
    rw [h.v0, c_hit_ag hc, bk_all_ag h.ag hc, h.sav h10 hk, c_left_ag hc, c_base_ag hc]
  unfold f_says
  rw [this, h.v 15 (by omega) (by omega), h.v 16 (by omega) (by omega)]
set_option maxHeartbeats 4000000 in
set_option maxRecDepth 100000 in
theorem tX11_policySum {l : Launch} {g : q_G} {n : Nat} {P : q_P} {X : q_X} {Y : q_Y} {b : Nat} (hF : isFace n P b) (hb : isBk n P b) (hO : bOk X b) (hap : bApart b) (ht : isTal n P) (htl : TL X b) (hfm : bF X b) (hfs : 1 ≤ xv X (b + 15) 0) {k : Int} (hi : q_in k) (hk : bk_ref X b k = 0) : q_Met l g mX11_policySum 6 [.ref (g.1 + 0), .int (zi k)] n P X Y (q_gl (fun r' n' P' X' Y' => n' = n ∧ P' = P ∧ bL b X X' ∧ r' = f_says X b k.toNat)) := by
  obtain ⟨f0, f2, f3, f4, f5, f6, f7, f8, hn0⟩ := id hF
  obtain ⟨b0, b1, b2, b3, q7, q8, q9, q11, q12, q13, hn, hpro, hmar, hfor, hcs⟩ := id hb
  obtain ⟨o0, o1, o2, o3, o4, o5, o6, o10, oc, op0, opz, opi, om0, omi, olim⟩ := id hO
  obtain ⟨t0, t1, t2, t3, t4, hnt⟩ := id ht
  have hh := bk_ref_has hk
  have hc := hb.c (k := k.toNat) (by omega)
  obtain ⟨s0, s1, s2, s3, s4, p6, p7, p8, p9, hnc⟩ := id hc
  have hck := hO.c (k := k.toNat) (by omega)
  obtain ⟨hf, hf2, hf3, hf4, hfj, hfs, hfg⟩ := id hck
  obtain ⟨s0f, s1f, s2f, s3f, s4f, p1f, p2f, p4f, p5f, hnf⟩ := isBk.frm hfor
  refine q_enter (L := [(0, .ref (g.1 + 0)), (1, .int (zi k))]) (by decide) (Nat.le_of_ble_eq_true rfl) rfl ?_
  refine r_aload_n (i := 0) (pc' := 1) dX11_policySum_0 rfl rfl (.head _) ?_
  refine r_getR (pc' := 4) dX11_policySum_1 rfl fX11_10 rfl (by first | assumption | rfl) (by omega) (by assumption) ?_
  refine r_iload_n (i := 1) (pc' := 5) dX11_policySum_4 rfl rfl (.tail _ (.head _)) ?_
  refine r_V1p (ci := 1) (pc' := 8) dX11_policySum_5 rfl lX11_222 rfl (by decide) (Nat.le_of_ble_eq_true rfl) (by first | assumption | rfl) (by omega) (tX1_findBegun hb hO (by omega) hk) ?_
  refine r_astore_n (i := 2) (pc' := 9) dX11_policySum_8 rfl rfl rfl (.s1 (.s1 .nil rfl rfl rfl) rfl rfl rfl) ?_
  refine r_aload_n (i := 2) (pc' := 10) dX11_policySum_9 rfl rfl (.tail _ (.tail _ (.head _))) ?_
  refine r_ifnonnull (t := 17) dX11_policySum_10 (by decide) ?_
  refine r_aload_n (i := 0) (pc' := 18) dX11_policySum_17 rfl rfl (.head _) ?_
  refine r_getR (pc' := 21) dX11_policySum_18 rfl fX11_10 rfl (by first | assumption | rfl) (by omega) (by assumption) ?_
  refine r_getR (pc' := 24) dX11_policySum_21 rfl fX11_101 rfl (by first | assumption | rfl) (by omega) (by assumption) ?_
  refine r_astore_n (i := 3) (pc' := 25) dX11_policySum_24 rfl rfl rfl (.s1 (.s1 (.s1 .nil rfl rfl rfl) rfl rfl rfl) rfl rfl rfl) ?_
  refine r_aload_n (i := 3) (pc' := 26) dX11_policySum_25 rfl rfl (.tail _ (.tail _ (.tail _ (.head _)))) ?_
  refine r_bipush (pc' := 28) dX11_policySum_26 rfl (by decide) ?_
  refine r_aload_n (i := 2) (pc' := 29) dX11_policySum_28 rfl rfl (.tail _ (.tail _ (.head _))) ?_
  refine r_aload_n (i := 0) (pc' := 30) dX11_policySum_29 rfl rfl (.head _) ?_
  refine r_getR (pc' := 33) dX11_policySum_30 rfl fX11_10 rfl (by first | assumption | rfl) (by omega) (by assumption) ?_
  refine r_getI (pc' := 36) dX11_policySum_33 rfl fX11_135 rfl (by first | assumption | rfl) (by omega) ?_
  refine r_V1p (ci := 4) (pc' := 39) dX11_policySum_36 rfl lX11_196 rfl (by decide) (Nat.le_of_ble_eq_true rfl) (by first | assumption | rfl) (by omega) (tX4_hit hc hf (by omega)) ?_
  refine r_V2gv (ci := 5) (pc' := 42) dX11_policySum_39 rfl lX11_466 rfl (by decide) (Nat.le_of_ble_eq_true rfl) (by first | assumption | rfl) (by omega) (tX5_put hfor (by omega)) (fun n39 P39 X39 Y39 e39 le39 => ?_)
  obtain ⟨hg1_39, hg2_39, hg3_39, hg4_39⟩ := e39
  have g1_39 := Eq.symm hg1_39
  have g2_39 := Eq.symm hg2_39
  have g3_39 := Eq.symm hg3_39
  have g4_39 := Eq.symm hg4_39
  clear hg1_39 hg2_39 hg3_39 hg4_39
  subst g1_39 g2_39 g3_39 g4_39
  rw [show f_plc 104 = 0 from by decide, if_neg (by decide), show Int.toNat 0 = 0 from rfl]
  generalize hW0 : q_up X (b + 15 + 3) 0 (zi (c_hit X (con b k.toNat) (xv X b 0))) = W0
  have hL0 : bL b X W0 := by rw [← hW0]; exact bL.up (b := b) (bL.rfl)
  have hS0 := hL0.s
  have hO0 := bOk_ag hS0.ag hO
  have hT0 := htl.lt hO hS0 (fun a h1 h2 => hL0 a (by unfold bApart at hap; omega))
  have hck0 := hO0.c (k := k.toNat) (by rw [hS0.v0]; omega)
  refine r_aload_n (i := 3) (pc' := 43) dX11_policySum_42 rfl rfl (.tail _ (.tail _ (.tail _ (.head _)))) ?_
  refine r_bipush (pc' := 45) dX11_policySum_43 rfl (by decide) ?_
  refine r_aload_n (i := 0) (pc' := 46) dX11_policySum_45 rfl rfl (.head _) ?_
  refine r_getR (pc' := 49) dX11_policySum_46 rfl fX11_10 rfl (by first | assumption | rfl) (by omega) (by assumption) ?_
  refine r_aload_n (i := 2) (pc' := 50) dX11_policySum_49 rfl rfl (.tail _ (.tail _ (.head _))) ?_
  refine r_V1p (ci := 1) (pc' := 53) dX11_policySum_50 rfl lX11_232 rfl (by decide) (Nat.le_of_ble_eq_true rfl) (by first | assumption | rfl) (by omega) (tX1_deadInAll hb hO0 hc hck0) ?_
  rw [bk_all_ag hS0.ag (hS0.ag.c (k := k.toNat) (by omega))]
  refine r_V2gv (ci := 5) (pc' := 56) dX11_policySum_53 rfl lX11_466 rfl (by decide) (Nat.le_of_ble_eq_true rfl) (by first | assumption | rfl) (by omega) (tX5_put hfor (by omega)) (fun n53 P53 X53 Y53 e53 le53 => ?_)
  obtain ⟨hg1_53, hg2_53, hg3_53, hg4_53⟩ := e53
  have g1_53 := Eq.symm hg1_53
  have g2_53 := Eq.symm hg2_53
  have g3_53 := Eq.symm hg3_53
  have g4_53 := Eq.symm hg4_53
  clear hg1_53 hg2_53 hg3_53 hg4_53
  subst g1_53 g2_53 g3_53 g4_53
  rw [show f_plc 120 = 1 from by decide, if_neg (by decide), show Int.toNat 1 = 1 from rfl]
  generalize hW1 : q_up W0 (b + 15 + 3) 1 (zi (bk_all X b (con b k.toNat))) = W1
  have hL1 : bL b X W1 := by rw [← hW1]; exact bL.up (b := b) (hL0)
  have hS1 := hL1.s
  have hO1 := bOk_ag hS1.ag hO
  have hT1 := htl.lt hO hS1 (fun a h1 h2 => hL1 a (by unfold bApart at hap; omega))
  have hck1 := hO1.c (k := k.toNat) (by rw [hS1.v0]; omega)
  refine r_aload_n (i := 3) (pc' := 57) dX11_policySum_56 rfl rfl (.tail _ (.tail _ (.tail _ (.head _)))) ?_
  refine r_bipush (pc' := 59) dX11_policySum_57 rfl (by decide) ?_
  refine r_aload_n (i := 0) (pc' := 60) dX11_policySum_59 rfl rfl (.head _) ?_
  refine r_getR (pc' := 63) dX11_policySum_60 rfl fX11_56 rfl (by first | assumption | rfl) (by omega) (by assumption) ?_
  refine r_aload_n (i := 0) (pc' := 64) dX11_policySum_63 rfl rfl (.head _) ?_
  refine r_getR (pc' := 67) dX11_policySum_64 rfl fX11_10 rfl (by first | assumption | rfl) (by omega) (by assumption) ?_
  refine r_iload_n (i := 1) (pc' := 68) dX11_policySum_67 rfl rfl (.tail _ (.head _)) ?_
  refine r_aload_n (i := 0) (pc' := 69) dX11_policySum_68 rfl rfl (.head _) ?_
  refine r_getR (pc' := 72) dX11_policySum_69 rfl fX11_10 rfl (by first | assumption | rfl) (by omega) (by assumption) ?_
  refine r_getI (pc' := 75) dX11_policySum_72 rfl fX11_138 rfl (by first | assumption | rfl) (by omega) ?_
  refine r_V3p (ci := 10) (pc' := 78) dX11_policySum_75 rfl lX11_236 rfl (by decide) (Nat.le_of_ble_eq_true rfl) (by first | assumption | rfl) (by omega) (tX10_saved hb hO1 ht hT1.1 hap (by omega) (by rw [hS1.v0]; omega) (fun _ => (hT1.2.1 k.toNat (by rw [hS1.v0]; omega)).2.2.2)) ?_
  rw [(TT.of tOut.rfl hap hO1 hT1).sav hap hO1 (by rw [bk_ref_ag hS1.ag o10.2]; exact hk), hS1.sav o10.2 (by omega), hS1.v0]
  refine r_V2gv (ci := 5) (pc' := 81) dX11_policySum_78 rfl lX11_466 rfl (by decide) (Nat.le_of_ble_eq_true rfl) (by first | assumption | rfl) (by omega) (tX5_put hfor (by omega)) (fun n78 P78 X78 Y78 e78 le78 => ?_)
  obtain ⟨hg1_78, hg2_78, hg3_78, hg4_78⟩ := e78
  have g1_78 := Eq.symm hg1_78
  have g2_78 := Eq.symm hg2_78
  have g3_78 := Eq.symm hg3_78
  have g4_78 := Eq.symm hg4_78
  clear hg1_78 hg2_78 hg3_78 hg4_78
  subst g1_78 g2_78 g3_78 g4_78
  rw [show f_plc 115 = 2 from by decide, if_neg (by decide), show Int.toNat 2 = 2 from rfl]
  generalize hW2 : q_up W1 (b + 15 + 3) 2 (zi (bk_sav X b k.toNat (xv X b 1))) = W2
  have hL2 : bL b X W2 := by rw [← hW2]; exact bL.up (b := b) (hL1)
  have hS2 := hL2.s
  have hO2 := bOk_ag hS2.ag hO
  have hT2 := htl.lt hO hS2 (fun a h1 h2 => hL2 a (by unfold bApart at hap; omega))
  have hck2 := hO2.c (k := k.toNat) (by rw [hS2.v0]; omega)
  refine r_aload_n (i := 3) (pc' := 82) dX11_policySum_81 rfl rfl (.tail _ (.tail _ (.tail _ (.head _)))) ?_
  refine r_bipush (pc' := 84) dX11_policySum_82 rfl (by decide) ?_
  refine r_aload_n (i := 2) (pc' := 85) dX11_policySum_84 rfl rfl (.tail _ (.tail _ (.head _))) ?_
  refine r_aload_n (i := 0) (pc' := 86) dX11_policySum_85 rfl rfl (.head _) ?_
  refine r_getR (pc' := 89) dX11_policySum_86 rfl fX11_10 rfl (by first | assumption | rfl) (by omega) (by assumption) ?_
  refine r_getI (pc' := 92) dX11_policySum_89 rfl fX11_135 rfl (by first | assumption | rfl) (by omega) ?_
  rw [hS2.v0]
  refine r_V1p (ci := 4) (pc' := 95) dX11_policySum_92 rfl lX11_189 rfl (by decide) (Nat.le_of_ble_eq_true rfl) (by first | assumption | rfl) (by omega) (tX4_yearsLeft hc hck2.1 (by omega)) ?_
  rw [c_left_ag (hS2.ag.c (k := k.toNat) (by omega))]
  refine r_V2gv (ci := 5) (pc' := 98) dX11_policySum_95 rfl lX11_466 rfl (by decide) (Nat.le_of_ble_eq_true rfl) (by first | assumption | rfl) (by omega) (tX5_put hfor (by omega)) (fun n95 P95 X95 Y95 e95 le95 => ?_)
  obtain ⟨hg1_95, hg2_95, hg3_95, hg4_95⟩ := e95
  have g1_95 := Eq.symm hg1_95
  have g2_95 := Eq.symm hg2_95
  have g3_95 := Eq.symm hg3_95
  have g4_95 := Eq.symm hg4_95
  clear hg1_95 hg2_95 hg3_95 hg4_95
  subst g1_95 g2_95 g3_95 g4_95
  rw [show f_plc 121 = 3 from by decide, if_neg (by decide), show Int.toNat 3 = 3 from rfl]
  generalize hW3 : q_up W2 (b + 15 + 3) 3 (zi (c_left X (con b k.toNat) (xv X b 0))) = W3
  have hL3 : bL b X W3 := by rw [← hW3]; exact bL.up (b := b) (hL2)
  have hS3 := hL3.s
  have hO3 := bOk_ag hS3.ag hO
  have hT3 := htl.lt hO hS3 (fun a h1 h2 => hL3 a (by unfold bApart at hap; omega))
  have hck3 := hO3.c (k := k.toNat) (by rw [hS3.v0]; omega)
  refine r_aload_n (i := 3) (pc' := 99) dX11_policySum_98 rfl rfl (.tail _ (.tail _ (.tail _ (.head _)))) ?_
  refine r_bipush (pc' := 101) dX11_policySum_99 rfl (by decide) ?_
  refine r_aload_n (i := 2) (pc' := 102) dX11_policySum_101 rfl rfl (.tail _ (.tail _ (.head _))) ?_
  refine r_aload_n (i := 0) (pc' := 103) dX11_policySum_102 rfl rfl (.head _) ?_
  refine r_getR (pc' := 106) dX11_policySum_103 rfl fX11_10 rfl (by first | assumption | rfl) (by omega) (by assumption) ?_
  refine r_getI (pc' := 109) dX11_policySum_106 rfl fX11_135 rfl (by first | assumption | rfl) (by omega) ?_
  rw [hS3.v0]
  refine r_V1p (ci := 4) (pc' := 112) dX11_policySum_109 rfl lX11_202 rfl (by decide) (Nat.le_of_ble_eq_true rfl) (by first | assumption | rfl) (by omega) (tX4_basePay hc hck3.1 (by omega)) ?_
  rw [c_base_ag (hS3.ag.c (k := k.toNat) (by omega))]
  refine r_V2gv (ci := 5) (pc' := 115) dX11_policySum_112 rfl lX11_466 rfl (by decide) (Nat.le_of_ble_eq_true rfl) (by first | assumption | rfl) (by omega) (tX5_put hfor (by omega)) (fun n112 P112 X112 Y112 e112 le112 => ?_)
  obtain ⟨hg1_112, hg2_112, hg3_112, hg4_112⟩ := e112
  have g1_112 := Eq.symm hg1_112
  have g2_112 := Eq.symm hg2_112
  have g3_112 := Eq.symm hg3_112
  have g4_112 := Eq.symm hg4_112
  clear hg1_112 hg2_112 hg3_112 hg4_112
  subst g1_112 g2_112 g3_112 g4_112
  rw [show f_plc 98 = 4 from by decide, if_neg (by decide), show Int.toNat 4 = 4 from rfl]
  generalize hW4 : q_up W3 (b + 15 + 3) 4 (zi (c_base X (con b k.toNat) (xv X b 0))) = W4
  have hL4 : bL b X W4 := by rw [← hW4]; exact bL.up (b := b) (hL3)
  have hS4 := hL4.s
  have hO4 := bOk_ag hS4.ag hO
  have hT4 := htl.lt hO hS4 (fun a h1 h2 => hL4 a (by unfold bApart at hap; omega))
  have hck4 := hO4.c (k := k.toNat) (by rw [hS4.v0]; omega)
  refine r_aload_n (i := 3) (pc' := 116) dX11_policySum_115 rfl rfl (.tail _ (.tail _ (.tail _ (.head _)))) ?_
  refine r_bipush (pc' := 118) dX11_policySum_116 rfl (by decide) ?_
  refine r_iload_n (i := 1) (pc' := 119) dX11_policySum_118 rfl rfl (.tail _ (.head _)) ?_
  refine r_V2gv (ci := 5) (pc' := 122) dX11_policySum_119 rfl lX11_466 rfl (by decide) (Nat.le_of_ble_eq_true rfl) (by first | assumption | rfl) (by omega) (tX5_put hfor (by omega)) (fun n119 P119 X119 Y119 e119 le119 => ?_)
  obtain ⟨hg1_119, hg2_119, hg3_119, hg4_119⟩ := e119
  have g1_119 := Eq.symm hg1_119
  have g2_119 := Eq.symm hg2_119
  have g3_119 := Eq.symm hg3_119
  have g4_119 := Eq.symm hg4_119
  clear hg1_119 hg2_119 hg3_119 hg4_119
  subst g1_119 g2_119 g3_119 g4_119
  rw [show f_plc 110 = 5 from by decide, if_neg (by decide), show Int.toNat 5 = 5 from rfl]
  generalize hW5 : q_up W4 (b + 15 + 3) 5 (zi (k)) = W5
  have hL5 : bL b X W5 := by rw [← hW5]; exact bL.up (b := b) (hL4)
  have hS5 := hL5.s
  have hO5 := bOk_ag hS5.ag hO
  have hT5 := htl.lt hO hS5 (fun a h1 h2 => hL5 a (by unfold bApart at hap; omega))
  have hck5 := hO5.c (k := k.toNat) (by rw [hS5.v0]; omega)
  refine r_aload_n (i := 3) (pc' := 123) dX11_policySum_122 rfl rfl (.tail _ (.tail _ (.tail _ (.head _)))) ?_
  refine r_V0gl (ci := 5) (pc' := 126) dX11_policySum_123 rfl lX11_469 rfl (by decide) (Nat.le_of_ble_eq_true rfl) (by first | assumption | rfl) (by omega) (tX5_value (m := (xv X (b + 15) 0).toNat) hfor (by rw [hS5.v 15 (by omega) (by omega)]; omega) (by have := hfm.1; omega) (by have := (hS5.f hfm).2; rw [hS5.v 15 (by omega) (by omega)] at this; exact this)) (fun r123 n123 P123 X123 Y123 e123 le123 => ?_)
  obtain ⟨h1v, h2v, h3v, -, h5v⟩ := e123
  have h3s := Eq.symm h3v
  clear h3v
  subst h1v h2v h3s
  refine r_lreturn dX11_policySum_126 rfl ?_
  refine ⟨_, rfl, rfl, rfl, hL5, ?_⟩
  rw [h5v, f_says, hS5.v 16 (by omega) (by omega)]
  refine congrFun (fV_congr hfm.2 (fun j hj => ?_) _ (Nat.le_refl _)) 0
  have e : j = 0 ∨ j = 1 ∨ j = 2 ∨ j = 3 ∨ j = 4 ∨ j = 5 := by omega
  show (W5 (b + 15 + 3) j).toInt64 = _
  rw [← hW5, ← hW4, ← hW3, ← hW2, ← hW1, ← hW0]
  rcases e with e | e | e | e | e | e <;> subst e <;> simp (disch := omega) only [q_up_ne, q_up_same] <;> (rw [f_lt, f_lv]; first | rfl | (rw [if_neg (by decide), if_neg (by decide), if_neg (by decide), if_neg (by decide), if_neg (by decide), Int.toNat_of_nonneg hh.1]; done) | (simp; done))
