/-! the chooser lies at 459: who, deadNow, deadInAll, hits, parts, pay, firstPart -/
def isCho (n : Nat) (P : q_P) : Prop := P 459 0 = some 460 ∧ P 459 1 = some 461 ∧ P 459 2 = some 462 ∧ P 459 3 = some 463 ∧ P 459 4 = some 464 ∧ P 459 5 = some 465 ∧ P 459 6 = some 466 ∧ 481 ≤ n
theorem r_abs {l : Launch} {g : q_G} {y : q_M} {d : Nat} {K : q_K} {pc : Nat} {L : List (Nat × Value)} {S : List Value} {n : Nat} {P : q_P} {X : q_X} {Y : q_Y} (k : ∀ X2 : q_X, X2 = X → q_Tr l g y d K pc L S n P X2 Y) : q_Tr l g y d K pc L S n P X Y := k X rfl
theorem tOut.up {X X' : q_X} (h : tOut X X') {a : Nat} (j : Nat) (v : Int32) (ha : 453 ≤ a ∧ a ≤ 466) : tOut X (q_up X' a j v) := fun c hc => by
  rw [← h c hc]; funext q; exact q_up_ne _ _ (by omega)
theorem TS.out {X X' X2 : q_X} {b : Nat} {G T : Nat → Bool} (h : TS X X' b G T) (ho : tOut X X2) (e : ∀ a, 453 ≤ a → a ≤ 458 → xv X2 a = xv X' a) : TS X X2 b G T := by
  obtain ⟨h1, ⟨h2, h2b⟩, h3, h4⟩ := h
  have e3 := e 453 (by omega) (by omega)
  have e4 := e 454 (by omega) (by omega)
  have e5 := e 455 (by omega) (by omega)
  have e6 := e 456 (by omega) (by omega)
  have e7 := e 457 (by omega) (by omega)
  have e8 := e 458 (by omega) (by omega)
  refine ⟨ho, ⟨by rw [e3]; exact h2, fun i hi => by rw [e8]; exact h2b i (by rw [e3] at hi; exact hi)⟩, fun F => ?_, fun k hk => by rw [e4, e5, e6, e7]; exact h4 k hk⟩
  rw [e3, e8]; exact h3 F
theorem TT.out {X X' X2 : q_X} {b : Nat} {G T : Nat → Bool} (h : TT X X' b G T) (ho : tOut X X2) (e : ∀ a, 453 ≤ a → a ≤ 458 → xv X2 a = xv X' a) : TT X X2 b G T := TT.ofS h (h.s.out ho e) (e 453 (by omega) (by omega)) (e 454 (by omega) (by omega)) (e 458 (by omega) (by omega))
theorem bk_all_ag {X X' : q_X} {b c : Nat} (h : bAg X X' b) (hc : cAg X X' c) : bk_all X' b c = bk_all X b c := by simp only [bk_all, bk_dPay_ag h hc, c_from_ag hc, h.z]
def chG (X X' : q_X) (b : Nat) (L : List Nat) : Prop := xv X' 459 7 = (L.length : Int) ∧ ∀ i, i < L.length → xv X' 460 i = (wAt L i : Int) ∧ xv X' 461 i = bk_dead X b (con b (wAt L i)) (xv X b 1) ∧ xv X' 462 i = bk_all X b (con b (wAt L i)) ∧ xv X' 463 i = bk_hT X b g0 (wAt L i) ∧ xv X' 464 i = bk_pT X b g0 (wAt L i) ∧ xv X' 465 i = bk_most X b (con b (wAt L i)) ∧ xv X' 466 i = bk_sh X b (wAt L i)
theorem chG.out {X X' X2 : q_X} {b : Nat} {L : List Nat} (h : chG X X' b L) (e0 : xv X2 459 7 = xv X' 459 7) (e : ∀ a, 460 ≤ a → a ≤ 466 → xv X2 a = xv X' a) : chG X X2 b L := by
  refine ⟨e0.trans h.1, fun i hi => ?_⟩
  rw [e 460 (by omega) (by omega), e 461 (by omega) (by omega), e 462 (by omega) (by omega), e 463 (by omega) (by omega), e 464 (by omega) (by omega), e 465 (by omega) (by omega), e 466 (by omega) (by omega)]
  exact h.2 i hi
theorem chG.step {X X1 : q_X} {b k : Nat} {L : List Nat} (h : chG X X1 b L) (hc : cOk X (con b k)) (h6 : 0 ≤ xv X b 6) (hL : L.length < 10) (hk : k < 40) : chG X (q_up (q_up (q_up (q_up (q_up (q_up (q_up (q_up X1 460 L.length (zi (k : Int))) 461 L.length (zi (bk_dead X b (con b k) (xv X b 1)))) 462 L.length (zi (bk_all X b (con b k)))) 463 L.length (zi (bk_hT X b g0 k))) 464 L.length (zi (bk_pT X b g0 k))) 465 L.length (zi (bk_most X b (con b k)))) 466 L.length (zi (bk_sh X b k))) 459 7 (zi ((L.length : Int) + 1))) b (L ++ [k]) := by
  have b1 := bk_dead_b (b := b) hc (xv X b 1)
  have b2 := bk_all_b (b := b) hc
  have b3 := bk_hT_b g0 hc h6
  have b4 := bk_most_b hc h6
  have b5 := bk_sh_b hc h6
  have b6 := c_base_b hc (xv X b 0)
  refine ⟨?_, fun i hi => ?_⟩
  · rw [xv_up_same _ _ _ (by omega), List.length_append, List.length_singleton]; omega
  · rw [List.length_append, List.length_singleton] at hi
    by_cases e : i = L.length
    · subst e
      rw [wAt_end]
      refine ⟨?_, ?_, ?_, ?_, ?_, ?_, ?_⟩ <;> simp (disch := omega) only [xv_up_ne] <;> rw [xv_up_same _ _ _ (by omega)]
    · rw [wAt_app _ _ (by omega)]
      have := h.2 i (by omega)
      refine ⟨?_, ?_, ?_, ?_, ?_, ?_, ?_⟩ <;> simp (disch := omega) only [xv_up_ne]
      · exact this.1
      · exact this.2.1
      · exact this.2.2.1
      · exact this.2.2.2.1
      · exact this.2.2.2.2.1
      · exact this.2.2.2.2.2.1
      · exact this.2.2.2.2.2.2
set_option maxHeartbeats 4000000 in
set_option maxRecDepth 100000 in
theorem lX3_gather {l : Launch} {g : q_G} {n : Nat} {P : q_P} {X : q_X} {Y : q_Y} {m : Nat} {b : Nat} (hb : isBk n P b) (hO : bOk X b) (hap : bApart b) (ht : isTal n P) (hch : isCho n P) (hm : m ≤ 10) : ∀ (w i : Nat) (X1 : q_X), i + w = (xv X b 10).toNat → TT X X1 b g0 g0 → chG X X1 b (whoL X b m i) → xv X1 459 8 = 0 → q_Tr l g mX3_gather 4 (q_gv (fun n' P' X' Y' => n' = n ∧ P' = P ∧ Y' = Y ∧ TT X X' b g0 g0 ∧ chG X X' b (whoA X b m) ∧ xv X' 459 8 = 0)) 18 [(0, .ref (g.1 + 459)), (1, .ref (g.1 + b)), (2, .ref (g.1 + 453)), (3, .int (zi (m : Int))), (4, .int (zi (i : Int)))] [] n P X1 Y := by
  obtain ⟨b0, b1, b2, b3, q7, q8, q9, q11, q12, q13, hn, hpro, hmar, hfor, hcs⟩ := id hb
  obtain ⟨o0, o1, o2, o3, o4, o5, o6, o10, oc, op0, opz, opi, om0, omi, olim⟩ := id hO
  obtain ⟨t0, t1, t2, t3, t4, hnt⟩ := id ht
  obtain ⟨v0, v1, v2, v3, v4, v5, v6, hnh⟩ := id hch
  intro w
  induction w with
  | zero =>
    intro i X1 hi hTT hcg h8
    have hag := hTT.1.ag hap
    have eb : xv X1 b = xv X b := hag.z
    refine r_iload (pc' := 20) dX3_gather_18 rfl (.tail _ (.tail _ (.tail _ (.tail _ (.head _))))) ?_
    refine r_aload_n (i := 1) (pc' := 21) dX3_gather_20 rfl rfl (.tail _ (.head _)) ?_
    refine r_getI (pc' := 24) dX3_gather_21 rfl fX3_45 rfl (by first | assumption | rfl) (by omega) ?_
    rw [eb]
    refine r_icmp_ge (t := 184) (f := 27) dX3_gather_24 (by decide) rfl (by first | omega | exact xv_in _ _ _) (by first | omega | exact xv_in _ _ _) (fun h24 => ?_) (fun h24 => ?_)
    · refine r_return dX3_gather_184 rfl ?_
      refine ⟨rfl, rfl, rfl, rfl, hTT, ?_, h8⟩
      rw [show i = (xv X b 10).toNat by omega] at hcg; exact hcg
    · exfalso; omega
  | succ w ih =>
    intro i X1 hi hTT hcg h8
    have hoX1 := hTT.1
    have hag := hTT.1.ag hap
    have hO1 := bOk_ag hag hO
    have eb : xv X1 b = xv X b := hag.z
    have hln := whoL_len X b m i
    generalize hs : (whoL X b m i).length = s at hln
    have zX1 : xv X1 459 7 = (s : Int) := by rw [hcg.1, hs]
    have hc := hb.c (k := i) (by omega)
    obtain ⟨s0, s1, s2, s3, s4, p6, p7, p8, p9, hnc⟩ := id hc
    have hck := hO.c (k := i) (by omega)
    have hl1 := hck.1
    have hl2 := hck.2.1
    have hmb := bk_most_b hck o6.1
    have hbb := c_base_b hck (xv X b 0)
    have htl := hTT.2.2 i (by omega)
    have hlst : c_last X (con b i) = xv X (con b i) 0 + xv X (con b i) 1 + xv X (con b i) 2 - 1 := rfl
    refine r_iload (pc' := 20) dX3_gather_18 rfl (.tail _ (.tail _ (.tail _ (.tail _ (.head _))))) ?_
    refine r_aload_n (i := 1) (pc' := 21) dX3_gather_20 rfl rfl (.tail _ (.head _)) ?_
    refine r_getI (pc' := 24) dX3_gather_21 rfl fX3_45 rfl (by first | assumption | rfl) (by omega) ?_
    rw [eb]
    refine r_icmp_ge (t := 184) (f := 27) dX3_gather_24 (by decide) rfl (by first | omega | exact xv_in _ _ _) (by first | omega | exact xv_in _ _ _) (fun h24 => ?_) (fun h24 => ?_)
    · exfalso; omega
    · refine r_aload_n (i := 0) (pc' := 28) dX3_gather_27 rfl rfl (.head _) ?_
      refine r_getI (pc' := 31) dX3_gather_28 rfl fX3_41 rfl (by first | assumption | rfl) (by omega) ?_
      rw [zX1]
      refine r_iload_n (i := 3) (pc' := 32) dX3_gather_31 rfl rfl (.tail _ (.tail _ (.tail _ (.head _)))) ?_
      refine r_icmp_ge (t := 184) (f := 35) dX3_gather_32 (by decide) rfl (by first | omega | exact xv_in _ _ _) (by first | omega | exact xv_in _ _ _) (fun h32 => ?_) (fun h32 => ?_)
      · refine r_return dX3_gather_184 rfl ?_
        refine ⟨rfl, rfl, rfl, rfl, hTT, ?_, h8⟩
        have := whoL_full X b m i (by omega) (w + 1)
        rw [hi] at this
        rw [whoA, this]; exact hcg
      · refine r_aload_n (i := 1) (pc' := 36) dX3_gather_35 rfl rfl (.tail _ (.head _)) ?_
        refine r_iload (pc' := 38) dX3_gather_36 rfl (.tail _ (.tail _ (.tail _ (.tail _ (.head _))))) ?_
        by_cases hk : bk_ref X b i = 0
        · refine r_V1p (ci := 1) (pc' := 41) dX3_gather_38 rfl lX3_48 rfl (by decide) (Nat.le_of_ble_eq_true rfl) (by first | assumption | rfl) (by omega) (tX1_findBegun hb hO1 (by omega) (by rw [bk_ref_ag hag o10.2]; exact hk)) ?_
          simp only [Int.toNat_natCast]
          refine r_astore (pc' := 43) dX3_gather_41 rfl rfl (.s1 (.s1 (.s1 (.s1 (.s1 .nil rfl rfl rfl) rfl rfl rfl) rfl rfl rfl) rfl rfl rfl) rfl rfl rfl) ?_
          refine r_aload (pc' := 45) dX3_gather_43 rfl (.tail _ (.tail _ (.tail _ (.tail _ (.tail _ (.head _)))))) ?_
          refine r_ifnull (pc' := 48) dX3_gather_45 rfl ?_
          refine r_aload_n (i := 0) (pc' := 49) dX3_gather_48 rfl rfl (.head _) ?_
          refine r_getR (pc' := 52) dX3_gather_49 rfl fX3_9 rfl (by first | assumption | rfl) (by omega) (by assumption) ?_
          refine r_aload_n (i := 0) (pc' := 53) dX3_gather_52 rfl rfl (.head _) ?_
          refine r_getI (pc' := 56) dX3_gather_53 rfl fX3_41 rfl (by first | assumption | rfl) (by omega) ?_
          rw [zX1]
          refine r_iload (pc' := 58) dX3_gather_56 rfl (.tail _ (.tail _ (.tail _ (.tail _ (.head _))))) ?_
          refine r_iastore (pc' := 59) dX3_gather_58 rfl (by first | assumption | rfl) (by omega) (by omega) (by omega) (by first | decide | omega) (Int.toNat_natCast _) ?_
          refine r_abs (fun Xa hXa => ?_)
          have hoXa : tOut X Xa := by rw [hXa]; exact hoX1.up _ _ (by omega)
          have agXa := hoXa.ag hap
          have ebXa : xv Xa b = xv X b := agXa.z
          have cgXa := agXa.c (k := i) (by omega)
          have zXa : xv Xa 459 7 = (s : Int) := by rw [hXa, xv_up_ne _ _ (by omega)]; exact zX1
          refine r_aload_n (i := 0) (pc' := 60) dX3_gather_59 rfl rfl (.head _) ?_
          refine r_getR (pc' := 63) dX3_gather_60 rfl fX3_13 rfl (by first | assumption | rfl) (by omega) (by assumption) ?_
          refine r_aload_n (i := 0) (pc' := 64) dX3_gather_63 rfl rfl (.head _) ?_
          refine r_getI (pc' := 67) dX3_gather_64 rfl fX3_41 rfl (by first | assumption | rfl) (by omega) ?_
          rw [zXa]
          refine r_aload_n (i := 1) (pc' := 68) dX3_gather_67 rfl rfl (.tail _ (.head _)) ?_
          refine r_aload (pc' := 70) dX3_gather_68 rfl (.tail _ (.tail _ (.tail _ (.tail _ (.tail _ (.head _)))))) ?_
          refine r_aload_n (i := 1) (pc' := 71) dX3_gather_70 rfl rfl (.tail _ (.head _)) ?_
          refine r_getI (pc' := 74) dX3_gather_71 rfl fX3_52 rfl (by first | assumption | rfl) (by omega) ?_
          rw [ebXa]
          refine r_V2p (ci := 1) (pc' := 77) dX3_gather_74 rfl lX3_55 rfl (by decide) (Nat.le_of_ble_eq_true rfl) (by first | assumption | rfl) (by omega) (tX1_deadNow hb (bOk_ag agXa hO) hc (cOk_ag cgXa hck) (by omega)) ?_
          rw [bk_dead_ag agXa cgXa]
          refine r_iastore (pc' := 78) dX3_gather_77 rfl (by first | assumption | rfl) (by omega) (by omega) (by omega) (by first | decide | omega) (Int.toNat_natCast _) ?_
          refine r_abs (fun Xb hXb => ?_)
          have hoXb : tOut X Xb := by rw [hXb]; exact hoXa.up _ _ (by omega)
          have agXb := hoXb.ag hap
          have ebXb : xv Xb b = xv X b := agXb.z
          have cgXb := agXb.c (k := i) (by omega)
          have zXb : xv Xb 459 7 = (s : Int) := by rw [hXb, xv_up_ne _ _ (by omega)]; exact zXa
          refine r_aload_n (i := 0) (pc' := 79) dX3_gather_78 rfl rfl (.head _) ?_
          refine r_getR (pc' := 82) dX3_gather_79 rfl fX3_16 rfl (by first | assumption | rfl) (by omega) (by assumption) ?_
          refine r_aload_n (i := 0) (pc' := 83) dX3_gather_82 rfl rfl (.head _) ?_
          refine r_getI (pc' := 86) dX3_gather_83 rfl fX3_41 rfl (by first | assumption | rfl) (by omega) ?_
          rw [zXb]
          refine r_aload_n (i := 1) (pc' := 87) dX3_gather_86 rfl rfl (.tail _ (.head _)) ?_
          refine r_aload (pc' := 89) dX3_gather_87 rfl (.tail _ (.tail _ (.tail _ (.tail _ (.tail _ (.head _)))))) ?_
          refine r_V1p (ci := 1) (pc' := 92) dX3_gather_89 rfl lX3_58 rfl (by decide) (Nat.le_of_ble_eq_true rfl) (by first | assumption | rfl) (by omega) (tX1_deadInAll hb (bOk_ag agXb hO) hc (cOk_ag cgXb hck)) ?_
          rw [bk_all_ag agXb cgXb]
          refine r_iastore (pc' := 93) dX3_gather_92 rfl (by first | assumption | rfl) (by omega) (by omega) (by omega) (by first | decide | omega) (Int.toNat_natCast _) ?_
          refine r_abs (fun Xc hXc => ?_)
          have hoXc : tOut X Xc := by rw [hXc]; exact hoXb.up _ _ (by omega)
          have agXc := hoXc.ag hap
          have ebXc : xv Xc b = xv X b := agXc.z
          have cgXc := agXc.c (k := i) (by omega)
          have zXc : xv Xc 459 7 = (s : Int) := by rw [hXc, xv_up_ne _ _ (by omega)]; exact zXb
          refine r_aload_n (i := 0) (pc' := 94) dX3_gather_93 rfl rfl (.head _) ?_
          refine r_getR (pc' := 97) dX3_gather_94 rfl fX3_19 rfl (by first | assumption | rfl) (by omega) (by assumption) ?_
          refine r_aload_n (i := 0) (pc' := 98) dX3_gather_97 rfl rfl (.head _) ?_
          refine r_getI (pc' := 101) dX3_gather_98 rfl fX3_41 rfl (by first | assumption | rfl) (by omega) ?_
          rw [zXc]
          refine r_aload_n (i := 2) (pc' := 102) dX3_gather_101 rfl rfl (.tail _ (.tail _ (.head _))) ?_
          refine r_getR (pc' := 105) dX3_gather_102 rfl fX3_61 rfl (by first | assumption | rfl) (by omega) (by assumption) ?_
          refine r_iload (pc' := 107) dX3_gather_105 rfl (.tail _ (.tail _ (.tail _ (.tail _ (.head _))))) ?_
          refine r_iaload (pc' := 108) dX3_gather_107 rfl (by first | assumption | rfl) (by omega) (by omega) (by omega) (by first | decide | omega) (Int.toNat_natCast _) ?_
          rw [show xv Xc 454 i = bk_hT X b g0 i by rw [hXc, hXb, hXa]; simp (disch := omega) only [xv_up_ne]; exact htl.1]
          refine r_iastore (pc' := 109) dX3_gather_108 rfl (by first | assumption | rfl) (by omega) (by omega) (by omega) (by first | decide | omega) (Int.toNat_natCast _) ?_
          refine r_abs (fun Xd hXd => ?_)
          have hoXd : tOut X Xd := by rw [hXd]; exact hoXc.up _ _ (by omega)
          have agXd := hoXd.ag hap
          have ebXd : xv Xd b = xv X b := agXd.z
          have cgXd := agXd.c (k := i) (by omega)
          have zXd : xv Xd 459 7 = (s : Int) := by rw [hXd, xv_up_ne _ _ (by omega)]; exact zXc
          refine r_aload_n (i := 0) (pc' := 110) dX3_gather_109 rfl rfl (.head _) ?_
          refine r_getR (pc' := 113) dX3_gather_110 rfl fX3_22 rfl (by first | assumption | rfl) (by omega) (by assumption) ?_
          refine r_aload_n (i := 0) (pc' := 114) dX3_gather_113 rfl rfl (.head _) ?_
          refine r_getI (pc' := 117) dX3_gather_114 rfl fX3_41 rfl (by first | assumption | rfl) (by omega) ?_
          rw [zXd]
          refine r_aload_n (i := 2) (pc' := 118) dX3_gather_117 rfl rfl (.tail _ (.tail _ (.head _))) ?_
          refine r_getR (pc' := 121) dX3_gather_118 rfl fX3_64 rfl (by first | assumption | rfl) (by omega) (by assumption) ?_
          refine r_iload (pc' := 123) dX3_gather_121 rfl (.tail _ (.tail _ (.tail _ (.tail _ (.head _))))) ?_
          refine r_iaload (pc' := 124) dX3_gather_123 rfl (by first | assumption | rfl) (by omega) (by omega) (by omega) (by first | decide | omega) (Int.toNat_natCast _) ?_
          rw [show xv Xd 455 i = bk_pT X b g0 i by rw [hXd, hXc, hXb, hXa]; simp (disch := omega) only [xv_up_ne]; exact htl.2.1]
          refine r_iastore (pc' := 125) dX3_gather_124 rfl (by first | assumption | rfl) (by omega) (by omega) (by omega) (by first | decide | omega) (Int.toNat_natCast _) ?_
          refine r_abs (fun Xe hXe => ?_)
          have hoXe : tOut X Xe := by rw [hXe]; exact hoXd.up _ _ (by omega)
          have agXe := hoXe.ag hap
          have ebXe : xv Xe b = xv X b := agXe.z
          have cgXe := agXe.c (k := i) (by omega)
          have zXe : xv Xe 459 7 = (s : Int) := by rw [hXe, xv_up_ne _ _ (by omega)]; exact zXd
          refine r_aload_n (i := 0) (pc' := 126) dX3_gather_125 rfl rfl (.head _) ?_
          refine r_getR (pc' := 129) dX3_gather_126 rfl fX3_25 rfl (by first | assumption | rfl) (by omega) (by assumption) ?_
          refine r_aload_n (i := 0) (pc' := 130) dX3_gather_129 rfl rfl (.head _) ?_
          refine r_getI (pc' := 133) dX3_gather_130 rfl fX3_41 rfl (by first | assumption | rfl) (by omega) ?_
          rw [zXe]
          refine r_aload_n (i := 1) (pc' := 134) dX3_gather_133 rfl rfl (.tail _ (.head _)) ?_
          refine r_aload (pc' := 136) dX3_gather_134 rfl (.tail _ (.tail _ (.tail _ (.tail _ (.tail _ (.head _)))))) ?_
          refine r_V1p (ci := 1) (pc' := 139) dX3_gather_136 rfl lX3_65 rfl (by decide) (Nat.le_of_ble_eq_true rfl) (by first | assumption | rfl) (by omega) (tX1_mostTurned hb (bOk_ag agXe hO) hc (cOk_ag cgXe hck)) ?_
          rw [bk_most_ag agXe cgXe]
          refine r_iastore (pc' := 140) dX3_gather_139 rfl (by first | assumption | rfl) (by omega) (by omega) (by omega) (by first | decide | omega) (Int.toNat_natCast _) ?_
          refine r_abs (fun Xf hXf => ?_)
          have hoXf : tOut X Xf := by rw [hXf]; exact hoXe.up _ _ (by omega)
          have agXf := hoXf.ag hap
          have ebXf : xv Xf b = xv X b := agXf.z
          have cgXf := agXf.c (k := i) (by omega)
          have zXf : xv Xf 459 7 = (s : Int) := by rw [hXf, xv_up_ne _ _ (by omega)]; exact zXe
          refine r_aload_n (i := 0) (pc' := 141) dX3_gather_140 rfl rfl (.head _) ?_
          refine r_getR (pc' := 144) dX3_gather_141 rfl fX3_28 rfl (by first | assumption | rfl) (by omega) (by assumption) ?_
          refine r_aload_n (i := 0) (pc' := 145) dX3_gather_144 rfl rfl (.head _) ?_
          refine r_getI (pc' := 148) dX3_gather_145 rfl fX3_41 rfl (by first | assumption | rfl) (by omega) ?_
          rw [zXf]
          refine r_aload (pc' := 150) dX3_gather_148 rfl (.tail _ (.tail _ (.tail _ (.tail _ (.tail _ (.head _)))))) ?_
          refine r_aload_n (i := 0) (pc' := 151) dX3_gather_150 rfl rfl (.head _) ?_
          refine r_getR (pc' := 154) dX3_gather_151 rfl fX3_25 rfl (by first | assumption | rfl) (by omega) (by assumption) ?_
          refine r_aload_n (i := 0) (pc' := 155) dX3_gather_154 rfl rfl (.head _) ?_
          refine r_getI (pc' := 158) dX3_gather_155 rfl fX3_41 rfl (by first | assumption | rfl) (by omega) ?_
          rw [zXf]
          refine r_iaload (pc' := 159) dX3_gather_158 rfl (by first | assumption | rfl) (by omega) (by omega) (by omega) (by first | decide | omega) (Int.toNat_natCast _) ?_
          rw [show xv Xf 465 s = bk_most X b (con b i) by rw [hXf, xv_up_same _ _ _ (by omega)]]
          refine r_aload_n (i := 1) (pc' := 160) dX3_gather_159 rfl rfl (.tail _ (.head _)) ?_
          refine r_getI (pc' := 163) dX3_gather_160 rfl fX3_68 rfl (by first | assumption | rfl) (by omega) ?_
          rw [ebXf]
          refine r_iconst (pc' := 164) dX3_gather_163 rfl ?_
          refine r_V3p (ci := 4) (pc' := 167) dX3_gather_164 rfl lX3_71 rfl (by decide) (Nat.le_of_ble_eq_true rfl) (by first | assumption | rfl) (by omega) (tX4_partOf hc (by omega) (by rw [c_last_ag cgXf]; omega) (by omega) (by omega)) ?_
          rw [c_last_ag cgXf, show c_piece (bk_most X b (con b i)) (c_last X (con b i) - xv X b 0 + 1) 0 = bk_sh X b i from rfl]
          refine r_iastore (pc' := 168) dX3_gather_167 rfl (by first | assumption | rfl) (by omega) (by omega) (by omega) (by first | decide | omega) (Int.toNat_natCast _) ?_
          refine r_abs (fun Xg hXg => ?_)
          have hoXg : tOut X Xg := by rw [hXg]; exact hoXf.up _ _ (by omega)
          have agXg := hoXg.ag hap
          have ebXg : xv Xg b = xv X b := agXg.z
          have cgXg := agXg.c (k := i) (by omega)
          have zXg : xv Xg 459 7 = (s : Int) := by rw [hXg, xv_up_ne _ _ (by omega)]; exact zXf
          refine r_aload_n (i := 0) (pc' := 169) dX3_gather_168 rfl rfl (.head _) ?_
          refine r_dup (pc' := 170) dX3_gather_169 rfl rfl ?_
          refine r_getI (pc' := 173) dX3_gather_170 rfl fX3_41 rfl (by first | assumption | rfl) (by omega) ?_
          rw [zXg]
          refine r_iconst (pc' := 174) dX3_gather_173 rfl ?_
          refine r_iadd (pc' := 175) dX3_gather_174 rfl ?_
          refine r_putI (pc' := 178) dX3_gather_175 rfl fX3_41 rfl (by first | assumption | rfl) (by omega) rfl rfl ?_
          refine r_iinc (pc' := 181) dX3_gather_178 rfl rfl (.tail _ (.tail _ (.tail _ (.tail _ (.head _))))) (.s1 (.s1 (.s1 (.s1 (.here (.s1 .nil rfl rfl rfl)) rfl rfl rfl) rfl rfl rfl) rfl rfl rfl) rfl rfl rfl) ?_
          refine r_goto (t := 18) dX3_gather_181 (by decide) ?_
          refine r_sub (.kp (.kp (.kp (.kp (.kp (.dr .nil)))))) ?_
          first
            | exact ih (i + 1) X1 (by omega) hTT (by rw [whoL, if_neg (fun q => hk q.2)]; exact hcg) h8
            | (refine ih (i + 1) _ (by omega) (hTT.out (hoXg.up _ _ (by omega)) (fun a a1 a2 => ?_)) ?_ ?_
               · rw [xv_up_row _ _ _ (by omega), hXg, xv_up_row _ _ _ (by omega), hXf, xv_up_row _ _ _ (by omega), hXe, xv_up_row _ _ _ (by omega), hXd, xv_up_row _ _ _ (by omega), hXc, xv_up_row _ _ _ (by omega), hXb, xv_up_row _ _ _ (by omega), hXa, xv_up_row _ _ _ (by omega)]
               · rw [whoL, if_pos ⟨by omega, hk⟩]
                 have := hcg.step (k := i) hck o6.1 (by omega) (by omega)
                 rw [hs, ← hXa, ← hXb, ← hXc, ← hXd, ← hXe, ← hXf, ← hXg] at this
                 exact this
               · rw [xv_up_ne _ _ (by omega), hXg, xv_up_ne _ _ (by omega), hXf, xv_up_ne _ _ (by omega), hXe, xv_up_ne _ _ (by omega), hXd, xv_up_ne _ _ (by omega), hXc, xv_up_ne _ _ (by omega), hXb, xv_up_ne _ _ (by omega), hXa, xv_up_ne _ _ (by omega)]; exact h8)
        · refine r_V1p (ci := 1) (pc' := 41) dX3_gather_38 rfl lX3_48 rfl (by decide) (Nat.le_of_ble_eq_true rfl) (by first | assumption | rfl) (by omega) (tX1_findBegunN hb hO1 (by omega) (by rw [bk_ref_ag hag o10.2]; exact hk)) ?_
          refine r_astoreN (pc' := 43) dX3_gather_41 rfl rfl (.s1 (.s1 (.s1 (.s1 (.s1 .nil rfl rfl rfl) rfl rfl rfl) rfl rfl rfl) rfl rfl rfl) rfl rfl rfl) ?_
          refine r_aloadN (pc' := 45) dX3_gather_43 rfl (.tail _ (.tail _ (.tail _ (.tail _ (.tail _ (.head _)))))) ?_
          refine r_ifnullN (t := 178) dX3_gather_45 (by decide) ?_
          refine r_iinc (pc' := 181) dX3_gather_178 rfl rfl (.tail _ (.tail _ (.tail _ (.tail _ (.head _))))) (.s1 (.s1 (.s1 (.s1 (.here (.s1 .nil rfl rfl rfl)) rfl rfl rfl) rfl rfl rfl) rfl rfl rfl) rfl rfl rfl) ?_
          refine r_goto (t := 18) dX3_gather_181 (by decide) ?_
          refine r_sub (.kp (.kp (.kp (.kp (.kp (.dr .nil)))))) ?_
          first
            | exact ih (i + 1) X1 (by omega) hTT (by rw [whoL, if_neg (fun q => hk q.2)]; exact hcg) h8
            | (refine ih (i + 1) _ (by omega) (hTT.out (hoXg.up _ _ (by omega)) (fun a a1 a2 => ?_)) ?_ ?_
               · rw [xv_up_row _ _ _ (by omega), hXg, xv_up_row _ _ _ (by omega), hXf, xv_up_row _ _ _ (by omega), hXe, xv_up_row _ _ _ (by omega), hXd, xv_up_row _ _ _ (by omega), hXc, xv_up_row _ _ _ (by omega), hXb, xv_up_row _ _ _ (by omega), hXa, xv_up_row _ _ _ (by omega)]
               · rw [whoL, if_pos ⟨by omega, hk⟩]
                 have := hcg.step (k := i) hck o6.1 (by omega) (by omega)
                 rw [hs, ← hXa, ← hXb, ← hXc, ← hXd, ← hXe, ← hXf, ← hXg] at this
                 exact this
               · rw [xv_up_ne _ _ (by omega), hXg, xv_up_ne _ _ (by omega), hXf, xv_up_ne _ _ (by omega), hXe, xv_up_ne _ _ (by omega), hXd, xv_up_ne _ _ (by omega), hXc, xv_up_ne _ _ (by omega), hXb, xv_up_ne _ _ (by omega), hXa, xv_up_ne _ _ (by omega)]; exact h8)
set_option maxHeartbeats 4000000 in
set_option maxRecDepth 100000 in
theorem tX3_gather {l : Launch} {g : q_G} {n : Nat} {P : q_P} {X : q_X} {Y : q_Y} {m : Nat} {b : Nat} (hb : isBk n P b) (hO : bOk X b) (hap : bApart b) (ht : isTal n P) (hch : isCho n P) (hm : m ≤ 10) : q_Met l g mX3_gather 4 [.ref (g.1 + 459), .ref (g.1 + b), .ref (g.1 + 453), .int (zi (m : Int))] n P X Y (q_gv (fun n' P' X' Y' => n' = n ∧ P' = P ∧ Y' = Y ∧ TT X X' b g0 g0 ∧ chG X X' b (whoA X b m) ∧ xv X' 459 8 = 0)) := by
  obtain ⟨b0, b1, b2, b3, q7, q8, q9, q11, q12, q13, hn, hpro, hmar, hfor, hcs⟩ := id hb
  obtain ⟨o0, o1, o2, o3, o4, o5, o6, o10, oc, op0, opz, opi, om0, omi, olim⟩ := id hO
  obtain ⟨t0, t1, t2, t3, t4, hnt⟩ := id ht
  obtain ⟨v0, v1, v2, v3, v4, v5, v6, hnh⟩ := id hch
  refine q_enter (L := [(0, .ref (g.1 + 459)), (1, .ref (g.1 + b)), (2, .ref (g.1 + 453)), (3, .int (zi (m : Int)))]) (by decide) (Nat.le_of_ble_eq_true rfl) rfl ?_
  refine r_aload_n (i := 2) (pc' := 1) dX3_gather_0 rfl rfl (.tail _ (.tail _ (.head _))) ?_
  refine r_aload_n (i := 1) (pc' := 2) dX3_gather_1 rfl rfl (.tail _ (.head _)) ?_
  refine r_V1gv (ci := 10) (pc' := 5) dX3_gather_2 rfl lX3_31 rfl (by decide) (Nat.le_of_ble_eq_true rfl) (by first | assumption | rfl) (by omega) (tX10_load hb hO ht hap) (fun n2 P2 X2 Y2 e2 le2 => ?_)
  obtain ⟨rfl, rfl, rfl, ho, htl⟩ := e2
  have hTT := TT.of ho hap hO htl
  have hT1 := htl.1
  have hag := ho.ag hap
  have hO1 := bOk_ag hag hO
  have eb : xv X2 b = xv X b := hag.z
  refine r_aload_n (i := 0) (pc' := 6) dX3_gather_5 rfl rfl (.head _) ?_
  refine r_iconst (pc' := 7) dX3_gather_6 rfl ?_
  refine r_putI (pc' := 10) dX3_gather_7 rfl fX3_37 rfl (by first | assumption | rfl) (by omega) rfl rfl ?_
  refine r_aload_n (i := 0) (pc' := 11) dX3_gather_10 rfl rfl (.head _) ?_
  refine r_iconst (pc' := 12) dX3_gather_11 rfl ?_
  refine r_putI (pc' := 15) dX3_gather_12 rfl fX3_41 rfl (by first | assumption | rfl) (by omega) rfl rfl ?_
  refine r_iconst (pc' := 16) dX3_gather_15 rfl ?_
  refine r_istore (pc' := 18) dX3_gather_16 rfl rfl (.s1 (.s1 (.s1 (.s1 .nil rfl rfl rfl) rfl rfl rfl) rfl rfl rfl) rfl rfl rfl) ?_
  refine lX3_gather hb hO hap ht hch hm _ 0 _ (Nat.zero_add _) (hTT.out ((ho.up _ _ (by omega)).up _ _ (by omega)) (fun a a1 a2 => ?_)) ⟨?_, fun i hi => ?_⟩ ?_
  · rw [xv_up_row _ _ _ (by omega), xv_up_row _ _ _ (by omega)]
  · rw [xv_up_same _ _ _ (by omega)]; rfl
  · simp [whoL] at hi
  · rw [xv_up_ne _ _ (by omega), xv_up_same _ _ _ (by omega)]
set_option maxHeartbeats 4000000 in
set_option maxRecDepth 100000 in
theorem lX3_sumOf {l : Launch} {g : q_G} {n : Nat} {P : q_P} {X : q_X} {Y : q_Y} {a N st : Nat} (hsa : q_sh a = (20, N)) (han : a < n) (hn9 : 481 ≤ n) (hN : N ≤ 100) (hz : 0 ≤ xv X 459 7 ∧ xv X 459 7 ≤ N ∧ xv X 459 7 ≤ 12) (hst : st < 10000) {r : Int} : ∀ (w i : Nat) (s : Int), i + w = (xv X 459 7).toNat → s + q_sum (fun i => if p_bit st i then xv X a i else 0) i w = r → q_Tr l g mX3_sumOf 0 (q_pv (.int (zi r)) n P X Y) 5 [(0, .ref (g.1 + 459)), (1, .ref (g.1 + a)), (2, .int (zi (st : Int))), (3, .int (zi s)), (4, .int (zi (i : Int)))] [] n P X Y := by
  skip
  intro w
  induction w with
  | zero =>
    intro i s hk hr
    refine r_iload (pc' := 7) dX3_sumOf_5 rfl (.tail _ (.tail _ (.tail _ (.tail _ (.head _))))) ?_
    refine r_aload_n (i := 0) (pc' := 8) dX3_sumOf_7 rfl rfl (.head _) ?_
    refine r_getI (pc' := 11) dX3_sumOf_8 rfl fX3_41 rfl (by first | assumption | rfl) (by omega) ?_
    refine r_icmp_ge (t := 36) (f := 14) dX3_sumOf_11 (by decide) rfl (by first | omega | exact xv_in _ _ _) (by first | omega | exact xv_in _ _ _) (fun h11 => ?_) (fun h11 => ?_)
    · refine r_iload_n (i := 3) (pc' := 37) dX3_sumOf_36 rfl rfl (.tail _ (.tail _ (.tail _ (.head _)))) ?_
      refine r_ireturn dX3_sumOf_37 rfl ?_
      refine ⟨?_, rfl, rfl, rfl, rfl⟩
      rw [← hr]; simp [q_sum]
    · exfalso; omega
  | succ w ih =>
    intro i s hk hr
    refine r_iload (pc' := 7) dX3_sumOf_5 rfl (.tail _ (.tail _ (.tail _ (.tail _ (.head _))))) ?_
    refine r_aload_n (i := 0) (pc' := 8) dX3_sumOf_7 rfl rfl (.head _) ?_
    refine r_getI (pc' := 11) dX3_sumOf_8 rfl fX3_41 rfl (by first | assumption | rfl) (by omega) ?_
    refine r_icmp_ge (t := 36) (f := 14) dX3_sumOf_11 (by decide) rfl (by first | omega | exact xv_in _ _ _) (by first | omega | exact xv_in _ _ _) (fun h11 => ?_) (fun h11 => ?_)
    · exfalso; omega
    · refine r_iload_n (i := 2) (pc' := 15) dX3_sumOf_14 rfl rfl (.tail _ (.tail _ (.head _))) ?_
      refine r_iload (pc' := 17) dX3_sumOf_15 rfl (.tail _ (.tail _ (.tail _ (.tail _ (.head _))))) ?_
      refine r_ishr (pc' := 18) dX3_sumOf_17 rfl (p_shr (by omega) (by omega)) ?_
      refine r_iconst (pc' := 19) dX3_sumOf_18 rfl ?_
      refine r_iand (pc' := 20) dX3_sumOf_19 rfl (p_and1 _) ?_
      refine r_if_eq (t := 30) (f := 23) dX3_sumOf_20 (by decide) rfl (by first | omega | exact xv_in _ _ _) (fun h20 => ?_) (fun h20 => ?_)
      · refine r_iinc (pc' := 33) dX3_sumOf_30 rfl rfl (.tail _ (.tail _ (.tail _ (.tail _ (.head _))))) (.s1 (.s1 (.s1 (.s1 (.here .nil) rfl rfl rfl) rfl rfl rfl) rfl rfl rfl) rfl rfl rfl) ?_
        refine r_goto (t := 5) dX3_sumOf_33 (by decide) ?_
        refine ih (i + 1) _ (by omega) ?_
        rw [← hr, q_sum]
        first
          | (rw [if_neg (by unfold p_bit; omega)]; omega)
          | (rw [if_pos (by unfold p_bit; omega)]; omega)
      · refine r_iload_n (i := 3) (pc' := 24) dX3_sumOf_23 rfl rfl (.tail _ (.tail _ (.tail _ (.head _)))) ?_
        refine r_aload_n (i := 1) (pc' := 25) dX3_sumOf_24 rfl rfl (.tail _ (.head _)) ?_
        refine r_iload (pc' := 27) dX3_sumOf_25 rfl (.tail _ (.tail _ (.tail _ (.tail _ (.head _))))) ?_
        refine r_iaload (pc' := 28) dX3_sumOf_27 rfl (by first | assumption | rfl) (by omega) (by omega) (by omega) (by first | decide | omega) (Int.toNat_natCast _) ?_
        refine r_iadd (pc' := 29) dX3_sumOf_28 rfl ?_
        refine r_istore_n (i := 3) (pc' := 30) dX3_sumOf_29 rfl rfl rfl (.s1 (.s1 (.s1 (.here (.s1 .nil rfl rfl rfl)) rfl rfl rfl) rfl rfl rfl) rfl rfl rfl) ?_
        refine r_iinc (pc' := 33) dX3_sumOf_30 rfl rfl (.tail _ (.tail _ (.tail _ (.tail _ (.head _))))) (.s1 (.s1 (.s1 (.s1 (.here .nil) rfl rfl rfl) rfl rfl rfl) rfl rfl rfl) rfl rfl rfl) ?_
        refine r_goto (t := 5) dX3_sumOf_33 (by decide) ?_
        refine ih (i + 1) _ (by omega) ?_
        rw [← hr, q_sum]
        first
          | (rw [if_neg (by unfold p_bit; omega)]; omega)
          | (rw [if_pos (by unfold p_bit; omega)]; omega)
set_option maxHeartbeats 4000000 in
set_option maxRecDepth 100000 in
theorem tX3_sumOf {l : Launch} {g : q_G} {n : Nat} {P : q_P} {X : q_X} {Y : q_Y} {a N st : Nat} (hsa : q_sh a = (20, N)) (han : a < n) (hn9 : 481 ≤ n) (hN : N ≤ 100) (hz : 0 ≤ xv X 459 7 ∧ xv X 459 7 ≤ N ∧ xv X 459 7 ≤ 12) (hst : st < 10000) : q_Met l g mX3_sumOf 0 [.ref (g.1 + 459), .ref (g.1 + a), .int (zi (st : Int))] n P X Y (q_pv (.int (zi (q_sum (fun i => if p_bit st i then xv X a i else 0) 0 ((xv X 459 7).toNat)))) n P X Y) := by
  skip
  refine q_enter (L := [(0, .ref (g.1 + 459)), (1, .ref (g.1 + a)), (2, .int (zi (st : Int)))]) (by decide) (Nat.le_of_ble_eq_true rfl) rfl ?_
  refine r_iconst (pc' := 1) dX3_sumOf_0 rfl ?_
  refine r_istore_n (i := 3) (pc' := 2) dX3_sumOf_1 rfl rfl rfl (.s1 (.s1 (.s1 .nil rfl rfl rfl) rfl rfl rfl) rfl rfl rfl) ?_
  refine r_iconst (pc' := 3) dX3_sumOf_2 rfl ?_
  refine r_istore (pc' := 5) dX3_sumOf_3 rfl rfl (.s1 (.s1 (.s1 (.s1 .nil rfl rfl rfl) rfl rfl rfl) rfl rfl rfl) rfl rfl rfl) ?_
  exact lX3_sumOf hsa han hn9 hN hz hst ((xv X 459 7).toNat) 0 _ (by omega) (Int.zero_add _)
set_option maxHeartbeats 4000000 in
set_option maxRecDepth 100000 in
theorem tX3_sum {l : Launch} {g : q_G} {n : Nat} {P : q_P} {X : q_X} {Y : q_Y} {a N st : Nat} (hsa : q_sh a = (20, N)) (han : a < n) (hn9 : 481 ≤ n) (hN : N ≤ 100) {z : Nat} (hz0 : xv X 459 7 = (z : Int)) (hz : z ≤ N ∧ z ≤ 12) (hst : st < 10000) {f : Nat → Int} (hf : ∀ i, i < z → xv X a i = f i) : q_Met l g mX3_sumOf 0 [.ref (g.1 + 459), .ref (g.1 + a), .int (zi (st : Int))] n P X Y (q_pv (.int (zi (p_sumS f st z))) n P X Y) := by
  have := tX3_sumOf (l := l) (g := g) (n := n) (P := P) (X := X) (Y := Y) (st := st) hsa han hn9 hN (by omega) hst
  rw [hz0, Int.toNat_natCast] at this
  rw [p_sumS, q_sum_congr (h := fun i => if p_bit st i then xv X a i else 0) _ _ (fun i _ hi => by rw [hf i (by omega)])]
  exact this
