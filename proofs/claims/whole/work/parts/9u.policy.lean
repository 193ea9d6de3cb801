/-! a policy is read, there and here -/
theorem RB.ff {C C' : q_X} {b : Nat} {R R' : Nat → Int} (h : RB C b R) (hO : bOk C b) (hC : ∀ q, q < 220 → (q < 15 ∨ 19 < q) → xv C' (b + q) = xv C (b + q)) (e : ∀ j, j < 3740 → j ≠ 8 → j ≠ 9 → (j < 50 ∨ 130 ≤ j) → R' j = R j) (hF : RF C' b R') : RB C' b R' := by
  obtain ⟨o0, o1, o2, o3, o4, o5, o6, o10, oc, op0, opz, opi, om0, omi, olim⟩ := id hO
  obtain ⟨⟨h1, h2⟩, h3, h4, h5, h6, h7⟩ := h
  have z0 : xv C' b = xv C b := hC 0 (by omega) (by omega)
  refine ⟨⟨fun i hi => by rw [e _ (by omega) (by omega) (by omega) (by omega), z0]; exact h1 i hi, by rw [e 7 (by omega) (by omega) (by omega) (by omega), z0]; exact h2⟩, fun y hy => by rw [e _ (by omega) (by omega) (by omega) (by omega), e _ (by omega) (by omega) (by omega) (by omega), hC 1 (by omega) (by omega), hC 2 (by omega) (by omega)]; exact h3 y hy, fun i hi => ?_, ?_, ?_, hF⟩
  · rw [z0] at hi
    have hag : cAg C C' (con b i) := fun d hd => by
      unfold con
      rw [show b + 20 + 5 * i + d = b + (20 + 5 * i + d) by omega]
      exact hC (20 + 5 * i + d) (by omega) (by omega)
    refine ⟨fun q hq => ?_, fun y hy => ?_⟩
    · dsimp only; rw [e _ (by omega) (by omega) (by omega) (by omega), hag.z]; exact (h4 i hi).1 q hq
    · dsimp only; rw [e _ (by omega) (by omega) (by omega) (by omega), e _ (by omega) (by omega) (by omega) (by omega), e _ (by omega) (by omega) (by omega) (by omega), e _ (by omega) (by omega) (by omega) (by omega), c_base_ag hag, c_roster_ag hag, c_parts_ag hag, c_given_ag hag]; exact (h4 i hi).2 y hy
  · unfold RM
    rw [hC 10 (by omega) (by omega), hC 11 (by omega) (by omega), hC 12 (by omega) (by omega), hC 13 (by omega) (by omega), hC 14 (by omega) (by omega)]
    refine ⟨by rw [e _ (by omega) (by omega) (by omega) (by omega)]; exact h5.1, fun i hi => ?_⟩
    rw [e _ (by omega) (by omega) (by omega) (by omega), e _ (by omega) (by omega) (by omega) (by omega), e _ (by omega) (by omega) (by omega) (by omega), e _ (by omega) (by omega) (by omega) (by omega)]; exact h5.2 i hi
  · unfold RP
    rw [hC 4 (by omega) (by omega), hC 5 (by omega) (by omega), hC 6 (by omega) (by omega), hC 7 (by omega) (by omega), hC 8 (by omega) (by omega), hC 9 (by omega) (by omega)]
    refine ⟨by rw [e _ (by omega) (by omega) (by omega) (by omega)]; exact h6.1, fun i hi => ?_⟩
    rw [e _ (by omega) (by omega) (by omega) (by omega), e _ (by omega) (by omega) (by omega) (by omega), e _ (by omega) (by omega) (by omega) (by omega), e _ (by omega) (by omega) (by omega) (by omega), e _ (by omega) (by omega) (by omega) (by omega)]; exact h6.2 i hi
theorem bA_ff {C C' : q_X} {b : Nat} (hA : bA C b) (hC : ∀ q, q < 220 → (q < 15 ∨ 19 < q) → xv C' (b + q) = xv C (b + q)) (hF : bF C' b) : bA C' b := by
  obtain ⟨hO, hL, _⟩ := hA
  obtain ⟨o0, o1, o2, o3, o4, o5, o6, o10, oc, op0, opz, opi, om0, omi, olim⟩ := id hO
  have z0 : xv C' b = xv C b := hC 0 (by omega) (by omega)
  have hcon : ∀ k : Nat, (k : Int) < xv C b 10 → ∀ d, d ≤ 4 → xv C' (con b k + d) = xv C (con b k + d) := fun k hk d hd => by
    unfold con
    rw [show b + 20 + 5 * k + d = b + (20 + 5 * k + d) by omega]
    exact hC (20 + 5 * k + d) (by omega) (by omega)
  refine ⟨?_, fun k hk hs => ?_, hF⟩
  · unfold bOk
    rw [z0, hC 1 (by omega) (by omega), hC 4 (by omega) (by omega), hC 5 (by omega) (by omega), hC 6 (by omega) (by omega), hC 7 (by omega) (by omega), hC 8 (by omega) (by omega), hC 9 (by omega) (by omega), hC 10 (by omega) (by omega), hC 11 (by omega) (by omega), hC 12 (by omega) (by omega), hC 13 (by omega) (by omega), hC 14 (by omega) (by omega)]
    exact ⟨o0, o1, o2, o3, o4, o5, o6, o10, fun k hk => cOk_ag (fun d hd => hcon k hk d hd) (oc k hk), op0, opz, opi, om0, omi, olim⟩
  · rw [z0] at hk ⊢
    have e0 := hcon k hk 0 (by omega)
    rw [Nat.add_zero] at e0
    rw [e0] at hs ⊢
    exact hL k hk hs
abbrev fD0 (B : q_X) (f : Nat) : q_X := q_up (q_up B f 0 (zi 0)) f 3 (zi 0)
theorem fAll_1 {B : q_X} {f : Nat} (h : rMore (fD0 B f)) : fAll B f = fEnd f (fRun f 500 (fD0 B f, 0, 0, 1)) ∧ fAllN B f = (fRun f 500 (fD0 B f, 0, 0, 1)).2.1 := by
  unfold fAll fAllN fIni
  rw [if_pos h]
  exact ⟨rfl, rfl⟩
theorem fAll_0 {B : q_X} {f : Nat} (h : ¬ rMore (fD0 B f)) : fAll B f = fD0 B f ∧ fAllN B f = 0 := by
  unfold fAll fAllN fIni
  rw [if_neg h, fRun_stop h]
  refine ⟨?_, rfl⟩
  unfold fEnd
  rw [if_pos ⟨rfl, Int.le_refl _⟩]
  unfold fEWa
  have e3 : xv (fD0 B f) f 3 = 0 := xv_up_same _ _ _ (by omega)
  show fEW f (max 1 0) (xv (fD0 B f) f 3).toNat (fD0 B f) = _
  rw [e3]; rfl
theorem po_ini {C X X2 : q_X} {b d : Nat} (hA : bA C b) (hd : d + 220 ≤ 441) (hS : tS C X (xv C 445 1)) (h2 : zO X X2) (h5 : xv X2 467 5 = 0) (h6 : xv X2 467 6 = -1) (h10 : xv X2 467 10 = 0) (h11 : xv X2 467 11 = 0) : tR (fD0 (rdBeg C d b) (d + 15)) X2 ∧ yR (fD0 (rdBeg C d b) (d + 15)) X2 (d + 15) ∧ YI (fD0 (rdBeg C d b) (d + 15)) (d + 15) 1 0 0 ∧ xv (fD0 (rdBeg C d b) (d + 15)) 445 1 = xv C 445 1 ∧ xv (fD0 (rdBeg C d b) (d + 15)) 444 1 = 0 ∧ xv (fD0 (rdBeg C d b) (d + 15)) (d + 15) 0 = 0 := by
  have hO := hA.1
  have hr := rdBeg_r (X := C) (d := d) (b := b)
  have e5 : xv (rdBeg C d b) 445 = xv C 445 := rdBeg_o hO (by omega)
  have e6 : xv (rdBeg C d b) 446 = xv C 446 := rdBeg_o hO (by omega)
  have s0 := hS.1
  have er : ∀ a, a ≠ d + 15 → xv (fD0 (rdBeg C d b) (d + 15)) a = xv (rdBeg C d b) a := fun a ha => by rw [xv_up_row _ _ _ ha, xv_up_row _ _ _ ha]
  have e0 : xv (fD0 (rdBeg C d b) (d + 15)) (d + 15) 0 = 0 := by rw [xv_up_ne _ _ (by omega), xv_up_same _ _ _ (by omega)]
  have e3 : xv (fD0 (rdBeg C d b) (d + 15)) (d + 15) 3 = 0 := xv_up_same _ _ _ (by omega)
  refine ⟨⟨?_, by rw [er _ (by omega)]; exact hr.2, h6, by rw [h5, er _ (by omega), hr.1], ?_⟩, ⟨by omega, by omega, by omega, fun i hi => by omega, fun i hi => by omega⟩, ⟨0, 0, by rw [e3]; rfl, by rw [e0]; rfl, ⟨fun i hi => absurd hi (Nat.not_lt_zero i), fun j hj => ?_⟩, rfl, by omega, fun i hi => absurd hi (Nat.not_lt_zero i), rfl, by simp [fH], by omega, Or.inr rfl⟩, by rw [er _ (by omega), e5], by rw [er _ (by omega)]; exact hr.1, e0⟩
  · unfold rOk; rw [er _ (by omega), er _ (by omega), hr.1, e5]; omega
  · rw [er _ (by omega), e5]
    refine hS.cg ((er _ (by omega)).trans e5) ((er _ (by omega)).trans e6) ?_ ?_
    · simp only [xv]; rw [h2 _ _ (by omega) (by omega) (by omega)]
    · funext j; simp only [xv]; rw [h2 _ _ (by omega) (by omega) (by omega)]
  · obtain rfl : j = 0 := by omega
    have := tpS_b (xv (fD0 (rdBeg C d b) (d + 15)) (d + 15 + 2)) 0
    simp only [cB]; omega
/-- the tape is empty, the fault is f -/
def mP (X Xm : q_X) (f : Int) : Prop := xv Xm 467 4 = 0 ∧ xv Xm 467 6 = f ∧ ∀ a j, a ≠ 471 → a ≠ 472 → ¬ (a = 467 ∧ (j = 4 ∨ j = 5 ∨ j = 6 ∨ j = 7 ∨ j = 10 ∨ j = 11 ∨ j = 12 ∨ j = 13)) → Xm a j = X a j
theorem zO.m {X X1 : q_X} {f : Int} (h : zO X X1) (h6 : xv X1 467 6 = f) : mP X (q_up X1 467 4 (zi 0)) f := by
  refine ⟨xv_up_same _ _ _ (by omega), by rw [xv_up_ne _ _ (by omega)]; exact h6, fun a j a1 a2 a3 => ?_⟩
  rw [q_up_ne _ _ (by omega)]; exact h a j a1 a2 (by omega)
/-- what the loop has written -/
def poI (Xa X : q_X) (i : Nat) : Prop := (∀ a j, ¬ (a = 468 ∧ 50 ≤ j ∧ j < 130) → X a j = Xa a j) ∧ ∀ q, q < i → xv X 468 (50 + q) = xv Xa 471 q
set_option maxHeartbeats 4000000 in
set_option maxRecDepth 100000 in
theorem lX12_policy {l : Launch} {g : q_G} {n : Nat} {P : q_P} {Y : q_Y} (hm : isMod n P) {Xa : q_X} {m : Nat} (hm80 : m ≤ 80) (h10 : xv Xa 467 10 = (m : Int)) {th : Int} (h12 : xv Xa 467 12 = th) {K : q_K} (kk : ∀ X, poI Xa X m → K (some (.int (zi th))) n P X Y) : ∀ (w i : Nat) (X : q_X), i + w = m → poI Xa X i → q_Tr l g mX12_policy 4 K 84 [(0, .ref (g.1 + 467)), (2, .int (zi (i : Int)))] [] n P X Y := by
  obtain ⟨m0, m2, m3, m8, m9, m14, m15, m16, m17, m18, m20, m22, m25, hnm9⟩ := id hm
  intro w
  induction w with
  | zero =>
    intro i X hi hp
    obtain rfl : i = m := by omega
    have e10 : xv X 467 10 = (i : Int) := by rw [← h10]; simp only [xv]; rw [hp.1 _ _ (by omega)]
    have e12 : xv X 467 12 = th := by rw [← h12]; simp only [xv]; rw [hp.1 _ _ (by omega)]
    refine r_iload_n (i := 2) (pc' := 85) dX12_policy_84 rfl rfl (.tail _ (.head _)) ?_
    refine r_aload_n (i := 0) (pc' := 86) dX12_policy_85 rfl rfl (.head _) ?_
    refine r_getI (pc' := 89) dX12_policy_86 rfl fX12_162 rfl (by first | assumption | rfl) (by omega) ?_
    rw [e10]
    refine r_icmp_ge (t := 113) (f := 92) dX12_policy_89 (by decide) rfl (by first | omega | exact xv_in _ _ _) (by first | omega | exact xv_in _ _ _) (fun h89 => ?_) (fun h89 => ?_)
    · refine r_aload_n (i := 0) (pc' := 114) dX12_policy_113 rfl rfl (.head _) ?_
      refine r_getI (pc' := 117) dX12_policy_114 rfl fX12_175 rfl (by first | assumption | rfl) (by omega) ?_
      rw [e12]
      refine r_ireturn dX12_policy_117 rfl ?_
      exact kk X hp
    · exfalso; omega
  | succ w ih =>
    intro i X hi hp
    have e10 : xv X 467 10 = (m : Int) := by rw [← h10]; simp only [xv]; rw [hp.1 _ _ (by omega)]
    have e71 : xv X 471 i = xv Xa 471 i := by simp only [xv]; rw [hp.1 _ _ (by omega)]
    refine r_iload_n (i := 2) (pc' := 85) dX12_policy_84 rfl rfl (.tail _ (.head _)) ?_
    refine r_aload_n (i := 0) (pc' := 86) dX12_policy_85 rfl rfl (.head _) ?_
    refine r_getI (pc' := 89) dX12_policy_86 rfl fX12_162 rfl (by first | assumption | rfl) (by omega) ?_
    rw [e10]
    refine r_icmp_ge (t := 113) (f := 92) dX12_policy_89 (by decide) rfl (by first | omega | exact xv_in _ _ _) (by first | omega | exact xv_in _ _ _) (fun h89 => ?_) (fun h89 => ?_)
    · exfalso; omega
    · refine r_aload_n (i := 0) (pc' := 93) dX12_policy_92 rfl rfl (.head _) ?_
      refine r_getR (pc' := 96) dX12_policy_93 rfl fX12_3 rfl (by first | assumption | rfl) (by omega) (by assumption) ?_
      refine r_bipush (pc' := 98) dX12_policy_96 rfl (by decide) ?_
      refine r_iload_n (i := 2) (pc' := 99) dX12_policy_98 rfl rfl (.tail _ (.head _)) ?_
      refine r_iadd (pc' := 100) dX12_policy_99 rfl ?_
      refine r_aload_n (i := 0) (pc' := 101) dX12_policy_100 rfl rfl (.head _) ?_
      refine r_getR (pc' := 104) dX12_policy_101 rfl fX12_26 rfl (by first | assumption | rfl) (by omega) (by assumption) ?_
      refine r_iload_n (i := 2) (pc' := 105) dX12_policy_104 rfl rfl (.tail _ (.head _)) ?_
      refine r_iaload (pc' := 106) dX12_policy_105 rfl (by first | assumption | rfl) (by omega) (by omega) (by omega) (by first | decide | omega) (show _ = i by omega) ?_
      refine r_iastore (pc' := 107) dX12_policy_106 rfl (by first | assumption | rfl) (by omega) (by omega) (by omega) (by first | decide | omega) (show _ = 50 + i by omega) ?_
      refine r_iinc (pc' := 110) dX12_policy_107 rfl rfl (.tail _ (.head _)) (.s1 (.here .nil) rfl rfl rfl) ?_
      refine r_goto (t := 84) dX12_policy_110 (by decide) ?_
      refine ih (i + 1) _ (by omega) ⟨fun a j h => ?_, fun q hq => ?_⟩
      · rw [q_up_ne _ _ (by omega)]; exact hp.1 a j h
      · by_cases e : q = i
        · subst e; rw [xv_up_same _ _ _ (xv_in _ _ _)]; exact e71
        · rw [xv_up_ne _ _ (by omega)]; exact hp.2 q (by omega)
set_option maxHeartbeats 4000000 in
set_option maxRecDepth 100000 in
theorem eX12_policy {l : Launch} {g : q_G} {n : Nat} {P : q_P} {Y : q_Y} (hm : isMod n P) {X : q_X} {E B : q_X} {d : Nat} {th : Int} (hd : d + 220 ≤ 441) (hB : RB B d (xv X 468)) (hAB : bA B d) (hEo : ∀ a, a ≠ 444 → a ≠ d + 15 → a ≠ d + 16 → a ≠ d + 17 → xv E a = xv B a) (hD : 0 ≤ xv X 467 1 ∧ xv X 467 1 ≤ 8) {X1 : q_X} (hz : zO X X1) (hT : tR E X1) (hy : yR E X1 (d + 15)) (hw : fWF (xv E (d + 16)) (xv E (d + 15) 0).toNat) (hth : 0 ≤ th ∧ (th = 0 ↔ xv E (d + 15) 0 = 0)) (h12 : xv X1 467 12 = th) {K : q_K} (kk : ∀ X', RB E d (xv X' 468) → bA E d → (∃ Xm, mP X Xm (-1) ∧ rO (dd Xm 0) X') → K (some (.int (zi th))) n P X' Y) : q_Tr l g mX12_policy 4 K 44 [(0, .ref (g.1 + 467)), (1, .int (zi 1))] [] n P X1 Y := by
  obtain ⟨m0, m2, m3, m8, m9, m14, m15, m16, m17, m18, m20, m22, m25, hnm9⟩ := id hm
  have hm1 := hz.m hT.2.2.1
  have hyb := hy.1
  have hthi : q_in th := by rw [← h12]; exact xv_in _ _ _
  have hD1 : 0 ≤ xv (q_up X1 467 4 (zi 0)) 467 1 ∧ xv (q_up X1 467 4 (zi 0)) 467 1 ≤ 8 := by
    have e : xv (q_up X1 467 4 (zi 0)) 467 1 = xv X 467 1 := by rw [xv_up_ne _ _ (by omega)]; simp only [xv]; rw [hz _ _ (by omega) (by omega) (by omega)]
    rw [e]; exact hD
  have d12 : xv (dd (q_up X1 467 4 (zi 0)) 0) 467 12 = th := by
    simp only [xv]; rw [dd_ne _ _ (by omega) (by omega), q_up_ne _ _ (by omega)]; exact h12
  have d10 : xv (dd (q_up X1 467 4 (zi 0)) 0) 467 10 = xv E (d + 15) 0 := by
    simp only [xv]; rw [dd_ne _ _ (by omega) (by omega), q_up_ne _ _ (by omega)]; exact hy.2.1
  have d71 : xv (dd (q_up X1 467 4 (zi 0)) 0) 471 = xv X1 471 := by
    funext j; simp only [xv]; rw [dd_ne _ _ (by omega) (by omega), q_up_ne _ _ (by omega)]
  have dnow : ∀ j, j < 3740 → xv (dd (q_up X1 467 4 (zi 0)) 0) 468 j = xv X 468 j := fun j hj => by
    rw [dd_0 hD1 hj, xv_up_row _ _ _ (by omega)]; simp only [xv]; rw [hz _ _ (by omega) (by omega) (by omega)]
  refine r_aload_n (i := 0) (pc' := 45) dX12_policy_44 rfl rfl (.head _) ?_
  refine r_iconst (pc' := 46) dX12_policy_45 rfl ?_
  refine r_putI (pc' := 49) dX12_policy_46 rfl fX12_76 rfl (by first | assumption | rfl) (by omega) rfl rfl ?_
  refine r_iload_n (i := 1) (pc' := 50) dX12_policy_49 rfl rfl (.tail _ (.head _)) ?_
  refine r_if_ne (t := 55) (f := 53) dX12_policy_50 (by decide) rfl (by first | omega | exact xv_in _ _ _) (fun h50 => ?_) (fun h50 => ?_)
  · refine r_aload_n (i := 0) (pc' := 56) dX12_policy_55 rfl rfl (.head _) ?_
    refine r_iconst (pc' := 57) dX12_policy_56 rfl ?_
    refine r_V1gv (ci := 12) (pc' := 60) dX12_policy_57 rfl lX12_72 rfl (by decide) (Nat.le_of_ble_eq_true rfl) (by first | assumption | rfl) (by omega) (tX12_deedOf hm (s := 0) (by omega) hD1) (fun n57 P57 X57 Y57 e57 le57 => ?_)
    obtain ⟨hg1_57, hg2_57, hg3_57, hg4_57⟩ := e57
    have g1_57 := Eq.symm hg1_57
    have g2_57 := Eq.symm hg2_57
    have g3_57 := Eq.symm hg3_57
    have g4_57 := Eq.symm hg4_57
    clear hg1_57 hg2_57 hg3_57 hg4_57
    subst g1_57 g2_57 g3_57 g4_57
    generalize hXd : dd (q_up X1 467 4 (zi 0)) 0 = Xd at d12 d10 d71 dnow ⊢
    refine r_aload_n (i := 0) (pc' := 61) dX12_policy_60 rfl rfl (.head _) ?_
    refine r_getR (pc' := 64) dX12_policy_61 rfl fX12_3 rfl (by first | assumption | rfl) (by omega) (by assumption) ?_
    refine r_bipush (pc' := 66) dX12_policy_64 rfl (by decide) ?_
    refine r_aload_n (i := 0) (pc' := 67) dX12_policy_66 rfl rfl (.head _) ?_
    refine r_getI (pc' := 70) dX12_policy_67 rfl fX12_175 rfl (by first | assumption | rfl) (by omega) ?_
    rw [d12]
    refine r_iastore (pc' := 71) dX12_policy_70 rfl (by first | assumption | rfl) (by omega) (by omega) (by omega) (by first | decide | omega) (show Int.toNat 8 = 8 from rfl) ?_
    refine r_aload_n (i := 0) (pc' := 72) dX12_policy_71 rfl rfl (.head _) ?_
    refine r_getR (pc' := 75) dX12_policy_72 rfl fX12_3 rfl (by first | assumption | rfl) (by omega) (by assumption) ?_
    refine r_bipush (pc' := 77) dX12_policy_75 rfl (by decide) ?_
    refine r_aload_n (i := 0) (pc' := 78) dX12_policy_77 rfl rfl (.head _) ?_
    refine r_getI (pc' := 81) dX12_policy_78 rfl fX12_162 rfl (by first | assumption | rfl) (by omega) ?_
    rw [xv_up_row _ _ _ (by omega), d10]
    refine r_iastore (pc' := 82) dX12_policy_81 rfl (by first | assumption | rfl) (by omega) (by omega) (by omega) (by first | decide | omega) (show Int.toNat 9 = 9 from rfl) ?_
    refine r_iconst (pc' := 83) dX12_policy_82 rfl ?_
    refine r_istore_n (i := 2) (pc' := 84) dX12_policy_83 rfl rfl rfl (.s1 (.s1 .nil rfl rfl rfl) rfl rfl rfl) ?_
    refine r_sub (.kp (.dr (.kp .nil))) ?_
    refine lX12_policy hm (Xa := q_up (q_up Xd 468 8 (zi th)) 468 9 (zi (xv E (d + 15) 0))) (m := (xv E (d + 15) 0).toNat) (by omega) (by rw [xv_up_row _ _ _ (by omega), xv_up_row _ _ _ (by omega), d10]; omega) (th := th) (by rw [xv_up_row _ _ _ (by omega), xv_up_row _ _ _ (by omega), d12]) (fun X' hp => ?_) (xv E (d + 15) 0).toNat 0 _ (by omega) ⟨fun _ _ _ => rfl, fun q hq => absurd hq (Nat.not_lt_zero q)⟩
    have e8 : xv X' 468 8 = th := by
      have : xv X' 468 8 = xv (q_up (q_up Xd 468 8 (zi th)) 468 9 (zi (xv E (d + 15) 0))) 468 8 := congrArg Int32.toInt (hp.1 _ _ (by omega))
      rw [this, xv_up_ne _ _ (by omega), xv_up_same _ _ _ hthi]
    have e9 : xv X' 468 9 = xv E (d + 15) 0 := by
      have : xv X' 468 9 = xv (q_up (q_up Xd 468 8 (zi th)) 468 9 (zi (xv E (d + 15) 0))) 468 9 := congrArg Int32.toInt (hp.1 _ _ (by omega))
      rw [this, xv_up_same _ _ _ (by omega)]
    refine kk X' (hB.ff hAB.1 (fun q h1 h2 => hEo _ (by omega) (by omega) (by omega) (by omega)) (fun j h1 h2 h3 h4 => ?_) ⟨e9, by rw [e8, e9]; exact hth, fun i hi => ?_⟩) (bA_ff hAB (fun q h1 h2 => hEo _ (by omega) (by omega) (by omega) (by omega)) ⟨⟨hyb.1, hyb.2.1⟩, hw⟩) ⟨_, hm1, ?_⟩
    · rw [← dnow j h1]
      simp only [xv]; rw [hp.1 _ _ (by omega), q_up_ne _ _ (by omega), q_up_ne _ _ (by omega)]
    · rw [hp.2 i (by omega), xv_up_row _ _ _ (by omega), xv_up_row _ _ _ (by omega), d71]
      exact hy.2.2.2.1 i hi
    · rw [hXd]
      intro a j a1 a2 a3 a4
      rw [hp.1 _ _ (by omega), q_up_ne _ _ (by omega), q_up_ne _ _ (by omega)]
  · exfalso; omega
set_option maxHeartbeats 4000000 in
set_option maxRecDepth 100000 in
theorem tX12_policy {l : Launch} {g : q_G} {n : Nat} {P : q_P} {X : q_X} {Y : q_Y} (hm : isMod n P) {C : q_X} {b d : Nat} (hA : bA C b) (hR : RB C b (xv X 468)) (hd : d + 220 ≤ 441) (hD : 0 ≤ xv X 467 1 ∧ xv X 467 1 ≤ 8) (hS : tS C X (xv C 445 1)) : q_Met l g mX12_policy 4 [.ref (g.1 + 467)] n P X Y (q_gi (fun r' n' P' X' Y' => n' = n ∧ P' = P ∧ Y' = Y ∧ ((xv (fAll (rdBeg C d b) (d + 15)) 444 2 = -1 ∧ RB (fAll (rdBeg C d b) (d + 15)) d (xv X' 468) ∧ bA (fAll (rdBeg C d b) (d + 15)) d ∧ r' = fAllN (rdBeg C d b) (d + 15) ∧ ∃ Xm, mP X Xm (-1) ∧ rO (dd Xm 0) X') ∨ (xv (fAll (rdBeg C d b) (d + 15)) 444 2 ≠ -1 ∧ r' = -1 ∧ mP X X' (xv (fAll (rdBeg C d b) (d + 15)) 444 2))))) := by
  obtain ⟨m0, m2, m3, m8, m9, m14, m15, m16, m17, m18, m20, m22, m25, hnm9⟩ := id hm
  refine q_enter (L := [(0, .ref (g.1 + 467))]) (by decide) (Nat.le_of_ble_eq_true rfl) rfl ?_
  refine r_aload_n (i := 0) (pc' := 1) dX12_policy_0 rfl rfl (.head _) ?_
  refine r_V0gv (ci := 12) (pc' := 4) dX12_policy_1 rfl lX12_150 rfl (by decide) (Nat.le_of_ble_eq_true rfl) (by first | assumption | rfl) (by omega) (tX12_beginText hm) (fun n1 P1 X1 Y1 e1 le1 => ?_)
  obtain ⟨hg1_1, hg2_1, hg3_1, hg4_1⟩ := e1
  have g1_1 := Eq.symm hg1_1
  have g2_1 := Eq.symm hg2_1
  have g3_1 := Eq.symm hg3_1
  have g4_1 := Eq.symm hg4_1
  clear hg1_1 hg2_1 hg3_1 hg4_1
  subst g1_1 g2_1 g3_1 g4_1
  refine r_aload_n (i := 0) (pc' := 5) dX12_policy_4 rfl rfl (.head _) ?_
  refine r_iconst (pc' := 6) dX12_policy_5 rfl ?_
  refine r_putI (pc' := 9) dX12_policy_6 rfl fX12_162 rfl (by first | assumption | rfl) (by omega) rfl rfl ?_
  refine r_aload_n (i := 0) (pc' := 10) dX12_policy_9 rfl rfl (.head _) ?_
  refine r_iconst (pc' := 11) dX12_policy_10 rfl ?_
  refine r_putI (pc' := 14) dX12_policy_11 rfl fX12_165 rfl (by first | assumption | rfl) (by omega) rfl rfl ?_
  refine r_aload_n (i := 0) (pc' := 15) dX12_policy_14 rfl rfl (.head _) ?_
  refine r_iconst (pc' := 16) dX12_policy_15 rfl ?_
  refine r_putI (pc' := 19) dX12_policy_16 rfl fX12_175 rfl (by first | assumption | rfl) (by omega) rfl rfl ?_
  refine r_aload_n (i := 0) (pc' := 20) dX12_policy_19 rfl rfl (.head _) ?_
  refine r_iconst (pc' := 21) dX12_policy_20 rfl ?_
  refine r_putI (pc' := 24) dX12_policy_21 rfl fX12_178 rfl (by first | assumption | rfl) (by omega) rfl rfl ?_
  have hz2 : zO X (q_up (q_up (q_up (q_up (q_up (q_up X 467 5 (zi 0)) 467 6 (zi (-1))) 467 10 (zi 0)) 467 11 (zi 0)) 467 12 (zi 0)) 467 13 (zi 0)) := (((((zO.rfl.up (by omega)).up (by omega)).up (by omega)).up (by omega)).up (by omega)).up (by omega)
  have z4 : xv (q_up (q_up (q_up (q_up (q_up (q_up X 467 5 (zi 0)) 467 6 (zi (-1))) 467 10 (zi 0)) 467 11 (zi 0)) 467 12 (zi 0)) 467 13 (zi 0)) 467 4 = xv C 445 1 := by
    simp (disch := omega) only [xv_up_ne]; exact hS.2.2.1
  have z5 : xv (q_up (q_up (q_up (q_up (q_up (q_up X 467 5 (zi 0)) 467 6 (zi (-1))) 467 10 (zi 0)) 467 11 (zi 0)) 467 12 (zi 0)) 467 13 (zi 0)) 467 5 = 0 := by
    simp (disch := omega) only [xv_up_ne, xv_up_same]
  have z6 : xv (q_up (q_up (q_up (q_up (q_up (q_up X 467 5 (zi 0)) 467 6 (zi (-1))) 467 10 (zi 0)) 467 11 (zi 0)) 467 12 (zi 0)) 467 13 (zi 0)) 467 6 = -1 := by
    simp (disch := omega) only [xv_up_ne, xv_up_same]
  have z10 : xv (q_up (q_up (q_up (q_up (q_up (q_up X 467 5 (zi 0)) 467 6 (zi (-1))) 467 10 (zi 0)) 467 11 (zi 0)) 467 12 (zi 0)) 467 13 (zi 0)) 467 10 = 0 := by
    simp (disch := omega) only [xv_up_ne, xv_up_same]
  have z11 : xv (q_up (q_up (q_up (q_up (q_up (q_up X 467 5 (zi 0)) 467 6 (zi (-1))) 467 10 (zi 0)) 467 11 (zi 0)) 467 12 (zi 0)) 467 13 (zi 0)) 467 11 = 0 := by
    simp (disch := omega) only [xv_up_ne, xv_up_same]
  have z12 : xv (q_up (q_up (q_up (q_up (q_up (q_up X 467 5 (zi 0)) 467 6 (zi (-1))) 467 10 (zi 0)) 467 11 (zi 0)) 467 12 (zi 0)) 467 13 (zi 0)) 467 12 = 0 := by
    simp (disch := omega) only [xv_up_ne, xv_up_same]
  have z13 : xv (q_up (q_up (q_up (q_up (q_up (q_up X 467 5 (zi 0)) 467 6 (zi (-1))) 467 10 (zi 0)) 467 11 (zi 0)) 467 12 (zi 0)) 467 13 (zi 0)) 467 13 = 0 := xv_up_same _ _ _ (by omega)
  generalize q_up (q_up (q_up (q_up (q_up (q_up X 467 5 (zi 0)) 467 6 (zi (-1))) 467 10 (zi 0)) 467 11 (zi 0)) 467 12 (zi 0)) 467 13 (zi 0) = X2 at hz2 z4 z5 z6 z10 z11 z12 z13 ⊢
  obtain ⟨i1, i2, i3, i4, i5, i6⟩ := po_ini hA hd hS hz2 z5 z6 z10 z11
  have hs0 := hS.1
  have hEo : ∀ a, a ≠ 444 → a ≠ d + 15 → a ≠ d + 16 → a ≠ d + 17 → xv (fAll (rdBeg C d b) (d + 15)) a = xv (rdBeg C d b) a := fun a a1 a2 a3 a4 => fAll_o ⟨a1, a2, by omega, by omega⟩
  have hc0 := rdBeg_c (X := C) (d := d) (b := b) hA.1 (Or.inl hd)
  have hB0 : RB (rdBeg C d b) d (xv X 468) := RB_bC hR hA.1 hA.2.2.1.2 hc0
  have hA0 : bA (rdBeg C d b) d := hc0.a hA
  have f1 := fAll_1 (B := rdBeg C d b) (f := d + 15)
  have f0 := fAll_0 (B := rdBeg C d b) (f := d + 15)
  have hzz : fZ (fD0 (rdBeg C d b) (d + 15), 0, 0, 1) X2 (d + 15) := ⟨i1, i2, z12, z13, i3⟩
  refine r_aload_n (i := 0) (pc' := 25) dX12_policy_24 rfl rfl (.head _) ?_
  refine r_getI (pc' := 28) dX12_policy_25 rfl fX12_76 rfl (by first | assumption | rfl) (by omega) ?_
  rw [z4]
  by_cases hm0 : xv C 445 1 = 0
  · have f0 := f0 (fun q => by have := q.2; omega)
    rw [f0.1] at hEo ⊢
    rw [f0.2]
    refine r_if_eq (t := 38) (f := 31) dX12_policy_28 (by decide) rfl (by first | omega | exact xv_in _ _ _) (fun h28 => ?_) (fun h28 => ?_)
    · refine r_iconst (pc' := 39) dX12_policy_38 rfl ?_
      refine r_goto (t := 43) dX12_policy_39 (by decide) ?_
      refine r_istore_n (i := 1) (pc' := 44) dX12_policy_43 rfl rfl rfl (.s1 .nil rfl rfl rfl) ?_
      exact eX12_policy hm hd hB0 hA0 hEo hD (X1 := X2) (th := 0) hz2 i1 i2 (by rw [i6]; exact fun i hi => absurd hi (Nat.not_lt_zero i)) (by rw [i6]; omega) z12 (fun X' r1 r2 r3 => ⟨_, rfl, rfl, rfl, rfl, Or.inl ⟨i1.2.1, r1, r2, rfl, r3⟩⟩)
    · exfalso; omega
  · have f1 := f1 ⟨i1.2.1, by omega⟩
    rw [f1.1] at hEo ⊢
    rw [f1.2]
    refine r_if_eq (t := 38) (f := 31) dX12_policy_28 (by decide) rfl (by first | omega | exact xv_in _ _ _) (fun h28 => ?_) (fun h28 => ?_)
    · exfalso; omega
    · refine r_aload_n (i := 0) (pc' := 32) dX12_policy_31 rfl rfl (.head _) ?_
      refine r_V0gi (ci := 12) (pc' := 35) dX12_policy_32 rfl lX12_197 rfl (by decide) (Nat.le_of_ble_eq_true rfl) (by first | assumption | rfl) (by omega) (tX12_readSum (w := 500) (D := fD0 (rdBeg C d b) (d + 15)) (th := 0) (B := 0) hm (by omega) (by omega) hzz) (fun r32 n32 P32 X32 Y32 e32 le32 => ?_)
      obtain ⟨h1v, h2v, h3v, hq32⟩ := e32
      subst h1v h2v h3v
      rcases hq32 with ⟨hz32, ho32, ht32, hy32, hi32, h1232⟩ | ⟨hz32, ho32, hf32⟩
      · subst hz32
        refine r_if_eq (t := 42) (f := 38) dX12_policy_35 (by decide) rfl (by first | omega | exact xv_in _ _ _) (fun h35 => ?_) (fun h35 => ?_)
        · exfalso; omega
        · refine r_iconst (pc' := 39) dX12_policy_38 rfl ?_
          refine r_goto (t := 43) dX12_policy_39 (by decide) ?_
          refine r_istore_n (i := 1) (pc' := 44) dX12_policy_43 rfl rfl rfl (.s1 .nil rfl rfl rfl) ?_
          generalize fRun (d + 15) 500 (fD0 (rdBeg C d b) (d + 15), 0, 0, 1) = SS at ht32 hy32 hi32 h1232 hEo ⊢
          refine eX12_policy hm hd hB0 hA0 hEo hD (X1 := X32) (th := SS.2.1) (hz2.trans ho32) ht32 hy32 ?_ ?_ h1232 (fun X' r1 r2 r3 => ⟨_, rfl, rfl, rfl, rfl, Or.inl ⟨ht32.2.1, r1, r2, rfl, r3⟩⟩)
          · obtain ⟨k, m, h1, h2, h3, h4, h5, h6, h7, h8, h9, h0⟩ := hi32
            rw [h2, Int.toNat_natCast]; exact h6
          · obtain ⟨k, m, h1, h2, h3, h4, h5, h6, h7, h8, h9, h0⟩ := hi32
            rw [h2]
            by_cases e : m = 0
            · subst e; simp only [fH] at h7; omega
            · omega
      · subst hz32
        refine r_if_eq (t := 42) (f := 38) dX12_policy_35 (by decide) rfl (by first | omega | exact xv_in _ _ _) (fun h35 => ?_) (fun h35 => ?_)
        · refine r_iconst (pc' := 43) dX12_policy_42 rfl ?_
          refine r_istore_n (i := 1) (pc' := 44) dX12_policy_43 rfl rfl rfl (.s1 .nil rfl rfl rfl) ?_
          generalize fRun (d + 15) 500 (fD0 (rdBeg C d b) (d + 15), 0, 0, 1) = SS at hf32 hEo ⊢
          refine r_aload_n (i := 0) (pc' := 45) dX12_policy_44 rfl rfl (.head _) ?_
          refine r_iconst (pc' := 46) dX12_policy_45 rfl ?_
          refine r_putI (pc' := 49) dX12_policy_46 rfl fX12_76 rfl (by first | assumption | rfl) (by omega) rfl rfl ?_
          refine r_iload_n (i := 1) (pc' := 50) dX12_policy_49 rfl rfl (.tail _ (.head _)) ?_
          refine r_if_ne (t := 55) (f := 53) dX12_policy_50 (by decide) rfl (by first | omega | exact xv_in _ _ _) (fun h50 => ?_) (fun h50 => ?_)
          · exfalso; omega
          · refine r_iconst (pc' := 54) dX12_policy_53 rfl ?_
            refine r_ireturn dX12_policy_54 rfl ?_
            exact ⟨_, rfl, rfl, rfl, rfl, Or.inr ⟨hf32.1, rfl, ((hz2.trans ho32).m hf32.2)⟩⟩
        · exfalso; omega
