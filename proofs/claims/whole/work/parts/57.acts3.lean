theorem PU.k {x b n n' : Nat} {P P' : q_P} {X X' : q_X} {Y Y' : q_Y} (h : PU x b n P X Y n' P' X' Y') (hS : MS n P) (hx : x < 8) {j a : Nat} (hj : j < 10) (hjx : j ≠ x) (ha : sl P j = some a) : sl P' j = some a ∧ isBk n' P' a ∧ bEq X X' a ∧ 481 ≤ a := by
  obtain ⟨a', h1, h2, h3, h4, h5, h6, h7, h8, h9, h10, h11⟩ := h
  have hn := hS.n
  have e : sl P' j = some a := by
    unfold sl at ha ⊢
    split
    · rename_i hj8; rw [if_pos hj8] at ha; rw [h6 j hjx]; exact ha
    · rename_i hj8; rw [if_neg hj8] at ha; rw [h5 441 (by omega) (by omega)]; exact ha
  have e2 : sl P' x = some a' := by unfold sl; rw [if_pos hx]; exact h1
  obtain ⟨k1, k2, k3⟩ := h3.2 j hj a e
  have k4 := k3 x (by omega) (by omega) a' e2
  obtain ⟨m1, m2, -⟩ := hS.2 j hj a ha
  have m3 : a + 220 ≤ n := m2.2.2.2.2.2.2.2.2.2.2.1
  refine ⟨e, k2, fun d hd => ?_, k1⟩
  funext q
  exact h8 _ _ (by omega) (by omega) (by omega)
/-- what a keep does -/
def KE (k b n : Nat) (P : q_P) (X : q_X) (Y : q_Y) (n' : Nat) (P' : q_P) (X' : q_X) (Y' : q_Y) : Prop :=
  ∃ a, P' 441 k = some a ∧ (481 ≤ a ∧ a + 220 ≤ n') ∧ MS n' P' ∧ n ≤ n' ∧ (∀ c, c < n → c ≠ 441 → P' c = P c) ∧ (∀ j, j ≠ k → P' 441 j = P 441 j) ∧ (∀ c, c < n → Y' c = Y c) ∧
  (∀ c j, c < n → ¬ (a ≤ c ∧ c < a + 220) → X' c j = X c j) ∧ ∀ d j, D_bk (xv X b 10).toNat d j → X' (a + d) j = X (b + d) j
def b_feed (X : q_X) (a b c d e : Int) : q_X := b_word (b_word (b_word (b_word (b_word X 445 500 a) 445 500 b) 445 500 c) 445 500 d) 445 500 e
set_option maxHeartbeats 4000000 in
set_option maxRecDepth 100000 in
theorem tX11_undo {l : Launch} {g : q_G} {n : Nat} {P : q_P} {X : q_X} {Y : q_Y} {b : Nat} (hF : isFace n P b) (hb : isBk n P b) (hO : bOk X b) {x : Nat} (hH : isHi n P X x) (hb1 : 1 ≤ b ∧ b + 220 ≤ 441) (hpast : 1 ≤ xv X 442 2 → ∃ a, P 443 (((x : Int) + 7) % 8).toNat = some a ∧ bOk X a) : q_Met l g mX11_undo 3 [.ref (g.1 + 0)] n P X Y (q_gi (fun r' n' P' X' Y' => if xv X 442 2 < 1 then NO n P X Y r' n' P' X' Y' else ∃ a, P 443 (((x : Int) + 7) % 8).toNat = some a ∧ n' = n ∧ P' = P ∧ Y' = Y ∧ X' = q_blk (q_up (q_up X 442 2 (zi (xv X 442 2 - 1))) 442 1 (zi (((x : Int) + 7) % 8))) b a (D_bk (xv X a 10).toNat) ∧ r' = xv X 442 2 - 1)) := by
  obtain ⟨f0, f2, f3, f4, f5, f6, f7, f8, hn0⟩ := id hF
  obtain ⟨b0, b1, b2, b3, q7, q8, q9, q11, q12, q13, hn, hpro, hmar, hfor, hcs⟩ := id hb
  obtain ⟨o0, o1, o2, o3, o4, o5, o6, o10, oc, op0, opz, opi, om0, omi, olim⟩ := id hO
  obtain ⟨h442, hS, hx, hx1, hz0, hz8⟩ := id hH
  have hn9 := hS.n
  refine q_enter (L := [(0, .ref (g.1 + 0))]) (by decide) (Nat.le_of_ble_eq_true rfl) rfl ?_
  refine r_aload_n (i := 0) (pc' := 1) dX11_undo_0 rfl rfl (.head _) ?_
  refine r_getR (pc' := 4) dX11_undo_1 rfl fX11_26 rfl (by first | assumption | rfl) (by omega) (by assumption) ?_
  by_cases hs : xv X 442 2 < 1
  · refine r_V0gr (ci := 6) (pc' := 7) dX11_undo_4 rfl lX11_433 rfl (by decide) (Nat.le_of_ble_eq_true rfl) (by first | assumption | rfl) (by omega) (tX6_pop (x := x) h442 (by omega) hx hx1 (by omega) (fun q => by obtain ⟨a, h, -⟩ := hpast q; exact ⟨a, h⟩)) (fun r4 n4 P4 X4 Y4 e4 le4 => ?_)
    obtain ⟨rfl, rfl, rfl, e⟩ := e4
    rw [if_pos hs] at e
    obtain ⟨rfl, rfl⟩ := e
    change q_Tr _ _ _ _ _ _ _ (.null :: _) _ _ _ _
    refine r_astoreN_n (i := 1) (pc' := 8) dX11_undo_7 rfl rfl rfl (.s1 .nil rfl rfl rfl) ?_
    refine r_aloadN_n (i := 1) (pc' := 9) dX11_undo_8 rfl rfl (.tail _ (.head _)) ?_
    refine r_ifnonnullN (pc' := 12) dX11_undo_9 rfl ?_
    refine r_iconst (pc' := 13) dX11_undo_12 rfl ?_
    refine r_ireturn dX11_undo_13 rfl ?_
    refine ⟨_, rfl, ?_⟩
    dsimp only
    rw [if_pos hs]
    exact ⟨rfl, rfl, rfl, rfl, rfl⟩
  · obtain ⟨a, ha, hOa⟩ := hpast (by omega)
    obtain ⟨ha1, hba, -⟩ := hS.2 (((x : Int) + 7) % 8).toNat (by omega) a (by unfold sl; rw [if_pos (by omega)]; exact ha)
    have ha2 : a + 220 ≤ n := hba.2.2.2.2.2.2.2.2.2.2.1
    refine r_V0gr (ci := 6) (pc' := 7) dX11_undo_4 rfl lX11_433 rfl (by decide) (Nat.le_of_ble_eq_true rfl) (by first | assumption | rfl) (by omega) (tX6_pop (x := x) h442 (by omega) hx hx1 (by omega) (fun q => by obtain ⟨a, h, -⟩ := hpast q; exact ⟨a, h⟩)) (fun r4 n4 P4 X4 Y4 e4 le4 => ?_)
    obtain ⟨rfl, rfl, rfl, e⟩ := e4
    rw [if_neg hs] at e
    obtain ⟨rfl, rfl⟩ := e
    rw [ha]
    change q_Tr _ _ _ _ _ _ _ (.ref (g.1 + a) :: _) _ _ _ _
    generalize hX0 : q_up (q_up X 442 2 (zi (xv X 442 2 - 1))) 442 1 (zi (((x : Int) + 7) % 8)) = X0
    have hxa : bEq X X0 a := by rw [← hX0]; exact (bEq.rfl.up (by omega)).up (by omega)
    have hO0 := bOk_ag hxa.ag hOa
    have hsz : xv X0 442 2 = xv X 442 2 - 1 := by rw [← hX0, xv_up_ne _ _ (by omega), xv_up_same _ _ _ (by omega)]
    have hsb : xv (q_blk X0 b a (D_bk (xv X0 a 10).toNat)) 442 2 = xv X 442 2 - 1 := by rw [← hsz]; exact congrArg Int32.toInt (blk_out _ _ _ (fun q => by have := D_bk_lt (by have := hO0.2.2.2.2.2.2.2.1; omega) q.2; omega))
    refine r_astore_n (i := 1) (pc' := 8) dX11_undo_7 rfl rfl rfl (.s1 .nil rfl rfl rfl) ?_
    refine r_aload_n (i := 1) (pc' := 9) dX11_undo_8 rfl rfl (.tail _ (.head _)) ?_
    refine r_ifnonnull (t := 14) dX11_undo_9 (by decide) ?_
    refine r_aload_n (i := 0) (pc' := 15) dX11_undo_14 rfl rfl (.head _) ?_
    refine r_getR (pc' := 18) dX11_undo_15 rfl fX11_10 rfl (by first | assumption | rfl) (by omega) (by assumption) ?_
    refine r_aload_n (i := 1) (pc' := 19) dX11_undo_18 rfl rfl (.tail _ (.head _)) ?_
    refine r_V1gv (ci := 1) (pc' := 22) dX11_undo_19 rfl lX11_86 rfl (by decide) (Nat.le_of_ble_eq_true rfl) (by first | assumption | rfl) (by omega) (tX1_copyFrom hb hba hO0 (Or.inl (by omega))) (fun n19 P19 X19 Y19 e19 le19 => ?_)
    obtain ⟨rfl, rfl, rfl, rfl⟩ := e19
    refine r_aload_n (i := 0) (pc' := 23) dX11_undo_22 rfl rfl (.head _) ?_
    refine r_getR (pc' := 26) dX11_undo_23 rfl fX11_26 rfl (by first | assumption | rfl) (by omega) (by assumption) ?_
    refine r_getI (pc' := 29) dX11_undo_26 rfl fX11_157 rfl (by first | assumption | rfl) (by omega) ?_
    rw [hsb]
    refine r_ireturn dX11_undo_29 rfl ?_
    refine ⟨_, rfl, ?_⟩
    dsimp only
    rw [if_neg hs]
    refine ⟨a, by first | rfl | exact ha, rfl, rfl, rfl, ?_, rfl⟩
    try rw [hX0]
    rw [hxa.v0]
set_option maxHeartbeats 4000000 in
set_option maxRecDepth 100000 in
theorem tX11_keep {l : Launch} {g : q_G} {n : Nat} {P : q_P} {X : q_X} {Y : q_Y} {b : Nat} (hF : isFace n P b) (hb : isBk n P b) (hO : bOk X b) {x : Nat} (hH : isHi n P X x) (hb1 : 1 ≤ b ∧ b + 220 ≤ 441) {k : Int} (hk : q_in k) : q_Met l g mX11_keep 3 [.ref (g.1 + 0), .int (zi k)] n P X Y (q_gi (fun r' n' P' X' Y' => if 0 ≤ k ∧ k < 2 then KE k.toNat b n P X Y n' P' X' Y' ∧ r' = 1 else n' = n ∧ P' = P ∧ Y' = Y ∧ X' = X ∧ r' = 0)) := by
  obtain ⟨f0, f2, f3, f4, f5, f6, f7, f8, hn0⟩ := id hF
  obtain ⟨b0, b1, b2, b3, q7, q8, q9, q11, q12, q13, hn, hpro, hmar, hfor, hcs⟩ := id hb
  obtain ⟨o0, o1, o2, o3, o4, o5, o6, o10, oc, op0, opz, opi, om0, omi, olim⟩ := id hO
  obtain ⟨h442, hS, hx, hx1, hz0, hz8⟩ := id hH
  have hn9 := hS.n
  have hpl := hS.pl
  refine q_enter (L := [(0, .ref (g.1 + 0)), (1, .int (zi k))]) (by decide) (Nat.le_of_ble_eq_true rfl) rfl ?_
  refine r_iload_n (i := 1) (pc' := 1) dX11_keep_0 rfl rfl (.tail _ (.head _)) ?_
  refine r_if_lt (t := 9) (f := 4) dX11_keep_1 (by decide) rfl (by first | omega | exact xv_in _ _ _ | assumption) (fun h1 => ?_) (fun h1 => ?_)
  · refine r_iconst (pc' := 10) dX11_keep_9 rfl ?_
    refine r_zreturn dX11_keep_10 rfl (by decide) ?_
    refine ⟨_, rfl, ?_⟩
    dsimp only
    rw [if_neg (by omega)]
    exact ⟨rfl, rfl, rfl, rfl, rfl⟩
  · refine r_iload_n (i := 1) (pc' := 5) dX11_keep_4 rfl rfl (.tail _ (.head _)) ?_
    refine r_iconst (pc' := 6) dX11_keep_5 rfl ?_
    refine r_icmp_lt (t := 11) (f := 9) dX11_keep_6 (by decide) rfl (by first | omega | exact xv_in _ _ _ | assumption) (by first | omega | exact xv_in _ _ _ | assumption) (fun h6 => ?_) (fun h6 => ?_)
    · refine r_aload_n (i := 0) (pc' := 12) dX11_keep_11 rfl rfl (.head _) ?_
      refine r_getR (pc' := 15) dX11_keep_12 rfl fX11_19 rfl (by first | assumption | rfl) (by omega) (by assumption) ?_
      refine r_iload_n (i := 1) (pc' := 16) dX11_keep_15 rfl rfl (.tail _ (.head _)) ?_
      rcases hP : P 441 k.toNat with _ | a
      · have hsn : sl P (8 + k.toNat) = none := by unfold sl; rw [if_neg (by omega), show 8 + k.toNat - 8 = k.toNat by omega]; exact hP
        have hq0 : q_sh n = (1, 14) := hpl 0 (by omega)
        refine r_aaload (pc' := 17) (v := .null) dX11_keep_16 rfl (by first | assumption | rfl) (by decide) (by omega) (by omega) (by omega) (by first | decide | omega) rfl (by rw [hP]; rfl) ?_
        refine r_astoreN_n (i := 2) (pc' := 18) dX11_keep_17 rfl rfl rfl (.s1 (.s1 .nil rfl rfl rfl) rfl rfl rfl) ?_
        refine r_aloadN_n (i := 2) (pc' := 19) dX11_keep_18 rfl rfl (.tail _ (.tail _ (.head _))) ?_
        refine r_ifnonnullN (pc' := 22) dX11_keep_19 rfl ?_
        refine r_new (pc' := 25) dX11_keep_22 rfl nX11_7 (hpl 0 (by omega)) ?_
        refine r_dup (pc' := 26) dX11_keep_25 rfl rfl ?_
        refine r_I0gv (pc' := 29) dX11_keep_26 rfl lX11_9 (by decide) (Nat.le_of_ble_eq_true rfl) (tX1_init (b := n) hpl rfl (by funext j; exact q_clr_same _ _ _ _)) (fun n26 P26 X26 Y26 e26 le26 => ?_)
        obtain ⟨rfl, nag, ib, nb⟩ := e26
        have hP1 : ∀ c, c < n → P26 c = P c := fun c hc => by rw [(nag c hc).1]; funext j; exact q_clr_ne _ _ (by omega)
        have hX1 : ∀ c, c < n → X26 c = X c := fun c hc => by rw [(nag c hc).2.1]; funext j; exact q_clr_ne _ _ (by omega)
        have hY1 : ∀ c, c < n → Y26 c = Y c := fun c hc => by rw [(nag c hc).2.2]; funext j; exact q_clr_ne _ _ (by omega)
        have hp0 : P26 0 2 = some 441 := by rw [hP1 0 (by omega)]; exact f2
        have hp00 : q_up P26 441 k.toNat (some n) 0 0 = some b := by rw [q_up_ne _ _ (by omega), hP1 0 (by omega)]; exact f0
        have hbe : bEq X X26 b := fun d hd => hX1 _ (by omega)
        have hO1 := bOk_ag hbe.ag hO
        have hib : isBk (n + 220) (q_up P26 441 k.toNat (some n)) n := isBk_of ib (Nat.le_refl _) (fun d hd => by funext j; exact q_up_ne _ _ (by omega))
        have hbb : isBk (n + 220) (q_up P26 441 k.toNat (some n)) b := isBk_of hb (by omega) (fun d hd => by rw [← hP1 _ (show b + d < n by omega)]; funext j; exact q_up_ne _ _ (by omega))
        refine r_astore_n (i := 2) (pc' := 30) dX11_keep_29 rfl rfl rfl (.s1 (.s1 (.here .nil) rfl rfl rfl) rfl rfl rfl) ?_
        refine r_aload_n (i := 0) (pc' := 31) dX11_keep_30 rfl rfl (.head _) ?_
        refine r_getR (pc' := 34) dX11_keep_31 rfl fX11_19 rfl (by first | assumption | rfl) (by omega) (by assumption) ?_
        refine r_iload_n (i := 1) (pc' := 35) dX11_keep_34 rfl rfl (.tail _ (.head _)) ?_
        refine r_aload_n (i := 2) (pc' := 36) dX11_keep_35 rfl rfl (.tail _ (.tail _ (.head _))) ?_
        refine r_aastB (pc' := 37) dX11_keep_36 rfl (by first | assumption | rfl) (by omega) (by omega) (by omega) (by first | decide | omega) rfl (hpl 0 (by omega)) (by omega) ?_
        refine r_aload_n (i := 2) (pc' := 38) dX11_keep_37 rfl rfl (.tail _ (.tail _ (.head _))) ?_
        refine r_aload_n (i := 0) (pc' := 39) dX11_keep_38 rfl rfl (.head _) ?_
        refine r_getR (pc' := 42) dX11_keep_39 rfl fX11_10 rfl (by first | assumption | rfl) (by omega) (by assumption) ?_
        refine r_V1gv (ci := 1) (pc' := 45) dX11_keep_42 rfl lX11_86 rfl (by decide) (Nat.le_of_ble_eq_true rfl) (by first | assumption | rfl) (by omega) (tX1_copyFrom hib hbb hO1 (Or.inr (by omega))) (fun n42 P42 X42 Y42 e42 le42 => ?_)
        obtain ⟨rfl, rfl, rfl, rfl⟩ := e42
        have hbl : ∀ c j, c < n → q_blk X26 n b (D_bk (xv X26 b 10).toNat) c j = X c j := fun c j hc => by rw [blk_out _ _ _ (by omega), hX1 c hc]
        refine r_iconst (pc' := 46) dX11_keep_45 rfl ?_
        refine r_zreturn dX11_keep_46 rfl (by decide) ?_
        have e10 : (xv X26 b 10).toNat = (xv X b 10).toNat := congrArg (fun r : Nat → Int32 => (r 10).toInt.toNat) (hbe 0 (by omega))
        refine ⟨_, rfl, ?_⟩
        dsimp only
        rw [if_pos (by omega)]
        refine ⟨⟨n, q_up_same _ _ _ _, ⟨by omega, by omega⟩, ?_, by omega, fun c c1 c2 => ?_, fun j hj => ?_, fun c c1 => hY1 c c1, fun c j c1 c2 => hbl c j c1, fun d j hd => ?_⟩, rfl⟩
        · refine hS.add (x := 8 + k.toNat) (by omega) hsn ?_ (fun i hi => ?_) (fun c c1 c2 c3 => ?_) hib
          · unfold sl; rw [if_neg (by omega), show 8 + k.toNat - 8 = k.toNat by omega, q_up_same]
          · unfold sl
            split
            · rw [q_up_ne _ _ (by omega), hP1 443 (by omega)]
            · rw [q_up_ne _ _ (by omega), hP1 441 (by omega)]
          · rw [← hP1 c c1]; funext j; exact q_up_ne _ _ (by omega)
        · rw [← hP1 c c1]; funext j; exact q_up_ne _ _ (by omega)
        · rw [q_up_ne _ _ (by omega), hP1 441 (by omega)]
        · rw [blk_in _ _ _ (by rw [e10]; exact hd)]
          have hdl := D_bk_lt (by omega) hd
          rw [hX1 _ (by omega)]
      · obtain ⟨ha1, hba, -⟩ := hS.2 (8 + k.toNat) (by omega) a (by unfold sl; rw [if_neg (by omega), show 8 + k.toNat - 8 = k.toNat by omega]; exact hP)
        have ha2 : a + 220 ≤ n := hba.2.2.2.2.2.2.2.2.2.2.1
        have hsa := hba.1
        refine r_aaload (pc' := 17) (v := .ref (g.1 + a)) dX11_keep_16 rfl (by first | assumption | rfl) (by decide) (by omega) (by omega) (by omega) (by first | decide | omega) rfl (by rw [hP]; rfl) ?_
        refine r_astore_n (i := 2) (pc' := 18) dX11_keep_17 rfl rfl rfl (.s1 (.s1 .nil rfl rfl rfl) rfl rfl rfl) ?_
        refine r_aload_n (i := 2) (pc' := 19) dX11_keep_18 rfl rfl (.tail _ (.tail _ (.head _))) ?_
        refine r_ifnonnull (t := 37) dX11_keep_19 (by decide) ?_
        refine r_aload_n (i := 2) (pc' := 38) dX11_keep_37 rfl rfl (.tail _ (.tail _ (.head _))) ?_
        refine r_aload_n (i := 0) (pc' := 39) dX11_keep_38 rfl rfl (.head _) ?_
        refine r_getR (pc' := 42) dX11_keep_39 rfl fX11_10 rfl (by first | assumption | rfl) (by omega) (by assumption) ?_
        refine r_V1gv (ci := 1) (pc' := 45) dX11_keep_42 rfl lX11_86 rfl (by decide) (Nat.le_of_ble_eq_true rfl) (by first | assumption | rfl) (by omega) (tX1_copyFrom hba hb hO (Or.inr (by omega))) (fun n42 P42 X42 Y42 e42 le42 => ?_)
        obtain ⟨rfl, rfl, rfl, rfl⟩ := e42
        refine r_iconst (pc' := 46) dX11_keep_45 rfl ?_
        refine r_zreturn dX11_keep_46 rfl (by decide) ?_
        refine ⟨_, rfl, ?_⟩
        dsimp only
        rw [if_pos (by omega)]
        refine ⟨⟨a, hP, ⟨ha1, ha2⟩, hS, Nat.le_refl _, fun _ _ _ => rfl, fun _ _ => rfl, fun _ _ => rfl, fun c j c1 c2 => blk_out _ _ _ (fun q => by have := D_bk_lt (by omega) q.2; omega), fun d j hd => blk_in _ _ _ hd⟩, rfl⟩
    · refine r_iconst (pc' := 10) dX11_keep_9 rfl ?_
      refine r_zreturn dX11_keep_10 rfl (by decide) ?_
      refine ⟨_, rfl, ?_⟩
      dsimp only
      rw [if_neg (by omega)]
      exact ⟨rfl, rfl, rfl, rfl, rfl⟩
set_option maxHeartbeats 4000000 in
set_option maxRecDepth 100000 in
theorem tX11_restore {l : Launch} {g : q_G} {n : Nat} {P : q_P} {X : q_X} {Y : q_Y} {b : Nat} (hF : isFace n P b) (hb : isBk n P b) (hO : bOk X b) {x : Nat} (hH : isHi n P X x) (hb1 : 1 ≤ b ∧ b + 220 ≤ 441) {k : Int} (hk : q_in k) (hkept : ∀ a, P 441 k.toNat = some a → bOk X a) : q_Met l g mX11_restore 4 [.ref (g.1 + 0), .int (zi k)] n P X Y (q_gi (fun r' n' P' X' Y' => if ¬ (0 ≤ k ∧ k < 2) ∨ P 441 k.toNat = none then n' = n ∧ P' = P ∧ Y' = Y ∧ X' = X ∧ r' = 0 else ∃ a X1, P 441 k.toNat = some a ∧ PU x b n P X Y n' P' X1 Y' ∧ X' = q_blk X1 b a (D_bk (xv X1 a 10).toNat) ∧ r' = 1)) := by
  obtain ⟨f0, f2, f3, f4, f5, f6, f7, f8, hn0⟩ := id hF
  obtain ⟨b0, b1, b2, b3, q7, q8, q9, q11, q12, q13, hn, hpro, hmar, hfor, hcs⟩ := id hb
  obtain ⟨o0, o1, o2, o3, o4, o5, o6, o10, oc, op0, opz, opi, om0, omi, olim⟩ := id hO
  obtain ⟨h442, hS, hx, hx1, hz0, hz8⟩ := id hH
  have hn9 := hS.n
  have hbe0 : bEq X X b := bEq.rfl
  have hO0 := hO
  have hx10 := hx1
  have hz10 : 0 ≤ xv X 442 2 ∧ xv X 442 2 ≤ 8 := by omega
  refine q_enter (L := [(0, .ref (g.1 + 0)), (1, .int (zi k))]) (by decide) (Nat.le_of_ble_eq_true rfl) rfl ?_
  refine r_iload_n (i := 1) (pc' := 1) dX11_restore_0 rfl rfl (.tail _ (.head _)) ?_
  refine r_if_lt (t := 9) (f := 4) dX11_restore_1 (by decide) rfl (by first | omega | exact xv_in _ _ _ | assumption) (fun h1 => ?_) (fun h1 => ?_)
  · refine r_iconst (pc' := 10) dX11_restore_9 rfl ?_
    refine r_zreturn dX11_restore_10 rfl (by decide) ?_
    refine ⟨_, rfl, ?_⟩
    dsimp only
    rw [if_pos (Or.inl (by omega))]
    exact ⟨rfl, rfl, rfl, rfl, rfl⟩
  · refine r_iload_n (i := 1) (pc' := 5) dX11_restore_4 rfl rfl (.tail _ (.head _)) ?_
    refine r_iconst (pc' := 6) dX11_restore_5 rfl ?_
    refine r_icmp_lt (t := 11) (f := 9) dX11_restore_6 (by decide) rfl (by first | omega | exact xv_in _ _ _ | assumption) (by first | omega | exact xv_in _ _ _ | assumption) (fun h6 => ?_) (fun h6 => ?_)
    · refine r_aload_n (i := 0) (pc' := 12) dX11_restore_11 rfl rfl (.head _) ?_
      refine r_getR (pc' := 15) dX11_restore_12 rfl fX11_19 rfl (by first | assumption | rfl) (by omega) (by assumption) ?_
      refine r_iload_n (i := 1) (pc' := 16) dX11_restore_15 rfl rfl (.tail _ (.head _)) ?_
      rcases hP : P 441 k.toNat with _ | a
      · refine r_aaload (pc' := 17) (v := .null) dX11_restore_16 rfl (by first | assumption | rfl) (by decide) (by omega) (by omega) (by omega) (by first | decide | omega) rfl (by rw [hP]; rfl) ?_
        refine r_astoreN_n (i := 2) (pc' := 18) dX11_restore_17 rfl rfl rfl (.s1 (.s1 .nil rfl rfl rfl) rfl rfl rfl) ?_
        refine r_aloadN_n (i := 2) (pc' := 19) dX11_restore_18 rfl rfl (.tail _ (.tail _ (.head _))) ?_
        refine r_ifnonnullN (pc' := 22) dX11_restore_19 rfl ?_
        refine r_iconst (pc' := 23) dX11_restore_22 rfl ?_
        refine r_zreturn dX11_restore_23 rfl (by decide) ?_
        refine ⟨_, rfl, ?_⟩
        dsimp only
        rw [if_pos (Or.inr rfl)]
        exact ⟨rfl, rfl, rfl, rfl, rfl⟩
      · have hsl : sl P (8 + k.toNat) = some a := by unfold sl; rw [if_neg (by omega), show 8 + k.toNat - 8 = k.toNat by omega]; exact hP
        obtain ⟨ha1, hba, -⟩ := hS.2 (8 + k.toNat) (by omega) a hsl
        have ha2 : a + 220 ≤ n := hba.2.2.2.2.2.2.2.2.2.2.1
        have hsa := hba.1
        refine r_aaload (pc' := 17) (v := .ref (g.1 + a)) dX11_restore_16 rfl (by first | assumption | rfl) (by decide) (by omega) (by omega) (by omega) (by first | decide | omega) rfl (by rw [hP]; rfl) ?_
        refine r_astore_n (i := 2) (pc' := 18) dX11_restore_17 rfl rfl rfl (.s1 (.s1 .nil rfl rfl rfl) rfl rfl rfl) ?_
        refine r_aload_n (i := 2) (pc' := 19) dX11_restore_18 rfl rfl (.tail _ (.tail _ (.head _))) ?_
        refine r_ifnonnull (t := 24) dX11_restore_19 (by decide) ?_
        refine r_aload_n (i := 0) (pc' := 25) dX11_restore_24 rfl rfl (.head _) ?_
        refine r_getR (pc' := 28) dX11_restore_25 rfl fX11_26 rfl (by first | assumption | rfl) (by omega) (by assumption) ?_
        refine r_aload_n (i := 0) (pc' := 29) dX11_restore_28 rfl rfl (.head _) ?_
        refine r_getR (pc' := 32) dX11_restore_29 rfl fX11_10 rfl (by first | assumption | rfl) (by omega) (by assumption) ?_
        refine r_V1gv (ci := 6) (pc' := 35) dX11_restore_32 rfl lX11_247 rfl (by decide) (Nat.le_of_ble_eq_true rfl) (by first | assumption | rfl) (by omega) (tX6_push (x := x) h442 hS hb hO0 (by omega) hx hx10 hz10) (fun n32 P32 X32 Y32 e32 le32 => ?_)
        have hF1 := e32.face hF
        have hb1' := e32.b hb (by omega)
        have hbe1 := e32.e (by omega) (b2 := b) (by omega)
        have hO1 := bOk_ag hbe1.ag hO0
        have hbe := hbe0.trans hbe1
        have hnn := e32.n
        obtain ⟨g0', g2', g3', g4', g5', g6', g7', g8', hn1⟩ := id hF1
        obtain ⟨-, -, -, -, q7', q8', q9', q11', q12', q13', hnb', hpro', hmar', hfor', hcs'⟩ := id hb1'
        obtain ⟨-, hba', hea, -⟩ := e32.k hS hx (j := 8 + k.toNat) (by omega) (by omega) hsl
        have hOa := bOk_ag hea.ag (hkept a hP)
        refine r_aload_n (i := 0) (pc' := 36) dX11_restore_35 rfl rfl (.head _) ?_
        refine r_getR (pc' := 39) dX11_restore_36 rfl fX11_10 rfl (by first | assumption | rfl) (by omega) (by assumption) ?_
        refine r_aload_n (i := 2) (pc' := 40) dX11_restore_39 rfl rfl (.tail _ (.tail _ (.head _))) ?_
        refine r_V1gv (ci := 1) (pc' := 43) dX11_restore_40 rfl lX11_86 rfl (by decide) (Nat.le_of_ble_eq_true rfl) (by first | assumption | rfl) (by omega) (tX1_copyFrom hb1' hba' hOa (Or.inl (by omega))) (fun n40 P40 X40 Y40 e40 le40 => ?_)
        obtain ⟨rfl, rfl, rfl, rfl⟩ := e40
        refine r_iconst (pc' := 44) dX11_restore_43 rfl ?_
        refine r_zreturn dX11_restore_44 rfl (by decide) ?_
        refine ⟨_, rfl, ?_⟩
        dsimp only
        rw [if_neg (fun q => q.elim (fun q => q (by omega)) (fun q => by cases q))]
        exact ⟨a, X32, rfl, e32, rfl, rfl⟩
    · refine r_iconst (pc' := 10) dX11_restore_9 rfl ?_
      refine r_zreturn dX11_restore_10 rfl (by decide) ?_
      refine ⟨_, rfl, ?_⟩
      dsimp only
      rw [if_pos (Or.inl (by omega))]
      exact ⟨rfl, rfl, rfl, rfl, rfl⟩
set_option maxHeartbeats 4000000 in
set_option maxRecDepth 100000 in
theorem tX11_feed {l : Launch} {g : q_G} {n : Nat} {P : q_P} {X : q_X} {Y : q_Y} {b : Nat} (hF : isFace n P b) (hb : isBk n P b) (hO : bOk X b) (hr : isRd n P) {a1 a2 a3 a4 a5 : Int} : q_Met l g mX11_feed 2 [.ref (g.1 + 0), .int (zi a1), .int (zi a2), .int (zi a3), .int (zi a4), .int (zi a5)] n P X Y (q_gi (fun r' n' P' X' Y' => n' = n ∧ P' = P ∧ Y' = Y ∧ X' = (if xv X 445 1 ≤ 480 then b_feed X a1 a2 a3 a4 a5 else X) ∧ r' = if xv X 445 1 ≤ 480 then xv (b_feed X a1 a2 a3 a4 a5) 445 1 else -1)) := by
  obtain ⟨f0, f2, f3, f4, f5, f6, f7, f8, hn0⟩ := id hF
  obtain ⟨b0, b1, b2, b3, q7, q8, q9, q11, q12, q13, hn, hpro, hmar, hfor, hcs⟩ := id hb
  obtain ⟨o0, o1, o2, o3, o4, o5, o6, o10, oc, op0, opz, opi, om0, omi, olim⟩ := id hO
  obtain ⟨r0, r1, hnr⟩ := id hr
  have hby := hr.b
  refine q_enter (L := [(0, .ref (g.1 + 0)), (1, .int (zi a1)), (2, .int (zi a2)), (3, .int (zi a3)), (4, .int (zi a4)), (5, .int (zi a5))]) (by decide) (Nat.le_of_ble_eq_true rfl) rfl ?_
  refine r_aload_n (i := 0) (pc' := 1) dX11_feed_0 rfl rfl (.head _) ?_
  refine r_getR (pc' := 4) dX11_feed_1 rfl fX11_33 rfl (by first | assumption | rfl) (by omega) (by assumption) ?_
  refine r_getR (pc' := 7) dX11_feed_4 rfl fX11_77 rfl (by first | assumption | rfl) (by omega) (by assumption) ?_
  refine r_astore (pc' := 9) dX11_feed_7 rfl rfl (.s1 (.s1 (.s1 (.s1 (.s1 (.s1 .nil rfl rfl rfl) rfl rfl rfl) rfl rfl rfl) rfl rfl rfl) rfl rfl rfl) rfl rfl rfl) ?_
  refine r_aload (pc' := 11) dX11_feed_9 rfl (.tail _ (.tail _ (.tail _ (.tail _ (.tail _ (.tail _ (.head _))))))) ?_
  refine r_getI (pc' := 14) dX11_feed_11 rfl fX11_80 rfl (by first | assumption | rfl) (by omega) ?_
  refine r_sipush (pc' := 17) dX11_feed_14 rfl (by decide) ?_
  refine r_icmp_le (t := 22) (f := 20) dX11_feed_17 (by decide) rfl (by first | omega | exact xv_in _ _ _ | assumption) (by first | omega | exact xv_in _ _ _ | assumption) (fun h17 => ?_) (fun h17 => ?_)
  · refine r_aload (pc' := 24) dX11_feed_22 rfl (.tail _ (.tail _ (.tail _ (.tail _ (.tail _ (.tail _ (.head _))))))) ?_
    refine r_iload_n (i := 1) (pc' := 25) dX11_feed_24 rfl rfl (.tail _ (.head _)) ?_
    refine r_V1gv (ci := 2) (pc' := 28) dX11_feed_25 rfl lX11_83 rfl (by decide) (Nat.le_of_ble_eq_true rfl) (by first | assumption | rfl) (by omega) (tX2_addWord hby) (fun n25 P25 X25 Y25 e25 le25 => ?_)
    obtain ⟨h125, h225, h325, hw25⟩ := e25
    subst h125 h225 h325
    refine r_aload (pc' := 30) dX11_feed_28 rfl (.tail _ (.tail _ (.tail _ (.tail _ (.tail _ (.tail _ (.head _))))))) ?_
    refine r_iload_n (i := 2) (pc' := 31) dX11_feed_30 rfl rfl (.tail _ (.tail _ (.head _))) ?_
    refine r_V1gv (ci := 2) (pc' := 34) dX11_feed_31 rfl lX11_83 rfl (by decide) (Nat.le_of_ble_eq_true rfl) (by first | assumption | rfl) (by omega) (tX2_addWord hby) (fun n31 P31 X31 Y31 e31 le31 => ?_)
    obtain ⟨h131, h231, h331, hw31⟩ := e31
    subst h131 h231 h331
    refine r_aload (pc' := 36) dX11_feed_34 rfl (.tail _ (.tail _ (.tail _ (.tail _ (.tail _ (.tail _ (.head _))))))) ?_
    refine r_iload_n (i := 3) (pc' := 37) dX11_feed_36 rfl rfl (.tail _ (.tail _ (.tail _ (.head _)))) ?_
    refine r_V1gv (ci := 2) (pc' := 40) dX11_feed_37 rfl lX11_83 rfl (by decide) (Nat.le_of_ble_eq_true rfl) (by first | assumption | rfl) (by omega) (tX2_addWord hby) (fun n37 P37 X37 Y37 e37 le37 => ?_)
    obtain ⟨h137, h237, h337, hw37⟩ := e37
    subst h137 h237 h337
    refine r_aload (pc' := 42) dX11_feed_40 rfl (.tail _ (.tail _ (.tail _ (.tail _ (.tail _ (.tail _ (.head _))))))) ?_
    refine r_iload (pc' := 44) dX11_feed_42 rfl (.tail _ (.tail _ (.tail _ (.tail _ (.head _))))) ?_
    refine r_V1gv (ci := 2) (pc' := 47) dX11_feed_44 rfl lX11_83 rfl (by decide) (Nat.le_of_ble_eq_true rfl) (by first | assumption | rfl) (by omega) (tX2_addWord hby) (fun n44 P44 X44 Y44 e44 le44 => ?_)
    obtain ⟨h144, h244, h344, hw44⟩ := e44
    subst h144 h244 h344
    refine r_aload (pc' := 49) dX11_feed_47 rfl (.tail _ (.tail _ (.tail _ (.tail _ (.tail _ (.tail _ (.head _))))))) ?_
    refine r_iload (pc' := 51) dX11_feed_49 rfl (.tail _ (.tail _ (.tail _ (.tail _ (.tail _ (.head _)))))) ?_
    refine r_V1gv (ci := 2) (pc' := 54) dX11_feed_51 rfl lX11_83 rfl (by decide) (Nat.le_of_ble_eq_true rfl) (by first | assumption | rfl) (by omega) (tX2_addWord hby) (fun n51 P51 X51 Y51 e51 le51 => ?_)
    obtain ⟨h151, h251, h351, hw51⟩ := e51
    subst h151 h251 h351
    refine r_aload (pc' := 56) dX11_feed_54 rfl (.tail _ (.tail _ (.tail _ (.tail _ (.tail _ (.tail _ (.head _))))))) ?_
    refine r_getI (pc' := 59) dX11_feed_56 rfl fX11_80 rfl (by first | assumption | rfl) (by omega) ?_
    refine r_ireturn dX11_feed_59 rfl ?_
    refine ⟨xv X51 445 1, rfl, rfl, rfl, rfl, ?_, ?_⟩
    · rw [if_pos (by omega), b_feed, ← hw25, ← hw31, ← hw37, ← hw44, ← hw51]
    · rw [if_pos (by omega), b_feed, ← hw25, ← hw31, ← hw37, ← hw44, ← hw51]
  · refine r_iconst (pc' := 21) dX11_feed_20 rfl ?_
    refine r_ireturn dX11_feed_21 rfl ?_
    refine ⟨_, rfl, rfl, rfl, rfl, ?_, ?_⟩ <;> rw [if_neg (by omega)]
set_option maxHeartbeats 4000000 in
set_option maxRecDepth 100000 in
theorem tX11_end {l : Launch} {g : q_G} {n : Nat} {P : q_P} {X : q_X} {Y : q_Y} {b : Nat} (hF : isFace n P b) (hb : isBk n P b) (hO : bOk X b) (hr : isRd n P) {m : Int} (hm : q_in m) : q_Met l g mX11_end 0 [.ref (g.1 + 0), .int (zi m)] n P X Y (q_gi (fun r' n' P' X' Y' => n' = n ∧ P' = P ∧ Y' = Y ∧ X' = (if 0 ≤ m ∧ m ≤ xv X 445 1 then q_up X 445 1 (zi m) else X) ∧ r' = if 0 ≤ m ∧ m ≤ xv X 445 1 then m else -1)) := by
  obtain ⟨f0, f2, f3, f4, f5, f6, f7, f8, hn0⟩ := id hF
  obtain ⟨b0, b1, b2, b3, q7, q8, q9, q11, q12, q13, hn, hpro, hmar, hfor, hcs⟩ := id hb
  obtain ⟨o0, o1, o2, o3, o4, o5, o6, o10, oc, op0, opz, opi, om0, omi, olim⟩ := id hO
  obtain ⟨r0, r1, hnr⟩ := id hr
  have hby := hr.b
  refine q_enter (L := [(0, .ref (g.1 + 0)), (1, .int (zi m))]) (by decide) (Nat.le_of_ble_eq_true rfl) rfl ?_
  refine r_iload_n (i := 1) (pc' := 1) dX11_end_0 rfl rfl (.tail _ (.head _)) ?_
  refine r_if_lt (t := 18) (f := 4) dX11_end_1 (by decide) rfl (by first | omega | exact xv_in _ _ _ | assumption) (fun h1 => ?_) (fun h1 => ?_)
  · refine r_iconst (pc' := 19) dX11_end_18 rfl ?_
    refine r_ireturn dX11_end_19 rfl ?_
    refine ⟨_, rfl, rfl, rfl, rfl, ?_, ?_⟩ <;> rw [if_neg (by omega)]
  · refine r_iload_n (i := 1) (pc' := 5) dX11_end_4 rfl rfl (.tail _ (.head _)) ?_
    refine r_aload_n (i := 0) (pc' := 6) dX11_end_5 rfl rfl (.head _) ?_
    refine r_getR (pc' := 9) dX11_end_6 rfl fX11_33 rfl (by first | assumption | rfl) (by omega) (by assumption) ?_
    refine r_getR (pc' := 12) dX11_end_9 rfl fX11_77 rfl (by first | assumption | rfl) (by omega) (by assumption) ?_
    refine r_getI (pc' := 15) dX11_end_12 rfl fX11_80 rfl (by first | assumption | rfl) (by omega) ?_
    refine r_icmp_le (t := 20) (f := 18) dX11_end_15 (by decide) rfl (by first | omega | exact xv_in _ _ _ | assumption) (by first | omega | exact xv_in _ _ _ | assumption) (fun h15 => ?_) (fun h15 => ?_)
    · refine r_aload_n (i := 0) (pc' := 21) dX11_end_20 rfl rfl (.head _) ?_
      refine r_getR (pc' := 24) dX11_end_21 rfl fX11_33 rfl (by first | assumption | rfl) (by omega) (by assumption) ?_
      refine r_getR (pc' := 27) dX11_end_24 rfl fX11_77 rfl (by first | assumption | rfl) (by omega) (by assumption) ?_
      refine r_iload_n (i := 1) (pc' := 28) dX11_end_27 rfl rfl (.tail _ (.head _)) ?_
      refine r_putI (pc' := 31) dX11_end_28 rfl fX11_80 rfl (by first | assumption | rfl) (by omega) rfl rfl ?_
      refine r_iload_n (i := 1) (pc' := 32) dX11_end_31 rfl rfl (.tail _ (.head _)) ?_
      refine r_ireturn dX11_end_32 rfl ?_
      refine ⟨_, rfl, rfl, rfl, rfl, ?_, ?_⟩ <;> rw [if_pos (by omega)]
    · refine r_iconst (pc' := 19) dX11_end_18 rfl ?_
      refine r_ireturn dX11_end_19 rfl ?_
      refine ⟨_, rfl, rfl, rfl, rfl, ?_, ?_⟩ <;> rw [if_neg (by omega)]
set_option maxHeartbeats 4000000 in
set_option maxRecDepth 100000 in
theorem tX11_octet {l : Launch} {g : q_G} {n : Nat} {P : q_P} {X : q_X} {Y : q_Y} {b : Nat} (hF : isFace n P b) (hb : isBk n P b) (hO : bOk X b) (hw : isByt n P 447 256) {k : Int} (hk : q_in k) : q_Met l g mX11_octet 1 [.ref (g.1 + 0), .int (zi k)] n P X Y (q_pv (.int (zi (b_at X 447 256 k))) n P X Y) := by
  obtain ⟨f0, f2, f3, f4, f5, f6, f7, f8, hn0⟩ := id hF
  obtain ⟨b0, b1, b2, b3, q7, q8, q9, q11, q12, q13, hn, hpro, hmar, hfor, hcs⟩ := id hb
  obtain ⟨o0, o1, o2, o3, o4, o5, o6, o10, oc, op0, opz, opi, om0, omi, olim⟩ := id hO
  refine q_enter (L := [(0, .ref (g.1 + 0)), (1, .int (zi k))]) (by decide) (Nat.le_of_ble_eq_true rfl) rfl ?_
  refine r_aload_n (i := 0) (pc' := 1) dX11_octet_0 rfl rfl (.head _) ?_
  refine r_getR (pc' := 4) dX11_octet_1 rfl fX11_42 rfl (by first | assumption | rfl) (by omega) (by assumption) ?_
  refine r_iload_n (i := 1) (pc' := 5) dX11_octet_4 rfl rfl (.tail _ (.head _)) ?_
  refine r_V1p (ci := 2) (pc' := 8) dX11_octet_5 rfl lX11_442 rfl (by decide) (Nat.le_of_ble_eq_true rfl) (by first | assumption | rfl) (by omega) (tX2_at hw (by omega)) ?_
  refine r_ireturn dX11_octet_8 rfl ?_
  exact ⟨rfl, rfl, rfl, rfl, rfl⟩
set_option maxHeartbeats 4000000 in
set_option maxRecDepth 100000 in
theorem tX11_takeDraft {l : Launch} {g : q_G} {n : Nat} {P : q_P} {X : q_X} {Y : q_Y} {b : Nat} (hF : isFace n P b) (hb : isBk n P b) (hO : bOk X b) {x : Nat} (hH : isHi n P X x) (hb1 : 1 ≤ b ∧ b + 220 ≤ 441) (hr : isRd n P) {dr : Nat} (hdr : P 0 1 = some dr) (hd2 : q_sh dr = (1, 14) ∧ dr < n) {m : Int} : q_Met l g mX11_takeDraft 4 [.ref (g.1 + 0), .int (zi m)] n P X Y (q_gi (fun r' n' P' X' Y' => if xv X 444 2 = -1 then ∃ P1, PU x b n P (q_up (q_up X 445 1 (zi 0)) 0 9 (zi (-1))) Y n' P1 X' Y' ∧ P' = q_up (q_up P1 0 0 (some dr)) 0 1 (some b) ∧ r' = m else NO n P (q_up (q_up X 445 1 (zi 0)) 0 9 (zi (xv X 444 2))) Y r' n' P' X' Y')) := by
  obtain ⟨f0, f2, f3, f4, f5, f6, f7, f8, hn0⟩ := id hF
  obtain ⟨b0, b1, b2, b3, q7, q8, q9, q11, q12, q13, hn, hpro, hmar, hfor, hcs⟩ := id hb
  obtain ⟨o0, o1, o2, o3, o4, o5, o6, o10, oc, op0, opz, opi, om0, omi, olim⟩ := id hO
  obtain ⟨h442, hS, hx, hx1, hz0, hz8⟩ := id hH
  have hn9 := hS.n
  obtain ⟨r0, r1, hnr⟩ := id hr
  have hby := hr.b
  obtain ⟨hds, hdn⟩ := hd2
  refine q_enter (L := [(0, .ref (g.1 + 0)), (1, .int (zi m))]) (by decide) (Nat.le_of_ble_eq_true rfl) rfl ?_
  refine r_aload_n (i := 0) (pc' := 1) dX11_takeDraft_0 rfl rfl (.head _) ?_
  refine r_aload_n (i := 0) (pc' := 2) dX11_takeDraft_1 rfl rfl (.head _) ?_
  refine r_getR (pc' := 5) dX11_takeDraft_2 rfl fX11_33 rfl (by first | assumption | rfl) (by omega) (by assumption) ?_
  refine r_V0gi (ci := 9) (pc' := 8) dX11_takeDraft_5 rfl lX11_126 rfl (by decide) (Nat.le_of_ble_eq_true rfl) (by first | assumption | rfl) (by omega) (tX9_finish hr) (fun r5 n5 P5 X5 Y5 e5 le5 => ?_)
  obtain ⟨rfl, rfl, rfl, rfl, rfl⟩ := e5
  refine r_putI (pc' := 11) dX11_takeDraft_8 rfl fX11_67 rfl (by first | assumption | rfl) (by omega) rfl rfl ?_
  generalize hX0 : q_up (q_up X 445 1 (zi 0)) 0 9 (zi (xv X 444 2)) = X0
  have e0 : xv X0 0 9 = xv X 444 2 := by rw [← hX0]; exact xv_up_same _ _ _ (xv_in _ _ _)
  have hbe0 : bEq X X0 b := by rw [← hX0]; exact (bEq.rfl.up (by omega)).up (by omega)
  have hO0 := bOk_ag hbe0.ag hO
  have hx10 : xv X0 442 1 = (x : Int) := by rw [← hX0, xv_up_ne _ _ (by omega), xv_up_ne _ _ (by omega)]; exact hx1
  have hz10 : 0 ≤ xv X0 442 2 ∧ xv X0 442 2 ≤ 8 := by rw [← hX0, xv_up_ne _ _ (by omega), xv_up_ne _ _ (by omega)]; omega
  refine r_aload_n (i := 0) (pc' := 12) dX11_takeDraft_11 rfl rfl (.head _) ?_
  refine r_getI (pc' := 15) dX11_takeDraft_12 rfl fX11_67 rfl (by first | assumption | rfl) (by omega) ?_
  rw [e0]
  refine r_iconst (pc' := 16) dX11_takeDraft_15 rfl ?_
  refine r_icmp_eq (t := 21) (f := 19) dX11_takeDraft_16 (by decide) rfl (by first | omega | exact xv_in _ _ _ | assumption) (by first | omega | exact xv_in _ _ _ | assumption) (fun h16 => ?_) (fun h16 => ?_)
  · refine r_aload_n (i := 0) (pc' := 22) dX11_takeDraft_21 rfl rfl (.head _) ?_
    refine r_getR (pc' := 25) dX11_takeDraft_22 rfl fX11_26 rfl (by first | assumption | rfl) (by omega) (by assumption) ?_
    refine r_aload_n (i := 0) (pc' := 26) dX11_takeDraft_25 rfl rfl (.head _) ?_
    refine r_getR (pc' := 29) dX11_takeDraft_26 rfl fX11_10 rfl (by first | assumption | rfl) (by omega) (by assumption) ?_
    refine r_V1gv (ci := 6) (pc' := 32) dX11_takeDraft_29 rfl lX11_247 rfl (by decide) (Nat.le_of_ble_eq_true rfl) (by first | assumption | rfl) (by omega) (tX6_push (x := x) h442 hS hb hO0 (by omega) hx hx10 hz10) (fun n29 P29 X29 Y29 e29 le29 => ?_)
    have hF1 := e29.face hF
    have hb1' := e29.b hb (by omega)
    have hbe1 := e29.e (by omega) (b2 := b) (by omega)
    have hO1 := bOk_ag hbe1.ag hO0
    have hbe := hbe0.trans hbe1
    have hnn := e29.n
    obtain ⟨g0', g2', g3', g4', g5', g6', g7', g8', hn1⟩ := id hF1
    obtain ⟨-, -, -, -, q7', q8', q9', q11', q12', q13', hnb', hpro', hmar', hfor', hcs'⟩ := id hb1'
    have hd1' : P29 0 1 = some dr := by rw [e29.p (by omega) (by omega)]; exact hdr
    have hd3 : q_up P29 0 0 (some dr) 0 1 = some dr := by rw [q_up_ne _ _ (by omega)]; exact hd1'
    refine r_aload_n (i := 0) (pc' := 33) dX11_takeDraft_32 rfl rfl (.head _) ?_
    refine r_getR (pc' := 36) dX11_takeDraft_33 rfl fX11_10 rfl (by first | assumption | rfl) (by omega) (by assumption) ?_
    refine r_astore_n (i := 2) (pc' := 37) dX11_takeDraft_36 rfl rfl rfl (.s1 (.s1 .nil rfl rfl rfl) rfl rfl rfl) ?_
    refine r_aload_n (i := 0) (pc' := 38) dX11_takeDraft_37 rfl rfl (.head _) ?_
    refine r_aload_n (i := 0) (pc' := 39) dX11_takeDraft_38 rfl rfl (.head _) ?_
    refine r_getR (pc' := 42) dX11_takeDraft_39 rfl fX11_16 rfl (by first | assumption | rfl) (by omega) (by assumption) ?_
    refine r_putR (pc' := 45) dX11_takeDraft_42 rfl fX11_10 rfl (by first | assumption | rfl) (by omega) rfl rfl ?_
    refine r_aload_n (i := 0) (pc' := 46) dX11_takeDraft_45 rfl rfl (.head _) ?_
    refine r_aload_n (i := 2) (pc' := 47) dX11_takeDraft_46 rfl rfl (.tail _ (.tail _ (.head _))) ?_
    refine r_putR (pc' := 50) dX11_takeDraft_47 rfl fX11_16 rfl (by first | assumption | rfl) (by omega) rfl rfl ?_
    refine r_iload_n (i := 1) (pc' := 51) dX11_takeDraft_50 rfl rfl (.tail _ (.head _)) ?_
    refine r_ireturn dX11_takeDraft_51 rfl ?_
    refine ⟨_, rfl, ?_⟩
    dsimp only
    have hft : xv X 444 2 = -1 := by omega
    rw [if_pos hft]
    refine ⟨P29, ?_, rfl, rfl⟩
    rw [← hft, hX0]; exact e29
  · refine r_iconst (pc' := 20) dX11_takeDraft_19 rfl ?_
    refine r_ireturn dX11_takeDraft_20 rfl ?_
    refine ⟨_, rfl, ?_⟩
    dsimp only
    rw [if_neg (by omega)]
    exact ⟨rfl, rfl, rfl, by first | rfl | exact hX0.symm, rfl⟩
