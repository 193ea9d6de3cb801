/-! deeds of the face -/
def isHi (n : Nat) (P : q_P) (X : q_X) (x : Nat) : Prop := P 442 0 = some 443 ∧ MS n P ∧ x < 8 ∧ xv X 442 1 = (x : Int) ∧ 0 ≤ xv X 442 2 ∧ xv X 442 2 ≤ 8
/-- a deed: the books are pushed, then they become F, and R is answered -/
def DE (x b n : Nat) (P : q_P) (X0 : q_X) (Y : q_Y) (F : q_X → q_X) (R : q_X → Int) (r : Int) (n' : Nat) (P' : q_P) (X' : q_X) (Y' : q_Y) : Prop := ∃ X1 X2, PU x b n P X0 Y n' P' X1 Y' ∧ tOut X1 X2 ∧ X' = F X2 ∧ r = R X2
def NO (n : Nat) (P : q_P) (X0 : q_X) (Y : q_Y) (r : Int) (n' : Nat) (P' : q_P) (X' : q_X) (Y' : q_Y) : Prop := n' = n ∧ P' = P ∧ Y' = Y ∧ X' = X0 ∧ r = -1
def bk_low (X : q_X) (b : Nat) (k x : Int) : q_X := if c_plays X (con b k.toNat) (xv X b 0) then q_up X (con b k.toNat + 1) (xv X b 0 - xv X (con b k.toNat) 0).toNat (zi (xv X (con b k.toNat + 1) (xv X b 0 - xv X (con b k.toNat) 0).toNat - x)) else X
def bk_turn (X : q_X) (b : Nat) (k x : Int) : q_X := c_spread (bk_low X b k x) (con b k.toNat) (xv X b 0) x
def bk_ext (X : q_X) (c m : Nat) (base : Int) : q_X := q_up (c_putN X c (xv X c 1) base m) c 1 (zi (xv X c 1 + m))
def bk_long (X : q_X) (b : Nat) (k m base bonus : Int) : q_X := c_spread (bk_ext X (con b k.toNat) m.toNat base) (con b k.toNat) (xv X b 0) bonus
def bk_year (X : q_X) (b : Nat) : q_X := py (bk_p1 X b (nz (bk_room X b g0 g0))) b (xv X b 10).toNat
def bk_yearN (X : q_X) (b : Nat) : Int := q_sum (fun i => if p_over (bk_p1 X b (nz (bk_room X b g0 g0))) b i then 1 else 0) 0 (xv X b 10).toNat
abbrev f_promOk (X : q_X) (b : Nat) (k y a : Int) : Prop := bk_has X b k ∧ xv X (con b k.toNat) 4 = 0 ∧ 0 ≤ y ∧ y < 20 ∧ xv X b 0 ≤ y ∧ 1 ≤ a ∧ a ≤ 99999 ∧ xv X (b + 4) 0 < 24
abbrev f_earnOk (X : q_X) (b : Nat) (i : Int) : Prop := 0 ≤ i ∧ i < xv X (b + 4) 0 ∧ xv X (b + 9) i.toNat = 0 ∧ xv X (b + 6) i.toNat = xv X b 0 ∧ xv X (con b (xv X (b + 5) i.toNat).toNat) 4 = 0
theorem bk_low_o {X : q_X} {b : Nat} {k x : Int} {i : Nat} (h : i ≠ con b k.toNat + 1) : xv (bk_low X b k x) i = xv X i := by
  unfold bk_low; split
  · exact xv_up_row _ _ _ h
  · rfl
theorem bk_turn_o {X : q_X} {b : Nat} {k x : Int} {i : Nat} (h : i ≠ con b k.toNat + 1 ∧ i ≠ con b k.toNat + 3 ∧ i ≠ con b k.toNat + 4) : xv (bk_turn X b k x) i = xv X i := by
  rw [bk_turn, c_spread_o _ _ _ _ ⟨h.2.1, h.2.2⟩, bk_low_o h.1]
theorem bk_ext_o {X : q_X} {c m : Nat} {base : Int} {i : Nat} (h : i ≠ c ∧ i ≠ c + 1 ∧ i ≠ c + 2) : xv (bk_ext X c m base) i = xv X i := by
  rw [bk_ext, xv_up_row _ _ _ h.1, c_putN_o _ _ _ _ h.2]
theorem bk_ext_c {X : q_X} {c m : Nat} {base : Int} (hm : m ≤ 100) (hy : 0 ≤ xv X c 1 ∧ xv X c 1 ≤ 100) (j : Nat) : xv (bk_ext X c m base) c j = if j = 1 then xv X c 1 + m else xv X c j := by
  rw [bk_ext]
  by_cases e : j = 1
  · subst e; rw [if_pos rfl, xv_up_same _ _ _ (by omega)]
  · rw [if_neg e, xv_up_ne _ _ (by omega), c_putN_f]
theorem bEq.cn {X X' : q_X} {b k : Nat} (h : bEq X X' b) (hk : k < 40) {d : Nat} (hd : d ≤ 4) : xv X' (con b k + d) = xv X (con b k + d) := by
  have := h.v (20 + 5 * k + d) (by omega)
  rw [show con b k + d = b + (20 + 5 * k + d) by unfold con; omega]; exact this
theorem bEq.cn0 {X X' : q_X} {b k : Nat} (h : bEq X X' b) (hk : k < 40) : xv X' (con b k) = xv X (con b k) := h.cn hk (d := 0) (by omega)
theorem bk_sref_eq {X X' : q_X} {b : Nat} (h : bEq X X' b) (i : Int) : bk_sref X' b i = bk_sref X b i := by
  unfold bk_sref; rw [h.v0, h.v 10 (by omega), h.v 12 (by omega)]
theorem bk_pref_ref {X : q_X} {b : Nat} {k x : Int} (h : bk_pref X b k x = 0) : bk_ref X b k = 0 ∧ 1 ≤ x ∧ x ≤ 99999 ∧ xv X b 6 ≤ c_base X (con b k.toNat) (xv X b 0) - x := by
  unfold bk_pref at h
  split at h
  · omega
  · split at h
    · omega
    · split at h <;> omega
theorem bk_pref_in (X : q_X) (b : Nat) (k x : Int) : 0 ≤ bk_pref X b k x ∧ bk_pref X b k x ≤ 5 := by
  have := bk_ref_in X b k
  unfold bk_pref; (repeat' split) <;> omega
theorem bk_lref_in (X : q_X) (b : Nat) (k m x z : Int) : 0 ≤ bk_lref X b k m x z ∧ bk_lref X b k m x z ≤ 6 := by
  have := bk_ref_in X b k
  unfold bk_lref; (repeat' split) <;> omega
theorem bk_sref_in (X : q_X) (b : Nat) (i : Int) : 0 ≤ bk_sref X b i ∧ bk_sref X b i ≤ 6 := by
  unfold bk_sref; (repeat' split) <;> omega
theorem bk_lref_ref {X : q_X} {b : Nat} {k m x z : Int} (h : bk_lref X b k m x z = 0) : bk_ref X b k = 0 ∧ 1 ≤ m ∧ m ≤ 5 ∧ 0 ≤ x ∧ x ≤ 99999 ∧ 0 ≤ z ∧ z ≤ 99999 ∧ xv X b 6 ≤ x ∧ xv X (con b k.toNat) 1 + xv X (con b k.toNat) 2 + m ≤ 10 ∧ c_last X (con b k.toNat) + m ≤ 19 := by
  unfold bk_lref at h
  split at h
  · omega
  · split at h
    · omega
    · split at h
      · omega
      · split at h <;> omega
theorem bk_nohas {X : q_X} {b : Nat} {k : Int} (h : ¬ bk_has X b k) : bk_ref X b k = 1 := by unfold bk_ref; rw [if_pos h]
theorem bk_sref_0 {X : q_X} {b : Nat} {i : Int} (h : bk_sref X b i = 0) : 0 ≤ i ∧ i < xv X (b + 10) 0 := by
  unfold bk_sref at h
  split at h <;> omega
theorem bk_cnt_eq {X X' : q_X} {b : Nat} (h : bEq X X' b) (h10 : xv X b 10 ≤ 40) (G T : Nat → Bool) (day : Int) : bk_cnt X' b G T day = bk_cnt X b G T day := by
  have hag := h.ag
  have hsh : ∀ i, i < 40 → bk_hT X' b T i = bk_hT X b T i ∧ bk_pT X' b T i = bk_pT X b T i := fun i hi => by
    simp only [bk_hT, bk_pT, bk_sh, c_hit_ag (hag.c hi), c_parts_ag (hag.c hi), bk_most_ag hag (hag.c hi), c_last_ag (hag.c hi), h.v0, and_self]
  unfold bk_cnt
  rw [h.v0, h.v 2 (by omega), bk_full_ag h.v0, h.v 4 (by omega)]
  congr 1
  refine u_ct_congr _ (fun i hi => ?_) (fun i hi _ => ⟨(hsh i (by omega)).1, ?_, (hsh i (by omega)).2⟩)
  · show (bk_op X' b i && !G i) = (bk_op X b i && !G i)
    rw [bk_op, bk_op, h.cn0 (k := i) (by omega)]
  · exact t_lik_ag hag _ _
theorem bk_room_eq {X X' : q_X} {b : Nat} (h : bEq X X' b) (h10 : xv X b 10 ≤ 40) (G T : Nat → Bool) : bk_room X' b G T = bk_room X b G T := by
  unfold bk_room; rw [bk_cnt_eq h h10, h.v0, h.v 1 (by omega)]
set_option maxHeartbeats 4000000 in
set_option maxRecDepth 100000 in
theorem tX1_takeOfferZ {l : Launch} {g : q_G} {n : Nat} {P : q_P} {X : q_X} {Y : q_Y} {b : Nat} {i : Int} (hb : isBk n P b) (hO : bOk X b) (hr : bk_sref X b i = 0) : q_Met l g mX1_takeOffer 4 [.ref (g.1 + b), .int (zi i)] n P X Y (q_gi (fun r' n' P' X' Y' => n' = n ∧ P' = P ∧ Y' = Y ∧ X' = bk_take X b i.toNat ∧ r' = xv X b 10)) := by
  have h0 := (bk_sref_0 hr).1
  have := tX1_takeOffer (l := l) (g := g) (n := n) (P := P) (X := X) (Y := Y) (i := i.toNat) hb hO (by rw [Int.toNat_of_nonneg h0]; exact hr)
  rw [Int.toNat_of_nonneg h0] at this; exact this
set_option maxHeartbeats 4000000 in
set_option maxRecDepth 100000 in
theorem tX4_addYearsZ {l : Launch} {g : q_G} {n : Nat} {P : q_P} {X : q_X} {Y : q_Y} {c : Nat} {m b : Int} (hc : isCon n P c) (hm : 0 ≤ m ∧ m ≤ 100) (hy : 0 ≤ xv X c 1 ∧ xv X c 1 ≤ 100) : q_Met l g mX4_addYears 1 [.ref (g.1 + c), .int (zi m), .int (zi b)] n P X Y (q_gv (fun n' P' X' Y' => n' = n ∧ P' = P ∧ Y' = Y ∧ X' = bk_ext X c m.toNat b)) := by
  have := tX4_addYears (l := l) (g := g) (n := n) (P := P) (X := X) (Y := Y) (c := c) (m := m.toNat) (b := b) hc (by omega) hy
  unfold bk_ext
  rw [Int.toNat_of_nonneg hm.1] at this ⊢; exact this
set_option maxHeartbeats 4000000 in
set_option maxRecDepth 100000 in
theorem tX11_letGo {l : Launch} {g : q_G} {n : Nat} {P : q_P} {X : q_X} {Y : q_Y} {b : Nat} (hF : isFace n P b) (hb : isBk n P b) (hO : bOk X b) {x : Nat} (hH : isHi n P X x) (hb1 : 1 ≤ b ∧ b + 220 ≤ 441) {k t : Int} (hi : q_in k) (ht : q_in t) : q_Met l g mX11_letGo 5 [.ref (g.1 + 0), .int (zi k), .int (zi t)] n P X Y (q_gi (fun r' n' P' X' Y' => if bk_ref X b k = 0 then DE x b n P (q_up X 0 11 (zi 0)) Y (fun Z => bk_rel Z b k t) (fun Z => bk_many (bk_rel Z b k t) b 0 0 (xv (bk_rel Z b k t) b 10).toNat) r' n' P' X' Y' else NO n P (q_up X 0 11 (zi (bk_ref X b k))) Y r' n' P' X' Y')) := by
  obtain ⟨f0, f2, f3, f4, f5, f6, f7, f8, hn0⟩ := id hF
  obtain ⟨b0, b1, b2, b3, q7, q8, q9, q11, q12, q13, hn, hpro, hmar, hfor, hcs⟩ := id hb
  obtain ⟨o0, o1, o2, o3, o4, o5, o6, o10, oc, op0, opz, opi, om0, omi, olim⟩ := id hO
  obtain ⟨h442, hS, hx, hx1, hz0, hz8⟩ := id hH
  have hn9 := hS.n
  have hin := bk_ref_in X b k
  refine q_enter (L := [(0, .ref (g.1 + 0)), (1, .int (zi k)), (2, .int (zi t))]) (by decide) (Nat.le_of_ble_eq_true rfl) rfl ?_
  refine r_aload_n (i := 0) (pc' := 1) dX11_letGo_0 rfl rfl (.head _) ?_
  refine r_aload_n (i := 0) (pc' := 2) dX11_letGo_1 rfl rfl (.head _) ?_
  refine r_getR (pc' := 5) dX11_letGo_2 rfl fX11_10 rfl (by first | assumption | rfl) (by omega) (by assumption) ?_
  refine r_iload_n (i := 1) (pc' := 6) dX11_letGo_5 rfl rfl (.tail _ (.head _)) ?_
  refine r_V1p (ci := 1) (pc' := 9) dX11_letGo_6 rfl lX11_463 rfl (by decide) (Nat.le_of_ble_eq_true rfl) (by first | assumption | rfl) (by omega) (tX1_refusal (by assumption) (by assumption) (by first | assumption | omega)) ?_
  refine r_putI (pc' := 12) dX11_letGo_9 rfl fX11_74 rfl (by first | assumption | rfl) (by omega) rfl rfl ?_
  generalize hX0 : q_up X 0 11 (zi (bk_ref X b k)) = X0
  have e0 : xv X0 0 11 = bk_ref X b k := by rw [← hX0]; exact xv_up_same _ _ _ (by omega)
  have hbe0 : bEq X X0 b := by rw [← hX0]; exact bEq.rfl.up (by omega)
  have hO0 := bOk_ag hbe0.ag hO
  have hx10 : xv X0 442 1 = (x : Int) := by rw [← hX0, xv_up_ne _ _ (by omega)]; exact hx1
  have hz10 : 0 ≤ xv X0 442 2 ∧ xv X0 442 2 ≤ 8 := by rw [← hX0, xv_up_ne _ _ (by omega)]; omega
  refine r_aload_n (i := 0) (pc' := 13) dX11_letGo_12 rfl rfl (.head _) ?_
  refine r_getI (pc' := 16) dX11_letGo_13 rfl fX11_74 rfl (by first | assumption | rfl) (by omega) ?_
  rw [e0]
  refine r_if_eq (t := 21) (f := 19) dX11_letGo_16 (by decide) rfl (by first | omega | exact xv_in _ _ _ | assumption) (fun h16 => ?_) (fun h16 => ?_)
  · refine r_aload_n (i := 0) (pc' := 22) dX11_letGo_21 rfl rfl (.head _) ?_
    refine r_getR (pc' := 25) dX11_letGo_22 rfl fX11_26 rfl (by first | assumption | rfl) (by omega) (by assumption) ?_
    refine r_aload_n (i := 0) (pc' := 26) dX11_letGo_25 rfl rfl (.head _) ?_
    refine r_getR (pc' := 29) dX11_letGo_26 rfl fX11_10 rfl (by first | assumption | rfl) (by omega) (by assumption) ?_
    refine r_V1gv (ci := 6) (pc' := 32) dX11_letGo_29 rfl lX11_247 rfl (by decide) (Nat.le_of_ble_eq_true rfl) (by first | assumption | rfl) (by omega) (tX6_push (x := x) h442 hS hb hO0 (by omega) hx hx10 hz10) (fun n29 P29 X29 Y29 e29 le29 => ?_)
    have hF1 := e29.face hF
    have hb1' := e29.b hb (by omega)
    have hbe1 := e29.e (by omega) (b2 := b) (by omega)
    have hO1 := bOk_ag hbe1.ag hO0
    have hbe := hbe0.trans hbe1
    have hnn := e29.n
    obtain ⟨g0', g2', g3', g4', g5', g6', g7', g8', hn1⟩ := id hF1
    obtain ⟨-, -, -, -, q7', q8', q9', q11', q12', q13', hnb', hpro', hmar', hfor', hcs'⟩ := id hb1'
    have hk1 : bk_ref X29 b k = 0 := by rw [bk_ref_ag hbe.ag o10.2]; exact h16
    have hO2 := bOk_rel t hO1 hk1
    refine r_aload_n (i := 0) (pc' := 33) dX11_letGo_32 rfl rfl (.head _) ?_
    refine r_getR (pc' := 36) dX11_letGo_33 rfl fX11_10 rfl (by first | assumption | rfl) (by omega) (by assumption) ?_
    refine r_iload_n (i := 1) (pc' := 37) dX11_letGo_36 rfl rfl (.tail _ (.head _)) ?_
    refine r_iload_n (i := 2) (pc' := 38) dX11_letGo_37 rfl rfl (.tail _ (.tail _ (.head _))) ?_
    refine r_V2gv (ci := 1) (pc' := 41) dX11_letGo_38 rfl lX11_319 rfl (by decide) (Nat.le_of_ble_eq_true rfl) (by first | assumption | rfl) (by omega) (tX1_release hb1' hO1 (by omega) (by omega)) (fun n38 P38 X38 Y38 e38 le38 => ?_)
    obtain ⟨rfl, rfl, rfl, rfl⟩ := e38
    refine r_aload_n (i := 0) (pc' := 42) dX11_letGo_41 rfl rfl (.head _) ?_
    refine r_getR (pc' := 45) dX11_letGo_42 rfl fX11_10 rfl (by first | assumption | rfl) (by omega) (by assumption) ?_
    refine r_iconst (pc' := 46) dX11_letGo_45 rfl ?_
    refine r_V1p (ci := 1) (pc' := 49) dX11_letGo_46 rfl lX11_154 rfl (by decide) (Nat.le_of_ble_eq_true rfl) (by first | assumption | rfl) (by omega) (tX1_manyThatAre hb1' hO2 (by omega)) ?_
    refine r_ireturn dX11_letGo_49 rfl ?_
    refine ⟨_, rfl, ?_⟩
    dsimp only
    rw [if_pos (by omega)]
    have h00 : q_up X 0 11 (zi 0) = X0 := by rw [← hX0, h16]
    rw [h00]
    exact ⟨X29, X29, e29, tOut.rfl, rfl, rfl⟩
  · refine r_iconst (pc' := 20) dX11_letGo_19 rfl ?_
    refine r_ireturn dX11_letGo_20 rfl ?_
    refine ⟨_, rfl, ?_⟩
    dsimp only
    rw [if_neg (by omega)]
    exact ⟨rfl, rfl, rfl, by first | rfl | exact hX0.symm, rfl⟩
set_option maxHeartbeats 4000000 in
set_option maxRecDepth 100000 in
theorem tX11_cut {l : Launch} {g : q_G} {n : Nat} {P : q_P} {X : q_X} {Y : q_Y} {b : Nat} (hF : isFace n P b) (hb : isBk n P b) (hO : bOk X b) {x : Nat} (hH : isHi n P X x) (hb1 : 1 ≤ b ∧ b + 220 ≤ 441) {k : Int} (hi : q_in k) : q_Met l g mX11_cut 6 [.ref (g.1 + 0), .int (zi k)] n P X Y (q_gi (fun r' n' P' X' Y' => if bk_ref X b k = 0 then DE x b n P (q_up X 0 11 (zi 0)) Y (fun Z => bk_rel Z b k 0) (fun Z => bk_many (bk_rel Z b k 0) b 0 0 (xv (bk_rel Z b k 0) b 10).toNat) r' n' P' X' Y' else NO n P (q_up X 0 11 (zi (bk_ref X b k))) Y r' n' P' X' Y')) := by
  obtain ⟨f0, f2, f3, f4, f5, f6, f7, f8, hn0⟩ := id hF
  obtain ⟨b0, b1, b2, b3, q7, q8, q9, q11, q12, q13, hn, hpro, hmar, hfor, hcs⟩ := id hb
  obtain ⟨o0, o1, o2, o3, o4, o5, o6, o10, oc, op0, opz, opi, om0, omi, olim⟩ := id hO
  obtain ⟨h442, hS, hx, hx1, hz0, hz8⟩ := id hH
  have hn9 := hS.n
  refine q_enter (L := [(0, .ref (g.1 + 0)), (1, .int (zi k))]) (by decide) (Nat.le_of_ble_eq_true rfl) rfl ?_
  refine r_aload_n (i := 0) (pc' := 1) dX11_cut_0 rfl rfl (.head _) ?_
  refine r_iload_n (i := 1) (pc' := 2) dX11_cut_1 rfl rfl (.tail _ (.head _)) ?_
  refine r_iconst (pc' := 3) dX11_cut_2 rfl ?_
  refine r_V2gi (ci := 11) (pc' := 6) dX11_cut_3 rfl lX11_240 rfl (by decide) (Nat.le_of_ble_eq_true rfl) (by first | assumption | rfl) (by omega) (tX11_letGo (x := x) hF hb hO hH (by omega) (by omega) (by omega)) (fun r3 n3 P3 X3 Y3 e3 le3 => ?_)
  refine r_ireturn dX11_cut_6 rfl ?_
  exact ⟨_, rfl, e3⟩
set_option maxHeartbeats 4000000 in
set_option maxRecDepth 100000 in
theorem tX11_trade {l : Launch} {g : q_G} {n : Nat} {P : q_P} {X : q_X} {Y : q_Y} {b : Nat} (hF : isFace n P b) (hb : isBk n P b) (hO : bOk X b) {x : Nat} (hH : isHi n P X x) (hb1 : 1 ≤ b ∧ b + 220 ≤ 441) {k : Int} (hi : q_in k) : q_Met l g mX11_trade 6 [.ref (g.1 + 0), .int (zi k)] n P X Y (q_gi (fun r' n' P' X' Y' => if bk_ref X b k = 0 then DE x b n P (q_up X 0 11 (zi 0)) Y (fun Z => bk_rel Z b k 1) (fun Z => bk_many (bk_rel Z b k 1) b 0 0 (xv (bk_rel Z b k 1) b 10).toNat) r' n' P' X' Y' else NO n P (q_up X 0 11 (zi (bk_ref X b k))) Y r' n' P' X' Y')) := by
  obtain ⟨f0, f2, f3, f4, f5, f6, f7, f8, hn0⟩ := id hF
  obtain ⟨b0, b1, b2, b3, q7, q8, q9, q11, q12, q13, hn, hpro, hmar, hfor, hcs⟩ := id hb
  obtain ⟨o0, o1, o2, o3, o4, o5, o6, o10, oc, op0, opz, opi, om0, omi, olim⟩ := id hO
  obtain ⟨h442, hS, hx, hx1, hz0, hz8⟩ := id hH
  have hn9 := hS.n
  refine q_enter (L := [(0, .ref (g.1 + 0)), (1, .int (zi k))]) (by decide) (Nat.le_of_ble_eq_true rfl) rfl ?_
  refine r_aload_n (i := 0) (pc' := 1) dX11_trade_0 rfl rfl (.head _) ?_
  refine r_iload_n (i := 1) (pc' := 2) dX11_trade_1 rfl rfl (.tail _ (.head _)) ?_
  refine r_iconst (pc' := 3) dX11_trade_2 rfl ?_
  refine r_V2gi (ci := 11) (pc' := 6) dX11_trade_3 rfl lX11_240 rfl (by decide) (Nat.le_of_ble_eq_true rfl) (by first | assumption | rfl) (by omega) (tX11_letGo (x := x) hF hb hO hH (by omega) (by omega) (by omega)) (fun r3 n3 P3 X3 Y3 e3 le3 => ?_)
  refine r_ireturn dX11_trade_6 rfl ?_
  exact ⟨_, rfl, e3⟩
set_option maxHeartbeats 4000000 in
set_option maxRecDepth 100000 in
theorem tX11_sign {l : Launch} {g : q_G} {n : Nat} {P : q_P} {X : q_X} {Y : q_Y} {b : Nat} (hF : isFace n P b) (hb : isBk n P b) (hO : bOk X b) {x : Nat} (hH : isHi n P X x) (hb1 : 1 ≤ b ∧ b + 220 ≤ 441) {i : Int} (hi : q_in i) : q_Met l g mX11_sign 5 [.ref (g.1 + 0), .int (zi i)] n P X Y (q_gi (fun r' n' P' X' Y' => if bk_sref X b i = 0 then DE x b n P (q_up X 0 11 (zi 0)) Y (fun Z => bk_take Z b i.toNat) (fun Z => xv Z b 10) r' n' P' X' Y' else NO n P (q_up X 0 11 (zi (bk_sref X b i))) Y r' n' P' X' Y')) := by
  obtain ⟨f0, f2, f3, f4, f5, f6, f7, f8, hn0⟩ := id hF
  obtain ⟨b0, b1, b2, b3, q7, q8, q9, q11, q12, q13, hn, hpro, hmar, hfor, hcs⟩ := id hb
  obtain ⟨o0, o1, o2, o3, o4, o5, o6, o10, oc, op0, opz, opi, om0, omi, olim⟩ := id hO
  obtain ⟨h442, hS, hx, hx1, hz0, hz8⟩ := id hH
  have hn9 := hS.n
  have hin := bk_sref_in X b i
  refine q_enter (L := [(0, .ref (g.1 + 0)), (1, .int (zi i))]) (by decide) (Nat.le_of_ble_eq_true rfl) rfl ?_
  refine r_aload_n (i := 0) (pc' := 1) dX11_sign_0 rfl rfl (.head _) ?_
  refine r_aload_n (i := 0) (pc' := 2) dX11_sign_1 rfl rfl (.head _) ?_
  refine r_getR (pc' := 5) dX11_sign_2 rfl fX11_10 rfl (by first | assumption | rfl) (by omega) (by assumption) ?_
  refine r_iload_n (i := 1) (pc' := 6) dX11_sign_5 rfl rfl (.tail _ (.head _)) ?_
  refine r_V1p (ci := 1) (pc' := 9) dX11_sign_6 rfl lX11_244 rfl (by decide) (Nat.le_of_ble_eq_true rfl) (by first | assumption | rfl) (by omega) (tX1_signRefusal (by assumption) (by assumption) (by omega)) ?_
  refine r_putI (pc' := 12) dX11_sign_9 rfl fX11_74 rfl (by first | assumption | rfl) (by omega) rfl rfl ?_
  generalize hX0 : q_up X 0 11 (zi (bk_sref X b i)) = X0
  have e0 : xv X0 0 11 = bk_sref X b i := by rw [← hX0]; exact xv_up_same _ _ _ (by omega)
  have hbe0 : bEq X X0 b := by rw [← hX0]; exact bEq.rfl.up (by omega)
  have hO0 := bOk_ag hbe0.ag hO
  have hx10 : xv X0 442 1 = (x : Int) := by rw [← hX0, xv_up_ne _ _ (by omega)]; exact hx1
  have hz10 : 0 ≤ xv X0 442 2 ∧ xv X0 442 2 ≤ 8 := by rw [← hX0, xv_up_ne _ _ (by omega)]; omega
  refine r_aload_n (i := 0) (pc' := 13) dX11_sign_12 rfl rfl (.head _) ?_
  refine r_getI (pc' := 16) dX11_sign_13 rfl fX11_74 rfl (by first | assumption | rfl) (by omega) ?_
  rw [e0]
  refine r_if_eq (t := 21) (f := 19) dX11_sign_16 (by decide) rfl (by first | omega | exact xv_in _ _ _ | assumption) (fun h16 => ?_) (fun h16 => ?_)
  · refine r_aload_n (i := 0) (pc' := 22) dX11_sign_21 rfl rfl (.head _) ?_
    refine r_getR (pc' := 25) dX11_sign_22 rfl fX11_26 rfl (by first | assumption | rfl) (by omega) (by assumption) ?_
    refine r_aload_n (i := 0) (pc' := 26) dX11_sign_25 rfl rfl (.head _) ?_
    refine r_getR (pc' := 29) dX11_sign_26 rfl fX11_10 rfl (by first | assumption | rfl) (by omega) (by assumption) ?_
    refine r_V1gv (ci := 6) (pc' := 32) dX11_sign_29 rfl lX11_247 rfl (by decide) (Nat.le_of_ble_eq_true rfl) (by first | assumption | rfl) (by omega) (tX6_push (x := x) h442 hS hb hO0 (by omega) hx hx10 hz10) (fun n29 P29 X29 Y29 e29 le29 => ?_)
    have hF1 := e29.face hF
    have hb1' := e29.b hb (by omega)
    have hbe1 := e29.e (by omega) (b2 := b) (by omega)
    have hO1 := bOk_ag hbe1.ag hO0
    have hbe := hbe0.trans hbe1
    have hnn := e29.n
    obtain ⟨g0', g2', g3', g4', g5', g6', g7', g8', hn1⟩ := id hF1
    obtain ⟨-, -, -, -, q7', q8', q9', q11', q12', q13', hnb', hpro', hmar', hfor', hcs'⟩ := id hb1'
    refine r_aload_n (i := 0) (pc' := 33) dX11_sign_32 rfl rfl (.head _) ?_
    refine r_getR (pc' := 36) dX11_sign_33 rfl fX11_10 rfl (by first | assumption | rfl) (by omega) (by assumption) ?_
    refine r_iload_n (i := 1) (pc' := 37) dX11_sign_36 rfl rfl (.tail _ (.head _)) ?_
    refine r_V1gi (ci := 1) (pc' := 40) dX11_sign_37 rfl lX11_250 rfl (by decide) (Nat.le_of_ble_eq_true rfl) (by first | assumption | rfl) (by omega) (tX1_takeOfferZ hb1' hO1 (by rw [bk_sref_eq hbe]; exact h16)) (fun r37 n37 P37 X37 Y37 e37 le37 => ?_)
    obtain ⟨rfl, rfl, rfl, rfl, rfl⟩ := e37
    refine r_ireturn dX11_sign_40 rfl ?_
    refine ⟨_, rfl, ?_⟩
    dsimp only
    rw [if_pos (by omega)]
    have h00 : q_up X 0 11 (zi 0) = X0 := by rw [← hX0, h16]
    rw [h00]
    exact ⟨X29, X29, e29, tOut.rfl, rfl, rfl⟩
  · refine r_iconst (pc' := 20) dX11_sign_19 rfl ?_
    refine r_ireturn dX11_sign_20 rfl ?_
    refine ⟨_, rfl, ?_⟩
    dsimp only
    rw [if_neg (by omega)]
    exact ⟨rfl, rfl, rfl, by first | rfl | exact hX0.symm, rfl⟩
set_option maxHeartbeats 4000000 in
set_option maxRecDepth 100000 in
theorem tX11_promise {l : Launch} {g : q_G} {n : Nat} {P : q_P} {X : q_X} {Y : q_Y} {b : Nat} (hF : isFace n P b) (hb : isBk n P b) (hO : bOk X b) {x : Nat} (hH : isHi n P X x) (hb1 : 1 ≤ b ∧ b + 220 ≤ 441) {k y a lk : Int} (hi : q_in k) (hy : q_in y) (ha : q_in a) (hl : lk = 0 ∨ lk = 1) : q_Met l g mX11_promise 4 [.ref (g.1 + 0), .int (zi k), .int (zi y), .int (zi a), .int (zi lk)] n P X Y (q_gi (fun r' n' P' X' Y' => if f_promOk X b k y a then DE x b n P (X) Y (fun Z => pr_add Z (b + 4) k y a lk) (fun Z => xv Z (b + 4) 0) r' n' P' X' Y' else NO n P (X) Y r' n' P' X' Y')) := by
  obtain ⟨f0, f2, f3, f4, f5, f6, f7, f8, hn0⟩ := id hF
  obtain ⟨b0, b1, b2, b3, q7, q8, q9, q11, q12, q13, hn, hpro, hmar, hfor, hcs⟩ := id hb
  obtain ⟨o0, o1, o2, o3, o4, o5, o6, o10, oc, op0, opz, opi, om0, omi, olim⟩ := id hO
  obtain ⟨h442, hS, hx, hx1, hz0, hz8⟩ := id hH
  have hn9 := hS.n
  have hbe0 : bEq X X b := bEq.rfl
  have hO0 := hO
  have hx10 := hx1
  have hz10 : 0 ≤ xv X 442 2 ∧ xv X 442 2 ≤ 8 := by omega
  obtain ⟨c0, c1, c2, c3, c4, c5, v1, v2, v3, v4, v5, hnp⟩ := isBk.pro hpro
  refine q_enter (L := [(0, .ref (g.1 + 0)), (1, .int (zi k)), (2, .int (zi y)), (3, .int (zi a)), (4, .int (zi lk))]) (by decide) (Nat.le_of_ble_eq_true rfl) rfl ?_
  refine r_aload_n (i := 0) (pc' := 1) dX11_promise_0 rfl rfl (.head _) ?_
  refine r_getR (pc' := 4) dX11_promise_1 rfl fX11_10 rfl (by first | assumption | rfl) (by omega) (by assumption) ?_
  refine r_iload_n (i := 1) (pc' := 5) dX11_promise_4 rfl rfl (.tail _ (.head _)) ?_
  by_cases hk : bk_has X b k
  · have hc := hb.c (k := k.toNat) (by omega)
    obtain ⟨s0, s1, s2, s3, s4, p6, p7, p8, p9, hnc⟩ := id hc
    have hck := hO.c (k := k.toNat) (by omega)
    obtain ⟨hf, hf2, hf3, hf4, hfj, hfs, hfg⟩ := id hck
    refine r_V1p (ci := 1) (pc' := 8) dX11_promise_5 rfl lX11_168 rfl (by decide) (Nat.le_of_ble_eq_true rfl) (by first | assumption | rfl) (by omega) (tX1_find (by assumption) (by assumption) (by assumption)) ?_
    refine r_astore (pc' := 10) dX11_promise_8 rfl rfl (.s1 (.s1 (.s1 (.s1 (.s1 .nil rfl rfl rfl) rfl rfl rfl) rfl rfl rfl) rfl rfl rfl) rfl rfl rfl) ?_
    refine r_aload (pc' := 12) dX11_promise_10 rfl (.tail _ (.tail _ (.tail _ (.tail _ (.tail _ (.head _)))))) ?_
    refine r_ifnull (pc' := 15) dX11_promise_12 rfl ?_
    refine r_aload (pc' := 17) dX11_promise_15 rfl (.tail _ (.tail _ (.tail _ (.tail _ (.tail _ (.head _)))))) ?_
    refine r_V0p (ci := 4) (pc' := 20) dX11_promise_17 rfl lX11_192 rfl (by decide) (Nat.le_of_ble_eq_true rfl) (by first | assumption | rfl) (by omega) (tX4_isOpen (by assumption)) ?_
    refine r_bif_eq (t := 41) (f := 23) dX11_promise_20 (by decide) rfl (fun h20 => ?_) (fun h20 => ?_)
    · refine r_iconst (pc' := 42) dX11_promise_41 rfl ?_
      refine r_ireturn dX11_promise_42 rfl ?_
      refine ⟨_, rfl, ?_⟩
      dsimp only
      rw [if_neg (by omega)]
      exact ⟨rfl, rfl, rfl, rfl, rfl⟩
    · refine r_iload_n (i := 2) (pc' := 24) dX11_promise_23 rfl rfl (.tail _ (.tail _ (.head _))) ?_
      refine r_S1p (pc' := 27) dX11_promise_24 rfl lX11_158 (by decide) (Nat.le_of_ble_eq_true rfl) (tX11_isYear (by first | omega | exact xv_in _ _ _)) ?_
      refine r_bif_eq (t := 41) (f := 30) dX11_promise_27 (by decide) rfl (fun h27 => ?_) (fun h27 => ?_)
      · refine r_iconst (pc' := 42) dX11_promise_41 rfl ?_
        refine r_ireturn dX11_promise_42 rfl ?_
        refine ⟨_, rfl, ?_⟩
        dsimp only
        rw [if_neg (by omega)]
        exact ⟨rfl, rfl, rfl, rfl, rfl⟩
      · refine r_iload_n (i := 2) (pc' := 31) dX11_promise_30 rfl rfl (.tail _ (.tail _ (.head _))) ?_
        refine r_aload_n (i := 0) (pc' := 32) dX11_promise_31 rfl rfl (.head _) ?_
        refine r_getR (pc' := 35) dX11_promise_32 rfl fX11_10 rfl (by first | assumption | rfl) (by omega) (by assumption) ?_
        refine r_getI (pc' := 38) dX11_promise_35 rfl fX11_135 rfl (by first | assumption | rfl) (by omega) ?_
        refine r_icmp_ge (t := 43) (f := 41) dX11_promise_38 (by decide) rfl (by first | omega | exact xv_in _ _ _ | assumption) (by first | omega | exact xv_in _ _ _ | assumption) (fun h38 => ?_) (fun h38 => ?_)
        · refine r_iload_n (i := 3) (pc' := 44) dX11_promise_43 rfl rfl (.tail _ (.tail _ (.tail _ (.head _)))) ?_
          refine r_iconst (pc' := 45) dX11_promise_44 rfl ?_
          refine r_icmp_lt (t := 67) (f := 48) dX11_promise_45 (by decide) rfl (by first | omega | exact xv_in _ _ _ | assumption) (by first | omega | exact xv_in _ _ _ | assumption) (fun h45 => ?_) (fun h45 => ?_)
          · refine r_iconst (pc' := 68) dX11_promise_67 rfl ?_
            refine r_ireturn dX11_promise_68 rfl ?_
            refine ⟨_, rfl, ?_⟩
            dsimp only
            rw [if_neg (by omega)]
            exact ⟨rfl, rfl, rfl, rfl, rfl⟩
          · refine r_iload_n (i := 3) (pc' := 49) dX11_promise_48 rfl rfl (.tail _ (.tail _ (.tail _ (.head _)))) ?_
            refine r_ldc (pc' := 51) dX11_promise_49 rfl kX11_253 ?_
            refine r_icmp_gt (t := 67) (f := 54) dX11_promise_51 (by decide) rfl (by first | omega | exact xv_in _ _ _ | assumption) (by first | omega | exact xv_in _ _ _ | assumption) (fun h51 => ?_) (fun h51 => ?_)
            · refine r_iconst (pc' := 68) dX11_promise_67 rfl ?_
              refine r_ireturn dX11_promise_68 rfl ?_
              refine ⟨_, rfl, ?_⟩
              dsimp only
              rw [if_neg (by omega)]
              exact ⟨rfl, rfl, rfl, rfl, rfl⟩
            · refine r_aload_n (i := 0) (pc' := 55) dX11_promise_54 rfl rfl (.head _) ?_
              refine r_getR (pc' := 58) dX11_promise_55 rfl fX11_10 rfl (by first | assumption | rfl) (by omega) (by assumption) ?_
              refine r_getR (pc' := 61) dX11_promise_58 rfl fX11_254 rfl (by first | assumption | rfl) (by omega) (by assumption) ?_
              refine r_V0p (ci := 8) (pc' := 64) dX11_promise_61 rfl lX11_258 rfl (by decide) (Nat.le_of_ble_eq_true rfl) (by first | assumption | rfl) (by omega) (tX8_isFull (by assumption)) ?_
              refine r_bif_eq (t := 69) (f := 67) dX11_promise_64 (by decide) rfl (fun h64 => ?_) (fun h64 => ?_)
              · refine r_aload_n (i := 0) (pc' := 70) dX11_promise_69 rfl rfl (.head _) ?_
                refine r_getR (pc' := 73) dX11_promise_70 rfl fX11_26 rfl (by first | assumption | rfl) (by omega) (by assumption) ?_
                refine r_aload_n (i := 0) (pc' := 74) dX11_promise_73 rfl rfl (.head _) ?_
                refine r_getR (pc' := 77) dX11_promise_74 rfl fX11_10 rfl (by first | assumption | rfl) (by omega) (by assumption) ?_
                refine r_V1gv (ci := 6) (pc' := 80) dX11_promise_77 rfl lX11_247 rfl (by decide) (Nat.le_of_ble_eq_true rfl) (by first | assumption | rfl) (by omega) (tX6_push (x := x) h442 hS hb hO0 (by omega) hx hx10 hz10) (fun n77 P77 X77 Y77 e77 le77 => ?_)
                have hF1 := e77.face hF
                have hb1' := e77.b hb (by omega)
                have hbe1 := e77.e (by omega) (b2 := b) (by omega)
                have hO1 := bOk_ag hbe1.ag hO0
                have hbe := hbe0.trans hbe1
                have hnn := e77.n
                obtain ⟨g0', g2', g3', g4', g5', g6', g7', g8', hn1⟩ := id hF1
                obtain ⟨-, -, -, -, q7', q8', q9', q11', q12', q13', hnb', hpro', hmar', hfor', hcs'⟩ := id hb1'
                refine r_aload_n (i := 0) (pc' := 81) dX11_promise_80 rfl rfl (.head _) ?_
                refine r_getR (pc' := 84) dX11_promise_81 rfl fX11_10 rfl (by first | assumption | rfl) (by omega) (by assumption) ?_
                refine r_getR (pc' := 87) dX11_promise_84 rfl fX11_254 rfl (by first | assumption | rfl) (by omega) (by assumption) ?_
                refine r_iload_n (i := 1) (pc' := 88) dX11_promise_87 rfl rfl (.tail _ (.head _)) ?_
                refine r_iload_n (i := 2) (pc' := 89) dX11_promise_88 rfl rfl (.tail _ (.tail _ (.head _))) ?_
                refine r_iload_n (i := 3) (pc' := 90) dX11_promise_89 rfl rfl (.tail _ (.tail _ (.tail _ (.head _)))) ?_
                refine r_iload (pc' := 92) dX11_promise_90 rfl (.tail _ (.tail _ (.tail _ (.tail _ (.head _))))) ?_
                refine r_V4gi (ci := 8) (pc' := 95) dX11_promise_92 rfl lX11_263 rfl (by decide) (Nat.le_of_ble_eq_true rfl) (by first | assumption | rfl) (by omega) (tX8_add hpro' (by rw [hbe.v 4 (by omega)]; omega) (by omega)) (fun r92 n92 P92 X92 Y92 e92 le92 => ?_)
                obtain ⟨rfl, rfl, rfl, rfl, rfl⟩ := e92
                refine r_ireturn dX11_promise_95 rfl ?_
                refine ⟨_, rfl, ?_⟩
                dsimp only
                rw [if_pos (by omega)]
                exact ⟨X77, X77, e77, tOut.rfl, rfl, rfl⟩
              · refine r_iconst (pc' := 68) dX11_promise_67 rfl ?_
                refine r_ireturn dX11_promise_68 rfl ?_
                refine ⟨_, rfl, ?_⟩
                dsimp only
                rw [if_neg (by omega)]
                exact ⟨rfl, rfl, rfl, rfl, rfl⟩
        · refine r_iconst (pc' := 42) dX11_promise_41 rfl ?_
          refine r_ireturn dX11_promise_42 rfl ?_
          refine ⟨_, rfl, ?_⟩
          dsimp only
          rw [if_neg (by omega)]
          exact ⟨rfl, rfl, rfl, rfl, rfl⟩
  · refine r_V1p (ci := 1) (pc' := 8) dX11_promise_5 rfl lX11_168 rfl (by decide) (Nat.le_of_ble_eq_true rfl) (by first | assumption | rfl) (by omega) (tX1_findN (by assumption) (by assumption) (by first | assumption | omega) (by assumption)) ?_
    refine r_astoreN (pc' := 10) dX11_promise_8 rfl rfl (.s1 (.s1 (.s1 (.s1 (.s1 .nil rfl rfl rfl) rfl rfl rfl) rfl rfl rfl) rfl rfl rfl) rfl rfl rfl) ?_
    refine r_aloadN (pc' := 12) dX11_promise_10 rfl (.tail _ (.tail _ (.tail _ (.tail _ (.tail _ (.head _)))))) ?_
    refine r_ifnullN (t := 41) dX11_promise_12 (by decide) ?_
    refine r_iconst (pc' := 42) dX11_promise_41 rfl ?_
    refine r_ireturn dX11_promise_42 rfl ?_
    refine ⟨_, rfl, ?_⟩
    dsimp only
    rw [if_neg (by omega)]
    exact ⟨rfl, rfl, rfl, rfl, rfl⟩
set_option maxHeartbeats 4000000 in
set_option maxRecDepth 100000 in
theorem tX11_earn {l : Launch} {g : q_G} {n : Nat} {P : q_P} {X : q_X} {Y : q_Y} {b : Nat} (hF : isFace n P b) (hb : isBk n P b) (hO : bOk X b) {x : Nat} (hH : isHi n P X x) (hb1 : 1 ≤ b ∧ b + 220 ≤ 441) {i : Int} (hi : q_in i) : q_Met l g mX11_earn 4 [.ref (g.1 + 0), .int (zi i)] n P X Y (q_gi (fun r' n' P' X' Y' => if f_earnOk X b i then DE x b n P (X) Y (fun Z => q_up Z (b + 9) i.toNat (zi 1)) (fun Z => xv Z (b + 7) i.toNat) r' n' P' X' Y' else NO n P (X) Y r' n' P' X' Y')) := by
  obtain ⟨f0, f2, f3, f4, f5, f6, f7, f8, hn0⟩ := id hF
  obtain ⟨b0, b1, b2, b3, q7, q8, q9, q11, q12, q13, hn, hpro, hmar, hfor, hcs⟩ := id hb
  obtain ⟨o0, o1, o2, o3, o4, o5, o6, o10, oc, op0, opz, opi, om0, omi, olim⟩ := id hO
  obtain ⟨h442, hS, hx, hx1, hz0, hz8⟩ := id hH
  have hn9 := hS.n
  have hbe0 : bEq X X b := bEq.rfl
  have hO0 := hO
  have hx10 := hx1
  have hz10 : 0 ≤ xv X 442 2 ∧ xv X 442 2 ≤ 8 := by omega
  obtain ⟨c0, c1, c2, c3, c4, c5, v1, v2, v3, v4, v5, hnp⟩ := isBk.pro hpro
  refine q_enter (L := [(0, .ref (g.1 + 0)), (1, .int (zi i))]) (by decide) (Nat.le_of_ble_eq_true rfl) rfl ?_
  refine r_aload_n (i := 0) (pc' := 1) dX11_earn_0 rfl rfl (.head _) ?_
  refine r_getR (pc' := 4) dX11_earn_1 rfl fX11_10 rfl (by first | assumption | rfl) (by omega) (by assumption) ?_
  refine r_getR (pc' := 7) dX11_earn_4 rfl fX11_254 rfl (by first | assumption | rfl) (by omega) (by assumption) ?_
  refine r_astore_n (i := 2) (pc' := 8) dX11_earn_7 rfl rfl rfl (.s1 (.s1 .nil rfl rfl rfl) rfl rfl rfl) ?_
  refine r_aload_n (i := 2) (pc' := 9) dX11_earn_8 rfl rfl (.tail _ (.tail _ (.head _))) ?_
  refine r_iload_n (i := 1) (pc' := 10) dX11_earn_9 rfl rfl (.tail _ (.head _)) ?_
  refine r_V1p (ci := 8) (pc' := 13) dX11_earn_10 rfl lX11_267 rfl (by decide) (Nat.le_of_ble_eq_true rfl) (by first | assumption | rfl) (by omega) (tX8_has hpro (by omega)) ?_
  refine r_bif_eq (t := 41) (f := 16) dX11_earn_13 (by decide) rfl (fun h13 => ?_) (fun h13 => ?_)
  · refine r_iconst (pc' := 42) dX11_earn_41 rfl ?_
    refine r_ireturn dX11_earn_42 rfl ?_
    refine ⟨_, rfl, ?_⟩
    dsimp only
    rw [if_neg (by omega)]
    exact ⟨rfl, rfl, rfl, rfl, rfl⟩
  · have hpi := opi i.toNat (by omega)
    have hpz := opz i.toNat (by omega)
    have hfd : bk_has X b (xv X (b + 5) i.toNat) := by omega
    have hc := hb.c (k := (xv X (b + 5) i.toNat).toNat) (by omega)
    obtain ⟨s0, s1, s2, s3, s4, p6, p7, p8, p9, hnc⟩ := id hc
    have hck := hO.c (k := (xv X (b + 5) i.toNat).toNat) (by omega)
    obtain ⟨hf, hf2, hf3, hf4, hfj, hfs, hfg⟩ := id hck
    refine r_aload_n (i := 2) (pc' := 17) dX11_earn_16 rfl rfl (.tail _ (.tail _ (.head _))) ?_
    refine r_getR (pc' := 20) dX11_earn_17 rfl fX11_270 rfl (by first | assumption | rfl) (by omega) (by assumption) ?_
    refine r_iload_n (i := 1) (pc' := 21) dX11_earn_20 rfl rfl (.tail _ (.head _)) ?_
    refine r_zaload (pc' := 22) dX11_earn_21 rfl (by first | assumption | rfl) (by omega) (by omega) (by omega) (by first | decide | omega) rfl ?_
    refine r_if_ne (t := 41) (f := 25) dX11_earn_22 (by decide) rfl (by first | omega | exact xv_in _ _ _ | assumption) (fun h22 => ?_) (fun h22 => ?_)
    · refine r_iconst (pc' := 42) dX11_earn_41 rfl ?_
      refine r_ireturn dX11_earn_42 rfl ?_
      refine ⟨_, rfl, ?_⟩
      dsimp only
      rw [if_neg (by omega)]
      exact ⟨rfl, rfl, rfl, rfl, rfl⟩
    · refine r_aload_n (i := 2) (pc' := 26) dX11_earn_25 rfl rfl (.tail _ (.tail _ (.head _))) ?_
      refine r_getR (pc' := 29) dX11_earn_26 rfl fX11_274 rfl (by first | assumption | rfl) (by omega) (by assumption) ?_
      refine r_iload_n (i := 1) (pc' := 30) dX11_earn_29 rfl rfl (.tail _ (.head _)) ?_
      refine r_iaload (pc' := 31) dX11_earn_30 rfl (by first | assumption | rfl) (by omega) (by omega) (by omega) (by first | decide | omega) rfl ?_
      refine r_aload_n (i := 0) (pc' := 32) dX11_earn_31 rfl rfl (.head _) ?_
      refine r_getR (pc' := 35) dX11_earn_32 rfl fX11_10 rfl (by first | assumption | rfl) (by omega) (by assumption) ?_
      refine r_getI (pc' := 38) dX11_earn_35 rfl fX11_135 rfl (by first | assumption | rfl) (by omega) ?_
      refine r_icmp_eq (t := 43) (f := 41) dX11_earn_38 (by decide) rfl (by first | omega | exact xv_in _ _ _ | assumption) (by first | omega | exact xv_in _ _ _ | assumption) (fun h38 => ?_) (fun h38 => ?_)
      · refine r_aload_n (i := 0) (pc' := 44) dX11_earn_43 rfl rfl (.head _) ?_
        refine r_getR (pc' := 47) dX11_earn_44 rfl fX11_10 rfl (by first | assumption | rfl) (by omega) (by assumption) ?_
        refine r_aload_n (i := 2) (pc' := 48) dX11_earn_47 rfl rfl (.tail _ (.tail _ (.head _))) ?_
        refine r_getR (pc' := 51) dX11_earn_48 rfl fX11_276 rfl (by first | assumption | rfl) (by omega) (by assumption) ?_
        refine r_iload_n (i := 1) (pc' := 52) dX11_earn_51 rfl rfl (.tail _ (.head _)) ?_
        refine r_iaload (pc' := 53) dX11_earn_52 rfl (by first | assumption | rfl) (by omega) (by omega) (by omega) (by first | decide | omega) rfl ?_
        refine r_V1p (ci := 1) (pc' := 56) dX11_earn_53 rfl lX11_168 rfl (by decide) (Nat.le_of_ble_eq_true rfl) (by first | assumption | rfl) (by omega) (tX1_find hb hO hfd) ?_
        refine r_astore_n (i := 3) (pc' := 57) dX11_earn_56 rfl rfl rfl (.s1 (.s1 (.s1 .nil rfl rfl rfl) rfl rfl rfl) rfl rfl rfl) ?_
        refine r_aload_n (i := 3) (pc' := 58) dX11_earn_57 rfl rfl (.tail _ (.tail _ (.tail _ (.head _)))) ?_
        refine r_ifnull (pc' := 61) dX11_earn_58 rfl ?_
        refine r_aload_n (i := 3) (pc' := 62) dX11_earn_61 rfl rfl (.tail _ (.tail _ (.tail _ (.head _)))) ?_
        refine r_V0p (ci := 4) (pc' := 65) dX11_earn_62 rfl lX11_192 rfl (by decide) (Nat.le_of_ble_eq_true rfl) (by first | assumption | rfl) (by omega) (tX4_isOpen (by assumption)) ?_
        refine r_bif_ne (t := 70) (f := 68) dX11_earn_65 (by decide) rfl (fun h65 => ?_) (fun h65 => ?_)
        · refine r_aload_n (i := 0) (pc' := 71) dX11_earn_70 rfl rfl (.head _) ?_
          refine r_getR (pc' := 74) dX11_earn_71 rfl fX11_26 rfl (by first | assumption | rfl) (by omega) (by assumption) ?_
          refine r_aload_n (i := 0) (pc' := 75) dX11_earn_74 rfl rfl (.head _) ?_
          refine r_getR (pc' := 78) dX11_earn_75 rfl fX11_10 rfl (by first | assumption | rfl) (by omega) (by assumption) ?_
          refine r_V1gv (ci := 6) (pc' := 81) dX11_earn_78 rfl lX11_247 rfl (by decide) (Nat.le_of_ble_eq_true rfl) (by first | assumption | rfl) (by omega) (tX6_push (x := x) h442 hS hb hO0 (by omega) hx hx10 hz10) (fun n78 P78 X78 Y78 e78 le78 => ?_)
          have hF1 := e78.face hF
          have hb1' := e78.b hb (by omega)
          have hbe1 := e78.e (by omega) (b2 := b) (by omega)
          have hO1 := bOk_ag hbe1.ag hO0
          have hbe := hbe0.trans hbe1
          have hnn := e78.n
          obtain ⟨g0', g2', g3', g4', g5', g6', g7', g8', hn1⟩ := id hF1
          obtain ⟨-, -, -, -, q7', q8', q9', q11', q12', q13', hnb', hpro', hmar', hfor', hcs'⟩ := id hb1'
          obtain ⟨-, -, -, -, -, -, v1', v2', v3', v4', v5', hnp'⟩ := isBk.pro hpro'
          refine r_aload_n (i := 2) (pc' := 82) dX11_earn_81 rfl rfl (.tail _ (.tail _ (.head _))) ?_
          refine r_getR (pc' := 85) dX11_earn_82 rfl fX11_270 rfl (by first | assumption | rfl) (by omega) (by assumption) ?_
          refine r_iload_n (i := 1) (pc' := 86) dX11_earn_85 rfl rfl (.tail _ (.head _)) ?_
          refine r_iconst (pc' := 87) dX11_earn_86 rfl ?_
          refine r_zastore (pc' := 88) dX11_earn_87 rfl (by first | assumption | rfl) (by omega) (by omega) (by omega) (by first | decide | omega) rfl (by omega) ?_
          refine r_aload_n (i := 2) (pc' := 89) dX11_earn_88 rfl rfl (.tail _ (.tail _ (.head _))) ?_
          refine r_getR (pc' := 92) dX11_earn_89 rfl fX11_279 rfl (by first | assumption | rfl) (by omega) (by assumption) ?_
          refine r_iload_n (i := 1) (pc' := 93) dX11_earn_92 rfl rfl (.tail _ (.head _)) ?_
          refine r_iaload (pc' := 94) dX11_earn_93 rfl (by first | assumption | rfl) (by omega) (by omega) (by omega) (by first | decide | omega) rfl ?_
          rw [xv_up_ne _ _ (by omega)]
          refine r_ireturn dX11_earn_94 rfl ?_
          refine ⟨_, rfl, ?_⟩
          dsimp only
          rw [if_pos (by omega)]
          exact ⟨X78, X78, e78, tOut.rfl, rfl, rfl⟩
        · refine r_iconst (pc' := 69) dX11_earn_68 rfl ?_
          refine r_ireturn dX11_earn_69 rfl ?_
          refine ⟨_, rfl, ?_⟩
          dsimp only
          rw [if_neg (by omega)]
          exact ⟨rfl, rfl, rfl, rfl, rfl⟩
      · refine r_iconst (pc' := 42) dX11_earn_41 rfl ?_
        refine r_ireturn dX11_earn_42 rfl ?_
        refine ⟨_, rfl, ?_⟩
        dsimp only
        rw [if_neg (by omega)]
        exact ⟨rfl, rfl, rfl, rfl, rfl⟩
