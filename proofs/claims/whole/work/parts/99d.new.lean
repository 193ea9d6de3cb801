/-! a new contract, there and here -/
def NC (C : q_X) (c : Nat) (f y v s bo : Int) (ba ro : Nat → Int) : Prop := (xv C c 0 = f ∧ xv C c 1 = y ∧ xv C c 2 = v ∧ xv C c 3 = s ∧ xv C c 4 = 0 ∧ xv C c 5 = 0) ∧ (∀ j : Nat, (j : Int) < y → xv C (c + 1) j = ba j ∧ xv C (c + 2) j = ro j) ∧ (∀ j : Nat, j < 10 → xv C (c + 3) j = c_piece bo (y + v) j ∧ xv C (c + 4) j = if j = 0 then bo else 0)
def NR (R : Nat → Int) (f y v s bo : Int) (ba ro : Nat → Int) : Prop := (R 0 = f ∧ R 1 = y ∧ R 2 = v ∧ R 3 = s ∧ R 4 = 0 ∧ R 5 = 0) ∧ ∀ w : Nat, w < 20 → R (6 + w) = (if f ≤ (w : Int) ∧ (w : Int) - f < y then ba ((w : Int) - f).toNat else 0) ∧ R (26 + w) = (if f ≤ (w : Int) ∧ (w : Int) - f < y then ro ((w : Int) - f).toNat else 0) ∧ R (46 + w) = (if f ≤ (w : Int) ∧ (w : Int) - f < 10 then c_piece bo (y + v) ((w : Int) - f) else 0) ∧ R (66 + w) = if (w : Int) = f then bo else 0
theorem RC_new {C : q_X} {c : Nat} {R : Nat → Int} {f y v s bo : Int} {ba ro : Nat → Int} (h : NC C c f y v s bo ba ro) (h2 : NR R f y v s bo ba ro) (hy : y ≤ 10) : RC C c R := by
  obtain ⟨⟨c0, c1, c2, c3, c4, c5⟩, cy, cp⟩ := h
  obtain ⟨⟨r0, r1, r2, r3, r4, r5⟩, rw⟩ := h2
  refine ⟨fun j hj => ?_, fun w hw => ?_⟩
  · have hj6 : j = 0 ∨ j = 1 ∨ j = 2 ∨ j = 3 ∨ j = 4 ∨ j = 5 := by omega
    rcases hj6 with e | e | e | e | e | e <;> subst e
    · rw [r0, c0]
    · rw [r1, c1]
    · rw [r2, c2]
    · rw [r3, c3]
    · rw [r4, c4]
    · rw [r5, c5]
  · obtain ⟨w1, w2, w3, w4⟩ := rw w hw
    rw [w1, w2, w3, w4]
    unfold c_base c_roster c_parts c_given c_plays
    rw [c0, c1]
    refine ⟨?_, ?_, ?_, ?_⟩
    · by_cases e : f ≤ (w : Int) ∧ (w : Int) - f < y
      · rw [if_pos e, if_pos (by omega), (cy _ (by omega)).1]
      · rw [if_neg e, if_neg (by omega)]
    · by_cases e : f ≤ (w : Int) ∧ (w : Int) - f < y
      · rw [if_pos e, if_pos (by omega), (cy _ (by omega)).2]
      · rw [if_neg e, if_neg (by omega)]
    · by_cases e : f ≤ (w : Int) ∧ (w : Int) - f < 10
      · rw [if_pos e, if_pos (by omega), (cp _ (by omega)).1, Int.toNat_of_nonneg (by omega)]
      · rw [if_neg e, if_neg (by omega)]
    · by_cases e : (w : Int) = f
      · rw [if_pos e, if_pos (by omega), (cp _ (by omega)).2, if_pos (by omega)]
      · rw [if_neg e]
        by_cases e2 : 0 ≤ (w : Int) - f ∧ (w : Int) - f < 10
        · rw [if_pos e2, (cp _ (by omega)).2, if_neg (by omega)]
        · rw [if_neg e2]
/-! cells of row NOW -/
def zR (X : q_X) (a m : Nat) : q_X := fun c j => if c = 468 ∧ a ≤ j ∧ j < a + m then zi 0 else X c j
theorem zR_0 (X : q_X) (a : Nat) : zR X a 0 = X := by funext c j; unfold zR; rw [if_neg (by omega)]
theorem zR_s (X : q_X) (a m : Nat) : q_up (zR X a m) 468 (a + m) (zi 0) = zR X a (m + 1) := by
  funext c j
  by_cases h : c = 468 ∧ j = a + m
  · obtain ⟨rfl, rfl⟩ := h
    rw [q_up_same]; unfold zR; rw [if_pos (by omega)]
  · rw [q_up_ne _ _ h]; unfold zR
    by_cases h2 : c = 468 ∧ a ≤ j ∧ j < a + m
    · rw [if_pos h2, if_pos (by omega)]
    · rw [if_neg h2, if_neg (by omega)]
theorem zR_v (X : q_X) (a m j : Nat) : xv (zR X a m) 468 j = if a ≤ j ∧ j < a + m then 0 else xv X 468 j := by
  unfold xv zR
  by_cases h : a ≤ j ∧ j < a + m
  · rw [if_pos ⟨rfl, h⟩, if_pos h]; rfl
  · rw [if_neg (fun q => h q.2), if_neg h]
theorem zR_out {X : q_X} {a m : Nat} (h : a + m ≤ 3740) : rOut X (zR X a m) := fun c j _ _ _ h4 => by unfold zR; rw [if_neg (by omega)]
/-- a bonus is spread over cells that hold nothing -/
def spR (X : q_X) (a f : Nat) (x ov : Int) (m : Nat) : q_X := fun c j => if c = 468 ∧ a + 46 + f ≤ j ∧ j < a + 46 + f + m then zi (c_piece x ov ((j - (a + 46 + f) : Nat) : Int)) else if c = 468 ∧ j = a + 66 + f then zi x else X c j
theorem spR_0 {X : q_X} {a f : Nat} {x ov : Int} : spR X a f x ov 0 = q_up X 468 (a + 66 + f) (zi x) := by
  funext c j
  unfold spR
  rw [if_neg (by omega)]
  by_cases h : c = 468 ∧ j = a + 66 + f
  · obtain ⟨rfl, rfl⟩ := h
    rw [if_pos ⟨rfl, rfl⟩, q_up_same]
  · rw [if_neg h, q_up_ne _ _ h]
theorem spR_s {X : q_X} {a f : Nat} {x ov : Int} {m : Nat} (hm : f + m < 20) : q_up (spR X a f x ov m) 468 (a + 46 + f + m) (zi (c_piece x ov (m : Int))) = spR X a f x ov (m + 1) := by
  funext c j
  by_cases h : c = 468 ∧ j = a + 46 + f + m
  · obtain ⟨rfl, rfl⟩ := h
    rw [q_up_same]; unfold spR; rw [if_pos (by omega), show a + 46 + f + m - (a + 46 + f) = m by omega]
  · rw [q_up_ne _ _ h]; unfold spR
    by_cases h2 : c = 468 ∧ a + 46 + f ≤ j ∧ j < a + 46 + f + m
    · rw [if_pos h2, if_pos (by omega)]
    · rw [if_neg h2, if_neg (c := c = 468 ∧ a + 46 + f ≤ j ∧ j < a + 46 + f + (m + 1)) (by omega)]
theorem spR_v {X : q_X} {a f : Nat} {x ov : Int} {m : Nat} (hx : 0 ≤ x ∧ x ≤ 99999) (j : Nat) : xv (spR X a f x ov m) 468 j = if a + 46 + f ≤ j ∧ j < a + 46 + f + m then c_piece x ov ((j - (a + 46 + f) : Nat) : Int) else if j = a + 66 + f then x else xv X 468 j := by
  unfold xv spR
  by_cases h : a + 46 + f ≤ j ∧ j < a + 46 + f + m
  · rw [if_pos ⟨rfl, h⟩, if_pos h, zi_toInt (by have := c_piece_b (a := x) (ov := ov) (i := ((j - (a + 46 + f) : Nat) : Int)) hx.1; omega)]
  · rw [if_neg (fun q => h q.2), if_neg h]
    by_cases h2 : j = a + 66 + f
    · rw [if_pos ⟨rfl, h2⟩, if_pos h2, zi_toInt (by omega)]
    · rw [if_neg (fun q => h2 q.2), if_neg h2]
theorem spR_out {X X' : q_X} {a f : Nat} {x ov : Int} {m : Nat} (ho : rOut X X') (h : a + 66 + f < 3740 ∧ a + 46 + f + m ≤ 3740) : rOut X (spR X' a f x ov m) := fun c j h1 h2 h3 h4 => by
  unfold spR; rw [if_neg (by omega), if_neg (by omega)]; exact ho c j h1 h2 h3 h4
/-- offers behind one move up -/
def shR (X : q_X) (x t : Nat) : q_X := fun c j => if c = 468 ∧ x ≤ j ∧ j < t then X 468 (j + 4) else X c j
theorem shR_0 (X : q_X) (x : Nat) : shR X x x = X := by funext c j; unfold shR; rw [if_neg (by omega)]
theorem shR_s {X : q_X} {x t : Nat} (h : x ≤ t) : q_up (shR X x t) 468 t (zi (xv (shR X x t) 468 (t + 4))) = shR X x (t + 1) := by
  funext c j
  have hv : shR X x t 468 (t + 4) = X 468 (t + 4) := by unfold shR; rw [if_neg (by omega)]
  rw [zi_xv, hv]
  by_cases hj : c = 468 ∧ j = t
  · obtain ⟨rfl, rfl⟩ := hj
    rw [q_up_same]; unfold shR; rw [if_pos (by omega)]
  · rw [q_up_ne _ _ hj]; unfold shR
    by_cases h2 : c = 468 ∧ x ≤ j ∧ j < t
    · rw [if_pos h2, if_pos (by omega)]
    · rw [if_neg h2, if_neg (by omega)]
theorem shR_v (X : q_X) (x t j : Nat) : xv (shR X x t) 468 j = if x ≤ j ∧ j < t then xv X 468 (j + 4) else xv X 468 j := by
  unfold xv shR
  by_cases h : x ≤ j ∧ j < t
  · rw [if_pos ⟨rfl, h⟩, if_pos h]
  · rw [if_neg (fun q => h q.2), if_neg h]
theorem shR_out {X X' : q_X} {x t : Nat} (ho : rOut X X') (h : t ≤ 3740) : rOut X (shR X' x t) := fun c j h1 h2 h3 h4 => by
  unfold shR; rw [if_neg (by omega)]; exact ho c j h1 h2 h3 h4
set_option maxHeartbeats 4000000 in
set_option maxRecDepth 100000 in
theorem rX12_spreads {l : Launch} {g : q_G} {n : Nat} {P : q_P} {X : q_X} {Y : q_Y} (hm : isMod n P) {k f : Nat} {x y v : Int} (hk : k < 40) (hx : 0 ≤ x ∧ x ≤ 99999) (h0 : xv X 468 (130 + 86 * k) = (f : Int)) (h1 : xv X 468 ((130 + 86 * k) + 1) = y) (h2 : xv X 468 ((130 + 86 * k) + 2) = v) (hy : 1 ≤ y ∧ 0 ≤ v ∧ (f : Int) + y + v ≤ 20) (hz : ∀ w, w < 20 → xv X 468 ((130 + 86 * k) + 46 + w) = 0) : ∀ (w i : Nat), i + w = (min 5 (y + v)).toNat → q_Tr l g mX12_spreads 4 (q_gv (fun n' P' X' Y' => n' = n ∧ P' = P ∧ Y' = Y ∧ X' = spR X (130 + 86 * k) f x (y + v) (min 5 (y + v)).toNat)) 28 [(0, .ref (g.1 + 467)), (1, .int (zi (k : Int))), (2, .int (zi x)), (3, .int (zi (f : Int))), (4, .int (zi (min 5 (y + v)))), (5, .int (zi (i : Int)))] [] n P (spR X (130 + 86 * k) f x (y + v) i) Y := by
  obtain ⟨m0, m2, m3, m8, m9, m14, m15, m16, m17, m18, m20, m22, m25, hnm9⟩ := id hm
  intro w
  induction w with
  | zero =>
    intro i hi
    obtain rfl : i = (min 5 (y + v)).toNat := by omega
    refine r_iload (pc' := 30) dX12_spreads_28 rfl (.tail _ (.tail _ (.tail _ (.tail _ (.tail _ (.head _)))))) ?_
    refine r_iload (pc' := 32) dX12_spreads_30 rfl (.tail _ (.tail _ (.tail _ (.tail _ (.head _))))) ?_
    refine r_icmp_ge (t := 68) (f := 35) dX12_spreads_32 (by decide) rfl (by first | omega | exact xv_in _ _ _) (by first | omega | exact xv_in _ _ _) (fun h32 => ?_) (fun h32 => ?_)
    · refine r_return dX12_spreads_68 rfl ?_
      exact ⟨rfl, rfl, rfl, rfl, rfl⟩
    · exfalso; omega
  | succ w ih =>
    intro i hi
    have hcv : xv (spR X (130 + 86 * k) f x (y + v) i) 468 ((130 + 86 * k) + 46 + f + i) = 0 := by
      rw [spR_v hx, if_neg (by omega), if_neg (by omega)]
      have := hz (f + i) (by omega)
      rw [← this]; congr 1; omega
    refine r_iload (pc' := 30) dX12_spreads_28 rfl (.tail _ (.tail _ (.tail _ (.tail _ (.tail _ (.head _)))))) ?_
    refine r_iload (pc' := 32) dX12_spreads_30 rfl (.tail _ (.tail _ (.tail _ (.tail _ (.head _))))) ?_
    refine r_icmp_ge (t := 68) (f := 35) dX12_spreads_32 (by decide) rfl (by first | omega | exact xv_in _ _ _) (by first | omega | exact xv_in _ _ _) (fun h32 => ?_) (fun h32 => ?_)
    · exfalso; omega
    · refine r_aload_n (i := 0) (pc' := 36) dX12_spreads_35 rfl rfl (.head _) ?_
      refine r_getR (pc' := 39) dX12_spreads_36 rfl fX12_3 rfl (by first | assumption | rfl) (by omega) (by assumption) ?_
      refine r_iload_n (i := 1) (pc' := 40) dX12_spreads_39 rfl rfl (.tail _ (.head _)) ?_
      refine r_bipush (pc' := 42) dX12_spreads_40 rfl (by decide) ?_
      refine r_iload_n (i := 3) (pc' := 43) dX12_spreads_42 rfl rfl (.tail _ (.tail _ (.tail _ (.head _)))) ?_
      refine r_iadd (pc' := 44) dX12_spreads_43 rfl ?_
      refine r_iload (pc' := 46) dX12_spreads_44 rfl (.tail _ (.tail _ (.tail _ (.tail _ (.tail _ (.head _)))))) ?_
      refine r_iadd (pc' := 47) dX12_spreads_46 rfl ?_
      refine r_S2p (pc' := 50) dX12_spreads_47 rfl lX12_111 (by decide) (Nat.le_of_ble_eq_true rfl) (tX12_placeOf ) ?_
      refine r_dup2 (pc' := 51) dX12_spreads_50 rfl rfl rfl ?_
      refine r_iaload (pc' := 52) dX12_spreads_51 rfl (by first | assumption | rfl) (by omega) (by omega) (by omega) (by first | decide | omega) (show _ = (130 + 86 * k) + 46 + f + i by omega) ?_
      rw [hcv]
      refine r_iload_n (i := 2) (pc' := 53) dX12_spreads_52 rfl rfl (.tail _ (.tail _ (.head _))) ?_
      refine r_iload (pc' := 55) dX12_spreads_53 rfl (.tail _ (.tail _ (.tail _ (.tail _ (.head _))))) ?_
      refine r_iload (pc' := 57) dX12_spreads_55 rfl (.tail _ (.tail _ (.tail _ (.tail _ (.tail _ (.head _)))))) ?_
      refine r_S3p (pc' := 60) dX12_spreads_57 rfl lX12_128 (by decide) (Nat.le_of_ble_eq_true rfl) (tX12_pieceOf (ov := (y + v)) (by omega) (by omega) (by omega)) ?_
      refine r_iadd (pc' := 61) dX12_spreads_60 rfl ?_
      rw [Int.zero_add]
      refine r_iastore (pc' := 62) dX12_spreads_61 rfl (by first | assumption | rfl) (by omega) (by omega) (by omega) (by first | decide | omega) (show _ = (130 + 86 * k) + 46 + f + i by omega) ?_
      refine r_iinc (pc' := 65) dX12_spreads_62 rfl rfl (.tail _ (.tail _ (.tail _ (.tail _ (.tail _ (.head _)))))) (.s1 (.s1 (.s1 (.s1 (.s1 (.here .nil) rfl rfl rfl) rfl rfl rfl) rfl rfl rfl) rfl rfl rfl) rfl rfl rfl) ?_
      refine r_goto (t := 28) dX12_spreads_65 (by decide) ?_
      rw [spR_s (by omega)]
      exact ih (i + 1) (by omega)
set_option maxHeartbeats 4000000 in
set_option maxRecDepth 100000 in
theorem tR_lastOf {l : Launch} {g : q_G} {n : Nat} {P : q_P} {X : q_X} {Y : q_Y} (hm : isMod n P) {k : Nat} {f y v : Int} (hk : k < 40) (h0 : xv X 468 (130 + 86 * k) = f) (h1 : xv X 468 ((130 + 86 * k) + 1) = y) (h2 : xv X 468 ((130 + 86 * k) + 2) = v) : q_Met l g mX12_lastOf 2 [.ref (g.1 + 467), .int (zi (k : Int))] n P X Y (q_pv (.int (zi (f + y + v - 1))) n P X Y) := by
  obtain ⟨m0, m2, m3, m8, m9, m14, m15, m16, m17, m18, m20, m22, m25, hnm9⟩ := id hm
  refine q_enter (L := [(0, .ref (g.1 + 467)), (1, .int (zi (k : Int)))]) (by decide) (Nat.le_of_ble_eq_true rfl) rfl ?_
  refine r_aload_n (i := 0) (pc' := 1) dX12_lastOf_0 rfl rfl (.head _) ?_
  refine r_iload_n (i := 1) (pc' := 2) dX12_lastOf_1 rfl rfl (.tail _ (.head _)) ?_
  refine r_iconst (pc' := 3) dX12_lastOf_2 rfl ?_
  refine r_V2p (ci := 12) (pc' := 6) dX12_lastOf_3 rfl lX12_115 rfl (by decide) (Nat.le_of_ble_eq_true rfl) (by first | assumption | rfl) (by omega) (tX12_of hm (k := (k : Int)) (w := 0) (by omega) (by omega)) ?_
  rw [show (130 + 86 * (k : Int) + 0).toNat = 130 + 86 * k by omega, h0]
  refine r_aload_n (i := 0) (pc' := 7) dX12_lastOf_6 rfl rfl (.head _) ?_
  refine r_iload_n (i := 1) (pc' := 8) dX12_lastOf_7 rfl rfl (.tail _ (.head _)) ?_
  refine r_iconst (pc' := 9) dX12_lastOf_8 rfl ?_
  refine r_V2p (ci := 12) (pc' := 12) dX12_lastOf_9 rfl lX12_115 rfl (by decide) (Nat.le_of_ble_eq_true rfl) (by first | assumption | rfl) (by omega) (tX12_of hm (k := (k : Int)) (w := 1) (by omega) (by omega)) ?_
  rw [show (130 + 86 * (k : Int) + 1).toNat = 130 + 86 * k + 1 by omega, h1]
  refine r_iadd (pc' := 13) dX12_lastOf_12 rfl ?_
  refine r_aload_n (i := 0) (pc' := 14) dX12_lastOf_13 rfl rfl (.head _) ?_
  refine r_iload_n (i := 1) (pc' := 15) dX12_lastOf_14 rfl rfl (.tail _ (.head _)) ?_
  refine r_iconst (pc' := 16) dX12_lastOf_15 rfl ?_
  refine r_V2p (ci := 12) (pc' := 19) dX12_lastOf_16 rfl lX12_115 rfl (by decide) (Nat.le_of_ble_eq_true rfl) (by first | assumption | rfl) (by omega) (tX12_of hm (k := (k : Int)) (w := 2) (by omega) (by omega)) ?_
  rw [show (130 + 86 * (k : Int) + 2).toNat = 130 + 86 * k + 2 by omega, h2]
  refine r_iadd (pc' := 20) dX12_lastOf_19 rfl ?_
  refine r_iconst (pc' := 21) dX12_lastOf_20 rfl ?_
  refine r_isub (pc' := 22) dX12_lastOf_21 rfl ?_
  refine r_ireturn dX12_lastOf_22 rfl ?_
  exact ⟨rfl, rfl, rfl, rfl, rfl⟩
set_option maxHeartbeats 4000000 in
set_option maxRecDepth 100000 in
theorem tR_partsFrom {l : Launch} {g : q_G} {n : Nat} {P : q_P} {X : q_X} {Y : q_Y} (hm : isMod n P) {k : Nat} {f y v y0 : Int} (hk : k < 40) (h0 : xv X 468 (130 + 86 * k) = f) (h1 : xv X 468 ((130 + 86 * k) + 1) = y) (h2 : xv X 468 ((130 + 86 * k) + 2) = v) (hb : -1000 ≤ f + y + v ∧ f + y + v ≤ 1000) (hy0 : -1000 ≤ y0 ∧ y0 ≤ 1000) : q_Met l g mX12_partsFrom 3 [.ref (g.1 + 467), .int (zi (k : Int)), .int (zi y0)] n P X Y (q_pv (.int (zi (min 5 (f + y + v - 1 - y0 + 1)))) n P X Y) := by
  obtain ⟨m0, m2, m3, m8, m9, m14, m15, m16, m17, m18, m20, m22, m25, hnm9⟩ := id hm
  refine q_enter (L := [(0, .ref (g.1 + 467)), (1, .int (zi (k : Int))), (2, .int (zi y0))]) (by decide) (Nat.le_of_ble_eq_true rfl) rfl ?_
  refine r_iconst (pc' := 1) dX12_partsFrom_0 rfl ?_
  refine r_aload_n (i := 0) (pc' := 2) dX12_partsFrom_1 rfl rfl (.head _) ?_
  refine r_iload_n (i := 1) (pc' := 3) dX12_partsFrom_2 rfl rfl (.tail _ (.head _)) ?_
  refine r_V1p (ci := 12) (pc' := 6) dX12_partsFrom_3 rfl lX12_118 rfl (by decide) (Nat.le_of_ble_eq_true rfl) (by first | assumption | rfl) (by omega) (tR_lastOf hm hk h0 h1 h2) ?_
  refine r_iload_n (i := 2) (pc' := 7) dX12_partsFrom_6 rfl rfl (.tail _ (.tail _ (.head _))) ?_
  refine r_isub (pc' := 8) dX12_partsFrom_7 rfl ?_
  refine r_iconst (pc' := 9) dX12_partsFrom_8 rfl ?_
  refine r_iadd (pc' := 10) dX12_partsFrom_9 rfl ?_
  refine r_S2p (pc' := 13) dX12_partsFrom_10 rfl lX12_122 (by decide) (Nat.le_of_ble_eq_true rfl) (tX12_lesser (by omega) (by omega)) ?_
  refine r_ireturn dX12_partsFrom_13 rfl ?_
  exact ⟨rfl, rfl, rfl, rfl, rfl⟩
set_option maxHeartbeats 4000000 in
set_option maxRecDepth 100000 in
theorem tR_spreads {l : Launch} {g : q_G} {n : Nat} {P : q_P} {X : q_X} {Y : q_Y} (hm : isMod n P) {k f : Nat} {x y v : Int} (hk : k < 40) (hx : 0 ≤ x ∧ x ≤ 99999) (h0 : xv X 468 (130 + 86 * k) = (f : Int)) (h1 : xv X 468 ((130 + 86 * k) + 1) = y) (h2 : xv X 468 ((130 + 86 * k) + 2) = v) (hy : 1 ≤ y ∧ 0 ≤ v ∧ (f : Int) + y + v ≤ 20) (hz : ∀ w, w < 20 → xv X 468 ((130 + 86 * k) + 46 + w) = 0) (hz2 : xv X 468 ((130 + 86 * k) + 66 + f) = 0) : q_Met l g mX12_spreads 4 [.ref (g.1 + 467), .int (zi (k : Int)), .int (zi x), .int (zi (f : Int))] n P X Y (q_gv (fun n' P' X' Y' => n' = n ∧ P' = P ∧ Y' = Y ∧ X' = spR X (130 + 86 * k) f x (y + v) (min 5 (y + v)).toNat)) := by
  obtain ⟨m0, m2, m3, m8, m9, m14, m15, m16, m17, m18, m20, m22, m25, hnm9⟩ := id hm
  refine q_enter (L := [(0, .ref (g.1 + 467)), (1, .int (zi (k : Int))), (2, .int (zi x)), (3, .int (zi (f : Int)))]) (by decide) (Nat.le_of_ble_eq_true rfl) rfl ?_
  refine r_aload_n (i := 0) (pc' := 1) dX12_spreads_0 rfl rfl (.head _) ?_
  refine r_iload_n (i := 1) (pc' := 2) dX12_spreads_1 rfl rfl (.tail _ (.head _)) ?_
  refine r_iload_n (i := 3) (pc' := 3) dX12_spreads_2 rfl rfl (.tail _ (.tail _ (.tail _ (.head _)))) ?_
  refine r_V2p (ci := 12) (pc' := 6) dX12_spreads_3 rfl lX12_125 rfl (by decide) (Nat.le_of_ble_eq_true rfl) (by first | assumption | rfl) (by omega) (tR_partsFrom hm hk h0 h1 h2 (y0 := (f : Int)) (by omega) (by omega)) ?_
  rw [show (f : Int) + y + v - 1 - (f : Int) + 1 = y + v by omega]
  refine r_istore (pc' := 8) dX12_spreads_6 rfl rfl (.s1 (.s1 (.s1 (.s1 .nil rfl rfl rfl) rfl rfl rfl) rfl rfl rfl) rfl rfl rfl) ?_
  refine r_aload_n (i := 0) (pc' := 9) dX12_spreads_8 rfl rfl (.head _) ?_
  refine r_getR (pc' := 12) dX12_spreads_9 rfl fX12_3 rfl (by first | assumption | rfl) (by omega) (by assumption) ?_
  refine r_iload_n (i := 1) (pc' := 13) dX12_spreads_12 rfl rfl (.tail _ (.head _)) ?_
  refine r_bipush (pc' := 15) dX12_spreads_13 rfl (by decide) ?_
  refine r_iload_n (i := 3) (pc' := 16) dX12_spreads_15 rfl rfl (.tail _ (.tail _ (.tail _ (.head _)))) ?_
  refine r_iadd (pc' := 17) dX12_spreads_16 rfl ?_
  refine r_S2p (pc' := 20) dX12_spreads_17 rfl lX12_111 (by decide) (Nat.le_of_ble_eq_true rfl) (tX12_placeOf ) ?_
  refine r_dup2 (pc' := 21) dX12_spreads_20 rfl rfl rfl ?_
  refine r_iaload (pc' := 22) dX12_spreads_21 rfl (by first | assumption | rfl) (by omega) (by omega) (by omega) (by first | decide | omega) (show _ = (130 + 86 * k) + 66 + f by omega) ?_
  rw [hz2]
  refine r_iload_n (i := 2) (pc' := 23) dX12_spreads_22 rfl rfl (.tail _ (.tail _ (.head _))) ?_
  refine r_iadd (pc' := 24) dX12_spreads_23 rfl ?_
  rw [Int.zero_add]
  refine r_iastore (pc' := 25) dX12_spreads_24 rfl (by first | assumption | rfl) (by omega) (by omega) (by omega) (by first | decide | omega) (show _ = (130 + 86 * k) + 66 + f by omega) ?_
  refine r_iconst (pc' := 26) dX12_spreads_25 rfl ?_
  refine r_istore (pc' := 28) dX12_spreads_26 rfl rfl (.s1 (.s1 (.s1 (.s1 (.s1 .nil rfl rfl rfl) rfl rfl rfl) rfl rfl rfl) rfl rfl rfl) rfl rfl rfl) ?_
  rw [← spR_0 (ov := (y + v))]
  exact rX12_spreads hm hk hx h0 h1 h2 hy hz _ 0 (Nat.zero_add _)
