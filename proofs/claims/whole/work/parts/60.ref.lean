/-! THE REFERENCE: its object at 467, its one row at 468 (12 rows of 3740) -/
def isMod (n : Nat) (P : q_P) : Prop := P 467 0 = some 468 ∧ P 467 2 = some 469 ∧ P 467 3 = some 470 ∧ P 467 8 = some 471 ∧ P 467 9 = some 472 ∧ P 467 14 = some 473 ∧ P 467 15 = some 474 ∧ P 467 16 = some 475 ∧ P 467 17 = some 476 ∧ P 467 18 = some 477 ∧ P 467 20 = some 478 ∧ P 467 22 = some 479 ∧ P 467 25 = some 480 ∧ 481 ≤ n
def RC (C : q_X) (c : Nat) (r : Nat → Int) : Prop := (∀ j, j < 6 → r j = xv C c j) ∧ ∀ y : Nat, y < 20 → r (6 + y) = c_base C c y ∧ r (26 + y) = c_roster C c y ∧ r (46 + y) = c_parts C c y ∧ r (66 + y) = c_given C c y
/-- a token of the class, a code of the reference -/
def tk (t c : Int) : Prop := (0 ≤ t ∧ t ≤ 999999 ∧ c = t) ∨ (-6 ≤ t ∧ t < 0 ∧ c = 999999 - t) ∨ ((t = -42 ∨ t = -43 ∨ t = -45) ∧ c = 2000000 - t)
def RF (C : q_X) (b : Nat) (R : Nat → Int) : Prop := R 9 = xv C (b + 15) 0 ∧ (0 ≤ R 8 ∧ (R 8 = 0 ↔ R 9 = 0)) ∧ ∀ i : Nat, (i : Int) < xv C (b + 15) 0 → tk (xv C (b + 16) i) (R (50 + i))
def RM (C : q_X) (b : Nat) (R : Nat → Int) : Prop := R 3570 = xv C (b + 10) 0 ∧ ∀ i : Nat, (i : Int) < xv C (b + 10) 0 → R (3572 + 4 * i) = xv C (b + 11) i ∧ R (3572 + 4 * i + 1) = xv C (b + 12) i ∧ R (3572 + 4 * i + 2) = xv C (b + 13) i ∧ R (3572 + 4 * i + 3) = xv C (b + 14) i
def RP (C : q_X) (b : Nat) (R : Nat → Int) : Prop := R 3571 = xv C (b + 4) 0 ∧ ∀ i : Nat, (i : Int) < xv C (b + 4) 0 → R (3620 + 5 * i) = xv C (b + 5) i ∧ R (3620 + 5 * i + 1) = xv C (b + 6) i ∧ R (3620 + 5 * i + 2) = xv C (b + 7) i ∧ R (3620 + 5 * i + 3) = xv C (b + 8) i ∧ R (3620 + 5 * i + 4) = xv C (b + 9) i
/-- books b of the store C are what a row of the reference says -/
def RB (C : q_X) (b : Nat) (R : Nat → Int) : Prop := ((∀ j, j < 7 → R j = xv C b j) ∧ R 7 = xv C b 10) ∧ (∀ y : Nat, y < 20 → R (10 + y) = xv C (b + 1) y ∧ R (30 + y) = xv C (b + 2) y) ∧ (∀ k : Nat, (k : Int) < xv C b 10 → RC C (con b k) (fun j => R (130 + 86 * k + j))) ∧ RM C b R ∧ RP C b R ∧ RF C b R
theorem RB.z {C : q_X} {b : Nat} {R : Nat → Int} (h : RB C b R) (j : Nat) (hj : j < 7) : R j = xv C b j := h.1.1 j hj
theorem RB.m {C : q_X} {b : Nat} {R : Nat → Int} (h : RB C b R) : R 7 = xv C b 10 := h.1.2
theorem RB.om {C : q_X} {b : Nat} {R : Nat → Int} (h : RB C b R) : R 3570 = xv C (b + 10) 0 := h.2.2.2.1.1
theorem RB.pm {C : q_X} {b : Nat} {R : Nat → Int} (h : RB C b R) : R 3571 = xv C (b + 4) 0 := h.2.2.2.2.1.1
theorem RB.cm {C : q_X} {b : Nat} {R : Nat → Int} (h : RB C b R) : R 9 = xv C (b + 15) 0 := h.2.2.2.2.2.1
theorem RB.lim {C : q_X} {b : Nat} {R : Nat → Int} (h : RB C b R) {y : Int} (hy : 0 ≤ y ∧ y < 20) : R (10 + y).toNat = xv C (b + 1) y.toNat := by
  rw [← (h.2.1 y.toNat (by omega)).1]; congr 1; omega
theorem RB.dead {C : q_X} {b : Nat} {R : Nat → Int} (h : RB C b R) {y : Int} (hy : 0 ≤ y ∧ y < 20) : R (30 + y).toNat = xv C (b + 2) y.toNat := by
  rw [← (h.2.1 y.toNat (by omega)).2]; congr 1; omega
theorem RB.f {C : q_X} {b : Nat} {R : Nat → Int} (h : RB C b R) {k : Nat} (hk : (k : Int) < xv C b 10) {j : Nat} (hj : j < 6) : R (130 + 86 * k + j) = xv C (con b k) j := (h.2.2.1 k hk).1 j hj
theorem RB.y {C : q_X} {b : Nat} {R : Nat → Int} (h : RB C b R) {k : Nat} (hk : (k : Int) < xv C b 10) {y : Nat} (hy : y < 20) : R (130 + 86 * k + (6 + y)) = c_base C (con b k) y ∧ R (130 + 86 * k + (26 + y)) = c_roster C (con b k) y ∧ R (130 + 86 * k + (46 + y)) = c_parts C (con b k) y ∧ R (130 + 86 * k + (66 + y)) = c_given C (con b k) y := (h.2.2.1 k hk).2 y hy
theorem li_z {z : Int} (h : q_in z) : (zi z).toInt64.toInt = z := by rw [Int32.toInt_toInt64, zi_toInt h]
theorem c_from_step {X : q_X} {c : Nat} (y : Int) : c_from X c y = c_parts X c y + c_from X c (y + 1) := by
  unfold c_from c_parts
  by_cases h : y < xv X c 0
  · rw [show max 0 (y - xv X c 0) = 0 by omega, show max 0 (y + 1 - xv X c 0) = 0 by omega, if_neg (by omega), Int.zero_add]
  · obtain ⟨s, hs⟩ : ∃ s : Nat, y - xv X c 0 = s := ⟨(y - xv X c 0).toNat, by omega⟩
    rw [show y + 1 - xv X c 0 = ((s + 1 : Nat) : Int) by omega, hs, show max 0 (s : Int) = (s : Int) by omega, show max 0 ((s + 1 : Nat) : Int) = ((s + 1 : Nat) : Int) by omega, Int.toNat_natCast, Int.toNat_natCast]
    by_cases h10 : s < 10
    · rw [if_pos (by omega), show 10 - s = 10 - (s + 1) + 1 by omega, q_sum]
    · rw [if_neg (by omega), show 10 - s = 0 by omega, show 10 - (s + 1) = 0 by omega]; simp [q_sum]
theorem c_from_20 {X : q_X} {c : Nat} (h : cOk X c) {y : Int} (hy : 20 ≤ y) : c_from X c y = 0 := by
  unfold c_from
  have h1 := h.1
  have h2 := h.2.1
  exact q_sum_0 _ _ (fun j j1 j2 => (h.2.2.2.2.1 j (by omega)).2.2.2.2.2.2.2 (by omega))
theorem c_from_sum {X : q_X} {c : Nat} (h : cOk X c) : ∀ (w y : Nat), y + w = 20 → q_sum (fun y => c_parts X c (y : Int)) y w = c_from X c (y : Int)
  | 0, y, hy => by rw [c_from_20 h (by omega)]; rfl
  | w + 1, y, hy => by rw [q_sum, c_from_sum h w (y + 1) (by omega), c_from_step (y : Int)]; rfl
/-- what the reference leaves alone -/
def mOut (X X' : q_X) : Prop := ∀ a, a < 467 ∨ 480 < a → X' a = X a
theorem mOut.rfl {X : q_X} : mOut X X := fun _ _ => Eq.refl _
theorem mOut.up {X X' : q_X} (h : mOut X X') {a : Nat} (j : Nat) (v : Int32) (ha : 467 ≤ a ∧ a ≤ 480) : mOut X (q_up X' a j v) := fun c hc => by
  rw [← h c hc]; funext q; exact q_up_ne _ _ (by omega)
theorem mOut.trans {X X' X2 : q_X} (h : mOut X X') (h2 : mOut X' X2) : mOut X X2 := fun a ha => (h2 a ha).trans (h a ha)
theorem i64_0 : Int64.toInt (0) = 0 := by decide
theorem i64_1 : Int64.toInt (1) = 1 := by decide
theorem i64_2 : Int64.toInt (2) = 2 := by decide
theorem i64_3 : Int64.toInt (3) = 3 := by decide
theorem i64_4 : Int64.toInt (4) = 4 := by decide
theorem i64_5 : Int64.toInt (5) = 5 := by decide
theorem i64_6 : Int64.toInt (6) = 6 := by decide
theorem i64_7 : Int64.toInt (7) = 7 := by decide
theorem i64_10 : Int64.toInt (10) = 10 := by decide
theorem i64_19 : Int64.toInt (19) = 19 := by decide
theorem i64_40 : Int64.toInt (40) = 40 := by decide
theorem i64_100 : Int64.toInt (100) = 100 := by decide
theorem i64_364 : Int64.toInt (364) = 364 := by decide
theorem i64_9999 : Int64.toInt (9999) = 9999 := by decide
theorem i64_99999 : Int64.toInt (99999) = 99999 := by decide
theorem i64_999999 : Int64.toInt (999999) = 999999 := by decide
theorem i64_m999999 : Int64.toInt (-999999) = -999999 := by decide
theorem lg_cmp_li {a b : Int64} {x y : Int} (ha : a.toInt = x) (hb : b.toInt = y) : lg_cmp a b = zi (if x < y then -1 else if x = y then 0 else 1) := by
  subst ha; subst hb
  rw [lg_cmp_z]
  by_cases h : a < b
  · rw [if_pos h, if_pos (Int64.lt_iff_toInt_lt.mp h)]
  · rw [if_neg h, if_neg (fun q => h (Int64.lt_iff_toInt_lt.mpr q))]
    by_cases e : a = b
    · rw [if_pos e, if_pos (by rw [e])]
    · rw [if_neg e, if_neg (fun q => e (Int64.toInt_inj.mp q))]
set_option maxHeartbeats 4000000 in
set_option maxRecDepth 100000 in
theorem tX12_isIn {l : Launch} {g : q_G} {n : Nat} {P : q_P} {X : q_X} {Y : q_Y} {a lo hi : Int64} {z l1 h1 : Int} (ha : a.toInt = z) (hl : lo.toInt = l1) (hh : hi.toInt = h1) : q_Met l g mX12_isIn 0 [.long a, .long lo, .long hi] n P X Y (q_pv (.int (zi (if l1 ≤ z ∧ z ≤ h1 then 1 else 0))) n P X Y) := by
  refine q_enter (L := [(0, .long a), (2, .long lo), (4, .long hi)]) (by decide) (Nat.le_of_ble_eq_true rfl) rfl ?_
  refine r_lload_n (i := 0) (pc' := 1) dX12_isIn_0 rfl rfl (.head _) ?_
  refine r_lload_n (i := 2) (pc' := 2) dX12_isIn_1 rfl rfl (.tail _ (.head _)) ?_
  refine r_lcmp (pc' := 3) dX12_isIn_2 rfl ?_
  rw [lg_cmp_li ha hl]
  refine r_if_lt (t := 17) (f := 6) dX12_isIn_3 (by decide) rfl (by split <;> first | omega | (split <;> omega)) (fun h3 => ?_) (fun h3 => ?_)
  · refine r_iconst (pc' := 18) dX12_isIn_17 rfl ?_
    refine r_zreturn dX12_isIn_18 rfl (by decide) ?_
    refine ⟨?_, rfl, rfl, rfl, rfl⟩
    (repeat' split at *) <;> first | rfl | (exfalso; omega)
  · refine r_lload_n (i := 0) (pc' := 7) dX12_isIn_6 rfl rfl (.head _) ?_
    refine r_lload (pc' := 9) dX12_isIn_7 rfl (.tail _ (.tail _ (.head _))) ?_
    refine r_lcmp (pc' := 10) dX12_isIn_9 rfl ?_
    rw [lg_cmp_li ha hh]
    refine r_if_gt (t := 17) (f := 13) dX12_isIn_10 (by decide) rfl (by split <;> first | omega | (split <;> omega)) (fun h10 => ?_) (fun h10 => ?_)
    · refine r_iconst (pc' := 18) dX12_isIn_17 rfl ?_
      refine r_zreturn dX12_isIn_18 rfl (by decide) ?_
      refine ⟨?_, rfl, rfl, rfl, rfl⟩
      (repeat' split at *) <;> first | rfl | (exfalso; omega)
    · refine r_iconst (pc' := 14) dX12_isIn_13 rfl ?_
      refine r_goto (t := 18) dX12_isIn_14 (by decide) ?_
      refine r_zreturn dX12_isIn_18 rfl (by decide) ?_
      refine ⟨?_, rfl, rfl, rfl, rfl⟩
      (repeat' split at *) <;> first | rfl | (exfalso; omega)
set_option maxHeartbeats 4000000 in
set_option maxRecDepth 100000 in
theorem tX12_placeOf {l : Launch} {g : q_G} {n : Nat} {P : q_P} {X : q_X} {Y : q_Y} {k w : Int} : q_Met l g mX12_placeOf 0 [.int (zi k), .int (zi w)] n P X Y (q_pv (.int (zi (130 + 86 * k + w))) n P X Y) := by
  skip
  refine q_enter (L := [(0, .int (zi k)), (1, .int (zi w))]) (by decide) (Nat.le_of_ble_eq_true rfl) rfl ?_
  refine r_sipush (pc' := 3) dX12_placeOf_0 rfl (by decide) ?_
  refine r_bipush (pc' := 5) dX12_placeOf_3 rfl (by decide) ?_
  refine r_iload_n (i := 0) (pc' := 6) dX12_placeOf_5 rfl rfl (.head _) ?_
  refine r_imul (pc' := 7) dX12_placeOf_6 rfl ?_
  refine r_iadd (pc' := 8) dX12_placeOf_7 rfl ?_
  refine r_iload_n (i := 1) (pc' := 9) dX12_placeOf_8 rfl rfl (.tail _ (.head _)) ?_
  refine r_iadd (pc' := 10) dX12_placeOf_9 rfl ?_
  refine r_ireturn dX12_placeOf_10 rfl ?_
  exact ⟨rfl, rfl, rfl, rfl, rfl⟩
set_option maxHeartbeats 4000000 in
set_option maxRecDepth 100000 in
theorem tX12_of {l : Launch} {g : q_G} {n : Nat} {P : q_P} {X : q_X} {Y : q_Y} (hm : isMod n P) {k w : Int} (h0 : 0 ≤ 130 + 86 * k + w) (h1 : 130 + 86 * k + w < 44880) : q_Met l g mX12_of 1 [.ref (g.1 + 467), .int (zi k), .int (zi w)] n P X Y (q_pv (.int (zi (xv X 468 (130 + 86 * k + w).toNat))) n P X Y) := by
  obtain ⟨m0, m2, m3, m8, m9, m14, m15, m16, m17, m18, m20, m22, m25, hnm9⟩ := id hm
  refine q_enter (L := [(0, .ref (g.1 + 467)), (1, .int (zi k)), (2, .int (zi w))]) (by decide) (Nat.le_of_ble_eq_true rfl) rfl ?_
  refine r_aload_n (i := 0) (pc' := 1) dX12_of_0 rfl rfl (.head _) ?_
  refine r_getR (pc' := 4) dX12_of_1 rfl fX12_3 rfl (by first | assumption | rfl) (by omega) (by assumption) ?_
  refine r_iload_n (i := 1) (pc' := 5) dX12_of_4 rfl rfl (.tail _ (.head _)) ?_
  refine r_iload_n (i := 2) (pc' := 6) dX12_of_5 rfl rfl (.tail _ (.tail _ (.head _))) ?_
  refine r_S2p (pc' := 9) dX12_of_6 rfl lX12_111 (by decide) (Nat.le_of_ble_eq_true rfl) (tX12_placeOf ) ?_
  refine r_iaload (pc' := 10) dX12_of_9 rfl (by first | assumption | rfl) (by omega) (by omega) (by omega) (by first | decide | omega) rfl ?_
  refine r_ireturn dX12_of_10 rfl ?_
  exact ⟨rfl, rfl, rfl, rfl, rfl⟩
set_option maxHeartbeats 4000000 in
set_option maxRecDepth 100000 in
theorem tO_0 {l : Launch} {g : q_G} {n : Nat} {P : q_P} {X : q_X} {Y : q_Y} (hm : isMod n P) {C : q_X} {b : Nat} (hR : RB C b (xv X 468)) (hO : bOk C b) {k : Nat} (hk : (k : Int) < xv C b 10) : q_Met l g mX12_of 1 [.ref (g.1 + 467), .int (zi (k : Int)), .int (zi 0)] n P X Y (q_pv (.int (zi (xv C (con b k) 0))) n P X Y) := by
  have := tX12_of (l := l) (g := g) (n := n) (P := P) (X := X) (Y := Y) (k := (k : Int)) (w := 0) hm (by omega) (by have := hO.2.2.2.2.2.2.2.1; omega)
  rw [show (130 + 86 * (k : Int) + 0).toNat = 130 + 86 * k + 0 by omega, hR.f hk (by decide)] at this
  exact this
set_option maxHeartbeats 4000000 in
set_option maxRecDepth 100000 in
theorem tO_1 {l : Launch} {g : q_G} {n : Nat} {P : q_P} {X : q_X} {Y : q_Y} (hm : isMod n P) {C : q_X} {b : Nat} (hR : RB C b (xv X 468)) (hO : bOk C b) {k : Nat} (hk : (k : Int) < xv C b 10) : q_Met l g mX12_of 1 [.ref (g.1 + 467), .int (zi (k : Int)), .int (zi 1)] n P X Y (q_pv (.int (zi (xv C (con b k) 1))) n P X Y) := by
  have := tX12_of (l := l) (g := g) (n := n) (P := P) (X := X) (Y := Y) (k := (k : Int)) (w := 1) hm (by omega) (by have := hO.2.2.2.2.2.2.2.1; omega)
  rw [show (130 + 86 * (k : Int) + 1).toNat = 130 + 86 * k + 1 by omega, hR.f hk (by decide)] at this
  exact this
set_option maxHeartbeats 4000000 in
set_option maxRecDepth 100000 in
theorem tO_2 {l : Launch} {g : q_G} {n : Nat} {P : q_P} {X : q_X} {Y : q_Y} (hm : isMod n P) {C : q_X} {b : Nat} (hR : RB C b (xv X 468)) (hO : bOk C b) {k : Nat} (hk : (k : Int) < xv C b 10) : q_Met l g mX12_of 1 [.ref (g.1 + 467), .int (zi (k : Int)), .int (zi 2)] n P X Y (q_pv (.int (zi (xv C (con b k) 2))) n P X Y) := by
  have := tX12_of (l := l) (g := g) (n := n) (P := P) (X := X) (Y := Y) (k := (k : Int)) (w := 2) hm (by omega) (by have := hO.2.2.2.2.2.2.2.1; omega)
  rw [show (130 + 86 * (k : Int) + 2).toNat = 130 + 86 * k + 2 by omega, hR.f hk (by decide)] at this
  exact this
set_option maxHeartbeats 4000000 in
set_option maxRecDepth 100000 in
theorem tO_3 {l : Launch} {g : q_G} {n : Nat} {P : q_P} {X : q_X} {Y : q_Y} (hm : isMod n P) {C : q_X} {b : Nat} (hR : RB C b (xv X 468)) (hO : bOk C b) {k : Nat} (hk : (k : Int) < xv C b 10) : q_Met l g mX12_of 1 [.ref (g.1 + 467), .int (zi (k : Int)), .int (zi 3)] n P X Y (q_pv (.int (zi (xv C (con b k) 3))) n P X Y) := by
  have := tX12_of (l := l) (g := g) (n := n) (P := P) (X := X) (Y := Y) (k := (k : Int)) (w := 3) hm (by omega) (by have := hO.2.2.2.2.2.2.2.1; omega)
  rw [show (130 + 86 * (k : Int) + 3).toNat = 130 + 86 * k + 3 by omega, hR.f hk (by decide)] at this
  exact this
set_option maxHeartbeats 4000000 in
set_option maxRecDepth 100000 in
theorem tO_4 {l : Launch} {g : q_G} {n : Nat} {P : q_P} {X : q_X} {Y : q_Y} (hm : isMod n P) {C : q_X} {b : Nat} (hR : RB C b (xv X 468)) (hO : bOk C b) {k : Nat} (hk : (k : Int) < xv C b 10) : q_Met l g mX12_of 1 [.ref (g.1 + 467), .int (zi (k : Int)), .int (zi 4)] n P X Y (q_pv (.int (zi (xv C (con b k) 4))) n P X Y) := by
  have := tX12_of (l := l) (g := g) (n := n) (P := P) (X := X) (Y := Y) (k := (k : Int)) (w := 4) hm (by omega) (by have := hO.2.2.2.2.2.2.2.1; omega)
  rw [show (130 + 86 * (k : Int) + 4).toNat = 130 + 86 * k + 4 by omega, hR.f hk (by decide)] at this
  exact this
set_option maxHeartbeats 4000000 in
set_option maxRecDepth 100000 in
theorem tO_5 {l : Launch} {g : q_G} {n : Nat} {P : q_P} {X : q_X} {Y : q_Y} (hm : isMod n P) {C : q_X} {b : Nat} (hR : RB C b (xv X 468)) (hO : bOk C b) {k : Nat} (hk : (k : Int) < xv C b 10) : q_Met l g mX12_of 1 [.ref (g.1 + 467), .int (zi (k : Int)), .int (zi 5)] n P X Y (q_pv (.int (zi (xv C (con b k) 5))) n P X Y) := by
  have := tX12_of (l := l) (g := g) (n := n) (P := P) (X := X) (Y := Y) (k := (k : Int)) (w := 5) hm (by omega) (by have := hO.2.2.2.2.2.2.2.1; omega)
  rw [show (130 + 86 * (k : Int) + 5).toNat = 130 + 86 * k + 5 by omega, hR.f hk (by decide)] at this
  exact this
set_option maxHeartbeats 4000000 in
set_option maxRecDepth 100000 in
theorem tO_b {l : Launch} {g : q_G} {n : Nat} {P : q_P} {X : q_X} {Y : q_Y} (hm : isMod n P) {C : q_X} {b : Nat} (hR : RB C b (xv X 468)) (hO : bOk C b) {k : Nat} (hk : (k : Int) < xv C b 10) {y : Int} (hy : 0 ≤ y ∧ y < 20) : q_Met l g mX12_of 1 [.ref (g.1 + 467), .int (zi (k : Int)), .int (zi (6 + y))] n P X Y (q_pv (.int (zi (c_base C (con b k) y))) n P X Y) := by
  have := tX12_of (l := l) (g := g) (n := n) (P := P) (X := X) (Y := Y) (k := (k : Int)) (w := 6 + y) hm (by omega) (by have := hO.2.2.2.2.2.2.2.1; omega)
  rw [show (130 + 86 * (k : Int) + (6 + y)).toNat = 130 + 86 * k + (6 + y.toNat) by omega, (hR.y hk (y := y.toNat) (by omega)).1, Int.toNat_of_nonneg hy.1] at this
  exact this
set_option maxHeartbeats 4000000 in
set_option maxRecDepth 100000 in
theorem tO_r {l : Launch} {g : q_G} {n : Nat} {P : q_P} {X : q_X} {Y : q_Y} (hm : isMod n P) {C : q_X} {b : Nat} (hR : RB C b (xv X 468)) (hO : bOk C b) {k : Nat} (hk : (k : Int) < xv C b 10) {y : Int} (hy : 0 ≤ y ∧ y < 20) : q_Met l g mX12_of 1 [.ref (g.1 + 467), .int (zi (k : Int)), .int (zi (26 + y))] n P X Y (q_pv (.int (zi (c_roster C (con b k) y))) n P X Y) := by
  have := tX12_of (l := l) (g := g) (n := n) (P := P) (X := X) (Y := Y) (k := (k : Int)) (w := 26 + y) hm (by omega) (by have := hO.2.2.2.2.2.2.2.1; omega)
  rw [show (130 + 86 * (k : Int) + (26 + y)).toNat = 130 + 86 * k + (26 + y.toNat) by omega, (hR.y hk (y := y.toNat) (by omega)).2.1, Int.toNat_of_nonneg hy.1] at this
  exact this
set_option maxHeartbeats 4000000 in
set_option maxRecDepth 100000 in
theorem tO_p {l : Launch} {g : q_G} {n : Nat} {P : q_P} {X : q_X} {Y : q_Y} (hm : isMod n P) {C : q_X} {b : Nat} (hR : RB C b (xv X 468)) (hO : bOk C b) {k : Nat} (hk : (k : Int) < xv C b 10) {y : Int} (hy : 0 ≤ y ∧ y < 20) : q_Met l g mX12_of 1 [.ref (g.1 + 467), .int (zi (k : Int)), .int (zi (46 + y))] n P X Y (q_pv (.int (zi (c_parts C (con b k) y))) n P X Y) := by
  have := tX12_of (l := l) (g := g) (n := n) (P := P) (X := X) (Y := Y) (k := (k : Int)) (w := 46 + y) hm (by omega) (by have := hO.2.2.2.2.2.2.2.1; omega)
  rw [show (130 + 86 * (k : Int) + (46 + y)).toNat = 130 + 86 * k + (46 + y.toNat) by omega, (hR.y hk (y := y.toNat) (by omega)).2.2.1, Int.toNat_of_nonneg hy.1] at this
  exact this
set_option maxHeartbeats 4000000 in
set_option maxRecDepth 100000 in
theorem tO_g {l : Launch} {g : q_G} {n : Nat} {P : q_P} {X : q_X} {Y : q_Y} (hm : isMod n P) {C : q_X} {b : Nat} (hR : RB C b (xv X 468)) (hO : bOk C b) {k : Nat} (hk : (k : Int) < xv C b 10) {y : Int} (hy : 0 ≤ y ∧ y < 20) : q_Met l g mX12_of 1 [.ref (g.1 + 467), .int (zi (k : Int)), .int (zi (66 + y))] n P X Y (q_pv (.int (zi (c_given C (con b k) y))) n P X Y) := by
  have := tX12_of (l := l) (g := g) (n := n) (P := P) (X := X) (Y := Y) (k := (k : Int)) (w := 66 + y) hm (by omega) (by have := hO.2.2.2.2.2.2.2.1; omega)
  rw [show (130 + 86 * (k : Int) + (66 + y)).toNat = 130 + 86 * k + (66 + y.toNat) by omega, (hR.y hk (y := y.toNat) (by omega)).2.2.2, Int.toNat_of_nonneg hy.1] at this
  exact this
set_option maxHeartbeats 4000000 in
set_option maxRecDepth 100000 in
theorem tX12_lesser {l : Launch} {g : q_G} {n : Nat} {P : q_P} {X : q_X} {Y : q_Y} {x y : Int} (hx : q_in x) (hy : q_in y) : q_Met l g mX12_lesser 0 [.int (zi x), .int (zi y)] n P X Y (q_pv (.int (zi (min x y))) n P X Y) := by
  skip
  refine q_enter (L := [(0, .int (zi x)), (1, .int (zi y))]) (by decide) (Nat.le_of_ble_eq_true rfl) rfl ?_
  refine r_iload_n (i := 0) (pc' := 1) dX12_lesser_0 rfl rfl (.head _) ?_
  refine r_iload_n (i := 1) (pc' := 2) dX12_lesser_1 rfl rfl (.tail _ (.head _)) ?_
  refine r_icmp_ge (t := 9) (f := 5) dX12_lesser_2 (by decide) rfl (by first | omega | exact xv_in _ _ _) (by first | omega | exact xv_in _ _ _) (fun h2 => ?_) (fun h2 => ?_)
  · refine r_iload_n (i := 1) (pc' := 10) dX12_lesser_9 rfl rfl (.tail _ (.head _)) ?_
    refine r_ireturn dX12_lesser_10 rfl ?_
    refine ⟨?_, rfl, rfl, rfl, rfl⟩
    congr 3; omega
  · refine r_iload_n (i := 0) (pc' := 6) dX12_lesser_5 rfl rfl (.head _) ?_
    refine r_goto (t := 10) dX12_lesser_6 (by decide) ?_
    refine r_ireturn dX12_lesser_10 rfl ?_
    refine ⟨?_, rfl, rfl, rfl, rfl⟩
    congr 3; omega
set_option maxHeartbeats 4000000 in
set_option maxRecDepth 100000 in
theorem tX12_greater {l : Launch} {g : q_G} {n : Nat} {P : q_P} {X : q_X} {Y : q_Y} {x y : Int} (hx : q_in x) (hy : q_in y) : q_Met l g mX12_greater 0 [.int (zi x), .int (zi y)] n P X Y (q_pv (.int (zi (max x y))) n P X Y) := by
  skip
  refine q_enter (L := [(0, .int (zi x)), (1, .int (zi y))]) (by decide) (Nat.le_of_ble_eq_true rfl) rfl ?_
  refine r_iload_n (i := 0) (pc' := 1) dX12_greater_0 rfl rfl (.head _) ?_
  refine r_iload_n (i := 1) (pc' := 2) dX12_greater_1 rfl rfl (.tail _ (.head _)) ?_
  refine r_icmp_le (t := 9) (f := 5) dX12_greater_2 (by decide) rfl (by first | omega | exact xv_in _ _ _) (by first | omega | exact xv_in _ _ _) (fun h2 => ?_) (fun h2 => ?_)
  · refine r_iload_n (i := 1) (pc' := 10) dX12_greater_9 rfl rfl (.tail _ (.head _)) ?_
    refine r_ireturn dX12_greater_10 rfl ?_
    refine ⟨?_, rfl, rfl, rfl, rfl⟩
    congr 3; omega
  · refine r_iload_n (i := 0) (pc' := 6) dX12_greater_5 rfl rfl (.head _) ?_
    refine r_goto (t := 10) dX12_greater_6 (by decide) ?_
    refine r_ireturn dX12_greater_10 rfl ?_
    refine ⟨?_, rfl, rfl, rfl, rfl⟩
    congr 3; omega
set_option maxHeartbeats 4000000 in
set_option maxRecDepth 100000 in
theorem tX12_lastOf {l : Launch} {g : q_G} {n : Nat} {P : q_P} {X : q_X} {Y : q_Y} (hm : isMod n P) {C : q_X} {b : Nat} (hR : RB C b (xv X 468)) (hO : bOk C b) {k : Nat} (hk : (k : Int) < xv C b 10) : q_Met l g mX12_lastOf 2 [.ref (g.1 + 467), .int (zi (k : Int))] n P X Y (q_pv (.int (zi (c_last C (con b k)))) n P X Y) := by
  obtain ⟨m0, m2, m3, m8, m9, m14, m15, m16, m17, m18, m20, m22, m25, hnm9⟩ := id hm
  obtain ⟨o0, o1, o2, o3, o4, o5, o6, o10, oc, op0, opz, opi, om0, omi, olim⟩ := id hO
  have hck := hO.c hk
  obtain ⟨hf, hf2, hf3, hf4, hfj, hfs, hfg⟩ := id hck
  refine q_enter (L := [(0, .ref (g.1 + 467)), (1, .int (zi (k : Int)))]) (by decide) (Nat.le_of_ble_eq_true rfl) rfl ?_
  refine r_aload_n (i := 0) (pc' := 1) dX12_lastOf_0 rfl rfl (.head _) ?_
  refine r_iload_n (i := 1) (pc' := 2) dX12_lastOf_1 rfl rfl (.tail _ (.head _)) ?_
  refine r_iconst (pc' := 3) dX12_lastOf_2 rfl ?_
  refine r_V2p (ci := 12) (pc' := 6) dX12_lastOf_3 rfl lX12_115 rfl (by decide) (Nat.le_of_ble_eq_true rfl) (by first | assumption | rfl) (by omega) (tO_0 hm hR hO (by first | assumption | omega)) ?_
  refine r_aload_n (i := 0) (pc' := 7) dX12_lastOf_6 rfl rfl (.head _) ?_
  refine r_iload_n (i := 1) (pc' := 8) dX12_lastOf_7 rfl rfl (.tail _ (.head _)) ?_
  refine r_iconst (pc' := 9) dX12_lastOf_8 rfl ?_
  refine r_V2p (ci := 12) (pc' := 12) dX12_lastOf_9 rfl lX12_115 rfl (by decide) (Nat.le_of_ble_eq_true rfl) (by first | assumption | rfl) (by omega) (tO_1 hm hR hO (by first | assumption | omega)) ?_
  refine r_iadd (pc' := 13) dX12_lastOf_12 rfl ?_
  refine r_aload_n (i := 0) (pc' := 14) dX12_lastOf_13 rfl rfl (.head _) ?_
  refine r_iload_n (i := 1) (pc' := 15) dX12_lastOf_14 rfl rfl (.tail _ (.head _)) ?_
  refine r_iconst (pc' := 16) dX12_lastOf_15 rfl ?_
  refine r_V2p (ci := 12) (pc' := 19) dX12_lastOf_16 rfl lX12_115 rfl (by decide) (Nat.le_of_ble_eq_true rfl) (by first | assumption | rfl) (by omega) (tO_2 hm hR hO (by first | assumption | omega)) ?_
  refine r_iadd (pc' := 20) dX12_lastOf_19 rfl ?_
  refine r_iconst (pc' := 21) dX12_lastOf_20 rfl ?_
  refine r_isub (pc' := 22) dX12_lastOf_21 rfl ?_
  refine r_ireturn dX12_lastOf_22 rfl ?_
  refine ⟨?_, rfl, rfl, rfl, rfl⟩
  unfold c_last
  (repeat' split) <;> first | rfl | (exfalso; omega) | (congr 3; omega)
set_option maxHeartbeats 4000000 in
set_option maxRecDepth 100000 in
theorem tX12_endOf {l : Launch} {g : q_G} {n : Nat} {P : q_P} {X : q_X} {Y : q_Y} (hm : isMod n P) {C : q_X} {b : Nat} (hR : RB C b (xv X 468)) (hO : bOk C b) {k : Nat} (hk : (k : Int) < xv C b 10) : q_Met l g mX12_endOf 2 [.ref (g.1 + 467), .int (zi (k : Int))] n P X Y (q_pv (.int (zi (xv C (con b k) 0 + xv C (con b k) 1))) n P X Y) := by
  obtain ⟨m0, m2, m3, m8, m9, m14, m15, m16, m17, m18, m20, m22, m25, hnm9⟩ := id hm
  obtain ⟨o0, o1, o2, o3, o4, o5, o6, o10, oc, op0, opz, opi, om0, omi, olim⟩ := id hO
  have hck := hO.c hk
  obtain ⟨hf, hf2, hf3, hf4, hfj, hfs, hfg⟩ := id hck
  refine q_enter (L := [(0, .ref (g.1 + 467)), (1, .int (zi (k : Int)))]) (by decide) (Nat.le_of_ble_eq_true rfl) rfl ?_
  refine r_aload_n (i := 0) (pc' := 1) dX12_endOf_0 rfl rfl (.head _) ?_
  refine r_iload_n (i := 1) (pc' := 2) dX12_endOf_1 rfl rfl (.tail _ (.head _)) ?_
  refine r_iconst (pc' := 3) dX12_endOf_2 rfl ?_
  refine r_V2p (ci := 12) (pc' := 6) dX12_endOf_3 rfl lX12_115 rfl (by decide) (Nat.le_of_ble_eq_true rfl) (by first | assumption | rfl) (by omega) (tO_0 hm hR hO (by first | assumption | omega)) ?_
  refine r_aload_n (i := 0) (pc' := 7) dX12_endOf_6 rfl rfl (.head _) ?_
  refine r_iload_n (i := 1) (pc' := 8) dX12_endOf_7 rfl rfl (.tail _ (.head _)) ?_
  refine r_iconst (pc' := 9) dX12_endOf_8 rfl ?_
  refine r_V2p (ci := 12) (pc' := 12) dX12_endOf_9 rfl lX12_115 rfl (by decide) (Nat.le_of_ble_eq_true rfl) (by first | assumption | rfl) (by omega) (tO_1 hm hR hO (by first | assumption | omega)) ?_
  refine r_iadd (pc' := 13) dX12_endOf_12 rfl ?_
  refine r_ireturn dX12_endOf_13 rfl ?_
  refine ⟨?_, rfl, rfl, rfl, rfl⟩
  (repeat' split) <;> first | rfl | (exfalso; omega) | (congr 3; omega)
set_option maxHeartbeats 4000000 in
set_option maxRecDepth 100000 in
theorem tX12_isOpen {l : Launch} {g : q_G} {n : Nat} {P : q_P} {X : q_X} {Y : q_Y} (hm : isMod n P) {C : q_X} {b : Nat} (hR : RB C b (xv X 468)) (hO : bOk C b) {k : Nat} (hk : (k : Int) < xv C b 10) : q_Met l g mX12_isOpen 2 [.ref (g.1 + 467), .int (zi (k : Int))] n P X Y (q_pv (.int (zi (if xv C (con b k) 4 = 0 then 1 else 0))) n P X Y) := by
  obtain ⟨m0, m2, m3, m8, m9, m14, m15, m16, m17, m18, m20, m22, m25, hnm9⟩ := id hm
  obtain ⟨o0, o1, o2, o3, o4, o5, o6, o10, oc, op0, opz, opi, om0, omi, olim⟩ := id hO
  have hck := hO.c hk
  obtain ⟨hf, hf2, hf3, hf4, hfj, hfs, hfg⟩ := id hck
  refine q_enter (L := [(0, .ref (g.1 + 467)), (1, .int (zi (k : Int)))]) (by decide) (Nat.le_of_ble_eq_true rfl) rfl ?_
  refine r_aload_n (i := 0) (pc' := 1) dX12_isOpen_0 rfl rfl (.head _) ?_
  refine r_iload_n (i := 1) (pc' := 2) dX12_isOpen_1 rfl rfl (.tail _ (.head _)) ?_
  refine r_iconst (pc' := 3) dX12_isOpen_2 rfl ?_
  refine r_V2p (ci := 12) (pc' := 6) dX12_isOpen_3 rfl lX12_115 rfl (by decide) (Nat.le_of_ble_eq_true rfl) (by first | assumption | rfl) (by omega) (tO_4 hm hR hO (by first | assumption | omega)) ?_
  refine r_if_ne (t := 13) (f := 9) dX12_isOpen_6 (by decide) rfl (by first | omega | exact xv_in _ _ _) (fun h6 => ?_) (fun h6 => ?_)
  · refine r_iconst (pc' := 14) dX12_isOpen_13 rfl ?_
    refine r_zreturn dX12_isOpen_14 rfl (by first | decide | (split <;> omega) | omega) ?_
    refine ⟨?_, rfl, rfl, rfl, rfl⟩
    (repeat' split) <;> first | rfl | (exfalso; omega) | (congr 3; omega)
  · refine r_iconst (pc' := 10) dX12_isOpen_9 rfl ?_
    refine r_goto (t := 14) dX12_isOpen_10 (by decide) ?_
    refine r_zreturn dX12_isOpen_14 rfl (by first | decide | (split <;> omega) | omega) ?_
    refine ⟨?_, rfl, rfl, rfl, rfl⟩
    (repeat' split) <;> first | rfl | (exfalso; omega) | (congr 3; omega)
set_option maxHeartbeats 4000000 in
set_option maxRecDepth 100000 in
theorem tX12_partsFrom {l : Launch} {g : q_G} {n : Nat} {P : q_P} {X : q_X} {Y : q_Y} (hm : isMod n P) {C : q_X} {b : Nat} (hR : RB C b (xv X 468)) (hO : bOk C b) {k : Nat} (hk : (k : Int) < xv C b 10) {y : Int} (hy : -50 ≤ y ∧ y ≤ 50) : q_Met l g mX12_partsFrom 3 [.ref (g.1 + 467), .int (zi (k : Int)), .int (zi y)] n P X Y (q_pv (.int (zi (min 5 (c_last C (con b k) - y + 1)))) n P X Y) := by
  obtain ⟨m0, m2, m3, m8, m9, m14, m15, m16, m17, m18, m20, m22, m25, hnm9⟩ := id hm
  obtain ⟨o0, o1, o2, o3, o4, o5, o6, o10, oc, op0, opz, opi, om0, omi, olim⟩ := id hO
  have hck := hO.c hk
  obtain ⟨hf, hf2, hf3, hf4, hfj, hfs, hfg⟩ := id hck
  have hlst : c_last C (con b k) = xv C (con b k) 0 + xv C (con b k) 1 + xv C (con b k) 2 - 1 := rfl
  refine q_enter (L := [(0, .ref (g.1 + 467)), (1, .int (zi (k : Int))), (2, .int (zi y))]) (by decide) (Nat.le_of_ble_eq_true rfl) rfl ?_
  refine r_iconst (pc' := 1) dX12_partsFrom_0 rfl ?_
  refine r_aload_n (i := 0) (pc' := 2) dX12_partsFrom_1 rfl rfl (.head _) ?_
  refine r_iload_n (i := 1) (pc' := 3) dX12_partsFrom_2 rfl rfl (.tail _ (.head _)) ?_
  refine r_V1p (ci := 12) (pc' := 6) dX12_partsFrom_3 rfl lX12_118 rfl (by decide) (Nat.le_of_ble_eq_true rfl) (by first | assumption | rfl) (by omega) (tX12_lastOf (by assumption) (by assumption) (by assumption) (by assumption)) ?_
  refine r_iload_n (i := 2) (pc' := 7) dX12_partsFrom_6 rfl rfl (.tail _ (.tail _ (.head _))) ?_
  refine r_isub (pc' := 8) dX12_partsFrom_7 rfl ?_
  refine r_iconst (pc' := 9) dX12_partsFrom_8 rfl ?_
  refine r_iadd (pc' := 10) dX12_partsFrom_9 rfl ?_
  refine r_S2p (pc' := 13) dX12_partsFrom_10 rfl lX12_122 (by decide) (Nat.le_of_ble_eq_true rfl) (tX12_lesser (by omega) (by omega)) ?_
  refine r_ireturn dX12_partsFrom_13 rfl ?_
  refine ⟨?_, rfl, rfl, rfl, rfl⟩
  (repeat' split) <;> first | rfl | (exfalso; omega) | (congr 3; omega)
theorem c_piece_eq {a ov i : Int} (hi : 0 ≤ i) : c_piece a ov i = if min 5 ov ≤ i then 0 else if i = 0 then a - a.tdiv (min 5 ov) * (min 5 ov - 1) else a.tdiv (min 5 ov) := by
  unfold c_piece
  generalize min 5 ov = m
  by_cases h : m ≤ i
  · rw [if_pos h, if_pos (Or.inr h)]
  · rw [if_neg h, if_neg (by omega)]
    split
    · have := Int.mul_tdiv_add_tmod a m
      rw [Int.mul_comm] at this
      rw [Int.mul_sub, Int.mul_one]; omega
    · rfl
set_option maxHeartbeats 4000000 in
set_option maxRecDepth 100000 in
theorem tX12_pieceOf {l : Launch} {g : q_G} {n : Nat} {P : q_P} {X : q_X} {Y : q_Y} {a ov i : Int} (ha : q_in a) (hi : 0 ≤ i ∧ i < 1000) (hov : -1000 ≤ ov ∧ ov ≤ 1000) : q_Met l g mX12_pieceOf 0 [.int (zi a), .int (zi (min 5 ov)), .int (zi i)] n P X Y (q_pv (.int (zi (c_piece a ov i))) n P X Y) := by
  refine q_enter (L := [(0, .int (zi a)), (1, .int (zi (min 5 ov))), (2, .int (zi i))]) (by decide) (Nat.le_of_ble_eq_true rfl) rfl ?_
  refine r_iload_n (i := 2) (pc' := 1) dX12_pieceOf_0 rfl rfl (.tail _ (.tail _ (.head _))) ?_
  refine r_iload_n (i := 1) (pc' := 2) dX12_pieceOf_1 rfl rfl (.tail _ (.head _)) ?_
  refine r_icmp_lt (t := 9) (f := 5) dX12_pieceOf_2 (by decide) rfl (by first | omega | exact xv_in _ _ _) (by first | omega | exact xv_in _ _ _) (fun h2 => ?_) (fun h2 => ?_)
  · refine r_iload_n (i := 2) (pc' := 10) dX12_pieceOf_9 rfl rfl (.tail _ (.tail _ (.head _))) ?_
    refine r_if_ne (t := 25) (f := 13) dX12_pieceOf_10 (by decide) rfl (by first | omega | exact xv_in _ _ _) (fun h10 => ?_) (fun h10 => ?_)
    · refine r_iload_n (i := 0) (pc' := 26) dX12_pieceOf_25 rfl rfl (.head _) ?_
      refine r_iload_n (i := 1) (pc' := 27) dX12_pieceOf_26 rfl rfl (.tail _ (.head _)) ?_
      refine r_idiv (pc' := 28) dX12_pieceOf_27 rfl (by first | omega | exact xv_in _ _ _) (by first | omega | exact xv_in _ _ _) (by omega) ?_
      refine r_ireturn dX12_pieceOf_28 rfl ?_
      refine ⟨?_, rfl, rfl, rfl, rfl⟩
      rw [c_piece_eq hi.1]
      (repeat' split) <;> first | rfl | (exfalso; omega)
    · refine r_iload_n (i := 0) (pc' := 14) dX12_pieceOf_13 rfl rfl (.head _) ?_
      refine r_iload_n (i := 0) (pc' := 15) dX12_pieceOf_14 rfl rfl (.head _) ?_
      refine r_iload_n (i := 1) (pc' := 16) dX12_pieceOf_15 rfl rfl (.tail _ (.head _)) ?_
      refine r_idiv (pc' := 17) dX12_pieceOf_16 rfl (by first | omega | exact xv_in _ _ _) (by first | omega | exact xv_in _ _ _) (by omega) ?_
      refine r_iload_n (i := 1) (pc' := 18) dX12_pieceOf_17 rfl rfl (.tail _ (.head _)) ?_
      refine r_iconst (pc' := 19) dX12_pieceOf_18 rfl ?_
      refine r_isub (pc' := 20) dX12_pieceOf_19 rfl ?_
      refine r_imul (pc' := 21) dX12_pieceOf_20 rfl ?_
      refine r_isub (pc' := 22) dX12_pieceOf_21 rfl ?_
      refine r_goto (t := 28) dX12_pieceOf_22 (by decide) ?_
      refine r_ireturn dX12_pieceOf_28 rfl ?_
      refine ⟨?_, rfl, rfl, rfl, rfl⟩
      rw [c_piece_eq hi.1]
      (repeat' split) <;> first | rfl | (exfalso; omega)
  · refine r_iconst (pc' := 6) dX12_pieceOf_5 rfl ?_
    refine r_goto (t := 28) dX12_pieceOf_6 (by decide) ?_
    refine r_ireturn dX12_pieceOf_28 rfl ?_
    refine ⟨?_, rfl, rfl, rfl, rfl⟩
    rw [c_piece_eq hi.1]
    (repeat' split) <;> first | rfl | (exfalso; omega)
set_option maxHeartbeats 4000000 in
set_option maxRecDepth 100000 in
theorem tX12_isContract {l : Launch} {g : q_G} {n : Nat} {P : q_P} {X : q_X} {Y : q_Y} (hm : isMod n P) {C : q_X} {b : Nat} (hR : RB C b (xv X 468)) (hO : bOk C b) {k : Int} (hk : q_in k) : q_Met l g mX12_isContract 1 [.ref (g.1 + 467), .int (zi k)] n P X Y (q_pv (.int (zi (if bk_has C b k then 1 else 0))) n P X Y) := by
  obtain ⟨m0, m2, m3, m8, m9, m14, m15, m16, m17, m18, m20, m22, m25, hnm9⟩ := id hm
  obtain ⟨o0, o1, o2, o3, o4, o5, o6, o10, oc, op0, opz, opi, om0, omi, olim⟩ := id hO
  refine q_enter (L := [(0, .ref (g.1 + 467)), (1, .int (zi k))]) (by decide) (Nat.le_of_ble_eq_true rfl) rfl ?_
  refine r_iload_n (i := 1) (pc' := 1) dX12_isContract_0 rfl rfl (.tail _ (.head _)) ?_
  refine r_i2l (pc' := 2) dX12_isContract_1 rfl rfl ?_
  refine r_lconst (pc' := 3) (z := 0) dX12_isContract_2 rfl rfl ?_
  refine r_aload_n (i := 0) (pc' := 4) dX12_isContract_3 rfl rfl (.head _) ?_
  refine r_getR (pc' := 7) dX12_isContract_4 rfl fX12_3 rfl (by first | assumption | rfl) (by omega) (by assumption) ?_
  refine r_bipush (pc' := 9) dX12_isContract_7 rfl (by decide) ?_
  refine r_iaload (pc' := 10) dX12_isContract_9 rfl (by first | assumption | rfl) (by omega) (by omega) (by omega) (by first | decide | omega) (show Int.toNat 7 = 7 from rfl) ?_
  rw [hR.m]
  refine r_iconst (pc' := 11) dX12_isContract_10 rfl ?_
  refine r_isub (pc' := 12) dX12_isContract_11 rfl ?_
  refine r_i2l (pc' := 13) dX12_isContract_12 rfl rfl ?_
  refine r_S3p (pc' := 16) dX12_isContract_13 rfl lX12_68 (by decide) (Nat.le_of_ble_eq_true rfl) (tX12_isIn (by first | exact li_z (by omega) | exact li_z (xv_in _ _ _) | rfl) (by first | exact li_z (by omega) | exact li_z (xv_in _ _ _) | rfl) (by first | exact li_z (by omega) | exact li_z (xv_in _ _ _) | rfl)) ?_
  try simp only [i64_0, i64_1, i64_2, i64_3, i64_4, i64_5, i64_6, i64_7, i64_10, i64_19, i64_40, i64_100, i64_364, i64_9999, i64_99999, i64_999999, i64_m999999]
  refine r_zreturn dX12_isContract_16 rfl (by first | decide | (split <;> omega) | omega) ?_
  refine ⟨?_, rfl, rfl, rfl, rfl⟩
  (repeat' split) <;> first | rfl | (exfalso; omega)
set_option maxHeartbeats 4000000 in
set_option maxRecDepth 100000 in
theorem tX12_isYear {l : Launch} {g : q_G} {n : Nat} {P : q_P} {X : q_X} {Y : q_Y} {y : Int} (hy : q_in y) : q_Met l g mX12_isYear 1 [.int (zi y)] n P X Y (q_pv (.int (zi (if 0 ≤ y ∧ y < 20 then 1 else 0))) n P X Y) := by
  skip
  refine q_enter (L := [(0, .int (zi y))]) (by decide) (Nat.le_of_ble_eq_true rfl) rfl ?_
  refine r_iload_n (i := 0) (pc' := 1) dX12_isYear_0 rfl rfl (.head _) ?_
  refine r_i2l (pc' := 2) dX12_isYear_1 rfl rfl ?_
  refine r_lconst (pc' := 3) (z := 0) dX12_isYear_2 rfl rfl ?_
  refine r_ldc2 (pc' := 6) dX12_isYear_3 rfl kX12_204 ?_
  refine r_S3p (pc' := 9) dX12_isYear_6 rfl lX12_68 (by decide) (Nat.le_of_ble_eq_true rfl) (tX12_isIn (by first | exact li_z (by omega) | exact li_z (xv_in _ _ _) | rfl) (by first | exact li_z (by omega) | exact li_z (xv_in _ _ _) | rfl) (by first | exact li_z (by omega) | exact li_z (xv_in _ _ _) | rfl)) ?_
  try simp only [i64_0, i64_1, i64_2, i64_3, i64_4, i64_5, i64_6, i64_7, i64_10, i64_19, i64_40, i64_100, i64_364, i64_9999, i64_99999, i64_999999, i64_m999999]
  refine r_zreturn dX12_isYear_9 rfl (by first | decide | (split <;> omega) | omega) ?_
  refine ⟨?_, rfl, rfl, rfl, rfl⟩
  (repeat' split) <;> first | rfl | (exfalso; omega)
set_option maxHeartbeats 4000000 in
set_option maxRecDepth 100000 in
theorem tX12_isGoal {l : Launch} {g : q_G} {n : Nat} {P : q_P} {X : q_X} {Y : q_Y} {y : Int} (hy : q_in y) : q_Met l g mX12_isGoal 1 [.int (zi y)] n P X Y (q_pv (.int (zi (if -999999 ≤ y ∧ y ≤ 999999 then 1 else 0))) n P X Y) := by
  skip
  refine q_enter (L := [(0, .int (zi y))]) (by decide) (Nat.le_of_ble_eq_true rfl) rfl ?_
  refine r_iload_n (i := 0) (pc' := 1) dX12_isGoal_0 rfl rfl (.head _) ?_
  refine r_i2l (pc' := 2) dX12_isGoal_1 rfl rfl ?_
  refine r_ldc2 (pc' := 5) dX12_isGoal_2 rfl kX12_326 ?_
  refine r_ldc2 (pc' := 8) dX12_isGoal_5 rfl kX12_328 ?_
  refine r_S3p (pc' := 11) dX12_isGoal_8 rfl lX12_68 (by decide) (Nat.le_of_ble_eq_true rfl) (tX12_isIn (by first | exact li_z (by omega) | exact li_z (xv_in _ _ _) | rfl) (by first | exact li_z (by omega) | exact li_z (xv_in _ _ _) | rfl) (by first | exact li_z (by omega) | exact li_z (xv_in _ _ _) | rfl)) ?_
  try simp only [i64_0, i64_1, i64_2, i64_3, i64_4, i64_5, i64_6, i64_7, i64_10, i64_19, i64_40, i64_100, i64_364, i64_9999, i64_99999, i64_999999, i64_m999999]
  refine r_zreturn dX12_isGoal_11 rfl (by first | decide | (split <;> omega) | omega) ?_
  refine ⟨?_, rfl, rfl, rfl, rfl⟩
  (repeat' split) <;> first | rfl | (exfalso; omega)
