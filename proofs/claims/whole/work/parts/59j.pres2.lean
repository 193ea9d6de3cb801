/-! what the deeds leave as it may be, 2 -/
/-- who is open has years left -/
def bLv (X : q_X) (b : Nat) : Prop := ∀ k : Nat, (k : Int) < xv X b 10 → xv X (con b k) 4 = 0 → xv X b 0 < xv X (con b k) 0 + xv X (con b k) 1
def bA (X : q_X) (b : Nat) : Prop := bOk X b ∧ bLv X b ∧ bF X b
theorem q_sum_ind (row : Nat) (v : Int) {m : Nat} (h : row < m) : q_sum (fun j => if j = row then v else 0) 0 m = v := by
  have := q_sum_upd (f := fun _ => 0) (f' := fun j => if j = row then v else 0) (x := row) m 0 (by omega) (by omega) (fun i hi => if_neg hi)
  rw [this, q_sum_0 m 0 (fun _ _ _ => rfl)]; simp
theorem bOk_one {X X' : q_X} {b k : Nat} (hO : bOk X b) (ho : ∀ i, (i < con b k ∨ con b k + 4 < i) → i ≠ b + 2 → xv X' i = xv X i) (hc : cOk X' (con b k)) : bOk X' b :=
  bOk_mk hO (fun d hd h2 => ho _ (by unfold con; omega) (by omega)) (fun i hi => by
    by_cases e : i = k
    · subst e; exact hc
    · exact cOk_ag (fun d hd => ho _ (by unfold con; omega) (by unfold con; omega)) (hO.c hi))
theorem cOk_chg {X X' : q_X} {c row : Nat} {m bonus ov : Int} (h : cOk X c) (hf : ∀ j, j < 6 → j ≠ 1 → xv X' c j = xv X c j) (h1 : xv X' c 1 = xv X c 1 + m) (hm : 0 ≤ m) (hy : xv X c 1 + m + xv X c 2 ≤ 10) (hl : xv X c 0 + xv X c 1 + m + xv X c 2 ≤ 20)
    (hr : ∀ j, j < 10 → xv X' (c + 2) j = xv X (c + 2) j) (hb : ∀ j : Nat, j < 10 → 0 ≤ xv X' (c + 1) j ∧ xv X' (c + 1) j ≤ 99999 ∧ (xv X c 1 + m ≤ j → xv X' (c + 1) j = 0)) (hbo : 0 ≤ bonus) (hbs : q_sum (xv X' (c + 1)) 0 10 + bonus ≤ q_sum (xv X (c + 1)) 0 10 + 99999 * (2 * m)) (h1o : 1 ≤ ov) (hro : (row : Int) + ov = xv X c 1 + m + xv X c 2)
    (hp : ∀ j, j < 10 → xv X' (c + 3) j = xv X (c + 3) j + if row ≤ j then c_piece bonus ov ((j - row : Nat) : Int) else 0) (hg : ∀ j, j < 10 → xv X' (c + 4) j = xv X (c + 4) j + if j = row then bonus else 0) : cOk X' c := by
  obtain ⟨c0, c1, c3, c4, cj, cs, cg⟩ := h
  have e3 : q_sum (xv X' (c + 3)) 0 10 = q_sum (xv X (c + 3)) 0 10 + bonus := by
    rw [q_sum_congr (h := fun j => xv X (c + 3) j + if row ≤ j then c_piece bonus ov ((j - row : Nat) : Int) else 0) 10 0 (fun i _ hi => hp i (by omega)), q_sum_plus, piece_row hbo h1o (by omega)]
  have e4 : q_sum (xv X' (c + 4)) 0 10 = q_sum (xv X (c + 4)) 0 10 + bonus := by
    rw [q_sum_congr (h := fun j => xv X (c + 4) j + if j = row then bonus else 0) 10 0 (fun i _ hi => hg i (by omega)), q_sum_plus, q_sum_ind row bonus (by omega)]
  unfold cOk
  rw [hf 0 (by omega) (by omega), hf 2 (by omega) (by omega), hf 3 (by omega) (by omega), hf 4 (by omega) (by omega), hf 5 (by omega) (by omega), h1, e3, e4]
  refine ⟨c0, ⟨by omega, by omega, by omega, by omega⟩, c3, c4, fun j hj => ?_, by omega, by omega⟩
  have a1 := hb j hj
  have a2 := cj j hj
  have a3 := c_pieceB (b := bonus) (ov := ov) (i := ((j - row : Nat) : Int)) hbo (by omega)
  rw [hr j hj, hp j hj, hg j hj]
  refine ⟨a1.1, a1.2.1, a2.2.2.1, a2.2.2.2.1, ?_, ?_, fun hh => ⟨a1.2.2 hh, (a2.2.2.2.2.2.2.1 (by omega)).2⟩, fun hh => ?_⟩
  · split <;> omega
  · split <;> omega
  · rw [a2.2.2.2.2.2.2.2 (by omega)]
    split
    · rw [c_piece_0 (by omega)]; rfl
    · rfl
/-- what pay is there, and where it lies -/
theorem pref_at {X : q_X} {b : Nat} {k x : Int} (hO : bOk X b) (h : bk_pref X b k x = 0) : ∃ row : Nat, xv X b 0 - xv X (con b k.toNat) 0 = (row : Int) ∧ row < 10 ∧ (row : Int) < xv X (con b k.toNat) 1 ∧ c_plays X (con b k.toNat) (xv X b 0) ∧ xv X b 6 ≤ xv X (con b k.toNat + 1) row - x := by
  obtain ⟨h0, h1, h2, h3⟩ := bk_pref_ref h
  have h6 := hO.2.2.2.2.2.2.1
  unfold c_base at h3
  split at h3
  · rename_i hp
    refine ⟨(xv X b 0 - xv X (con b k.toNat) 0).toNat, by omega, by omega, by omega, hp, h3⟩
  · omega
theorem low_at {X : q_X} {b : Nat} {k x : Int} (hO : bOk X b) (h : bk_pref X b k x = 0) {row : Nat} (hrow : xv X b 0 - xv X (con b k.toNat) 0 = (row : Int)) (j : Nat) (hj : j < 10) : xv (bk_low X b k x) (con b k.toNat + 1) j = xv X (con b k.toNat + 1) j - if j = row then x else 0 := by
  obtain ⟨r, e1, e2, e3, e4, e5⟩ := pref_at hO h
  obtain ⟨h0, h1, h2, h3⟩ := bk_pref_ref h
  have hh := bk_ref_has h0
  have hck := (hO.c (k := k.toNat) (by omega)).2.2.2.2.1 j hj
  unfold bk_low
  rw [if_pos e4, hrow, Int.toNat_natCast]
  by_cases e : j = row
  · subst e; rw [if_pos rfl, xv_up_same _ _ _ (by omega)]
  · rw [if_neg e, xv_up_ne _ _ (by omega)]; omega
theorem low_sum {X : q_X} {b : Nat} {k x : Int} (hO : bOk X b) (h : bk_pref X b k x = 0) {row : Nat} (hrow : xv X b 0 - xv X (con b k.toNat) 0 = (row : Int)) (hr : row < 10) : q_sum (xv (bk_low X b k x) (con b k.toNat + 1)) 0 10 = q_sum (xv X (con b k.toNat + 1)) 0 10 - x := by
  rw [q_sum_congr (h := fun j => xv X (con b k.toNat + 1) j + if j = row then -x else 0) 10 0 (fun i _ hi => by rw [low_at hO h hrow i (by omega)]; split <;> omega), q_sum_plus, q_sum_ind row (-x) hr]
  omega
theorem bOk_low {X : q_X} {b : Nat} {k x : Int} (hO : bOk X b) (h : bk_pref X b k x = 0) : bOk (bk_low X b k x) b := by
  obtain ⟨row, e1, e2, e3, e4, e5⟩ := pref_at hO h
  obtain ⟨h0, h1, h2, h3⟩ := bk_pref_ref h
  have hh := bk_ref_has h0
  have hck := hO.c (k := k.toNat) (by omega)
  have h6 := hO.2.2.2.2.2.2.1
  refine bOk_one (k := k.toNat) hO (fun i hi _ => bk_low_o (by omega)) (cOk_chg (row := row) (m := 0) (bonus := 0) (ov := xv X (con b k.toNat) 1 + xv X (con b k.toNat) 2 - row) hck (fun j _ _ => by rw [bk_low_o (by omega)]) (by rw [bk_low_o (by omega)]; omega) (by omega) (by have := hck.2.1; omega) (by have := hck.2.1; omega) (fun j _ => by rw [bk_low_o (by omega)]) (fun j hj => ?_) (by omega) (by rw [low_sum hO h e1 e2]; omega) (by have := hck.2.1; omega) (by omega) (fun j hj => ?_) (fun j hj => ?_))
  · rw [low_at hO h e1 j hj]
    have := hck.2.2.2.2.1 j hj
    refine ⟨?_, ?_, fun q => ?_⟩
    · split
      · rename_i e; subst e; omega
      · omega
    · split <;> omega
    · rw [if_neg (by omega), (this.2.2.2.2.2.2.1 (by omega)).1]; omega
  · rw [bk_low_o (by omega)]
    have := c_pieceB (b := 0) (ov := xv X (con b k.toNat) 1 + xv X (con b k.toNat) 2 - row) (i := ((j - row : Nat) : Int)) (by omega) (by omega)
    split <;> omega
  · rw [bk_low_o (by omega)]; split <;> omega
theorem bOk_turn {X : q_X} {b : Nat} {k x : Int} (hO : bOk X b) (h : bk_pref X b k x = 0) : bOk (bk_turn X b k x) b := by
  obtain ⟨row, e1, e2, e3, e4, e5⟩ := pref_at hO h
  obtain ⟨h0, h1, h2, h3⟩ := bk_pref_ref h
  have hh := bk_ref_has h0
  have hck := hO.c (k := k.toNat) (by omega)
  have hpb := cOk_pb hck
  have h6 := hO.2.2.2.2.2.2.1
  have hlc : xv (bk_low X b k x) (con b k.toNat) = xv X (con b k.toNat) := bk_low_o (by omega)
  have hla : c_last (bk_low X b k x) (con b k.toNat) = c_last X (con b k.toNat) := by simp only [c_last, hlc]
  have hls : c_last X (con b k.toNat) - xv X b 0 + 1 = xv X (con b k.toNat) 1 + xv X (con b k.toNat) 2 - row := by unfold c_last; omega
  obtain ⟨s3, s4⟩ := c_spread_at (X := bk_low X b k x) (c := con b k.toNat) (row := row) (y := xv X b 0) (b := x) (by rw [hlc]; exact e1) e2 ⟨by omega, by omega⟩ (fun j hj => by rw [bk_low_o (by omega)]; exact hpb.1 j hj) (by rw [bk_low_o (by omega)]; exact hpb.2 row e2)
  rw [hla, hls] at s3
  refine bOk_one (k := k.toNat) hO (fun i hi _ => bk_turn_o (by omega)) (cOk_chg (row := row) (m := 0) (bonus := x) (ov := xv X (con b k.toNat) 1 + xv X (con b k.toNat) 2 - row) hck (fun j _ _ => by rw [bk_turn_o (by omega)]) (by rw [bk_turn_o (by omega)]; omega) (by omega) (by have := hck.2.1; omega) (by have := hck.2.1; omega) (fun j _ => by rw [bk_turn_o (by omega)]) (fun j hj => ?_) (by omega) ?_ (by have := hck.2.1; omega) (by omega) (fun j hj => ?_) (fun j hj => ?_))
  · rw [bk_turn, c_spread_o _ _ _ _ (by omega), low_at hO h e1 j hj]
    have := hck.2.2.2.2.1 j hj
    refine ⟨?_, ?_, fun q => ?_⟩
    · split
      · rename_i e; subst e; omega
      · omega
    · split <;> omega
    · rw [if_neg (by omega), (this.2.2.2.2.2.2.1 (by omega)).1]; omega
  · rw [bk_turn, c_spread_o _ _ _ _ (by omega), low_sum hO h e1 e2]; omega
  · rw [bk_turn, s3 j hj, bk_low_o (by omega)]
  · rw [bk_turn, s4 j, bk_low_o (by omega)]
/-- the years' rows, behind more years -/
theorem putN_at {X : q_X} {c : Nat} {a base : Int} {r : Nat} (ha : a = (r : Int)) (hb : q_in base) : ∀ m : Nat, r + m ≤ 10 → ∀ j, xv (c_putN X c a base m) (c + 1) j = (if r ≤ j ∧ j < r + m then base else xv X (c + 1) j) ∧ xv (c_putN X c a base m) (c + 2) j = if r ≤ j ∧ j < r + m then 0 else xv X (c + 2) j
  | 0, _, j => by rw [if_neg (by omega), if_neg (by omega)]; exact ⟨rfl, rfl⟩
  | m + 1, hm, j => by
    have ih := putN_at (X := X) (c := c) ha hb m (by omega) j
    rw [c_putN, c_put, if_pos (by omega), show (a + (m : Int)).toNat = r + m by omega]
    by_cases e : j = r + m
    · subst e
      rw [xv_up_ne _ _ (by omega), xv_up_same _ _ _ hb, xv_up_same _ _ _ (by omega), if_pos (by omega), if_pos (by omega)]
      exact ⟨rfl, rfl⟩
    · rw [xv_up_ne _ _ (by omega), xv_up_ne _ _ (by omega), xv_up_ne _ _ (by omega), xv_up_ne _ _ (by omega), ih.1, ih.2]
      by_cases e2 : r ≤ j ∧ j < r + m
      · rw [if_pos e2, if_pos e2, if_pos (by omega), if_pos (by omega)]; exact ⟨rfl, rfl⟩
      · rw [if_neg e2, if_neg e2, if_neg (by omega), if_neg (by omega)]; exact ⟨rfl, rfl⟩
theorem bOk_long {X : q_X} {b : Nat} {k m ba bo : Int} (hO : bOk X b) (hv : bLv X b) (h : bk_lref X b k m ba bo = 0) : bOk (bk_long X b k m ba bo) b := by
  obtain ⟨h0, m1, m2, a1, a2, z1, z2, l1, l2, l3⟩ := bk_lref_ref h
  have hh := bk_ref_has h0
  have hck := hO.c (k := k.toNat) (by omega)
  have hpb := cOk_pb hck
  have hlv := hv k.toNat (by omega)
  have h03 : xv X (con b k.toNat) 4 = 0 ∧ xv X (con b k.toNat) 0 ≤ xv X b 0 := by
    unfold bk_ref at h0
    rw [if_neg (fun q => q hh)] at h0
    split at h0
    · omega
    · split at h0 <;> omega
  have hlv := hlv h03.1
  generalize hc : con b k.toNat = c at *
  have hf := hck.1
  have hf1 := hck.2.1
  obtain ⟨row, hrow⟩ : ∃ row : Nat, xv X b 0 - xv X c 0 = (row : Int) := ⟨(xv X b 0 - xv X c 0).toNat, by omega⟩
  obtain ⟨yr, hyr⟩ : ∃ yr : Nat, xv X c 1 = (yr : Int) := ⟨(xv X c 1).toNat, by omega⟩
  have hec := bk_ext_c (X := X) (c := c) (m := m.toNat) (base := ba) (by omega) (by omega)
  have e0 : xv (bk_ext X c m.toNat ba) c 0 = xv X c 0 := by rw [hec, if_neg (by omega)]
  have e1 : xv (bk_ext X c m.toNat ba) c 1 = xv X c 1 + m := by rw [hec, if_pos rfl]; omega
  have e2 : xv (bk_ext X c m.toNat ba) c 2 = xv X c 2 := by rw [hec, if_neg (by omega)]
  have hla : c_last (bk_ext X c m.toNat ba) c - xv X b 0 + 1 = xv X c 1 + m + xv X c 2 - row := by unfold c_last; rw [e0, e1, e2]; omega
  obtain ⟨s3, s4⟩ := c_spread_at (X := bk_ext X c m.toNat ba) (c := c) (row := row) (y := xv X b 0) (b := bo) (by rw [e0]; exact hrow) (by omega) ⟨by omega, by omega⟩ (fun j hj => by rw [bk_ext_o (by omega)]; exact hpb.1 j hj) (by rw [bk_ext_o (by omega)]; exact hpb.2 row (by omega))
  rw [hla] at s3
  have hpn := putN_at (X := X) (c := c) (a := xv X c 1) (base := ba) (r := yr) hyr (by omega) m.toNat (by omega)
  have hb1 : ∀ j, xv (bk_long X b k m ba bo) (c + 1) j = if yr ≤ j ∧ j < yr + m.toNat then ba else xv X (c + 1) j := fun j => by
    rw [bk_long, hc, c_spread_o _ _ _ _ (by omega), bk_ext, xv_up_ne _ _ (by omega), (hpn j).1]
  have hb2 : ∀ j, xv (bk_long X b k m ba bo) (c + 2) j = if yr ≤ j ∧ j < yr + m.toNat then 0 else xv X (c + 2) j := fun j => by
    rw [bk_long, hc, c_spread_o _ _ _ _ (by omega), bk_ext, xv_up_ne _ _ (by omega), (hpn j).2]
  have hfl : ∀ j, xv (bk_long X b k m ba bo) c j = xv (bk_ext X c m.toNat ba) c j := fun j => by rw [bk_long, hc, c_spread_o _ _ _ _ (by omega)]
  refine bOk_one (k := k.toNat) hO (fun i hi _ => ?_) ?_
  · rw [hc] at hi; rw [bk_long, hc, c_spread_o _ _ _ _ (by omega), bk_ext_o (by omega)]
  rw [hc]
  refine cOk_chg (row := row) (m := m) (bonus := bo) (ov := xv X c 1 + m + xv X c 2 - row) hck (fun j _ hj => by rw [hfl, hec, if_neg hj]) (by rw [hfl, e1]) (by omega) (by omega) (by unfold c_last at l3; omega) (fun j hj => ?_) (fun j hj => ?_) z1 ?_ (by omega) (by omega) (fun j hj => ?_) (fun j hj => ?_)
  · rw [hb2]
    split
    · exact ((hck.2.2.2.2.1 j hj).2.2.2.2.2.2.1 (by omega)).2.symm
    · rfl
  · rw [hb1]
    have := hck.2.2.2.2.1 j hj
    split
    · exact ⟨by omega, by omega, fun q => by omega⟩
    · exact ⟨this.1, this.2.1, fun q => (this.2.2.2.2.2.2.1 (by omega)).1⟩
  · have hs : q_sum (xv (bk_long X b k m ba bo) (c + 1)) 0 10 ≤ q_sum (xv X (c + 1)) 0 10 + q_sum (fun j => if yr ≤ j ∧ j < yr + m.toNat then (99999 : Int) else 0) 0 10 := by
      rw [← q_sum_plus]
      have hle : ∀ (f h : Nat → Int) (k a : Nat), (∀ i, a ≤ i → i < a + k → f i ≤ h i) → q_sum f a k ≤ q_sum h a k := by
        intro f h k
        induction k with
        | zero => intro a _; exact Int.le_refl _
        | succ k ih => intro a hh; rw [q_sum, q_sum]; have := hh a (by omega) (by omega); have := ih (a + 1) (fun i i1 i2 => hh i (by omega) (by omega)); omega
      refine hle _ _ _ _ (fun i _ hi => ?_)
      rw [hb1]
      have := hck.2.2.2.2.1 i (by omega)
      try dsimp only
      split <;> omega
    have hs2 : q_sum (fun j => if yr ≤ j ∧ j < yr + m.toNat then (99999 : Int) else 0) 0 10 = 99999 * m := by
      have e := q_sum_add (fun j => if yr ≤ j ∧ j < yr + m.toNat then (99999 : Int) else 0) yr (10 - yr) 0
      have e' := q_sum_add (fun j => if yr ≤ j ∧ j < yr + m.toNat then (99999 : Int) else 0) m.toNat (10 - yr - m.toNat) (0 + yr)
      rw [show yr + (10 - yr) = 10 by omega] at e
      rw [show m.toNat + (10 - yr - m.toNat) = 10 - yr by omega] at e'
      rw [e, e', q_sum_0 yr 0 (fun i _ hi => if_neg (by omega)), q_sum_0 (10 - yr - m.toNat) (0 + yr + m.toNat) (fun i h1 h2 => if_neg (by omega)), q_sum_congr (h := fun _ => (99999 : Int)) m.toNat (0 + yr) (fun i h1 h2 => if_pos (by omega))]
      have hcst : ∀ (k a : Nat), q_sum (fun _ => (99999 : Int)) a k = 99999 * k := by
        intro k
        induction k with
        | zero => intro a; rfl
        | succ k ih => intro a; rw [q_sum, ih]; omega
      rw [hcst]; omega
    omega
  · rw [bk_long, hc, s3 j hj, bk_ext_o (by omega)]
  · rw [bk_long, hc, s4 j, bk_ext_o (by omega)]
