/-! what the deeds leave as it may be -/
theorem bEq.v {X X' : q_X} {b : Nat} (h : bEq X X' b) (d : Nat) (hd : d < 220) : xv X' (b + d) = xv X (b + d) := by funext j; simp only [xv, h d hd]
theorem bEq.v0 {X X' : q_X} {b : Nat} (h : bEq X X' b) : xv X' b = xv X b := h.v 0 (by omega)
theorem bEq.rfl {X : q_X} {b : Nat} : bEq X X b := fun _ _ => Eq.refl _
theorem bEq.trans {X X' X2 : q_X} {b : Nat} (h : bEq X X' b) (h2 : bEq X' X2 b) : bEq X X2 b := fun d hd => (h2 d hd).trans (h d hd)
theorem bEq.up {X X' : q_X} {b i j : Nat} {v : Int32} (h : bEq X X' b) (hi : i < b ∨ b + 220 ≤ i) : bEq X (q_up X' i j v) b := fun d hd => by
  rw [← h d hd]; funext q; exact q_up_ne _ _ (by omega)
theorem bEq.to {X X' : q_X} {b : Nat} (h : tOut X X') (hb : bApart b) : bEq X X' b := fun d hd => h _ (by unfold bApart at hb; omega)
theorem PU.b {x b n n' : Nat} {P P' : q_P} {X X' : q_X} {Y Y' : q_Y} (h : PU x b n P X Y n' P' X' Y') {b2 : Nat} (hb : isBk n P b2) (hb1 : b2 + 220 ≤ 441) : isBk n' P' b2 := by
  obtain ⟨a, h1, h2, h3, h4, h5, h6, h7, h8, h9, h10, h11⟩ := h
  exact isBk_of hb h4 (fun d hd => h5 _ (by have := hb.2.2.2.2.2.2.2.2.2.2.1; omega) (by omega))
theorem PU.e {x b n n' : Nat} {P P' : q_P} {X X' : q_X} {Y Y' : q_Y} (h : PU x b n P X Y n' P' X' Y') (hn : 481 ≤ n) {b2 : Nat} (hb1 : b2 + 220 ≤ 441) : bEq X X' b2 := by
  obtain ⟨a, h1, h2, h3, h4, h5, h6, h7, h8, h9, h10, h11⟩ := h
  intro d hd
  funext j
  exact h8 _ _ (by omega) (by omega) (by omega)
theorem PU.p {x b n n' : Nat} {P P' : q_P} {X X' : q_X} {Y Y' : q_Y} (h : PU x b n P X Y n' P' X' Y') {c : Nat} (hc : c < n) (h3 : c ≠ 443) : P' c = P c := by
  obtain ⟨a, h1, h2, h3', h4, h5, h6, h7, h8, h9, h10, h11⟩ := h
  exact h5 c hc h3
theorem PU.x {x b n n' : Nat} {P P' : q_P} {X X' : q_X} {Y Y' : q_Y} (h : PU x b n P X Y n' P' X' Y') {c : Nat} (hn : 481 ≤ n) (hc : c < 481) (h3 : c ≠ 442) : X' c = X c := by
  obtain ⟨a, h1, h2, h3', h4, h5, h6, h7, h8, h9, h10, h11⟩ := h
  funext j
  exact h8 c j (by omega) (by omega) (by omega)
theorem PU.n {x b n n' : Nat} {P P' : q_P} {X X' : q_X} {Y Y' : q_Y} (h : PU x b n P X Y n' P' X' Y') : MS n' P' ∧ n ≤ n' := by
  obtain ⟨a, h1, h2, h3', h4, h5, h6, h7, h8, h9, h10, h11⟩ := h
  exact ⟨h3', h4⟩
theorem PU.face {x b n n' : Nat} {P P' : q_P} {X X' : q_X} {Y Y' : q_Y} {b2 : Nat} (h : PU x b n P X Y n' P' X' Y') (hF : isFace n P b2) : isFace n' P' b2 := by
  have hn := hF.2.2.2.2.2.2.2.2
  have e := h.p (c := 0) (by omega) (by omega)
  have := h.n.2
  unfold isFace at hF ⊢
  rw [e]
  obtain ⟨f0, f2, f3, f4, f5, f6, f7, f8, -⟩ := hF
  exact ⟨f0, f2, f3, f4, f5, f6, f7, f8, by omega⟩
theorem PU.tal {x b n n' : Nat} {P P' : q_P} {X X' : q_X} {Y Y' : q_Y} (h : PU x b n P X Y n' P' X' Y') (hF : isTal n P) : isTal n' P' := by
  have hn := hF.2.2.2.2.2
  have e := h.p (c := 453) (by omega) (by omega)
  have := h.n.2
  unfold isTal at hF ⊢
  rw [e]
  obtain ⟨f0, f2, f3, f4, f5, -⟩ := hF
  exact ⟨f0, f2, f3, f4, f5, by omega⟩
/-- the books are in order where their fields are and each contract is -/
theorem bOk_mk {X X' : q_X} {b : Nat} (h0 : bOk X b) (hz : ∀ d, d < 15 → d ≠ 2 → xv X' (b + d) = xv X (b + d)) (hc : ∀ k : Nat, (k : Int) < xv X b 10 → cOk X' (con b k)) : bOk X' b := by
  have z0 : xv X' b = xv X b := hz 0 (by omega) (by omega)
  unfold bOk at h0 ⊢
  rw [z0, hz 1 (by omega) (by omega), hz 4 (by omega) (by omega), hz 5 (by omega) (by omega), hz 6 (by omega) (by omega), hz 7 (by omega) (by omega), hz 8 (by omega) (by omega), hz 9 (by omega) (by omega), hz 10 (by omega) (by omega), hz 11 (by omega) (by omega), hz 12 (by omega) (by omega), hz 13 (by omega) (by omega), hz 14 (by omega) (by omega)]
  obtain ⟨a1, a2, a3, a4, a5, a6, a7, a8, -, rest⟩ := h0
  exact ⟨a1, a2, a3, a4, a5, a6, a7, a8, hc, rest⟩
theorem cOk_state {X X' : q_X} {c : Nat} (h : cOk X c) (h0 : ∀ j, j < 4 → xv X' c j = xv X c j) (hr : ∀ d, 1 ≤ d → d ≤ 4 → xv X' (c + d) = xv X (c + d)) (h4 : 0 ≤ xv X' c 4 ∧ xv X' c 4 ≤ 2) (h5 : 0 ≤ xv X' c 5 ∧ xv X' c 5 ≤ 19) : cOk X' c := by
  unfold cOk at h ⊢
  rw [h0 0 (by omega), h0 1 (by omega), h0 2 (by omega), h0 3 (by omega), hr 1 (by omega) (by omega), hr 2 (by omega) (by omega), hr 3 (by omega) (by omega), hr 4 (by omega) (by omega)]
  obtain ⟨a1, a2, a3, -, rest⟩ := h
  exact ⟨a1, a2, a3, ⟨h4.1, h4.2, h5.1, h5.2⟩, rest⟩
theorem con_ne {b i k : Nat} (h : i ≠ k) {d e : Nat} (hd : d ≤ 4) (he : e ≤ 4) : con b i + d ≠ con b k + e := by unfold con; omega
theorem bk_rel_o {X : q_X} {b : Nat} {k t : Int} {i : Nat} (h1 : i ≠ b + 2) (h2 : i ≠ con b k.toNat) : xv (bk_rel X b k t) i = xv X i := by
  unfold bk_rel
  split
  · rfl
  · rw [xv_up_row _ _ _ h2, xv_up_row _ _ _ h2]
    split
    · rw [xv_up_row _ _ _ h1, xv_up_row _ _ _ h1]
    · rw [xv_up_row _ _ _ h1]
theorem bk_rel_c {X : q_X} {b : Nat} {k t : Int} (h : bk_ref X b k = 0) (hO : bOk X b) (j : Nat) : xv (bk_rel X b k t) (con b k.toNat) j = if j = 4 then 1 else if j = 5 then xv X b 0 else xv X (con b k.toNat) j := by
  have hne : con b k.toNat ≠ b + 2 := by unfold con; omega
  have o0 := hO.1
  unfold bk_rel
  rw [if_neg (fun q => q h)]
  by_cases e5 : j = 5
  · subst e5; rw [xv_up_same _ _ _ (by omega), if_neg (by decide), if_pos rfl]
  · rw [xv_up_ne _ _ (by omega)]
    by_cases e4 : j = 4
    · subst e4; rw [if_pos rfl, xv_up_same _ _ _ (by omega)]
    · rw [xv_up_ne _ _ (by omega), if_neg e4, if_neg e5]
      split
      · rw [xv_up_row _ _ _ hne, xv_up_row _ _ _ hne]
      · rw [xv_up_row _ _ _ hne]
theorem bOk_rel {X : q_X} {b : Nat} {k : Int} (t : Int) (hO : bOk X b) (h : bk_ref X b k = 0) : bOk (bk_rel X b k t) b := by
  have hk := bk_ref_has h
  have o10 := hO.2.2.2.2.2.2.2.1
  refine bOk_mk hO (fun d hd h2 => bk_rel_o (by omega) (by unfold con; omega)) (fun i hi => ?_)
  by_cases e : i = k.toNat
  · subst e
    refine cOk_state (hO.c hi) (fun j hj => ?_) (fun d d1 d2 => bk_rel_o (by unfold con; omega) (by omega)) ?_ ?_
    · rw [bk_rel_c h hO, if_neg (by omega), if_neg (by omega)]
    · rw [bk_rel_c h hO, if_pos rfl]; omega
    · rw [bk_rel_c h hO, if_neg (by omega), if_pos rfl]; exact hO.1
  · refine cOk_ag (fun d hd => bk_rel_o (by unfold con; omega) (con_ne e (e := 0) hd (by omega))) (hO.c hi)
/-! spreading -/
theorem c_pieceB {b ov i : Int} (hb : 0 ≤ b) (hi : 0 ≤ i) : 0 ≤ c_piece b ov i ∧ c_piece b ov i ≤ b := by
  unfold c_piece
  split
  · omega
  · rw [Int.tdiv_eq_ediv_of_nonneg hb, Int.tmod_eq_emod_of_nonneg hb]
    have : min 5 ov = 1 ∨ min 5 ov = 2 ∨ min 5 ov = 3 ∨ min 5 ov = 4 ∨ min 5 ov = 5 := by omega
    rcases this with e | e | e | e | e <;> rw [e] <;> split <;> omega
theorem c_piece_0 {b ov i : Int} (h : min 5 ov ≤ i) : c_piece b ov i = 0 := by unfold c_piece; rw [if_pos (Or.inr h)]
theorem c_piece_sum {b ov : Int} (hb : 0 ≤ b) (ho : 1 ≤ ov) : q_sum (fun i => c_piece b ov (i : Int)) 0 5 = b := by
  simp only [q_sum, c_piece]
  rw [Int.tdiv_eq_ediv_of_nonneg hb, Int.tmod_eq_emod_of_nonneg hb]
  have : min 5 ov = 1 ∨ min 5 ov = 2 ∨ min 5 ov = 3 ∨ min 5 ov = 4 ∨ min 5 ov = 5 := by omega
  rcases this with e | e | e | e | e <;> rw [e] <;> simp <;> omega
theorem q_sum_ext {F : Nat → Int} {m0 : Nat} (h0 : ∀ i, m0 ≤ i → F i = 0) {m : Nat} (hm : m0 ≤ m) : q_sum F 0 m = q_sum F 0 m0 := by
  have := q_sum_add F m0 (m - m0) 0
  rw [show m0 + (m - m0) = m by omega, q_sum_0 (f := F) (m - m0) (0 + m0) (fun i i1 _ => h0 i (by omega))] at this
  omega
theorem q_sum_off {F : Nat → Int} (row : Nat) : ∀ (k a : Nat), q_sum (fun j => F (j - row)) (row + a) k = q_sum F a k
  | 0, _ => rfl
  | k + 1, a => by rw [q_sum, q_sum, show row + a + 1 = row + (a + 1) by omega, q_sum_off row k (a + 1), show row + a - row = a by omega]
theorem q_sum_plus {f h : Nat → Int} : ∀ (k a : Nat), q_sum (fun j => f j + h j) a k = q_sum f a k + q_sum h a k
  | 0, _ => rfl
  | k + 1, a => by rw [q_sum, q_sum, q_sum, q_sum_plus k (a + 1)]; omega
/-- all pieces of a bonus, laid from a row on -/
theorem piece_row {b ov : Int} {row : Nat} (hb : 0 ≤ b) (ho : 1 ≤ ov) (hr : row + ov ≤ 10) : q_sum (fun j : Nat => if row ≤ j then c_piece b ov ((j - row : Nat) : Int) else 0) 0 10 = b := by
  have e := q_sum_add (fun j : Nat => if row ≤ j then c_piece b ov ((j - row : Nat) : Int) else 0) row (10 - row) 0
  rw [show row + (10 - row) = 10 by omega] at e
  rw [e, q_sum_0 row 0 (fun i _ hi => if_neg (by omega)), Nat.zero_add]
  rw [q_sum_congr (h := fun j : Nat => (fun i : Nat => c_piece b ov (i : Int)) (j - row)) (10 - row) row (fun i hi _ => if_pos hi)]
  have e2 := q_sum_off (F := fun i : Nat => c_piece b ov (i : Int)) row (10 - row) 0
  rw [Nat.add_zero] at e2
  rw [e2]
  have z : ∀ i : Nat, (min 5 ov).toNat ≤ i → c_piece b ov (i : Int) = 0 := fun i hi => c_piece_0 (by omega)
  rw [q_sum_ext z (by omega), ← q_sum_ext (m := 5) z (by omega), c_piece_sum hb ho, Int.zero_add]
theorem c_spN_at {X : q_X} {c row : Nat} {b ov : Int} : ∀ k, (∀ i, i < k → q_in (xv X (c + 3) (row + i) + c_piece b ov i)) → ∀ j, xv (c_spN X c row b ov k) (c + 3) j = xv X (c + 3) j + if row ≤ j ∧ j < row + k then c_piece b ov ((j - row : Nat) : Int) else 0
  | 0, _, j => by rw [if_neg (by omega)]; simp [c_spN]
  | k + 1, h, j => by
    have ih := c_spN_at k (fun i hi => h i (by omega))
    rw [c_spN]
    by_cases e : j = row + k
    · subst e
      have e1 := ih (row + k)
      rw [if_neg (by omega), Int.add_zero] at e1
      rw [xv_up_same _ _ _ (by rw [e1]; exact h k (by omega)), e1, if_pos (by omega), show row + k - row = k by omega]
    · rw [xv_up_ne _ _ (by omega), ih j]
      by_cases e2 : row ≤ j ∧ j < row + k
      · rw [if_pos e2, if_pos (by omega)]
      · rw [if_neg e2, if_neg (by omega)]
theorem c_spread_at {X : q_X} {c row : Nat} {y b : Int} (hy : y - xv X c 0 = (row : Int)) (h10 : row < 10) (hb : 0 ≤ b ∧ b ≤ 99999) (hp : ∀ j, j < 10 → 0 ≤ xv X (c + 3) j ∧ xv X (c + 3) j ≤ 10000000) (hg : 0 ≤ xv X (c + 4) row ∧ xv X (c + 4) row ≤ 10000000) :
    (∀ j, j < 10 → xv (c_spread X c y b) (c + 3) j = xv X (c + 3) j + if row ≤ j then c_piece b (c_last X c - y + 1) ((j - row : Nat) : Int) else 0) ∧ ∀ j, xv (c_spread X c y b) (c + 4) j = xv X (c + 4) j + if j = row then b else 0 := by
  unfold c_spread
  rw [if_pos (by omega), hy, Int.toNat_natCast]
  have e3 : ∀ j, xv (q_up X (c + 4) row (zi (xv X (c + 4) row + b))) (c + 3) j = xv X (c + 3) j := fun j => xv_up_ne _ _ (by omega)
  refine ⟨fun j hj => ?_, fun j => ?_⟩
  · rw [c_spN_at _ (fun i hi => by rw [e3]; have := hp (row + i) (by omega); have := c_pieceB (b := b) (ov := c_last X c - y + 1) (i := (i : Int)) hb.1 (by omega); omega), e3]
    by_cases e : row ≤ j
    · rw [if_pos e]
      by_cases e5 : j < row + min 5 (10 - row)
      · rw [if_pos ⟨e, e5⟩]
      · rw [if_neg (by omega), c_piece_0 (i := ((j - row : Nat) : Int)) (by omega)]
    · rw [if_neg e, if_neg (by omega)]
  · rw [c_spN_f _ _ _ _ _ _ _ (by omega)]
    by_cases e : j = row
    · subst e; rw [if_pos rfl, xv_up_same _ _ _ (by omega)]
    · rw [if_neg e, xv_up_ne _ _ (by omega)]; omega
theorem cOk_pb {X : q_X} {c : Nat} (h : cOk X c) : (∀ j, j < 10 → 0 ≤ xv X (c + 3) j ∧ xv X (c + 3) j ≤ 10000000) ∧ ∀ j, j < 10 → 0 ≤ xv X (c + 4) j ∧ xv X (c + 4) j ≤ 10000000 := by
  have hj := h.2.2.2.2.1
  have h1 := q_sum_nn (f := xv X (c + 1)) 10 0 (fun i _ hi => (hj i (by omega)).1)
  have h2 := h.2.1
  have h3 := h.2.2.2.2.2
  refine ⟨fun j hj' => ?_, fun j hj' => ?_⟩
  · have := q_sum_le (f := xv X (c + 3)) 10 0 j (fun i _ hi => (hj i (by omega)).2.2.2.2.1) (by omega) (by omega)
    have := (hj j hj').2.2.2.2.1
    omega
  · have := q_sum_le (f := xv X (c + 4)) 10 0 j (fun i _ hi => (hj i (by omega)).2.2.2.2.2.1) (by omega) (by omega)
    have := (hj j hj').2.2.2.2.2.1
    omega

