/-! contracts, books: cell by cell -/
def cPt (X : q_X) (c : Nat) (X' : q_X) (c' : Nat) : Prop := (∀ j, j < 6 → xv X' c' j = xv X c j) ∧ ∀ d, 1 ≤ d → d ≤ 4 → ∀ j, j < 10 → xv X' (c' + d) j = xv X (c + d) j
theorem cPt.ok {X X' : q_X} {c c' : Nat} (h : cPt X c X' c') (hO : cOk X c) : cOk X' c' := by
  obtain ⟨hf, hr⟩ := h
  unfold cOk at hO ⊢
  rw [hf 0 (by omega), hf 1 (by omega), hf 2 (by omega), hf 3 (by omega), hf 4 (by omega), hf 5 (by omega), q_sum_congr (f := xv X' (c' + 1)) (h := xv X (c + 1)) 10 0 (fun i _ hi => hr 1 (by omega) (by omega) i (by omega)), q_sum_congr (f := xv X' (c' + 3)) (h := xv X (c + 3)) 10 0 (fun i _ hi => hr 3 (by omega) (by omega) i (by omega)), q_sum_congr (f := xv X' (c' + 4)) (h := xv X (c + 4)) 10 0 (fun i _ hi => hr 4 (by omega) (by omega) i (by omega))]
  obtain ⟨a1, a2, a3, a4, a5, a6⟩ := hO
  refine ⟨a1, a2, a3, a4, fun j hj => ?_, a6⟩
  rw [hr 1 (by omega) (by omega) j hj, hr 2 (by omega) (by omega) j hj, hr 3 (by omega) (by omega) j hj, hr 4 (by omega) (by omega) j hj]
  exact a5 j hj
theorem cPt.base {X X' : q_X} {c c' : Nat} (h : cPt X c X' c') (y : Int) : c_base X' c' y = c_base X c y ∧ c_roster X' c' y = c_roster X c y ∧ c_parts X' c' y = c_parts X c y ∧ c_given X' c' y = c_given X c y := by
  obtain ⟨hf, hr⟩ := h
  unfold c_base c_roster c_parts c_given c_plays
  rw [hf 0 (by omega), hf 1 (by omega)]
  refine ⟨?_, ?_, ?_, ?_⟩
  · split
    · exact hr 1 (by omega) (by omega) _ (by omega)
    · rfl
  · split
    · exact hr 2 (by omega) (by omega) _ (by omega)
    · rfl
  · split
    · exact hr 3 (by omega) (by omega) _ (by omega)
    · rfl
  · split
    · exact hr 4 (by omega) (by omega) _ (by omega)
    · rfl
/-- the books b of X are the books a of X' -/
def bC (X : q_X) (b : Nat) (X' : q_X) (a : Nat) : Prop := ∀ d j, D_bk (xv X b 10).toNat d j → X' (a + d) j = X (b + d) j
theorem bC.v {X X' : q_X} {a b : Nat} (h : bC X b X' a) {d j : Nat} (hd : D_bk (xv X b 10).toNat d j) : xv X' (a + d) j = xv X (b + d) j := by unfold xv; rw [h d j hd]
theorem bC.z {X X' : q_X} {a b : Nat} (h : bC X b X' a) {j : Nat} (hj : j < 7 ∨ j = 10) : xv X' a j = xv X b j := h.v (d := 0) (Or.inl ⟨rfl, hj⟩)
theorem bC.l {X X' : q_X} {a b : Nat} (h : bC X b X' a) {d j : Nat} (hd : d = 1 ∨ d = 2) (hj : j < 20) : xv X' (a + d) j = xv X (b + d) j := h.v (Or.inr (Or.inl ⟨hd, hj⟩))
theorem bC.p0 {X X' : q_X} {a b : Nat} (h : bC X b X' a) : xv X' (a + 4) 0 = xv X (b + 4) 0 := h.v (Or.inr (Or.inr (Or.inl ⟨by omega, Or.inl ⟨by omega, rfl⟩⟩)))
theorem bC.p {X X' : q_X} {a b : Nat} (h : bC X b X' a) {d j : Nat} (hd : 5 ≤ d ∧ d ≤ 9) (hj : j < 24) : xv X' (a + d) j = xv X (b + d) j := h.v (Or.inr (Or.inr (Or.inl ⟨by omega, Or.inr ⟨by omega, by omega, hj⟩⟩)))
theorem bC.m0 {X X' : q_X} {a b : Nat} (h : bC X b X' a) : xv X' (a + 10) 0 = xv X (b + 10) 0 := h.v (Or.inr (Or.inr (Or.inr (Or.inl ⟨by omega, Or.inl ⟨by omega, rfl⟩⟩))))
theorem bC.m {X X' : q_X} {a b : Nat} (h : bC X b X' a) {d j : Nat} (hd : 11 ≤ d ∧ d ≤ 14) (hj : j < 12) : xv X' (a + d) j = xv X (b + d) j := h.v (Or.inr (Or.inr (Or.inr (Or.inl ⟨by omega, Or.inr ⟨by omega, by omega, hj⟩⟩))))
theorem bC.f0 {X X' : q_X} {a b : Nat} (h : bC X b X' a) : xv X' (a + 15) 0 = xv X (b + 15) 0 := h.v (Or.inr (Or.inr (Or.inr (Or.inr (Or.inl ⟨by omega, Or.inl ⟨by omega, rfl⟩⟩)))))
theorem bC.f {X X' : q_X} {a b : Nat} (h : bC X b X' a) {j : Nat} (hj : j < 80) : xv X' (a + 16) j = xv X (b + 16) j := h.v (Or.inr (Or.inr (Or.inr (Or.inr (Or.inl ⟨by omega, Or.inr ⟨by omega, hj⟩⟩)))))
theorem bC.c {X X' : q_X} {a b k : Nat} (h : bC X b X' a) (hk : (k : Int) < xv X b 10) : cPt X (con b k) X' (con a k) := by
  refine ⟨fun j hj => ?_, fun d d1 d2 j hj => ?_⟩
  · have := h.v (d := 20 + 5 * k) (j := j) (Or.inr (Or.inr (Or.inr (Or.inr (Or.inr ⟨by omega, by omega, Or.inl ⟨by omega, hj⟩⟩)))))
    rw [show con a k = a + (20 + 5 * k) by unfold con; omega, show con b k = b + (20 + 5 * k) by unfold con; omega]; exact this
  · have := h.v (d := 20 + 5 * k + d) (j := j) (Or.inr (Or.inr (Or.inr (Or.inr (Or.inr ⟨by omega, by omega, Or.inr ⟨by omega, hj⟩⟩)))))
    rw [show con a k + d = a + (20 + 5 * k + d) by unfold con; omega, show con b k + d = b + (20 + 5 * k + d) by unfold con; omega]; exact this
theorem fH_congr {t t' : Nat → Int} : ∀ m, (∀ i, i < m → t' i = t i) → fH t' m = fH t m
  | 0, _ => rfl
  | m + 1, h => by rw [fH, fH, h m (by omega), fH_congr m (fun i hi => h i (by omega))]
theorem fWF_congr {t t' : Nat → Int} {m : Nat} (h : ∀ i, i < m → t' i = t i) (hw : fWF t m) : fWF t' m := fun i hi => by
  rw [h i hi, fH_congr i (fun j hj => h j (by omega))]; exact hw i hi
theorem bC.a {X X' : q_X} {a b : Nat} (h : bC X b X' a) (hA : bA X b) : bA X' a := by
  obtain ⟨hO, hv, hF⟩ := hA
  have o10 := hO.2.2.2.2.2.2.2.1
  refine ⟨?_, fun k hk hs => ?_, ?_⟩
  · have hc := fun (k : Nat) (hk : (k : Int) < xv X b 10) => (h.c hk).ok (hO.c hk)
    unfold bOk at hO ⊢
    rw [h.z (j := 0) (by omega), h.z (j := 1) (by omega), h.z (j := 2) (by omega), h.z (j := 3) (by omega), h.z (j := 4) (by omega), h.z (j := 5) (by omega), h.z (j := 6) (by omega), h.z (j := 10) (by omega), h.p0, h.m0]
    obtain ⟨a1, a2, a3, a4, a5, a6, a7, a8, -, b1, b2, b3, b4, b5, b6⟩ := hO
    refine ⟨a1, a2, a3, a4, a5, a6, a7, a8, hc, b1, fun i hi => ?_, fun i hi => ?_, b4, fun i hi => ?_, fun y hy => ?_⟩
    · rw [h.p (by omega) hi, h.p (by omega) hi]; exact b2 i hi
    · rw [h.p (by omega) (by omega), h.p (by omega) (by omega), h.p (by omega) (by omega)]; exact b3 i hi
    · rw [h.m (by omega) (by omega), h.m (by omega) (by omega), h.m (by omega) (by omega), h.m (by omega) (by omega)]; exact b5 i hi
    · rw [h.l (by omega) hy]; exact b6 y hy
  · rw [h.z (j := 10) (by omega)] at hk
    have hc := (h.c hk).1
    rw [hc 4 (by omega)] at hs
    rw [h.z (j := 0) (by omega), hc 0 (by omega), hc 1 (by omega)]
    exact hv k hk hs
  · unfold bF at hF ⊢
    rw [h.f0]
    exact ⟨hF.1, fWF_congr (fun i hi => h.f (by omega)) hF.2⟩
theorem bS.c {X X' : q_X} {b : Nat} (h : bS X X' b) (h10 : xv X b 10 ≤ 40) : bC X b X' b := fun d j hd => by
  have h1 := D_bk_lt (by omega) hd
  by_cases e : d = 18
  · subst e; unfold D_bk D_pro D_mar D_for at hd; omega
  · rw [h d h1 e]
theorem bC.trans {X X' X2 : q_X} {a b c : Nat} (h : bC X b X' a) (h2 : bC X' a X2 c) : bC X b X2 c := fun d j hd => by
  rw [← h d j hd]
  refine h2 d j ?_
  rw [h.z (j := 10) (by omega)]; exact hd
/-! a new contract -/
theorem c_start_z (X : q_X) (c : Nat) (f y v s : Int) {d j : Nat} (hd : 1 ≤ d ∧ d ≤ 4) (hj : j < 10) : xv (c_start X c f y v s) (c + d) j = 0 := by
  simp only [c_start, xv, c_zero]
  rw [if_pos (by omega)]; rfl
theorem cOk_new {Xs X' : q_X} {c : Nat} {f y v s bonus : Int} (hf : 0 ≤ f ∧ f ≤ 19) (hy : 1 ≤ y) (hv : 0 ≤ v) (hyv : y + v ≤ 10) (hl : f + y + v ≤ 20) (hs : 0 ≤ s ∧ s ≤ 100) (hbo : 0 ≤ bonus ∧ bonus ≤ 99999)
    (h0 : ∀ j, j < 6 → xv X' c j = xv (c_start Xs c f y v s) c j) (h3 : ∀ j, j < 10 → xv X' (c + 3) j = xv (c_spread (c_start Xs c f y v s) c f bonus) (c + 3) j) (h4 : ∀ j, j < 10 → xv X' (c + 4) j = xv (c_spread (c_start Xs c f y v s) c f bonus) (c + 4) j)
    (hb : ∀ j : Nat, j < 10 → 0 ≤ xv X' (c + 1) j ∧ xv X' (c + 1) j ≤ 99999 ∧ 0 ≤ xv X' (c + 2) j ∧ xv X' (c + 2) j ≤ 99999 ∧ (y ≤ j → xv X' (c + 1) j = 0 ∧ xv X' (c + 2) j = 0)) : cOk X' c := by
  have hst := c_start_c Xs c (f := f) (y := y) (v := v) (s := s) (by omega) (by omega) (by omega) (by omega)
  have hls : c_last (c_start Xs c f y v s) c - f + 1 = y + v := by unfold c_last; rw [hst.1, hst.2.1, hst.2.2.1]; omega
  obtain ⟨s3, s4⟩ := c_spread_at (X := c_start Xs c f y v s) (c := c) (row := 0) (y := f) (b := bonus) (by rw [hst.1]; omega) (by omega) hbo (fun j hj => by rw [c_start_z _ _ _ _ _ _ (by omega) hj]; omega) (by rw [c_start_z _ _ _ _ _ _ (by omega) (by omega)]; omega)
  rw [hls] at s3
  have e3 : ∀ j, j < 10 → xv X' (c + 3) j = if 0 ≤ j then c_piece bonus (y + v) ((j - 0 : Nat) : Int) else 0 := fun j hj => by rw [h3 j hj, s3 j hj, c_start_z _ _ _ _ _ _ (by omega) hj, Int.zero_add]
  have e4 : ∀ j, j < 10 → xv X' (c + 4) j = if j = 0 then bonus else 0 := fun j hj => by rw [h4 j hj, s4 j, c_start_z _ _ _ _ _ _ (by omega) hj, Int.zero_add]
  have q3 : q_sum (xv X' (c + 3)) 0 10 = bonus := by
    rw [q_sum_congr 10 0 (fun i _ hi => e3 i (by omega))]; exact piece_row hbo.1 (by omega) (by omega)
  have q4 : q_sum (xv X' (c + 4)) 0 10 = bonus := by
    rw [q_sum_congr 10 0 (fun i _ hi => e4 i (by omega))]; exact q_sum_ind 0 bonus (by omega)
  have q1 : q_sum (xv X' (c + 1)) 0 10 ≤ 99999 * y := by
    have e := q_sum_add (xv X' (c + 1)) y.toNat (10 - y.toNat) 0
    rw [show y.toNat + (10 - y.toNat) = 10 by omega] at e
    rw [e, q_sum_0 (10 - y.toNat) (0 + y.toNat) (fun i h1 h2 => ((hb i (by omega)).2.2.2.2 (by omega)).1)]
    have := q_sum_ub (f := xv X' (c + 1)) (B := 99999) y.toNat 0 (fun i _ hi => (hb i (by omega)).2.1)
    omega
  unfold cOk
  rw [h0 0 (by omega), h0 1 (by omega), h0 2 (by omega), h0 3 (by omega), h0 4 (by omega), h0 5 (by omega), hst.1, hst.2.1, hst.2.2.1, hst.2.2.2.1, hst.2.2.2.2.1, hst.2.2.2.2.2, q3, q4]
  refine ⟨hf, ⟨hy, hv, by omega, by omega⟩, hs, by omega, fun j hj => ?_, by omega, by omega⟩
  have a1 := hb j hj
  have a3 := c_pieceB (b := bonus) (ov := y + v) (i := ((j - 0 : Nat) : Int)) hbo.1 (by omega)
  rw [e3 j hj, e4 j hj]
  refine ⟨a1.1, a1.2.1, a1.2.2.1, a1.2.2.2.1, ?_, ?_, a1.2.2.2.2, fun hh => ?_⟩
  · split <;> omega
  · split <;> omega
  · rw [if_pos (by omega), c_piece_0 (by omega)]
theorem mk_sh_v (X : q_X) (o i t a q : Nat) : xv (mk_sh X o i t) a q = if o + 1 ≤ a ∧ a ≤ o + 4 ∧ i ≤ q ∧ q < t then xv X a (q + 1) else xv X a q := by
  simp only [mk_sh, xv]; split <;> rfl
theorem bA_take {X : q_X} {b i : Nat} (hA : bA X b) (h : bk_sref X b i = 0) : bA (bk_take X b i) b := by
  obtain ⟨hO, hv, hF⟩ := hA
  have hsr : 0 ≤ (i : Int) ∧ (i : Int) < xv X (b + 10) 0 ∧ xv X b 10 < 40 ∧ xv X b 0 + xv X (b + 12) i ≤ 20 := by
    unfold bk_sref at h
    rw [Int.toNat_natCast] at h
    split at h
    · omega
    · split at h <;> omega
  obtain ⟨o0, o1, o2, o3, o4, o5, o6, o10, oc, op0, opz, opi, om0, omi, olim⟩ := id hO
  have hmi := omi i hsr.2.1
  generalize hc : con b (xv X b 10).toNat = c
  have hcb : c = b + 20 + 5 * (xv X b 10).toNat := by rw [← hc]; rfl
  generalize hX1 : q_up X b 10 (zi (xv X b 10 + 1)) = X1
  have z1 : ∀ j, xv X1 b j = if j = 10 then xv X b 10 + 1 else xv X b j := fun j => by
    rw [← hX1]
    by_cases e : j = 10
    · subst e; rw [if_pos rfl, xv_up_same _ _ _ (by omega)]
    · rw [if_neg e, xv_up_ne _ _ (by omega)]
  have r1 : ∀ a, a ≠ b → xv X1 a = xv X a := fun a ha => by rw [← hX1]; exact xv_up_row _ _ _ ha
  generalize hX3 : c_spread (c_start X1 c (xv X b 0) (xv X (b + 12) i) 0 0) c (xv X b 0) (xv X (b + 13) i) = X3
  generalize hX4 : c_putN X3 c 0 (xv X (b + 14) i) (xv X (b + 12) i).toNat = X4
  have he : bk_take X b i = mk_rem X4 (b + 10) i := by rw [bk_take, bk_t3, hc, hX1, hX3, hX4]
  have r3 : ∀ a, (a < c ∨ c + 4 < a) → xv X4 a = xv X1 a := fun a ha => by rw [← hX4, c_putN_o _ _ _ _ (by omega), ← hX3, c_spread_o _ _ _ _ (by omega), c_start_o _ _ _ _ _ _ ha]
  have r5 : ∀ a, (a < b + 10 ∨ b + 14 < a) → xv (mk_rem X4 (b + 10) i) a = xv X4 a := fun a ha => by rw [mk_rem, xv_up_row _ _ _ (by omega), mk_sh_o _ _ _ _ (by omega)]
  have rA : ∀ a, a ≠ b → (a < b + 10 ∨ b + 14 < a) → (a < c ∨ c + 4 < a) → xv (mk_rem X4 (b + 10) i) a = xv X a := fun a h1 h2 h3 => by rw [r5 a h2, r3 a h3, r1 a h1]
  have zb : ∀ j, xv (mk_rem X4 (b + 10) i) b j = if j = 10 then xv X b 10 + 1 else xv X b j := fun j => by rw [r5 b (by omega), r3 b (by omega), z1]
  have m4 : ∀ d, 10 ≤ d → d ≤ 14 → xv X4 (b + d) = xv X (b + d) := fun d h1 h2 => by rw [r3 _ (by omega), r1 _ (by omega)]
  have hms : xv (mk_rem X4 (b + 10) i) (b + 10) 0 = xv X (b + 10) 0 - 1 := by
    rw [mk_rem, xv_up_same _ _ _ (by rw [m4 10 (by omega) (by omega)]; omega), m4 10 (by omega) (by omega)]
  have hmr : ∀ d j : Nat, 11 ≤ d → d ≤ 14 → (j : Int) < xv X (b + 10) 0 - 1 → xv (mk_rem X4 (b + 10) i) (b + d) j = xv X (b + d) (if i ≤ j then j + 1 else j) := fun d j h1 h2 hj => by
    rw [mk_rem, xv_up_ne _ _ (by omega), mk_sh_v, m4 10 (by omega) (by omega), m4 d (by omega) (by omega)]
    by_cases e2 : i ≤ j
    · rw [if_pos (by omega), if_pos e2]
    · rw [if_neg (by omega), if_neg e2]
  have hcn : cOk (mk_rem X4 (b + 10) i) c := by
    have hpn := putN_at (X := X3) (c := c) (a := 0) (base := xv X (b + 14) i) (r := 0) (by omega) (by omega) (xv X (b + 12) i).toNat (by omega)
    have h12 : ∀ d j, 1 ≤ d → d ≤ 2 → j < 10 → xv X3 (c + d) j = 0 := fun d j h1 h2 hj => by rw [← hX3, c_spread_o _ _ _ _ (by omega), c_start_z _ _ _ _ _ _ (by omega) hj]
    refine cOk_new (Xs := X1) (f := xv X b 0) (y := xv X (b + 12) i) (v := 0) (s := 0) (bonus := xv X (b + 13) i) o0 (by omega) (by omega) (by omega) (by omega) (by omega) (by omega) (fun j hj => ?_) (fun j hj => ?_) (fun j hj => ?_) (fun j hj => ?_)
    · rw [r5 _ (by omega), ← hX4, c_putN_o _ _ _ _ (by omega), ← hX3, c_spread_o _ _ _ _ (by omega)]
    · rw [r5 _ (by omega), ← hX4, c_putN_o _ _ _ _ (by omega), hX3]
    · rw [r5 _ (by omega), ← hX4, c_putN_o _ _ _ _ (by omega), hX3]
    · rw [r5 _ (by omega), r5 _ (by omega), ← hX4, (hpn j).1, (hpn j).2, h12 1 j (by omega) (by omega) hj, h12 2 j (by omega) (by omega) hj]
      refine ⟨?_, ?_, ?_, ?_, fun q => ?_⟩
      · split <;> omega
      · split <;> omega
      · split <;> omega
      · split <;> omega
      · rw [if_neg (by omega), if_neg (by omega)]; exact ⟨rfl, rfl⟩
  have hf0 : xv (mk_rem X4 (b + 10) i) c 0 = xv X b 0 ∧ xv (mk_rem X4 (b + 10) i) c 1 = xv X (b + 12) i := by
    have hst := c_start_c X1 c (f := xv X b 0) (y := xv X (b + 12) i) (v := 0) (s := 0) (by omega) (by omega) (by omega) (by omega)
    rw [r5 _ (by omega), ← hX4, c_putN_o _ _ _ _ (by omega), ← hX3, c_spread_o _ _ _ _ (by omega)]
    exact ⟨hst.1, hst.2.1⟩
  rw [he]
  have hck : ∀ k : Nat, (k : Int) < xv X b 10 → xv (mk_rem X4 (b + 10) i) (con b k) = xv X (con b k) := fun k hk => rA _ (by unfold con; omega) (by unfold con; omega) (by rw [hcb]; unfold con; omega)
  refine ⟨?_, fun k hk hs => ?_, bF_mk hF (rA _ (by omega) (by omega) (by omega)) (rA _ (by omega) (by omega) (by omega))⟩
  · unfold bOk
    rw [zb, zb, zb, zb, zb, zb, zb, zb, if_neg (by omega), if_neg (by omega), if_neg (by omega), if_neg (by omega), if_neg (by omega), if_neg (by omega), if_neg (by omega), if_pos rfl, hms, rA (b + 1) (by omega) (by omega) (by omega), rA (b + 4) (by omega) (by omega) (by omega), rA (b + 5) (by omega) (by omega) (by omega), rA (b + 6) (by omega) (by omega) (by omega), rA (b + 7) (by omega) (by omega) (by omega), rA (b + 8) (by omega) (by omega) (by omega), rA (b + 9) (by omega) (by omega) (by omega)]
    refine ⟨o0, o1, o2, o3, o4, o5, o6, by omega, fun k hk => ?_, op0, opz, fun j hj => ?_, by omega, fun j hj => ?_, olim⟩
    · by_cases e : k = (xv X b 10).toNat
      · subst e; rw [hc]; exact hcn
      · exact cOk_ag (fun d hd => rA _ (by unfold con; omega) (by unfold con; omega) (by rw [hcb]; unfold con; omega)) (oc k (by omega))
    · have := opi j hj; omega
    · rw [hmr 11 j (by omega) (by omega) hj, hmr 12 j (by omega) (by omega) hj, hmr 13 j (by omega) (by omega) hj, hmr 14 j (by omega) (by omega) hj]
      exact omi _ (by split <;> omega)
  · rw [zb, if_pos rfl] at hk
    rw [zb, if_neg (by omega)]
    by_cases e : k = (xv X b 10).toNat
    · subst e; rw [hc, hf0.1, hf0.2]; omega
    · rw [hck k (by omega)] at hs ⊢; exact hv k (by omega) hs
