/-! what counts: over all k, by rank -/
abbrev u_ah (H : Nat → Int) (i k : Nat) : Prop := H k < H i ∨ (H i = H k ∧ i < k)
def u_rk (s : Nat) (O : Nat → Bool) (H : Nat → Int) (k : Nat) : Int := q_sum (fun i => if O i = true ∧ u_ah H i k then 1 else 0) 0 s
def u_ct (s : Nat) (O : Nat → Bool) (Lk H Pa : Nat → Int) (fp : Int) : Int := q_sum (fun k => if O k = true then Lk k + (if u_rk s O H k < fp then H k else Pa k) else 0) 0 s
theorem u_rk_congr {s : Nat} {O O' : Nat → Bool} {H H' : Nat → Int} {k : Nat} (hO : ∀ i, i < s → O i = O' i) (hH : ∀ i, i < s → H i = H' i) (hk : k < s) : u_rk s O H k = u_rk s O' H' k := by
  unfold u_rk
  refine q_sum_congr _ _ (fun i _ hi => ?_)
  simp only [u_ah, hO i (by omega), hH i (by omega), hH k hk]
theorem u_ct_congr {s : Nat} {O O' : Nat → Bool} {Lk Lk' H H' Pa Pa' : Nat → Int} (fp : Int) (hO : ∀ i, i < s → O i = O' i) (hH : ∀ i, i < s → O i = true → H i = H' i ∧ Lk i = Lk' i ∧ Pa i = Pa' i) : u_ct s O Lk H Pa fp = u_ct s O' Lk' H' Pa' fp := by
  have hr : ∀ k, k < s → O k = true → u_rk s O H k = u_rk s O' H' k := fun k hk hok => by
    unfold u_rk
    refine q_sum_congr _ _ (fun i _ hi => ?_)
    by_cases ho : O i = true
    · simp only [u_ah, ← hO i (by omega), (hH i (by omega) ho).1, (hH k hk hok).1]
    · rw [if_neg (fun q => ho q.1), if_neg (fun q => ho ((hO i (by omega)).trans q.1))]
  unfold u_ct
  refine q_sum_congr _ _ (fun k _ hk => ?_)
  by_cases ho : O k = true
  · rw [if_pos ho, if_pos ((hO k (by omega)).symm.trans ho), hr k (by omega) ho, (hH k (by omega) ho).1, (hH k (by omega) ho).2.1, (hH k (by omega) ho).2.2]
  · rw [if_neg ho, if_neg (fun q => ho ((hO k (by omega)).trans q))]
theorem q_sum_0 {f : Nat → Int} : ∀ (k a : Nat), (∀ i, a ≤ i → i < a + k → f i = 0) → q_sum f a k = 0
  | 0, _, _ => rfl
  | k + 1, a, h => by rw [q_sum, h a (by omega) (by omega), q_sum_0 k (a + 1) (fun i h1 h2 => h i (by omega) (by omega))]; rfl
theorem q_sum_two {f : Nat → Int} {k p q : Nat} (h : ∀ i, i < k → 0 ≤ f i) (hp : p < q) (hq : q < k) : f p + f q ≤ q_sum f 0 k := by
  have e := q_sum_add f (p + 1) (k - (p + 1)) 0
  rw [show p + 1 + (k - (p + 1)) = k by omega, Nat.zero_add] at e
  have h1 := q_sum_le (f := f) (p + 1) 0 p (fun i _ hi => h i (by omega)) (by omega) (by omega)
  have h2 := q_sum_le (f := f) (k - (p + 1)) (p + 1) q (fun i _ hi => h i (by omega)) (by omega) (by omega)
  omega
theorem q_sum_one (Op : Nat → Bool) (v : Int) : ∀ (s a : Nat), q_sum (fun i => if Op i = true then (if (i : Int) = v then 1 else 0) else 0) a s ≤ if v < a then 0 else 1
  | 0, a => by rw [q_sum]; split <;> omega
  | s + 1, a => by
    have ih := q_sum_one Op v s (a + 1)
    rw [q_sum]
    by_cases e : (a : Int) = v
    · rw [if_pos (show v < ((a + 1 : Nat) : Int) by omega)] at ih
      rw [if_neg (show ¬ v < (a : Int) by omega), if_pos e]
      split <;> omega
    · rw [if_neg e]
      split at ih <;> split <;> split <;> omega
/-- the order goes by hits, over those of the first s that Op names -/
def TO (X : q_X) (s : Nat) (Op : Nat → Bool) : Prop := tOk X ∧ (∀ F : Int → Int, q_sum (fun j => F (xv X 458 j)) 0 (xv X 453 5).toNat = q_sum (fun i => if Op i = true then F i else 0) 0 s) ∧ ∀ p q : Nat, p < q → (q : Int) < xv X 453 5 → ¬ t_ahead X (xv X 458 q) (xv X 458 p)
theorem TO.inj {X : q_X} {s : Nat} {Op : Nat → Bool} (h : TO X s Op) {p q : Nat} (hp : p < q) (hq : (q : Int) < xv X 453 5) : xv X 458 p ≠ xv X 458 q := by
  intro e
  have h1 := h.2.1 (fun x => if x = xv X 458 p then 1 else 0)
  have h2 := q_sum_one Op (xv X 458 p) s 0
  have h3 := q_sum_two (f := fun j => if xv X 458 j = xv X 458 p then (1 : Int) else 0) (k := (xv X 453 5).toNat) (p := p) (q := q) (fun i _ => by split <;> omega) hp (by omega)
  rw [if_pos rfl, if_pos e.symm] at h3
  have h4 : (if xv X 458 p < ((0 : Nat) : Int) then (0 : Int) else 1) ≤ 1 := by split <;> omega
  omega
/-- how many of the first i count -/
def t_cn (X : q_X) (i : Nat) : Int := q_sum (fun j => if xv X 457 (xv X 458 j).toNat = 0 then 1 else 0) 0 i
theorem t_tot_cn (X : q_X) (fp : Int) : ∀ (w i : Nat), t_tot X fp w i (t_cn X i) = q_sum (fun j => if xv X 457 (xv X 458 j).toNat = 0 then xv X 456 (xv X 458 j).toNat + (if t_cn X j < fp then xv X 454 (xv X 458 j).toNat else xv X 455 (xv X 458 j).toNat) else 0) i w
  | 0, _ => rfl
  | w + 1, i => by
    have ih := t_tot_cn X fp w (i + 1)
    have e : t_cn X (i + 1) = t_cn X i + if xv X 457 (xv X 458 i).toNat = 0 then 1 else 0 := q_sum_snoc _ _
    rw [t_tot, q_sum]
    by_cases hg : xv X 457 (xv X 458 i).toNat = 0
    · rw [if_pos hg] at e
      rw [if_pos hg, if_pos hg, ← ih, e]
    · rw [if_neg hg, Int.add_zero] at e
      rw [if_neg hg, if_neg hg, ← ih, e, Int.zero_add]
theorem TO.rank {X : q_X} {s : Nat} {Op : Nat → Bool} (h : TO X s Op) {j : Nat} (hj : (j : Int) < xv X 453 5) : t_cn X j = u_rk s (fun k => Op k && decide (xv X 457 k = 0)) (xv X 454) (xv X 458 j).toNat := by
  obtain ⟨⟨hz, ho⟩, hF, hs⟩ := id h
  have h1 := hF (fun x => if xv X 457 x.toNat = 0 ∧ t_ahead X x (xv X 458 j) then 1 else 0)
  have h2 : q_sum (fun p => if xv X 457 (xv X 458 p).toNat = 0 ∧ t_ahead X (xv X 458 p) (xv X 458 j) then (1 : Int) else 0) 0 (xv X 453 5).toNat = t_cn X j := by
    have e := q_sum_add (fun p => if xv X 457 (xv X 458 p).toNat = 0 ∧ t_ahead X (xv X 458 p) (xv X 458 j) then (1 : Int) else 0) j ((xv X 453 5).toNat - j) 0
    rw [show j + ((xv X 453 5).toNat - j) = (xv X 453 5).toNat by omega, Nat.zero_add] at e
    rw [e, q_sum_0 (k := (xv X 453 5).toNat - j) _ (fun p h1 h2 => ?_), Int.add_zero]
    · refine q_sum_congr _ _ (fun p _ hp => ?_)
      have n1 := hs p j (by omega) hj
      have n2 := h.inj (p := p) (q := j) (by omega) hj
      have n3 : t_ahead X (xv X 458 p) (xv X 458 j) := by unfold t_ahead at n1 ⊢; omega
      simp only [n3, and_true]
    · rw [if_neg]
      intro q
      by_cases e2 : p = j
      · subst e2; have := q.2; unfold t_ahead at this; omega
      · exact hs j p (by omega) (by omega) q.2
  rw [← h2, h1, u_rk]
  refine q_sum_congr _ _ (fun i _ hi => ?_)
  have hoj := ho j hj
  have e1 : t_ahead X (i : Int) (xv X 458 j) ↔ u_ah (xv X 454) i (xv X 458 j).toNat := by unfold t_ahead u_ah; rw [Int.toNat_natCast]; omega
  simp only [e1, Int.toNat_natCast, Bool.and_eq_true, decide_eq_true_eq]
  by_cases hp : Op i = true
  · simp only [hp, true_and, if_true]
  · rw [if_neg hp, if_neg (fun q => hp q.1.1)]
theorem t_tot_eq {X : q_X} {s : Nat} {Op : Nat → Bool} (h : TO X s Op) (fp : Int) : t_tot X fp (xv X 453 5).toNat 0 0 = u_ct s (fun k => Op k && decide (xv X 457 k = 0)) (xv X 456) (xv X 454) (xv X 455) fp := by
  have h0 := t_tot_cn X fp (xv X 453 5).toNat 0
  rw [show t_cn X 0 = 0 from rfl] at h0
  rw [h0]
  have h1 := h.2.1 (fun x => if xv X 457 x.toNat = 0 then xv X 456 x.toNat + (if u_rk s (fun k => Op k && decide (xv X 457 k = 0)) (xv X 454) x.toNat < fp then xv X 454 x.toNat else xv X 455 x.toNat) else 0)
  have h2 : q_sum (fun j => if xv X 457 (xv X 458 j).toNat = 0 then xv X 456 (xv X 458 j).toNat + (if t_cn X j < fp then xv X 454 (xv X 458 j).toNat else xv X 455 (xv X 458 j).toNat) else 0) 0 (xv X 453 5).toNat = q_sum (fun j => (fun x : Int => if xv X 457 x.toNat = 0 then xv X 456 x.toNat + (if u_rk s (fun k => Op k && decide (xv X 457 k = 0)) (xv X 454) x.toNat < fp then xv X 454 x.toNat else xv X 455 x.toNat) else 0) (xv X 458 j)) 0 (xv X 453 5).toNat := by
    refine q_sum_congr _ _ (fun j _ hj => ?_)
    dsimp only
    rw [h.rank (j := j) (by omega)]
  rw [h2, h1, u_ct]
  refine q_sum_congr _ _ (fun i _ hi => ?_)
  simp only [Int.toNat_natCast, Bool.and_eq_true, decide_eq_true_eq]
  by_cases hp : Op i = true
  · simp only [hp, true_and, if_true]
  · rw [if_neg hp, if_neg (fun q => hp q.1)]
/-! the books' count with some gone (G), some turned (T) -/
def bk_sh (X : q_X) (b k : Nat) : Int := c_piece (bk_most X b (con b k)) (c_last X (con b k) - xv X b 0 + 1) 0
def bk_hT (X : q_X) (b : Nat) (T : Nat → Bool) (k : Nat) : Int := c_hit X (con b k) (xv X b 0) + if T k = true then bk_sh X b k - bk_most X b (con b k) else 0
def bk_pT (X : q_X) (b : Nat) (T : Nat → Bool) (k : Nat) : Int := c_parts X (con b k) (xv X b 0) + if T k = true then bk_sh X b k else 0
def bk_op (X : q_X) (b k : Nat) : Bool := decide (xv X (con b k) 4 = 0)
def bk_cnt (X : q_X) (b : Nat) (G T : Nat → Bool) (day : Int) : Int := xv X (b + 2) (xv X b 0).toNat + u_ct (xv X b 10).toNat (fun k => bk_op X b k && !G k) (fun k => t_lik X b k (xv X (b + 4) 0).toNat) (bk_hT X b T) (bk_pT X b T) (bk_full X b day)
def bk_room (X : q_X) (b : Nat) (G T : Nat → Bool) : Int := xv X (b + 1) (xv X b 0).toNat - bk_cnt X b G T (xv X b 1)
/-- none, only k -/
def g0 : Nat → Bool := fun _ => false
def g1 (k : Nat) : Nat → Bool := fun i => i == k
def bk_sav (X : q_X) (b : Nat) (k : Nat) (day : Int) : Int := bk_cnt X b g0 g0 day - (bk_cnt X b (g1 k) g0 day + bk_dead X b (con b k) day)
/-- the tally in X' stands for the books b of X, with G gone, T turned -/
def TT (X X' : q_X) (b : Nat) (G T : Nat → Bool) : Prop := tOut X X' ∧ TO X' (xv X b 10).toNat (bk_op X b) ∧ ∀ k : Nat, (k : Int) < xv X b 10 → xv X' 454 k = bk_hT X b T k ∧ xv X' 455 k = bk_pT X b T k ∧ xv X' 456 k = t_lik X b k (xv X (b + 4) 0).toNat ∧ xv X' 457 k = if G k = true then 1 else 0
theorem TT.of {X X' : q_X} {b : Nat} (ho : tOut X X') (hap : bApart b) (hO : bOk X b) (h : TL X' b) : TT X X' b g0 g0 := by
  have hag := ho.ag hap
  have h10 := hO.2.2.2.2.2.2.2.1
  obtain ⟨h1, h2, h3, h4⟩ := h
  rw [hag.z] at h2 h3
  refine ⟨ho, ⟨h1, fun F => ?_, h4⟩, fun k hk => ?_⟩
  · rw [h3 F]
    refine q_sum_congr _ _ (fun i _ hi => ?_)
    rw [(hag.c (k := i) (by omega)).z]
    simp only [bk_op, decide_eq_true_eq]
  · obtain ⟨a1, a2, a3, a4⟩ := h2 k hk
    have hc := hag.c (k := k) (by omega)
    rw [c_hit_ag hc] at a1
    rw [c_parts_ag hc] at a2
    rw [t_lik_ag hag, hag 4 (by omega) (by omega)] at a3
    refine ⟨?_, ?_, a3, a4⟩
    · rw [a1, bk_hT, g0, if_neg (by decide), Int.add_zero]
    · rw [a2, bk_pT, g0, if_neg (by decide), Int.add_zero]
theorem TT.cnt {X X' : q_X} {b : Nat} {G T : Nat → Bool} (h : TT X X' b G T) (hap : bApart b) (day : Int) : t_count X' b day = bk_cnt X b G T day := by
  obtain ⟨ho, h1, h2⟩ := h
  have hb := ho.b hap
  have e0 : xv X' b = xv X b := hb 0 (by omega)
  rw [t_count, bk_cnt, t_tot_eq h1, e0, hb 2 (by omega), bk_full, e0, ← bk_full]
  congr 1
  refine u_ct_congr _ (fun i hi => ?_) (fun i hi _ => ?_)
  · obtain ⟨a1, a2, a3, a4⟩ := h2 i (by omega)
    rw [a4]
    by_cases g : G i = true
    · simp [g]
    · simp [g]
  · obtain ⟨a1, a2, a3, a4⟩ := h2 i (by omega)
    exact ⟨a1, a3, a2⟩
theorem TT.room {X X' : q_X} {b : Nat} {G T : Nat → Bool} (h : TT X X' b G T) (hap : bApart b) : t_room X' b = bk_room X b G T := by
  have hb := h.1.b hap
  have e0 : xv X' b = xv X b := hb 0 (by omega)
  rw [t_room, bk_room, h.cnt hap, e0, hb 1 (by omega)]
theorem bk_ref_ag {X X' : q_X} {b : Nat} (h : bAg X X' b) (h10 : xv X b 10 ≤ 40) (k : Int) : bk_ref X' b k = bk_ref X b k := by
  unfold bk_ref bk_has
  rw [h.z]
  by_cases hk : 0 ≤ k ∧ k < xv X b 10
  · rw [(h.c (k := k.toNat) (by omega)).z]
  · rw [if_pos hk, if_pos hk]
theorem bk_dead_ag {X X' : q_X} {b c : Nat} (h : bAg X X' b) (hc : cAg X X' c) (d : Int) : bk_dead X' b c d = bk_dead X b c d := by simp only [bk_dead, bk_dPay_ag h hc, bk_dNow_ag h hc, h.z]
/-- one more is gone -/
theorem TT.gone {X X' : q_X} {b : Nat} {T : Nat → Bool} {k : Nat} (h : TT X X' b g0 T) : TT X (q_up X' 457 k (zi 1)) b (g1 k) T := by
  obtain ⟨ho, ⟨⟨h1, h1b⟩, h2, h3⟩, h4⟩ := h
  refine ⟨fun a ha => ?_, ⟨⟨?_, fun i hi => ?_⟩, fun F => ?_, fun p q hp hq => ?_⟩, fun i hi => ?_⟩
  · rw [← ho a ha]; funext j; rw [q_up_ne _ _ (by omega)]
  · rw [xv_up_ne _ _ (by omega)]; exact h1
  · rw [xv_up_ne _ _ (by omega)] at hi ⊢; exact h1b i hi
  · rw [xv_up_ne _ _ (by omega), ← h2 F]
    refine q_sum_congr _ _ (fun j _ _ => ?_)
    rw [xv_up_ne _ _ (by omega)]
  · rw [xv_up_ne _ _ (by omega)] at hq
    simp only [t_ahead, xv_up_row X' (i := 457) (a := 458) _ _ (by decide), xv_up_row X' (i := 457) (a := 454) _ _ (by decide)]
    exact h3 p q hp hq
  · obtain ⟨a1, a2, a3, a4⟩ := h4 i hi
    refine ⟨?_, ?_, ?_, ?_⟩
    · rw [xv_up_ne _ _ (by omega)]; exact a1
    · rw [xv_up_ne _ _ (by omega)]; exact a2
    · rw [xv_up_ne _ _ (by omega)]; exact a3
    · by_cases e : i = k
      · subst e; rw [xv_up_same _ _ _ (by omega), g1, if_pos (by simp)]
      · rw [xv_up_ne _ _ (by omega), a4, g0, g1, if_neg (by decide), if_neg (by simpa using e)]
theorem TT.sav {X X' : q_X} {b : Nat} {k day : Int} (h : TT X X' b g0 g0) (hap : bApart b) (hO : bOk X b) (hk : bk_ref X b k = 0) : t_saved X' b k day = bk_sav X b k.toNat day := by
  have hag := h.1.ag hap
  have hh := bk_ref_has hk
  have h10 := hO.2.2.2.2.2.2.2.1
  rw [t_saved, if_neg (fun q => q (by rw [bk_ref_ag hag h10.2]; exact hk)), bk_sav, h.cnt hap, h.gone.cnt hap, bk_dead_ag hag (hag.c (k := k.toNat) (by omega))]
