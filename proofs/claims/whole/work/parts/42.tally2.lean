/-! the tally, not yet in order again -/
def TS (X X' : q_X) (b : Nat) (G T : Nat → Bool) : Prop := tOut X X' ∧ tOk X' ∧ (∀ F : Int → Int, q_sum (fun j => F (xv X' 458 j)) 0 (xv X' 453 5).toNat = q_sum (fun i => if bk_op X b i = true then F i else 0) 0 (xv X b 10).toNat) ∧ ∀ k : Nat, (k : Int) < xv X b 10 → xv X' 454 k = bk_hT X b T k ∧ xv X' 455 k = bk_pT X b T k ∧ xv X' 456 k = t_lik X b k (xv X (b + 4) 0).toNat ∧ xv X' 457 k = if G k = true then 1 else 0
theorem TT.s {X X' : q_X} {b : Nat} {G T : Nat → Bool} (h : TT X X' b G T) : TS X X' b G T := ⟨h.1, h.2.1.1, h.2.1.2.1, h.2.2⟩
theorem TS.rank {X X' : q_X} {b : Nat} {G T : Nat → Bool} {f : Nat → Int32} (h : TS X X' b G T) (hr : rInv X' (X' 458) f (xv X' 453 5).toNat (xv X' 453 5).toNat) : TT X (q_row X' f) b G T := by
  obtain ⟨h1, ⟨h2, h2b⟩, h3, h4⟩ := h
  obtain ⟨r1, r2, r3⟩ := hr
  have e453 : xv (q_row X' f) 453 = xv X' 453 := xv_row X' f (by decide)
  refine ⟨fun a ha => ?_, ⟨⟨?_, fun i hi => ?_⟩, fun F => ?_, fun p q hp hq => ?_⟩, fun k hk => ?_⟩
  · rw [← h1 a ha]; funext j; simp only [q_row]; rw [if_neg (by omega)]
  · rw [e453]; exact h2
  · rw [e453] at hi; rw [xv_row8]; exact r3 i (by omega)
  · rw [e453, ← h3 F]
    refine Eq.trans ?_ (r1 F)
    refine q_sum_congr _ _ (fun j _ _ => ?_)
    rw [xv_row8]
  · rw [e453] at hq
    have := r2 p q hp (by omega)
    unfold t_ahead at this ⊢
    rw [xv_row8, xv_row8, xv_row X' f (show 454 ≠ 458 by decide)]
    exact this
  · rw [xv_row X' f (show 454 ≠ 458 by decide), xv_row X' f (show 455 ≠ 458 by decide), xv_row X' f (show 456 ≠ 458 by decide), xv_row X' f (show 457 ≠ 458 by decide)]
    exact h4 k hk
/-- a change of hit and parts of k -/
theorem TS.set {X X' : q_X} {b k : Nat} {G T T' : Nat → Bool} {u v : Int} (h : TS X X' b G T) (hT : ∀ i, i ≠ k → T' i = T i) (hu : q_in u ∧ u = bk_hT X b T' k) (hv : q_in v ∧ v = bk_pT X b T' k) : TS X (q_up (q_up X' 454 k (zi u)) 455 k (zi v)) b G T' := by
  obtain ⟨h1, ⟨h2, h2b⟩, h3, h4⟩ := h
  refine ⟨fun a ha => ?_, ⟨?_, fun i hi => ?_⟩, fun F => ?_, fun i hi => ?_⟩
  · rw [← h1 a ha]; funext j; rw [q_up_ne _ _ (by omega), q_up_ne _ _ (by omega)]
  · rw [xv_up_ne _ _ (by omega), xv_up_ne _ _ (by omega)]; exact h2
  · rw [xv_up_ne _ _ (by omega), xv_up_ne _ _ (by omega)] at hi ⊢; exact h2b i hi
  · rw [xv_up_ne _ _ (by omega), xv_up_ne _ _ (by omega), ← h3 F]
    refine q_sum_congr _ _ (fun j _ _ => ?_)
    rw [xv_up_ne _ _ (by omega), xv_up_ne _ _ (by omega)]
  · obtain ⟨a1, a2, a3, a4⟩ := h4 i hi
    rw [xv_up_row _ (i := 455) (a := 456) _ _ (by decide), xv_up_row _ (i := 454) (a := 456) _ _ (by decide), xv_up_row _ (i := 455) (a := 457) _ _ (by decide), xv_up_row _ (i := 454) (a := 457) _ _ (by decide), xv_up_ne (i := 455) (a := 454) _ _ (by omega)]
    refine ⟨?_, ?_, a3, a4⟩
    · by_cases e : i = k
      · subst e; rw [xv_up_same _ _ _ hu.1]; exact hu.2
      · rw [xv_up_ne _ _ (by omega), a1, bk_hT, bk_hT, hT i e]
    · by_cases e : i = k
      · subst e; rw [xv_up_same _ _ _ hv.1]; exact hv.2
      · rw [xv_up_ne _ _ (by omega), xv_up_ne _ _ (by omega), a2, bk_pT, bk_pT, hT i e]
theorem TS.gone {X X' : q_X} {b k : Nat} {G G' T : Nat → Bool} {u : Int} (h : TS X X' b G T) (hT : ∀ i, i ≠ k → G' i = G i) (hu : u = if G' k = true then 1 else 0) : TS X (q_up X' 457 k (zi u)) b G' T := by
  obtain ⟨h1, ⟨h2, h2b⟩, h3, h4⟩ := h
  refine ⟨fun a ha => ?_, ⟨?_, fun i hi => ?_⟩, fun F => ?_, fun i hi => ?_⟩
  · rw [← h1 a ha]; funext j; rw [q_up_ne _ _ (by omega)]
  · rw [xv_up_ne _ _ (by omega)]; exact h2
  · rw [xv_up_ne _ _ (by omega)] at hi ⊢; exact h2b i hi
  · rw [xv_up_ne _ _ (by omega), ← h3 F]
    refine q_sum_congr _ _ (fun j _ _ => ?_)
    rw [xv_up_ne _ _ (by omega)]
  · obtain ⟨a1, a2, a3, a4⟩ := h4 i hi
    rw [xv_up_row _ (i := 457) (a := 454) _ _ (by decide), xv_up_row _ (i := 457) (a := 455) _ _ (by decide), xv_up_row _ (i := 457) (a := 456) _ _ (by decide)]
    refine ⟨a1, a2, a3, ?_⟩
    by_cases e : i = k
    · subst e; rw [xv_up_same _ _ _ (by split at hu <;> omega)]; exact hu
    · rw [xv_up_ne _ _ (by omega), a4, hT i e]
/-- the order stays where only 'gone' moves -/
theorem TT.ofS {X X' X2 : q_X} {b : Nat} {G G' T : Nat → Bool} (h : TT X X' b G T) (h2 : TS X X2 b G' T) (e1 : xv X2 453 = xv X' 453) (e2 : xv X2 454 = xv X' 454) (e3 : xv X2 458 = xv X' 458) : TT X X2 b G' T := by
  refine ⟨h2.1, ⟨h2.2.1, h2.2.2.1, fun p q hp hq => ?_⟩, h2.2.2.2⟩
  rw [e1] at hq
  have := h.2.1.2.2 p q hp hq
  unfold t_ahead at this ⊢
  rw [e2, e3]; exact this
/-- some who count and what they do -/
theorem bk_most_b {X : q_X} {b c : Nat} (h : cOk X c) (h6 : 0 ≤ xv X b 6) : 0 ≤ bk_most X b c ∧ bk_most X b c ≤ c_base X c (xv X b 0) := by
  have := c_base_b h (xv X b 0)
  unfold bk_most; omega
theorem c_piece_b {a ov i : Int} (ha : 0 ≤ a) : 0 ≤ c_piece a ov i ∧ c_piece a ov i ≤ a := by
  unfold c_piece
  split
  · omega
  · rename_i h
    generalize hm : min 5 ov = m at h
    have h1 : 1 ≤ m := by omega
    rw [Int.tdiv_eq_ediv_of_nonneg ha, Int.tmod_eq_emod_of_nonneg ha]
    have e := Int.mul_ediv_add_emod a m
    have hq : 0 ≤ a / m := Int.ediv_nonneg ha (by omega)
    have hr := Int.emod_nonneg a (show m ≠ 0 by omega)
    have hl : a / m ≤ m * (a / m) := by
      have := Int.mul_le_mul_of_nonneg_right h1 hq
      omega
    split <;> omega
theorem bk_sh_b {X : q_X} {b k : Nat} (h : cOk X (con b k)) (h6 : 0 ≤ xv X b 6) : 0 ≤ bk_sh X b k ∧ bk_sh X b k ≤ bk_most X b (con b k) := c_piece_b (bk_most_b h h6).1
theorem bk_hT_b {X : q_X} {b k : Nat} (T : Nat → Bool) (h : cOk X (con b k)) (h6 : 0 ≤ xv X b 6) : 0 ≤ bk_hT X b T k ∧ bk_hT X b T k ≤ 2299977 ∧ 0 ≤ bk_pT X b T k ∧ bk_pT X b T k ≤ bk_hT X b T k := by
  have h1 := bk_sh_b h h6
  have h2 := bk_most_b h h6
  have h3 := c_hit_b h (xv X b 0)
  have h4 := c_parts_b h (xv X b 0)
  have h5 := c_roster_b h (xv X b 0)
  have e : c_hit X (con b k) (xv X b 0) = c_base X (con b k) (xv X b 0) + c_roster X (con b k) (xv X b 0) + c_parts X (con b k) (xv X b 0) := rfl
  unfold bk_hT bk_pT
  split <;> omega
theorem u_ct_b {s : Nat} {O : Nat → Bool} {Lk H Pa : Nat → Int} {fp : Int} (h : ∀ k, k < s → 0 ≤ Lk k ∧ Lk k ≤ 2399976 ∧ 0 ≤ H k ∧ H k ≤ 2299977 ∧ 0 ≤ Pa k ∧ Pa k ≤ 2299977) : 0 ≤ u_ct s O Lk H Pa fp ∧ u_ct s O Lk H Pa fp ≤ s * 4699953 := by
  unfold u_ct
  refine ⟨q_sum_nn _ _ (fun k _ hk => ?_), q_sum_ub _ _ (fun k _ hk => ?_)⟩
  · have := h k (by omega)
    (repeat' split) <;> omega
  · have := h k (by omega)
    (repeat' split) <;> omega
theorem bk_cnt_b {X : q_X} {b : Nat} (hO : bOk X b) (G T : Nat → Bool) (day : Int) : 0 ≤ bk_cnt X b G T day - xv X (b + 2) (xv X b 0).toNat ∧ bk_cnt X b G T day - xv X (b + 2) (xv X b 0).toNat ≤ 188000000 := by
  have h10 := hO.2.2.2.2.2.2.2.1
  have h6 := hO.2.2.2.2.2.2.1
  have := u_ct_b (s := (xv X b 10).toNat) (O := fun k => bk_op X b k && !G k) (Lk := fun k => t_lik X b k (xv X (b + 4) 0).toNat) (H := bk_hT X b T) (Pa := bk_pT X b T) (fp := bk_full X b day) (fun k hk => by
    have h1 := t_lik_b hO (k : Int)
    have h2 := bk_hT_b T (hO.c (k := k) (by omega)) h6.1
    omega)
  unfold bk_cnt
  have e : (((xv X b 10).toNat : Nat) : Int) * 4699953 ≤ 40 * 4699953 := Int.mul_le_mul_of_nonneg_right (by omega) (by omega)
  omega
theorem bk_sav_b {X : q_X} {b k : Nat} (hO : bOk X b) (hk : (k : Int) < xv X b 10) (day : Int) : -200000000 ≤ bk_sav X b k day ∧ bk_sav X b k day ≤ 200000000 := by
  have h1 := bk_cnt_b hO g0 g0 day
  have h2 := bk_cnt_b hO (g1 k) g0 day
  have h3 := bk_dead_b (b := b) (hO.c hk) day
  unfold bk_sav; omega
theorem t_tot_g {X X' : q_X} {b : Nat} (h : TS X X' b g0 g0) {i : Nat} (hi : (i : Int) < xv X b 10) : xv X' 457 i = 0 := by rw [(h.2.2.2 i hi).2.2.2, g0, if_neg (by decide)]
/-! places -/
def f_pl (s : Nat) (O : Nat → Bool) (H : Nat → Int) (i : Int) : Nat → Nat → Int
  | 0, _ => -1
  | w + 1, k => if O k = true ∧ u_rk s O H k = i then (k : Int) else f_pl s O H i w (k + 1)
theorem q_sum_lt {f h : Nat → Int} {j : Nat} : ∀ (k a : Nat), (∀ i, a ≤ i → i < a + k → f i ≤ h i) → a ≤ j → j < a + k → f j < h j → q_sum f a k < q_sum h a k
  | 0, _, _, _, _, _ => by omega
  | k + 1, a, e, h1, h2, h3 => by
    rw [q_sum, q_sum]
    have e1 := e a (by omega) (by omega)
    by_cases ej : j = a
    · subst ej
      have : q_sum f (j + 1) k ≤ q_sum h (j + 1) k := by
        clear h1 h2 h3 e1
        have e2 : ∀ i, j + 1 ≤ i → i < j + 1 + k → f i ≤ h i := fun i h1 h2 => e i (by omega) (by omega)
        clear e
        generalize j + 1 = a at e2
        induction k generalizing a with
        | zero => simp [q_sum]
        | succ k ih =>
          rw [q_sum, q_sum]
          have := e2 a (by omega) (by omega)
          have := ih (a + 1) (fun i h1 h2 => e2 i (by omega) (by omega))
          omega
      omega
    · have := q_sum_lt (f := f) (h := h) (j := j) k (a + 1) (fun i h1 h2 => e i (by omega) (by omega)) (by omega) (by omega) h3
      omega
theorem u_rk_lt {s : Nat} {O : Nat → Bool} {H : Nat → Int} {i k : Nat} (hi : i < s) (hoi : O i = true) (h : u_ah H i k) : u_rk s O H i < u_rk s O H k := by
  unfold u_rk
  refine q_sum_lt (j := i) _ _ (fun j _ _ => ?_) (by omega) (by omega) ?_
  · unfold u_ah at *
    by_cases hj : O j = true ∧ (H i < H j ∨ (H j = H i ∧ j < i))
    · rw [if_pos hj, if_pos ⟨hj.1, by omega⟩]; omega
    · rw [if_neg hj]; split <;> omega
  · unfold u_ah at *
    rw [if_neg (by omega), if_pos ⟨hoi, h⟩]; omega
theorem u_rk_inj {s : Nat} {O : Nat → Bool} {H : Nat → Int} {i k : Nat} (hi : i < s) (hk : k < s) (hoi : O i = true) (hok : O k = true) (h : u_rk s O H i = u_rk s O H k) : i = k := by
  by_cases h1 : u_ah H i k
  · have := u_rk_lt hi hoi h1; omega
  · by_cases h2 : u_ah H k i
    · have := u_rk_lt hk hok h2; omega
    · unfold u_ah at *; omega
theorem u_rk_b {s : Nat} {O : Nat → Bool} {H : Nat → Int} {k : Nat} (hk : k < s) (hok : O k = true) : 0 ≤ u_rk s O H k ∧ u_rk s O H k < q_sum (fun i => if O i = true then 1 else 0) 0 s := by
  unfold u_rk
  refine ⟨q_sum_nn _ _ (fun i _ _ => by split <;> omega), q_sum_lt (j := k) _ _ (fun i _ _ => ?_) (by omega) (by omega) ?_⟩
  · by_cases hi : O i = true
    · rw [if_pos hi]; split <;> omega
    · rw [if_neg hi, if_neg (fun q => hi q.1)]; omega
  · rw [if_pos hok, if_neg (by unfold u_ah; omega)]; omega
theorem f_pl_eq {s : Nat} {O : Nat → Bool} {H : Nat → Int} {i : Int} {k : Nat} (hk : k < s) (ho : O k = true) (hr : u_rk s O H k = i) : ∀ (w a : Nat), a + w = s → a ≤ k → f_pl s O H i w a = k
  | 0, a, h1, h2 => by omega
  | w + 1, a, h1, h2 => by
    rw [f_pl]
    by_cases e : O a = true ∧ u_rk s O H a = i
    · rw [if_pos e, u_rk_inj (by omega) hk e.1 ho (e.2.trans hr.symm)]
    · rw [if_neg e]
      have : a ≠ k := fun q => e (q ▸ ⟨ho, hr⟩)
      exact f_pl_eq hk ho hr w (a + 1) (by omega) (by omega)
theorem f_pl_no {s : Nat} {O : Nat → Bool} {H : Nat → Int} {i : Int} (h : ∀ k, k < s → O k = true → u_rk s O H k ≠ i) : ∀ (w a : Nat), a + w = s → f_pl s O H i w a = -1
  | 0, a, h1 => rfl
  | w + 1, a, h1 => by
    rw [f_pl, if_neg (fun q => h a (by omega) q.1 q.2)]
    exact f_pl_no h w (a + 1) (by omega)
def f_place (X : q_X) (b : Nat) (y i : Int) : Int := f_pl (xv X b 10).toNat (bk_op X b) (fun k => c_hit X (con b k) y) i (xv X b 10).toNat 0
theorem TO.val {X : q_X} {s : Nat} {Op : Nat → Bool} (h : TO X s Op) {j : Nat} (hj : (j : Int) < xv X 453 5) : ∃ k : Nat, xv X 458 j = k ∧ k < s ∧ Op k = true := by
  have h1 := h.2.1 (fun x => if x = xv X 458 j then 1 else 0)
  have h2 := q_sum_le (f := fun p => if xv X 458 p = xv X 458 j then (1 : Int) else 0) (xv X 453 5).toNat 0 j (fun i _ _ => by split <;> omega) (by omega) (by omega)
  simp only [if_true] at h2
  have h0 := h.1.2 j hj
  apply Classical.byContradiction
  intro hn
  have h3 := q_sum_0 (f := fun i => if Op i = true then (if (i : Int) = xv X 458 j then (1 : Int) else 0) else 0) s 0 (fun i _ hi => by
    by_cases e : Op i = true
    · rw [if_pos e, if_neg (fun q => hn ⟨i, q.symm, by omega, e⟩)]
    · rw [if_neg e])
  omega
theorem TO.mem {X : q_X} {s : Nat} {Op : Nat → Bool} (h : TO X s Op) {k : Nat} (hk : k < s) (ho : Op k = true) : ∃ j : Nat, (j : Int) < xv X 453 5 ∧ xv X 458 j = k := by
  have h1 := h.2.1 (fun x => if x = (k : Int) then 1 else 0)
  have h2 := q_sum_le (f := fun i => if Op i = true then (if (i : Int) = (k : Int) then (1 : Int) else 0) else 0) s 0 k (fun i _ _ => by (repeat' split) <;> omega) (by omega) (by omega)
  simp only [ho, if_true] at h2
  apply Classical.byContradiction
  intro hn
  have h3 := q_sum_0 (f := fun p => if xv X 458 p = (k : Int) then (1 : Int) else 0) (xv X 453 5).toNat 0 (fun i _ hi => by rw [if_neg (fun q => hn ⟨i, by omega, q⟩)])
  omega
theorem TO.size {X : q_X} {s : Nat} {Op : Nat → Bool} (h : TO X s Op) : xv X 453 5 = q_sum (fun i => if Op i = true then 1 else 0) 0 s := by
  have h1 := h.2.1 (fun _ => 1)
  rw [← h1]
  have h0 := h.1.1.1
  have e : ∀ (m a : Nat), q_sum (fun _ => (1 : Int)) a m = m := by
    intro m
    induction m with
    | zero => intro a; rfl
    | succ m ih => intro a; rw [q_sum, ih]; omega
  rw [e]; omega
theorem t_cn_id {X : q_X} : ∀ (j : Nat), (∀ i, i < j → xv X 457 (xv X 458 i).toNat = 0) → t_cn X j = j
  | 0, _ => rfl
  | j + 1, h => by
    have e : t_cn X (j + 1) = t_cn X j + if xv X 457 (xv X 458 j).toNat = 0 then 1 else 0 := q_sum_snoc _ _
    rw [e, t_cn_id j (fun i hi => h i (by omega)), if_pos (h j (by omega))]; omega
/-- the order, loaded: the one in place j -/
theorem TT.ord {X X' : q_X} {b : Nat} (h : TT X X' b g0 g0) (hO : bOk X b) {j : Nat} (hj : (j : Int) < xv X' 453 5) : ∃ k : Nat, xv X' 458 j = k ∧ (k : Int) < xv X b 10 ∧ bk_op X b k = true ∧ u_rk (xv X b 10).toNat (bk_op X b) (fun k => c_hit X (con b k) (xv X b 0)) k = j := by
  have h10 := hO.2.2.2.2.2.2.2.1
  obtain ⟨k, h1, h2, h3⟩ := h.2.1.val hj
  refine ⟨k, h1, by omega, h3, ?_⟩
  have hr := h.2.1.rank hj
  have hcn : t_cn X' j = j := t_cn_id j (fun i hi => by
    obtain ⟨a, a1, a2, a3⟩ := h.2.1.val (j := i) (by omega)
    rw [a1, Int.toNat_natCast]; exact t_tot_g h.s (by omega))
  rw [hcn, h1, Int.toNat_natCast] at hr
  rw [hr]
  refine u_rk_congr (fun i hi => ?_) (fun i hi => ?_) h2
  · rw [t_tot_g h.s (by omega)]; simp
  · rw [(h.2.2 i (by omega)).1, bk_hT, g0, if_neg (by decide), Int.add_zero]
theorem TT.place {X X' : q_X} {b : Nat} (h : TT X X' b g0 g0) (hO : bOk X b) {j : Nat} (hj : (j : Int) < xv X' 453 5) : xv X' 458 j = f_place X b (xv X b 0) j := by
  obtain ⟨k, h1, h2, h3, h4⟩ := h.ord hO hj
  rw [h1, f_place, f_pl_eq (k := k) (by omega) h3 h4 _ 0 (by omega) (by omega)]
theorem TT.many {X X' : q_X} {b : Nat} {G T : Nat → Bool} (h : TT X X' b G T) : xv X' 453 5 = bk_many X b 0 0 (xv X b 10).toNat := by
  rw [h.2.1.size, bk_many]
  refine q_sum_congr _ _ (fun i _ _ => ?_)
  simp only [bk_op, decide_eq_true_eq]
theorem TT.noplace {X X' : q_X} {b : Nat} (h : TT X X' b g0 g0) {i : Int} (hi : ¬ (0 ≤ i ∧ i < xv X' 453 5)) : f_place X b (xv X b 0) i = -1 := by
  refine f_pl_no (fun k hk ho => ?_) _ 0 (by omega)
  have := u_rk_b (H := fun k => c_hit X (con b k) (xv X b 0)) hk ho
  rw [h.2.1.size] at hi
  omega
