/-! sums -/
theorem q_sum_add (f : Nat → Int) : ∀ (k m a : Nat), q_sum f a (k + m) = q_sum f a k + q_sum f (a + k) m
  | 0, m, a => by rw [Nat.zero_add, q_sum, Int.zero_add, Nat.add_zero]
  | k + 1, m, a => by rw [show k + 1 + m = (k + m) + 1 by omega, q_sum, q_sum, q_sum_add f k m (a + 1), show a + 1 + k = a + (k + 1) by omega, Int.add_assoc]
theorem q_sum_congr {f h : Nat → Int} : ∀ (k a : Nat), (∀ i, a ≤ i → i < a + k → f i = h i) → q_sum f a k = q_sum h a k
  | 0, _, _ => rfl
  | k + 1, a, e => by rw [q_sum, q_sum, e a (by omega) (by omega), q_sum_congr k (a + 1) (fun i h1 h2 => e i (by omega) (by omega))]
theorem q_sum_sh {f h : Nat → Int} : ∀ (k a : Nat), (∀ i, a ≤ i → i < a + k → f (i + 1) = h i) → q_sum f (a + 1) k = q_sum h a k
  | 0, _, _ => rfl
  | k + 1, a, e => by rw [q_sum, q_sum, e a (by omega) (by omega), q_sum_sh k (a + 1) (fun i h1 h2 => e i (by omega) (by omega))]
theorem q_sum_1 (f : Nat → Int) (a : Nat) : q_sum f a 1 = f a := by rw [q_sum, q_sum, Int.add_zero]
/-! the order's row -/
def q_row (X : q_X) (f : Nat → Int32) : q_X := fun a q => if a = 458 then f q else X a q
theorem q_row_id (X : q_X) : q_row X (X 458) = X := by
  funext a q; simp only [q_row]; split
  · rename_i h; rw [h]
  · rfl
theorem q_row_up (X : q_X) (f : Nat → Int32) (j : Nat) (v : Int32) : q_up (q_row X f) 458 j v = q_row X (fun q => if q = j then v else f q) := by
  funext a q; simp only [q_row, q_up]
  by_cases h : a = 458 <;> by_cases h2 : q = j <;> simp [h, h2]
theorem xv_row (X : q_X) (f : Nat → Int32) {a : Nat} (h : a ≠ 458) : xv (q_row X f) a = xv X a := by funext q; simp only [xv, q_row, if_neg h]
theorem xv_row8 (X : q_X) (f : Nat → Int32) (q : Nat) : xv (q_row X f) 458 q = (f q).toInt := by simp only [xv, q_row, if_true]
def r_sh (f : Nat → Int32) (j i : Nat) : Nat → Int32 := fun q => if j < q ∧ q ≤ i then f (q - 1) else f q
def r_in (f : Nat → Int32) (j i : Nat) : Nat → Int32 := fun q => if q = j then f i else r_sh f j i q
theorem r_sh_i (f : Nat → Int32) (i : Nat) : r_sh f i i = f := by funext q; simp only [r_sh]; rw [if_neg (by omega)]
theorem r_sh_s (f : Nat → Int32) (j i : Nat) (h : j + 1 ≤ i) : (fun q => if q = j + 1 then f j else r_sh f (j + 1) i q) = r_sh f j i := by
  funext q
  simp only [r_sh]
  by_cases h1 : q = j + 1
  · rw [if_pos h1, if_pos (by omega), h1]; rfl
  · rw [if_neg h1]
    by_cases h2 : j + 1 < q ∧ q ≤ i
    · rw [if_pos h2, if_pos (by omega)]
    · rw [if_neg h2, if_neg (by omega)]
theorem r_in_sum (f : Nat → Int32) (F : Int → Int) (j i z : Nat) (h1 : j ≤ i) (h2 : i < z) : q_sum (fun q => F (r_in f j i q).toInt) 0 z = q_sum (fun q => F (f q).toInt) 0 z := by
  have e : z = j + (1 + ((i - j) + (z - i - 1))) := by omega
  have e2 : j + (1 + ((i - j) + (z - i - 1))) = j + ((i - j) + (1 + (z - i - 1))) := by omega
  rw [e, q_sum_add, q_sum_add, q_sum_add]
  rw [e2, q_sum_add, q_sum_add, q_sum_add, q_sum_1, q_sum_1]
  have a1 : q_sum (fun q => F (r_in f j i q).toInt) 0 j = q_sum (fun q => F (f q).toInt) 0 j := q_sum_congr j 0 (fun q _ hq => by simp only [r_in, r_sh]; rw [if_neg (by omega), if_neg (by omega)])
  have a2 : q_sum (fun q => F (r_in f j i q).toInt) (0 + j + 1) (i - j) = q_sum (fun q => F (f q).toInt) (0 + j) (i - j) := q_sum_sh (i - j) (0 + j) (fun q h3 h4 => by simp only [r_in, r_sh]; rw [if_neg (by omega), if_pos (by omega)]; rfl)
  have a3 : q_sum (fun q => F (r_in f j i q).toInt) (0 + j + 1 + (i - j)) (z - i - 1) = q_sum (fun q => F (f q).toInt) (0 + j + (i - j) + 1) (z - i - 1) := by
    rw [show 0 + j + 1 + (i - j) = 0 + j + (i - j) + 1 by omega]
    exact q_sum_congr _ _ (fun q h3 _ => by simp only [r_in, r_sh]; rw [if_neg (by omega), if_neg (by omega)])
  rw [a1, a2, a3]
  have a4 : r_in f j i (0 + j) = f i := by simp [r_in]
  rw [a4, show 0 + j + (i - j) = i by omega]
  omega
theorem r_in_at (f : Nat → Int32) (j i q : Nat) : r_in f j i q = if q = j then f i else if j < q ∧ q ≤ i then f (q - 1) else f q := rfl
/-- what holds of the order while it is sorted -/
def rInv (X : q_X) (f0 f : Nat → Int32) (z i : Nat) : Prop := (∀ F : Int → Int, q_sum (fun q => F (f q).toInt) 0 z = q_sum (fun q => F (f0 q).toInt) 0 z) ∧ (∀ p q, p < q → q < i → ¬ t_ahead X (f q).toInt (f p).toInt) ∧ ∀ q, q < z → 0 ≤ (f q).toInt ∧ (f q).toInt < 40
theorem rInv.step {X : q_X} {f0 f : Nat → Int32} {z i j : Nat} (h : rInv X f0 f z i) (hj : j ≤ i) (hi : i < z) (h1 : ∀ q, j < q → q ≤ i → t_ahead X (f i).toInt (f (q - 1)).toInt) (h2 : j = 0 ∨ ¬ t_ahead X (f i).toInt (f (j - 1)).toInt) : rInv X f0 (r_in f j i) z (i + 1) := by
  obtain ⟨hs, ho, hb⟩ := h
  refine ⟨fun F => (r_in_sum f F j i z hj hi).trans (hs F), fun p q hpq hq => ?_, fun q hq => ?_⟩
  · rw [r_in_at, r_in_at]
    by_cases q1 : q = j
    · rw [if_pos q1, if_neg (by omega), if_neg (by omega)]
      rcases h2 with h2 | h2
      · omega
      · by_cases p1 : p = j - 1
        · rw [p1]; exact h2
        · have := ho p (j - 1) (by omega) (by omega)
          unfold t_ahead at *
          omega
    · rw [if_neg q1]
      by_cases q2 : j < q ∧ q ≤ i
      · rw [if_pos q2]
        by_cases p1 : p = j
        · rw [if_pos p1]
          have := h1 q q2.1 q2.2
          unfold t_ahead at *
          omega
        · rw [if_neg p1]
          by_cases p2 : j < p ∧ p ≤ i
          · rw [if_pos p2]; exact ho (p - 1) (q - 1) (by omega) (by omega)
          · rw [if_neg p2]; exact ho p (q - 1) (by omega) (by omega)
      · rw [if_neg q2, if_neg (by omega), if_neg (by omega)]; exact ho p q hpq (by omega)
  · rw [r_in_at]; split
    · exact hb i hi
    · split
      · exact hb _ (by omega)
      · exact hb q hq
set_option maxHeartbeats 4000000 in
set_option maxRecDepth 100000 in
theorem iX10_rank {l : Launch} {g : q_G} {n : Nat} {P : q_P} {X : q_X} {Y : q_Y} {K : q_K} {i : Nat} {f : Nat → Int32} (ht : isTal n P) (hi : i < 40) (hf : ∀ q, q ≤ i → 0 ≤ (f q).toInt ∧ (f q).toInt < 40)
    (kk : ∀ j, j ≤ i → (∀ q, j < q → q ≤ i → t_ahead X (f i).toInt (f (q - 1)).toInt) → (j = 0 ∨ ¬ t_ahead X (f i).toInt (f (j - 1)).toInt) → q_Tr l g mX10_rank 1 K 2 [(0, .ref (g.1 + 453)), (1, .int (zi ((i + 1 : Nat) : Int)))] [] n P (q_row X (r_in f j i)) Y) :
    ∀ j, j ≤ i → (∀ q, j < q → q ≤ i → t_ahead X (f i).toInt (f (q - 1)).toInt) → q_Tr l g mX10_rank 1 K 19 [(0, .ref (g.1 + 453)), (1, .int (zi (i : Int))), (2, .int (zi (f i).toInt)), (3, .int (zi (j : Int)))] [] n P (q_row X (r_sh f j i)) Y := by
  obtain ⟨t0, t1, t2, t3, t4, hnt⟩ := id ht
  have hfi := hf i (by omega)
  intro j
  induction j with
  | zero =>
    intro hj h1
    refine r_iload_n (i := 3) (pc' := 20) dX10_rank_19 rfl rfl (.tail _ (.tail _ (.tail _ (.head _)))) ?_
    refine r_if_le (t := 59) (f := 23) dX10_rank_20 (by decide) rfl (by first | omega | exact xv_in _ _ _) (fun h20 => ?_) (fun h20 => ?_)
    · refine r_aload_n (i := 0) (pc' := 60) dX10_rank_59 rfl rfl (.head _) ?_
      refine r_getR (pc' := 63) dX10_rank_60 rfl fX10_25 rfl (by first | assumption | rfl) (by omega) (by assumption) ?_
      refine r_iload_n (i := 3) (pc' := 64) dX10_rank_63 rfl rfl (.tail _ (.tail _ (.tail _ (.head _)))) ?_
      refine r_iload_n (i := 2) (pc' := 65) dX10_rank_64 rfl rfl (.tail _ (.tail _ (.head _))) ?_
      refine r_iastore (pc' := 66) dX10_rank_65 rfl (by first | assumption | rfl) (by omega) (by omega) (by omega) (by first | decide | omega) (Int.toNat_natCast _) ?_
      rw [q_row_up, zi_of]
      refine r_iinc (pc' := 69) dX10_rank_66 rfl rfl (.tail _ (.head _)) (.s1 (.here (.s1 (.s1 .nil rfl rfl rfl) rfl rfl rfl)) rfl rfl rfl) ?_
      refine r_goto (t := 2) dX10_rank_69 (by decide) ?_
      refine r_sub (.kp (.kp (.dr (.dr .nil)))) ?_
      exact kk 0 (by omega) h1 (Or.inl rfl)
    · exfalso; omega
  | succ j ih =>
    intro hj h1
    have hfj := hf j (by omega)
    have hat : xv (q_row X (r_sh f (j + 1) i)) 458 j = (f j).toInt := by rw [xv_row8]; simp only [r_sh]; rw [if_neg (by omega)]
    have hah : ∀ a b : Int, t_ahead (q_row X (r_sh f (j + 1) i)) a b ↔ t_ahead X a b := fun a b => by simp only [t_ahead, xv_row X _ (show (454 : Nat) ≠ 458 by omega)]
    refine r_iload_n (i := 3) (pc' := 20) dX10_rank_19 rfl rfl (.tail _ (.tail _ (.tail _ (.head _)))) ?_
    refine r_if_le (t := 59) (f := 23) dX10_rank_20 (by decide) rfl (by first | omega | exact xv_in _ _ _) (fun h20 => ?_) (fun h20 => ?_)
    · exfalso; omega
    · refine r_aload_n (i := 0) (pc' := 24) dX10_rank_23 rfl rfl (.head _) ?_
      refine r_iload_n (i := 2) (pc' := 25) dX10_rank_24 rfl rfl (.tail _ (.tail _ (.head _))) ?_
      refine r_aload_n (i := 0) (pc' := 26) dX10_rank_25 rfl rfl (.head _) ?_
      refine r_getR (pc' := 29) dX10_rank_26 rfl fX10_25 rfl (by first | assumption | rfl) (by omega) (by assumption) ?_
      refine r_iload_n (i := 3) (pc' := 30) dX10_rank_29 rfl rfl (.tail _ (.tail _ (.tail _ (.head _)))) ?_
      refine r_iconst (pc' := 31) dX10_rank_30 rfl ?_
      refine r_isub (pc' := 32) dX10_rank_31 rfl ?_
      refine r_iaload (pc' := 33) dX10_rank_32 rfl (by first | assumption | rfl) (by omega) (by omega) (by omega) (by first | decide | omega) (show (((j + 1 : Nat) : Int) - 1).toNat = j by omega) ?_
      rw [hat]
      refine r_V2p (ci := 10) (pc' := 36) dX10_rank_33 rfl lX10_78 rfl (by decide) (Nat.le_of_ble_eq_true rfl) (by first | assumption | rfl) (by omega) (tX10_isAhead (by assumption) (by omega) (by omega)) ?_
      refine r_bif_eq (t := 59) (f := 39) dX10_rank_36 (by decide) rfl (fun h36 => ?_) (fun h36 => ?_)
      · rw [hah] at h36
        refine r_aload_n (i := 0) (pc' := 60) dX10_rank_59 rfl rfl (.head _) ?_
        refine r_getR (pc' := 63) dX10_rank_60 rfl fX10_25 rfl (by first | assumption | rfl) (by omega) (by assumption) ?_
        refine r_iload_n (i := 3) (pc' := 64) dX10_rank_63 rfl rfl (.tail _ (.tail _ (.tail _ (.head _)))) ?_
        refine r_iload_n (i := 2) (pc' := 65) dX10_rank_64 rfl rfl (.tail _ (.tail _ (.head _))) ?_
        refine r_iastore (pc' := 66) dX10_rank_65 rfl (by first | assumption | rfl) (by omega) (by omega) (by omega) (by first | decide | omega) (Int.toNat_natCast _) ?_
        rw [q_row_up, zi_of]
        refine r_iinc (pc' := 69) dX10_rank_66 rfl rfl (.tail _ (.head _)) (.s1 (.here (.s1 (.s1 .nil rfl rfl rfl) rfl rfl rfl)) rfl rfl rfl) ?_
        refine r_goto (t := 2) dX10_rank_69 (by decide) ?_
        refine r_sub (.kp (.kp (.dr (.dr .nil)))) ?_
        exact kk (j + 1) hj h1 (Or.inr h36)
      · rw [hah] at h36
        refine r_aload_n (i := 0) (pc' := 40) dX10_rank_39 rfl rfl (.head _) ?_
        refine r_getR (pc' := 43) dX10_rank_40 rfl fX10_25 rfl (by first | assumption | rfl) (by omega) (by assumption) ?_
        refine r_iload_n (i := 3) (pc' := 44) dX10_rank_43 rfl rfl (.tail _ (.tail _ (.tail _ (.head _)))) ?_
        refine r_aload_n (i := 0) (pc' := 45) dX10_rank_44 rfl rfl (.head _) ?_
        refine r_getR (pc' := 48) dX10_rank_45 rfl fX10_25 rfl (by first | assumption | rfl) (by omega) (by assumption) ?_
        refine r_iload_n (i := 3) (pc' := 49) dX10_rank_48 rfl rfl (.tail _ (.tail _ (.tail _ (.head _)))) ?_
        refine r_iconst (pc' := 50) dX10_rank_49 rfl ?_
        refine r_isub (pc' := 51) dX10_rank_50 rfl ?_
        refine r_iaload (pc' := 52) dX10_rank_51 rfl (by first | assumption | rfl) (by omega) (by omega) (by omega) (by first | decide | omega) (show (((j + 1 : Nat) : Int) - 1).toNat = j by omega) ?_
        rw [hat]
        refine r_iastore (pc' := 53) dX10_rank_52 rfl (by first | assumption | rfl) (by omega) (by omega) (by omega) (by first | decide | omega) (Int.toNat_natCast _) ?_
        rw [q_row_up, zi_of (f j), r_sh_s f j i hj]
        refine r_iinc (pc' := 56) dX10_rank_53 rfl rfl (.tail _ (.tail _ (.tail _ (.head _)))) (.s1 (.s1 (.s1 (.here .nil) rfl rfl rfl) rfl rfl rfl) rfl rfl rfl) ?_
        refine r_goto (t := 19) dX10_rank_56 (by decide) ?_
        rw [show ((j + 1 : Nat) : Int) + -1 = (j : Int) by omega]
        exact ih (by omega) (fun q hq hq2 => by
          by_cases e : q = j + 1
          · rw [e]; exact h36
          · exact h1 q (by omega) hq2)
set_option maxHeartbeats 4000000 in
set_option maxRecDepth 100000 in
theorem lX10_rank {l : Launch} {g : q_G} {n : Nat} {P : q_P} {X : q_X} {Y : q_Y} (ht : isTal n P) (hT : tOk X) : ∀ (w i : Nat) (f : Nat → Int32), 1 ≤ i → i + w = max 1 (xv X 453 5).toNat → rInv X (X 458) f (xv X 453 5).toNat i → q_Tr l g mX10_rank 1 (q_gv (fun n' P' X' Y' => n' = n ∧ P' = P ∧ Y' = Y ∧ ∃ f, X' = q_row X f ∧ rInv X (X 458) f (xv X 453 5).toNat (xv X 453 5).toNat)) 2 [(0, .ref (g.1 + 453)), (1, .int (zi (i : Int)))] [] n P (q_row X f) Y := by
  obtain ⟨t0, t1, t2, t3, t4, hnt⟩ := id ht
  obtain ⟨hz, ho⟩ := id hT
  intro w
  induction w with
  | zero =>
    intro i f h1 hk hI
    have hsz : xv (q_row X f) 453 5 = xv X 453 5 := congrFun (xv_row X f (by omega)) 5
    refine r_iload_n (i := 1) (pc' := 3) dX10_rank_2 rfl rfl (.tail _ (.head _)) ?_
    refine r_aload_n (i := 0) (pc' := 4) dX10_rank_3 rfl rfl (.head _) ?_
    refine r_getI (pc' := 7) dX10_rank_4 rfl fX10_28 rfl (by first | assumption | rfl) (by omega) ?_
    rw [hsz]
    refine r_icmp_ge (t := 72) (f := 10) dX10_rank_7 (by decide) rfl (by first | omega | exact xv_in _ _ _) (by first | omega | exact xv_in _ _ _) (fun h7 => ?_) (fun h7 => ?_)
    · refine r_return dX10_rank_72 rfl ?_
      exact ⟨rfl, rfl, rfl, rfl, f, rfl, hI.1, fun p q h1 h2 => hI.2.1 p q h1 (by omega), hI.2.2⟩
    · exfalso; omega
  | succ w ih =>
    intro i f h1 hk hI
    have hsz : xv (q_row X f) 453 5 = xv X 453 5 := congrFun (xv_row X f (by omega)) 5
    have hfi := hI.2.2 i (by omega)
    refine r_iload_n (i := 1) (pc' := 3) dX10_rank_2 rfl rfl (.tail _ (.head _)) ?_
    refine r_aload_n (i := 0) (pc' := 4) dX10_rank_3 rfl rfl (.head _) ?_
    refine r_getI (pc' := 7) dX10_rank_4 rfl fX10_28 rfl (by first | assumption | rfl) (by omega) ?_
    rw [hsz]
    refine r_icmp_ge (t := 72) (f := 10) dX10_rank_7 (by decide) rfl (by first | omega | exact xv_in _ _ _) (by first | omega | exact xv_in _ _ _) (fun h7 => ?_) (fun h7 => ?_)
    · exfalso; omega
    · refine r_aload_n (i := 0) (pc' := 11) dX10_rank_10 rfl rfl (.head _) ?_
      refine r_getR (pc' := 14) dX10_rank_11 rfl fX10_25 rfl (by first | assumption | rfl) (by omega) (by assumption) ?_
      refine r_iload_n (i := 1) (pc' := 15) dX10_rank_14 rfl rfl (.tail _ (.head _)) ?_
      refine r_iaload (pc' := 16) dX10_rank_15 rfl (by first | assumption | rfl) (by omega) (by omega) (by omega) (by first | decide | omega) (Int.toNat_natCast _) ?_
      rw [xv_row8]
      refine r_istore_n (i := 2) (pc' := 17) dX10_rank_16 rfl rfl rfl (.s1 (.s1 .nil rfl rfl rfl) rfl rfl rfl) ?_
      refine r_iload_n (i := 1) (pc' := 18) dX10_rank_17 rfl rfl (.tail _ (.head _)) ?_
      refine r_istore_n (i := 3) (pc' := 19) dX10_rank_18 rfl rfl rfl (.s1 (.s1 (.s1 .nil rfl rfl rfl) rfl rfl rfl) rfl rfl rfl) ?_
      refine r_eqX (by rw [r_sh_i]) (iX10_rank (f := f) ht (by omega) (fun q hq => hI.2.2 q (by omega)) (fun j hj g1 g2 => ?_) i (by omega) (fun q h1 h2 => by omega))
      exact ih (i + 1) (r_in f j i) (by omega) (by omega) (hI.step hj (by omega) g1 g2)
set_option maxHeartbeats 4000000 in
set_option maxRecDepth 100000 in
theorem tX10_rank {l : Launch} {g : q_G} {n : Nat} {P : q_P} {X : q_X} {Y : q_Y} (ht : isTal n P) (hT : tOk X) : q_Met l g mX10_rank 1 [.ref (g.1 + 453)] n P X Y (q_gv (fun n' P' X' Y' => n' = n ∧ P' = P ∧ Y' = Y ∧ ∃ f, X' = q_row X f ∧ rInv X (X 458) f (xv X 453 5).toNat (xv X 453 5).toNat)) := by
  obtain ⟨t0, t1, t2, t3, t4, hnt⟩ := id ht
  refine q_enter (L := [(0, .ref (g.1 + 453))]) (by decide) (Nat.le_of_ble_eq_true rfl) rfl ?_
  refine r_iconst (pc' := 1) dX10_rank_0 rfl ?_
  refine r_istore_n (i := 1) (pc' := 2) dX10_rank_1 rfl rfl rfl (.s1 .nil rfl rfl rfl) ?_
  refine r_eqX (q_row_id X).symm ?_
  have hz := hT.1
  exact lX10_rank ht hT (max 1 (xv X 453 5).toNat - 1) 1 (X 458) (by omega) (by omega) ⟨fun _ => rfl, fun p q h1 h2 => by omega, fun q hq => hT.2 q (by omega)⟩
