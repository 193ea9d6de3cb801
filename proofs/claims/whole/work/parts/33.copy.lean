/-! a block of cells takes over another's: the slots D of the block at b become those of the block at o -/
noncomputable def q_blk (X : q_X) (b o : Nat) (D : Nat → Nat → Prop) : q_X := fun i j => @ite _ (b ≤ i ∧ D (i - b) j) (Classical.propDecidable _) (X (o + (i - b)) j) (X i j)
theorem blk_0 (X : q_X) (b o : Nat) : X = q_blk X b o (fun _ _ => False) := by funext i j; simp [q_blk]
theorem blk_congr (X : q_X) (b o : Nat) {D E : Nat → Nat → Prop} (h : ∀ d j, D d j ↔ E d j) : q_blk X b o D = q_blk X b o E := by
  have : D = E := funext fun d => funext fun j => propext (h d j)
  rw [this]
theorem blk_in (X : q_X) (b o : Nat) {D : Nat → Nat → Prop} {d j : Nat} (h : D d j) : q_blk X b o D (b + d) j = X (o + d) j := by
  simp only [q_blk]; rw [if_pos ⟨by omega, by rw [Nat.add_sub_cancel_left]; exact h⟩, Nat.add_sub_cancel_left]
theorem blk_out (X : q_X) (b o : Nat) {D : Nat → Nat → Prop} {i j : Nat} (h : ¬ (b ≤ i ∧ D (i - b) j)) : q_blk X b o D i j = X i j := by
  simp only [q_blk]; rw [if_neg h]
theorem blk_row (X : q_X) (b o m : Nat) {D : Nat → Nat → Prop} (hD : ∀ d j, D d j → d < m) {i : Nat} (h : i < b ∨ b + m ≤ i) (j : Nat) : q_blk X b o D i j = X i j := blk_out X b o (fun q => by have := hD _ _ q.2; omega)
theorem blk_blk (X : q_X) (b o m : Nat) {D E : Nat → Nat → Prop} (hd : b + m ≤ o ∨ o + m ≤ b) (hD : ∀ d j, D d j → d < m) (hE : ∀ d j, E d j → d < m) : q_blk (q_blk X b o D) b o E = q_blk X b o (fun d j => D d j ∨ E d j) := by
  funext i j
  by_cases h : b ≤ i ∧ E (i - b) j
  · have h2 := hE _ _ h.2
    have e1 : q_blk (q_blk X b o D) b o E i j = q_blk X b o D (o + (i - b)) j := by simp only [q_blk]; rw [if_pos h]
    rw [e1, blk_row X b o m hD (by omega)]
    simp only [q_blk]; rw [if_pos ⟨h.1, Or.inr h.2⟩]
  · rw [blk_out _ _ _ h]
    by_cases h2 : b ≤ i ∧ D (i - b) j
    · simp only [q_blk]; rw [if_pos h2, if_pos ⟨h2.1, Or.inl h2.2⟩]
    · rw [blk_out _ _ _ h2, blk_out _ _ _ (fun q => q.2.elim (fun r => h2 ⟨q.1, r⟩) (fun r => h ⟨q.1, r⟩))]
theorem blk_put1 (X : q_X) (b o k : Nat) : q_up X b k (zi (xv X o k)) = q_blk X b o (fun d j => d = 0 ∧ j = k) := by
  funext i j
  by_cases h : i = b ∧ j = k
  · rw [h.1, h.2, q_up_same, zi_xv]; exact (blk_in X b o (d := 0) ⟨rfl, rfl⟩).symm
  · rw [q_up_ne _ _ h, blk_out _ _ _ (by omega)]
theorem blk_cpy1 (X : q_X) (b o e N : Nat) : (fun i j => if i = b + e ∧ j < N then X (o + e) j else X i j) = q_blk X b o (fun d j => d = e ∧ j < N) := by
  funext i j
  by_cases h : i = b + e ∧ j < N
  · rw [if_pos h, h.1]; exact (blk_in X b o (d := e) (D := fun d j => d = e ∧ j < N) ⟨rfl, h.2⟩).symm
  · rw [if_neg h, blk_out _ _ _ (by omega)]
theorem blk_put (X : q_X) (b o m k : Nat) {D : Nat → Nat → Prop} (hd : b + m ≤ o ∨ o + m ≤ b) (hm : 0 < m) (hD : ∀ d j, D d j → d < m) : q_up (q_blk X b o D) b k (zi (xv (q_blk X b o D) o k)) = q_blk X b o (fun d j => D d j ∨ (d = 0 ∧ j = k)) := by
  rw [blk_put1, blk_blk X b o m hd hD (fun d j h => by omega)]
theorem blk_cpy (X : q_X) (b o m e N : Nat) {D : Nat → Nat → Prop} (hd : b + m ≤ o ∨ o + m ≤ b) (he : e < m) (hD : ∀ d j, D d j → d < m) : (fun i j => if i = b + e ∧ j < N then q_blk X b o D (o + e) j else q_blk X b o D i j) = q_blk X b o (fun d j => D d j ∨ (d = e ∧ j < N)) := by
  rw [blk_cpy1, blk_blk X b o m hd hD (fun d j h => by omega)]
theorem blk_sub (X : q_X) (b o e : Nat) (D : Nat → Nat → Prop) : q_blk X (b + e) (o + e) D = q_blk X b o (fun d j => e ≤ d ∧ D (d - e) j) := by
  funext i j
  by_cases h : b + e ≤ i ∧ D (i - (b + e)) j
  · have e1 : q_blk X (b + e) (o + e) D i j = X (o + e + (i - (b + e))) j := by simp only [q_blk]; rw [if_pos h]
    have e2 : q_blk X b o (fun d j => e ≤ d ∧ D (d - e) j) i j = X (o + (i - b)) j := by simp only [q_blk]; rw [if_pos ⟨by omega, by omega, by rw [show i - b - e = i - (b + e) by omega]; exact h.2⟩]
    rw [e1, e2, show o + e + (i - (b + e)) = o + (i - b) by omega]
  · rw [blk_out _ _ _ h, blk_out _ _ _ (fun q => h ⟨by omega, by rw [show i - (b + e) = i - b - e by omega]; exact q.2.2⟩)]
theorem blk_con (X : q_X) (c o : Nat) : c_copy X c o = q_blk X c o (fun d j => (d = 0 ∧ j < 6) ∨ (1 ≤ d ∧ d ≤ 4 ∧ j < 10)) := by
  funext i j
  simp only [c_copy]
  by_cases h1 : i = c ∧ j < 6
  · rw [if_pos h1, h1.1]; exact (blk_in X c o (d := 0) (D := fun d j => (d = 0 ∧ j < 6) ∨ (1 ≤ d ∧ d ≤ 4 ∧ j < 10)) (Or.inl ⟨rfl, h1.2⟩)).symm
  · rw [if_neg h1]
    by_cases h2 : c < i ∧ i ≤ c + 4 ∧ j < 10
    · rw [if_pos h2]
      have := (blk_in X c o (d := i - c) (j := j) (D := fun d j => (d = 0 ∧ j < 6) ∨ (1 ≤ d ∧ d ≤ 4 ∧ j < 10)) (Or.inr ⟨by omega, by omega, h2.2.2⟩)).symm
      rw [show c + (i - c) = i by omega] at this
      exact this
    · rw [if_neg h2, blk_out _ _ _ (by omega)]
theorem fits_b {X : q_X} {a i : Nat} (h : xv X a i = 0 ∨ xv X a i = 1) : fits .boolean (.int (X a i)) = true := by
  rw [← zi_xv X a i]
  rcases h with h | h <;> rw [h] <;> rfl
def D_pro (d j : Nat) : Prop := (d = 0 ∧ j = 0) ∨ (1 ≤ d ∧ d ≤ 5 ∧ j < 24)
def D_mar (d j : Nat) : Prop := (d = 0 ∧ j = 0) ∨ (1 ≤ d ∧ d ≤ 4 ∧ j < 12)
def D_for (d j : Nat) : Prop := (d = 0 ∧ j = 0) ∨ (d = 1 ∧ j < 80)
/-- what copyFrom takes over, of books with s contracts -/
def D_bk (s d j : Nat) : Prop := (d = 0 ∧ (j < 7 ∨ j = 10)) ∨ ((d = 1 ∨ d = 2) ∧ j < 20) ∨ (4 ≤ d ∧ D_pro (d - 4) j) ∨ (10 ≤ d ∧ D_mar (d - 10) j) ∨ (15 ≤ d ∧ D_for (d - 15) j) ∨ (20 ≤ d ∧ d < 20 + 5 * s ∧ ((d % 5 = 0 ∧ j < 6) ∨ (¬ d % 5 = 0 ∧ j < 10)))
set_option maxHeartbeats 4000000 in
set_option maxRecDepth 100000 in
theorem tX8_copyFrom {l : Launch} {g : q_G} {n : Nat} {P : q_P} {X : q_X} {Y : q_Y} {b o : Nat} (hp : isPro n P b) (hq : isPro n P o) (hd : b + 6 ≤ o ∨ o + 6 ≤ b) (hl : ∀ i, i < 24 → xv X (o + 4) i = 0 ∨ xv X (o + 4) i = 1) (he : ∀ i, i < 24 → xv X (o + 5) i = 0 ∨ xv X (o + 5) i = 1) : q_Met l g mX8_copyFrom 1 [.ref (g.1 + b), .ref (g.1 + o)] n P X Y (q_gv (fun n' P' X' Y' => n' = n ∧ P' = P ∧ Y' = Y ∧ X' = q_blk X b o D_pro)) := by
  obtain ⟨a0, a1, a2, a3, a4, a5, u1, u2, u3, u4, u5, hnp⟩ := id hp
  obtain ⟨a0', a1', a2', a3', a4', a5', u1', u2', u3', u4', u5', hnp'⟩ := id hq
  refine q_enter (L := [(0, .ref (g.1 + b)), (1, .ref (g.1 + o))]) (by decide) (Nat.le_of_ble_eq_true rfl) rfl ?_
  refine r_eqX (blk_0 X b o) ?_
  refine r_aload_n (i := 0) (pc' := 1) dX8_copyFrom_0 rfl rfl (.head _) ?_
  refine r_aload_n (i := 1) (pc' := 2) dX8_copyFrom_1 rfl rfl (.tail _ (.head _)) ?_
  refine r_getI (pc' := 5) dX8_copyFrom_2 rfl fX8_28 rfl (by first | assumption | rfl) (by omega) ?_
  refine r_putI (pc' := 8) dX8_copyFrom_5 rfl fX8_28 rfl (by first | assumption | rfl) (by omega) rfl rfl ?_
  refine r_eqX (blk_put X b o 6 0 hd (by omega) (fun d j h => by first | exact False.elim h | (simp only [false_or] at h; omega))) ?_
  refine r_aload_n (i := 1) (pc' := 9) dX8_copyFrom_8 rfl rfl (.tail _ (.head _)) ?_
  refine r_getR (pc' := 12) dX8_copyFrom_9 rfl fX8_11 rfl (by first | assumption | rfl) (by omega) (by assumption) ?_
  refine r_iconst (pc' := 13) dX8_copyFrom_12 rfl ?_
  refine r_aload_n (i := 0) (pc' := 14) dX8_copyFrom_13 rfl rfl (.head _) ?_
  refine r_getR (pc' := 17) dX8_copyFrom_14 rfl fX8_11 rfl (by first | assumption | rfl) (by omega) (by assumption) ?_
  refine r_iconst (pc' := 18) dX8_copyFrom_17 rfl ?_
  refine r_bipush (pc' := 20) dX8_copyFrom_18 rfl (by decide) ?_
  refine q_copyW (k := 20) (t0 := 0) (ty := .int) (pc' := 23) dX8_copyFrom_20 rfl lX8_32 sys_nat sys_stat sys_init (by decide) (Nat.le_of_ble_eq_true rfl) (by decide) rfl rfl (by assumption) (by assumption) (by omega) (by omega) (by decide) (fun _ _ => rfl) ?_
  refine r_eqX (blk_cpy X b o 6 1 24 hd (by omega) (fun d j h => by first | exact False.elim h | (simp only [false_or] at h; omega))) ?_
  refine r_aload_n (i := 1) (pc' := 24) dX8_copyFrom_23 rfl rfl (.tail _ (.head _)) ?_
  refine r_getR (pc' := 27) dX8_copyFrom_24 rfl fX8_15 rfl (by first | assumption | rfl) (by omega) (by assumption) ?_
  refine r_iconst (pc' := 28) dX8_copyFrom_27 rfl ?_
  refine r_aload_n (i := 0) (pc' := 29) dX8_copyFrom_28 rfl rfl (.head _) ?_
  refine r_getR (pc' := 32) dX8_copyFrom_29 rfl fX8_15 rfl (by first | assumption | rfl) (by omega) (by assumption) ?_
  refine r_iconst (pc' := 33) dX8_copyFrom_32 rfl ?_
  refine r_bipush (pc' := 35) dX8_copyFrom_33 rfl (by decide) ?_
  refine q_copyW (k := 20) (t0 := 0) (ty := .int) (pc' := 38) dX8_copyFrom_35 rfl lX8_32 sys_nat sys_stat sys_init (by decide) (Nat.le_of_ble_eq_true rfl) (by decide) rfl rfl (by assumption) (by assumption) (by omega) (by omega) (by decide) (fun _ _ => rfl) ?_
  refine r_eqX (blk_cpy X b o 6 2 24 hd (by omega) (fun d j h => by first | exact False.elim h | (simp only [false_or] at h; omega))) ?_
  refine r_aload_n (i := 1) (pc' := 39) dX8_copyFrom_38 rfl rfl (.tail _ (.head _)) ?_
  refine r_getR (pc' := 42) dX8_copyFrom_39 rfl fX8_18 rfl (by first | assumption | rfl) (by omega) (by assumption) ?_
  refine r_iconst (pc' := 43) dX8_copyFrom_42 rfl ?_
  refine r_aload_n (i := 0) (pc' := 44) dX8_copyFrom_43 rfl rfl (.head _) ?_
  refine r_getR (pc' := 47) dX8_copyFrom_44 rfl fX8_18 rfl (by first | assumption | rfl) (by omega) (by assumption) ?_
  refine r_iconst (pc' := 48) dX8_copyFrom_47 rfl ?_
  refine r_bipush (pc' := 50) dX8_copyFrom_48 rfl (by decide) ?_
  refine q_copyW (k := 20) (t0 := 0) (ty := .int) (pc' := 53) dX8_copyFrom_50 rfl lX8_32 sys_nat sys_stat sys_init (by decide) (Nat.le_of_ble_eq_true rfl) (by decide) rfl rfl (by assumption) (by assumption) (by omega) (by omega) (by decide) (fun _ _ => rfl) ?_
  refine r_eqX (blk_cpy X b o 6 3 24 hd (by omega) (fun d j h => by first | exact False.elim h | (simp only [false_or] at h; omega))) ?_
  refine r_aload_n (i := 1) (pc' := 54) dX8_copyFrom_53 rfl rfl (.tail _ (.head _)) ?_
  refine r_getR (pc' := 57) dX8_copyFrom_54 rfl fX8_21 rfl (by first | assumption | rfl) (by omega) (by assumption) ?_
  refine r_iconst (pc' := 58) dX8_copyFrom_57 rfl ?_
  refine r_aload_n (i := 0) (pc' := 59) dX8_copyFrom_58 rfl rfl (.head _) ?_
  refine r_getR (pc' := 62) dX8_copyFrom_59 rfl fX8_21 rfl (by first | assumption | rfl) (by omega) (by assumption) ?_
  refine r_iconst (pc' := 63) dX8_copyFrom_62 rfl ?_
  refine r_bipush (pc' := 65) dX8_copyFrom_63 rfl (by decide) ?_
  refine q_copyW (k := 22) (t0 := 2) (ty := .boolean) (pc' := 68) dX8_copyFrom_65 rfl lX8_32 sys_nat sys_stat sys_init (by decide) (Nat.le_of_ble_eq_true rfl) (by decide) rfl rfl (by assumption) (by assumption) (by omega) (by omega) (by decide) (fun i hi => by rw [blk_row X b o 6 (fun d j h => by first | exact False.elim h | (simp only [false_or] at h; omega)) (by omega)]; exact fits_b (hl i hi)) ?_
  refine r_eqX (blk_cpy X b o 6 4 24 hd (by omega) (fun d j h => by first | exact False.elim h | (simp only [false_or] at h; omega))) ?_
  refine r_aload_n (i := 1) (pc' := 69) dX8_copyFrom_68 rfl rfl (.tail _ (.head _)) ?_
  refine r_getR (pc' := 72) dX8_copyFrom_69 rfl fX8_25 rfl (by first | assumption | rfl) (by omega) (by assumption) ?_
  refine r_iconst (pc' := 73) dX8_copyFrom_72 rfl ?_
  refine r_aload_n (i := 0) (pc' := 74) dX8_copyFrom_73 rfl rfl (.head _) ?_
  refine r_getR (pc' := 77) dX8_copyFrom_74 rfl fX8_25 rfl (by first | assumption | rfl) (by omega) (by assumption) ?_
  refine r_iconst (pc' := 78) dX8_copyFrom_77 rfl ?_
  refine r_bipush (pc' := 80) dX8_copyFrom_78 rfl (by decide) ?_
  refine q_copyW (k := 22) (t0 := 2) (ty := .boolean) (pc' := 83) dX8_copyFrom_80 rfl lX8_32 sys_nat sys_stat sys_init (by decide) (Nat.le_of_ble_eq_true rfl) (by decide) rfl rfl (by assumption) (by assumption) (by omega) (by omega) (by decide) (fun i hi => by rw [blk_row X b o 6 (fun d j h => by first | exact False.elim h | (simp only [false_or] at h; omega)) (by omega)]; exact fits_b (he i hi)) ?_
  refine r_eqX (blk_cpy X b o 6 5 24 hd (by omega) (fun d j h => by first | exact False.elim h | (simp only [false_or] at h; omega))) ?_
  refine r_return dX8_copyFrom_83 rfl ?_
  refine ⟨rfl, rfl, rfl, rfl, ?_⟩
  exact blk_congr X b o (fun d j => by simp only [D_pro, false_or] <;> omega)
set_option maxHeartbeats 4000000 in
set_option maxRecDepth 100000 in
theorem tX7_copyFrom {l : Launch} {g : q_G} {n : Nat} {P : q_P} {X : q_X} {Y : q_Y} {b o : Nat} (hp : isMar n P b) (hq : isMar n P o) (hd : b + 5 ≤ o ∨ o + 5 ≤ b) : q_Met l g mX7_copyFrom 1 [.ref (g.1 + b), .ref (g.1 + o)] n P X Y (q_gv (fun n' P' X' Y' => n' = n ∧ P' = P ∧ Y' = Y ∧ X' = q_blk X b o D_mar)) := by
  obtain ⟨a0, a1, a2, a3, a4, u1, u2, u3, u4, hnm⟩ := id hp
  obtain ⟨a0', a1', a2', a3', a4', u1', u2', u3', u4', hnm'⟩ := id hq
  refine q_enter (L := [(0, .ref (g.1 + b)), (1, .ref (g.1 + o))]) (by decide) (Nat.le_of_ble_eq_true rfl) rfl ?_
  refine r_eqX (blk_0 X b o) ?_
  refine r_aload_n (i := 0) (pc' := 1) dX7_copyFrom_0 rfl rfl (.head _) ?_
  refine r_aload_n (i := 1) (pc' := 2) dX7_copyFrom_1 rfl rfl (.tail _ (.head _)) ?_
  refine r_getI (pc' := 5) dX7_copyFrom_2 rfl fX7_24 rfl (by first | assumption | rfl) (by omega) ?_
  refine r_putI (pc' := 8) dX7_copyFrom_5 rfl fX7_24 rfl (by first | assumption | rfl) (by omega) rfl rfl ?_
  refine r_eqX (blk_put X b o 5 0 hd (by omega) (fun d j h => by first | exact False.elim h | (simp only [false_or] at h; omega))) ?_
  refine r_aload_n (i := 1) (pc' := 9) dX7_copyFrom_8 rfl rfl (.tail _ (.head _)) ?_
  refine r_getR (pc' := 12) dX7_copyFrom_9 rfl fX7_11 rfl (by first | assumption | rfl) (by omega) (by assumption) ?_
  refine r_iconst (pc' := 13) dX7_copyFrom_12 rfl ?_
  refine r_aload_n (i := 0) (pc' := 14) dX7_copyFrom_13 rfl rfl (.head _) ?_
  refine r_getR (pc' := 17) dX7_copyFrom_14 rfl fX7_11 rfl (by first | assumption | rfl) (by omega) (by assumption) ?_
  refine r_iconst (pc' := 18) dX7_copyFrom_17 rfl ?_
  refine r_bipush (pc' := 20) dX7_copyFrom_18 rfl (by decide) ?_
  refine q_copyW (k := 20) (t0 := 0) (ty := .int) (pc' := 23) dX7_copyFrom_20 rfl lX7_28 sys_nat sys_stat sys_init (by decide) (Nat.le_of_ble_eq_true rfl) (by decide) rfl rfl (by assumption) (by assumption) (by omega) (by omega) (by decide) (fun _ _ => rfl) ?_
  refine r_eqX (blk_cpy X b o 5 1 12 hd (by omega) (fun d j h => by first | exact False.elim h | (simp only [false_or] at h; omega))) ?_
  refine r_aload_n (i := 1) (pc' := 24) dX7_copyFrom_23 rfl rfl (.tail _ (.head _)) ?_
  refine r_getR (pc' := 27) dX7_copyFrom_24 rfl fX7_15 rfl (by first | assumption | rfl) (by omega) (by assumption) ?_
  refine r_iconst (pc' := 28) dX7_copyFrom_27 rfl ?_
  refine r_aload_n (i := 0) (pc' := 29) dX7_copyFrom_28 rfl rfl (.head _) ?_
  refine r_getR (pc' := 32) dX7_copyFrom_29 rfl fX7_15 rfl (by first | assumption | rfl) (by omega) (by assumption) ?_
  refine r_iconst (pc' := 33) dX7_copyFrom_32 rfl ?_
  refine r_bipush (pc' := 35) dX7_copyFrom_33 rfl (by decide) ?_
  refine q_copyW (k := 20) (t0 := 0) (ty := .int) (pc' := 38) dX7_copyFrom_35 rfl lX7_28 sys_nat sys_stat sys_init (by decide) (Nat.le_of_ble_eq_true rfl) (by decide) rfl rfl (by assumption) (by assumption) (by omega) (by omega) (by decide) (fun _ _ => rfl) ?_
  refine r_eqX (blk_cpy X b o 5 2 12 hd (by omega) (fun d j h => by first | exact False.elim h | (simp only [false_or] at h; omega))) ?_
  refine r_aload_n (i := 1) (pc' := 39) dX7_copyFrom_38 rfl rfl (.tail _ (.head _)) ?_
  refine r_getR (pc' := 42) dX7_copyFrom_39 rfl fX7_18 rfl (by first | assumption | rfl) (by omega) (by assumption) ?_
  refine r_iconst (pc' := 43) dX7_copyFrom_42 rfl ?_
  refine r_aload_n (i := 0) (pc' := 44) dX7_copyFrom_43 rfl rfl (.head _) ?_
  refine r_getR (pc' := 47) dX7_copyFrom_44 rfl fX7_18 rfl (by first | assumption | rfl) (by omega) (by assumption) ?_
  refine r_iconst (pc' := 48) dX7_copyFrom_47 rfl ?_
  refine r_bipush (pc' := 50) dX7_copyFrom_48 rfl (by decide) ?_
  refine q_copyW (k := 20) (t0 := 0) (ty := .int) (pc' := 53) dX7_copyFrom_50 rfl lX7_28 sys_nat sys_stat sys_init (by decide) (Nat.le_of_ble_eq_true rfl) (by decide) rfl rfl (by assumption) (by assumption) (by omega) (by omega) (by decide) (fun _ _ => rfl) ?_
  refine r_eqX (blk_cpy X b o 5 3 12 hd (by omega) (fun d j h => by first | exact False.elim h | (simp only [false_or] at h; omega))) ?_
  refine r_aload_n (i := 1) (pc' := 54) dX7_copyFrom_53 rfl rfl (.tail _ (.head _)) ?_
  refine r_getR (pc' := 57) dX7_copyFrom_54 rfl fX7_21 rfl (by first | assumption | rfl) (by omega) (by assumption) ?_
  refine r_iconst (pc' := 58) dX7_copyFrom_57 rfl ?_
  refine r_aload_n (i := 0) (pc' := 59) dX7_copyFrom_58 rfl rfl (.head _) ?_
  refine r_getR (pc' := 62) dX7_copyFrom_59 rfl fX7_21 rfl (by first | assumption | rfl) (by omega) (by assumption) ?_
  refine r_iconst (pc' := 63) dX7_copyFrom_62 rfl ?_
  refine r_bipush (pc' := 65) dX7_copyFrom_63 rfl (by decide) ?_
  refine q_copyW (k := 20) (t0 := 0) (ty := .int) (pc' := 68) dX7_copyFrom_65 rfl lX7_28 sys_nat sys_stat sys_init (by decide) (Nat.le_of_ble_eq_true rfl) (by decide) rfl rfl (by assumption) (by assumption) (by omega) (by omega) (by decide) (fun _ _ => rfl) ?_
  refine r_eqX (blk_cpy X b o 5 4 12 hd (by omega) (fun d j h => by first | exact False.elim h | (simp only [false_or] at h; omega))) ?_
  refine r_return dX7_copyFrom_68 rfl ?_
  refine ⟨rfl, rfl, rfl, rfl, ?_⟩
  exact blk_congr X b o (fun d j => by simp only [D_mar, false_or] <;> omega)
set_option maxHeartbeats 4000000 in
set_option maxRecDepth 100000 in
theorem tX5_copyFrom {l : Launch} {g : q_G} {n : Nat} {P : q_P} {X : q_X} {Y : q_Y} {b o : Nat} (hp : isFor n P b) (hq : isFor n P o) (hd : b + 5 ≤ o ∨ o + 5 ≤ b) : q_Met l g mX5_copyFrom 1 [.ref (g.1 + b), .ref (g.1 + o)] n P X Y (q_gv (fun n' P' X' Y' => n' = n ∧ P' = P ∧ Y' = Y ∧ X' = q_blk X b o D_for)) := by
  obtain ⟨a0, a1, a2, a3, a4, u1, u2, u3, u4, hnm⟩ := id hp
  obtain ⟨a0', a1', a2', a3', a4', u1', u2', u3', u4', hnm'⟩ := id hq
  refine q_enter (L := [(0, .ref (g.1 + b)), (1, .ref (g.1 + o))]) (by decide) (Nat.le_of_ble_eq_true rfl) rfl ?_
  refine r_eqX (blk_0 X b o) ?_
  refine r_aload_n (i := 0) (pc' := 1) dX5_copyFrom_0 rfl rfl (.head _) ?_
  refine r_aload_n (i := 1) (pc' := 2) dX5_copyFrom_1 rfl rfl (.tail _ (.head _)) ?_
  refine r_getI (pc' := 5) dX5_copyFrom_2 rfl fX5_25 rfl (by first | assumption | rfl) (by omega) ?_
  refine r_putI (pc' := 8) dX5_copyFrom_5 rfl fX5_25 rfl (by first | assumption | rfl) (by omega) rfl rfl ?_
  refine r_eqX (blk_put X b o 5 0 hd (by omega) (fun d j h => by first | exact False.elim h | (simp only [false_or] at h; omega))) ?_
  refine r_aload_n (i := 1) (pc' := 9) dX5_copyFrom_8 rfl rfl (.tail _ (.head _)) ?_
  refine r_getR (pc' := 12) dX5_copyFrom_9 rfl fX5_11 rfl (by first | assumption | rfl) (by omega) (by assumption) ?_
  refine r_iconst (pc' := 13) dX5_copyFrom_12 rfl ?_
  refine r_aload_n (i := 0) (pc' := 14) dX5_copyFrom_13 rfl rfl (.head _) ?_
  refine r_getR (pc' := 17) dX5_copyFrom_14 rfl fX5_11 rfl (by first | assumption | rfl) (by omega) (by assumption) ?_
  refine r_iconst (pc' := 18) dX5_copyFrom_17 rfl ?_
  refine r_bipush (pc' := 20) dX5_copyFrom_18 rfl (by decide) ?_
  refine q_copyW (k := 20) (t0 := 0) (ty := .int) (pc' := 23) dX5_copyFrom_20 rfl lX5_29 sys_nat sys_stat sys_init (by decide) (Nat.le_of_ble_eq_true rfl) (by decide) rfl rfl (by assumption) (by assumption) (by omega) (by omega) (by decide) (fun _ _ => rfl) ?_
  refine r_eqX (blk_cpy X b o 5 1 80 hd (by omega) (fun d j h => by first | exact False.elim h | (simp only [false_or] at h; omega))) ?_
  refine r_return dX5_copyFrom_23 rfl ?_
  refine ⟨rfl, rfl, rfl, rfl, ?_⟩
  exact blk_congr X b o (fun d j => by simp only [D_for, false_or] <;> omega)
def D_1 (i d j : Nat) : Prop := (d = 0 ∧ (j < 7 ∨ j = 10)) ∨ ((d = 1 ∨ d = 2) ∧ j < 20) ∨ (20 ≤ d ∧ d < 20 + 5 * i ∧ ((d % 5 = 0 ∧ j < 6) ∨ (¬ d % 5 = 0 ∧ j < 10)))
theorem D_1_lt {i d j : Nat} (hi : i ≤ 40) (h : D_1 i d j) : d < 220 := by unfold D_1 at h; omega
theorem D_p_lt {d j : Nat} (h : 4 ≤ d ∧ D_pro (d - 4) j) : d < 220 := by have := h.2; unfold D_pro at this; omega
theorem D_m_lt {d j : Nat} (h : 10 ≤ d ∧ D_mar (d - 10) j) : d < 220 := by have := h.2; unfold D_mar at this; omega
theorem D_f_lt {d j : Nat} (h : 15 ≤ d ∧ D_for (d - 15) j) : d < 220 := by have := h.2; unfold D_for at this; omega
theorem D_bk_iff {s d j : Nat} : (((D_1 s d j ∨ (4 ≤ d ∧ D_pro (d - 4) j)) ∨ (10 ≤ d ∧ D_mar (d - 10) j)) ∨ (15 ≤ d ∧ D_for (d - 15) j)) ↔ D_bk s d j := by
  unfold D_1 D_bk
  constructor
  · intro h
    rcases h with (((h | h | h) | h) | h) | h
    · exact Or.inl h
    · exact Or.inr (Or.inl h)
    · exact Or.inr (Or.inr (Or.inr (Or.inr (Or.inr h))))
    · exact Or.inr (Or.inr (Or.inl h))
    · exact Or.inr (Or.inr (Or.inr (Or.inl h)))
    · exact Or.inr (Or.inr (Or.inr (Or.inr (Or.inl h))))
  · intro h
    rcases h with h | h | h | h | h | h
    · exact Or.inl (Or.inl (Or.inl (Or.inl h)))
    · exact Or.inl (Or.inl (Or.inl (Or.inr (Or.inl h))))
    · exact Or.inl (Or.inl (Or.inr h))
    · exact Or.inl (Or.inr h)
    · exact Or.inr h
    · exact Or.inl (Or.inl (Or.inl (Or.inr (Or.inr h))))
theorem D_1_s {i d j : Nat} : (D_1 i d j ∨ (20 + 5 * i ≤ d ∧ ((d - (20 + 5 * i) = 0 ∧ j < 6) ∨ (1 ≤ d - (20 + 5 * i) ∧ d - (20 + 5 * i) ≤ 4 ∧ j < 10)))) ↔ D_1 (i + 1) d j := by
  unfold D_1
  constructor
  · intro h
    rcases h with (h | h | h) | h
    · exact Or.inl h
    · exact Or.inr (Or.inl h)
    · exact Or.inr (Or.inr ⟨h.1, by omega, h.2.2⟩)
    · exact Or.inr (Or.inr ⟨by omega, by omega, by omega⟩)
  · intro h
    rcases h with h | h | h
    · exact Or.inl (Or.inl h)
    · exact Or.inl (Or.inr (Or.inl h))
    · by_cases h2 : d < 20 + 5 * i
      · exact Or.inl (Or.inr (Or.inr ⟨h.1, h2, h.2.2⟩))
      · exact Or.inr ⟨by omega, by omega⟩
set_option maxHeartbeats 4000000 in
set_option maxRecDepth 100000 in
theorem lX1_copyFrom {l : Launch} {g : q_G} {n : Nat} {P : q_P} {X : q_X} {Y : q_Y} {b o : Nat} (hb : isBk n P b) (hb2 : isBk n P o) (hO : bOk X o) (hd : b + 220 ≤ o ∨ o + 220 ≤ b) : ∀ (w i : Nat), i + w = (xv X o 10).toNat → q_Tr l g mX1_copyFrom 2 (q_gv (fun n' P' X' Y' => n' = n ∧ P' = P ∧ Y' = Y ∧ X' = q_blk X b o (D_bk (xv X o 10).toNat))) 96 [(0, .ref (g.1 + b)), (1, .ref (g.1 + o)), (2, .int (zi (i : Int)))] [] n P (q_blk X b o (D_1 i)) Y := by
  obtain ⟨b0, b1, b2, b3, q7, q8, q9, q11, q12, q13, hn, hpro, hmar, hfor, hcs⟩ := id hb
  obtain ⟨b0', b1', b2', b3', q7', q8', q9', q11', q12', q13', hn', hpro', hmar', hfor', hcs'⟩ := id hb2
  obtain ⟨o0, o1, o2, o3, o4, o5, o6, o10, oc, op0, opz, opi, om0, omi, olim⟩ := id hO
  have hsp := hpro.1
  have hsm := hmar.1
  have hsf := hfor.1
  intro w
  induction w with
  | zero =>
    intro i hk
    have hsz : xv (q_blk X b o (D_1 i)) b 10 = xv X o 10 := by simp only [xv]; exact congrArg _ (blk_in X b o (d := 0) (Or.inl ⟨rfl, Or.inr rfl⟩))
    have hrow : ∀ a, a < b ∨ b + 220 ≤ a → ∀ j, xv (q_blk X b o (D_1 i)) a j = xv X a j := fun a ha j => congrArg _ (blk_row X b o 220 (fun d j h => D_1_lt (by omega) h) ha j)
    refine r_iload_n (i := 2) (pc' := 97) dX1_copyFrom_96 rfl rfl (.tail _ (.tail _ (.head _))) ?_
    refine r_aload_n (i := 0) (pc' := 98) dX1_copyFrom_97 rfl rfl (.head _) ?_
    refine r_getI (pc' := 101) dX1_copyFrom_98 rfl fX1_75 rfl (by first | assumption | rfl) (by omega) ?_
    rw [hsz]
    refine r_icmp_ge (t := 125) (f := 104) dX1_copyFrom_101 (by decide) rfl (by first | omega | exact xv_in _ _ _) (by first | omega | exact xv_in _ _ _) (fun h101 => ?_) (fun h101 => ?_)
    · refine r_aload_n (i := 0) (pc' := 126) dX1_copyFrom_125 rfl rfl (.head _) ?_
      refine r_getR (pc' := 129) dX1_copyFrom_126 rfl fX1_43 rfl (by first | assumption | rfl) (by omega) (by assumption) ?_
      refine r_aload_n (i := 1) (pc' := 130) dX1_copyFrom_129 rfl rfl (.tail _ (.head _)) ?_
      refine r_getR (pc' := 133) dX1_copyFrom_130 rfl fX1_43 rfl (by first | assumption | rfl) (by omega) (by assumption) ?_
      refine r_V1gv (ci := 8) (pc' := 136) dX1_copyFrom_133 rfl lX1_82 rfl (by decide) (Nat.le_of_ble_eq_true rfl) (by first | assumption | rfl) (by omega) (tX8_copyFrom hpro hpro' (by omega) (fun j hj => by rw [hrow _ (by omega)]; exact (opz j hj).1) (fun j hj => by rw [hrow _ (by omega)]; exact (opz j hj).2)) (fun n133 P133 X133 Y133 e133 le133 => ?_)
      obtain ⟨rfl, rfl, rfl, rfl⟩ := e133
      refine r_eqX ((blk_sub _ b o 4 D_pro).trans (blk_blk X b o 220 hd (fun d j h => D_1_lt (by omega) h) (fun d j h => D_p_lt h))) ?_
      refine r_aload_n (i := 0) (pc' := 137) dX1_copyFrom_136 rfl rfl (.head _) ?_
      refine r_getR (pc' := 140) dX1_copyFrom_137 rfl fX1_50 rfl (by first | assumption | rfl) (by omega) (by assumption) ?_
      refine r_aload_n (i := 1) (pc' := 141) dX1_copyFrom_140 rfl rfl (.tail _ (.head _)) ?_
      refine r_getR (pc' := 144) dX1_copyFrom_141 rfl fX1_50 rfl (by first | assumption | rfl) (by omega) (by assumption) ?_
      refine r_V1gv (ci := 7) (pc' := 147) dX1_copyFrom_144 rfl lX1_85 rfl (by decide) (Nat.le_of_ble_eq_true rfl) (by first | assumption | rfl) (by omega) (tX7_copyFrom hmar hmar' (by omega)) (fun n144 P144 X144 Y144 e144 le144 => ?_)
      obtain ⟨rfl, rfl, rfl, rfl⟩ := e144
      refine r_eqX ((blk_sub _ b o 10 D_mar).trans (blk_blk X b o 220 hd (fun d j h => h.elim (D_1_lt (by omega)) D_p_lt) (fun d j h => D_m_lt h))) ?_
      refine r_aload_n (i := 0) (pc' := 148) dX1_copyFrom_147 rfl rfl (.head _) ?_
      refine r_getR (pc' := 151) dX1_copyFrom_148 rfl fX1_57 rfl (by first | assumption | rfl) (by omega) (by assumption) ?_
      refine r_aload_n (i := 1) (pc' := 152) dX1_copyFrom_151 rfl rfl (.tail _ (.head _)) ?_
      refine r_getR (pc' := 155) dX1_copyFrom_152 rfl fX1_57 rfl (by first | assumption | rfl) (by omega) (by assumption) ?_
      refine r_V1gv (ci := 5) (pc' := 158) dX1_copyFrom_155 rfl lX1_88 rfl (by decide) (Nat.le_of_ble_eq_true rfl) (by first | assumption | rfl) (by omega) (tX5_copyFrom hfor hfor' (by omega)) (fun n155 P155 X155 Y155 e155 le155 => ?_)
      obtain ⟨rfl, rfl, rfl, rfl⟩ := e155
      refine r_eqX ((blk_sub _ b o 15 D_for).trans (blk_blk X b o 220 hd (fun d j h => h.elim (fun h => h.elim (D_1_lt (by omega)) D_p_lt) D_m_lt) (fun d j h => D_f_lt h))) ?_
      refine r_return dX1_copyFrom_158 rfl ?_
      refine ⟨rfl, rfl, rfl, rfl, ?_⟩
      rw [show i = (xv X o 10).toNat by omega]
      exact blk_congr X b o (fun d j => D_bk_iff)
    · exfalso; omega
  | succ w ih =>
    intro i hk
    have hsz : xv (q_blk X b o (D_1 i)) b 10 = xv X o 10 := by simp only [xv]; exact congrArg _ (blk_in X b o (d := 0) (Or.inl ⟨rfl, Or.inr rfl⟩))
    have hc := hb.c (k := i) (by omega)
    have hco := hb2.c (k := i) (by omega)
    obtain ⟨s0, s1, s2, s3, s4, p6, p7, p8, p9, hnc⟩ := id hc
    obtain ⟨s0', s1', s2', s3', s4', p6', p7', p8', p9', hnc'⟩ := id hco
    have hcb : con b i = b + (20 + 5 * i) := by unfold con; omega
    have hcb2 : con o i = o + (20 + 5 * i) := by unfold con; omega
    have hstep : c_copy (q_blk X b o (D_1 i)) (con b i) (con o i) = q_blk X b o (D_1 (i + 1)) := by
      rw [blk_con, hcb, hcb2, blk_sub, blk_blk X b o 220 hd (fun d j h => D_1_lt (by omega) h) (fun d j h => by omega)]
      exact blk_congr X b o (fun d j => D_1_s)
    refine r_iload_n (i := 2) (pc' := 97) dX1_copyFrom_96 rfl rfl (.tail _ (.tail _ (.head _))) ?_
    refine r_aload_n (i := 0) (pc' := 98) dX1_copyFrom_97 rfl rfl (.head _) ?_
    refine r_getI (pc' := 101) dX1_copyFrom_98 rfl fX1_75 rfl (by first | assumption | rfl) (by omega) ?_
    rw [hsz]
    refine r_icmp_ge (t := 125) (f := 104) dX1_copyFrom_101 (by decide) rfl (by first | omega | exact xv_in _ _ _) (by first | omega | exact xv_in _ _ _) (fun h101 => ?_) (fun h101 => ?_)
    · exfalso; omega
    · refine r_aload_n (i := 0) (pc' := 105) dX1_copyFrom_104 rfl rfl (.head _) ?_
      refine r_getR (pc' := 108) dX1_copyFrom_105 rfl fX1_36 rfl (by first | assumption | rfl) (by omega) (by assumption) ?_
      refine r_iload_n (i := 2) (pc' := 109) dX1_copyFrom_108 rfl rfl (.tail _ (.tail _ (.head _))) ?_
      refine r_aaload (pc' := 110) (v := .ref (g.1 + con b i)) dX1_copyFrom_109 rfl (by first | assumption | rfl) (by decide) (by omega) (by omega) (by omega) (by first | decide | omega) (Int.toNat_natCast _) (hb.r (by omega)) ?_
      refine r_aload_n (i := 1) (pc' := 111) dX1_copyFrom_110 rfl rfl (.tail _ (.head _)) ?_
      refine r_getR (pc' := 114) dX1_copyFrom_111 rfl fX1_36 rfl (by first | assumption | rfl) (by omega) (by assumption) ?_
      refine r_iload_n (i := 2) (pc' := 115) dX1_copyFrom_114 rfl rfl (.tail _ (.tail _ (.head _))) ?_
      refine r_aaload (pc' := 116) (v := .ref (g.1 + con o i)) dX1_copyFrom_115 rfl (by first | assumption | rfl) (by decide) (by omega) (by omega) (by omega) (by first | decide | omega) (Int.toNat_natCast _) (hb2.r (by omega)) ?_
      refine r_V1gv (ci := 4) (pc' := 119) dX1_copyFrom_116 rfl lX1_78 rfl (by decide) (Nat.le_of_ble_eq_true rfl) (by first | assumption | rfl) (by omega) (tX4_copyFrom hc hco (by omega)) (fun n116 P116 X116 Y116 e116 le116 => ?_)
      obtain ⟨rfl, rfl, rfl, rfl⟩ := e116
      rw [hstep]
      refine r_iinc (pc' := 122) dX1_copyFrom_119 rfl rfl (.tail _ (.tail _ (.head _))) (.s1 (.s1 (.here .nil) rfl rfl rfl) rfl rfl rfl) ?_
      refine r_goto (t := 96) dX1_copyFrom_122 (by decide) ?_
      exact ih (i + 1) (by omega)
set_option maxHeartbeats 4000000 in
set_option maxRecDepth 100000 in
theorem tX1_copyFrom {l : Launch} {g : q_G} {n : Nat} {P : q_P} {X : q_X} {Y : q_Y} {b o : Nat} (hb : isBk n P b) (hb2 : isBk n P o) (hO : bOk X o) (hd : b + 220 ≤ o ∨ o + 220 ≤ b) : q_Met l g mX1_copyFrom 2 [.ref (g.1 + b), .ref (g.1 + o)] n P X Y (q_gv (fun n' P' X' Y' => n' = n ∧ P' = P ∧ Y' = Y ∧ X' = q_blk X b o (D_bk (xv X o 10).toNat))) := by
  obtain ⟨b0, b1, b2, b3, q7, q8, q9, q11, q12, q13, hn, hpro, hmar, hfor, hcs⟩ := id hb
  obtain ⟨b0', b1', b2', b3', q7', q8', q9', q11', q12', q13', hn', hpro', hmar', hfor', hcs'⟩ := id hb2
  obtain ⟨o0, o1, o2, o3, o4, o5, o6, o10, oc, op0, opz, opi, om0, omi, olim⟩ := id hO
  have hsp := hpro.1
  have hsm := hmar.1
  have hsf := hfor.1
  refine q_enter (L := [(0, .ref (g.1 + b)), (1, .ref (g.1 + o))]) (by decide) (Nat.le_of_ble_eq_true rfl) rfl ?_
  refine r_eqX (blk_0 X b o) ?_
  refine r_aload_n (i := 0) (pc' := 1) dX1_copyFrom_0 rfl rfl (.head _) ?_
  refine r_aload_n (i := 1) (pc' := 2) dX1_copyFrom_1 rfl rfl (.tail _ (.head _)) ?_
  refine r_getI (pc' := 5) dX1_copyFrom_2 rfl fX1_63 rfl (by first | assumption | rfl) (by omega) ?_
  refine r_putI (pc' := 8) dX1_copyFrom_5 rfl fX1_63 rfl (by first | assumption | rfl) (by omega) rfl rfl ?_
  refine r_eqX (blk_put X b o 220 0 hd (by omega) (fun d j h => by first | exact False.elim h | (simp only [false_or] at h; omega))) ?_
  refine r_aload_n (i := 0) (pc' := 9) dX1_copyFrom_8 rfl rfl (.head _) ?_
  refine r_aload_n (i := 1) (pc' := 10) dX1_copyFrom_9 rfl rfl (.tail _ (.head _)) ?_
  refine r_getI (pc' := 13) dX1_copyFrom_10 rfl fX1_66 rfl (by first | assumption | rfl) (by omega) ?_
  refine r_putI (pc' := 16) dX1_copyFrom_13 rfl fX1_66 rfl (by first | assumption | rfl) (by omega) rfl rfl ?_
  refine r_eqX (blk_put X b o 220 1 hd (by omega) (fun d j h => by first | exact False.elim h | (simp only [false_or] at h; omega))) ?_
  refine r_aload_n (i := 0) (pc' := 17) dX1_copyFrom_16 rfl rfl (.head _) ?_
  refine r_aload_n (i := 1) (pc' := 18) dX1_copyFrom_17 rfl rfl (.tail _ (.head _)) ?_
  refine r_getI (pc' := 21) dX1_copyFrom_18 rfl fX1_9 rfl (by first | assumption | rfl) (by omega) ?_
  refine r_putI (pc' := 24) dX1_copyFrom_21 rfl fX1_9 rfl (by first | assumption | rfl) (by omega) rfl rfl ?_
  refine r_eqX (blk_put X b o 220 2 hd (by omega) (fun d j h => by first | exact False.elim h | (simp only [false_or] at h; omega))) ?_
  refine r_aload_n (i := 0) (pc' := 25) dX1_copyFrom_24 rfl rfl (.head _) ?_
  refine r_aload_n (i := 1) (pc' := 26) dX1_copyFrom_25 rfl rfl (.tail _ (.head _)) ?_
  refine r_getI (pc' := 29) dX1_copyFrom_26 rfl fX1_15 rfl (by first | assumption | rfl) (by omega) ?_
  refine r_putI (pc' := 32) dX1_copyFrom_29 rfl fX1_15 rfl (by first | assumption | rfl) (by omega) rfl rfl ?_
  refine r_eqX (blk_put X b o 220 3 hd (by omega) (fun d j h => by first | exact False.elim h | (simp only [false_or] at h; omega))) ?_
  refine r_aload_n (i := 0) (pc' := 33) dX1_copyFrom_32 rfl rfl (.head _) ?_
  refine r_aload_n (i := 1) (pc' := 34) dX1_copyFrom_33 rfl rfl (.tail _ (.head _)) ?_
  refine r_getI (pc' := 37) dX1_copyFrom_34 rfl fX1_18 rfl (by first | assumption | rfl) (by omega) ?_
  refine r_putI (pc' := 40) dX1_copyFrom_37 rfl fX1_18 rfl (by first | assumption | rfl) (by omega) rfl rfl ?_
  refine r_eqX (blk_put X b o 220 4 hd (by omega) (fun d j h => by first | exact False.elim h | (simp only [false_or] at h; omega))) ?_
  refine r_aload_n (i := 0) (pc' := 41) dX1_copyFrom_40 rfl rfl (.head _) ?_
  refine r_aload_n (i := 1) (pc' := 42) dX1_copyFrom_41 rfl rfl (.tail _ (.head _)) ?_
  refine r_getI (pc' := 45) dX1_copyFrom_42 rfl fX1_21 rfl (by first | assumption | rfl) (by omega) ?_
  refine r_putI (pc' := 48) dX1_copyFrom_45 rfl fX1_21 rfl (by first | assumption | rfl) (by omega) rfl rfl ?_
  refine r_eqX (blk_put X b o 220 5 hd (by omega) (fun d j h => by first | exact False.elim h | (simp only [false_or] at h; omega))) ?_
  refine r_aload_n (i := 0) (pc' := 49) dX1_copyFrom_48 rfl rfl (.head _) ?_
  refine r_aload_n (i := 1) (pc' := 50) dX1_copyFrom_49 rfl rfl (.tail _ (.head _)) ?_
  refine r_getI (pc' := 53) dX1_copyFrom_50 rfl fX1_24 rfl (by first | assumption | rfl) (by omega) ?_
  refine r_putI (pc' := 56) dX1_copyFrom_53 rfl fX1_24 rfl (by first | assumption | rfl) (by omega) rfl rfl ?_
  refine r_eqX (blk_put X b o 220 6 hd (by omega) (fun d j h => by first | exact False.elim h | (simp only [false_or] at h; omega))) ?_
  refine r_aload_n (i := 1) (pc' := 57) dX1_copyFrom_56 rfl rfl (.tail _ (.head _)) ?_
  refine r_getR (pc' := 60) dX1_copyFrom_57 rfl fX1_27 rfl (by first | assumption | rfl) (by omega) (by assumption) ?_
  refine r_iconst (pc' := 61) dX1_copyFrom_60 rfl ?_
  refine r_aload_n (i := 0) (pc' := 62) dX1_copyFrom_61 rfl rfl (.head _) ?_
  refine r_getR (pc' := 65) dX1_copyFrom_62 rfl fX1_27 rfl (by first | assumption | rfl) (by omega) (by assumption) ?_
  refine r_iconst (pc' := 66) dX1_copyFrom_65 rfl ?_
  refine r_bipush (pc' := 68) dX1_copyFrom_66 rfl (by decide) ?_
  refine q_copyW (k := 20) (t0 := 0) (ty := .int) (pc' := 71) dX1_copyFrom_68 rfl lX1_69 sys_nat sys_stat sys_init (by decide) (Nat.le_of_ble_eq_true rfl) (by decide) rfl rfl (by assumption) (by assumption) (by omega) (by omega) (by decide) (fun _ _ => rfl) ?_
  refine r_eqX (blk_cpy X b o 220 1 20 hd (by omega) (fun d j h => by first | exact False.elim h | (simp only [false_or] at h; omega))) ?_
  refine r_aload_n (i := 1) (pc' := 72) dX1_copyFrom_71 rfl rfl (.tail _ (.head _)) ?_
  refine r_getR (pc' := 75) dX1_copyFrom_72 rfl fX1_31 rfl (by first | assumption | rfl) (by omega) (by assumption) ?_
  refine r_iconst (pc' := 76) dX1_copyFrom_75 rfl ?_
  refine r_aload_n (i := 0) (pc' := 77) dX1_copyFrom_76 rfl rfl (.head _) ?_
  refine r_getR (pc' := 80) dX1_copyFrom_77 rfl fX1_31 rfl (by first | assumption | rfl) (by omega) (by assumption) ?_
  refine r_iconst (pc' := 81) dX1_copyFrom_80 rfl ?_
  refine r_bipush (pc' := 83) dX1_copyFrom_81 rfl (by decide) ?_
  refine q_copyW (k := 20) (t0 := 0) (ty := .int) (pc' := 86) dX1_copyFrom_83 rfl lX1_69 sys_nat sys_stat sys_init (by decide) (Nat.le_of_ble_eq_true rfl) (by decide) rfl rfl (by assumption) (by assumption) (by omega) (by omega) (by decide) (fun _ _ => rfl) ?_
  refine r_eqX (blk_cpy X b o 220 2 20 hd (by omega) (fun d j h => by first | exact False.elim h | (simp only [false_or] at h; omega))) ?_
  refine r_aload_n (i := 0) (pc' := 87) dX1_copyFrom_86 rfl rfl (.head _) ?_
  refine r_aload_n (i := 1) (pc' := 88) dX1_copyFrom_87 rfl rfl (.tail _ (.head _)) ?_
  refine r_getI (pc' := 91) dX1_copyFrom_88 rfl fX1_75 rfl (by first | assumption | rfl) (by omega) ?_
  refine r_putI (pc' := 94) dX1_copyFrom_91 rfl fX1_75 rfl (by first | assumption | rfl) (by omega) rfl rfl ?_
  refine r_eqX (blk_put X b o 220 10 hd (by omega) (fun d j h => by first | exact False.elim h | (simp only [false_or] at h; omega))) ?_
  refine r_iconst (pc' := 95) dX1_copyFrom_94 rfl ?_
  refine r_istore_n (i := 2) (pc' := 96) dX1_copyFrom_95 rfl rfl rfl (.s1 (.s1 .nil rfl rfl rfl) rfl rfl rfl) ?_
  refine r_eqX (blk_congr X b o (E := D_1 0) (fun d j => by simp only [D_1, false_or] <;> omega)) ?_
  exact lX1_copyFrom hb hb2 hO hd (xv X o 10).toNat 0 (by omega)
