/-! reading items into the books d -/
def rOk (X : q_X) : Prop := 0 ≤ xv X 444 1 ∧ xv X 444 1 ≤ xv X 445 1 ∧ xv X 445 1 ≤ 500
theorem p_dig_le {t : Int → Int} {s : Int} (h : ∀ a, isDig (t a) → a < s) : ∀ (k : Nat) (a v : Int), a ≤ s → (p_dig t k a v).1 ≤ s
  | 0, a, v, ha => ha
  | k + 1, a, v, ha => by
    rw [p_dig]; split
    · rename_i hd
      have := h a hd
      exact p_dig_le h k _ _ (by omega)
    · exact ha
theorem rd_lt {X : q_X} {a : Int} (h : rd X a ≠ -1) : a < xv X 445 1 ∧ 0 ≤ a := by
  unfold rd b_at at h
  split at h
  · omega
  · exact absurd rfl h
theorem rd_num_o {X : q_X} {lo hi : Int} {i : Nat} (h : i ≠ 444) : xv (rd_numX X lo hi) i = xv X i := by
  unfold rd_numX; (repeat' split) <;> simp (disch := omega) only [xv_up_row]
theorem rd_exp_o {X : q_X} {c : Int} {i : Nat} (h : i ≠ 444) : xv (rd_exp X c) i = xv X i := by
  unfold rd_exp; (repeat' split) <;> simp (disch := omega) only [xv_up_row]
theorem rd_fail_o {X : q_X} {c : Int} {i : Nat} (h : i ≠ 444) : xv (rd_fail X c) i = xv X i := by
  unfold rd_fail; (repeat' split) <;> simp (disch := omega) only [xv_up_row]
theorem rd_skip_o {X : q_X} {i : Nat} (h : i ≠ 444) : xv (rd_skip X) i = xv X i := by
  unfold rd_skip; (repeat' split) <;> simp (disch := omega) only [xv_up_row]
theorem rOk.num {X : q_X} (h : rOk X) (lo hi : Int) : rOk (rd_numX X lo hi) := by
  have e := rd_num_o (X := X) (lo := lo) (hi := hi) (i := 445) (by omega)
  have h6 := p_dig_6 (rd X) (xv X 444 1)
  have hl := p_dig_le (t := rd X) (s := xv X 445 1) (fun a ha => (rd_lt (by omega)).1) 6 (xv X 444 1) 0 h.2.1
  obtain ⟨h1, h2, h3⟩ := h
  unfold rOk
  rw [e]
  unfold rd_numX
  (repeat' split) <;> (try simp (disch := omega) only [xv_up_ne, xv_up_same]) <;> omega
theorem rOk.exp {X : q_X} (h : rOk X) {c : Int} (hc : c ≠ -1) : rOk (rd_exp X c) := by
  have e := rd_exp_o (X := X) (c := c) (i := 445) (by omega)
  obtain ⟨h1, h2, h3⟩ := h
  unfold rOk
  rw [e]
  unfold rd_exp
  split
  · split
    · rename_i hx
      have := rd_lt (X := X) (a := xv X 444 1) (by omega)
      rw [xv_up_same _ _ _ (by omega)]; omega
    · rw [xv_up_ne _ _ (by omega)]; omega
  · omega
theorem rOk.fail {X : q_X} (h : rOk X) (a : Int) : rOk (rd_fail X a) := by
  have e := rd_fail_o (X := X) (c := a) (i := 445) (by omega)
  obtain ⟨h1, h2, h3⟩ := h
  unfold rOk; rw [e]; unfold rd_fail
  split
  · rw [xv_up_ne _ _ (by omega)]; omega
  · omega
theorem rOk.skip {X : q_X} (h : rOk X) (hl : xv X 444 1 < xv X 445 1) : rOk (rd_skip X) := by
  have e := rd_skip_o (X := X) (i := 445) (by omega)
  obtain ⟨h1, h2, h3⟩ := h
  unfold rOk; rw [e]; unfold rd_skip
  split
  · rw [xv_up_same _ _ _ (by omega)]; omega
  · omega
theorem rOk.up {X : q_X} (h : rOk X) {i j : Nat} {v : Int32} (hi : i < 444 ∨ 445 < i) : rOk (q_up X i j v) := by
  unfold rOk at h ⊢
  rw [xv_up_ne _ _ (by omega), xv_up_ne _ _ (by omega)]; exact h
theorem rOk.of {X X' : q_X} (h : rOk X) (h1 : xv X' 444 = xv X 444) (h2 : xv X' 445 = xv X 445) : rOk X' := by
  unfold rOk at h ⊢; rw [h1, h2]; exact h
theorem rd_numV_b {X : q_X} {lo hi : Int} (h : 0 ≤ hi) : 0 ≤ rd_numV X lo hi ∧ rd_numV X lo hi ≤ hi := by
  have h6 := p_dig_6 (rd X) (xv X 444 1)
  unfold rd_numV; split <;> omega
/-- a number and a comma -/
def rdN (X : q_X) (lo hi : Int) : q_X := rd_exp (rd_numX X lo hi) 44
theorem rdN_o {X : q_X} {lo hi : Int} {i : Nat} (h : i ≠ 444) : xv (rdN X lo hi) i = xv X i := by rw [rdN, rd_exp_o h, rd_num_o h]
theorem rOk.N {X : q_X} (h : rOk X) (lo hi : Int) : rOk (rdN X lo hi) := (h.num lo hi).exp (by omega)
def rdLim (X : q_X) (d : Nat) : q_X := q_up (rd_numX (rdN X 0 19) 0 999999) (d + 1) (rd_numV X 0 19).toNat (zi (rd_numV (rdN X 0 19) 0 999999))
def rdDa1 (X : q_X) (d : Nat) : q_X := q_up (rdN X 0 364) d 2 (zi (rd_numV X 0 364))
def rdDa2 (X : q_X) (d : Nat) : q_X := q_up (rdN X 0 364) d 3 (zi (rd_numV X 0 364))
def rdDa3 (X : q_X) (d : Nat) : q_X := q_up (rd_numX X 0 364) d 4 (zi (rd_numV X 0 364))
def rdDays (X : q_X) (d : Nat) : q_X := rdDa3 (rdDa2 (rdDa1 X d) d) d
def rdCnt (X : q_X) (d : Nat) : q_X := q_up (rd_numX X 1 40) d 5 (zi (rd_numV X 1 40))
def rdLea (X : q_X) (d : Nat) : q_X := q_up (rd_numX X 0 9999) d 6 (zi (rd_numV X 0 9999))
def rdf (X : q_X) (d : Nat) : Int := rd_numV X (xv X d 0) 19
def rd1 (X : q_X) (d : Nat) : q_X := rdN X (xv X d 0) 19
def rdy (X : q_X) (d : Nat) : Int := rd_numV (rd1 X d) 1 (min 6 (20 - rdf X d))
def rd2 (X : q_X) (d : Nat) : q_X := rdN (rd1 X d) 1 (min 6 (20 - rdf X d))
def rdv (X : q_X) (d : Nat) : Int := rd_numV (rd2 X d) 0 (min 4 (20 - rdf X d - rdy X d))
def rd3 (X : q_X) (d : Nat) : q_X := rdN (rd2 X d) 0 (min 4 (20 - rdf X d - rdy X d))
def rdb (X : q_X) (d : Nat) : Int := rd_numV (rd3 X d) 0 99999
def rd4 (X : q_X) (d : Nat) : q_X := rdN (rd3 X d) 0 99999
def rds (X : q_X) (d : Nat) : Int := rd_numV (rd4 X d) 0 100
def rd5 (X : q_X) (d : Nat) : q_X := rd_numX (rd4 X d) 0 100
abbrev rdc (X : q_X) (d : Nat) : Nat := con d (xv X d 10).toNat
def rd6 (X : q_X) (d : Nat) : q_X := q_up (rd5 X d) d 10 (zi (xv X d 10 + 1))
def rd7 (X : q_X) (d : Nat) : q_X := c_start (rd6 X d) (rdc X d) (rdf X d) (rdy X d) (rdv X d) (rds X d)
def rd8 (X : q_X) (d : Nat) : q_X := c_spread (rd7 X d) (rdc X d) (rdf X d) (rdb X d)
/-- one year's pay -/
def rdPay (X : q_X) (d c i : Nat) : q_X := c_put (rd_numX (rdN (rd_exp X 58) (xv X d 6) 99999) 0 99999) c i (rd_numV (rd_exp X 58) (xv X d 6) 99999) (rd_numV (rdN (rd_exp X 58) (xv X d 6) 99999) 0 99999)
def rdPays (X : q_X) (d c : Nat) : Nat → q_X
  | 0 => X
  | i + 1 => rdPay (rdPays X d c i) d c i
def rdCon (X : q_X) (d : Nat) : q_X := if xv (rd5 X d) 444 2 = -1 then rdPays (rd8 X d) d (rdc X d) (rdy X d).toNat else rd6 X d
def rdItem (X : q_X) (d : Nat) : q_X := if rd X (xv X 444 1) = 112 ∧ 40 ≤ xv X d 10 then rd_fail X (xv X 444 1) else if rd X (xv X 444 1) = 108 then rdLim (rd_skip X) d else if rd X (xv X 444 1) = 100 then rdDays (rd_skip X) d else if rd X (xv X 444 1) = 99 then rdCnt (rd_skip X) d else if rd X (xv X 444 1) = 109 then rdLea (rd_skip X) d else if rd X (xv X 444 1) = 112 then rdCon (rd_skip X) d else rd_fail X (xv X 444 1)
abbrev rMore (X : q_X) : Prop := xv X 444 2 = -1 ∧ xv X 444 1 < xv X 445 1
def rdIts (d : Nat) : Nat → q_X → Int → q_X × Int
  | 0, X, it => (X, it)
  | w + 1, X, it => if rMore X then rdIts d w (rd_exp (rdItem X d) 59) (it + 1) else (X, it)
/-- what reading keeps of the books -/
def dOk (X : q_X) (d : Nat) : Prop := (0 ≤ xv X d 0 ∧ xv X d 0 ≤ 19) ∧ (0 ≤ xv X d 6 ∧ xv X d 6 ≤ 9999) ∧ 0 ≤ xv X d 10 ∧ xv X d 10 ≤ 40
theorem dOk.of {X X' : q_X} {d : Nat} (h : dOk X d) (h1 : xv X' d = xv X d) : dOk X' d := by unfold dOk at h ⊢; rw [h1]; exact h
theorem rdPay_o {X : q_X} {d c i a : Nat} (h : a ≠ 444 ∧ a ≠ c + 1 ∧ a ≠ c + 2) : xv (rdPay X d c i) a = xv X a := by
  rw [rdPay, c_put_o _ _ _ _ _ h.2, rd_num_o h.1, rdN_o h.1, rd_exp_o h.1]
theorem rdPays_o {X : q_X} {d c a : Nat} (h : a ≠ 444 ∧ a ≠ c + 1 ∧ a ≠ c + 2) : ∀ i, xv (rdPays X d c i) a = xv X a
  | 0 => rfl
  | i + 1 => by rw [rdPays, rdPay_o h, rdPays_o h i]
theorem rd5_o {X : q_X} {d i : Nat} (h : i ≠ 444) : xv (rd5 X d) i = xv X i := by rw [rd5, rd_num_o h, rd4, rdN_o h, rd3, rdN_o h, rd2, rdN_o h, rd1, rdN_o h]
theorem rdc_b {X : q_X} {d : Nat} : d + 20 ≤ rdc X d := by unfold rdc con; omega
theorem rd8_o {X : q_X} {d i : Nat} (h : i ≠ 444 ∧ i ≠ d ∧ (i < rdc X d ∨ rdc X d + 4 < i)) : xv (rd8 X d) i = xv X i := by
  rw [rd8, c_spread_o _ _ _ _ (by omega), rd7, c_start_o _ _ _ _ _ _ h.2.2, rd6, xv_up_row _ _ _ h.2.1, rd5_o h.1]
theorem rd8_r {X : q_X} {d i : Nat} (h : i = 444 ∨ i = 445) (hd : d < 400 ∨ 481 ≤ d) (hc : (rdc X d < 440 ∨ 481 ≤ rdc X d)) : xv (rd8 X d) i = xv (rd5 X d) i := by
  rw [rd8, c_spread_o _ _ _ _ (by omega), rd7, c_start_o _ _ _ _ _ _ (by omega), rd6, xv_up_row _ _ _ (by omega)]
set_option maxHeartbeats 4000000 in
set_option maxRecDepth 100000 in
theorem tX9_numberAndComma {l : Launch} {g : q_G} {n : Nat} {P : q_P} {X : q_X} {Y : q_Y} {lo hi : Int} (hr : isRd n P) (ho : rOk X) (hlo : q_in lo) (hhi : q_in hi) : q_Met l g mX9_numberAndComma 3 [.ref (g.1 + 444), .int (zi lo), .int (zi hi)] n P X Y (q_gi (fun r' n' P' X' Y' => n' = n ∧ P' = P ∧ Y' = Y ∧ X' = rdN X lo hi ∧ r' = rd_numV X lo hi)) := by
  obtain ⟨r0, r1, hn⟩ := id hr
  have hb := hr.b
  refine q_enter (L := [(0, .ref (g.1 + 444)), (1, .int (zi lo)), (2, .int (zi hi))]) (by decide) (Nat.le_of_ble_eq_true rfl) rfl ?_
  refine r_aload_n (i := 0) (pc' := 1) dX9_numberAndComma_0 rfl rfl (.head _) ?_
  refine r_iload_n (i := 1) (pc' := 2) dX9_numberAndComma_1 rfl rfl (.tail _ (.head _)) ?_
  refine r_iload_n (i := 2) (pc' := 3) dX9_numberAndComma_2 rfl rfl (.tail _ (.tail _ (.head _))) ?_
  refine r_V2gi (ci := 9) (pc' := 6) dX9_numberAndComma_3 rfl lX9_44 rfl (by decide) (Nat.le_of_ble_eq_true rfl) (by first | assumption | rfl) (by omega) (tX9_number hr (by have := ho.1; have := ho.2; omega) hlo hhi) (fun r3 n3 P3 X3 Y3 e3 le3 => ?_)
  obtain ⟨hg1_3, hg2_3, hg3_3, hg4_3, hg5_3⟩ := e3
  have g1_3 := Eq.symm hg1_3
  have g2_3 := Eq.symm hg2_3
  have g3_3 := Eq.symm hg3_3
  have g4_3 := Eq.symm hg4_3
  have g5_3 := Eq.symm hg5_3
  clear hg1_3 hg2_3 hg3_3 hg4_3 hg5_3
  subst g1_3 g2_3 g3_3 g4_3 g5_3
  refine r_istore_n (i := 3) (pc' := 7) dX9_numberAndComma_6 rfl rfl rfl (.s1 (.s1 (.s1 .nil rfl rfl rfl) rfl rfl rfl) rfl rfl rfl) ?_
  refine r_aload_n (i := 0) (pc' := 8) dX9_numberAndComma_7 rfl rfl (.head _) ?_
  refine r_bipush (pc' := 10) dX9_numberAndComma_8 rfl (by decide) ?_
  refine r_V1gv (ci := 9) (pc' := 13) dX9_numberAndComma_10 rfl lX9_48 rfl (by decide) (Nat.le_of_ble_eq_true rfl) (by first | assumption | rfl) (by omega) (tX9_expect hr (by omega)) (fun n10 P10 X10 Y10 e10 le10 => ?_)
  obtain ⟨hg1_10, hg2_10, hg3_10, hg4_10⟩ := e10
  have g1_10 := Eq.symm hg1_10
  have g2_10 := Eq.symm hg2_10
  have g3_10 := Eq.symm hg3_10
  have g4_10 := Eq.symm hg4_10
  clear hg1_10 hg2_10 hg3_10 hg4_10
  subst g1_10 g2_10 g3_10 g4_10
  refine r_iload_n (i := 3) (pc' := 14) dX9_numberAndComma_13 rfl rfl (.tail _ (.tail _ (.tail _ (.head _)))) ?_
  refine r_ireturn dX9_numberAndComma_14 rfl ?_
  exact ⟨_, rfl, rfl, rfl, rfl, rfl, rfl⟩
set_option maxHeartbeats 4000000 in
set_option maxRecDepth 100000 in
theorem tX9_readLimit {l : Launch} {g : q_G} {n : Nat} {P : q_P} {X : q_X} {Y : q_Y} {d : Nat} (hr : isRd n P) (ho : rOk X) (hb : isBk n P d) (hd : dOk X d) (hda : (1 ≤ d ∧ d + 220 ≤ 441) ∨ 481 ≤ d) : q_Met l g mX9_readLimit 4 [.ref (g.1 + 444), .ref (g.1 + d)] n P X Y (q_gv (fun n' P' X' Y' => n' = n ∧ P' = P ∧ Y' = Y ∧ X' = rdLim X d)) := by
  obtain ⟨ho1, ho2, ho3⟩ := id ho
  obtain ⟨d0, d6, d10⟩ := id hd
  obtain ⟨r0, r1, hnr⟩ := id hr
  obtain ⟨b0, b1, b2, b3, q7, q8, q9, q11, q12, q13, hn, hpro, hmar, hfor, hcs⟩ := id hb
  refine q_enter (L := [(0, .ref (g.1 + 444)), (1, .ref (g.1 + d))]) (by decide) (Nat.le_of_ble_eq_true rfl) rfl ?_
  refine r_aload_n (i := 0) (pc' := 1) dX9_readLimit_0 rfl rfl (.head _) ?_
  refine r_iconst (pc' := 2) dX9_readLimit_1 rfl ?_
  refine r_bipush (pc' := 4) dX9_readLimit_2 rfl (by decide) ?_
  refine r_V2gi (ci := 9) (pc' := 7) dX9_readLimit_4 rfl lX9_68 rfl (by decide) (Nat.le_of_ble_eq_true rfl) (by first | assumption | rfl) (by omega) (tX9_numberAndComma hr ho (by omega) (by omega)) (fun r4 n4 P4 X4 Y4 e4 le4 => ?_)
  obtain ⟨hg1_4, hg2_4, hg3_4, hg4_4, hg5_4⟩ := e4
  have g1_4 := Eq.symm hg1_4
  have g2_4 := Eq.symm hg2_4
  have g3_4 := Eq.symm hg3_4
  have g4_4 := Eq.symm hg4_4
  have g5_4 := Eq.symm hg5_4
  clear hg1_4 hg2_4 hg3_4 hg4_4 hg5_4
  subst g1_4 g2_4 g3_4 g4_4 g5_4
  refine r_istore_n (i := 2) (pc' := 8) dX9_readLimit_7 rfl rfl rfl (.s1 (.s1 .nil rfl rfl rfl) rfl rfl rfl) ?_
  have hv1 := rd_numV_b (X := X) (lo := 0) (hi := 19) (by omega)
  refine r_aload_n (i := 0) (pc' := 9) dX9_readLimit_8 rfl rfl (.head _) ?_
  refine r_iconst (pc' := 10) dX9_readLimit_9 rfl ?_
  refine r_ldc (pc' := 12) dX9_readLimit_10 rfl kX9_89 ?_
  refine r_V2gi (ci := 9) (pc' := 15) dX9_readLimit_12 rfl lX9_44 rfl (by decide) (Nat.le_of_ble_eq_true rfl) (by first | assumption | rfl) (by omega) (tX9_number hr (by have := (ho.N 0 19).1; have := (ho.N 0 19).2; omega) (by omega) (by omega)) (fun r12 n12 P12 X12 Y12 e12 le12 => ?_)
  obtain ⟨hg1_12, hg2_12, hg3_12, hg4_12, hg5_12⟩ := e12
  have g1_12 := Eq.symm hg1_12
  have g2_12 := Eq.symm hg2_12
  have g3_12 := Eq.symm hg3_12
  have g4_12 := Eq.symm hg4_12
  have g5_12 := Eq.symm hg5_12
  clear hg1_12 hg2_12 hg3_12 hg4_12 hg5_12
  subst g1_12 g2_12 g3_12 g4_12 g5_12
  refine r_istore_n (i := 3) (pc' := 16) dX9_readLimit_15 rfl rfl rfl (.s1 (.s1 (.s1 .nil rfl rfl rfl) rfl rfl rfl) rfl rfl rfl) ?_
  refine r_iload_n (i := 2) (pc' := 17) dX9_readLimit_16 rfl rfl (.tail _ (.tail _ (.head _))) ?_
  refine r_SN1p (pc' := 20) dX9_readLimit_17 rfl lX9_90 (by decide) (Nat.le_of_ble_eq_true rfl) (tX11_isYear (by first | omega | exact xv_in _ _ _)) ?_
  refine r_bif_eq (t := 30) (f := 23) dX9_readLimit_20 (by decide) rfl (fun h20 => ?_) (fun h20 => ?_)
  · exfalso; omega
  · refine r_aload_n (i := 1) (pc' := 24) dX9_readLimit_23 rfl rfl (.tail _ (.head _)) ?_
    refine r_getR (pc' := 27) dX9_readLimit_24 rfl fX9_93 rfl (by first | assumption | rfl) (by omega) (by assumption) ?_
    refine r_iload_n (i := 2) (pc' := 28) dX9_readLimit_27 rfl rfl (.tail _ (.tail _ (.head _))) ?_
    refine r_iload_n (i := 3) (pc' := 29) dX9_readLimit_28 rfl rfl (.tail _ (.tail _ (.tail _ (.head _)))) ?_
    refine r_iastore (pc' := 30) dX9_readLimit_29 rfl (by first | assumption | rfl) (by omega) (by omega) (by omega) (by first | decide | omega) rfl ?_
    refine r_return dX9_readLimit_30 rfl ?_
    exact ⟨rfl, rfl, rfl, rfl, rfl⟩
set_option maxHeartbeats 4000000 in
set_option maxRecDepth 100000 in
theorem lX9_readContract {l : Launch} {g : q_G} {n : Nat} {P : q_P} {X : q_X} {Y : q_Y} {d c m : Nat} {f yv v bo s : Int} (hyv : yv = (m : Int)) (hr : isRd n P) (ho : rOk X) (hb : isBk n P d) (hc : isCon n P c) (hl : 0 ≤ xv X d 6 ∧ xv X d 6 ≤ 9999) (hm : m ≤ 6) (hcd : c ≠ 444 ∧ c + 1 ≠ 444 ∧ c + 2 ≠ 444 ∧ c + 1 ≠ 445 ∧ c + 2 ≠ 445) (hdc : d ≠ 444 ∧ d ≠ c + 1 ∧ d ≠ c + 2) : ∀ (w i : Nat), i + w = m → rOk (rdPays X d c i) → q_Tr l g mX9_readContract 4 (q_gv (fun n' P' X' Y' => n' = n ∧ P' = P ∧ Y' = Y ∧ X' = rdPays X d c m)) 103 [(0, .ref (g.1 + 444)), (1, .ref (g.1 + d)), (2, .int (zi f)), (3, .int (zi yv)), (4, .int (zi v)), (5, .int (zi bo)), (6, .int (zi s)), (7, .ref (g.1 + c)), (8, .int (zi (i : Int)))] [] n P (rdPays X d c i) Y := by
  obtain ⟨b0, b1, b2, b3, q7, q8, q9, q11, q12, q13, hn, hpro, hmar, hfor, hcs⟩ := id hb
  obtain ⟨r0, r1, hnr⟩ := id hr
  obtain ⟨s0, s1, s2, s3, s4, p6, p7, p8, p9, hnc⟩ := id hc
  subst hyv
  intro w
  induction w with
  | zero =>
    intro i hk ho1
    obtain rfl : i = m := by omega
    refine r_iload (pc' := 105) dX9_readContract_103 rfl (.tail _ (.tail _ (.tail _ (.tail _ (.tail _ (.tail _ (.tail _ (.tail _ (.head _))))))))) ?_
    refine r_iload_n (i := 3) (pc' := 106) dX9_readContract_105 rfl rfl (.tail _ (.tail _ (.tail _ (.head _)))) ?_
    refine r_icmp_ge (t := 149) (f := 109) dX9_readContract_106 (by decide) rfl (by first | omega | exact xv_in _ _ _ | exact rd_in _ _) (by first | omega | exact xv_in _ _ _ | exact rd_in _ _) (fun h106 => ?_) (fun h106 => ?_)
    · refine r_return dX9_readContract_149 rfl ?_
      exact ⟨rfl, rfl, rfl, rfl, rfl⟩
    · exfalso; omega
  | succ w ih =>
    intro i hk ho1
    have hx6 : xv (rd_exp (rdPays X d c i) 58) d 6 = xv (rdPays X d c i) d 6 := by rw [rd_exp_o hdc.1]
    have hy6 : xv (rdPays X d c i) d 6 = xv X d 6 := by rw [rdPays_o (by omega)]
    have ho2 := ho1.exp (c := 58) (by omega)
    have ho3 := ho2.N (xv (rdPays X d c i) d 6) 99999
    have ho4 := ho3.num 0 99999
    have ho5 : rOk (rdPays X d c (i + 1)) := by
      rw [rdPays, rdPay]
      exact ho4.of (c_put_o _ _ _ _ _ (by omega)) (c_put_o _ _ _ _ _ (by omega))
    refine r_iload (pc' := 105) dX9_readContract_103 rfl (.tail _ (.tail _ (.tail _ (.tail _ (.tail _ (.tail _ (.tail _ (.tail _ (.head _))))))))) ?_
    refine r_iload_n (i := 3) (pc' := 106) dX9_readContract_105 rfl rfl (.tail _ (.tail _ (.tail _ (.head _)))) ?_
    refine r_icmp_ge (t := 149) (f := 109) dX9_readContract_106 (by decide) rfl (by first | omega | exact xv_in _ _ _ | exact rd_in _ _) (by first | omega | exact xv_in _ _ _ | exact rd_in _ _) (fun h106 => ?_) (fun h106 => ?_)
    · exfalso; omega
    · refine r_aload_n (i := 0) (pc' := 110) dX9_readContract_109 rfl rfl (.head _) ?_
      refine r_bipush (pc' := 112) dX9_readContract_110 rfl (by decide) ?_
      refine r_V1gv (ci := 9) (pc' := 115) dX9_readContract_112 rfl lX9_48 rfl (by decide) (Nat.le_of_ble_eq_true rfl) (by first | assumption | rfl) (by omega) (tX9_expect hr (by omega)) (fun n112 P112 X112 Y112 e112 le112 => ?_)
      obtain ⟨hg1_112, hg2_112, hg3_112, hg4_112⟩ := e112
      have g1_112 := Eq.symm hg1_112
      have g2_112 := Eq.symm hg2_112
      have g3_112 := Eq.symm hg3_112
      have g4_112 := Eq.symm hg4_112
      clear hg1_112 hg2_112 hg3_112 hg4_112
      subst g1_112 g2_112 g3_112 g4_112
      refine r_aload_n (i := 0) (pc' := 116) dX9_readContract_115 rfl rfl (.head _) ?_
      refine r_aload_n (i := 1) (pc' := 117) dX9_readContract_116 rfl rfl (.tail _ (.head _)) ?_
      refine r_getI (pc' := 120) dX9_readContract_117 rfl fX9_83 rfl (by first | assumption | rfl) (by omega) ?_
      rw [hx6]
      refine r_ldc (pc' := 122) dX9_readContract_120 rfl kX9_105 ?_
      refine r_V2gi (ci := 9) (pc' := 125) dX9_readContract_122 rfl lX9_68 rfl (by decide) (Nat.le_of_ble_eq_true rfl) (by first | assumption | rfl) (by omega) (tX9_numberAndComma hr ho2 (by omega) (by omega)) (fun r122 n122 P122 X122 Y122 e122 le122 => ?_)
      obtain ⟨hg1_122, hg2_122, hg3_122, hg4_122, hg5_122⟩ := e122
      have g1_122 := Eq.symm hg1_122
      have g2_122 := Eq.symm hg2_122
      have g3_122 := Eq.symm hg3_122
      have g4_122 := Eq.symm hg4_122
      have g5_122 := Eq.symm hg5_122
      clear hg1_122 hg2_122 hg3_122 hg4_122 hg5_122
      subst g1_122 g2_122 g3_122 g4_122 g5_122
      refine r_istore (pc' := 127) dX9_readContract_125 rfl rfl (.s1 (.s1 (.s1 (.s1 (.s1 (.s1 (.s1 (.s1 (.s1 .nil rfl rfl rfl) rfl rfl rfl) rfl rfl rfl) rfl rfl rfl) rfl rfl rfl) rfl rfl rfl) rfl rfl rfl) rfl rfl rfl) rfl rfl rfl) ?_
      refine r_aload (pc' := 129) dX9_readContract_127 rfl (.tail _ (.tail _ (.tail _ (.tail _ (.tail _ (.tail _ (.tail _ (.head _)))))))) ?_
      refine r_iload (pc' := 131) dX9_readContract_129 rfl (.tail _ (.tail _ (.tail _ (.tail _ (.tail _ (.tail _ (.tail _ (.tail _ (.head _))))))))) ?_
      refine r_iload (pc' := 133) dX9_readContract_131 rfl (.tail _ (.tail _ (.tail _ (.tail _ (.tail _ (.tail _ (.tail _ (.tail _ (.tail _ (.head _)))))))))) ?_
      refine r_aload_n (i := 0) (pc' := 134) dX9_readContract_133 rfl rfl (.head _) ?_
      refine r_iconst (pc' := 135) dX9_readContract_134 rfl ?_
      refine r_ldc (pc' := 137) dX9_readContract_135 rfl kX9_105 ?_
      refine r_V2gi (ci := 9) (pc' := 140) dX9_readContract_137 rfl lX9_44 rfl (by decide) (Nat.le_of_ble_eq_true rfl) (by first | assumption | rfl) (by omega) (tX9_number hr (by have := (ho3).1; have := (ho3).2; omega) (by omega) (by omega)) (fun r137 n137 P137 X137 Y137 e137 le137 => ?_)
      obtain ⟨hg1_137, hg2_137, hg3_137, hg4_137, hg5_137⟩ := e137
      have g1_137 := Eq.symm hg1_137
      have g2_137 := Eq.symm hg2_137
      have g3_137 := Eq.symm hg3_137
      have g4_137 := Eq.symm hg4_137
      have g5_137 := Eq.symm hg5_137
      clear hg1_137 hg2_137 hg3_137 hg4_137 hg5_137
      subst g1_137 g2_137 g3_137 g4_137 g5_137
      refine r_V3gv (ci := 4) (pc' := 143) dX9_readContract_140 rfl lX9_120 rfl (by decide) (Nat.le_of_ble_eq_true rfl) (by first | assumption | rfl) (by omega) (tX4_putPay hc (by omega)) (fun n140 P140 X140 Y140 e140 le140 => ?_)
      obtain ⟨hg1_140, hg2_140, hg3_140, hg4_140⟩ := e140
      have g1_140 := Eq.symm hg1_140
      have g2_140 := Eq.symm hg2_140
      have g3_140 := Eq.symm hg3_140
      have g4_140 := Eq.symm hg4_140
      clear hg1_140 hg2_140 hg3_140 hg4_140
      subst g1_140 g2_140 g3_140 g4_140
      refine r_iinc (pc' := 146) dX9_readContract_143 rfl rfl (.tail _ (.tail _ (.tail _ (.tail _ (.tail _ (.tail _ (.tail _ (.tail _ (.head _))))))))) (.s1 (.s1 (.s1 (.s1 (.s1 (.s1 (.s1 (.s1 (.here (.s1 .nil rfl rfl rfl)) rfl rfl rfl) rfl rfl rfl) rfl rfl rfl) rfl rfl rfl) rfl rfl rfl) rfl rfl rfl) rfl rfl rfl) rfl rfl rfl) ?_
      refine r_goto (t := 103) dX9_readContract_146 (by decide) ?_
      refine r_sub (.kp (.kp (.kp (.kp (.kp (.kp (.kp (.kp (.kp (.dr .nil)))))))))) ?_
      exact ih (i + 1) (by omega) ho5
set_option maxHeartbeats 4000000 in
set_option maxRecDepth 100000 in
theorem tX9_readContract {l : Launch} {g : q_G} {n : Nat} {P : q_P} {X : q_X} {Y : q_Y} {d : Nat} (hr : isRd n P) (ho : rOk X) (hb : isBk n P d) (hd : dOk X d) (hda : (1 ≤ d ∧ d + 220 ≤ 441) ∨ 481 ≤ d) (h40 : xv X d 10 < 40) : q_Met l g mX9_readContract 4 [.ref (g.1 + 444), .ref (g.1 + d)] n P X Y (q_gv (fun n' P' X' Y' => n' = n ∧ P' = P ∧ Y' = Y ∧ X' = rdCon X d)) := by
  obtain ⟨ho1, ho2, ho3⟩ := id ho
  obtain ⟨d0, d6, d10⟩ := id hd
  obtain ⟨r0, r1, hnr⟩ := id hr
  obtain ⟨b0, b1, b2, b3, q7, q8, q9, q11, q12, q13, hn, hpro, hmar, hfor, hcs⟩ := id hb
  have hcn : isCon n P (rdc X d) := hb.c (by omega)
  obtain ⟨s0, s1, s2, s3, s4, p6, p7, p8, p9, hnc⟩ := id hcn
  refine q_enter (L := [(0, .ref (g.1 + 444)), (1, .ref (g.1 + d))]) (by decide) (Nat.le_of_ble_eq_true rfl) rfl ?_
  refine r_aload_n (i := 0) (pc' := 1) dX9_readContract_0 rfl rfl (.head _) ?_
  refine r_aload_n (i := 1) (pc' := 2) dX9_readContract_1 rfl rfl (.tail _ (.head _)) ?_
  refine r_getI (pc' := 5) dX9_readContract_2 rfl fX9_97 rfl (by first | assumption | rfl) (by omega) ?_
  refine r_bipush (pc' := 7) dX9_readContract_5 rfl (by decide) ?_
  refine r_V2gi (ci := 9) (pc' := 10) dX9_readContract_7 rfl lX9_68 rfl (by decide) (Nat.le_of_ble_eq_true rfl) (by first | assumption | rfl) (by omega) (tX9_numberAndComma hr ho (by omega) (by omega)) (fun r7 n7 P7 X7 Y7 e7 le7 => ?_)
  obtain ⟨hg1_7, hg2_7, hg3_7, hg4_7, hg5_7⟩ := e7
  have g1_7 := Eq.symm hg1_7
  have g2_7 := Eq.symm hg2_7
  have g3_7 := Eq.symm hg3_7
  have g4_7 := Eq.symm hg4_7
  have g5_7 := Eq.symm hg5_7
  clear hg1_7 hg2_7 hg3_7 hg4_7 hg5_7
  subst g1_7 g2_7 g3_7 g4_7 g5_7
  change q_Tr _ _ _ _ _ _ _ (.int (zi (rdf X d)) :: _) _ _ (rd1 X d) _
  have ho1x : rOk (rd1 X d) := ho.N _ _
  have hvf : 0 ≤ rdf X d ∧ rdf X d ≤ 19 := rd_numV_b (by omega)
  refine r_istore_n (i := 2) (pc' := 11) dX9_readContract_10 rfl rfl rfl (.s1 (.s1 .nil rfl rfl rfl) rfl rfl rfl) ?_
  refine r_aload_n (i := 0) (pc' := 12) dX9_readContract_11 rfl rfl (.head _) ?_
  refine r_iconst (pc' := 13) dX9_readContract_12 rfl ?_
  refine r_bipush (pc' := 15) dX9_readContract_13 rfl (by decide) ?_
  refine r_bipush (pc' := 17) dX9_readContract_15 rfl (by decide) ?_
  refine r_iload_n (i := 2) (pc' := 18) dX9_readContract_17 rfl rfl (.tail _ (.tail _ (.head _))) ?_
  refine r_isub (pc' := 19) dX9_readContract_18 rfl ?_
  refine r_min (pc' := 22) dX9_readContract_19 rfl lX9_100 (by decide) (Nat.le_of_ble_eq_true rfl) (by first | omega | exact xv_in _ _ _ | exact rd_in _ _) (by first | omega | exact xv_in _ _ _ | exact rd_in _ _) ?_
  refine r_V2gi (ci := 9) (pc' := 25) dX9_readContract_22 rfl lX9_68 rfl (by decide) (Nat.le_of_ble_eq_true rfl) (by first | assumption | rfl) (by omega) (tX9_numberAndComma hr ho1x (by omega) (by omega)) (fun r22 n22 P22 X22 Y22 e22 le22 => ?_)
  obtain ⟨hg1_22, hg2_22, hg3_22, hg4_22, hg5_22⟩ := e22
  have g1_22 := Eq.symm hg1_22
  have g2_22 := Eq.symm hg2_22
  have g3_22 := Eq.symm hg3_22
  have g4_22 := Eq.symm hg4_22
  have g5_22 := Eq.symm hg5_22
  clear hg1_22 hg2_22 hg3_22 hg4_22 hg5_22
  subst g1_22 g2_22 g3_22 g4_22 g5_22
  change q_Tr _ _ _ _ _ _ _ (.int (zi (rdy X d)) :: _) _ _ (rd2 X d) _
  have ho2x : rOk (rd2 X d) := ho1x.N _ _
  have hvy : 0 ≤ rdy X d ∧ rdy X d ≤ min 6 (20 - rdf X d) := rd_numV_b (by omega)
  refine r_istore_n (i := 3) (pc' := 26) dX9_readContract_25 rfl rfl rfl (.s1 (.s1 (.s1 .nil rfl rfl rfl) rfl rfl rfl) rfl rfl rfl) ?_
  refine r_aload_n (i := 0) (pc' := 27) dX9_readContract_26 rfl rfl (.head _) ?_
  refine r_iconst (pc' := 28) dX9_readContract_27 rfl ?_
  refine r_iconst (pc' := 29) dX9_readContract_28 rfl ?_
  refine r_bipush (pc' := 31) dX9_readContract_29 rfl (by decide) ?_
  refine r_iload_n (i := 2) (pc' := 32) dX9_readContract_31 rfl rfl (.tail _ (.tail _ (.head _))) ?_
  refine r_isub (pc' := 33) dX9_readContract_32 rfl ?_
  refine r_iload_n (i := 3) (pc' := 34) dX9_readContract_33 rfl rfl (.tail _ (.tail _ (.tail _ (.head _)))) ?_
  refine r_isub (pc' := 35) dX9_readContract_34 rfl ?_
  refine r_min (pc' := 38) dX9_readContract_35 rfl lX9_100 (by decide) (Nat.le_of_ble_eq_true rfl) (by first | omega | exact xv_in _ _ _ | exact rd_in _ _) (by first | omega | exact xv_in _ _ _ | exact rd_in _ _) ?_
  refine r_V2gi (ci := 9) (pc' := 41) dX9_readContract_38 rfl lX9_68 rfl (by decide) (Nat.le_of_ble_eq_true rfl) (by first | assumption | rfl) (by omega) (tX9_numberAndComma hr ho2x (by omega) (by omega)) (fun r38 n38 P38 X38 Y38 e38 le38 => ?_)
  obtain ⟨hg1_38, hg2_38, hg3_38, hg4_38, hg5_38⟩ := e38
  have g1_38 := Eq.symm hg1_38
  have g2_38 := Eq.symm hg2_38
  have g3_38 := Eq.symm hg3_38
  have g4_38 := Eq.symm hg4_38
  have g5_38 := Eq.symm hg5_38
  clear hg1_38 hg2_38 hg3_38 hg4_38 hg5_38
  subst g1_38 g2_38 g3_38 g4_38 g5_38
  change q_Tr _ _ _ _ _ _ _ (.int (zi (rdv X d)) :: _) _ _ (rd3 X d) _
  have ho3x : rOk (rd3 X d) := ho2x.N _ _
  have hvv : 0 ≤ rdv X d ∧ rdv X d ≤ min 4 (20 - rdf X d - rdy X d) := rd_numV_b (by omega)
  refine r_istore (pc' := 43) dX9_readContract_41 rfl rfl (.s1 (.s1 (.s1 (.s1 .nil rfl rfl rfl) rfl rfl rfl) rfl rfl rfl) rfl rfl rfl) ?_
  refine r_aload_n (i := 0) (pc' := 44) dX9_readContract_43 rfl rfl (.head _) ?_
  refine r_iconst (pc' := 45) dX9_readContract_44 rfl ?_
  refine r_ldc (pc' := 47) dX9_readContract_45 rfl kX9_105 ?_
  refine r_V2gi (ci := 9) (pc' := 50) dX9_readContract_47 rfl lX9_68 rfl (by decide) (Nat.le_of_ble_eq_true rfl) (by first | assumption | rfl) (by omega) (tX9_numberAndComma hr ho3x (by omega) (by omega)) (fun r47 n47 P47 X47 Y47 e47 le47 => ?_)
  obtain ⟨hg1_47, hg2_47, hg3_47, hg4_47, hg5_47⟩ := e47
  have g1_47 := Eq.symm hg1_47
  have g2_47 := Eq.symm hg2_47
  have g3_47 := Eq.symm hg3_47
  have g4_47 := Eq.symm hg4_47
  have g5_47 := Eq.symm hg5_47
  clear hg1_47 hg2_47 hg3_47 hg4_47 hg5_47
  subst g1_47 g2_47 g3_47 g4_47 g5_47
  change q_Tr _ _ _ _ _ _ _ (.int (zi (rdb X d)) :: _) _ _ (rd4 X d) _
  have ho4x : rOk (rd4 X d) := ho3x.N _ _
  have hvb : 0 ≤ rdb X d ∧ rdb X d ≤ 99999 := rd_numV_b (by omega)
  refine r_istore (pc' := 52) dX9_readContract_50 rfl rfl (.s1 (.s1 (.s1 (.s1 (.s1 .nil rfl rfl rfl) rfl rfl rfl) rfl rfl rfl) rfl rfl rfl) rfl rfl rfl) ?_
  refine r_aload_n (i := 0) (pc' := 53) dX9_readContract_52 rfl rfl (.head _) ?_
  refine r_iconst (pc' := 54) dX9_readContract_53 rfl ?_
  refine r_bipush (pc' := 56) dX9_readContract_54 rfl (by decide) ?_
  refine r_V2gi (ci := 9) (pc' := 59) dX9_readContract_56 rfl lX9_44 rfl (by decide) (Nat.le_of_ble_eq_true rfl) (by first | assumption | rfl) (by omega) (tX9_number hr (by have := (ho4x).1; have := (ho4x).2; omega) (by omega) (by omega)) (fun r56 n56 P56 X56 Y56 e56 le56 => ?_)
  obtain ⟨hg1_56, hg2_56, hg3_56, hg4_56, hg5_56⟩ := e56
  have g1_56 := Eq.symm hg1_56
  have g2_56 := Eq.symm hg2_56
  have g3_56 := Eq.symm hg3_56
  have g4_56 := Eq.symm hg4_56
  have g5_56 := Eq.symm hg5_56
  clear hg1_56 hg2_56 hg3_56 hg4_56 hg5_56
  subst g1_56 g2_56 g3_56 g4_56 g5_56
  change q_Tr _ _ _ _ _ _ _ (.int (zi (rds X d)) :: _) _ _ (rd5 X d) _
  have ho5x : rOk (rd5 X d) := ho4x.num _ _
  have hvs : 0 ≤ rds X d ∧ rds X d ≤ 100 := rd_numV_b (by omega)
  have e5 : xv (rd5 X d) d = xv X d := rd5_o (by omega)
  refine r_istore (pc' := 61) dX9_readContract_59 rfl rfl (.s1 (.s1 (.s1 (.s1 (.s1 (.s1 .nil rfl rfl rfl) rfl rfl rfl) rfl rfl rfl) rfl rfl rfl) rfl rfl rfl) rfl rfl rfl) ?_
  refine r_aload_n (i := 1) (pc' := 62) dX9_readContract_61 rfl rfl (.tail _ (.head _)) ?_
  refine r_V0gr (ci := 1) (pc' := 65) dX9_readContract_62 rfl lX9_106 rfl (by decide) (Nat.le_of_ble_eq_true rfl) (by first | assumption | rfl) (by omega) (tX1_addContract hb (by rw [e5]; omega)) (fun r62 n62 P62 X62 Y62 e62 le62 => ?_)
  obtain ⟨rfl, rfl, rfl, rfl, rfl⟩ := e62
  change q_Tr _ _ _ _ _ _ _ (.ref (g.1 + con d (xv (rd5 X d) d 10).toNat) :: _) _ _ (q_up (rd5 X d) d 10 (zi (xv (rd5 X d) d 10 + 1))) _
  rw [e5]
  change q_Tr _ _ _ _ _ _ _ (.ref (g.1 + rdc X d) :: _) _ _ (rd6 X d) _
  refine r_astore (pc' := 67) dX9_readContract_65 rfl rfl (.s1 (.s1 (.s1 (.s1 (.s1 (.s1 (.s1 .nil rfl rfl rfl) rfl rfl rfl) rfl rfl rfl) rfl rfl rfl) rfl rfl rfl) rfl rfl rfl) rfl rfl rfl) ?_
  refine r_aload_n (i := 0) (pc' := 68) dX9_readContract_67 rfl rfl (.head _) ?_
  refine r_getI (pc' := 71) dX9_readContract_68 rfl fX9_20 rfl (by first | assumption | rfl) (by omega) ?_
  rw [show xv (rd6 X d) 444 2 = xv (rd5 X d) 444 2 from xv_up_ne _ _ (by omega)]
  refine r_iconst (pc' := 72) dX9_readContract_71 rfl ?_
  refine r_icmp_ne (t := 80) (f := 75) dX9_readContract_72 (by decide) rfl (by first | omega | exact xv_in _ _ _ | exact rd_in _ _) (by first | omega | exact xv_in _ _ _ | exact rd_in _ _) (fun h72 => ?_) (fun h72 => ?_)
  · refine r_return dX9_readContract_80 rfl ?_
    refine ⟨rfl, rfl, rfl, rfl, ?_⟩
    rw [rdCon, if_neg (by omega)]
  · refine r_aload (pc' := 77) dX9_readContract_75 rfl (.tail _ (.tail _ (.tail _ (.tail _ (.tail _ (.tail _ (.tail _ (.head _)))))))) ?_
    refine r_ifnonnull (t := 81) dX9_readContract_77 (by decide) ?_
    refine r_aload (pc' := 83) dX9_readContract_81 rfl (.tail _ (.tail _ (.tail _ (.tail _ (.tail _ (.tail _ (.tail _ (.head _)))))))) ?_
    refine r_iload_n (i := 2) (pc' := 84) dX9_readContract_83 rfl rfl (.tail _ (.tail _ (.head _))) ?_
    refine r_iload_n (i := 3) (pc' := 85) dX9_readContract_84 rfl rfl (.tail _ (.tail _ (.tail _ (.head _)))) ?_
    refine r_iload (pc' := 87) dX9_readContract_85 rfl (.tail _ (.tail _ (.tail _ (.tail _ (.head _))))) ?_
    refine r_iload (pc' := 89) dX9_readContract_87 rfl (.tail _ (.tail _ (.tail _ (.tail _ (.tail _ (.tail _ (.head _))))))) ?_
    refine r_V4gv (ci := 4) (pc' := 92) dX9_readContract_89 rfl lX9_110 rfl (by decide) (Nat.le_of_ble_eq_true rfl) s0 (by omega) (tX4_start hcn) (fun n89 P89 X89 Y89 e89 le89 => ?_)
    obtain ⟨hg1_89, hg2_89, hg3_89, hg4_89⟩ := e89
    have g1_89 := Eq.symm hg1_89
    have g2_89 := Eq.symm hg2_89
    have g3_89 := Eq.symm hg3_89
    have g4_89 := Eq.symm hg4_89
    clear hg1_89 hg2_89 hg3_89 hg4_89
    subst g1_89 g2_89 g3_89 g4_89
    change q_Tr _ _ _ _ _ _ _ _ _ _ (rd7 X d) _
    have hst := c_start_c (rd6 X d) (rdc X d) (f := rdf X d) (y := rdy X d) (v := rdv X d) (s := rds X d) (by omega) (by omega) (by omega) (by omega)
    have hl7 : c_last (rd7 X d) (rdc X d) = rdf X d + rdy X d + rdv X d - 1 := by rw [rd7]; simp only [c_last, hst]
    refine r_aload (pc' := 94) dX9_readContract_92 rfl (.tail _ (.tail _ (.tail _ (.tail _ (.tail _ (.tail _ (.tail _ (.head _)))))))) ?_
    refine r_iload_n (i := 2) (pc' := 95) dX9_readContract_94 rfl rfl (.tail _ (.tail _ (.head _))) ?_
    refine r_iload (pc' := 97) dX9_readContract_95 rfl (.tail _ (.tail _ (.tail _ (.tail _ (.tail _ (.head _)))))) ?_
    refine r_V2gv (ci := 4) (pc' := 100) dX9_readContract_97 rfl lX9_116 rfl (by decide) (Nat.le_of_ble_eq_true rfl) s0 (by omega) (tX4_spread hcn (by rw [rd7, hst.1]; omega) (by omega) (by omega) (by rw [hl7]; omega)) (fun n97 P97 X97 Y97 e97 le97 => ?_)
    obtain ⟨hg1_97, hg2_97, hg3_97, hg4_97⟩ := e97
    have g1_97 := Eq.symm hg1_97
    have g2_97 := Eq.symm hg2_97
    have g3_97 := Eq.symm hg3_97
    have g4_97 := Eq.symm hg4_97
    clear hg1_97 hg2_97 hg3_97 hg4_97
    subst g1_97 g2_97 g3_97 g4_97
    change q_Tr _ _ _ _ _ _ _ _ _ _ (rd8 X d) _
    refine r_iconst (pc' := 101) dX9_readContract_100 rfl ?_
    refine r_istore (pc' := 103) dX9_readContract_101 rfl rfl (.s1 (.s1 (.s1 (.s1 (.s1 (.s1 (.s1 (.s1 .nil rfl rfl rfl) rfl rfl rfl) rfl rfl rfl) rfl rfl rfl) rfl rfl rfl) rfl rfl rfl) rfl rfl rfl) rfl rfl rfl) ?_
    have hrc := rdc_b (X := X) (d := d)
    have hcd2 : rdc X d + 5 ≤ d + 220 := by unfold rdc con; omega
    have hrk : rOk (rd8 X d) := ho5x.of (rd8_r (Or.inl rfl) (by omega) (by omega)) (rd8_r (Or.inr rfl) (by omega) (by omega))
    have hd8 : xv (rd8 X d) d 6 = xv X d 6 := by
      rw [rd8, c_spread_o _ _ _ _ (by omega), rd7, c_start_o _ _ _ _ _ _ (by omega), rd6, xv_up_ne _ _ (by omega), e5]
    rw [rdCon, if_pos (by omega)]
    exact lX9_readContract (m := (rdy X d).toNat) (by omega) hr hrk hb hcn (by rw [hd8]; omega) (by omega) (by omega) (by omega) (rdy X d).toNat 0 (by omega) hrk
