/-! what is written, there and here -/
def wS (C X : q_X) (m : Int) : Prop := (0 ≤ m ∧ m ≤ 256) ∧ xv C 447 1 = m ∧ xv X 467 26 = m ∧ ∀ j : Nat, (j : Int) < m → xv X 480 j = xv C 448 j
def wO (X X' : q_X) : Prop := ∀ a j, a ≠ 480 → ¬ (a = 467 ∧ j = 26) → X' a j = X a j
theorem wO.rfl {X : q_X} : wO X X := fun _ _ _ _ => Eq.refl _
theorem wO.trans {X X' X2 : q_X} (h : wO X X') (h2 : wO X' X2) : wO X X2 := fun a j a1 a2 => (h2 a j a1 a2).trans (h a j a1 a2)
theorem wO.v {X X' : q_X} (h : wO X X') : xv X' 468 = xv X 468 := by funext j; simp only [xv]; rw [h 468 j (by omega) (by omega)]
theorem wO_up (X : q_X) (j : Nat) (u v : Int32) : wO X (q_up (q_up X 480 j u) 467 26 v) := fun a q a1 a2 => by rw [q_up_ne _ _ (by omega), q_up_ne _ _ (by omega)]
theorem i8_id {c : Int} (h : 0 ≤ c ∧ c < 128) : i8 c = c := by
  unfold i8
  have h1 : (zi c).toInt8.toInt = (zi c).toInt.bmod (2 ^ 8) := by rw [Int32.toInt_toInt8]
  rw [h1, zi_toInt (by omega), Int.bmod_def]
  split <;> omega
theorem wS.add {C X : q_X} {m c : Int} (h : wS C X m) (hm : m < 256) (hc : 0 ≤ c ∧ c < 128) : wS (b_add C 447 256 c) (q_up (q_up X 480 m.toNat (zi (i8 c))) 467 26 (zi (m + 1))) (m + 1) := by
  obtain ⟨h0, h1, h2, h3⟩ := h
  unfold b_add
  rw [h1, if_pos (by omega), i8_id hc, show c % 256 = c by omega]
  refine ⟨by omega, by rw [xv_up_same _ _ _ (by omega)], by rw [xv_up_same _ _ _ (by omega)], fun j hj => ?_⟩
  rw [xv_up_ne (i := 467) _ _ (by omega), xv_up_ne (i := 447) _ _ (by omega)]
  by_cases e : j = m.toNat
  · subst e; rw [xv_up_same X 480 _ (by omega)]; exact (xv_up_same C (447 + 1) _ (by omega)).symm
  · rw [xv_up_ne (i := 480) _ _ (by omega), xv_up_ne (i := 447 + 1) _ _ (by omega)]; exact h3 j (by omega)
set_option maxHeartbeats 4000000 in
set_option maxRecDepth 100000 in
theorem l2X12_writeNumber {l : Launch} {g : q_G} {n : Nat} {P : q_P} {Y : q_Y} (hm : isMod n P) {v be : Int} (hv : 0 ≤ v ∧ v ≤ 999999) (hbe : 0 ≤ be ∧ be < 128) {X0 C0 : q_X} {M : Int} : ∀ (k : Nat) (C X : q_X) (m : Int), k ≤ 6 → m + k + 1 = M → M ≤ 256 → wO X0 X → wS C X m → b_digs C 447 256 v k = C0 → q_Tr l g mX12_writeNumber 1 (q_gv (fun n' P' X' Y' => n' = n ∧ P' = P ∧ Y' = Y ∧ wO X0 X' ∧ wS (b_add (C0) 447 256 be) X' (M))) 18 [(0, .ref (g.1 + 467)), (1, .int (zi v)), (2, .int (zi be)), (3, .int (zi (un k)))] [] n P X Y := by
  obtain ⟨m0, m2, m3, m8, m9, m14, m15, m16, m17, m18, m20, m22, m25, hnm9⟩ := id hm
  intro k
  induction k with
  | zero =>
    intro C X m hk hM h256 ho hS he
    have hu : un 0 = 0 := rfl
    have hS3 := hS.2.2.1
    have hSm := hS.1
    refine r_iload_n (i := 3) (pc' := 19) dX12_writeNumber_18 rfl rfl (.tail _ (.tail _ (.tail _ (.head _)))) ?_
    refine r_if_le (t := 43) (f := 22) dX12_writeNumber_19 (by decide) rfl (by first | omega | exact xv_in _ _ _) (fun h19 => ?_) (fun h19 => ?_)
    · refine r_aload_n (i := 0) (pc' := 44) dX12_writeNumber_43 rfl rfl (.head _) ?_
      refine r_iload_n (i := 2) (pc' := 45) dX12_writeNumber_44 rfl rfl (.tail _ (.tail _ (.head _))) ?_
      refine r_V1gv (ci := 12) (pc' := 48) dX12_writeNumber_45 rfl lX12_390 rfl (by decide) (Nat.le_of_ble_eq_true rfl) (by first | assumption | rfl) (by omega) (tX12_writes hm (c := be) (by omega)) (fun n45 P45 X45 Y45 e45 le45 => ?_)
      obtain ⟨hg1_45, hg2_45, hg3_45, hg4_45⟩ := e45
      have g1_45 := Eq.symm hg1_45
      have g2_45 := Eq.symm hg2_45
      have g3_45 := Eq.symm hg3_45
      have g4_45 := Eq.symm hg4_45
      clear hg1_45 hg2_45 hg3_45 hg4_45
      subst g1_45 g2_45 g3_45 g4_45
      refine r_return dX12_writeNumber_48 rfl ?_
      refine ⟨rfl, rfl, rfl, rfl, ho.trans (wO_up _ _ _ _), ?_⟩
      have hq := hS.add (c := be) (by omega) hbe
      rw [← he, b_digs, hS3, show M = m + 1 by omega]; exact hq
    · exfalso; omega
  | succ k ih =>
    intro C X m hk hM h256 ho hS he
    obtain ⟨u1, u2, u3⟩ := un_b (k := k) (by omega)
    have hS3 := hS.2.2.1
    have hSm := hS.1
    have hq : 0 ≤ v.tdiv (un (k + 1)) ∧ v.tdiv (un (k + 1)) ≤ v := by
      rw [Int.tdiv_eq_ediv_of_nonneg hv.1]
      exact ⟨Int.ediv_nonneg hv.1 (by omega), Int.ediv_le_self _ hv.1⟩
    have ht : 0 ≤ (v.tdiv (un (k + 1))).tmod 10 ∧ (v.tdiv (un (k + 1))).tmod 10 < 10 := by
      rw [Int.tmod_eq_emod_of_nonneg hq.1]; omega
    refine r_iload_n (i := 3) (pc' := 19) dX12_writeNumber_18 rfl rfl (.tail _ (.tail _ (.tail _ (.head _)))) ?_
    refine r_if_le (t := 43) (f := 22) dX12_writeNumber_19 (by decide) rfl (by first | omega | exact xv_in _ _ _) (fun h19 => ?_) (fun h19 => ?_)
    · exfalso; omega
    · refine r_aload_n (i := 0) (pc' := 23) dX12_writeNumber_22 rfl rfl (.head _) ?_
      refine r_bipush (pc' := 25) dX12_writeNumber_23 rfl (by decide) ?_
      refine r_iload_n (i := 1) (pc' := 26) dX12_writeNumber_25 rfl rfl (.tail _ (.head _)) ?_
      refine r_iload_n (i := 3) (pc' := 27) dX12_writeNumber_26 rfl rfl (.tail _ (.tail _ (.tail _ (.head _)))) ?_
      refine r_idiv (pc' := 28) dX12_writeNumber_27 rfl (by first | omega | exact xv_in _ _ _) (by first | omega | exact xv_in _ _ _) (by omega) ?_
      refine r_bipush (pc' := 30) dX12_writeNumber_28 rfl (by decide) ?_
      refine r_irem (pc' := 31) dX12_writeNumber_30 rfl (by first | omega | exact xv_in _ _ _) (by first | omega | exact xv_in _ _ _) (by omega) ?_
      refine r_iadd (pc' := 32) dX12_writeNumber_31 rfl ?_
      refine r_V1gv (ci := 12) (pc' := 35) dX12_writeNumber_32 rfl lX12_390 rfl (by decide) (Nat.le_of_ble_eq_true rfl) (by first | assumption | rfl) (by omega) (tX12_writes hm (c := 48 + (v.tdiv (un (k + 1))).tmod 10) (by omega)) (fun n32 P32 X32 Y32 e32 le32 => ?_)
      obtain ⟨hg1_32, hg2_32, hg3_32, hg4_32⟩ := e32
      have g1_32 := Eq.symm hg1_32
      have g2_32 := Eq.symm hg2_32
      have g3_32 := Eq.symm hg3_32
      have g4_32 := Eq.symm hg4_32
      clear hg1_32 hg2_32 hg3_32 hg4_32
      subst g1_32 g2_32 g3_32 g4_32
      refine r_iload_n (i := 3) (pc' := 36) dX12_writeNumber_35 rfl rfl (.tail _ (.tail _ (.tail _ (.head _)))) ?_
      refine r_bipush (pc' := 38) dX12_writeNumber_36 rfl (by decide) ?_
      refine r_idiv (pc' := 39) dX12_writeNumber_38 rfl (by first | omega | exact xv_in _ _ _) (by first | omega | exact xv_in _ _ _) (by omega) ?_
      refine r_istore_n (i := 3) (pc' := 40) dX12_writeNumber_39 rfl rfl rfl (.s1 (.s1 (.s1 (.here .nil) rfl rfl rfl) rfl rfl rfl) rfl rfl rfl) ?_
      refine r_goto (t := 18) dX12_writeNumber_40 (by decide) ?_
      rw [u3, hS3]
      exact ih _ _ (m + 1) (by omega) (by omega) h256 (ho.trans (wO_up _ _ _ _)) (hS.add (by omega) (by omega)) he
set_option maxHeartbeats 4000000 in
set_option maxRecDepth 100000 in
theorem n5X12_writeNumber {l : Launch} {g : q_G} {n : Nat} {P : q_P} {Y : q_Y} {X : q_X} (hm : isMod n P) {v be : Int} (hv : 0 ≤ v ∧ v ≤ 999999) (hu : 100000 ≤ v) (hbe : 0 ≤ be ∧ be < 128) {C : q_X} {m : Int} (hS : wS C X m) (hM : m + nd v + 1 ≤ 256) : q_Tr l g mX12_writeNumber 1 (q_gv (fun n' P' X' Y' => n' = n ∧ P' = P ∧ Y' = Y ∧ wO X X' ∧ wS (b_add (b_num C 447 256 v) 447 256 be) X' (m + nd v + 1))) 2 [(0, .ref (g.1 + 467)), (1, .int (zi v)), (2, .int (zi be)), (3, .int (zi (100000)))] [] n P X Y := by
  obtain ⟨m0, m2, m3, m8, m9, m14, m15, m16, m17, m18, m20, m22, m25, hnm9⟩ := id hm
  refine r_iload_n (i := 1) (pc' := 3) dX12_writeNumber_2 rfl rfl (.tail _ (.head _)) ?_
  refine r_iload_n (i := 3) (pc' := 4) dX12_writeNumber_3 rfl rfl (.tail _ (.tail _ (.tail _ (.head _)))) ?_
  refine r_idiv (pc' := 5) dX12_writeNumber_4 rfl (by first | omega | exact xv_in _ _ _) (by first | omega | exact xv_in _ _ _) (by omega) ?_
  rw [Int.tdiv_eq_ediv_of_nonneg (by omega)]
  refine r_bipush (pc' := 7) dX12_writeNumber_5 rfl (by decide) ?_
  refine r_icmp_le (t := 18) (f := 10) dX12_writeNumber_7 (by decide) rfl (by first | omega | exact xv_in _ _ _) (by first | omega | exact xv_in _ _ _) (fun h7 => ?_) (fun h7 => ?_)
  · have hnd : nd v = 6 := by unfold nd; (repeat' split) <;> omega
    rw [show (100000 : Int) = un 6 from by decide]
    exact l2X12_writeNumber hm hv hbe 6 C _ m (by omega) (by rw [hnd] <;> rfl) hM wO.rfl hS (by rw [b_num, hnd])
  · exfalso; omega
set_option maxHeartbeats 4000000 in
set_option maxRecDepth 100000 in
theorem n4X12_writeNumber {l : Launch} {g : q_G} {n : Nat} {P : q_P} {Y : q_Y} {X : q_X} (hm : isMod n P) {v be : Int} (hv : 0 ≤ v ∧ v ≤ 999999) (hu : 10000 ≤ v) (hbe : 0 ≤ be ∧ be < 128) {C : q_X} {m : Int} (hS : wS C X m) (hM : m + nd v + 1 ≤ 256) : q_Tr l g mX12_writeNumber 1 (q_gv (fun n' P' X' Y' => n' = n ∧ P' = P ∧ Y' = Y ∧ wO X X' ∧ wS (b_add (b_num C 447 256 v) 447 256 be) X' (m + nd v + 1))) 2 [(0, .ref (g.1 + 467)), (1, .int (zi v)), (2, .int (zi be)), (3, .int (zi (10000)))] [] n P X Y := by
  obtain ⟨m0, m2, m3, m8, m9, m14, m15, m16, m17, m18, m20, m22, m25, hnm9⟩ := id hm
  refine r_iload_n (i := 1) (pc' := 3) dX12_writeNumber_2 rfl rfl (.tail _ (.head _)) ?_
  refine r_iload_n (i := 3) (pc' := 4) dX12_writeNumber_3 rfl rfl (.tail _ (.tail _ (.tail _ (.head _)))) ?_
  refine r_idiv (pc' := 5) dX12_writeNumber_4 rfl (by first | omega | exact xv_in _ _ _) (by first | omega | exact xv_in _ _ _) (by omega) ?_
  rw [Int.tdiv_eq_ediv_of_nonneg (by omega)]
  refine r_bipush (pc' := 7) dX12_writeNumber_5 rfl (by decide) ?_
  refine r_icmp_le (t := 18) (f := 10) dX12_writeNumber_7 (by decide) rfl (by first | omega | exact xv_in _ _ _) (by first | omega | exact xv_in _ _ _) (fun h7 => ?_) (fun h7 => ?_)
  · have hnd : nd v = 5 := by unfold nd; (repeat' split) <;> omega
    rw [show (10000 : Int) = un 5 from by decide]
    exact l2X12_writeNumber hm hv hbe 5 C _ m (by omega) (by rw [hnd] <;> rfl) hM wO.rfl hS (by rw [b_num, hnd])
  · refine r_iload_n (i := 3) (pc' := 11) dX12_writeNumber_10 rfl rfl (.tail _ (.tail _ (.tail _ (.head _)))) ?_
    refine r_bipush (pc' := 13) dX12_writeNumber_11 rfl (by decide) ?_
    refine r_imul (pc' := 14) dX12_writeNumber_13 rfl ?_
    refine r_istore_n (i := 3) (pc' := 15) dX12_writeNumber_14 rfl rfl rfl (.s1 (.s1 (.s1 (.here .nil) rfl rfl rfl) rfl rfl rfl) rfl rfl rfl) ?_
    refine r_goto (t := 2) dX12_writeNumber_15 (by decide) ?_
    rw [show (10000 : Int) * 10 = 100000 from by decide]
    exact n5X12_writeNumber hm hv (by omega) hbe hS hM
set_option maxHeartbeats 4000000 in
set_option maxRecDepth 100000 in
theorem n3X12_writeNumber {l : Launch} {g : q_G} {n : Nat} {P : q_P} {Y : q_Y} {X : q_X} (hm : isMod n P) {v be : Int} (hv : 0 ≤ v ∧ v ≤ 999999) (hu : 1000 ≤ v) (hbe : 0 ≤ be ∧ be < 128) {C : q_X} {m : Int} (hS : wS C X m) (hM : m + nd v + 1 ≤ 256) : q_Tr l g mX12_writeNumber 1 (q_gv (fun n' P' X' Y' => n' = n ∧ P' = P ∧ Y' = Y ∧ wO X X' ∧ wS (b_add (b_num C 447 256 v) 447 256 be) X' (m + nd v + 1))) 2 [(0, .ref (g.1 + 467)), (1, .int (zi v)), (2, .int (zi be)), (3, .int (zi (1000)))] [] n P X Y := by
  obtain ⟨m0, m2, m3, m8, m9, m14, m15, m16, m17, m18, m20, m22, m25, hnm9⟩ := id hm
  refine r_iload_n (i := 1) (pc' := 3) dX12_writeNumber_2 rfl rfl (.tail _ (.head _)) ?_
  refine r_iload_n (i := 3) (pc' := 4) dX12_writeNumber_3 rfl rfl (.tail _ (.tail _ (.tail _ (.head _)))) ?_
  refine r_idiv (pc' := 5) dX12_writeNumber_4 rfl (by first | omega | exact xv_in _ _ _) (by first | omega | exact xv_in _ _ _) (by omega) ?_
  rw [Int.tdiv_eq_ediv_of_nonneg (by omega)]
  refine r_bipush (pc' := 7) dX12_writeNumber_5 rfl (by decide) ?_
  refine r_icmp_le (t := 18) (f := 10) dX12_writeNumber_7 (by decide) rfl (by first | omega | exact xv_in _ _ _) (by first | omega | exact xv_in _ _ _) (fun h7 => ?_) (fun h7 => ?_)
  · have hnd : nd v = 4 := by unfold nd; (repeat' split) <;> omega
    rw [show (1000 : Int) = un 4 from by decide]
    exact l2X12_writeNumber hm hv hbe 4 C _ m (by omega) (by rw [hnd] <;> rfl) hM wO.rfl hS (by rw [b_num, hnd])
  · refine r_iload_n (i := 3) (pc' := 11) dX12_writeNumber_10 rfl rfl (.tail _ (.tail _ (.tail _ (.head _)))) ?_
    refine r_bipush (pc' := 13) dX12_writeNumber_11 rfl (by decide) ?_
    refine r_imul (pc' := 14) dX12_writeNumber_13 rfl ?_
    refine r_istore_n (i := 3) (pc' := 15) dX12_writeNumber_14 rfl rfl rfl (.s1 (.s1 (.s1 (.here .nil) rfl rfl rfl) rfl rfl rfl) rfl rfl rfl) ?_
    refine r_goto (t := 2) dX12_writeNumber_15 (by decide) ?_
    rw [show (1000 : Int) * 10 = 10000 from by decide]
    exact n4X12_writeNumber hm hv (by omega) hbe hS hM
set_option maxHeartbeats 4000000 in
set_option maxRecDepth 100000 in
theorem n2X12_writeNumber {l : Launch} {g : q_G} {n : Nat} {P : q_P} {Y : q_Y} {X : q_X} (hm : isMod n P) {v be : Int} (hv : 0 ≤ v ∧ v ≤ 999999) (hu : 100 ≤ v) (hbe : 0 ≤ be ∧ be < 128) {C : q_X} {m : Int} (hS : wS C X m) (hM : m + nd v + 1 ≤ 256) : q_Tr l g mX12_writeNumber 1 (q_gv (fun n' P' X' Y' => n' = n ∧ P' = P ∧ Y' = Y ∧ wO X X' ∧ wS (b_add (b_num C 447 256 v) 447 256 be) X' (m + nd v + 1))) 2 [(0, .ref (g.1 + 467)), (1, .int (zi v)), (2, .int (zi be)), (3, .int (zi (100)))] [] n P X Y := by
  obtain ⟨m0, m2, m3, m8, m9, m14, m15, m16, m17, m18, m20, m22, m25, hnm9⟩ := id hm
  refine r_iload_n (i := 1) (pc' := 3) dX12_writeNumber_2 rfl rfl (.tail _ (.head _)) ?_
  refine r_iload_n (i := 3) (pc' := 4) dX12_writeNumber_3 rfl rfl (.tail _ (.tail _ (.tail _ (.head _)))) ?_
  refine r_idiv (pc' := 5) dX12_writeNumber_4 rfl (by first | omega | exact xv_in _ _ _) (by first | omega | exact xv_in _ _ _) (by omega) ?_
  rw [Int.tdiv_eq_ediv_of_nonneg (by omega)]
  refine r_bipush (pc' := 7) dX12_writeNumber_5 rfl (by decide) ?_
  refine r_icmp_le (t := 18) (f := 10) dX12_writeNumber_7 (by decide) rfl (by first | omega | exact xv_in _ _ _) (by first | omega | exact xv_in _ _ _) (fun h7 => ?_) (fun h7 => ?_)
  · have hnd : nd v = 3 := by unfold nd; (repeat' split) <;> omega
    rw [show (100 : Int) = un 3 from by decide]
    exact l2X12_writeNumber hm hv hbe 3 C _ m (by omega) (by rw [hnd] <;> rfl) hM wO.rfl hS (by rw [b_num, hnd])
  · refine r_iload_n (i := 3) (pc' := 11) dX12_writeNumber_10 rfl rfl (.tail _ (.tail _ (.tail _ (.head _)))) ?_
    refine r_bipush (pc' := 13) dX12_writeNumber_11 rfl (by decide) ?_
    refine r_imul (pc' := 14) dX12_writeNumber_13 rfl ?_
    refine r_istore_n (i := 3) (pc' := 15) dX12_writeNumber_14 rfl rfl rfl (.s1 (.s1 (.s1 (.here .nil) rfl rfl rfl) rfl rfl rfl) rfl rfl rfl) ?_
    refine r_goto (t := 2) dX12_writeNumber_15 (by decide) ?_
    rw [show (100 : Int) * 10 = 1000 from by decide]
    exact n3X12_writeNumber hm hv (by omega) hbe hS hM
set_option maxHeartbeats 4000000 in
set_option maxRecDepth 100000 in
theorem n1X12_writeNumber {l : Launch} {g : q_G} {n : Nat} {P : q_P} {Y : q_Y} {X : q_X} (hm : isMod n P) {v be : Int} (hv : 0 ≤ v ∧ v ≤ 999999) (hu : 10 ≤ v) (hbe : 0 ≤ be ∧ be < 128) {C : q_X} {m : Int} (hS : wS C X m) (hM : m + nd v + 1 ≤ 256) : q_Tr l g mX12_writeNumber 1 (q_gv (fun n' P' X' Y' => n' = n ∧ P' = P ∧ Y' = Y ∧ wO X X' ∧ wS (b_add (b_num C 447 256 v) 447 256 be) X' (m + nd v + 1))) 2 [(0, .ref (g.1 + 467)), (1, .int (zi v)), (2, .int (zi be)), (3, .int (zi (10)))] [] n P X Y := by
  obtain ⟨m0, m2, m3, m8, m9, m14, m15, m16, m17, m18, m20, m22, m25, hnm9⟩ := id hm
  refine r_iload_n (i := 1) (pc' := 3) dX12_writeNumber_2 rfl rfl (.tail _ (.head _)) ?_
  refine r_iload_n (i := 3) (pc' := 4) dX12_writeNumber_3 rfl rfl (.tail _ (.tail _ (.tail _ (.head _)))) ?_
  refine r_idiv (pc' := 5) dX12_writeNumber_4 rfl (by first | omega | exact xv_in _ _ _) (by first | omega | exact xv_in _ _ _) (by omega) ?_
  rw [Int.tdiv_eq_ediv_of_nonneg (by omega)]
  refine r_bipush (pc' := 7) dX12_writeNumber_5 rfl (by decide) ?_
  refine r_icmp_le (t := 18) (f := 10) dX12_writeNumber_7 (by decide) rfl (by first | omega | exact xv_in _ _ _) (by first | omega | exact xv_in _ _ _) (fun h7 => ?_) (fun h7 => ?_)
  · have hnd : nd v = 2 := by unfold nd; (repeat' split) <;> omega
    rw [show (10 : Int) = un 2 from by decide]
    exact l2X12_writeNumber hm hv hbe 2 C _ m (by omega) (by rw [hnd] <;> rfl) hM wO.rfl hS (by rw [b_num, hnd])
  · refine r_iload_n (i := 3) (pc' := 11) dX12_writeNumber_10 rfl rfl (.tail _ (.tail _ (.tail _ (.head _)))) ?_
    refine r_bipush (pc' := 13) dX12_writeNumber_11 rfl (by decide) ?_
    refine r_imul (pc' := 14) dX12_writeNumber_13 rfl ?_
    refine r_istore_n (i := 3) (pc' := 15) dX12_writeNumber_14 rfl rfl rfl (.s1 (.s1 (.s1 (.here .nil) rfl rfl rfl) rfl rfl rfl) rfl rfl rfl) ?_
    refine r_goto (t := 2) dX12_writeNumber_15 (by decide) ?_
    rw [show (10 : Int) * 10 = 100 from by decide]
    exact n2X12_writeNumber hm hv (by omega) hbe hS hM
set_option maxHeartbeats 4000000 in
set_option maxRecDepth 100000 in
theorem n0X12_writeNumber {l : Launch} {g : q_G} {n : Nat} {P : q_P} {Y : q_Y} {X : q_X} (hm : isMod n P) {v be : Int} (hv : 0 ≤ v ∧ v ≤ 999999) (hu : 0 ≤ v) (hbe : 0 ≤ be ∧ be < 128) {C : q_X} {m : Int} (hS : wS C X m) (hM : m + nd v + 1 ≤ 256) : q_Tr l g mX12_writeNumber 1 (q_gv (fun n' P' X' Y' => n' = n ∧ P' = P ∧ Y' = Y ∧ wO X X' ∧ wS (b_add (b_num C 447 256 v) 447 256 be) X' (m + nd v + 1))) 2 [(0, .ref (g.1 + 467)), (1, .int (zi v)), (2, .int (zi be)), (3, .int (zi (1)))] [] n P X Y := by
  obtain ⟨m0, m2, m3, m8, m9, m14, m15, m16, m17, m18, m20, m22, m25, hnm9⟩ := id hm
  refine r_iload_n (i := 1) (pc' := 3) dX12_writeNumber_2 rfl rfl (.tail _ (.head _)) ?_
  refine r_iload_n (i := 3) (pc' := 4) dX12_writeNumber_3 rfl rfl (.tail _ (.tail _ (.tail _ (.head _)))) ?_
  refine r_idiv (pc' := 5) dX12_writeNumber_4 rfl (by first | omega | exact xv_in _ _ _) (by first | omega | exact xv_in _ _ _) (by omega) ?_
  rw [Int.tdiv_eq_ediv_of_nonneg (by omega)]
  refine r_bipush (pc' := 7) dX12_writeNumber_5 rfl (by decide) ?_
  refine r_icmp_le (t := 18) (f := 10) dX12_writeNumber_7 (by decide) rfl (by first | omega | exact xv_in _ _ _) (by first | omega | exact xv_in _ _ _) (fun h7 => ?_) (fun h7 => ?_)
  · have hnd : nd v = 1 := by unfold nd; (repeat' split) <;> omega
    rw [show (1 : Int) = un 1 from by decide]
    exact l2X12_writeNumber hm hv hbe 1 C _ m (by omega) (by rw [hnd] <;> rfl) hM wO.rfl hS (by rw [b_num, hnd])
  · refine r_iload_n (i := 3) (pc' := 11) dX12_writeNumber_10 rfl rfl (.tail _ (.tail _ (.tail _ (.head _)))) ?_
    refine r_bipush (pc' := 13) dX12_writeNumber_11 rfl (by decide) ?_
    refine r_imul (pc' := 14) dX12_writeNumber_13 rfl ?_
    refine r_istore_n (i := 3) (pc' := 15) dX12_writeNumber_14 rfl rfl rfl (.s1 (.s1 (.s1 (.here .nil) rfl rfl rfl) rfl rfl rfl) rfl rfl rfl) ?_
    refine r_goto (t := 2) dX12_writeNumber_15 (by decide) ?_
    rw [show (1 : Int) * 10 = 10 from by decide]
    exact n1X12_writeNumber hm hv (by omega) hbe hS hM
set_option maxHeartbeats 4000000 in
set_option maxRecDepth 100000 in
theorem tX12_writeNumber {l : Launch} {g : q_G} {n : Nat} {P : q_P} {X : q_X} {Y : q_Y} (hm : isMod n P) {v be : Int} (hv : 0 ≤ v ∧ v ≤ 999999) (hbe : 0 ≤ be ∧ be < 128) {C : q_X} {m : Int} (hS : wS C X m) (hM : m + nd v + 1 ≤ 256) : q_Met l g mX12_writeNumber 1 [.ref (g.1 + 467), .int (zi v), .int (zi be)] n P X Y (q_gv (fun n' P' X' Y' => n' = n ∧ P' = P ∧ Y' = Y ∧ wO X X' ∧ wS (b_add (b_num C 447 256 v) 447 256 be) X' (m + nd v + 1))) := by
  obtain ⟨m0, m2, m3, m8, m9, m14, m15, m16, m17, m18, m20, m22, m25, hnm9⟩ := id hm
  refine q_enter (L := [(0, .ref (g.1 + 467)), (1, .int (zi v)), (2, .int (zi be))]) (by decide) (Nat.le_of_ble_eq_true rfl) rfl ?_
  refine r_iconst (pc' := 1) dX12_writeNumber_0 rfl ?_
  refine r_istore_n (i := 3) (pc' := 2) dX12_writeNumber_1 rfl rfl rfl (.s1 (.s1 (.s1 .nil rfl rfl rfl) rfl rfl rfl) rfl rfl rfl) ?_
  exact n0X12_writeNumber hm hv (by omega) hbe hS hM
theorem nd_b {v : Int} : 1 ≤ nd v ∧ nd v ≤ 6 ∧ (v < 10 → nd v ≤ 1) ∧ (v < 100 → nd v ≤ 2) ∧ (v < 1000 → nd v ≤ 3) ∧ (v < 10000 → nd v ≤ 4) := by unfold nd; (repeat' split) <;> omega
set_option maxHeartbeats 4000000 in
set_option maxRecDepth 100000 in
theorem tX12_octet {l : Launch} {g : q_G} {n : Nat} {P : q_P} {X : q_X} {Y : q_Y} (hm : isMod n P) (hl : 0 ≤ xv X 467 26 ∧ xv X 467 26 ≤ 256) {k : Int} (hk : q_in k) : q_Met l g mX12_octet 1 [.ref (g.1 + 467), .int (zi k)] n P X Y (q_pv (.int (zi (if 0 ≤ k ∧ k < xv X 467 26 then xv X 480 k.toNat else -1))) n P X Y) := by
  obtain ⟨m0, m2, m3, m8, m9, m14, m15, m16, m17, m18, m20, m22, m25, hnm9⟩ := id hm
  refine q_enter (L := [(0, .ref (g.1 + 467)), (1, .int (zi k))]) (by decide) (Nat.le_of_ble_eq_true rfl) rfl ?_
  refine r_iload_n (i := 1) (pc' := 1) dX12_octet_0 rfl rfl (.tail _ (.head _)) ?_
  refine r_i2l (pc' := 2) dX12_octet_1 rfl rfl ?_
  refine r_lconst (pc' := 3) (z := 0) dX12_octet_2 rfl rfl ?_
  refine r_aload_n (i := 0) (pc' := 4) dX12_octet_3 rfl rfl (.head _) ?_
  refine r_getI (pc' := 7) dX12_octet_4 rfl fX12_387 rfl (by first | assumption | rfl) (by omega) ?_
  refine r_iconst (pc' := 8) dX12_octet_7 rfl ?_
  refine r_isub (pc' := 9) dX12_octet_8 rfl ?_
  refine r_i2l (pc' := 10) dX12_octet_9 rfl rfl ?_
  refine r_S3p (pc' := 13) dX12_octet_10 rfl lX12_68 (by decide) (Nat.le_of_ble_eq_true rfl) (tX12_isIn (by first | exact li_z (by omega) | exact li_z (xv_in _ _ _) | rfl) (by first | exact li_z (by omega) | exact li_z (xv_in _ _ _) | rfl) (by first | exact li_z (by omega) | exact li_z (xv_in _ _ _) | rfl)) ?_
  try simp only [i64_0, i64_1, i64_2, i64_3, i64_4, i64_5, i64_6, i64_7, i64_10, i64_19, i64_40, i64_100, i64_364, i64_9999, i64_99999, i64_999999, i64_m999999]
  refine r_bif_eq (t := 25) (f := 16) dX12_octet_13 (by decide) rfl (fun h13 => ?_) (fun h13 => ?_)
  · refine r_iconst (pc' := 26) dX12_octet_25 rfl ?_
    refine r_ireturn dX12_octet_26 rfl ?_
    refine ⟨?_, rfl, rfl, rfl, rfl⟩
    (repeat' split) <;> first | rfl | (exfalso; omega) | (congr 3; omega)
  · refine r_aload_n (i := 0) (pc' := 17) dX12_octet_16 rfl rfl (.head _) ?_
    refine r_getR (pc' := 20) dX12_octet_17 rfl fX12_57 rfl (by first | assumption | rfl) (by omega) (by assumption) ?_
    refine r_iload_n (i := 1) (pc' := 21) dX12_octet_20 rfl rfl (.tail _ (.head _)) ?_
    refine r_baload (pc' := 22) dX12_octet_21 rfl (by first | assumption | rfl) (by omega) (by omega) (by omega) (by first | decide | omega) rfl ?_
    refine r_goto (t := 26) dX12_octet_22 (by decide) ?_
    refine r_ireturn dX12_octet_26 rfl ?_
    refine ⟨?_, rfl, rfl, rfl, rfl⟩
    (repeat' split) <;> first | rfl | (exfalso; omega) | (congr 3; omega)
