/-! the formula at f: reading -/
def fstr (c : Int) : Int := if c = 42 then 2 else if c = 40 then 0 else 1
def fEm (X : q_X) (f : Nat) (t : Int) : q_X := if 0 ≤ xv X f 0 ∧ xv X f 0 < 80 then q_up (q_up X (f + 1) (xv X f 0).toNat (zi t)) f 0 (zi (xv X f 0 + 1)) else X
def fHo (X : q_X) (f : Nat) (c : Int) : q_X := if 0 ≤ xv X f 3 ∧ xv X f 3 < 21 then q_up (q_up X (f + 2) (xv X f 3).toNat (zi c)) f 3 (zi (xv X f 3 + 1)) else X
def fEW (f : Nat) (least : Int) : Nat → q_X → q_X
  | 0, X => X
  | w + 1, X => if least ≤ fstr (xv X (f + 2) w) then fEW f least w (q_up (fEm X f (- xv X (f + 2) w)) f 3 (zi (w : Int))) else X
def fEWa (X : q_X) (f : Nat) (st : Int) : q_X := fEW f (max 1 st) (xv X f 3).toNat X
def fClo (X : q_X) (f : Nat) : q_X := q_up (fEWa X f 0) f 3 (zi (max 0 (xv (fEWa X f 0) f 3 - 1)))
def fThing (X : q_X) (f : Nat) : q_X := if f_plc (rd X (xv X 444 1)) = -1 then fEm (rd_numX X 0 999999) f (rd_numV X 0 999999) else fEm (rd_skip X) f (-1 - f_plc (rd X (xv X 444 1)))
abbrev isOp (c : Int) : Prop := c = 43 ∨ c = 45 ∨ c = 42
def fOper (X : q_X) (f : Nat) : q_X := if isOp (rd X (xv X 444 1)) then fHo (fEWa (rd_skip X) f (fstr (rd X (xv X 444 1)))) f (rd X (xv X 444 1)) else rd_fail X (xv X 444 1)
/-- a step of the reading: store, things, brackets, whether a thing is wanted -/
abbrev fS : Type := q_X × Int × Int × Int
def fStep (f : Nat) (s : fS) : fS :=
  if s.2.2.2 = 0 then (if rd s.1 (xv s.1 444 1) = 41 ∧ 0 < s.2.2.1 then (fClo (rd_skip s.1) f, s.2.1, s.2.2.1 - 1, s.2.2.2) else (fOper s.1 f, s.2.1, s.2.2.1, 1))
  else if 40 ≤ s.2.1 ∨ (rd s.1 (xv s.1 444 1) = 40 ∧ 6 ≤ s.2.2.1) then (rd_fail s.1 (xv s.1 444 1), s.2.1 + 1, s.2.2.1, s.2.2.2)
  else if rd s.1 (xv s.1 444 1) = 40 then (fHo (rd_skip s.1) f 40, s.2.1 + 1, s.2.2.1 + 1, s.2.2.2)
  else (fThing s.1 f, s.2.1 + 1, s.2.2.1, 0)
def fRun (f : Nat) : Nat → fS → fS
  | 0, s => s
  | w + 1, s => if rMore s.1 then fRun f w (fStep f s) else s
def fEnd (f : Nat) (s : fS) : q_X := fEWa (if s.2.2.2 = 0 ∧ s.2.2.1 ≤ 0 then s.1 else rd_fail s.1 (xv s.1 444 1)) f 0
def fIni (X : q_X) (f : Nat) : fS := (q_up (q_up X f 0 (zi 0)) f 3 (zi 0), 0, 0, if rMore (q_up (q_up X f 0 (zi 0)) f 3 (zi 0)) then 1 else 0)
def fAll (X : q_X) (f : Nat) : q_X := fEnd f (fRun f 500 (fIni X f))
def fAllN (X : q_X) (f : Nat) : Int := (fRun f 500 (fIni X f)).2.1
theorem fEm_o {X : q_X} {f : Nat} {t : Int} {i : Nat} (h : i ≠ f ∧ i ≠ f + 1) : xv (fEm X f t) i = xv X i := by
  unfold fEm; split
  · rw [xv_up_row _ _ _ h.1, xv_up_row _ _ _ h.2]
  · rfl
theorem fHo_o {X : q_X} {f : Nat} {t : Int} {i : Nat} (h : i ≠ f ∧ i ≠ f + 2) : xv (fHo X f t) i = xv X i := by
  unfold fHo; split
  · rw [xv_up_row _ _ _ h.1, xv_up_row _ _ _ h.2]
  · rfl
theorem fEW_o {f : Nat} {least : Int} {i : Nat} (h : i ≠ f ∧ i ≠ f + 1) : ∀ (w : Nat) (X : q_X), xv (fEW f least w X) i = xv X i
  | 0, _ => rfl
  | w + 1, X => by
    rw [fEW]; split
    · rw [fEW_o h w, xv_up_row _ _ _ h.1, fEm_o h]
    · rfl
theorem fEWa_o {X : q_X} {f : Nat} {st : Int} {i : Nat} (h : i ≠ f ∧ i ≠ f + 1) : xv (fEWa X f st) i = xv X i := fEW_o h _ _
/-- size and waits in range -/
def fB (X : q_X) (f : Nat) : Prop := (0 ≤ xv X f 0 ∧ xv X f 0 ≤ 80) ∧ 0 ≤ xv X f 3 ∧ xv X f 3 ≤ 21
theorem fB.of {X X' : q_X} {f : Nat} (h : fB X f) (e : xv X' f = xv X f) : fB X' f := by unfold fB at h ⊢; rw [e]; exact h
theorem fEm_3 {X : q_X} {f : Nat} {t : Int} : xv (fEm X f t) f 3 = xv X f 3 := by
  unfold fEm; split
  · rw [xv_up_ne _ _ (by omega), xv_up_ne _ _ (by omega)]
  · rfl
theorem fB.em {X : q_X} {f : Nat} (h : fB X f) (t : Int) : fB (fEm X f t) f := by
  obtain ⟨h1, h2⟩ := h
  refine ⟨?_, by rw [fEm_3]; exact h2⟩
  unfold fEm; split
  · rw [xv_up_same _ _ _ (by omega)]; omega
  · exact h1
theorem fB.ho {X : q_X} {f : Nat} (h : fB X f) (t : Int) : fB (fHo X f t) f := by
  obtain ⟨h1, h2⟩ := h
  unfold fHo; split
  · refine ⟨?_, ?_⟩
    · rw [xv_up_ne _ _ (by omega), xv_up_ne _ _ (by omega)]; exact h1
    · rw [xv_up_same _ _ _ (by omega)]; omega
  · exact ⟨h1, h2⟩
theorem fEW_b {f : Nat} {least : Int} : ∀ (w : Nat) (X : q_X), w ≤ 21 → fB X f → xv X f 3 = (w : Int) → fB (fEW f least w X) f ∧ xv (fEW f least w X) f 3 ≤ w
  | 0, X, _, h, e => ⟨h, by rw [fEW, e]; omega⟩
  | w + 1, X, hw, h, e => by
    rw [fEW]; split
    · have h1 := h.em (- xv X (f + 2) w)
      have e3 : xv (q_up (fEm X f (- xv X (f + 2) w)) f 3 (zi (w : Int))) f 3 = (w : Int) := xv_up_same _ _ _ (by omega)
      have h2 : fB (q_up (fEm X f (- xv X (f + 2) w)) f 3 (zi (w : Int))) f := by
        refine ⟨?_, by rw [e3]; omega⟩
        rw [xv_up_ne _ _ (by omega)]; exact h1.1
      have ih := fEW_b (least := least) w _ (by omega) h2 e3
      exact ⟨ih.1, by omega⟩
    · exact ⟨h, by omega⟩
theorem fB.ew {X : q_X} {f : Nat} (h : fB X f) (st : Int) : fB (fEWa X f st) f ∧ xv (fEWa X f st) f 3 ≤ xv X f 3 := by
  have := fEW_b (least := max 1 st) (xv X f 3).toNat X (by have := h.2; omega) h (by have := h.2; omega)
  exact ⟨this.1, by have := this.2; have := h.2; unfold fEWa; omega⟩
theorem fB.clo {X : q_X} {f : Nat} (h : fB X f) : fB (fClo X f) f := by
  have h1 := (h.ew 0).1
  unfold fClo
  refine ⟨?_, ?_⟩
  · rw [xv_up_ne _ _ (by omega)]; exact h1.1
  · have := h1.2
    rw [xv_up_same _ _ _ (by omega)]; omega
theorem fR {X : q_X} {f : Nat} (hf : f + 5 ≤ 441 ∨ 481 ≤ f) (t : Int) : xv (fEm X f t) 444 = xv X 444 ∧ xv (fEm X f t) 445 = xv X 445 ∧ xv (fHo X f t) 444 = xv X 444 ∧ xv (fHo X f t) 445 = xv X 445 ∧ xv (fEWa X f t) 444 = xv X 444 ∧ xv (fEWa X f t) 445 = xv X 445 ∧ xv (fClo X f) 444 = xv X 444 ∧ xv (fClo X f) 445 = xv X 445 := by
  refine ⟨fEm_o (by omega), fEm_o (by omega), fHo_o (by omega), fHo_o (by omega), fEWa_o (by omega), fEWa_o (by omega), ?_, ?_⟩ <;> (unfold fClo; rw [xv_up_row _ _ _ (by omega)]; exact fEWa_o (by omega))
theorem fStep_b {f : Nat} (hf : f + 5 ≤ 441 ∨ 481 ≤ f) {s : fS} (ho : rOk s.1) (hm : rMore s.1) (hb : fB s.1 f) (ht : 0 ≤ s.2.1) (hw : 0 ≤ s.2.2.1) (ha : s.2.2.2 = 0 ∨ s.2.2.2 = 1) : rOk (fStep f s).1 ∧ fB (fStep f s).1 f ∧ (0 ≤ (fStep f s).2.1 ∧ (fStep f s).2.1 ≤ s.2.1 + 1) ∧ (0 ≤ (fStep f s).2.2.1 ∧ (fStep f s).2.2.1 ≤ s.2.2.1 + 1) ∧ ((fStep f s).2.2.2 = 0 ∨ (fStep f s).2.2.2 = 1) := by
  obtain ⟨X, th, wi, wa⟩ := s
  dsimp only at *
  have hos := ho.skip hm.2
  have hbs : fB (rd_skip X) f := hb.of (rd_skip_o (by omega))
  unfold fStep
  dsimp only
  split
  · split
    · dsimp only
      obtain ⟨-, -, -, -, -, -, r1, r2⟩ := fR (X := rd_skip X) hf 0
      exact ⟨hos.of r1 r2, hbs.clo, ⟨ht, by omega⟩, ⟨by omega, by omega⟩, ha⟩
    · dsimp only
      refine ⟨?_, ?_, ⟨ht, by omega⟩, ⟨hw, by omega⟩, Or.inr rfl⟩
      · unfold fOper; split
        · obtain ⟨-, -, r3, r4, -, -, -, -⟩ := fR (X := fEWa (rd_skip X) f (fstr (rd X (xv X 444 1)))) hf (rd X (xv X 444 1))
          obtain ⟨-, -, -, -, r5, r6, -, -⟩ := fR (X := rd_skip X) hf (fstr (rd X (xv X 444 1)))
          exact hos.of (r3.trans r5) (r4.trans r6)
        · exact ho.fail _
      · unfold fOper; split
        · exact (hbs.ew _).1.ho _
        · exact hb.of (rd_fail_o (by omega))
  · split
    · dsimp only
      exact ⟨ho.fail _, hb.of (rd_fail_o (by omega)), ⟨by omega, by omega⟩, ⟨hw, by omega⟩, ha⟩
    · split
      · dsimp only
        obtain ⟨-, -, r3, r4, -, -, -, -⟩ := fR (X := rd_skip X) hf 40
        exact ⟨hos.of r3 r4, hbs.ho _, ⟨by omega, by omega⟩, ⟨by omega, by omega⟩, ha⟩
      · dsimp only
        refine ⟨?_, ?_, ⟨by omega, by omega⟩, ⟨hw, by omega⟩, Or.inl rfl⟩
        · unfold fThing; split
          · obtain ⟨r1, r2, -⟩ := fR (X := rd_numX X 0 999999) hf (rd_numV X 0 999999)
            exact (ho.num _ _).of r1 r2
          · obtain ⟨r1, r2, -⟩ := fR (X := rd_skip X) hf (-1 - f_plc (rd X (xv X 444 1)))
            exact hos.of r1 r2
        · unfold fThing; split
          · exact (hb.of (X' := rd_numX X 0 999999) (rd_num_o (by omega))).em _
          · exact hbs.em _
theorem f_plc_b (c : Int) : -1 ≤ f_plc c ∧ f_plc c ≤ 5 := by unfold f_plc; (repeat' split) <;> omega
theorem fstr_b (c : Int) : 0 ≤ fstr c ∧ fstr c ≤ 2 := by unfold fstr; (repeat' split) <;> omega
set_option maxHeartbeats 4000000 in
set_option maxRecDepth 100000 in
theorem tX5_strength {l : Launch} {g : q_G} {n : Nat} {P : q_P} {X : q_X} {Y : q_Y} {c : Int} (hc : q_in c) : q_Met l g mX5_strength 0 [.int (zi c)] n P X Y (q_pv (.int (zi (fstr c))) n P X Y) := by
  skip
  refine q_enter (L := [(0, .int (zi c))]) (by decide) (Nat.le_of_ble_eq_true rfl) rfl ?_
  refine r_iload_n (i := 0) (pc' := 1) dX5_strength_0 rfl rfl (.head _) ?_
  refine r_bipush (pc' := 3) dX5_strength_1 rfl (by decide) ?_
  refine r_icmp_ne (t := 8) (f := 6) dX5_strength_3 (by decide) rfl (by first | omega | exact xv_in _ _ _ | exact rd_in _ _) (by first | omega | exact xv_in _ _ _ | exact rd_in _ _) (fun h3 => ?_) (fun h3 => ?_)
  · refine r_iload_n (i := 0) (pc' := 9) dX5_strength_8 rfl rfl (.head _) ?_
    refine r_bipush (pc' := 11) dX5_strength_9 rfl (by decide) ?_
    refine r_icmp_ne (t := 18) (f := 14) dX5_strength_11 (by decide) rfl (by first | omega | exact xv_in _ _ _ | exact rd_in _ _) (by first | omega | exact xv_in _ _ _ | exact rd_in _ _) (fun h11 => ?_) (fun h11 => ?_)
    · refine r_iconst (pc' := 19) dX5_strength_18 rfl ?_
      refine r_ireturn dX5_strength_19 rfl ?_
      refine ⟨?_, rfl, rfl, rfl, rfl⟩
      unfold fstr
      (repeat' split) <;> first | rfl | (exfalso; omega) | (congr 3; omega)
    · refine r_iconst (pc' := 15) dX5_strength_14 rfl ?_
      refine r_goto (t := 19) dX5_strength_15 (by decide) ?_
      refine r_ireturn dX5_strength_19 rfl ?_
      refine ⟨?_, rfl, rfl, rfl, rfl⟩
      unfold fstr
      (repeat' split) <;> first | rfl | (exfalso; omega) | (congr 3; omega)
  · refine r_iconst (pc' := 7) dX5_strength_6 rfl ?_
    refine r_ireturn dX5_strength_7 rfl ?_
    refine ⟨?_, rfl, rfl, rfl, rfl⟩
    unfold fstr
    (repeat' split) <;> first | rfl | (exfalso; omega) | (congr 3; omega)
set_option maxHeartbeats 4000000 in
set_option maxRecDepth 100000 in
theorem tX5_emit {l : Launch} {g : q_G} {n : Nat} {P : q_P} {X : q_X} {Y : q_Y} {t : Int} {f : Nat} (hf : isFor n P f) : q_Met l g mX5_emit 0 [.ref (g.1 + f), .int (zi t)] n P X Y (q_gv (fun n' P' X' Y' => n' = n ∧ P' = P ∧ Y' = Y ∧ X' = fEm X f t)) := by
  obtain ⟨s0, s1, s2, s3, s4, p1, p2, p4, p5, hnf⟩ := id hf
  refine q_enter (L := [(0, .ref (g.1 + f)), (1, .int (zi t))]) (by decide) (Nat.le_of_ble_eq_true rfl) rfl ?_
  refine r_aload_n (i := 0) (pc' := 1) dX5_emit_0 rfl rfl (.head _) ?_
  refine r_getI (pc' := 4) dX5_emit_1 rfl fX5_25 rfl (by first | assumption | rfl) (by omega) ?_
  refine r_if_lt (t := 36) (f := 7) dX5_emit_4 (by decide) rfl (by first | omega | exact xv_in _ _ _ | exact rd_in _ _) (fun h4 => ?_) (fun h4 => ?_)
  · refine r_return dX5_emit_36 rfl ?_
    refine ⟨rfl, rfl, rfl, rfl, ?_⟩
    rw [fEm]
    first | (rw [if_pos (by omega)]; done) | (rw [if_neg (by omega)]; done) | (rw [if_pos (by omega), xv_up_ne _ _ (by omega)]; done)
  · refine r_aload_n (i := 0) (pc' := 8) dX5_emit_7 rfl rfl (.head _) ?_
    refine r_getI (pc' := 11) dX5_emit_8 rfl fX5_25 rfl (by first | assumption | rfl) (by omega) ?_
    refine r_bipush (pc' := 13) dX5_emit_11 rfl (by decide) ?_
    refine r_icmp_ge (t := 36) (f := 16) dX5_emit_13 (by decide) rfl (by first | omega | exact xv_in _ _ _ | exact rd_in _ _) (by first | omega | exact xv_in _ _ _ | exact rd_in _ _) (fun h13 => ?_) (fun h13 => ?_)
    · refine r_return dX5_emit_36 rfl ?_
      refine ⟨rfl, rfl, rfl, rfl, ?_⟩
      rw [fEm]
      first | (rw [if_pos (by omega)]; done) | (rw [if_neg (by omega)]; done) | (rw [if_pos (by omega), xv_up_ne _ _ (by omega)]; done)
    · refine r_aload_n (i := 0) (pc' := 17) dX5_emit_16 rfl rfl (.head _) ?_
      refine r_getR (pc' := 20) dX5_emit_17 rfl fX5_11 rfl (by first | assumption | rfl) (by omega) (by assumption) ?_
      refine r_aload_n (i := 0) (pc' := 21) dX5_emit_20 rfl rfl (.head _) ?_
      refine r_getI (pc' := 24) dX5_emit_21 rfl fX5_25 rfl (by first | assumption | rfl) (by omega) ?_
      refine r_iload_n (i := 1) (pc' := 25) dX5_emit_24 rfl rfl (.tail _ (.head _)) ?_
      refine r_iastore (pc' := 26) dX5_emit_25 rfl (by first | assumption | rfl) (by omega) (by omega) (by omega) (by first | decide | omega) rfl ?_
      refine r_aload_n (i := 0) (pc' := 27) dX5_emit_26 rfl rfl (.head _) ?_
      refine r_dup (pc' := 28) dX5_emit_27 rfl rfl ?_
      refine r_getI (pc' := 31) dX5_emit_28 rfl fX5_25 rfl (by first | assumption | rfl) (by omega) ?_
      rw [xv_up_ne _ _ (by omega)]
      refine r_iconst (pc' := 32) dX5_emit_31 rfl ?_
      refine r_iadd (pc' := 33) dX5_emit_32 rfl ?_
      refine r_putI (pc' := 36) dX5_emit_33 rfl fX5_25 rfl (by first | assumption | rfl) (by omega) rfl rfl ?_
      refine r_return dX5_emit_36 rfl ?_
      refine ⟨rfl, rfl, rfl, rfl, ?_⟩
      rw [fEm]
      first | (rw [if_pos (by omega)]; done) | (rw [if_neg (by omega)]; done) | (rw [if_pos (by omega), xv_up_ne _ _ (by omega)]; done)
set_option maxHeartbeats 4000000 in
set_option maxRecDepth 100000 in
theorem tX5_hold {l : Launch} {g : q_G} {n : Nat} {P : q_P} {X : q_X} {Y : q_Y} {c : Int} {f : Nat} (hf : isFor n P f) : q_Met l g mX5_hold 0 [.ref (g.1 + f), .int (zi c)] n P X Y (q_gv (fun n' P' X' Y' => n' = n ∧ P' = P ∧ Y' = Y ∧ X' = fHo X f c)) := by
  obtain ⟨s0, s1, s2, s3, s4, p1, p2, p4, p5, hnf⟩ := id hf
  refine q_enter (L := [(0, .ref (g.1 + f)), (1, .int (zi c))]) (by decide) (Nat.le_of_ble_eq_true rfl) rfl ?_
  refine r_aload_n (i := 0) (pc' := 1) dX5_hold_0 rfl rfl (.head _) ?_
  refine r_getI (pc' := 4) dX5_hold_1 rfl fX5_35 rfl (by first | assumption | rfl) (by omega) ?_
  refine r_if_lt (t := 36) (f := 7) dX5_hold_4 (by decide) rfl (by first | omega | exact xv_in _ _ _ | exact rd_in _ _) (fun h4 => ?_) (fun h4 => ?_)
  · refine r_return dX5_hold_36 rfl ?_
    refine ⟨rfl, rfl, rfl, rfl, ?_⟩
    rw [fHo]
    first | (rw [if_pos (by omega)]; done) | (rw [if_neg (by omega)]; done) | (rw [if_pos (by omega), xv_up_ne _ _ (by omega)]; done)
  · refine r_aload_n (i := 0) (pc' := 8) dX5_hold_7 rfl rfl (.head _) ?_
    refine r_getI (pc' := 11) dX5_hold_8 rfl fX5_35 rfl (by first | assumption | rfl) (by omega) ?_
    refine r_bipush (pc' := 13) dX5_hold_11 rfl (by decide) ?_
    refine r_icmp_ge (t := 36) (f := 16) dX5_hold_13 (by decide) rfl (by first | omega | exact xv_in _ _ _ | exact rd_in _ _) (by first | omega | exact xv_in _ _ _ | exact rd_in _ _) (fun h13 => ?_) (fun h13 => ?_)
    · refine r_return dX5_hold_36 rfl ?_
      refine ⟨rfl, rfl, rfl, rfl, ?_⟩
      rw [fHo]
      first | (rw [if_pos (by omega)]; done) | (rw [if_neg (by omega)]; done) | (rw [if_pos (by omega), xv_up_ne _ _ (by omega)]; done)
    · refine r_aload_n (i := 0) (pc' := 17) dX5_hold_16 rfl rfl (.head _) ?_
      refine r_getR (pc' := 20) dX5_hold_17 rfl fX5_15 rfl (by first | assumption | rfl) (by omega) (by assumption) ?_
      refine r_aload_n (i := 0) (pc' := 21) dX5_hold_20 rfl rfl (.head _) ?_
      refine r_getI (pc' := 24) dX5_hold_21 rfl fX5_35 rfl (by first | assumption | rfl) (by omega) ?_
      refine r_iload_n (i := 1) (pc' := 25) dX5_hold_24 rfl rfl (.tail _ (.head _)) ?_
      refine r_iastore (pc' := 26) dX5_hold_25 rfl (by first | assumption | rfl) (by omega) (by omega) (by omega) (by first | decide | omega) rfl ?_
      refine r_aload_n (i := 0) (pc' := 27) dX5_hold_26 rfl rfl (.head _) ?_
      refine r_dup (pc' := 28) dX5_hold_27 rfl rfl ?_
      refine r_getI (pc' := 31) dX5_hold_28 rfl fX5_35 rfl (by first | assumption | rfl) (by omega) ?_
      rw [xv_up_ne _ _ (by omega)]
      refine r_iconst (pc' := 32) dX5_hold_31 rfl ?_
      refine r_iadd (pc' := 33) dX5_hold_32 rfl ?_
      refine r_putI (pc' := 36) dX5_hold_33 rfl fX5_35 rfl (by first | assumption | rfl) (by omega) rfl rfl ?_
      refine r_return dX5_hold_36 rfl ?_
      refine ⟨rfl, rfl, rfl, rfl, ?_⟩
      rw [fHo]
      first | (rw [if_pos (by omega)]; done) | (rw [if_neg (by omega)]; done) | (rw [if_pos (by omega), xv_up_ne _ _ (by omega)]; done)
set_option maxHeartbeats 4000000 in
set_option maxRecDepth 100000 in
theorem lX5_emitWaiting {l : Launch} {g : q_G} {n : Nat} {P : q_P} {Y : q_Y} {f : Nat} (hf : isFor n P f) {st least : Int} (hl : q_in least) {X0 : q_X} : ∀ (w : Nat) (X : q_X), w ≤ 21 → fEW f least w X = X0 → q_Tr l g mX5_emitWaiting 1 (q_gv (fun n' P' X' Y' => n' = n ∧ P' = P ∧ Y' = Y ∧ X' = X0)) 13 [(0, .ref (g.1 + f)), (1, .int (zi st)), (2, .int (zi least)), (3, .int (zi ((w : Int) - 1)))] [] n P X Y := by
  obtain ⟨s0, s1, s2, s3, s4, p1, p2, p4, p5, hnf⟩ := id hf
  intro w
  induction w with
  | zero =>
    intro X hw he
    rw [fEW] at he; subst he
    refine r_iload_n (i := 3) (pc' := 14) dX5_emitWaiting_13 rfl rfl (.tail _ (.tail _ (.tail _ (.head _)))) ?_
    refine r_if_lt (t := 58) (f := 17) dX5_emitWaiting_14 (by decide) rfl (by first | omega | exact xv_in _ _ _ | exact rd_in _ _) (fun h14 => ?_) (fun h14 => ?_)
    · refine r_return dX5_emitWaiting_58 rfl ?_
      exact ⟨rfl, rfl, rfl, rfl, rfl⟩
    · exfalso; omega
  | succ w ih =>
    intro X hw he
    have hsb := fstr_b (xv X (f + 2) w)
    rw [fEW] at he
    rw [show ((w + 1 : Nat) : Int) - 1 = (w : Int) by omega]
    refine r_iload_n (i := 3) (pc' := 14) dX5_emitWaiting_13 rfl rfl (.tail _ (.tail _ (.tail _ (.head _)))) ?_
    refine r_if_lt (t := 58) (f := 17) dX5_emitWaiting_14 (by decide) rfl (by first | omega | exact xv_in _ _ _ | exact rd_in _ _) (fun h14 => ?_) (fun h14 => ?_)
    · exfalso; omega
    · refine r_iload_n (i := 3) (pc' := 18) dX5_emitWaiting_17 rfl rfl (.tail _ (.tail _ (.tail _ (.head _)))) ?_
      refine r_bipush (pc' := 20) dX5_emitWaiting_18 rfl (by decide) ?_
      refine r_icmp_ge (t := 58) (f := 23) dX5_emitWaiting_20 (by decide) rfl (by first | omega | exact xv_in _ _ _ | exact rd_in _ _) (by first | omega | exact xv_in _ _ _ | exact rd_in _ _) (fun h20 => ?_) (fun h20 => ?_)
      · exfalso; omega
      · refine r_aload_n (i := 0) (pc' := 24) dX5_emitWaiting_23 rfl rfl (.head _) ?_
        refine r_getR (pc' := 27) dX5_emitWaiting_24 rfl fX5_15 rfl (by first | assumption | rfl) (by omega) (by assumption) ?_
        refine r_iload_n (i := 3) (pc' := 28) dX5_emitWaiting_27 rfl rfl (.tail _ (.tail _ (.tail _ (.head _)))) ?_
        refine r_iaload (pc' := 29) dX5_emitWaiting_28 rfl (by first | assumption | rfl) (by omega) (by omega) (by omega) (by first | decide | omega) (Int.toNat_natCast _) ?_
        refine r_S1p (pc' := 32) dX5_emitWaiting_29 rfl lX5_94 (by decide) (Nat.le_of_ble_eq_true rfl) (tX5_strength (by first | omega | exact xv_in _ _ _ | exact rd_in _ _)) ?_
        refine r_iload_n (i := 2) (pc' := 33) dX5_emitWaiting_32 rfl rfl (.tail _ (.tail _ (.head _))) ?_
        refine r_icmp_lt (t := 58) (f := 36) dX5_emitWaiting_33 (by decide) rfl (by first | omega | exact xv_in _ _ _ | exact rd_in _ _) (by first | omega | exact xv_in _ _ _ | exact rd_in _ _) (fun h33 => ?_) (fun h33 => ?_)
        · rw [if_neg (by omega)] at he
          subst he
          refine r_return dX5_emitWaiting_58 rfl ?_
          exact ⟨rfl, rfl, rfl, rfl, rfl⟩
        · rw [if_pos (by omega)] at he
          refine r_aload_n (i := 0) (pc' := 37) dX5_emitWaiting_36 rfl rfl (.head _) ?_
          refine r_aload_n (i := 0) (pc' := 38) dX5_emitWaiting_37 rfl rfl (.head _) ?_
          refine r_getR (pc' := 41) dX5_emitWaiting_38 rfl fX5_15 rfl (by first | assumption | rfl) (by omega) (by assumption) ?_
          refine r_iload_n (i := 3) (pc' := 42) dX5_emitWaiting_41 rfl rfl (.tail _ (.tail _ (.tail _ (.head _)))) ?_
          refine r_iaload (pc' := 43) dX5_emitWaiting_42 rfl (by first | assumption | rfl) (by omega) (by omega) (by omega) (by first | decide | omega) (Int.toNat_natCast _) ?_
          refine r_ineg (pc' := 44) dX5_emitWaiting_43 rfl ?_
          refine r_V1gv (ci := 5) (pc' := 47) dX5_emitWaiting_44 rfl lX5_83 rfl (by decide) (Nat.le_of_ble_eq_true rfl) (by first | assumption | rfl) (by omega) (tX5_emit (by assumption)) (fun n44 P44 X44 Y44 e44 le44 => ?_)
          obtain ⟨hg1_44, hg2_44, hg3_44, hg4_44⟩ := e44
          have g1_44 := Eq.symm hg1_44
          have g2_44 := Eq.symm hg2_44
          have g3_44 := Eq.symm hg3_44
          have g4_44 := Eq.symm hg4_44
          clear hg1_44 hg2_44 hg3_44 hg4_44
          subst g1_44 g2_44 g3_44 g4_44
          refine r_aload_n (i := 0) (pc' := 48) dX5_emitWaiting_47 rfl rfl (.head _) ?_
          refine r_iload_n (i := 3) (pc' := 49) dX5_emitWaiting_48 rfl rfl (.tail _ (.tail _ (.tail _ (.head _)))) ?_
          refine r_putI (pc' := 52) dX5_emitWaiting_49 rfl fX5_35 rfl (by first | assumption | rfl) (by omega) rfl rfl ?_
          refine r_iinc (pc' := 55) dX5_emitWaiting_52 rfl rfl (.tail _ (.tail _ (.tail _ (.head _)))) (.s1 (.s1 (.s1 (.here .nil) rfl rfl rfl) rfl rfl rfl) rfl rfl rfl) ?_
          refine r_goto (t := 13) dX5_emitWaiting_55 (by decide) ?_
          exact ih _ (by omega) he
set_option maxHeartbeats 4000000 in
set_option maxRecDepth 100000 in
theorem tX5_emitWaiting {l : Launch} {g : q_G} {n : Nat} {P : q_P} {X : q_X} {Y : q_Y} {f : Nat} (hf : isFor n P f) {st : Int} (hst : -10 ≤ st ∧ st ≤ 10) (hb : fB X f) : q_Met l g mX5_emitWaiting 1 [.ref (g.1 + f), .int (zi st)] n P X Y (q_gv (fun n' P' X' Y' => n' = n ∧ P' = P ∧ Y' = Y ∧ X' = fEWa X f st)) := by
  obtain ⟨s0, s1, s2, s3, s4, p1, p2, p4, p5, hnf⟩ := id hf
  obtain ⟨hb1, hb2⟩ := id hb
  refine q_enter (L := [(0, .ref (g.1 + f)), (1, .int (zi st))]) (by decide) (Nat.le_of_ble_eq_true rfl) rfl ?_
  refine r_iconst (pc' := 1) dX5_emitWaiting_0 rfl ?_
  refine r_iload_n (i := 1) (pc' := 2) dX5_emitWaiting_1 rfl rfl (.tail _ (.head _)) ?_
  refine r_max (pc' := 5) dX5_emitWaiting_2 rfl lX5_97 (by decide) (Nat.le_of_ble_eq_true rfl) (by first | omega | exact xv_in _ _ _ | exact rd_in _ _) (by first | omega | exact xv_in _ _ _ | exact rd_in _ _) ?_
  refine r_istore_n (i := 2) (pc' := 6) dX5_emitWaiting_5 rfl rfl rfl (.s1 (.s1 .nil rfl rfl rfl) rfl rfl rfl) ?_
  refine r_aload_n (i := 0) (pc' := 7) dX5_emitWaiting_6 rfl rfl (.head _) ?_
  refine r_getI (pc' := 10) dX5_emitWaiting_7 rfl fX5_35 rfl (by first | assumption | rfl) (by omega) ?_
  refine r_iconst (pc' := 11) dX5_emitWaiting_10 rfl ?_
  refine r_isub (pc' := 12) dX5_emitWaiting_11 rfl ?_
  refine r_istore_n (i := 3) (pc' := 13) dX5_emitWaiting_12 rfl rfl rfl (.s1 (.s1 (.s1 .nil rfl rfl rfl) rfl rfl rfl) rfl rfl rfl) ?_
  rw [show xv X f 3 - 1 = (((xv X f 3).toNat : Nat) : Int) - 1 by omega]
  exact lX5_emitWaiting hf (by omega) (xv X f 3).toNat X (by omega) rfl
set_option maxHeartbeats 4000000 in
set_option maxRecDepth 100000 in
theorem tX5_closeBracket {l : Launch} {g : q_G} {n : Nat} {P : q_P} {X : q_X} {Y : q_Y} {f : Nat} (hf : isFor n P f) (hb : fB X f) : q_Met l g mX5_closeBracket 2 [.ref (g.1 + f)] n P X Y (q_gv (fun n' P' X' Y' => n' = n ∧ P' = P ∧ Y' = Y ∧ X' = fClo X f)) := by
  obtain ⟨s0, s1, s2, s3, s4, p1, p2, p4, p5, hnf⟩ := id hf
  have hb1 := (hb.ew 0).1.2
  refine q_enter (L := [(0, .ref (g.1 + f))]) (by decide) (Nat.le_of_ble_eq_true rfl) rfl ?_
  refine r_aload_n (i := 0) (pc' := 1) dX5_closeBracket_0 rfl rfl (.head _) ?_
  refine r_iconst (pc' := 2) dX5_closeBracket_1 rfl ?_
  refine r_V1gv (ci := 5) (pc' := 5) dX5_closeBracket_2 rfl lX5_71 rfl (by decide) (Nat.le_of_ble_eq_true rfl) (by first | assumption | rfl) (by omega) (tX5_emitWaiting hf (by omega) hb) (fun n2 P2 X2 Y2 e2 le2 => ?_)
  obtain ⟨hg1_2, hg2_2, hg3_2, hg4_2⟩ := e2
  have g1_2 := Eq.symm hg1_2
  have g2_2 := Eq.symm hg2_2
  have g3_2 := Eq.symm hg3_2
  have g4_2 := Eq.symm hg4_2
  clear hg1_2 hg2_2 hg3_2 hg4_2
  subst g1_2 g2_2 g3_2 g4_2
  refine r_aload_n (i := 0) (pc' := 6) dX5_closeBracket_5 rfl rfl (.head _) ?_
  refine r_iconst (pc' := 7) dX5_closeBracket_6 rfl ?_
  refine r_aload_n (i := 0) (pc' := 8) dX5_closeBracket_7 rfl rfl (.head _) ?_
  refine r_getI (pc' := 11) dX5_closeBracket_8 rfl fX5_35 rfl (by first | assumption | rfl) (by omega) ?_
  refine r_iconst (pc' := 12) dX5_closeBracket_11 rfl ?_
  refine r_isub (pc' := 13) dX5_closeBracket_12 rfl ?_
  refine r_max (pc' := 16) dX5_closeBracket_13 rfl lX5_97 (by decide) (Nat.le_of_ble_eq_true rfl) (by first | omega | exact xv_in _ _ _ | exact rd_in _ _) (by first | omega | exact xv_in _ _ _ | exact rd_in _ _) ?_
  refine r_putI (pc' := 19) dX5_closeBracket_16 rfl fX5_35 rfl (by first | assumption | rfl) (by omega) rfl rfl ?_
  refine r_return dX5_closeBracket_19 rfl ?_
  exact ⟨rfl, rfl, rfl, rfl, rfl⟩
set_option maxHeartbeats 4000000 in
set_option maxRecDepth 100000 in
theorem tX5_readThing {l : Launch} {g : q_G} {n : Nat} {P : q_P} {X : q_X} {Y : q_Y} {f : Nat} (hf : isFor n P f) (hr : isRd n P) (ho : rOk X) (hm : rMore X) : q_Met l g mX5_readThing 5 [.ref (g.1 + f), .ref (g.1 + 444)] n P X Y (q_gv (fun n' P' X' Y' => n' = n ∧ P' = P ∧ Y' = Y ∧ X' = fThing X f)) := by
  obtain ⟨s0, s1, s2, s3, s4, p1, p2, p4, p5, hnf⟩ := id hf
  obtain ⟨r0, r1, hnr⟩ := id hr
  refine q_enter (L := [(0, .ref (g.1 + f)), (1, .ref (g.1 + 444))]) (by decide) (Nat.le_of_ble_eq_true rfl) rfl ?_
  refine r_aload_n (i := 1) (pc' := 1) dX5_readThing_0 rfl rfl (.tail _ (.head _)) ?_
  refine r_V0p (ci := 9) (pc' := 4) dX5_readThing_1 rfl lX5_44 rfl (by decide) (Nat.le_of_ble_eq_true rfl) (by first | assumption | rfl) (by omega) (tX9_peek (by assumption)) ?_
  refine r_S1p (pc' := 7) dX5_readThing_4 rfl lX5_74 (by decide) (Nat.le_of_ble_eq_true rfl) (tX5_placeOf (by first | omega | exact xv_in _ _ _ | exact rd_in _ _)) ?_
  refine r_istore_n (i := 2) (pc' := 8) dX5_readThing_7 rfl rfl rfl (.s1 (.s1 .nil rfl rfl rfl) rfl rfl rfl) ?_
  have hpb := f_plc_b (rd X (xv X 444 1))
  refine r_iload_n (i := 2) (pc' := 9) dX5_readThing_8 rfl rfl (.tail _ (.tail _ (.head _))) ?_
  refine r_iconst (pc' := 10) dX5_readThing_9 rfl ?_
  refine r_icmp_ne (t := 27) (f := 13) dX5_readThing_10 (by decide) rfl (by first | omega | exact xv_in _ _ _ | exact rd_in _ _) (by first | omega | exact xv_in _ _ _ | exact rd_in _ _) (fun h10 => ?_) (fun h10 => ?_)
  · refine r_aload_n (i := 1) (pc' := 28) dX5_readThing_27 rfl rfl (.tail _ (.head _)) ?_
    refine r_V0gv (ci := 9) (pc' := 31) dX5_readThing_28 rfl lX5_55 rfl (by decide) (Nat.le_of_ble_eq_true rfl) (by first | assumption | rfl) (by omega) (tX9_skip hr) (fun n28 P28 X28 Y28 e28 le28 => ?_)
    obtain ⟨hg1_28, hg2_28, hg3_28, hg4_28⟩ := e28
    have g1_28 := Eq.symm hg1_28
    have g2_28 := Eq.symm hg2_28
    have g3_28 := Eq.symm hg3_28
    have g4_28 := Eq.symm hg4_28
    clear hg1_28 hg2_28 hg3_28 hg4_28
    subst g1_28 g2_28 g3_28 g4_28
    refine r_aload_n (i := 0) (pc' := 32) dX5_readThing_31 rfl rfl (.head _) ?_
    refine r_iconst (pc' := 33) dX5_readThing_32 rfl ?_
    refine r_iload_n (i := 2) (pc' := 34) dX5_readThing_33 rfl rfl (.tail _ (.tail _ (.head _))) ?_
    refine r_isub (pc' := 35) dX5_readThing_34 rfl ?_
    refine r_V1gv (ci := 5) (pc' := 38) dX5_readThing_35 rfl lX5_83 rfl (by decide) (Nat.le_of_ble_eq_true rfl) (by first | assumption | rfl) (by omega) (tX5_emit hf) (fun n35 P35 X35 Y35 e35 le35 => ?_)
    obtain ⟨hg1_35, hg2_35, hg3_35, hg4_35⟩ := e35
    have g1_35 := Eq.symm hg1_35
    have g2_35 := Eq.symm hg2_35
    have g3_35 := Eq.symm hg3_35
    have g4_35 := Eq.symm hg4_35
    clear hg1_35 hg2_35 hg3_35 hg4_35
    subst g1_35 g2_35 g3_35 g4_35
    refine r_return dX5_readThing_38 rfl ?_
    refine ⟨rfl, rfl, rfl, rfl, ?_⟩
    rw [fThing]
    first | (rw [if_pos (by omega)]; done) | (rw [if_neg (by omega)]; done)
  · refine r_aload_n (i := 0) (pc' := 14) dX5_readThing_13 rfl rfl (.head _) ?_
    refine r_aload_n (i := 1) (pc' := 15) dX5_readThing_14 rfl rfl (.tail _ (.head _)) ?_
    refine r_iconst (pc' := 16) dX5_readThing_15 rfl ?_
    refine r_ldc (pc' := 18) dX5_readThing_16 rfl kX5_78 ?_
    refine r_V2gi (ci := 9) (pc' := 21) dX5_readThing_18 rfl lX5_79 rfl (by decide) (Nat.le_of_ble_eq_true rfl) (by first | assumption | rfl) (by omega) (tX9_number hr (by have := (ho).1; have := (ho).2; omega) (by omega) (by omega)) (fun r18 n18 P18 X18 Y18 e18 le18 => ?_)
    obtain ⟨hg1_18, hg2_18, hg3_18, hg4_18, hg5_18⟩ := e18
    have g1_18 := Eq.symm hg1_18
    have g2_18 := Eq.symm hg2_18
    have g3_18 := Eq.symm hg3_18
    have g4_18 := Eq.symm hg4_18
    have g5_18 := Eq.symm hg5_18
    clear hg1_18 hg2_18 hg3_18 hg4_18 hg5_18
    subst g1_18 g2_18 g3_18 g4_18 g5_18
    refine r_V1gv (ci := 5) (pc' := 24) dX5_readThing_21 rfl lX5_83 rfl (by decide) (Nat.le_of_ble_eq_true rfl) (by first | assumption | rfl) (by omega) (tX5_emit hf) (fun n21 P21 X21 Y21 e21 le21 => ?_)
    obtain ⟨hg1_21, hg2_21, hg3_21, hg4_21⟩ := e21
    have g1_21 := Eq.symm hg1_21
    have g2_21 := Eq.symm hg2_21
    have g3_21 := Eq.symm hg3_21
    have g4_21 := Eq.symm hg4_21
    clear hg1_21 hg2_21 hg3_21 hg4_21
    subst g1_21 g2_21 g3_21 g4_21
    refine r_goto (t := 38) dX5_readThing_24 (by decide) ?_
    refine r_return dX5_readThing_38 rfl ?_
    refine ⟨rfl, rfl, rfl, rfl, ?_⟩
    rw [fThing]
    first | (rw [if_pos (by omega)]; done) | (rw [if_neg (by omega)]; done)
set_option maxHeartbeats 4000000 in
set_option maxRecDepth 100000 in
theorem tX5_readOperator {l : Launch} {g : q_G} {n : Nat} {P : q_P} {X : q_X} {Y : q_Y} {f : Nat} (hf : isFor n P f) (hr : isRd n P) (ho : rOk X) (hm : rMore X) (hb : fB X f) (hfa : f + 5 ≤ 441 ∨ 481 ≤ f) : q_Met l g mX5_readOperator 2 [.ref (g.1 + f), .ref (g.1 + 444)] n P X Y (q_gv (fun n' P' X' Y' => n' = n ∧ P' = P ∧ Y' = Y ∧ X' = fOper X f)) := by
  obtain ⟨s0, s1, s2, s3, s4, p1, p2, p4, p5, hnf⟩ := id hf
  obtain ⟨r0, r1, hnr⟩ := id hr
  refine q_enter (L := [(0, .ref (g.1 + f)), (1, .ref (g.1 + 444))]) (by decide) (Nat.le_of_ble_eq_true rfl) rfl ?_
  refine r_aload_n (i := 1) (pc' := 1) dX5_readOperator_0 rfl rfl (.tail _ (.head _)) ?_
  refine r_V0p (ci := 9) (pc' := 4) dX5_readOperator_1 rfl lX5_44 rfl (by decide) (Nat.le_of_ble_eq_true rfl) (by first | assumption | rfl) (by omega) (tX9_peek (by assumption)) ?_
  refine r_istore_n (i := 2) (pc' := 5) dX5_readOperator_4 rfl rfl rfl (.s1 (.s1 .nil rfl rfl rfl) rfl rfl rfl) ?_
  refine r_iload_n (i := 2) (pc' := 6) dX5_readOperator_5 rfl rfl (.tail _ (.tail _ (.head _))) ?_
  refine r_bipush (pc' := 8) dX5_readOperator_6 rfl (by decide) ?_
  refine r_icmp_eq (t := 32) (f := 11) dX5_readOperator_8 (by decide) rfl (by first | omega | exact xv_in _ _ _ | exact rd_in _ _) (by first | omega | exact xv_in _ _ _ | exact rd_in _ _) (fun h8 => ?_) (fun h8 => ?_)
  · refine r_aload_n (i := 1) (pc' := 33) dX5_readOperator_32 rfl rfl (.tail _ (.head _)) ?_
    refine r_V0gv (ci := 9) (pc' := 36) dX5_readOperator_33 rfl lX5_55 rfl (by decide) (Nat.le_of_ble_eq_true rfl) (by first | assumption | rfl) (by omega) (tX9_skip hr) (fun n33 P33 X33 Y33 e33 le33 => ?_)
    obtain ⟨hg1_33, hg2_33, hg3_33, hg4_33⟩ := e33
    have g1_33 := Eq.symm hg1_33
    have g2_33 := Eq.symm hg2_33
    have g3_33 := Eq.symm hg3_33
    have g4_33 := Eq.symm hg4_33
    clear hg1_33 hg2_33 hg3_33 hg4_33
    subst g1_33 g2_33 g3_33 g4_33
    have hbs : fB (rd_skip X) f := hb.of (rd_skip_o (by omega))
    have hsb := fstr_b (rd X (xv X 444 1))
    refine r_aload_n (i := 0) (pc' := 37) dX5_readOperator_36 rfl rfl (.head _) ?_
    refine r_iload_n (i := 2) (pc' := 38) dX5_readOperator_37 rfl rfl (.tail _ (.tail _ (.head _))) ?_
    refine r_S1p (pc' := 41) dX5_readOperator_38 rfl lX5_94 (by decide) (Nat.le_of_ble_eq_true rfl) (tX5_strength (by first | omega | exact xv_in _ _ _ | exact rd_in _ _)) ?_
    refine r_V1gv (ci := 5) (pc' := 44) dX5_readOperator_41 rfl lX5_71 rfl (by decide) (Nat.le_of_ble_eq_true rfl) (by first | assumption | rfl) (by omega) (tX5_emitWaiting hf (by omega) hbs) (fun n41 P41 X41 Y41 e41 le41 => ?_)
    obtain ⟨hg1_41, hg2_41, hg3_41, hg4_41⟩ := e41
    have g1_41 := Eq.symm hg1_41
    have g2_41 := Eq.symm hg2_41
    have g3_41 := Eq.symm hg3_41
    have g4_41 := Eq.symm hg4_41
    clear hg1_41 hg2_41 hg3_41 hg4_41
    subst g1_41 g2_41 g3_41 g4_41
    refine r_aload_n (i := 0) (pc' := 45) dX5_readOperator_44 rfl rfl (.head _) ?_
    refine r_iload_n (i := 2) (pc' := 46) dX5_readOperator_45 rfl rfl (.tail _ (.tail _ (.head _))) ?_
    refine r_V1gv (ci := 5) (pc' := 49) dX5_readOperator_46 rfl lX5_58 rfl (by decide) (Nat.le_of_ble_eq_true rfl) (by first | assumption | rfl) (by omega) (tX5_hold hf) (fun n46 P46 X46 Y46 e46 le46 => ?_)
    obtain ⟨hg1_46, hg2_46, hg3_46, hg4_46⟩ := e46
    have g1_46 := Eq.symm hg1_46
    have g2_46 := Eq.symm hg2_46
    have g3_46 := Eq.symm hg3_46
    have g4_46 := Eq.symm hg4_46
    clear hg1_46 hg2_46 hg3_46 hg4_46
    subst g1_46 g2_46 g3_46 g4_46
    refine r_return dX5_readOperator_49 rfl ?_
    refine ⟨rfl, rfl, rfl, rfl, ?_⟩
    rw [fOper]
    first | (rw [if_pos (by omega)]; done) | (rw [if_neg (by omega)]; done)
  · refine r_iload_n (i := 2) (pc' := 12) dX5_readOperator_11 rfl rfl (.tail _ (.tail _ (.head _))) ?_
    refine r_bipush (pc' := 14) dX5_readOperator_12 rfl (by decide) ?_
    refine r_icmp_eq (t := 32) (f := 17) dX5_readOperator_14 (by decide) rfl (by first | omega | exact xv_in _ _ _ | exact rd_in _ _) (by first | omega | exact xv_in _ _ _ | exact rd_in _ _) (fun h14 => ?_) (fun h14 => ?_)
    · refine r_aload_n (i := 1) (pc' := 33) dX5_readOperator_32 rfl rfl (.tail _ (.head _)) ?_
      refine r_V0gv (ci := 9) (pc' := 36) dX5_readOperator_33 rfl lX5_55 rfl (by decide) (Nat.le_of_ble_eq_true rfl) (by first | assumption | rfl) (by omega) (tX9_skip hr) (fun n33 P33 X33 Y33 e33 le33 => ?_)
      obtain ⟨hg1_33, hg2_33, hg3_33, hg4_33⟩ := e33
      have g1_33 := Eq.symm hg1_33
      have g2_33 := Eq.symm hg2_33
      have g3_33 := Eq.symm hg3_33
      have g4_33 := Eq.symm hg4_33
      clear hg1_33 hg2_33 hg3_33 hg4_33
      subst g1_33 g2_33 g3_33 g4_33
      have hbs : fB (rd_skip X) f := hb.of (rd_skip_o (by omega))
      have hsb := fstr_b (rd X (xv X 444 1))
      refine r_aload_n (i := 0) (pc' := 37) dX5_readOperator_36 rfl rfl (.head _) ?_
      refine r_iload_n (i := 2) (pc' := 38) dX5_readOperator_37 rfl rfl (.tail _ (.tail _ (.head _))) ?_
      refine r_S1p (pc' := 41) dX5_readOperator_38 rfl lX5_94 (by decide) (Nat.le_of_ble_eq_true rfl) (tX5_strength (by first | omega | exact xv_in _ _ _ | exact rd_in _ _)) ?_
      refine r_V1gv (ci := 5) (pc' := 44) dX5_readOperator_41 rfl lX5_71 rfl (by decide) (Nat.le_of_ble_eq_true rfl) (by first | assumption | rfl) (by omega) (tX5_emitWaiting hf (by omega) hbs) (fun n41 P41 X41 Y41 e41 le41 => ?_)
      obtain ⟨hg1_41, hg2_41, hg3_41, hg4_41⟩ := e41
      have g1_41 := Eq.symm hg1_41
      have g2_41 := Eq.symm hg2_41
      have g3_41 := Eq.symm hg3_41
      have g4_41 := Eq.symm hg4_41
      clear hg1_41 hg2_41 hg3_41 hg4_41
      subst g1_41 g2_41 g3_41 g4_41
      refine r_aload_n (i := 0) (pc' := 45) dX5_readOperator_44 rfl rfl (.head _) ?_
      refine r_iload_n (i := 2) (pc' := 46) dX5_readOperator_45 rfl rfl (.tail _ (.tail _ (.head _))) ?_
      refine r_V1gv (ci := 5) (pc' := 49) dX5_readOperator_46 rfl lX5_58 rfl (by decide) (Nat.le_of_ble_eq_true rfl) (by first | assumption | rfl) (by omega) (tX5_hold hf) (fun n46 P46 X46 Y46 e46 le46 => ?_)
      obtain ⟨hg1_46, hg2_46, hg3_46, hg4_46⟩ := e46
      have g1_46 := Eq.symm hg1_46
      have g2_46 := Eq.symm hg2_46
      have g3_46 := Eq.symm hg3_46
      have g4_46 := Eq.symm hg4_46
      clear hg1_46 hg2_46 hg3_46 hg4_46
      subst g1_46 g2_46 g3_46 g4_46
      refine r_return dX5_readOperator_49 rfl ?_
      refine ⟨rfl, rfl, rfl, rfl, ?_⟩
      rw [fOper]
      first | (rw [if_pos (by omega)]; done) | (rw [if_neg (by omega)]; done)
    · refine r_iload_n (i := 2) (pc' := 18) dX5_readOperator_17 rfl rfl (.tail _ (.tail _ (.head _))) ?_
      refine r_bipush (pc' := 20) dX5_readOperator_18 rfl (by decide) ?_
      refine r_icmp_eq (t := 32) (f := 23) dX5_readOperator_20 (by decide) rfl (by first | omega | exact xv_in _ _ _ | exact rd_in _ _) (by first | omega | exact xv_in _ _ _ | exact rd_in _ _) (fun h20 => ?_) (fun h20 => ?_)
      · refine r_aload_n (i := 1) (pc' := 33) dX5_readOperator_32 rfl rfl (.tail _ (.head _)) ?_
        refine r_V0gv (ci := 9) (pc' := 36) dX5_readOperator_33 rfl lX5_55 rfl (by decide) (Nat.le_of_ble_eq_true rfl) (by first | assumption | rfl) (by omega) (tX9_skip hr) (fun n33 P33 X33 Y33 e33 le33 => ?_)
        obtain ⟨hg1_33, hg2_33, hg3_33, hg4_33⟩ := e33
        have g1_33 := Eq.symm hg1_33
        have g2_33 := Eq.symm hg2_33
        have g3_33 := Eq.symm hg3_33
        have g4_33 := Eq.symm hg4_33
        clear hg1_33 hg2_33 hg3_33 hg4_33
        subst g1_33 g2_33 g3_33 g4_33
        have hbs : fB (rd_skip X) f := hb.of (rd_skip_o (by omega))
        have hsb := fstr_b (rd X (xv X 444 1))
        refine r_aload_n (i := 0) (pc' := 37) dX5_readOperator_36 rfl rfl (.head _) ?_
        refine r_iload_n (i := 2) (pc' := 38) dX5_readOperator_37 rfl rfl (.tail _ (.tail _ (.head _))) ?_
        refine r_S1p (pc' := 41) dX5_readOperator_38 rfl lX5_94 (by decide) (Nat.le_of_ble_eq_true rfl) (tX5_strength (by first | omega | exact xv_in _ _ _ | exact rd_in _ _)) ?_
        refine r_V1gv (ci := 5) (pc' := 44) dX5_readOperator_41 rfl lX5_71 rfl (by decide) (Nat.le_of_ble_eq_true rfl) (by first | assumption | rfl) (by omega) (tX5_emitWaiting hf (by omega) hbs) (fun n41 P41 X41 Y41 e41 le41 => ?_)
        obtain ⟨hg1_41, hg2_41, hg3_41, hg4_41⟩ := e41
        have g1_41 := Eq.symm hg1_41
        have g2_41 := Eq.symm hg2_41
        have g3_41 := Eq.symm hg3_41
        have g4_41 := Eq.symm hg4_41
        clear hg1_41 hg2_41 hg3_41 hg4_41
        subst g1_41 g2_41 g3_41 g4_41
        refine r_aload_n (i := 0) (pc' := 45) dX5_readOperator_44 rfl rfl (.head _) ?_
        refine r_iload_n (i := 2) (pc' := 46) dX5_readOperator_45 rfl rfl (.tail _ (.tail _ (.head _))) ?_
        refine r_V1gv (ci := 5) (pc' := 49) dX5_readOperator_46 rfl lX5_58 rfl (by decide) (Nat.le_of_ble_eq_true rfl) (by first | assumption | rfl) (by omega) (tX5_hold hf) (fun n46 P46 X46 Y46 e46 le46 => ?_)
        obtain ⟨hg1_46, hg2_46, hg3_46, hg4_46⟩ := e46
        have g1_46 := Eq.symm hg1_46
        have g2_46 := Eq.symm hg2_46
        have g3_46 := Eq.symm hg3_46
        have g4_46 := Eq.symm hg4_46
        clear hg1_46 hg2_46 hg3_46 hg4_46
        subst g1_46 g2_46 g3_46 g4_46
        refine r_return dX5_readOperator_49 rfl ?_
        refine ⟨rfl, rfl, rfl, rfl, ?_⟩
        rw [fOper]
        first | (rw [if_pos (by omega)]; done) | (rw [if_neg (by omega)]; done)
      · refine r_aload_n (i := 1) (pc' := 24) dX5_readOperator_23 rfl rfl (.tail _ (.head _)) ?_
        refine r_aload_n (i := 1) (pc' := 25) dX5_readOperator_24 rfl rfl (.tail _ (.head _)) ?_
        refine r_getI (pc' := 28) dX5_readOperator_25 rfl fX5_48 rfl (by first | assumption | rfl) (by omega) ?_
        refine r_V1gv (ci := 9) (pc' := 31) dX5_readOperator_28 rfl lX5_51 rfl (by decide) (Nat.le_of_ble_eq_true rfl) (by first | assumption | rfl) (by omega) (tX9_fail hr) (fun n28 P28 X28 Y28 e28 le28 => ?_)
        obtain ⟨hg1_28, hg2_28, hg3_28, hg4_28⟩ := e28
        have g1_28 := Eq.symm hg1_28
        have g2_28 := Eq.symm hg2_28
        have g3_28 := Eq.symm hg3_28
        have g4_28 := Eq.symm hg4_28
        clear hg1_28 hg2_28 hg3_28 hg4_28
        subst g1_28 g2_28 g3_28 g4_28
        refine r_return dX5_readOperator_31 rfl ?_
        refine ⟨rfl, rfl, rfl, rfl, ?_⟩
        rw [fOper]
        first | (rw [if_pos (by omega)]; done) | (rw [if_neg (by omega)]; done)
