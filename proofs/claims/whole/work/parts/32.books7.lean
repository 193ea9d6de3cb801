/-- the int that the machine holds for z -/
def nz (z : Int) : Int := (zi z).toInt
theorem zi_nz (z : Int) : zi (nz z) = zi z := zi_of _
theorem nz_in (z : Int) : q_in (nz z) := q_in_of _
theorem nz_id {z : Int} (h : q_in z) : nz z = z := zi_toInt h
/-- contract i is over in the year that the books have now -/
abbrev p_over (X : q_X) (b i : Nat) : Prop := xv X (con b i) 4 = 0 ∧ xv X (con b i) 0 + xv X (con b i) 1 ≤ xv X b 0
def py_step (X : q_X) (b i : Nat) : q_X := if p_over X b i then q_up (q_up (q_up X (con b i) 4 (zi 2)) (con b i) 5 (zi (xv X b 0))) (b + 2) (xv X b 0).toNat (zi (xv X (b + 2) (xv X b 0).toNat + c_from X (con b i) (xv X b 0))) else X
def py (X : q_X) (b : Nat) : Nat → q_X
  | 0 => X
  | k + 1 => py_step (py X b k) b k
theorem py_step_o (X : q_X) (b i : Nat) {a : Nat} (h1 : a ≠ con b i) (h2 : a ≠ b + 2) : xv (py_step X b i) a = xv X a := by
  unfold py_step; split
  · rw [xv_up_row _ _ _ h2, xv_up_row _ _ _ h1, xv_up_row _ _ _ h1]
  · rfl
theorem py_o (X : q_X) (b : Nat) {a : Nat} (h2 : a ≠ b + 2) : ∀ k, (∀ i, i < k → a ≠ con b i) → xv (py X b k) a = xv X a
  | 0, _ => rfl
  | k + 1, h => by rw [py, py_step_o _ _ _ (h k (by omega)) h2, py_o X b h2 k (fun i hi => h i (by omega))]
def bk_p1 (X : q_X) (b : Nat) (room : Int) : q_X := q_up (q_up (q_up X b 0 (zi (xv X b 0 + 1))) b 1 (zi 0)) (b + 1) (xv X b 0 + 1).toNat (zi (max 0 (min 999999 (nz (xv X (b + 1) (xv X b 0 + 1).toNat + max 0 room + q_sum (fun i => if xv X (con b (xv X (b + 5) i).toNat) 4 = 0 ∧ xv X (b + 6) i = xv X b 0 then (if xv X (b + 8) i = xv X (b + 9) i then 0 else if xv X (b + 8) i = 0 then - xv X (b + 7) i else xv X (b + 7) i) else 0) 0 (xv X (b + 4) 0).toNat)))))
set_option maxHeartbeats 4000000 in
set_option maxRecDepth 100000 in
theorem lX1_passYear {l : Launch} {g : q_G} {n : Nat} {P : q_P} {X : q_X} {Y : q_Y} {b : Nat} (hb : isBk n P b) (h10 : 0 ≤ xv X b 10 ∧ xv X b 10 ≤ 40) (hyr : 0 ≤ xv X b 0 ∧ xv X b 0 ≤ 19) (hcf : ∀ k : Nat, (k : Int) < xv X b 10 → (0 ≤ xv X (con b k) 0 ∧ xv X (con b k) 0 ≤ 19) ∧ 0 ≤ xv X (con b k) 1 ∧ xv X (con b k) 1 ≤ 10) {r : Int} : ∀ (w i : Nat) (s : Int), i + w = (xv X b 10).toNat → s + q_sum (fun i => if p_over X b i then 1 else 0) i w = r → q_Tr l g mX1_passYear 2 (q_gi (fun r' n' P' X' Y' => n' = n ∧ P' = P ∧ Y' = Y ∧ X' = py X b (xv X b 10).toNat ∧ r' = r)) 80 [(0, .ref (g.1 + b)), (3, .int (zi s)), (4, .int (zi (i : Int)))] [] n P (py X b i) Y := by
  obtain ⟨b0, b1, b2, b3, q7, q8, q9, q11, q12, q13, hn, hpro, hmar, hfor, hcs⟩ := id hb
  intro w
  have hb10 : ∀ i, xv (py X b i) b = xv X b := fun i => py_o X b (by omega) i (fun j _ => by unfold con; omega)
  induction w with
  | zero =>
    intro i s hk hr
    refine r_iload (pc' := 82) dX1_passYear_80 rfl (.tail _ (.tail _ (.head _))) ?_
    refine r_aload_n (i := 0) (pc' := 83) dX1_passYear_82 rfl rfl (.head _) ?_
    refine r_getI (pc' := 86) dX1_passYear_83 rfl fX1_75 rfl (by first | assumption | rfl) (by omega) ?_
    rw [hb10]
    refine r_icmp_ge (t := 169) (f := 89) dX1_passYear_86 (by decide) rfl (by first | omega | exact xv_in _ _ _) (by first | omega | exact xv_in _ _ _) (fun h86 => ?_) (fun h86 => ?_)
    · refine r_iload_n (i := 3) (pc' := 170) dX1_passYear_169 rfl rfl (.tail _ (.head _)) ?_
      refine r_ireturn dX1_passYear_170 rfl ?_
      refine ⟨_, rfl, rfl, rfl, rfl, ?_, ?_⟩
      · rw [show i = (xv X b 10).toNat by omega]
      · rw [← hr]; simp [q_sum]
    · exfalso; omega
  | succ w ih =>
    intro i s hk hr
    have hc := hb.c (k := i) (by omega)
    obtain ⟨s0, s1, s2, s3, s4, p6, p7, p8, p9, hnc⟩ := id hc
    have hci := hcf i (by omega)
    have hrow : ∀ d, d ≤ 4 → xv (py X b i) (con b i + d) = xv X (con b i + d) := fun d hd => py_o X b (by unfold con; omega) i (fun j hj => by unfold con; omega)
    have hr0 : xv (py X b i) (con b i) = xv X (con b i) := hrow 0 (by omega)
    have hfi : 0 ≤ xv (py X b i) (con b i) 0 ∧ xv (py X b i) (con b i) 0 ≤ 19 := by rw [hr0]; exact hci.1
    have hne : con b i = b + 20 + 5 * i := rfl
    rw [q_sum] at hr
    refine r_iload (pc' := 82) dX1_passYear_80 rfl (.tail _ (.tail _ (.head _))) ?_
    refine r_aload_n (i := 0) (pc' := 83) dX1_passYear_82 rfl rfl (.head _) ?_
    refine r_getI (pc' := 86) dX1_passYear_83 rfl fX1_75 rfl (by first | assumption | rfl) (by omega) ?_
    rw [hb10]
    refine r_icmp_ge (t := 169) (f := 89) dX1_passYear_86 (by decide) rfl (by first | omega | exact xv_in _ _ _) (by first | omega | exact xv_in _ _ _) (fun h86 => ?_) (fun h86 => ?_)
    · exfalso; omega
    · refine r_aload_n (i := 0) (pc' := 90) dX1_passYear_89 rfl rfl (.head _) ?_
      refine r_getR (pc' := 93) dX1_passYear_90 rfl fX1_36 rfl (by first | assumption | rfl) (by omega) (by assumption) ?_
      refine r_iload (pc' := 95) dX1_passYear_93 rfl (.tail _ (.tail _ (.head _))) ?_
      refine r_aaload (pc' := 96) (v := .ref (g.1 + con b i)) dX1_passYear_95 rfl (by first | assumption | rfl) (by decide) (by omega) (by omega) (by omega) (by first | decide | omega) (Int.toNat_natCast _) (hb.r (k := i) (by omega)) ?_
      refine r_astore (pc' := 98) dX1_passYear_96 rfl rfl (.s1 (.s1 (.s1 .nil rfl rfl rfl) rfl rfl rfl) rfl rfl rfl) ?_
      refine r_aload (pc' := 100) dX1_passYear_98 rfl (.tail _ (.tail _ (.tail _ (.head _)))) ?_
      refine r_V0p (ci := 4) (pc' := 103) dX1_passYear_100 rfl lX1_102 rfl (by decide) (Nat.le_of_ble_eq_true rfl) (by first | assumption | rfl) (by omega) (tX4_isOpen hc) ?_
      rw [hr0]
      refine r_bif_eq (t := 163) (f := 106) dX1_passYear_103 (by decide) rfl (fun h103 => ?_) (fun h103 => ?_)
      · refine r_iinc (pc' := 166) dX1_passYear_163 rfl rfl (.tail _ (.tail _ (.head _))) (.s1 (.s1 (.here (.s1 .nil rfl rfl rfl)) rfl rfl rfl) rfl rfl rfl) ?_
        refine r_goto (t := 80) dX1_passYear_166 (by decide) ?_
        refine r_sub (.kp (.kp (.kp (.dr .nil)))) ?_
        first
          | (have hov : p_over X b i := by omega
             have hov2 : p_over (py X b i) b i := by rw [p_over, hr0, hb10]; exact hov
             have he : py X b (i + 1) = q_up (q_up (q_up (py X b i) (con b i) 4 (zi 2)) (con b i) 5 (zi (xv X b 0))) (b + 2) (xv X b 0).toNat (zi (xv (py X b i) (b + 2) (xv X b 0).toNat + c_from (py X b i) (con b i) (xv X b 0))) := by rw [py, py_step, if_pos hov2, hb10]
             rw [← he]
             exact ih (i + 1) _ (by omega) (by rw [← hr, if_pos hov]; omega))
          | (have hov : ¬ p_over X b i := by omega
             have hov2 : ¬ p_over (py X b i) b i := by rw [p_over, hr0, hb10]; exact hov
             have he : py X b (i + 1) = py X b i := by rw [py, py_step, if_neg hov2]
             rw [← he]
             exact ih (i + 1) _ (by omega) (by rw [← hr, if_neg hov]; omega))
      · refine r_aload (pc' := 108) dX1_passYear_106 rfl (.tail _ (.tail _ (.tail _ (.head _)))) ?_
        refine r_getI (pc' := 111) dX1_passYear_108 rfl fX1_106 rfl (by first | assumption | rfl) (by omega) ?_
        rw [hr0]
        refine r_aload (pc' := 113) dX1_passYear_111 rfl (.tail _ (.tail _ (.tail _ (.head _)))) ?_
        refine r_getI (pc' := 116) dX1_passYear_113 rfl fX1_113 rfl (by first | assumption | rfl) (by omega) ?_
        rw [hr0]
        refine r_iadd (pc' := 117) dX1_passYear_116 rfl ?_
        refine r_aload_n (i := 0) (pc' := 118) dX1_passYear_117 rfl rfl (.head _) ?_
        refine r_getI (pc' := 121) dX1_passYear_118 rfl fX1_63 rfl (by first | assumption | rfl) (by omega) ?_
        rw [hb10]
        refine r_icmp_gt (t := 163) (f := 124) dX1_passYear_121 (by decide) rfl (by first | omega | exact xv_in _ _ _) (by first | omega | exact xv_in _ _ _) (fun h121 => ?_) (fun h121 => ?_)
        · refine r_iinc (pc' := 166) dX1_passYear_163 rfl rfl (.tail _ (.tail _ (.head _))) (.s1 (.s1 (.here (.s1 .nil rfl rfl rfl)) rfl rfl rfl) rfl rfl rfl) ?_
          refine r_goto (t := 80) dX1_passYear_166 (by decide) ?_
          refine r_sub (.kp (.kp (.kp (.dr .nil)))) ?_
          first
            | (have hov : p_over X b i := by omega
               have hov2 : p_over (py X b i) b i := by rw [p_over, hr0, hb10]; exact hov
               have he : py X b (i + 1) = q_up (q_up (q_up (py X b i) (con b i) 4 (zi 2)) (con b i) 5 (zi (xv X b 0))) (b + 2) (xv X b 0).toNat (zi (xv (py X b i) (b + 2) (xv X b 0).toNat + c_from (py X b i) (con b i) (xv X b 0))) := by rw [py, py_step, if_pos hov2, hb10]
               rw [← he]
               exact ih (i + 1) _ (by omega) (by rw [← hr, if_pos hov]; omega))
            | (have hov : ¬ p_over X b i := by omega
               have hov2 : ¬ p_over (py X b i) b i := by rw [p_over, hr0, hb10]; exact hov
               have he : py X b (i + 1) = py X b i := by rw [py, py_step, if_neg hov2]
               rw [← he]
               exact ih (i + 1) _ (by omega) (by rw [← hr, if_neg hov]; omega))
        · refine r_aload (pc' := 126) dX1_passYear_124 rfl (.tail _ (.tail _ (.tail _ (.head _)))) ?_
          refine r_iconst (pc' := 127) dX1_passYear_126 rfl ?_
          refine r_putI (pc' := 130) dX1_passYear_127 rfl fX1_95 rfl (by first | assumption | rfl) (by omega) rfl rfl ?_
          refine r_aload (pc' := 132) dX1_passYear_130 rfl (.tail _ (.tail _ (.tail _ (.head _)))) ?_
          refine r_aload_n (i := 0) (pc' := 133) dX1_passYear_132 rfl rfl (.head _) ?_
          refine r_getI (pc' := 136) dX1_passYear_133 rfl fX1_63 rfl (by first | assumption | rfl) (by omega) ?_
          simp (disch := omega) only [xv_up_ne]
          rw [hb10]
          refine r_putI (pc' := 139) dX1_passYear_136 rfl fX1_184 rfl (by first | assumption | rfl) (by omega) rfl rfl ?_
          refine r_aload_n (i := 0) (pc' := 140) dX1_passYear_139 rfl rfl (.head _) ?_
          refine r_getR (pc' := 143) dX1_passYear_140 rfl fX1_31 rfl (by first | assumption | rfl) (by omega) (by assumption) ?_
          refine r_aload_n (i := 0) (pc' := 144) dX1_passYear_143 rfl rfl (.head _) ?_
          refine r_getI (pc' := 147) dX1_passYear_144 rfl fX1_63 rfl (by first | assumption | rfl) (by omega) ?_
          simp (disch := omega) only [xv_up_ne]
          rw [hb10]
          refine r_dup2 (pc' := 148) dX1_passYear_147 rfl rfl rfl ?_
          refine r_iaload (pc' := 149) dX1_passYear_148 rfl (by first | assumption | rfl) (by omega) (by omega) (by omega) (by first | decide | omega) rfl ?_
          simp (disch := omega) only [xv_up_ne]
          refine r_aload (pc' := 151) dX1_passYear_149 rfl (.tail _ (.tail _ (.tail _ (.head _)))) ?_
          refine r_aload_n (i := 0) (pc' := 152) dX1_passYear_151 rfl rfl (.head _) ?_
          refine r_getI (pc' := 155) dX1_passYear_152 rfl fX1_63 rfl (by first | assumption | rfl) (by omega) ?_
          simp (disch := omega) only [xv_up_ne]
          rw [hb10]
          refine r_V1p (ci := 4) (pc' := 158) dX1_passYear_155 rfl lX1_161 rfl (by decide) (Nat.le_of_ble_eq_true rfl) (by first | assumption | rfl) (by omega) (tX4_partsFrom hc (by simp (disch := omega) only [xv_up_ne]; exact hfi) (by omega)) ?_
          rw [show c_from (q_up (q_up (py X b i) (con b i) 4 (zi 2)) (con b i) 5 (zi (xv X b 0))) (con b i) (xv X b 0) = c_from (py X b i) (con b i) (xv X b 0) by simp (disch := omega) only [c_from, xv_up_ne, xv_up_row]]
          refine r_iadd (pc' := 159) dX1_passYear_158 rfl ?_
          refine r_iastore (pc' := 160) dX1_passYear_159 rfl (by first | assumption | rfl) (by omega) (by omega) (by omega) (by first | decide | omega) rfl ?_
          refine r_iinc (pc' := 163) dX1_passYear_160 rfl rfl (.tail _ (.head _)) (.s1 (.here (.s1 (.s1 .nil rfl rfl rfl) rfl rfl rfl)) rfl rfl rfl) ?_
          refine r_iinc (pc' := 166) dX1_passYear_163 rfl rfl (.tail _ (.tail _ (.head _))) (.s1 (.s1 (.here (.s1 .nil rfl rfl rfl)) rfl rfl rfl) rfl rfl rfl) ?_
          refine r_goto (t := 80) dX1_passYear_166 (by decide) ?_
          refine r_sub (.kp (.kp (.kp (.dr .nil)))) ?_
          first
            | (have hov : p_over X b i := by omega
               have hov2 : p_over (py X b i) b i := by rw [p_over, hr0, hb10]; exact hov
               have he : py X b (i + 1) = q_up (q_up (q_up (py X b i) (con b i) 4 (zi 2)) (con b i) 5 (zi (xv X b 0))) (b + 2) (xv X b 0).toNat (zi (xv (py X b i) (b + 2) (xv X b 0).toNat + c_from (py X b i) (con b i) (xv X b 0))) := by rw [py, py_step, if_pos hov2, hb10]
               rw [← he]
               exact ih (i + 1) _ (by omega) (by rw [← hr, if_pos hov]; omega))
            | (have hov : ¬ p_over X b i := by omega
               have hov2 : ¬ p_over (py X b i) b i := by rw [p_over, hr0, hb10]; exact hov
               have he : py X b (i + 1) = py X b i := by rw [py, py_step, if_neg hov2]
               rw [← he]
               exact ih (i + 1) _ (by omega) (by rw [← hr, if_neg hov]; omega))
set_option maxHeartbeats 4000000 in
set_option maxRecDepth 100000 in
theorem tX1_passYear {l : Launch} {g : q_G} {n : Nat} {P : q_P} {X : q_X} {Y : q_Y} {b : Nat} {room : Int} (hb : isBk n P b) (hO : bOk X b) (hr : q_in room) (hy : xv X b 0 < 19) : q_Met l g mX1_passYear 2 [.ref (g.1 + b), .int (zi room)] n P X Y (q_gi (fun r' n' P' X' Y' => n' = n ∧ P' = P ∧ Y' = Y ∧ X' = py (bk_p1 X b room) b (xv X b 10).toNat ∧ r' = q_sum (fun i => if p_over (bk_p1 X b room) b i then 1 else 0) 0 (xv X b 10).toNat)) := by
  obtain ⟨b0, b1, b2, b3, q7, q8, q9, q11, q12, q13, hn, hpro, hmar, hfor, hcs⟩ := id hb
  obtain ⟨o0, o1, o2, o3, o4, o5, o6, o10, oc, op0, opz, opi, om0, omi, olim⟩ := id hO
  refine q_enter (L := [(0, .ref (g.1 + b)), (1, .int (zi room))]) (by decide) (Nat.le_of_ble_eq_true rfl) rfl ?_
  refine r_aload_n (i := 0) (pc' := 1) dX1_passYear_0 rfl rfl (.head _) ?_
  refine r_getI (pc' := 4) dX1_passYear_1 rfl fX1_63 rfl (by first | assumption | rfl) (by omega) ?_
  refine r_if_lt (t := 16) (f := 7) dX1_passYear_4 (by decide) rfl (by first | omega | exact xv_in _ _ _ | assumption) (fun h4 => ?_) (fun h4 => ?_)
  · exfalso; omega
  · refine r_aload_n (i := 0) (pc' := 8) dX1_passYear_7 rfl rfl (.head _) ?_
    refine r_getI (pc' := 11) dX1_passYear_8 rfl fX1_63 rfl (by first | assumption | rfl) (by omega) ?_
    refine r_bipush (pc' := 13) dX1_passYear_11 rfl (by decide) ?_
    refine r_icmp_lt (t := 18) (f := 16) dX1_passYear_13 (by decide) rfl (by first | omega | exact xv_in _ _ _ | assumption) (by first | omega | exact xv_in _ _ _ | assumption) (fun h13 => ?_) (fun h13 => ?_)
    · refine r_aload_n (i := 0) (pc' := 19) dX1_passYear_18 rfl rfl (.head _) ?_
      refine r_getR (pc' := 22) dX1_passYear_19 rfl fX1_27 rfl (by first | assumption | rfl) (by omega) (by assumption) ?_
      refine r_aload_n (i := 0) (pc' := 23) dX1_passYear_22 rfl rfl (.head _) ?_
      refine r_getI (pc' := 26) dX1_passYear_23 rfl fX1_63 rfl (by first | assumption | rfl) (by omega) ?_
      refine r_iconst (pc' := 27) dX1_passYear_26 rfl ?_
      refine r_iadd (pc' := 28) dX1_passYear_27 rfl ?_
      refine r_iaload (pc' := 29) dX1_passYear_28 rfl (by first | assumption | rfl) (by omega) (by omega) (by omega) (by first | decide | omega) rfl ?_
      refine r_iconst (pc' := 30) dX1_passYear_29 rfl ?_
      refine r_iload_n (i := 1) (pc' := 31) dX1_passYear_30 rfl rfl (.tail _ (.head _)) ?_
      refine r_max (pc' := 34) dX1_passYear_31 rfl lX1_187 (by decide) (Nat.le_of_ble_eq_true rfl) (by first | omega | exact xv_in _ _ _ | assumption) (by first | omega | exact xv_in _ _ _ | assumption) ?_
      refine r_iadd (pc' := 35) dX1_passYear_34 rfl ?_
      refine r_aload_n (i := 0) (pc' := 36) dX1_passYear_35 rfl rfl (.head _) ?_
      refine r_V0p (ci := 1) (pc' := 39) dX1_passYear_36 rfl lX1_205 rfl (by decide) (Nat.le_of_ble_eq_true rfl) (by first | assumption | rfl) (by omega) (tX1_promisesSettled (by assumption) (by assumption)) ?_
      refine r_iadd (pc' := 40) dX1_passYear_39 rfl ?_
      generalize hz : xv X (b + 1) (xv X b 0 + 1).toNat + max 0 room + q_sum _ 0 _ = z
      rw [← zi_nz z]
      have hnz := nz_in z
      refine r_istore_n (i := 2) (pc' := 41) dX1_passYear_40 rfl rfl rfl (.s1 (.s1 .nil rfl rfl rfl) rfl rfl rfl) ?_
      refine r_aload_n (i := 0) (pc' := 42) dX1_passYear_41 rfl rfl (.head _) ?_
      refine r_dup (pc' := 43) dX1_passYear_42 rfl rfl ?_
      refine r_getI (pc' := 46) dX1_passYear_43 rfl fX1_63 rfl (by first | assumption | rfl) (by omega) ?_
      refine r_iconst (pc' := 47) dX1_passYear_46 rfl ?_
      refine r_iadd (pc' := 48) dX1_passYear_47 rfl ?_
      refine r_putI (pc' := 51) dX1_passYear_48 rfl fX1_63 rfl (by first | assumption | rfl) (by omega) rfl rfl ?_
      refine r_aload_n (i := 0) (pc' := 52) dX1_passYear_51 rfl rfl (.head _) ?_
      refine r_iconst (pc' := 53) dX1_passYear_52 rfl ?_
      refine r_putI (pc' := 56) dX1_passYear_53 rfl fX1_66 rfl (by first | assumption | rfl) (by omega) rfl rfl ?_
      refine r_aload_n (i := 0) (pc' := 57) dX1_passYear_56 rfl rfl (.head _) ?_
      refine r_getR (pc' := 60) dX1_passYear_57 rfl fX1_27 rfl (by first | assumption | rfl) (by omega) (by assumption) ?_
      refine r_aload_n (i := 0) (pc' := 61) dX1_passYear_60 rfl rfl (.head _) ?_
      refine r_getI (pc' := 64) dX1_passYear_61 rfl fX1_63 rfl (by first | assumption | rfl) (by omega) ?_
      rw [xv_up_ne _ _ (by omega), xv_up_same _ _ _ (by omega)]
      refine r_iconst (pc' := 65) dX1_passYear_64 rfl ?_
      refine r_ldc (pc' := 67) dX1_passYear_65 rfl kX1_208 ?_
      refine r_iload_n (i := 2) (pc' := 68) dX1_passYear_67 rfl rfl (.tail _ (.tail _ (.head _))) ?_
      refine r_min (pc' := 71) dX1_passYear_68 rfl lX1_209 (by decide) (Nat.le_of_ble_eq_true rfl) (by first | omega | exact xv_in _ _ _ | assumption) (by first | omega | exact xv_in _ _ _ | assumption) ?_
      refine r_max (pc' := 74) dX1_passYear_71 rfl lX1_187 (by decide) (Nat.le_of_ble_eq_true rfl) (by first | omega | exact xv_in _ _ _ | assumption) (by first | omega | exact xv_in _ _ _ | assumption) ?_
      refine r_iastore (pc' := 75) dX1_passYear_74 rfl (by first | assumption | rfl) (by omega) (by omega) (by omega) (by first | decide | omega) rfl ?_
      rw [show q_up (q_up (q_up X b 0 (zi (xv X b 0 + 1))) b 1 (zi 0)) (b + 1) (xv X b 0 + 1).toNat (zi (max 0 (min 999999 (nz z)))) = bk_p1 X b room by rw [bk_p1, hz]]
      have e1 : ∀ a, a ≠ b → a ≠ b + 1 → xv (bk_p1 X b room) a = xv X a := fun a h1 h2 => by rw [bk_p1, xv_up_row _ _ _ h2, xv_up_row _ _ _ h1, xv_up_row _ _ _ h1]
      have e0 : xv (bk_p1 X b room) b 0 = xv X b 0 + 1 := by rw [bk_p1, xv_up_ne _ _ (by omega), xv_up_ne _ _ (by omega), xv_up_same _ _ _ (by omega)]
      have e10 : xv (bk_p1 X b room) b 10 = xv X b 10 := by rw [bk_p1, xv_up_ne _ _ (by omega), xv_up_ne _ _ (by omega), xv_up_ne _ _ (by omega)]
      rw [← e10]
      have hcf : ∀ k : Nat, (k : Int) < xv (bk_p1 X b room) b 10 → (0 ≤ xv (bk_p1 X b room) (con b k) 0 ∧ xv (bk_p1 X b room) (con b k) 0 ≤ 19) ∧ 0 ≤ xv (bk_p1 X b room) (con b k) 1 ∧ xv (bk_p1 X b room) (con b k) 1 ≤ 10 := fun k hk => by
        rw [e1 _ (by unfold con; omega) (by unfold con; omega)]
        have := hO.c (k := k) (by omega)
        have h2 := this.2.1
        exact ⟨this.1, by omega, by omega⟩
      refine r_iconst (pc' := 76) dX1_passYear_75 rfl ?_
      refine r_istore_n (i := 3) (pc' := 77) dX1_passYear_76 rfl rfl rfl (.s1 (.s1 (.s1 .nil rfl rfl rfl) rfl rfl rfl) rfl rfl rfl) ?_
      refine r_iconst (pc' := 78) dX1_passYear_77 rfl ?_
      refine r_istore (pc' := 80) dX1_passYear_78 rfl rfl (.s1 (.s1 (.s1 (.s1 .nil rfl rfl rfl) rfl rfl rfl) rfl rfl rfl) rfl rfl rfl) ?_
      refine r_sub (.kp (.dr (.dr (.kp (.kp .nil))))) ?_
      exact lX1_passYear hb (by omega) (by omega) hcf _ 0 0 (by omega) (Int.zero_add _)
    · exfalso; omega
