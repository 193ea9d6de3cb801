def f_set (X : q_X) (b : Nat) (goal w : Int) : Int := if ¬ (-999999 ≤ goal ∧ goal ≤ 999999) ∨ w < 0 ∨ 1 < w then -1 else if (ch_set X b (whoA X b 10) goal (2 ^ (whoA X b 10).length)).1 = true then (if w = 0 then (ch_set X b (whoA X b 10) goal (2 ^ (whoA X b 10).length)).2.1 else ((ch_set X b (whoA X b 10) goal (2 ^ (whoA X b 10).length)).2.2 : Int)) else -2
def f_fit (X : q_X) (b : Nat) (goal w : Int) : Int := if ¬ (-999999 ≤ goal ∧ goal ≤ 999999) ∨ w < 0 ∨ 2 < w then -1 else if (ch_fit X b (whoA X b 6) goal (3 ^ (whoA X b 6).length)).1 = true then (if w = 0 then (ch_fit X b (whoA X b 6) goal (3 ^ (whoA X b 6).length)).2.1 else if w = 1 then ((ch_fit X b (whoA X b 6) goal (3 ^ (whoA X b 6).length)).2.2.1 : Int) else ((ch_fit X b (whoA X b 6) goal (3 ^ (whoA X b 6).length)).2.2.2 : Int)) else -2
abbrev buyM (X : q_X) (b : Nat) : Nat := (min 10 (xv X (b + 10) 0)).toNat
def f_buys (X : q_X) (b : Nat) (w : Int) : Int := if w < 0 ∨ 2 < w then -1 else if w = 0 then (ch_off X b (buyM X b) (max 0 (nz (bk_room X b g0 g0))) (2 ^ buyM X b - 1)).1 else if w = 1 then ((ch_off X b (buyM X b) (max 0 (nz (bk_room X b g0 g0))) (2 ^ buyM X b - 1)).2.1 : Int) else (ch_off X b (buyM X b) (max 0 (nz (bk_room X b g0 g0))) (2 ^ buyM X b - 1)).2.2
theorem of_hit_ag {X X' : q_X} {b : Nat} (h : bAg X X' b) (i : Nat) : of_hit X' b i = of_hit X b i := by
  simp only [of_hit, h 13 (by omega) (by omega), h 12 (by omega) (by omega), h 14 (by omega) (by omega)]
theorem ch_off_ag {X X' : q_X} {b : Nat} (h : bAg X X' b) (m : Nat) (room : Int) : ∀ s, ch_off X' b m room s = ch_off X b m room s
  | 0 => rfl
  | s + 1 => by
    have e : of_hit X' b = of_hit X b := funext (of_hit_ag h)
    have ih := ch_off_ag h m room s
    simp only [ch_off, e, ih, h 11 (by omega) (by omega)]
set_option maxHeartbeats 4000000 in
set_option maxRecDepth 100000 in
theorem tX11_set {l : Launch} {g : q_G} {n : Nat} {P : q_P} {X : q_X} {Y : q_Y} {b : Nat} (hF : isFace n P b) (hb : isBk n P b) (hO : bOk X b) (hap : bApart b) (ht : isTal n P) (hch : isCho n P) {goal w : Int} (hg : q_in goal) (hw : q_in w) : q_Met l g mX11_set 6 [.ref (g.1 + 0), .int (zi goal), .int (zi w)] n P X Y (q_it (f_set X b goal w) n P X Y) := by
  obtain ⟨f0, f2, f3, f4, f5, f6, f7, f8, hn0⟩ := id hF
  obtain ⟨b0, b1, b2, b3, q7, q8, q9, q11, q12, q13, hn, hpro, hmar, hfor, hcs⟩ := id hb
  obtain ⟨o0, o1, o2, o3, o4, o5, o6, o10, oc, op0, opz, opi, om0, omi, olim⟩ := id hO
  obtain ⟨t0, t1, t2, t3, t4, hnt⟩ := id ht
  obtain ⟨v0, v1, v2, v3, v4, v5, v6, hnh⟩ := id hch
  refine q_enter (L := [(0, .ref (g.1 + 0)), (1, .int (zi goal)), (2, .int (zi w))]) (by decide) (Nat.le_of_ble_eq_true rfl) rfl ?_
  refine r_iload_n (i := 1) (pc' := 1) dX11_set_0 rfl rfl (.tail _ (.head _)) ?_
  refine r_S1p (pc' := 4) dX11_set_1 rfl lX11_313 (by decide) (Nat.le_of_ble_eq_true rfl) (tX11_isGoal (by omega)) ?_
  refine r_bif_eq (t := 16) (f := 7) dX11_set_4 (by decide) rfl (fun h4 => ?_) (fun h4 => ?_)
  · refine r_iconst (pc' := 17) dX11_set_16 rfl ?_
    refine r_ireturn dX11_set_17 rfl ?_
    refine ⟨_, rfl, rfl, rfl, rfl, by first | exact eo31 | exact tOut.rfl, ?_⟩
    unfold f_set
    (repeat' split) <;> first | rfl | (exfalso; omega) | (exfalso; rw [if_pos (by assumption)] at ez; omega) | (exfalso; rw [if_neg (by assumption)] at ez; omega) | (rw [(em (by assumption)).1]; done) | (rw [(em (by assumption)).2]; done) | (rw [(em (by assumption)).2.1]; done) | (rw [(em (by assumption)).2.2]; done)
  · refine r_iload_n (i := 2) (pc' := 8) dX11_set_7 rfl rfl (.tail _ (.tail _ (.head _))) ?_
    refine r_if_lt (t := 16) (f := 11) dX11_set_8 (by decide) rfl (by first | omega | exact xv_in _ _ _) (fun h8 => ?_) (fun h8 => ?_)
    · refine r_iconst (pc' := 17) dX11_set_16 rfl ?_
      refine r_ireturn dX11_set_17 rfl ?_
      refine ⟨_, rfl, rfl, rfl, rfl, by first | exact eo31 | exact tOut.rfl, ?_⟩
      unfold f_set
      (repeat' split) <;> first | rfl | (exfalso; omega) | (exfalso; rw [if_pos (by assumption)] at ez; omega) | (exfalso; rw [if_neg (by assumption)] at ez; omega) | (rw [(em (by assumption)).1]; done) | (rw [(em (by assumption)).2]; done) | (rw [(em (by assumption)).2.1]; done) | (rw [(em (by assumption)).2.2]; done)
    · refine r_iload_n (i := 2) (pc' := 12) dX11_set_11 rfl rfl (.tail _ (.tail _ (.head _))) ?_
      refine r_iconst (pc' := 13) dX11_set_12 rfl ?_
      refine r_icmp_le (t := 18) (f := 16) dX11_set_13 (by decide) rfl (by first | omega | exact xv_in _ _ _) (by first | omega | exact xv_in _ _ _) (fun h13 => ?_) (fun h13 => ?_)
      · refine r_aload_n (i := 0) (pc' := 19) dX11_set_18 rfl rfl (.head _) ?_
        refine r_getR (pc' := 22) dX11_set_19 rfl fX11_63 rfl (by first | assumption | rfl) (by omega) (by assumption) ?_
        refine r_aload_n (i := 0) (pc' := 23) dX11_set_22 rfl rfl (.head _) ?_
        refine r_getR (pc' := 26) dX11_set_23 rfl fX11_10 rfl (by first | assumption | rfl) (by omega) (by assumption) ?_
        refine r_aload_n (i := 0) (pc' := 27) dX11_set_26 rfl rfl (.head _) ?_
        refine r_getR (pc' := 30) dX11_set_27 rfl fX11_56 rfl (by first | assumption | rfl) (by omega) (by assumption) ?_
        refine r_iload_n (i := 1) (pc' := 31) dX11_set_30 rfl rfl (.tail _ (.head _)) ?_
        refine r_V3gv (ci := 3) (pc' := 34) dX11_set_31 rfl lX11_323 rfl (by decide) (Nat.le_of_ble_eq_true rfl) (by first | assumption | rfl) (by omega) (tX3_chooseSet (by assumption) (by assumption) (by assumption) (by assumption) (by assumption) (by omega)) (fun n31 P31 X31 Y31 e31 le31 => ?_)
        obtain ⟨rfl, rfl, rfl, eo31, ez, em⟩ := e31
        refine r_aload_n (i := 0) (pc' := 35) dX11_set_34 rfl rfl (.head _) ?_
        refine r_getR (pc' := 38) dX11_set_35 rfl fX11_63 rfl (by first | assumption | rfl) (by omega) (by assumption) ?_
        refine r_getI (pc' := 41) dX11_set_38 rfl fX11_327 rfl (by first | assumption | rfl) (by omega) ?_
        refine r_if_ne (t := 47) (f := 44) dX11_set_41 (by decide) rfl (by first | omega | exact xv_in _ _ _) (fun h41 => ?_) (fun h41 => ?_)
        · refine r_iload_n (i := 2) (pc' := 48) dX11_set_47 rfl rfl (.tail _ (.tail _ (.head _))) ?_
          refine r_if_ne (t := 61) (f := 51) dX11_set_48 (by decide) rfl (by first | omega | exact xv_in _ _ _) (fun h48 => ?_) (fun h48 => ?_)
          · refine r_aload_n (i := 0) (pc' := 62) dX11_set_61 rfl rfl (.head _) ?_
            refine r_getR (pc' := 65) dX11_set_62 rfl fX11_63 rfl (by first | assumption | rfl) (by omega) (by assumption) ?_
            refine r_getI (pc' := 68) dX11_set_65 rfl fX11_334 rfl (by first | assumption | rfl) (by omega) ?_
            refine r_ireturn dX11_set_68 rfl ?_
            refine ⟨_, rfl, rfl, rfl, rfl, by first | exact eo31 | exact tOut.rfl, ?_⟩
            unfold f_set
            (repeat' split) <;> first | rfl | (exfalso; omega) | (exfalso; rw [if_pos (by assumption)] at ez; omega) | (exfalso; rw [if_neg (by assumption)] at ez; omega) | (rw [(em (by assumption)).1]; done) | (rw [(em (by assumption)).2]; done) | (rw [(em (by assumption)).2.1]; done) | (rw [(em (by assumption)).2.2]; done)
          · refine r_aload_n (i := 0) (pc' := 52) dX11_set_51 rfl rfl (.head _) ?_
            refine r_getR (pc' := 55) dX11_set_52 rfl fX11_63 rfl (by first | assumption | rfl) (by omega) (by assumption) ?_
            refine r_getI (pc' := 58) dX11_set_55 rfl fX11_331 rfl (by first | assumption | rfl) (by omega) ?_
            refine r_goto (t := 68) dX11_set_58 (by decide) ?_
            refine r_ireturn dX11_set_68 rfl ?_
            refine ⟨_, rfl, rfl, rfl, rfl, by first | exact eo31 | exact tOut.rfl, ?_⟩
            unfold f_set
            (repeat' split) <;> first | rfl | (exfalso; omega) | (exfalso; rw [if_pos (by assumption)] at ez; omega) | (exfalso; rw [if_neg (by assumption)] at ez; omega) | (rw [(em (by assumption)).1]; done) | (rw [(em (by assumption)).2]; done) | (rw [(em (by assumption)).2.1]; done) | (rw [(em (by assumption)).2.2]; done)
        · refine r_bipush (pc' := 46) dX11_set_44 rfl (by decide) ?_
          refine r_ireturn dX11_set_46 rfl ?_
          refine ⟨_, rfl, rfl, rfl, rfl, by first | exact eo31 | exact tOut.rfl, ?_⟩
          unfold f_set
          (repeat' split) <;> first | rfl | (exfalso; omega) | (exfalso; rw [if_pos (by assumption)] at ez; omega) | (exfalso; rw [if_neg (by assumption)] at ez; omega) | (rw [(em (by assumption)).1]; done) | (rw [(em (by assumption)).2]; done) | (rw [(em (by assumption)).2.1]; done) | (rw [(em (by assumption)).2.2]; done)
      · refine r_iconst (pc' := 17) dX11_set_16 rfl ?_
        refine r_ireturn dX11_set_17 rfl ?_
        refine ⟨_, rfl, rfl, rfl, rfl, by first | exact eo31 | exact tOut.rfl, ?_⟩
        unfold f_set
        (repeat' split) <;> first | rfl | (exfalso; omega) | (exfalso; rw [if_pos (by assumption)] at ez; omega) | (exfalso; rw [if_neg (by assumption)] at ez; omega) | (rw [(em (by assumption)).1]; done) | (rw [(em (by assumption)).2]; done) | (rw [(em (by assumption)).2.1]; done) | (rw [(em (by assumption)).2.2]; done)
set_option maxHeartbeats 4000000 in
set_option maxRecDepth 100000 in
theorem tX11_fit {l : Launch} {g : q_G} {n : Nat} {P : q_P} {X : q_X} {Y : q_Y} {b : Nat} (hF : isFace n P b) (hb : isBk n P b) (hO : bOk X b) (hap : bApart b) (ht : isTal n P) (hch : isCho n P) {goal w : Int} (hg : q_in goal) (hw : q_in w) : q_Met l g mX11_fit 6 [.ref (g.1 + 0), .int (zi goal), .int (zi w)] n P X Y (q_it (f_fit X b goal w) n P X Y) := by
  obtain ⟨f0, f2, f3, f4, f5, f6, f7, f8, hn0⟩ := id hF
  obtain ⟨b0, b1, b2, b3, q7, q8, q9, q11, q12, q13, hn, hpro, hmar, hfor, hcs⟩ := id hb
  obtain ⟨o0, o1, o2, o3, o4, o5, o6, o10, oc, op0, opz, opi, om0, omi, olim⟩ := id hO
  obtain ⟨t0, t1, t2, t3, t4, hnt⟩ := id ht
  obtain ⟨v0, v1, v2, v3, v4, v5, v6, hnh⟩ := id hch
  refine q_enter (L := [(0, .ref (g.1 + 0)), (1, .int (zi goal)), (2, .int (zi w))]) (by decide) (Nat.le_of_ble_eq_true rfl) rfl ?_
  refine r_iload_n (i := 1) (pc' := 1) dX11_fit_0 rfl rfl (.tail _ (.head _)) ?_
  refine r_S1p (pc' := 4) dX11_fit_1 rfl lX11_313 (by decide) (Nat.le_of_ble_eq_true rfl) (tX11_isGoal (by omega)) ?_
  refine r_bif_eq (t := 16) (f := 7) dX11_fit_4 (by decide) rfl (fun h4 => ?_) (fun h4 => ?_)
  · refine r_iconst (pc' := 17) dX11_fit_16 rfl ?_
    refine r_ireturn dX11_fit_17 rfl ?_
    refine ⟨_, rfl, rfl, rfl, rfl, by first | exact eo31 | exact tOut.rfl, ?_⟩
    unfold f_fit
    (repeat' split) <;> first | rfl | (exfalso; omega) | (exfalso; rw [if_pos (by assumption)] at ez; omega) | (exfalso; rw [if_neg (by assumption)] at ez; omega) | (rw [(em (by assumption)).1]; done) | (rw [(em (by assumption)).2]; done) | (rw [(em (by assumption)).2.1]; done) | (rw [(em (by assumption)).2.2]; done)
  · refine r_iload_n (i := 2) (pc' := 8) dX11_fit_7 rfl rfl (.tail _ (.tail _ (.head _))) ?_
    refine r_if_lt (t := 16) (f := 11) dX11_fit_8 (by decide) rfl (by first | omega | exact xv_in _ _ _) (fun h8 => ?_) (fun h8 => ?_)
    · refine r_iconst (pc' := 17) dX11_fit_16 rfl ?_
      refine r_ireturn dX11_fit_17 rfl ?_
      refine ⟨_, rfl, rfl, rfl, rfl, by first | exact eo31 | exact tOut.rfl, ?_⟩
      unfold f_fit
      (repeat' split) <;> first | rfl | (exfalso; omega) | (exfalso; rw [if_pos (by assumption)] at ez; omega) | (exfalso; rw [if_neg (by assumption)] at ez; omega) | (rw [(em (by assumption)).1]; done) | (rw [(em (by assumption)).2]; done) | (rw [(em (by assumption)).2.1]; done) | (rw [(em (by assumption)).2.2]; done)
    · refine r_iload_n (i := 2) (pc' := 12) dX11_fit_11 rfl rfl (.tail _ (.tail _ (.head _))) ?_
      refine r_iconst (pc' := 13) dX11_fit_12 rfl ?_
      refine r_icmp_le (t := 18) (f := 16) dX11_fit_13 (by decide) rfl (by first | omega | exact xv_in _ _ _) (by first | omega | exact xv_in _ _ _) (fun h13 => ?_) (fun h13 => ?_)
      · refine r_aload_n (i := 0) (pc' := 19) dX11_fit_18 rfl rfl (.head _) ?_
        refine r_getR (pc' := 22) dX11_fit_19 rfl fX11_63 rfl (by first | assumption | rfl) (by omega) (by assumption) ?_
        refine r_aload_n (i := 0) (pc' := 23) dX11_fit_22 rfl rfl (.head _) ?_
        refine r_getR (pc' := 26) dX11_fit_23 rfl fX11_10 rfl (by first | assumption | rfl) (by omega) (by assumption) ?_
        refine r_aload_n (i := 0) (pc' := 27) dX11_fit_26 rfl rfl (.head _) ?_
        refine r_getR (pc' := 30) dX11_fit_27 rfl fX11_56 rfl (by first | assumption | rfl) (by omega) (by assumption) ?_
        refine r_iload_n (i := 1) (pc' := 31) dX11_fit_30 rfl rfl (.tail _ (.head _)) ?_
        refine r_V3gv (ci := 3) (pc' := 34) dX11_fit_31 rfl lX11_380 rfl (by decide) (Nat.le_of_ble_eq_true rfl) (by first | assumption | rfl) (by omega) (tX3_chooseFit (by assumption) (by assumption) (by assumption) (by assumption) (by assumption) (by omega)) (fun n31 P31 X31 Y31 e31 le31 => ?_)
        obtain ⟨rfl, rfl, rfl, eo31, ez, em⟩ := e31
        refine r_aload_n (i := 0) (pc' := 35) dX11_fit_34 rfl rfl (.head _) ?_
        refine r_getR (pc' := 38) dX11_fit_35 rfl fX11_63 rfl (by first | assumption | rfl) (by omega) (by assumption) ?_
        refine r_getI (pc' := 41) dX11_fit_38 rfl fX11_327 rfl (by first | assumption | rfl) (by omega) ?_
        refine r_if_ne (t := 47) (f := 44) dX11_fit_41 (by decide) rfl (by first | omega | exact xv_in _ _ _) (fun h41 => ?_) (fun h41 => ?_)
        · refine r_iload_n (i := 2) (pc' := 48) dX11_fit_47 rfl rfl (.tail _ (.tail _ (.head _))) ?_
          refine r_if_ne (t := 59) (f := 51) dX11_fit_48 (by decide) rfl (by first | omega | exact xv_in _ _ _) (fun h48 => ?_) (fun h48 => ?_)
          · refine r_iload_n (i := 2) (pc' := 60) dX11_fit_59 rfl rfl (.tail _ (.tail _ (.head _))) ?_
            refine r_iconst (pc' := 61) dX11_fit_60 rfl ?_
            refine r_icmp_ne (t := 74) (f := 64) dX11_fit_61 (by decide) rfl (by first | omega | exact xv_in _ _ _) (by first | omega | exact xv_in _ _ _) (fun h61 => ?_) (fun h61 => ?_)
            · refine r_aload_n (i := 0) (pc' := 75) dX11_fit_74 rfl rfl (.head _) ?_
              refine r_getR (pc' := 78) dX11_fit_75 rfl fX11_63 rfl (by first | assumption | rfl) (by omega) (by assumption) ?_
              refine r_getI (pc' := 81) dX11_fit_78 rfl fX11_383 rfl (by first | assumption | rfl) (by omega) ?_
              refine r_ireturn dX11_fit_81 rfl ?_
              refine ⟨_, rfl, rfl, rfl, rfl, by first | exact eo31 | exact tOut.rfl, ?_⟩
              unfold f_fit
              (repeat' split) <;> first | rfl | (exfalso; omega) | (exfalso; rw [if_pos (by assumption)] at ez; omega) | (exfalso; rw [if_neg (by assumption)] at ez; omega) | (rw [(em (by assumption)).1]; done) | (rw [(em (by assumption)).2]; done) | (rw [(em (by assumption)).2.1]; done) | (rw [(em (by assumption)).2.2]; done)
            · refine r_aload_n (i := 0) (pc' := 65) dX11_fit_64 rfl rfl (.head _) ?_
              refine r_getR (pc' := 68) dX11_fit_65 rfl fX11_63 rfl (by first | assumption | rfl) (by omega) (by assumption) ?_
              refine r_getI (pc' := 71) dX11_fit_68 rfl fX11_334 rfl (by first | assumption | rfl) (by omega) ?_
              refine r_goto (t := 81) dX11_fit_71 (by decide) ?_
              refine r_ireturn dX11_fit_81 rfl ?_
              refine ⟨_, rfl, rfl, rfl, rfl, by first | exact eo31 | exact tOut.rfl, ?_⟩
              unfold f_fit
              (repeat' split) <;> first | rfl | (exfalso; omega) | (exfalso; rw [if_pos (by assumption)] at ez; omega) | (exfalso; rw [if_neg (by assumption)] at ez; omega) | (rw [(em (by assumption)).1]; done) | (rw [(em (by assumption)).2]; done) | (rw [(em (by assumption)).2.1]; done) | (rw [(em (by assumption)).2.2]; done)
          · refine r_aload_n (i := 0) (pc' := 52) dX11_fit_51 rfl rfl (.head _) ?_
            refine r_getR (pc' := 55) dX11_fit_52 rfl fX11_63 rfl (by first | assumption | rfl) (by omega) (by assumption) ?_
            refine r_getI (pc' := 58) dX11_fit_55 rfl fX11_331 rfl (by first | assumption | rfl) (by omega) ?_
            refine r_ireturn dX11_fit_58 rfl ?_
            refine ⟨_, rfl, rfl, rfl, rfl, by first | exact eo31 | exact tOut.rfl, ?_⟩
            unfold f_fit
            (repeat' split) <;> first | rfl | (exfalso; omega) | (exfalso; rw [if_pos (by assumption)] at ez; omega) | (exfalso; rw [if_neg (by assumption)] at ez; omega) | (rw [(em (by assumption)).1]; done) | (rw [(em (by assumption)).2]; done) | (rw [(em (by assumption)).2.1]; done) | (rw [(em (by assumption)).2.2]; done)
        · refine r_bipush (pc' := 46) dX11_fit_44 rfl (by decide) ?_
          refine r_ireturn dX11_fit_46 rfl ?_
          refine ⟨_, rfl, rfl, rfl, rfl, by first | exact eo31 | exact tOut.rfl, ?_⟩
          unfold f_fit
          (repeat' split) <;> first | rfl | (exfalso; omega) | (exfalso; rw [if_pos (by assumption)] at ez; omega) | (exfalso; rw [if_neg (by assumption)] at ez; omega) | (rw [(em (by assumption)).1]; done) | (rw [(em (by assumption)).2]; done) | (rw [(em (by assumption)).2.1]; done) | (rw [(em (by assumption)).2.2]; done)
      · refine r_iconst (pc' := 17) dX11_fit_16 rfl ?_
        refine r_ireturn dX11_fit_17 rfl ?_
        refine ⟨_, rfl, rfl, rfl, rfl, by first | exact eo31 | exact tOut.rfl, ?_⟩
        unfold f_fit
        (repeat' split) <;> first | rfl | (exfalso; omega) | (exfalso; rw [if_pos (by assumption)] at ez; omega) | (exfalso; rw [if_neg (by assumption)] at ez; omega) | (rw [(em (by assumption)).1]; done) | (rw [(em (by assumption)).2]; done) | (rw [(em (by assumption)).2.1]; done) | (rw [(em (by assumption)).2.2]; done)
set_option maxHeartbeats 4000000 in
set_option maxRecDepth 100000 in
theorem tX11_buys {l : Launch} {g : q_G} {n : Nat} {P : q_P} {X : q_X} {Y : q_Y} {b : Nat} (hF : isFace n P b) (hb : isBk n P b) (hO : bOk X b) (hap : bApart b) (ht : isTal n P) (hch : isCho n P) {w : Int} (hw : q_in w) : q_Met l g mX11_buys 4 [.ref (g.1 + 0), .int (zi w)] n P X Y (q_it (f_buys X b w) n P X Y) := by
  obtain ⟨f0, f2, f3, f4, f5, f6, f7, f8, hn0⟩ := id hF
  obtain ⟨b0, b1, b2, b3, q7, q8, q9, q11, q12, q13, hn, hpro, hmar, hfor, hcs⟩ := id hb
  obtain ⟨o0, o1, o2, o3, o4, o5, o6, o10, oc, op0, opz, opi, om0, omi, olim⟩ := id hO
  obtain ⟨t0, t1, t2, t3, t4, hnt⟩ := id ht
  obtain ⟨v0, v1, v2, v3, v4, v5, v6, hnh⟩ := id hch
  refine q_enter (L := [(0, .ref (g.1 + 0)), (1, .int (zi w))]) (by decide) (Nat.le_of_ble_eq_true rfl) rfl ?_
  refine r_iload_n (i := 1) (pc' := 1) dX11_buys_0 rfl rfl (.tail _ (.head _)) ?_
  refine r_if_lt (t := 9) (f := 4) dX11_buys_1 (by decide) rfl (by first | omega | exact xv_in _ _ _ | exact nz_in _) (fun h1 => ?_) (fun h1 => ?_)
  · refine r_iconst (pc' := 10) dX11_buys_9 rfl ?_
    refine r_ireturn dX11_buys_10 rfl ?_
    refine ⟨_, rfl, rfl, rfl, rfl, by first | exact ho.trans eo48 | exact tOut.rfl, ?_⟩
    unfold f_buys buyM
    (repeat' split) <;> first | rfl | (exfalso; omega) | (rw [ea]; done) | (rw [eb1]; done) | (rw [ec]; done)
  · refine r_iload_n (i := 1) (pc' := 5) dX11_buys_4 rfl rfl (.tail _ (.head _)) ?_
    refine r_iconst (pc' := 6) dX11_buys_5 rfl ?_
    refine r_icmp_le (t := 11) (f := 9) dX11_buys_6 (by decide) rfl (by first | omega | exact xv_in _ _ _ | exact nz_in _) (by first | omega | exact xv_in _ _ _ | exact nz_in _) (fun h6 => ?_) (fun h6 => ?_)
    · refine r_aload_n (i := 0) (pc' := 12) dX11_buys_11 rfl rfl (.head _) ?_
      refine r_getR (pc' := 15) dX11_buys_12 rfl fX11_56 rfl (by first | assumption | rfl) (by omega) (by assumption) ?_
      refine r_aload_n (i := 0) (pc' := 16) dX11_buys_15 rfl rfl (.head _) ?_
      refine r_getR (pc' := 19) dX11_buys_16 rfl fX11_10 rfl (by first | assumption | rfl) (by omega) (by assumption) ?_
      refine r_V1gv (ci := 10) (pc' := 22) dX11_buys_19 rfl lX11_211 rfl (by decide) (Nat.le_of_ble_eq_true rfl) (by first | assumption | rfl) (by omega) (tX10_load hb hO ht hap) (fun n19 P19 X19 Y19 e19 le19 => ?_)
      obtain ⟨rfl, rfl, rfl, ho, htl⟩ := e19
      have hTT := TT.of ho hap hO htl
      have hT1 := htl.1
      have hag := ho.ag hap
      have hO1 := bOk_ag hag hO
      have eb : xv X19 b = xv X b := hag.z
      refine r_aload_n (i := 0) (pc' := 23) dX11_buys_22 rfl rfl (.head _) ?_
      refine r_getR (pc' := 26) dX11_buys_23 rfl fX11_63 rfl (by first | assumption | rfl) (by omega) (by assumption) ?_
      refine r_aload_n (i := 0) (pc' := 27) dX11_buys_26 rfl rfl (.head _) ?_
      refine r_getR (pc' := 30) dX11_buys_27 rfl fX11_10 rfl (by first | assumption | rfl) (by omega) (by assumption) ?_
      refine r_getR (pc' := 33) dX11_buys_30 rfl fX11_111 rfl (by first | assumption | rfl) (by omega) (by assumption) ?_
      refine r_iconst (pc' := 34) dX11_buys_33 rfl ?_
      refine r_aload_n (i := 0) (pc' := 35) dX11_buys_34 rfl rfl (.head _) ?_
      refine r_getR (pc' := 38) dX11_buys_35 rfl fX11_56 rfl (by first | assumption | rfl) (by omega) (by assumption) ?_
      refine r_aload_n (i := 0) (pc' := 39) dX11_buys_38 rfl rfl (.head _) ?_
      refine r_getR (pc' := 42) dX11_buys_39 rfl fX11_10 rfl (by first | assumption | rfl) (by omega) (by assumption) ?_
      refine r_V1p (ci := 10) (pc' := 45) dX11_buys_42 rfl lX11_218 rfl (by decide) (Nat.le_of_ble_eq_true rfl) (by first | assumption | rfl) (by omega) (tX10_room hb hO1 ht hT1) ?_
      rw [hTT.room hap, ← zi_nz (bk_room X b g0 g0)]
      have hni := nz_in (bk_room X b g0 g0)
      refine r_max (pc' := 48) dX11_buys_45 rfl lX11_358 (by decide) (Nat.le_of_ble_eq_true rfl) (by first | omega | exact xv_in _ _ _ | exact nz_in _) (by first | omega | exact xv_in _ _ _ | exact nz_in _) ?_
      refine r_V2gv (ci := 3) (pc' := 51) dX11_buys_48 rfl lX11_424 rfl (by decide) (Nat.le_of_ble_eq_true rfl) (by first | assumption | rfl) (by omega) (tX3_chooseOffers hb hO1 hap ht hch (by omega)) (fun n48 P48 X48 Y48 e48 le48 => ?_)
      obtain ⟨rfl, rfl, rfl, eo48, ea, eb1, ec⟩ := e48
      rw [ch_off_ag hag, hag 10 (by omega) (by omega)] at ea eb1 ec
      refine r_iload_n (i := 1) (pc' := 52) dX11_buys_51 rfl rfl (.tail _ (.head _)) ?_
      refine r_if_ne (t := 63) (f := 55) dX11_buys_52 (by decide) rfl (by first | omega | exact xv_in _ _ _ | exact nz_in _) (fun h52 => ?_) (fun h52 => ?_)
      · refine r_iload_n (i := 1) (pc' := 64) dX11_buys_63 rfl rfl (.tail _ (.head _)) ?_
        refine r_iconst (pc' := 65) dX11_buys_64 rfl ?_
        refine r_icmp_ne (t := 78) (f := 68) dX11_buys_65 (by decide) rfl (by first | omega | exact xv_in _ _ _ | exact nz_in _) (by first | omega | exact xv_in _ _ _ | exact nz_in _) (fun h65 => ?_) (fun h65 => ?_)
        · refine r_aload_n (i := 0) (pc' := 79) dX11_buys_78 rfl rfl (.head _) ?_
          refine r_getR (pc' := 82) dX11_buys_79 rfl fX11_63 rfl (by first | assumption | rfl) (by omega) (by assumption) ?_
          refine r_getI (pc' := 85) dX11_buys_82 rfl fX11_331 rfl (by first | assumption | rfl) (by omega) ?_
          refine r_ireturn dX11_buys_85 rfl ?_
          refine ⟨_, rfl, rfl, rfl, rfl, by first | exact ho.trans eo48 | exact tOut.rfl, ?_⟩
          unfold f_buys buyM
          (repeat' split) <;> first | rfl | (exfalso; omega) | (rw [ea]; done) | (rw [eb1]; done) | (rw [ec]; done)
        · refine r_aload_n (i := 0) (pc' := 69) dX11_buys_68 rfl rfl (.head _) ?_
          refine r_getR (pc' := 72) dX11_buys_69 rfl fX11_63 rfl (by first | assumption | rfl) (by omega) (by assumption) ?_
          refine r_getI (pc' := 75) dX11_buys_72 rfl fX11_334 rfl (by first | assumption | rfl) (by omega) ?_
          refine r_goto (t := 85) dX11_buys_75 (by decide) ?_
          refine r_ireturn dX11_buys_85 rfl ?_
          refine ⟨_, rfl, rfl, rfl, rfl, by first | exact ho.trans eo48 | exact tOut.rfl, ?_⟩
          unfold f_buys buyM
          (repeat' split) <;> first | rfl | (exfalso; omega) | (rw [ea]; done) | (rw [eb1]; done) | (rw [ec]; done)
      · refine r_aload_n (i := 0) (pc' := 56) dX11_buys_55 rfl rfl (.head _) ?_
        refine r_getR (pc' := 59) dX11_buys_56 rfl fX11_63 rfl (by first | assumption | rfl) (by omega) (by assumption) ?_
        refine r_getI (pc' := 62) dX11_buys_59 rfl fX11_428 rfl (by first | assumption | rfl) (by omega) ?_
        refine r_ireturn dX11_buys_62 rfl ?_
        refine ⟨_, rfl, rfl, rfl, rfl, by first | exact ho.trans eo48 | exact tOut.rfl, ?_⟩
        unfold f_buys buyM
        (repeat' split) <;> first | rfl | (exfalso; omega) | (rw [ea]; done) | (rw [eb1]; done) | (rw [ec]; done)
    · refine r_iconst (pc' := 10) dX11_buys_9 rfl ?_
      refine r_ireturn dX11_buys_10 rfl ?_
      refine ⟨_, rfl, rfl, rfl, rfl, by first | exact ho.trans eo48 | exact tOut.rfl, ?_⟩
      unfold f_buys buyM
      (repeat' split) <;> first | rfl | (exfalso; omega) | (rw [ea]; done) | (rw [eb1]; done) | (rw [ec]; done)
