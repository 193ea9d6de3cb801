theorem i64_ne0 {z : Int} (h : q_in z) (h0 : z ≠ 0) : ¬ (zi z).toInt64 = 0 := by
  intro e
  have := congrArg Int64.toInt e
  rw [Int32.toInt_toInt64, zi_toInt h] at this
  exact h0 this
def f_share (X : q_X) (b : Nat) (y : Int) : Int := if ¬ (0 ≤ y ∧ y < 20) then -1 else if xv X (b + 1) y.toNat < 1 then -2 else (if (1000000000 : Int64) < (zi (xv X (b + 2) y.toNat)).toInt64 * 10000 / (zi (xv X (b + 1) y.toNat)).toInt64 then (1000000000 : Int64) else (zi (xv X (b + 2) y.toNat)).toInt64 * 10000 / (zi (xv X (b + 1) y.toNat)).toInt64).toInt32.toInt
def f_is (X : q_X) (b : Nat) (w : Int) : Int := if 0 ≤ w ∧ w < 7 then xv X b w.toNat else if w = 7 then xv X b 10 else if 8 ≤ w ∧ w ≤ 10 then bk_many X b (w - 8) 0 (xv X b 10).toNat else if w = 11 then xv X 442 2 else if w = 12 then xv X 445 1 else -1
def f_offer (X : q_X) (b : Nat) (i w : Int) : Int := if ¬ (0 ≤ i ∧ i < xv X (b + 10) 0) then -1 else if w = 0 then xv X (b + 11) i.toNat else if w = 1 then xv X (b + 12) i.toNat else if w = 2 then xv X (b + 13) i.toNat else if w = 3 then xv X (b + 14) i.toNat else if w = 4 then c_piece (xv X (b + 13) i.toNat) (xv X (b + 12) i.toNat) 0 + xv X (b + 14) i.toNat else -1
def f_promised (X : q_X) (b : Nat) (i w : Int) : Int := if ¬ (0 ≤ i ∧ i < xv X (b + 4) 0) then -1 else if w = 0 then xv X (b + 5) i.toNat else if w = 1 then xv X (b + 6) i.toNat else if w = 2 then xv X (b + 7) i.toNat else if w = 3 then xv X (b + 8) i.toNat else if w = 4 then xv X (b + 9) i.toNat else -1
def f_ovb (X : q_X) (b : Nat) : Nat → Int
  | 0 => 0
  | i + 1 => if 0 ≤ xv X b 0 + 1 + i ∧ xv X b 0 + 1 + i < 20 ∧ xv X (b + 1) (xv X b 0 + 1 + i).toNat < nz (f_cnt X b (xv X b 0 + 1 + i)) then (zi (f_ovb X b i) ||| zi (2 ^ i)).toInt else f_ovb X b i
def f_over (X : q_X) (b : Nat) (k : Int) : Int := if k < 1 ∨ 10 < k then -1 else f_ovb X b k.toNat
set_option maxHeartbeats 4000000 in
set_option maxRecDepth 100000 in
theorem tX11_is {l : Launch} {g : q_G} {n : Nat} {P : q_P} {X : q_X} {Y : q_Y} {b : Nat} (hF : isFace n P b) (hb : isBk n P b) (hO : bOk X b) (hr : isRd n P) {w : Int} (hw : q_in w) : q_Met l g mX11_is 1 [.ref (g.1 + 0), .int (zi w)] n P X Y (q_pv (.int (zi (f_is X b w))) n P X Y) := by
  obtain ⟨f0, f2, f3, f4, f5, f6, f7, f8, hn0⟩ := id hF
  obtain ⟨b0, b1, b2, b3, q7, q8, q9, q11, q12, q13, hn, hpro, hmar, hfor, hcs⟩ := id hb
  obtain ⟨o0, o1, o2, o3, o4, o5, o6, o10, oc, op0, opz, opi, om0, omi, olim⟩ := id hO
  refine q_enter (L := [(0, .ref (g.1 + 0)), (1, .int (zi w))]) (by decide) (Nat.le_of_ble_eq_true rfl) rfl ?_
  obtain ⟨rr0, rr1, -⟩ := id hr
  refine r_iload_n (i := 1) (pc' := 1) dX11_is_0 rfl rfl (.tail _ (.head _)) ?_
  by_cases hs1 : w < 0 ∨ 12 < w
  · refine r_tout (t := 178) dX11_is_1 (by first | omega | exact xv_in _ _ _) hs1 (by decide) ?_
    refine r_iconst (pc' := 179) dX11_is_178 rfl ?_
    refine r_ireturn dX11_is_179 rfl ?_
    refine ⟨?_, rfl, rfl, rfl, rfl⟩
    unfold f_is
    first
      | (rw [if_pos (by omega), hc1]; rfl)
      | (rw [if_neg (by omega), if_pos (by omega)]; done)
      | (rw [if_neg (by omega), if_neg (by omega), if_pos (by omega), hc1]; rfl)
      | (rw [if_neg (by omega), if_neg (by omega), if_neg (by omega), if_pos (by omega)]; done)
      | (rw [if_neg (by omega), if_neg (by omega), if_neg (by omega), if_neg (by omega), if_pos (by omega)]; done)
      | (rw [if_neg (by omega), if_neg (by omega), if_neg (by omega), if_neg (by omega), if_neg (by omega)]; done)
  · have hc1 : w = 0 ∨ w = 1 ∨ w = 2 ∨ w = 3 ∨ w = 4 ∨ w = 5 ∨ w = 6 ∨ w = 7 ∨ w = 8 ∨ w = 9 ∨ w = 10 ∨ w = 11 ∨ w = 12 := by omega
    rcases hc1 with hc1 | hc1 | hc1 | hc1 | hc1 | hc1 | hc1 | hc1 | hc1 | hc1 | hc1 | hc1 | hc1
    · refine r_tin (t := 68) (off := 67) dX11_is_1 (by first | omega | exact xv_in _ _ _) (by omega) (by omega) (by rw [hc1]; rfl) (by decide) ?_
      refine r_aload_n (i := 0) (pc' := 69) dX11_is_68 rfl rfl (.head _) ?_
      refine r_getR (pc' := 72) dX11_is_69 rfl fX11_10 rfl (by first | assumption | rfl) (by omega) (by assumption) ?_
      refine r_getI (pc' := 75) dX11_is_72 rfl fX11_135 rfl (by first | assumption | rfl) (by omega) ?_
      refine r_ireturn dX11_is_75 rfl ?_
      refine ⟨?_, rfl, rfl, rfl, rfl⟩
      unfold f_is
      first
        | (rw [if_pos (by omega), hc1]; rfl)
        | (rw [if_neg (by omega), if_pos (by omega)]; done)
        | (rw [if_neg (by omega), if_neg (by omega), if_pos (by omega), hc1]; rfl)
        | (rw [if_neg (by omega), if_neg (by omega), if_neg (by omega), if_pos (by omega)]; done)
        | (rw [if_neg (by omega), if_neg (by omega), if_neg (by omega), if_neg (by omega), if_pos (by omega)]; done)
        | (rw [if_neg (by omega), if_neg (by omega), if_neg (by omega), if_neg (by omega), if_neg (by omega)]; done)
    · refine r_tin (t := 76) (off := 75) dX11_is_1 (by first | omega | exact xv_in _ _ _) (by omega) (by omega) (by rw [hc1]; rfl) (by decide) ?_
      refine r_aload_n (i := 0) (pc' := 77) dX11_is_76 rfl rfl (.head _) ?_
      refine r_getR (pc' := 80) dX11_is_77 rfl fX11_10 rfl (by first | assumption | rfl) (by omega) (by assumption) ?_
      refine r_getI (pc' := 83) dX11_is_80 rfl fX11_138 rfl (by first | assumption | rfl) (by omega) ?_
      refine r_ireturn dX11_is_83 rfl ?_
      refine ⟨?_, rfl, rfl, rfl, rfl⟩
      unfold f_is
      first
        | (rw [if_pos (by omega), hc1]; rfl)
        | (rw [if_neg (by omega), if_pos (by omega)]; done)
        | (rw [if_neg (by omega), if_neg (by omega), if_pos (by omega), hc1]; rfl)
        | (rw [if_neg (by omega), if_neg (by omega), if_neg (by omega), if_pos (by omega)]; done)
        | (rw [if_neg (by omega), if_neg (by omega), if_neg (by omega), if_neg (by omega), if_pos (by omega)]; done)
        | (rw [if_neg (by omega), if_neg (by omega), if_neg (by omega), if_neg (by omega), if_neg (by omega)]; done)
    · refine r_tin (t := 84) (off := 83) dX11_is_1 (by first | omega | exact xv_in _ _ _) (by omega) (by omega) (by rw [hc1]; rfl) (by decide) ?_
      refine r_aload_n (i := 0) (pc' := 85) dX11_is_84 rfl rfl (.head _) ?_
      refine r_getR (pc' := 88) dX11_is_85 rfl fX11_10 rfl (by first | assumption | rfl) (by omega) (by assumption) ?_
      refine r_getI (pc' := 91) dX11_is_88 rfl fX11_141 rfl (by first | assumption | rfl) (by omega) ?_
      refine r_ireturn dX11_is_91 rfl ?_
      refine ⟨?_, rfl, rfl, rfl, rfl⟩
      unfold f_is
      first
        | (rw [if_pos (by omega), hc1]; rfl)
        | (rw [if_neg (by omega), if_pos (by omega)]; done)
        | (rw [if_neg (by omega), if_neg (by omega), if_pos (by omega), hc1]; rfl)
        | (rw [if_neg (by omega), if_neg (by omega), if_neg (by omega), if_pos (by omega)]; done)
        | (rw [if_neg (by omega), if_neg (by omega), if_neg (by omega), if_neg (by omega), if_pos (by omega)]; done)
        | (rw [if_neg (by omega), if_neg (by omega), if_neg (by omega), if_neg (by omega), if_neg (by omega)]; done)
    · refine r_tin (t := 92) (off := 91) dX11_is_1 (by first | omega | exact xv_in _ _ _) (by omega) (by omega) (by rw [hc1]; rfl) (by decide) ?_
      refine r_aload_n (i := 0) (pc' := 93) dX11_is_92 rfl rfl (.head _) ?_
      refine r_getR (pc' := 96) dX11_is_93 rfl fX11_10 rfl (by first | assumption | rfl) (by omega) (by assumption) ?_
      refine r_getI (pc' := 99) dX11_is_96 rfl fX11_144 rfl (by first | assumption | rfl) (by omega) ?_
      refine r_ireturn dX11_is_99 rfl ?_
      refine ⟨?_, rfl, rfl, rfl, rfl⟩
      unfold f_is
      first
        | (rw [if_pos (by omega), hc1]; rfl)
        | (rw [if_neg (by omega), if_pos (by omega)]; done)
        | (rw [if_neg (by omega), if_neg (by omega), if_pos (by omega), hc1]; rfl)
        | (rw [if_neg (by omega), if_neg (by omega), if_neg (by omega), if_pos (by omega)]; done)
        | (rw [if_neg (by omega), if_neg (by omega), if_neg (by omega), if_neg (by omega), if_pos (by omega)]; done)
        | (rw [if_neg (by omega), if_neg (by omega), if_neg (by omega), if_neg (by omega), if_neg (by omega)]; done)
    · refine r_tin (t := 100) (off := 99) dX11_is_1 (by first | omega | exact xv_in _ _ _) (by omega) (by omega) (by rw [hc1]; rfl) (by decide) ?_
      refine r_aload_n (i := 0) (pc' := 101) dX11_is_100 rfl rfl (.head _) ?_
      refine r_getR (pc' := 104) dX11_is_101 rfl fX11_10 rfl (by first | assumption | rfl) (by omega) (by assumption) ?_
      refine r_getI (pc' := 107) dX11_is_104 rfl fX11_147 rfl (by first | assumption | rfl) (by omega) ?_
      refine r_ireturn dX11_is_107 rfl ?_
      refine ⟨?_, rfl, rfl, rfl, rfl⟩
      unfold f_is
      first
        | (rw [if_pos (by omega), hc1]; rfl)
        | (rw [if_neg (by omega), if_pos (by omega)]; done)
        | (rw [if_neg (by omega), if_neg (by omega), if_pos (by omega), hc1]; rfl)
        | (rw [if_neg (by omega), if_neg (by omega), if_neg (by omega), if_pos (by omega)]; done)
        | (rw [if_neg (by omega), if_neg (by omega), if_neg (by omega), if_neg (by omega), if_pos (by omega)]; done)
        | (rw [if_neg (by omega), if_neg (by omega), if_neg (by omega), if_neg (by omega), if_neg (by omega)]; done)
    · refine r_tin (t := 108) (off := 107) dX11_is_1 (by first | omega | exact xv_in _ _ _) (by omega) (by omega) (by rw [hc1]; rfl) (by decide) ?_
      refine r_aload_n (i := 0) (pc' := 109) dX11_is_108 rfl rfl (.head _) ?_
      refine r_getR (pc' := 112) dX11_is_109 rfl fX11_10 rfl (by first | assumption | rfl) (by omega) (by assumption) ?_
      refine r_getI (pc' := 115) dX11_is_112 rfl fX11_150 rfl (by first | assumption | rfl) (by omega) ?_
      refine r_ireturn dX11_is_115 rfl ?_
      refine ⟨?_, rfl, rfl, rfl, rfl⟩
      unfold f_is
      first
        | (rw [if_pos (by omega), hc1]; rfl)
        | (rw [if_neg (by omega), if_pos (by omega)]; done)
        | (rw [if_neg (by omega), if_neg (by omega), if_pos (by omega), hc1]; rfl)
        | (rw [if_neg (by omega), if_neg (by omega), if_neg (by omega), if_pos (by omega)]; done)
        | (rw [if_neg (by omega), if_neg (by omega), if_neg (by omega), if_neg (by omega), if_pos (by omega)]; done)
        | (rw [if_neg (by omega), if_neg (by omega), if_neg (by omega), if_neg (by omega), if_neg (by omega)]; done)
    · refine r_tin (t := 116) (off := 115) dX11_is_1 (by first | omega | exact xv_in _ _ _) (by omega) (by omega) (by rw [hc1]; rfl) (by decide) ?_
      refine r_aload_n (i := 0) (pc' := 117) dX11_is_116 rfl rfl (.head _) ?_
      refine r_getR (pc' := 120) dX11_is_117 rfl fX11_10 rfl (by first | assumption | rfl) (by omega) (by assumption) ?_
      refine r_getI (pc' := 123) dX11_is_120 rfl fX11_115 rfl (by first | assumption | rfl) (by omega) ?_
      refine r_ireturn dX11_is_123 rfl ?_
      refine ⟨?_, rfl, rfl, rfl, rfl⟩
      unfold f_is
      first
        | (rw [if_pos (by omega), hc1]; rfl)
        | (rw [if_neg (by omega), if_pos (by omega)]; done)
        | (rw [if_neg (by omega), if_neg (by omega), if_pos (by omega), hc1]; rfl)
        | (rw [if_neg (by omega), if_neg (by omega), if_neg (by omega), if_pos (by omega)]; done)
        | (rw [if_neg (by omega), if_neg (by omega), if_neg (by omega), if_neg (by omega), if_pos (by omega)]; done)
        | (rw [if_neg (by omega), if_neg (by omega), if_neg (by omega), if_neg (by omega), if_neg (by omega)]; done)
    · refine r_tin (t := 124) (off := 123) dX11_is_1 (by first | omega | exact xv_in _ _ _) (by omega) (by omega) (by rw [hc1]; rfl) (by decide) ?_
      refine r_aload_n (i := 0) (pc' := 125) dX11_is_124 rfl rfl (.head _) ?_
      refine r_getR (pc' := 128) dX11_is_125 rfl fX11_10 rfl (by first | assumption | rfl) (by omega) (by assumption) ?_
      refine r_getI (pc' := 131) dX11_is_128 rfl fX11_153 rfl (by first | assumption | rfl) (by omega) ?_
      refine r_ireturn dX11_is_131 rfl ?_
      refine ⟨?_, rfl, rfl, rfl, rfl⟩
      unfold f_is
      first
        | (rw [if_pos (by omega), hc1]; rfl)
        | (rw [if_neg (by omega), if_pos (by omega)]; done)
        | (rw [if_neg (by omega), if_neg (by omega), if_pos (by omega), hc1]; rfl)
        | (rw [if_neg (by omega), if_neg (by omega), if_neg (by omega), if_pos (by omega)]; done)
        | (rw [if_neg (by omega), if_neg (by omega), if_neg (by omega), if_neg (by omega), if_pos (by omega)]; done)
        | (rw [if_neg (by omega), if_neg (by omega), if_neg (by omega), if_neg (by omega), if_neg (by omega)]; done)
    · refine r_tin (t := 132) (off := 131) dX11_is_1 (by first | omega | exact xv_in _ _ _) (by omega) (by omega) (by rw [hc1]; rfl) (by decide) ?_
      refine r_aload_n (i := 0) (pc' := 133) dX11_is_132 rfl rfl (.head _) ?_
      refine r_getR (pc' := 136) dX11_is_133 rfl fX11_10 rfl (by first | assumption | rfl) (by omega) (by assumption) ?_
      refine r_iconst (pc' := 137) dX11_is_136 rfl ?_
      refine r_V1p (ci := 1) (pc' := 140) dX11_is_137 rfl lX11_154 rfl (by decide) (Nat.le_of_ble_eq_true rfl) (by first | assumption | rfl) (by omega) (tX1_manyThatAre (by assumption) (by assumption) (by omega)) ?_
      refine r_ireturn dX11_is_140 rfl ?_
      refine ⟨?_, rfl, rfl, rfl, rfl⟩
      unfold f_is
      first
        | (rw [if_pos (by omega), hc1]; rfl)
        | (rw [if_neg (by omega), if_pos (by omega)]; done)
        | (rw [if_neg (by omega), if_neg (by omega), if_pos (by omega), hc1]; rfl)
        | (rw [if_neg (by omega), if_neg (by omega), if_neg (by omega), if_pos (by omega)]; done)
        | (rw [if_neg (by omega), if_neg (by omega), if_neg (by omega), if_neg (by omega), if_pos (by omega)]; done)
        | (rw [if_neg (by omega), if_neg (by omega), if_neg (by omega), if_neg (by omega), if_neg (by omega)]; done)
    · refine r_tin (t := 141) (off := 140) dX11_is_1 (by first | omega | exact xv_in _ _ _) (by omega) (by omega) (by rw [hc1]; rfl) (by decide) ?_
      refine r_aload_n (i := 0) (pc' := 142) dX11_is_141 rfl rfl (.head _) ?_
      refine r_getR (pc' := 145) dX11_is_142 rfl fX11_10 rfl (by first | assumption | rfl) (by omega) (by assumption) ?_
      refine r_iconst (pc' := 146) dX11_is_145 rfl ?_
      refine r_V1p (ci := 1) (pc' := 149) dX11_is_146 rfl lX11_154 rfl (by decide) (Nat.le_of_ble_eq_true rfl) (by first | assumption | rfl) (by omega) (tX1_manyThatAre (by assumption) (by assumption) (by omega)) ?_
      refine r_ireturn dX11_is_149 rfl ?_
      refine ⟨?_, rfl, rfl, rfl, rfl⟩
      unfold f_is
      first
        | (rw [if_pos (by omega), hc1]; rfl)
        | (rw [if_neg (by omega), if_pos (by omega)]; done)
        | (rw [if_neg (by omega), if_neg (by omega), if_pos (by omega), hc1]; rfl)
        | (rw [if_neg (by omega), if_neg (by omega), if_neg (by omega), if_pos (by omega)]; done)
        | (rw [if_neg (by omega), if_neg (by omega), if_neg (by omega), if_neg (by omega), if_pos (by omega)]; done)
        | (rw [if_neg (by omega), if_neg (by omega), if_neg (by omega), if_neg (by omega), if_neg (by omega)]; done)
    · refine r_tin (t := 150) (off := 149) dX11_is_1 (by first | omega | exact xv_in _ _ _) (by omega) (by omega) (by rw [hc1]; rfl) (by decide) ?_
      refine r_aload_n (i := 0) (pc' := 151) dX11_is_150 rfl rfl (.head _) ?_
      refine r_getR (pc' := 154) dX11_is_151 rfl fX11_10 rfl (by first | assumption | rfl) (by omega) (by assumption) ?_
      refine r_iconst (pc' := 155) dX11_is_154 rfl ?_
      refine r_V1p (ci := 1) (pc' := 158) dX11_is_155 rfl lX11_154 rfl (by decide) (Nat.le_of_ble_eq_true rfl) (by first | assumption | rfl) (by omega) (tX1_manyThatAre (by assumption) (by assumption) (by omega)) ?_
      refine r_ireturn dX11_is_158 rfl ?_
      refine ⟨?_, rfl, rfl, rfl, rfl⟩
      unfold f_is
      first
        | (rw [if_pos (by omega), hc1]; rfl)
        | (rw [if_neg (by omega), if_pos (by omega)]; done)
        | (rw [if_neg (by omega), if_neg (by omega), if_pos (by omega), hc1]; rfl)
        | (rw [if_neg (by omega), if_neg (by omega), if_neg (by omega), if_pos (by omega)]; done)
        | (rw [if_neg (by omega), if_neg (by omega), if_neg (by omega), if_neg (by omega), if_pos (by omega)]; done)
        | (rw [if_neg (by omega), if_neg (by omega), if_neg (by omega), if_neg (by omega), if_neg (by omega)]; done)
    · refine r_tin (t := 159) (off := 158) dX11_is_1 (by first | omega | exact xv_in _ _ _) (by omega) (by omega) (by rw [hc1]; rfl) (by decide) ?_
      refine r_aload_n (i := 0) (pc' := 160) dX11_is_159 rfl rfl (.head _) ?_
      refine r_getR (pc' := 163) dX11_is_160 rfl fX11_26 rfl (by first | assumption | rfl) (by omega) (by assumption) ?_
      refine r_getI (pc' := 166) dX11_is_163 rfl fX11_157 rfl (by first | assumption | rfl) (by omega) ?_
      refine r_ireturn dX11_is_166 rfl ?_
      refine ⟨?_, rfl, rfl, rfl, rfl⟩
      unfold f_is
      first
        | (rw [if_pos (by omega), hc1]; rfl)
        | (rw [if_neg (by omega), if_pos (by omega)]; done)
        | (rw [if_neg (by omega), if_neg (by omega), if_pos (by omega), hc1]; rfl)
        | (rw [if_neg (by omega), if_neg (by omega), if_neg (by omega), if_pos (by omega)]; done)
        | (rw [if_neg (by omega), if_neg (by omega), if_neg (by omega), if_neg (by omega), if_pos (by omega)]; done)
        | (rw [if_neg (by omega), if_neg (by omega), if_neg (by omega), if_neg (by omega), if_neg (by omega)]; done)
    · refine r_tin (t := 167) (off := 166) dX11_is_1 (by first | omega | exact xv_in _ _ _) (by omega) (by omega) (by rw [hc1]; rfl) (by decide) ?_
      refine r_aload_n (i := 0) (pc' := 168) dX11_is_167 rfl rfl (.head _) ?_
      refine r_getR (pc' := 171) dX11_is_168 rfl fX11_33 rfl (by first | assumption | rfl) (by omega) (by assumption) ?_
      refine r_getR (pc' := 174) dX11_is_171 rfl fX11_77 rfl (by first | assumption | rfl) (by omega) (by assumption) ?_
      refine r_getI (pc' := 177) dX11_is_174 rfl fX11_80 rfl (by first | assumption | rfl) (by omega) ?_
      refine r_ireturn dX11_is_177 rfl ?_
      refine ⟨?_, rfl, rfl, rfl, rfl⟩
      unfold f_is
      first
        | (rw [if_pos (by omega), hc1]; rfl)
        | (rw [if_neg (by omega), if_pos (by omega)]; done)
        | (rw [if_neg (by omega), if_neg (by omega), if_pos (by omega), hc1]; rfl)
        | (rw [if_neg (by omega), if_neg (by omega), if_neg (by omega), if_pos (by omega)]; done)
        | (rw [if_neg (by omega), if_neg (by omega), if_neg (by omega), if_neg (by omega), if_pos (by omega)]; done)
        | (rw [if_neg (by omega), if_neg (by omega), if_neg (by omega), if_neg (by omega), if_neg (by omega)]; done)
set_option maxHeartbeats 4000000 in
set_option maxRecDepth 100000 in
theorem tX11_share {l : Launch} {g : q_G} {n : Nat} {P : q_P} {X : q_X} {Y : q_Y} {b : Nat} (hF : isFace n P b) (hb : isBk n P b) (hO : bOk X b) {y : Int} (hy : q_in y) : q_Met l g mX11_share 1 [.ref (g.1 + 0), .int (zi y)] n P X Y (q_pv (.int (zi (f_share X b y))) n P X Y) := by
  obtain ⟨f0, f2, f3, f4, f5, f6, f7, f8, hn0⟩ := id hF
  obtain ⟨b0, b1, b2, b3, q7, q8, q9, q11, q12, q13, hn, hpro, hmar, hfor, hcs⟩ := id hb
  obtain ⟨o0, o1, o2, o3, o4, o5, o6, o10, oc, op0, opz, opi, om0, omi, olim⟩ := id hO
  refine q_enter (L := [(0, .ref (g.1 + 0)), (1, .int (zi y))]) (by decide) (Nat.le_of_ble_eq_true rfl) rfl ?_
  refine r_iload_n (i := 1) (pc' := 1) dX11_share_0 rfl rfl (.tail _ (.head _)) ?_
  refine r_S1p (pc' := 4) dX11_share_1 rfl lX11_158 (by decide) (Nat.le_of_ble_eq_true rfl) (tX11_isYear (by first | omega | exact xv_in _ _ _)) ?_
  refine r_bif_ne (t := 9) (f := 7) dX11_share_4 (by decide) rfl (fun h4 => ?_) (fun h4 => ?_)
  · refine r_aload_n (i := 0) (pc' := 10) dX11_share_9 rfl rfl (.head _) ?_
    refine r_getR (pc' := 13) dX11_share_10 rfl fX11_10 rfl (by first | assumption | rfl) (by omega) (by assumption) ?_
    refine r_getR (pc' := 16) dX11_share_13 rfl fX11_161 rfl (by first | assumption | rfl) (by omega) (by assumption) ?_
    refine r_iload_n (i := 1) (pc' := 17) dX11_share_16 rfl rfl (.tail _ (.head _)) ?_
    refine r_iaload (pc' := 18) dX11_share_17 rfl (by first | assumption | rfl) (by omega) (by omega) (by omega) (by first | decide | omega) rfl ?_
    refine r_istore_n (i := 2) (pc' := 19) dX11_share_18 rfl rfl rfl (.s1 (.s1 .nil rfl rfl rfl) rfl rfl rfl) ?_
    refine r_iload_n (i := 2) (pc' := 20) dX11_share_19 rfl rfl (.tail _ (.tail _ (.head _))) ?_
    refine r_iconst (pc' := 21) dX11_share_20 rfl ?_
    refine r_icmp_ge (t := 27) (f := 24) dX11_share_21 (by decide) rfl (by first | omega | exact xv_in _ _ _) (by first | omega | exact xv_in _ _ _) (fun h21 => ?_) (fun h21 => ?_)
    · refine r_aload_n (i := 0) (pc' := 28) dX11_share_27 rfl rfl (.head _) ?_
      refine r_getR (pc' := 31) dX11_share_28 rfl fX11_10 rfl (by first | assumption | rfl) (by omega) (by assumption) ?_
      refine r_getR (pc' := 34) dX11_share_31 rfl fX11_165 rfl (by first | assumption | rfl) (by omega) (by assumption) ?_
      refine r_iload_n (i := 1) (pc' := 35) dX11_share_34 rfl rfl (.tail _ (.head _)) ?_
      refine r_iaload (pc' := 36) dX11_share_35 rfl (by first | assumption | rfl) (by omega) (by omega) (by omega) (by first | decide | omega) rfl ?_
      refine r_i2l (pc' := 37) dX11_share_36 rfl rfl ?_
      refine r_ldc2 (pc' := 40) dX11_share_37 rfl kX11_400 ?_
      refine r_lmul (pc' := 41) dX11_share_40 rfl ?_
      refine r_iload_n (i := 2) (pc' := 42) dX11_share_41 rfl rfl (.tail _ (.tail _ (.head _))) ?_
      refine r_i2l (pc' := 43) dX11_share_42 rfl rfl ?_
      refine r_ldiv (pc' := 44) dX11_share_43 rfl (i64_ne0 (xv_in _ _ _) (by omega)) ?_
      refine r_ldc2 (pc' := 47) dX11_share_44 rfl kX11_402 ?_
      refine r_minL (pc' := 50) dX11_share_47 rfl lX11_404 (by decide) (Nat.le_of_ble_eq_true rfl) ?_
      refine r_l2i (pc' := 51) dX11_share_50 rfl ((zi_of _).symm) ?_
      refine r_ireturn dX11_share_51 rfl ?_
      refine ⟨?_, rfl, rfl, rfl, rfl⟩
      unfold f_share
      first | (rw [if_pos (by omega)]; done) | (rw [if_neg (by omega), if_pos (by omega)]; done) | (rw [if_neg (c := ¬ (0 ≤ y ∧ y < 20)) (by omega), if_neg (c := xv X (b + 1) y.toNat < 1) (by omega)]; done)
    · refine r_bipush (pc' := 26) dX11_share_24 rfl (by decide) ?_
      refine r_ireturn dX11_share_26 rfl ?_
      refine ⟨?_, rfl, rfl, rfl, rfl⟩
      unfold f_share
      first | (rw [if_pos (by omega)]; done) | (rw [if_neg (by omega), if_pos (by omega)]; done) | (rw [if_neg (c := ¬ (0 ≤ y ∧ y < 20)) (by omega), if_neg (c := xv X (b + 1) y.toNat < 1) (by omega)]; done)
  · refine r_iconst (pc' := 8) dX11_share_7 rfl ?_
    refine r_ireturn dX11_share_8 rfl ?_
    refine ⟨?_, rfl, rfl, rfl, rfl⟩
    unfold f_share
    first | (rw [if_pos (by omega)]; done) | (rw [if_neg (by omega), if_pos (by omega)]; done) | (rw [if_neg (c := ¬ (0 ≤ y ∧ y < 20)) (by omega), if_neg (c := xv X (b + 1) y.toNat < 1) (by omega)]; done)
set_option maxHeartbeats 4000000 in
set_option maxRecDepth 100000 in
theorem tX11_offer {l : Launch} {g : q_G} {n : Nat} {P : q_P} {X : q_X} {Y : q_Y} {b : Nat} (hF : isFace n P b) (hb : isBk n P b) (hO : bOk X b) {i w : Int} (hi : q_in i) (hw : q_in w) : q_Met l g mX11_offer 3 [.ref (g.1 + 0), .int (zi i), .int (zi w)] n P X Y (q_pv (.int (zi (f_offer X b i w))) n P X Y) := by
  obtain ⟨f0, f2, f3, f4, f5, f6, f7, f8, hn0⟩ := id hF
  obtain ⟨b0, b1, b2, b3, q7, q8, q9, q11, q12, q13, hn, hpro, hmar, hfor, hcs⟩ := id hb
  obtain ⟨o0, o1, o2, o3, o4, o5, o6, o10, oc, op0, opz, opi, om0, omi, olim⟩ := id hO
  refine q_enter (L := [(0, .ref (g.1 + 0)), (1, .int (zi i)), (2, .int (zi w))]) (by decide) (Nat.le_of_ble_eq_true rfl) rfl ?_
  obtain ⟨a0, a1, a2, a3, a4, u1, u2, u3, u4, hnm⟩ := isBk.mar hmar
  refine r_aload_n (i := 0) (pc' := 1) dX11_offer_0 rfl rfl (.head _) ?_
  refine r_getR (pc' := 4) dX11_offer_1 rfl fX11_10 rfl (by first | assumption | rfl) (by omega) (by assumption) ?_
  refine r_getR (pc' := 7) dX11_offer_4 rfl fX11_111 rfl (by first | assumption | rfl) (by omega) (by assumption) ?_
  refine r_astore_n (i := 3) (pc' := 8) dX11_offer_7 rfl rfl rfl (.s1 (.s1 (.s1 .nil rfl rfl rfl) rfl rfl rfl) rfl rfl rfl) ?_
  refine r_aload_n (i := 3) (pc' := 9) dX11_offer_8 rfl rfl (.tail _ (.tail _ (.tail _ (.head _)))) ?_
  refine r_iload_n (i := 1) (pc' := 10) dX11_offer_9 rfl rfl (.tail _ (.head _)) ?_
  refine r_V1p (ci := 7) (pc' := 13) dX11_offer_10 rfl lX11_411 rfl (by decide) (Nat.le_of_ble_eq_true rfl) (by first | assumption | rfl) (by omega) (tX7_has (by assumption) (by omega)) ?_
  refine r_bif_ne (t := 18) (f := 16) dX11_offer_13 (by decide) rfl (fun h13 => ?_) (fun h13 => ?_)
  · refine r_iload_n (i := 2) (pc' := 19) dX11_offer_18 rfl rfl (.tail _ (.tail _ (.head _))) ?_
    by_cases hs19 : w < 0 ∨ 4 < w
    · refine r_tout (t := 86) dX11_offer_19 (by first | omega | exact xv_in _ _ _) hs19 (by decide) ?_
      refine r_iconst (pc' := 87) dX11_offer_86 rfl ?_
      refine r_ireturn dX11_offer_87 rfl ?_
      refine ⟨?_, rfl, rfl, rfl, rfl⟩
      unfold f_offer
      (repeat' split) <;> first | rfl | (exfalso; omega) | (congr 3; omega)
    · have hc19 : w = 0 ∨ w = 1 ∨ w = 2 ∨ w = 3 ∨ w = 4 := by omega
      rcases hc19 with hc19 | hc19 | hc19 | hc19 | hc19
      · refine r_tin (t := 52) (off := 33) dX11_offer_19 (by first | omega | exact xv_in _ _ _) (by omega) (by omega) (by rw [hc19]; rfl) (by decide) ?_
        refine r_aload_n (i := 3) (pc' := 53) dX11_offer_52 rfl rfl (.tail _ (.tail _ (.tail _ (.head _)))) ?_
        refine r_getR (pc' := 56) dX11_offer_53 rfl fX11_412 rfl (by first | assumption | rfl) (by omega) (by assumption) ?_
        refine r_iload_n (i := 1) (pc' := 57) dX11_offer_56 rfl rfl (.tail _ (.head _)) ?_
        refine r_iaload (pc' := 58) dX11_offer_57 rfl (by first | assumption | rfl) (by omega) (by omega) (by omega) (by first | decide | omega) rfl ?_
        refine r_ireturn dX11_offer_58 rfl ?_
        refine ⟨?_, rfl, rfl, rfl, rfl⟩
        unfold f_offer
        (repeat' split) <;> first | rfl | (exfalso; omega) | (congr 3; omega)
      · refine r_tin (t := 59) (off := 40) dX11_offer_19 (by first | omega | exact xv_in _ _ _) (by omega) (by omega) (by rw [hc19]; rfl) (by decide) ?_
        refine r_aload_n (i := 3) (pc' := 60) dX11_offer_59 rfl rfl (.tail _ (.tail _ (.tail _ (.head _)))) ?_
        refine r_getR (pc' := 63) dX11_offer_60 rfl fX11_415 rfl (by first | assumption | rfl) (by omega) (by assumption) ?_
        refine r_iload_n (i := 1) (pc' := 64) dX11_offer_63 rfl rfl (.tail _ (.head _)) ?_
        refine r_iaload (pc' := 65) dX11_offer_64 rfl (by first | assumption | rfl) (by omega) (by omega) (by omega) (by first | decide | omega) rfl ?_
        refine r_ireturn dX11_offer_65 rfl ?_
        refine ⟨?_, rfl, rfl, rfl, rfl⟩
        unfold f_offer
        (repeat' split) <;> first | rfl | (exfalso; omega) | (congr 3; omega)
      · refine r_tin (t := 66) (off := 47) dX11_offer_19 (by first | omega | exact xv_in _ _ _) (by omega) (by omega) (by rw [hc19]; rfl) (by decide) ?_
        refine r_aload_n (i := 3) (pc' := 67) dX11_offer_66 rfl rfl (.tail _ (.tail _ (.tail _ (.head _)))) ?_
        refine r_getR (pc' := 70) dX11_offer_67 rfl fX11_417 rfl (by first | assumption | rfl) (by omega) (by assumption) ?_
        refine r_iload_n (i := 1) (pc' := 71) dX11_offer_70 rfl rfl (.tail _ (.head _)) ?_
        refine r_iaload (pc' := 72) dX11_offer_71 rfl (by first | assumption | rfl) (by omega) (by omega) (by omega) (by first | decide | omega) rfl ?_
        refine r_ireturn dX11_offer_72 rfl ?_
        refine ⟨?_, rfl, rfl, rfl, rfl⟩
        unfold f_offer
        (repeat' split) <;> first | rfl | (exfalso; omega) | (congr 3; omega)
      · refine r_tin (t := 73) (off := 54) dX11_offer_19 (by first | omega | exact xv_in _ _ _) (by omega) (by omega) (by rw [hc19]; rfl) (by decide) ?_
        refine r_aload_n (i := 3) (pc' := 74) dX11_offer_73 rfl rfl (.tail _ (.tail _ (.tail _ (.head _)))) ?_
        refine r_getR (pc' := 77) dX11_offer_74 rfl fX11_420 rfl (by first | assumption | rfl) (by omega) (by assumption) ?_
        refine r_iload_n (i := 1) (pc' := 78) dX11_offer_77 rfl rfl (.tail _ (.head _)) ?_
        refine r_iaload (pc' := 79) dX11_offer_78 rfl (by first | assumption | rfl) (by omega) (by omega) (by omega) (by first | decide | omega) rfl ?_
        refine r_ireturn dX11_offer_79 rfl ?_
        refine ⟨?_, rfl, rfl, rfl, rfl⟩
        unfold f_offer
        (repeat' split) <;> first | rfl | (exfalso; omega) | (congr 3; omega)
      · refine r_tin (t := 80) (off := 61) dX11_offer_19 (by first | omega | exact xv_in _ _ _) (by omega) (by omega) (by rw [hc19]; rfl) (by decide) ?_
        refine r_aload_n (i := 3) (pc' := 81) dX11_offer_80 rfl rfl (.tail _ (.tail _ (.tail _ (.head _)))) ?_
        rw [← Int.toNat_of_nonneg (a := i) (by omega)]
        refine r_iload_n (i := 1) (pc' := 82) dX11_offer_81 rfl rfl (.tail _ (.head _)) ?_
        refine r_V1p (ci := 7) (pc' := 85) dX11_offer_82 rfl lX11_423 rfl (by decide) (Nat.le_of_ble_eq_true rfl) (by first | assumption | rfl) (by omega) (tB_mhit hmar (by omega)) ?_
        refine r_ireturn dX11_offer_85 rfl ?_
        refine ⟨?_, rfl, rfl, rfl, rfl⟩
        unfold f_offer
        (repeat' split) <;> first | rfl | (exfalso; omega) | (congr 3; omega)
  · refine r_iconst (pc' := 17) dX11_offer_16 rfl ?_
    refine r_ireturn dX11_offer_17 rfl ?_
    refine ⟨?_, rfl, rfl, rfl, rfl⟩
    unfold f_offer
    (repeat' split) <;> first | rfl | (exfalso; omega) | (congr 3; omega)
set_option maxHeartbeats 4000000 in
set_option maxRecDepth 100000 in
theorem tX11_promised {l : Launch} {g : q_G} {n : Nat} {P : q_P} {X : q_X} {Y : q_Y} {b : Nat} (hF : isFace n P b) (hb : isBk n P b) (hO : bOk X b) {i w : Int} (hi : q_in i) (hw : q_in w) : q_Met l g mX11_promised 1 [.ref (g.1 + 0), .int (zi i), .int (zi w)] n P X Y (q_pv (.int (zi (f_promised X b i w))) n P X Y) := by
  obtain ⟨f0, f2, f3, f4, f5, f6, f7, f8, hn0⟩ := id hF
  obtain ⟨b0, b1, b2, b3, q7, q8, q9, q11, q12, q13, hn, hpro, hmar, hfor, hcs⟩ := id hb
  obtain ⟨o0, o1, o2, o3, o4, o5, o6, o10, oc, op0, opz, opi, om0, omi, olim⟩ := id hO
  refine q_enter (L := [(0, .ref (g.1 + 0)), (1, .int (zi i)), (2, .int (zi w))]) (by decide) (Nat.le_of_ble_eq_true rfl) rfl ?_
  obtain ⟨c0, c1, c2, c3, c4, c5, v1, v2, v3, v4, v5, hnp⟩ := isBk.pro hpro
  refine r_aload_n (i := 0) (pc' := 1) dX11_promised_0 rfl rfl (.head _) ?_
  refine r_getR (pc' := 4) dX11_promised_1 rfl fX11_10 rfl (by first | assumption | rfl) (by omega) (by assumption) ?_
  refine r_getR (pc' := 7) dX11_promised_4 rfl fX11_254 rfl (by first | assumption | rfl) (by omega) (by assumption) ?_
  refine r_astore_n (i := 3) (pc' := 8) dX11_promised_7 rfl rfl rfl (.s1 (.s1 (.s1 .nil rfl rfl rfl) rfl rfl rfl) rfl rfl rfl) ?_
  refine r_aload_n (i := 3) (pc' := 9) dX11_promised_8 rfl rfl (.tail _ (.tail _ (.tail _ (.head _)))) ?_
  refine r_iload_n (i := 1) (pc' := 10) dX11_promised_9 rfl rfl (.tail _ (.head _)) ?_
  refine r_V1p (ci := 8) (pc' := 13) dX11_promised_10 rfl lX11_267 rfl (by decide) (Nat.le_of_ble_eq_true rfl) (by first | assumption | rfl) (by omega) (tX8_has (by assumption) (by omega)) ?_
  refine r_bif_ne (t := 18) (f := 16) dX11_promised_13 (by decide) rfl (fun h13 => ?_) (fun h13 => ?_)
  · have hz1 := opz i.toNat (by omega)
    refine r_iload_n (i := 2) (pc' := 19) dX11_promised_18 rfl rfl (.tail _ (.tail _ (.head _))) ?_
    by_cases hs19 : w < 0 ∨ 4 < w
    · refine r_tout (t := 103) dX11_promised_19 (by first | omega | exact xv_in _ _ _) hs19 (by decide) ?_
      refine r_iconst (pc' := 104) dX11_promised_103 rfl ?_
      refine r_ireturn dX11_promised_104 rfl ?_
      refine ⟨?_, rfl, rfl, rfl, rfl⟩
      unfold f_promised
      (repeat' split) <;> first | rfl | (exfalso; omega) | (congr 3; omega)
    · have hc19 : w = 0 ∨ w = 1 ∨ w = 2 ∨ w = 3 ∨ w = 4 := by omega
      rcases hc19 with hc19 | hc19 | hc19 | hc19 | hc19
      · refine r_tin (t := 52) (off := 33) dX11_promised_19 (by first | omega | exact xv_in _ _ _) (by omega) (by omega) (by rw [hc19]; rfl) (by decide) ?_
        refine r_aload_n (i := 3) (pc' := 53) dX11_promised_52 rfl rfl (.tail _ (.tail _ (.tail _ (.head _)))) ?_
        refine r_getR (pc' := 56) dX11_promised_53 rfl fX11_276 rfl (by first | assumption | rfl) (by omega) (by assumption) ?_
        refine r_iload_n (i := 1) (pc' := 57) dX11_promised_56 rfl rfl (.tail _ (.head _)) ?_
        refine r_iaload (pc' := 58) dX11_promised_57 rfl (by first | assumption | rfl) (by omega) (by omega) (by omega) (by first | decide | omega) rfl ?_
        refine r_ireturn dX11_promised_58 rfl ?_
        refine ⟨?_, rfl, rfl, rfl, rfl⟩
        unfold f_promised
        (repeat' split) <;> first | rfl | (exfalso; omega) | (congr 3; omega)
      · refine r_tin (t := 59) (off := 40) dX11_promised_19 (by first | omega | exact xv_in _ _ _) (by omega) (by omega) (by rw [hc19]; rfl) (by decide) ?_
        refine r_aload_n (i := 3) (pc' := 60) dX11_promised_59 rfl rfl (.tail _ (.tail _ (.tail _ (.head _)))) ?_
        refine r_getR (pc' := 63) dX11_promised_60 rfl fX11_274 rfl (by first | assumption | rfl) (by omega) (by assumption) ?_
        refine r_iload_n (i := 1) (pc' := 64) dX11_promised_63 rfl rfl (.tail _ (.head _)) ?_
        refine r_iaload (pc' := 65) dX11_promised_64 rfl (by first | assumption | rfl) (by omega) (by omega) (by omega) (by first | decide | omega) rfl ?_
        refine r_ireturn dX11_promised_65 rfl ?_
        refine ⟨?_, rfl, rfl, rfl, rfl⟩
        unfold f_promised
        (repeat' split) <;> first | rfl | (exfalso; omega) | (congr 3; omega)
      · refine r_tin (t := 66) (off := 47) dX11_promised_19 (by first | omega | exact xv_in _ _ _) (by omega) (by omega) (by rw [hc19]; rfl) (by decide) ?_
        refine r_aload_n (i := 3) (pc' := 67) dX11_promised_66 rfl rfl (.tail _ (.tail _ (.tail _ (.head _)))) ?_
        refine r_getR (pc' := 70) dX11_promised_67 rfl fX11_279 rfl (by first | assumption | rfl) (by omega) (by assumption) ?_
        refine r_iload_n (i := 1) (pc' := 71) dX11_promised_70 rfl rfl (.tail _ (.head _)) ?_
        refine r_iaload (pc' := 72) dX11_promised_71 rfl (by first | assumption | rfl) (by omega) (by omega) (by omega) (by first | decide | omega) rfl ?_
        refine r_ireturn dX11_promised_72 rfl ?_
        refine ⟨?_, rfl, rfl, rfl, rfl⟩
        unfold f_promised
        (repeat' split) <;> first | rfl | (exfalso; omega) | (congr 3; omega)
      · refine r_tin (t := 73) (off := 54) dX11_promised_19 (by first | omega | exact xv_in _ _ _) (by omega) (by omega) (by rw [hc19]; rfl) (by decide) ?_
        refine r_aload_n (i := 3) (pc' := 74) dX11_promised_73 rfl rfl (.tail _ (.tail _ (.tail _ (.head _)))) ?_
        refine r_getR (pc' := 77) dX11_promised_74 rfl fX11_430 rfl (by first | assumption | rfl) (by omega) (by assumption) ?_
        refine r_iload_n (i := 1) (pc' := 78) dX11_promised_77 rfl rfl (.tail _ (.head _)) ?_
        refine r_zaload (pc' := 79) dX11_promised_78 rfl (by first | assumption | rfl) (by omega) (by omega) (by omega) (by first | decide | omega) rfl ?_
        refine r_if_eq (t := 86) (f := 82) dX11_promised_79 (by decide) rfl (by first | omega | exact xv_in _ _ _) (fun h79 => ?_) (fun h79 => ?_)
        · refine r_iconst (pc' := 87) dX11_promised_86 rfl ?_
          refine r_ireturn dX11_promised_87 rfl ?_
          refine ⟨?_, rfl, rfl, rfl, rfl⟩
          unfold f_promised
          (repeat' split) <;> first | rfl | (exfalso; omega) | (congr 3; omega)
        · refine r_iconst (pc' := 83) dX11_promised_82 rfl ?_
          refine r_goto (t := 87) dX11_promised_83 (by decide) ?_
          refine r_ireturn dX11_promised_87 rfl ?_
          refine ⟨?_, rfl, rfl, rfl, rfl⟩
          unfold f_promised
          (repeat' split) <;> first | rfl | (exfalso; omega) | (congr 3; omega)
      · refine r_tin (t := 88) (off := 69) dX11_promised_19 (by first | omega | exact xv_in _ _ _) (by omega) (by omega) (by rw [hc19]; rfl) (by decide) ?_
        refine r_aload_n (i := 3) (pc' := 89) dX11_promised_88 rfl rfl (.tail _ (.tail _ (.tail _ (.head _)))) ?_
        refine r_getR (pc' := 92) dX11_promised_89 rfl fX11_270 rfl (by first | assumption | rfl) (by omega) (by assumption) ?_
        refine r_iload_n (i := 1) (pc' := 93) dX11_promised_92 rfl rfl (.tail _ (.head _)) ?_
        refine r_zaload (pc' := 94) dX11_promised_93 rfl (by first | assumption | rfl) (by omega) (by omega) (by omega) (by first | decide | omega) rfl ?_
        refine r_if_eq (t := 101) (f := 97) dX11_promised_94 (by decide) rfl (by first | omega | exact xv_in _ _ _) (fun h94 => ?_) (fun h94 => ?_)
        · refine r_iconst (pc' := 102) dX11_promised_101 rfl ?_
          refine r_ireturn dX11_promised_102 rfl ?_
          refine ⟨?_, rfl, rfl, rfl, rfl⟩
          unfold f_promised
          (repeat' split) <;> first | rfl | (exfalso; omega) | (congr 3; omega)
        · refine r_iconst (pc' := 98) dX11_promised_97 rfl ?_
          refine r_goto (t := 102) dX11_promised_98 (by decide) ?_
          refine r_ireturn dX11_promised_102 rfl ?_
          refine ⟨?_, rfl, rfl, rfl, rfl⟩
          unfold f_promised
          (repeat' split) <;> first | rfl | (exfalso; omega) | (congr 3; omega)
  · refine r_iconst (pc' := 17) dX11_promised_16 rfl ?_
    refine r_ireturn dX11_promised_17 rfl ?_
    refine ⟨?_, rfl, rfl, rfl, rfl⟩
    unfold f_promised
    (repeat' split) <;> first | rfl | (exfalso; omega) | (congr 3; omega)
set_option maxHeartbeats 4000000 in
set_option maxRecDepth 100000 in
theorem lX11_over {l : Launch} {g : q_G} {n : Nat} {P : q_P} {X : q_X} {Y : q_Y} {b : Nat} (hF : isFace n P b) (hb : isBk n P b) (hO : bOk X b) {k : Nat} (hk10 : k ≤ 10) : ∀ (w i : Nat), i + w = k → q_Tr l g mX11_over 4 (q_pv (.int (zi (f_ovb X b k))) n P X Y) 17 [(0, .ref (g.1 + 0)), (1, .int (zi (k : Int))), (2, .int (zi (f_ovb X b i))), (3, .int (zi (i : Int)))] [] n P X Y := by
  obtain ⟨f0, f2, f3, f4, f5, f6, f7, f8, hn0⟩ := id hF
  obtain ⟨b0, b1, b2, b3, q7, q8, q9, q11, q12, q13, hn, hpro, hmar, hfor, hcs⟩ := id hb
  obtain ⟨o0, o1, o2, o3, o4, o5, o6, o10, oc, op0, opz, opi, om0, omi, olim⟩ := id hO
  intro w
  induction w with
  | zero =>
    intro i hk
    obtain rfl : i = k := by omega
    refine r_iload_n (i := 3) (pc' := 18) dX11_over_17 rfl rfl (.tail _ (.tail _ (.tail _ (.head _)))) ?_
    refine r_iload_n (i := 1) (pc' := 19) dX11_over_18 rfl rfl (.tail _ (.head _)) ?_
    refine r_icmp_ge (t := 77) (f := 22) dX11_over_19 (by decide) rfl (by first | omega | exact xv_in _ _ _) (by first | omega | exact xv_in _ _ _) (fun h19 => ?_) (fun h19 => ?_)
    · refine r_iload_n (i := 2) (pc' := 78) dX11_over_77 rfl rfl (.tail _ (.tail _ (.head _))) ?_
      refine r_ireturn dX11_over_78 rfl ?_
      exact ⟨rfl, rfl, rfl, rfl, rfl⟩
    · exfalso; omega
  | succ w ih =>
    intro i hk
    refine r_iload_n (i := 3) (pc' := 18) dX11_over_17 rfl rfl (.tail _ (.tail _ (.tail _ (.head _)))) ?_
    refine r_iload_n (i := 1) (pc' := 19) dX11_over_18 rfl rfl (.tail _ (.head _)) ?_
    refine r_icmp_ge (t := 77) (f := 22) dX11_over_19 (by decide) rfl (by first | omega | exact xv_in _ _ _ | exact nz_in _) (by first | omega | exact xv_in _ _ _ | exact nz_in _) (fun h19 => ?_) (fun h19 => ?_)
    · exfalso; omega
    · refine r_aload_n (i := 0) (pc' := 23) dX11_over_22 rfl rfl (.head _) ?_
      refine r_getR (pc' := 26) dX11_over_23 rfl fX11_10 rfl (by first | assumption | rfl) (by omega) (by assumption) ?_
      refine r_getI (pc' := 29) dX11_over_26 rfl fX11_135 rfl (by first | assumption | rfl) (by omega) ?_
      refine r_iconst (pc' := 30) dX11_over_29 rfl ?_
      refine r_iadd (pc' := 31) dX11_over_30 rfl ?_
      refine r_iload_n (i := 3) (pc' := 32) dX11_over_31 rfl rfl (.tail _ (.tail _ (.tail _ (.head _)))) ?_
      refine r_iadd (pc' := 33) dX11_over_32 rfl ?_
      refine r_istore (pc' := 35) dX11_over_33 rfl rfl (.s1 (.s1 (.s1 (.s1 .nil rfl rfl rfl) rfl rfl rfl) rfl rfl rfl) rfl rfl rfl) ?_
      refine r_iload (pc' := 37) dX11_over_35 rfl (.tail _ (.tail _ (.tail _ (.tail _ (.head _))))) ?_
      refine r_S1p (pc' := 40) dX11_over_37 rfl lX11_158 (by decide) (Nat.le_of_ble_eq_true rfl) (tX11_isYear (by first | omega | exact xv_in _ _ _)) ?_
      refine r_bif_eq (t := 71) (f := 43) dX11_over_40 (by decide) rfl (fun h40 => ?_) (fun h40 => ?_)
      · refine r_iinc (pc' := 74) dX11_over_71 rfl rfl (.tail _ (.tail _ (.tail _ (.head _)))) (.s1 (.s1 (.s1 (.here (.s1 .nil rfl rfl rfl)) rfl rfl rfl) rfl rfl rfl) rfl rfl rfl) ?_
        refine r_goto (t := 17) dX11_over_74 (by decide) ?_
        refine r_sub (.kp (.kp (.kp (.kp (.dr .nil))))) ?_
        have he := f_ovb.eq_2 X b i
        first
          | (rw [if_pos ⟨by omega, by omega, by omega⟩] at he; rw [← he]; exact ih (i + 1) (by omega))
          | (rw [if_neg (by omega)] at he; rw [← he]; exact ih (i + 1) (by omega))
      · refine r_aload_n (i := 0) (pc' := 44) dX11_over_43 rfl rfl (.head _) ?_
        refine r_getR (pc' := 47) dX11_over_44 rfl fX11_10 rfl (by first | assumption | rfl) (by omega) (by assumption) ?_
        refine r_iload (pc' := 49) dX11_over_47 rfl (.tail _ (.tail _ (.tail _ (.tail _ (.head _))))) ?_
        refine r_V1p (ci := 1) (pc' := 52) dX11_over_49 rfl lX11_344 rfl (by decide) (Nat.le_of_ble_eq_true rfl) (by first | assumption | rfl) (by omega) (tX1_countAhead hb hO (by omega)) ?_
        rw [← f_cnt, ← zi_nz (f_cnt X b _)]
        refine r_aload_n (i := 0) (pc' := 53) dX11_over_52 rfl rfl (.head _) ?_
        refine r_getR (pc' := 56) dX11_over_53 rfl fX11_10 rfl (by first | assumption | rfl) (by omega) (by assumption) ?_
        refine r_getR (pc' := 59) dX11_over_56 rfl fX11_161 rfl (by first | assumption | rfl) (by omega) (by assumption) ?_
        refine r_iload (pc' := 61) dX11_over_59 rfl (.tail _ (.tail _ (.tail _ (.tail _ (.head _))))) ?_
        refine r_iaload (pc' := 62) dX11_over_61 rfl (by first | assumption | rfl) (by omega) (by omega) (by omega) (by first | decide | omega) rfl ?_
        refine r_icmp_le (t := 71) (f := 65) dX11_over_62 (by decide) rfl (by first | omega | exact xv_in _ _ _ | exact nz_in _) (by first | omega | exact xv_in _ _ _ | exact nz_in _) (fun h62 => ?_) (fun h62 => ?_)
        · refine r_iinc (pc' := 74) dX11_over_71 rfl rfl (.tail _ (.tail _ (.tail _ (.head _)))) (.s1 (.s1 (.s1 (.here (.s1 .nil rfl rfl rfl)) rfl rfl rfl) rfl rfl rfl) rfl rfl rfl) ?_
          refine r_goto (t := 17) dX11_over_74 (by decide) ?_
          refine r_sub (.kp (.kp (.kp (.kp (.dr .nil))))) ?_
          have he := f_ovb.eq_2 X b i
          first
            | (rw [if_pos ⟨by omega, by omega, by omega⟩] at he; rw [← he]; exact ih (i + 1) (by omega))
            | (rw [if_neg (by omega)] at he; rw [← he]; exact ih (i + 1) (by omega))
        · refine r_iload_n (i := 2) (pc' := 66) dX11_over_65 rfl rfl (.tail _ (.tail _ (.head _))) ?_
          refine r_iconst (pc' := 67) dX11_over_66 rfl ?_
          refine r_iload_n (i := 3) (pc' := 68) dX11_over_67 rfl rfl (.tail _ (.tail _ (.tail _ (.head _)))) ?_
          refine r_ishl (pc' := 69) dX11_over_68 rfl (zi_shl1 i (by omega)) ?_
          refine r_ior (pc' := 70) dX11_over_69 rfl ((zi_of _).symm) ?_
          refine r_istore_n (i := 2) (pc' := 71) dX11_over_70 rfl rfl rfl (.s1 (.s1 (.here (.s1 (.s1 .nil rfl rfl rfl) rfl rfl rfl)) rfl rfl rfl) rfl rfl rfl) ?_
          refine r_iinc (pc' := 74) dX11_over_71 rfl rfl (.tail _ (.tail _ (.tail _ (.head _)))) (.s1 (.s1 (.s1 (.here (.s1 .nil rfl rfl rfl)) rfl rfl rfl) rfl rfl rfl) rfl rfl rfl) ?_
          refine r_goto (t := 17) dX11_over_74 (by decide) ?_
          refine r_sub (.kp (.kp (.kp (.kp (.dr .nil))))) ?_
          have he := f_ovb.eq_2 X b i
          first
            | (rw [if_pos ⟨by omega, by omega, by omega⟩] at he; rw [← he]; exact ih (i + 1) (by omega))
            | (rw [if_neg (by omega)] at he; rw [← he]; exact ih (i + 1) (by omega))
set_option maxHeartbeats 4000000 in
set_option maxRecDepth 100000 in
theorem tX11_over {l : Launch} {g : q_G} {n : Nat} {P : q_P} {X : q_X} {Y : q_Y} {b : Nat} (hF : isFace n P b) (hb : isBk n P b) (hO : bOk X b) {k : Int} (hk : q_in k) : q_Met l g mX11_over 4 [.ref (g.1 + 0), .int (zi k)] n P X Y (q_pv (.int (zi (f_over X b k))) n P X Y) := by
  obtain ⟨f0, f2, f3, f4, f5, f6, f7, f8, hn0⟩ := id hF
  obtain ⟨b0, b1, b2, b3, q7, q8, q9, q11, q12, q13, hn, hpro, hmar, hfor, hcs⟩ := id hb
  obtain ⟨o0, o1, o2, o3, o4, o5, o6, o10, oc, op0, opz, opi, om0, omi, olim⟩ := id hO
  refine q_enter (L := [(0, .ref (g.1 + 0)), (1, .int (zi k))]) (by decide) (Nat.le_of_ble_eq_true rfl) rfl ?_
  refine r_iload_n (i := 1) (pc' := 1) dX11_over_0 rfl rfl (.tail _ (.head _)) ?_
  refine r_iconst (pc' := 2) dX11_over_1 rfl ?_
  refine r_icmp_lt (t := 11) (f := 5) dX11_over_2 (by decide) rfl (by first | omega | exact xv_in _ _ _) (by first | omega | exact xv_in _ _ _) (fun h2 => ?_) (fun h2 => ?_)
  · refine r_iconst (pc' := 12) dX11_over_11 rfl ?_
    refine r_ireturn dX11_over_12 rfl ?_
    refine ⟨?_, rfl, rfl, rfl, rfl⟩
    unfold f_over
    (repeat' split) <;> first | rfl | (exfalso; omega) | (congr 3; omega)
  · refine r_iload_n (i := 1) (pc' := 6) dX11_over_5 rfl rfl (.tail _ (.head _)) ?_
    refine r_bipush (pc' := 8) dX11_over_6 rfl (by decide) ?_
    refine r_icmp_le (t := 13) (f := 11) dX11_over_8 (by decide) rfl (by first | omega | exact xv_in _ _ _) (by first | omega | exact xv_in _ _ _) (fun h8 => ?_) (fun h8 => ?_)
    · refine r_iconst (pc' := 14) dX11_over_13 rfl ?_
      refine r_istore_n (i := 2) (pc' := 15) dX11_over_14 rfl rfl rfl (.s1 (.s1 .nil rfl rfl rfl) rfl rfl rfl) ?_
      refine r_iconst (pc' := 16) dX11_over_15 rfl ?_
      refine r_istore_n (i := 3) (pc' := 17) dX11_over_16 rfl rfl rfl (.s1 (.s1 (.s1 .nil rfl rfl rfl) rfl rfl rfl) rfl rfl rfl) ?_
      rw [f_over, if_neg (by omega), ← Int.toNat_of_nonneg (a := k) (by omega)]
      simp only [Int.toNat_natCast]
      exact lX11_over hF hb hO (k := k.toNat) (by omega) k.toNat 0 (by omega)
    · refine r_iconst (pc' := 12) dX11_over_11 rfl ?_
      refine r_ireturn dX11_over_12 rfl ?_
      refine ⟨?_, rfl, rfl, rfl, rfl⟩
      unfold f_over
      (repeat' split) <;> first | rfl | (exfalso; omega) | (congr 3; omega)
