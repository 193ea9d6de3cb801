theorem lgN_row {X : q_X} {a : Nat} {v : Int} {c : Nat} (h : c ≠ 468) : ∀ m, xv (lgN X a v m) c = xv X c
  | 0 => rfl
  | m + 1 => by rw [lgN, xv_up_row _ _ _ h, lgN_row h m]
set_option maxHeartbeats 4000000 in
set_option maxRecDepth 100000 in
theorem l2X12_init {l : Launch} {g : q_G} {P P0 : q_P} {X X0 : q_X} {Y Y0 : q_Y} (hm : isMod 481 P) (hN : nAg 467 P0 P X0 X Y0 Y) (h7 : ∀ j, xv X 467 j = if j = 6 ∨ j = 24 then -1 else 0) (h8 : ∀ a, (a = 468 ∨ a = 469) → ∀ j, xv X a j = 0) : ∀ (w i : Nat), i + w = 20 → q_Tr l g mX12_init 1 (q_gv (fun n' P' X' Y' => n' = 481 ∧ isMod 481 P' ∧ nAg 467 P0 P' X0 X' Y0 Y' ∧ (∀ j, xv X' 467 j = if j = 6 ∨ j = 24 then -1 else 0) ∧ (∀ j, xv X' 468 j = if 10 ≤ j ∧ j < 30 then 100000 else if j = 2 then 150 else if j = 3 then 20 else if j = 4 then 200 else if j = 5 then 20 else if j = 6 then 100 else 0) ∧ ∀ j, xv X' 469 j = 0)) 121 [(0, .ref (g.1 + 467)), (1, .int (zi (i : Int)))] [] 481 P (lgN X 10 100000 i) Y := by
  obtain ⟨m0, m2, m3, m8, m9, m14, m15, m16, m17, m18, m20, m22, m25, hnm9⟩ := id hm
  have hlo : ∀ c, c ≠ 468 → xv (lgN X 10 100000 20) c = xv X c := fun c hc => lgN_row hc 20
  intro w
  induction w with
  | zero =>
    intro i hi
    obtain rfl : i = 20 := by omega
    refine r_iload_n (i := 1) (pc' := 122) dX12_init_121 rfl rfl (.tail _ (.head _)) ?_
    refine r_bipush (pc' := 124) dX12_init_122 rfl (by decide) ?_
    refine r_icmp_ge (t := 144) (f := 127) dX12_init_124 (by decide) rfl (by first | omega | exact xv_in _ _ _) (by first | omega | exact xv_in _ _ _) (fun h124 => ?_) (fun h124 => ?_)
    · refine r_aload_n (i := 0) (pc' := 145) dX12_init_144 rfl rfl (.head _) ?_
      refine r_getR (pc' := 148) dX12_init_145 rfl fX12_3 rfl (by first | assumption | rfl) (by omega) (by assumption) ?_
      refine r_iconst (pc' := 149) dX12_init_148 rfl ?_
      refine r_sipush (pc' := 152) dX12_init_149 rfl (by decide) ?_
      refine r_iastore (pc' := 153) dX12_init_152 rfl (by first | assumption | rfl) (by omega) (by omega) (by omega) (by first | decide | omega) (show Int.toNat 2 = 2 from rfl) ?_
      refine r_aload_n (i := 0) (pc' := 154) dX12_init_153 rfl rfl (.head _) ?_
      refine r_getR (pc' := 157) dX12_init_154 rfl fX12_3 rfl (by first | assumption | rfl) (by omega) (by assumption) ?_
      refine r_iconst (pc' := 158) dX12_init_157 rfl ?_
      refine r_bipush (pc' := 160) dX12_init_158 rfl (by decide) ?_
      refine r_iastore (pc' := 161) dX12_init_160 rfl (by first | assumption | rfl) (by omega) (by omega) (by omega) (by first | decide | omega) (show Int.toNat 3 = 3 from rfl) ?_
      refine r_aload_n (i := 0) (pc' := 162) dX12_init_161 rfl rfl (.head _) ?_
      refine r_getR (pc' := 165) dX12_init_162 rfl fX12_3 rfl (by first | assumption | rfl) (by omega) (by assumption) ?_
      refine r_iconst (pc' := 166) dX12_init_165 rfl ?_
      refine r_sipush (pc' := 169) dX12_init_166 rfl (by decide) ?_
      refine r_iastore (pc' := 170) dX12_init_169 rfl (by first | assumption | rfl) (by omega) (by omega) (by omega) (by first | decide | omega) (show Int.toNat 4 = 4 from rfl) ?_
      refine r_aload_n (i := 0) (pc' := 171) dX12_init_170 rfl rfl (.head _) ?_
      refine r_getR (pc' := 174) dX12_init_171 rfl fX12_3 rfl (by first | assumption | rfl) (by omega) (by assumption) ?_
      refine r_iconst (pc' := 175) dX12_init_174 rfl ?_
      refine r_bipush (pc' := 177) dX12_init_175 rfl (by decide) ?_
      refine r_iastore (pc' := 178) dX12_init_177 rfl (by first | assumption | rfl) (by omega) (by omega) (by omega) (by first | decide | omega) (show Int.toNat 5 = 5 from rfl) ?_
      refine r_aload_n (i := 0) (pc' := 179) dX12_init_178 rfl rfl (.head _) ?_
      refine r_getR (pc' := 182) dX12_init_179 rfl fX12_3 rfl (by first | assumption | rfl) (by omega) (by assumption) ?_
      refine r_bipush (pc' := 184) dX12_init_182 rfl (by decide) ?_
      refine r_bipush (pc' := 186) dX12_init_184 rfl (by decide) ?_
      refine r_iastore (pc' := 187) dX12_init_186 rfl (by first | assumption | rfl) (by omega) (by omega) (by omega) (by first | decide | omega) (show Int.toNat 6 = 6 from rfl) ?_
      refine r_return dX12_init_187 rfl ?_
      refine ⟨rfl, rfl, hm, ?_, ?_, ?_, ?_⟩
      · have hl : ∀ m, nAg 467 P0 P X0 (lgN X 10 100000 m) Y0 Y := fun m => by
          induction m with
          | zero => exact hN
          | succ m ih => rw [lgN]; exact ih.upX (by omega)
        exact (((((hl 20).upX (by omega)).upX (by omega)).upX (by omega)).upX (by omega)).upX (by omega)
      · intro j
        rw [xv_up_ne _ _ (by omega), xv_up_ne _ _ (by omega), xv_up_ne _ _ (by omega), xv_up_ne _ _ (by omega), xv_up_ne _ _ (by omega), hlo 467 (by omega)]
        exact h7 j
      · intro j
        by_cases e6 : j = 6
        · subst e6; rw [xv_up_same _ _ _ (by omega)]; rfl
        · rw [xv_up_ne _ _ (by omega)]
          by_cases e5 : j = 5
          · subst e5; rw [xv_up_same _ _ _ (by omega)]; rfl
          · rw [xv_up_ne _ _ (by omega)]
            by_cases e4 : j = 4
            · subst e4; rw [xv_up_same _ _ _ (by omega)]; rfl
            · rw [xv_up_ne _ _ (by omega)]
              by_cases e3 : j = 3
              · subst e3; rw [xv_up_same _ _ _ (by omega)]; rfl
              · rw [xv_up_ne _ _ (by omega)]
                by_cases e2 : j = 2
                · subst e2; rw [xv_up_same _ _ _ (by omega)]; rfl
                · rw [xv_up_ne _ _ (by omega), lgN_at (by omega), h8 468 (by omega) j, if_neg e2, if_neg e3, if_neg e4, if_neg e5, if_neg e6]
      · intro j
        rw [xv_up_ne _ _ (by omega), xv_up_ne _ _ (by omega), xv_up_ne _ _ (by omega), xv_up_ne _ _ (by omega), xv_up_ne _ _ (by omega), hlo 469 (by omega)]
        exact h8 469 (by omega) j
    · exfalso; omega
  | succ w ih =>
    intro i hi
    refine r_iload_n (i := 1) (pc' := 122) dX12_init_121 rfl rfl (.tail _ (.head _)) ?_
    refine r_bipush (pc' := 124) dX12_init_122 rfl (by decide) ?_
    refine r_icmp_ge (t := 144) (f := 127) dX12_init_124 (by decide) rfl (by first | omega | exact xv_in _ _ _) (by first | omega | exact xv_in _ _ _) (fun h124 => ?_) (fun h124 => ?_)
    · exfalso; omega
    · refine r_aload_n (i := 0) (pc' := 128) dX12_init_127 rfl rfl (.head _) ?_
      refine r_getR (pc' := 131) dX12_init_128 rfl fX12_3 rfl (by first | assumption | rfl) (by omega) (by assumption) ?_
      refine r_bipush (pc' := 133) dX12_init_131 rfl (by decide) ?_
      refine r_iload_n (i := 1) (pc' := 134) dX12_init_133 rfl rfl (.tail _ (.head _)) ?_
      refine r_iadd (pc' := 135) dX12_init_134 rfl ?_
      refine r_ldc (pc' := 137) dX12_init_135 rfl kX12_60 ?_
      refine r_iastore (pc' := 138) dX12_init_137 rfl (by first | assumption | rfl) (by omega) (by omega) (by omega) (by first | decide | omega) (show _ = 10 + i by omega) ?_
      refine r_iinc (pc' := 141) dX12_init_138 rfl rfl (.tail _ (.head _)) (.s1 (.here .nil) rfl rfl rfl) ?_
      refine r_goto (t := 121) dX12_init_141 (by decide) ?_
      exact ih (i + 1) (by omega)
set_option maxHeartbeats 4000000 in
set_option maxRecDepth 100000 in
theorem tX12_init {l : Launch} {g : q_G} {n : Nat} {P : q_P} {X : q_X} {Y : q_Y} (hn : n = 468) (hX0 : X 467 = fun _ => 0) : q_Met l g mX12_init 1 [.ref (g.1 + 467)] n P X Y (q_gv (fun n' P' X' Y' => n' = 481 ∧ isMod 481 P' ∧ nAg 467 P P' X X' Y Y' ∧ (∀ j, xv X' 467 j = if j = 6 ∨ j = 24 then -1 else 0) ∧ (∀ j, xv X' 468 j = if 10 ≤ j ∧ j < 30 then 100000 else if j = 2 then 150 else if j = 3 then 20 else if j = 4 then 200 else if j = 5 then 20 else if j = 6 then 100 else 0) ∧ ∀ j, xv X' 469 j = 0)) := by
  subst hn
  refine q_enter (L := [(0, .ref (g.1 + 467))]) (by decide) (Nat.le_of_ble_eq_true rfl) rfl ?_
  refine r_aload_n (i := 0) (pc' := 1) dX12_init_0 rfl rfl (.head _) ?_
  refine r_objInit (pc' := 4) dX12_init_1 rfl lX12_7 o_inst o_code (by decide) (Nat.le_of_ble_eq_true rfl) ?_
  refine r_aload_n (i := 0) (pc' := 5) dX12_init_4 rfl rfl (.head _) ?_
  refine r_ldc (pc' := 7) dX12_init_5 rfl kX12_13 ?_
  refine r_newi (pc' := 9) dX12_init_7 rfl a_int (by decide) rfl (by decide) ?_
  refine r_putRF (pc' := 12) dX12_init_9 rfl fX12_3 rfl rfl rfl (by first | assumption | rfl) (by omega) rfl rfl ?_
  refine r_aload_n (i := 0) (pc' := 13) dX12_init_12 rfl rfl (.head _) ?_
  refine r_iconst (pc' := 14) dX12_init_13 rfl ?_
  refine r_newz (pc' := 16) dX12_init_14 rfl a_boolean (by decide) rfl (by decide) ?_
  refine r_putRF (pc' := 19) dX12_init_16 rfl fX12_14 rfl rfl rfl (by first | assumption | rfl) (by omega) rfl rfl ?_
  refine r_aload_n (i := 0) (pc' := 20) dX12_init_19 rfl rfl (.head _) ?_
  refine r_sipush (pc' := 23) dX12_init_20 rfl (by decide) ?_
  refine r_newb (pc' := 25) dX12_init_23 rfl a_byte (by decide) rfl (by decide) ?_
  refine r_putRF (pc' := 28) dX12_init_25 rfl fX12_18 rfl rfl rfl (by first | assumption | rfl) (by omega) rfl rfl ?_
  refine r_aload_n (i := 0) (pc' := 29) dX12_init_28 rfl rfl (.head _) ?_
  refine r_iconst (pc' := 30) dX12_init_29 rfl ?_
  refine r_putI (pc' := 33) dX12_init_30 rfl fX12_22 rfl (by first | assumption | rfl) (by omega) rfl rfl ?_
  refine r_aload_n (i := 0) (pc' := 34) dX12_init_33 rfl rfl (.head _) ?_
  refine r_bipush (pc' := 36) dX12_init_34 rfl (by decide) ?_
  refine r_newi (pc' := 38) dX12_init_36 rfl a_int (by decide) rfl (by decide) ?_
  refine r_putRF (pc' := 41) dX12_init_38 rfl fX12_26 rfl rfl rfl (by first | assumption | rfl) (by omega) rfl rfl ?_
  refine r_aload_n (i := 0) (pc' := 42) dX12_init_41 rfl rfl (.head _) ?_
  refine r_bipush (pc' := 44) dX12_init_42 rfl (by decide) ?_
  refine r_newi (pc' := 46) dX12_init_44 rfl a_int (by decide) rfl (by decide) ?_
  refine r_putRF (pc' := 49) dX12_init_46 rfl fX12_29 rfl rfl rfl (by first | assumption | rfl) (by omega) rfl rfl ?_
  refine r_aload_n (i := 0) (pc' := 50) dX12_init_49 rfl rfl (.head _) ?_
  refine r_bipush (pc' := 52) dX12_init_50 rfl (by decide) ?_
  refine r_newl (pc' := 54) dX12_init_52 rfl a_long (by decide) rfl (by decide) ?_
  refine r_putRF (pc' := 57) dX12_init_54 rfl fX12_32 rfl rfl rfl (by first | assumption | rfl) (by omega) rfl rfl ?_
  refine r_aload_n (i := 0) (pc' := 58) dX12_init_57 rfl rfl (.head _) ?_
  refine r_bipush (pc' := 60) dX12_init_58 rfl (by decide) ?_
  refine r_newl (pc' := 62) dX12_init_60 rfl a_long (by decide) rfl (by decide) ?_
  refine r_putRF (pc' := 65) dX12_init_62 rfl fX12_36 rfl rfl rfl (by first | assumption | rfl) (by omega) rfl rfl ?_
  refine r_aload_n (i := 0) (pc' := 66) dX12_init_65 rfl rfl (.head _) ?_
  refine r_bipush (pc' := 68) dX12_init_66 rfl (by decide) ?_
  refine r_newi (pc' := 70) dX12_init_68 rfl a_int (by decide) rfl (by decide) ?_
  refine r_putRF (pc' := 73) dX12_init_70 rfl fX12_39 rfl rfl rfl (by first | assumption | rfl) (by omega) rfl rfl ?_
  refine r_aload_n (i := 0) (pc' := 74) dX12_init_73 rfl rfl (.head _) ?_
  refine r_bipush (pc' := 76) dX12_init_74 rfl (by decide) ?_
  refine r_newi (pc' := 78) dX12_init_76 rfl a_int (by decide) rfl (by decide) ?_
  refine r_putRF (pc' := 81) dX12_init_78 rfl fX12_42 rfl rfl rfl (by first | assumption | rfl) (by omega) rfl rfl ?_
  refine r_aload_n (i := 0) (pc' := 82) dX12_init_81 rfl rfl (.head _) ?_
  refine r_bipush (pc' := 84) dX12_init_82 rfl (by decide) ?_
  refine r_newz (pc' := 86) dX12_init_84 rfl a_boolean (by decide) rfl (by decide) ?_
  refine r_putRF (pc' := 89) dX12_init_86 rfl fX12_45 rfl rfl rfl (by first | assumption | rfl) (by omega) rfl rfl ?_
  refine r_aload_n (i := 0) (pc' := 90) dX12_init_89 rfl rfl (.head _) ?_
  refine r_bipush (pc' := 92) dX12_init_90 rfl (by decide) ?_
  refine r_newi (pc' := 94) dX12_init_92 rfl a_int (by decide) rfl (by decide) ?_
  refine r_putRF (pc' := 97) dX12_init_94 rfl fX12_48 rfl rfl rfl (by first | assumption | rfl) (by omega) rfl rfl ?_
  refine r_aload_n (i := 0) (pc' := 98) dX12_init_97 rfl rfl (.head _) ?_
  refine r_bipush (pc' := 100) dX12_init_98 rfl (by decide) ?_
  refine r_newi (pc' := 102) dX12_init_100 rfl a_int (by decide) rfl (by decide) ?_
  refine r_putRF (pc' := 105) dX12_init_102 rfl fX12_51 rfl rfl rfl (by first | assumption | rfl) (by omega) rfl rfl ?_
  refine r_aload_n (i := 0) (pc' := 106) dX12_init_105 rfl rfl (.head _) ?_
  refine r_iconst (pc' := 107) dX12_init_106 rfl ?_
  refine r_putI (pc' := 110) dX12_init_107 rfl fX12_54 rfl (by first | assumption | rfl) (by omega) rfl rfl ?_
  refine r_aload_n (i := 0) (pc' := 111) dX12_init_110 rfl rfl (.head _) ?_
  refine r_sipush (pc' := 114) dX12_init_111 rfl (by decide) ?_
  refine r_newb (pc' := 116) dX12_init_114 rfl a_byte (by decide) rfl (by decide) ?_
  refine r_putRF (pc' := 119) dX12_init_116 rfl fX12_57 rfl rfl rfl (by first | assumption | rfl) (by omega) rfl rfl ?_
  refine r_iconst (pc' := 120) dX12_init_119 rfl ?_
  refine r_istore_n (i := 1) (pc' := 121) dX12_init_120 rfl rfl rfl (.s1 .nil rfl rfl rfl) ?_
  refine l2X12_init (P0 := P) (X0 := X) (Y0 := Y) ?_ ?_ ?_ ?_ 20 0 (Nat.zero_add _)
  · refine ⟨?_, ?_, ?_, ?_, ?_, ?_, ?_, ?_, ?_, ?_, ?_, ?_, ?_, by omega⟩ <;> (simp (disch := omega) only [q_up_ne, q_up_same, q_clr_ne, q_clr_same])
  · intro a ha
    refine ⟨?_, ?_, ?_⟩ <;> funext j <;> (simp (disch := omega) only [q_up_ne, q_up_same, q_clr_ne, q_clr_same]) <;> (try rw [if_neg (by omega)])
  · intro j
    unfold xv
    by_cases e1 : j = 24
    · subst e1; (simp (disch := omega) only [q_up_ne, q_up_same, q_clr_ne, q_clr_same]); rfl
    · by_cases e2 : j = 6
      · subst e2; (simp (disch := omega) only [q_up_ne, q_up_same, q_clr_ne, q_clr_same]); rfl
      · (simp (disch := omega) only [q_up_ne, q_up_same, q_clr_ne, q_clr_same])
        rw [if_neg (c := j = 6 ∨ j = 24) (by omega)]
        first
          | (rw [hX0]; rfl)
          | (rw [if_neg (by omega), hX0]; rfl)
  · intro a ha j
    unfold xv
    rcases ha with e | e <;> subst e <;> (simp (disch := omega) only [q_up_ne, q_up_same, q_clr_ne, q_clr_same]) <;> rfl
