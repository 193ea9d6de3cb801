set_option maxHeartbeats 4000000 in
set_option maxRecDepth 100000 in
theorem lX12_write {l : Launch} {g : q_G} {n : Nat} {P : q_P} {Y : q_Y} (hm : isMod n P) {C X0 : q_X} {b : Nat} (hR : RB C b (xv X0 468)) (hO : bOk C b) (hb1 : b + 220 ≤ 441) : ∀ (w y : Nat) (X : q_X) (sz0 : Int), y + w = 20 → sz0 ≤ 23 + 11 * y → wO X0 X → wS (wr_l (wr_h C b) b y) X sz0 → q_Tr l g mX12_write 2 (q_gi (fun r' n' P' X' Y' => n' = n ∧ P' = P ∧ Y' = Y ∧ wO X0 X' ∧ wS (wr_l (wr_h C b) b 20) X' r')) 86 [(0, .ref (g.1 + 467)), (1, .int (zi (y : Int)))] [] n P X Y := by
  obtain ⟨m0, m2, m3, m8, m9, m14, m15, m16, m17, m18, m20, m22, m25, hnm9⟩ := id hm
  obtain ⟨o0, o1, o2, o3, o4, o5, o6, o10, oc, op0, opz, opi, om0, omi, olim⟩ := id hO
  intro w
  induction w with
  | zero =>
    intro y X sz0 hy hmm ho0 hS0
    obtain rfl : y = 20 := by omega
    refine r_iload_n (i := 1) (pc' := 87) dX12_write_86 rfl rfl (.tail _ (.head _)) ?_
    refine r_bipush (pc' := 89) dX12_write_87 rfl (by decide) ?_
    refine r_icmp_ge (t := 126) (f := 92) dX12_write_89 (by decide) rfl (by first | omega | exact xv_in _ _ _) (by first | omega | exact xv_in _ _ _) (fun h89 => ?_) (fun h89 => ?_)
    · refine r_aload_n (i := 0) (pc' := 127) dX12_write_126 rfl rfl (.head _) ?_
      refine r_getI (pc' := 130) dX12_write_127 rfl fX12_387 rfl (by first | assumption | rfl) (by omega) ?_
      rw [hS0.2.2.1]
      refine r_ireturn dX12_write_130 rfl ?_
      exact ⟨_, rfl, rfl, rfl, rfl, ho0, hS0⟩
    · exfalso; omega
  | succ w ih =>
    intro y X sz0 hy hmm ho0 hS0
    have hlm := olim y (by omega)
    have hS0m := hS0.1
    have b1 := nd_b (v := (y : Int))
    have b2 := nd_b (v := xv C (b + 1) y)
    have hWl : xv (wr_h C b) (b + 1) y = xv C (b + 1) y := by rw [wr_h_o (by omega)]
    have ih := ih (y + 1)
    rw [wr_l, hWl] at ih
    refine r_iload_n (i := 1) (pc' := 87) dX12_write_86 rfl rfl (.tail _ (.head _)) ?_
    refine r_bipush (pc' := 89) dX12_write_87 rfl (by decide) ?_
    refine r_icmp_ge (t := 126) (f := 92) dX12_write_89 (by decide) rfl (by first | omega | exact xv_in _ _ _) (by first | omega | exact xv_in _ _ _) (fun h89 => ?_) (fun h89 => ?_)
    · exfalso; omega
    · refine r_aload_n (i := 0) (pc' := 93) dX12_write_92 rfl rfl (.head _) ?_
      refine r_bipush (pc' := 95) dX12_write_93 rfl (by decide) ?_
      refine r_V1gv (ci := 12) (pc' := 98) dX12_write_95 rfl lX12_390 rfl (by decide) (Nat.le_of_ble_eq_true rfl) (by first | assumption | rfl) (by omega) (tX12_writes hm (c := 108) (by rw [hS0.2.2.1]; have := hS0.1; omega)) (fun n95 P95 X95 Y95 e95 le95 => ?_)
      obtain ⟨hg1_95, hg2_95, hg3_95, hg4_95⟩ := e95
      have g1_95 := Eq.symm hg1_95
      have g2_95 := Eq.symm hg2_95
      have g3_95 := Eq.symm hg3_95
      have g4_95 := Eq.symm hg4_95
      clear hg1_95 hg2_95 hg3_95 hg4_95
      subst g1_95 g2_95 g3_95 g4_95
      have hS95 := hS0.add (c := 108) (by have := hS0.1; omega) (by omega)
      rw [hS0.2.2.1]
      have ho95 := ho0.trans (wO_up _ _ _ _ : wO _ (q_up (q_up _ 480 (sz0 : Int).toNat (zi (i8 108))) 467 26 (zi (sz0 + 1))))
      generalize q_up (q_up _ 480 (sz0 : Int).toNat (zi (i8 108))) 467 26 (zi (sz0 + 1)) = X95 at hS95 ho95 ⊢
      obtain ⟨sz95, hm95⟩ : ∃ m : Int, m = sz0 + 1 := ⟨_, rfl⟩
      rw [← hm95] at hS95
      refine r_aload_n (i := 0) (pc' := 99) dX12_write_98 rfl rfl (.head _) ?_
      refine r_iload_n (i := 1) (pc' := 100) dX12_write_99 rfl rfl (.tail _ (.head _)) ?_
      refine r_bipush (pc' := 102) dX12_write_100 rfl (by decide) ?_
      refine r_V2gv (ci := 12) (pc' := 105) dX12_write_102 rfl lX12_393 rfl (by decide) (Nat.le_of_ble_eq_true rfl) (by first | assumption | rfl) (by omega) (tX12_writeNumber hm (v := (y : Int)) (be := 44) (by omega) (by omega) hS95 (by omega)) (fun n102 P102 X102 Y102 e102 le102 => ?_)
      obtain ⟨h1v, h2v, h3v, ho102q, hS102⟩ := e102
      subst h1v h2v h3v
      have ho102 := ho95.trans ho102q
      obtain ⟨sz102, hm102⟩ : ∃ m : Int, m = sz95 + (nd ((y : Int)) : Int) + 1 := ⟨_, rfl⟩
      rw [← hm102] at hS102
      refine r_aload_n (i := 0) (pc' := 106) dX12_write_105 rfl rfl (.head _) ?_
      refine r_aload_n (i := 0) (pc' := 107) dX12_write_106 rfl rfl (.head _) ?_
      refine r_getR (pc' := 110) dX12_write_107 rfl fX12_3 rfl (by first | assumption | rfl) (by omega) (by assumption) ?_
      refine r_bipush (pc' := 112) dX12_write_110 rfl (by decide) ?_
      refine r_iload_n (i := 1) (pc' := 113) dX12_write_112 rfl rfl (.tail _ (.head _)) ?_
      refine r_iadd (pc' := 114) dX12_write_113 rfl ?_
      refine r_iaload (pc' := 115) dX12_write_114 rfl (by first | assumption | rfl) (by omega) (by omega) (by omega) (by first | decide | omega) (show _ = 10 + y by omega) ?_
      rw [ho102.v, (hR.2.1 y (by omega)).1]
      refine r_bipush (pc' := 117) dX12_write_115 rfl (by decide) ?_
      refine r_V2gv (ci := 12) (pc' := 120) dX12_write_117 rfl lX12_393 rfl (by decide) (Nat.le_of_ble_eq_true rfl) (by first | assumption | rfl) (by omega) (tX12_writeNumber hm (v := xv C (b + 1) y) (be := 59) (by omega) (by omega) hS102 (by omega)) (fun n117 P117 X117 Y117 e117 le117 => ?_)
      obtain ⟨h1v, h2v, h3v, ho117q, hS117⟩ := e117
      subst h1v h2v h3v
      have ho117 := ho102.trans ho117q
      obtain ⟨sz117, hm117⟩ : ∃ m : Int, m = sz102 + (nd (xv C (b + 1) y) : Int) + 1 := ⟨_, rfl⟩
      rw [← hm117] at hS117
      refine r_iinc (pc' := 123) dX12_write_120 rfl rfl (.tail _ (.head _)) (.s1 (.here .nil) rfl rfl rfl) ?_
      refine r_goto (t := 86) dX12_write_123 (by decide) ?_
      exact ih _ sz117 (by omega) (by omega) ho117 hS117
set_option maxHeartbeats 4000000 in
set_option maxRecDepth 100000 in
theorem tX12_write {l : Launch} {g : q_G} {n : Nat} {P : q_P} {X : q_X} {Y : q_Y} (hm : isMod n P) {C : q_X} {b : Nat} (hR : RB C b (xv X 468)) (hO : bOk C b) (hb1 : b + 220 ≤ 441) : q_Met l g mX12_write 2 [.ref (g.1 + 467)] n P X Y (q_gi (fun r' n' P' X' Y' => n' = n ∧ P' = P ∧ Y' = Y ∧ wO X X' ∧ wS (wr_l (wr_h C b) b 20) X' r')) := by
  obtain ⟨m0, m2, m3, m8, m9, m14, m15, m16, m17, m18, m20, m22, m25, hnm9⟩ := id hm
  obtain ⟨o0, o1, o2, o3, o4, o5, o6, o10, oc, op0, opz, opi, om0, omi, olim⟩ := id hO
  refine q_enter (L := [(0, .ref (g.1 + 467))]) (by decide) (Nat.le_of_ble_eq_true rfl) rfl ?_
  refine r_aload_n (i := 0) (pc' := 1) dX12_write_0 rfl rfl (.head _) ?_
  refine r_iconst (pc' := 2) dX12_write_1 rfl ?_
  refine r_putI (pc' := 5) dX12_write_2 rfl fX12_387 rfl (by first | assumption | rfl) (by omega) rfl rfl ?_
  have hS0 : wS (q_up C 447 1 (zi 0)) (q_up X 467 26 (zi 0)) 0 := ⟨by omega, by rw [xv_up_same _ _ _ (by omega)], by rw [xv_up_same _ _ _ (by omega)], fun j hj => by omega⟩
  have ho0 : wO X (q_up X 467 26 (zi 0)) := fun a j a1 a2 => q_up_ne _ _ a2
  generalize q_up X 467 26 (zi 0) = X0 at hS0 ho0 ⊢
  obtain ⟨sz0, hm0, hS0⟩ : ∃ m : Int, m = 0 ∧ wS (q_up C 447 1 (zi 0)) X0 m := ⟨0, rfl, hS0⟩
  have d2 := nd_b (v := xv C b 2)
  have d3 := nd_b (v := xv C b 3)
  have d4 := nd_b (v := xv C b 4)
  have d5 := nd_b (v := xv C b 5)
  have d6 := nd_b (v := xv C b 6)
  refine r_aload_n (i := 0) (pc' := 6) dX12_write_5 rfl rfl (.head _) ?_
  refine r_bipush (pc' := 8) dX12_write_6 rfl (by decide) ?_
  refine r_V1gv (ci := 12) (pc' := 11) dX12_write_8 rfl lX12_390 rfl (by decide) (Nat.le_of_ble_eq_true rfl) (by first | assumption | rfl) (by omega) (tX12_writes hm (c := 100) (by rw [hS0.2.2.1]; have := hS0.1; omega)) (fun n8 P8 X8 Y8 e8 le8 => ?_)
  obtain ⟨hg1_8, hg2_8, hg3_8, hg4_8⟩ := e8
  have g1_8 := Eq.symm hg1_8
  have g2_8 := Eq.symm hg2_8
  have g3_8 := Eq.symm hg3_8
  have g4_8 := Eq.symm hg4_8
  clear hg1_8 hg2_8 hg3_8 hg4_8
  subst g1_8 g2_8 g3_8 g4_8
  have hS8 := hS0.add (c := 100) (by have := hS0.1; omega) (by omega)
  rw [hS0.2.2.1]
  have ho8 := ho0.trans (wO_up _ _ _ _ : wO _ (q_up (q_up _ 480 (sz0 : Int).toNat (zi (i8 100))) 467 26 (zi (sz0 + 1))))
  generalize q_up (q_up _ 480 (sz0 : Int).toNat (zi (i8 100))) 467 26 (zi (sz0 + 1)) = X8 at hS8 ho8 ⊢
  obtain ⟨sz8, hm8⟩ : ∃ m : Int, m = sz0 + 1 := ⟨_, rfl⟩
  rw [← hm8] at hS8
  refine r_aload_n (i := 0) (pc' := 12) dX12_write_11 rfl rfl (.head _) ?_
  refine r_aload_n (i := 0) (pc' := 13) dX12_write_12 rfl rfl (.head _) ?_
  refine r_getR (pc' := 16) dX12_write_13 rfl fX12_3 rfl (by first | assumption | rfl) (by omega) (by assumption) ?_
  refine r_iconst (pc' := 17) dX12_write_16 rfl ?_
  refine r_iaload (pc' := 18) dX12_write_17 rfl (by first | assumption | rfl) (by omega) (by omega) (by omega) (by first | decide | omega) (show Int.toNat 2 = 2 from rfl) ?_
  rw [ho8.v, hR.z 2 (by decide)]
  refine r_bipush (pc' := 20) dX12_write_18 rfl (by decide) ?_
  refine r_V2gv (ci := 12) (pc' := 23) dX12_write_20 rfl lX12_393 rfl (by decide) (Nat.le_of_ble_eq_true rfl) (by first | assumption | rfl) (by omega) (tX12_writeNumber hm (v := xv C b 2) (be := 44) (by omega) (by omega) hS8 (by omega)) (fun n20 P20 X20 Y20 e20 le20 => ?_)
  obtain ⟨h1v, h2v, h3v, ho20q, hS20⟩ := e20
  subst h1v h2v h3v
  have ho20 := ho8.trans ho20q
  obtain ⟨sz20, hm20⟩ : ∃ m : Int, m = sz8 + (nd (xv C b 2) : Int) + 1 := ⟨_, rfl⟩
  rw [← hm20] at hS20
  refine r_aload_n (i := 0) (pc' := 24) dX12_write_23 rfl rfl (.head _) ?_
  refine r_aload_n (i := 0) (pc' := 25) dX12_write_24 rfl rfl (.head _) ?_
  refine r_getR (pc' := 28) dX12_write_25 rfl fX12_3 rfl (by first | assumption | rfl) (by omega) (by assumption) ?_
  refine r_iconst (pc' := 29) dX12_write_28 rfl ?_
  refine r_iaload (pc' := 30) dX12_write_29 rfl (by first | assumption | rfl) (by omega) (by omega) (by omega) (by first | decide | omega) (show Int.toNat 3 = 3 from rfl) ?_
  rw [ho20.v, hR.z 3 (by decide)]
  refine r_bipush (pc' := 32) dX12_write_30 rfl (by decide) ?_
  refine r_V2gv (ci := 12) (pc' := 35) dX12_write_32 rfl lX12_393 rfl (by decide) (Nat.le_of_ble_eq_true rfl) (by first | assumption | rfl) (by omega) (tX12_writeNumber hm (v := xv C b 3) (be := 44) (by omega) (by omega) hS20 (by omega)) (fun n32 P32 X32 Y32 e32 le32 => ?_)
  obtain ⟨h1v, h2v, h3v, ho32q, hS32⟩ := e32
  subst h1v h2v h3v
  have ho32 := ho20.trans ho32q
  obtain ⟨sz32, hm32⟩ : ∃ m : Int, m = sz20 + (nd (xv C b 3) : Int) + 1 := ⟨_, rfl⟩
  rw [← hm32] at hS32
  refine r_aload_n (i := 0) (pc' := 36) dX12_write_35 rfl rfl (.head _) ?_
  refine r_aload_n (i := 0) (pc' := 37) dX12_write_36 rfl rfl (.head _) ?_
  refine r_getR (pc' := 40) dX12_write_37 rfl fX12_3 rfl (by first | assumption | rfl) (by omega) (by assumption) ?_
  refine r_iconst (pc' := 41) dX12_write_40 rfl ?_
  refine r_iaload (pc' := 42) dX12_write_41 rfl (by first | assumption | rfl) (by omega) (by omega) (by omega) (by first | decide | omega) (show Int.toNat 4 = 4 from rfl) ?_
  rw [ho32.v, hR.z 4 (by decide)]
  refine r_bipush (pc' := 44) dX12_write_42 rfl (by decide) ?_
  refine r_V2gv (ci := 12) (pc' := 47) dX12_write_44 rfl lX12_393 rfl (by decide) (Nat.le_of_ble_eq_true rfl) (by first | assumption | rfl) (by omega) (tX12_writeNumber hm (v := xv C b 4) (be := 59) (by omega) (by omega) hS32 (by omega)) (fun n44 P44 X44 Y44 e44 le44 => ?_)
  obtain ⟨h1v, h2v, h3v, ho44q, hS44⟩ := e44
  subst h1v h2v h3v
  have ho44 := ho32.trans ho44q
  obtain ⟨sz44, hm44⟩ : ∃ m : Int, m = sz32 + (nd (xv C b 4) : Int) + 1 := ⟨_, rfl⟩
  rw [← hm44] at hS44
  refine r_aload_n (i := 0) (pc' := 48) dX12_write_47 rfl rfl (.head _) ?_
  refine r_bipush (pc' := 50) dX12_write_48 rfl (by decide) ?_
  refine r_V1gv (ci := 12) (pc' := 53) dX12_write_50 rfl lX12_390 rfl (by decide) (Nat.le_of_ble_eq_true rfl) (by first | assumption | rfl) (by omega) (tX12_writes hm (c := 99) (by rw [hS44.2.2.1]; have := hS44.1; omega)) (fun n50 P50 X50 Y50 e50 le50 => ?_)
  obtain ⟨hg1_50, hg2_50, hg3_50, hg4_50⟩ := e50
  have g1_50 := Eq.symm hg1_50
  have g2_50 := Eq.symm hg2_50
  have g3_50 := Eq.symm hg3_50
  have g4_50 := Eq.symm hg4_50
  clear hg1_50 hg2_50 hg3_50 hg4_50
  subst g1_50 g2_50 g3_50 g4_50
  have hS50 := hS44.add (c := 99) (by have := hS44.1; omega) (by omega)
  rw [hS44.2.2.1]
  have ho50 := ho44.trans (wO_up _ _ _ _ : wO _ (q_up (q_up _ 480 (sz44 : Int).toNat (zi (i8 99))) 467 26 (zi (sz44 + 1))))
  generalize q_up (q_up _ 480 (sz44 : Int).toNat (zi (i8 99))) 467 26 (zi (sz44 + 1)) = X50 at hS50 ho50 ⊢
  obtain ⟨sz50, hm50⟩ : ∃ m : Int, m = sz44 + 1 := ⟨_, rfl⟩
  rw [← hm50] at hS50
  refine r_aload_n (i := 0) (pc' := 54) dX12_write_53 rfl rfl (.head _) ?_
  refine r_aload_n (i := 0) (pc' := 55) dX12_write_54 rfl rfl (.head _) ?_
  refine r_getR (pc' := 58) dX12_write_55 rfl fX12_3 rfl (by first | assumption | rfl) (by omega) (by assumption) ?_
  refine r_iconst (pc' := 59) dX12_write_58 rfl ?_
  refine r_iaload (pc' := 60) dX12_write_59 rfl (by first | assumption | rfl) (by omega) (by omega) (by omega) (by first | decide | omega) (show Int.toNat 5 = 5 from rfl) ?_
  rw [ho50.v, hR.z 5 (by decide)]
  refine r_bipush (pc' := 62) dX12_write_60 rfl (by decide) ?_
  refine r_V2gv (ci := 12) (pc' := 65) dX12_write_62 rfl lX12_393 rfl (by decide) (Nat.le_of_ble_eq_true rfl) (by first | assumption | rfl) (by omega) (tX12_writeNumber hm (v := xv C b 5) (be := 59) (by omega) (by omega) hS50 (by omega)) (fun n62 P62 X62 Y62 e62 le62 => ?_)
  obtain ⟨h1v, h2v, h3v, ho62q, hS62⟩ := e62
  subst h1v h2v h3v
  have ho62 := ho50.trans ho62q
  obtain ⟨sz62, hm62⟩ : ∃ m : Int, m = sz50 + (nd (xv C b 5) : Int) + 1 := ⟨_, rfl⟩
  rw [← hm62] at hS62
  refine r_aload_n (i := 0) (pc' := 66) dX12_write_65 rfl rfl (.head _) ?_
  refine r_bipush (pc' := 68) dX12_write_66 rfl (by decide) ?_
  refine r_V1gv (ci := 12) (pc' := 71) dX12_write_68 rfl lX12_390 rfl (by decide) (Nat.le_of_ble_eq_true rfl) (by first | assumption | rfl) (by omega) (tX12_writes hm (c := 109) (by rw [hS62.2.2.1]; have := hS62.1; omega)) (fun n68 P68 X68 Y68 e68 le68 => ?_)
  obtain ⟨hg1_68, hg2_68, hg3_68, hg4_68⟩ := e68
  have g1_68 := Eq.symm hg1_68
  have g2_68 := Eq.symm hg2_68
  have g3_68 := Eq.symm hg3_68
  have g4_68 := Eq.symm hg4_68
  clear hg1_68 hg2_68 hg3_68 hg4_68
  subst g1_68 g2_68 g3_68 g4_68
  have hS68 := hS62.add (c := 109) (by have := hS62.1; omega) (by omega)
  rw [hS62.2.2.1]
  have ho68 := ho62.trans (wO_up _ _ _ _ : wO _ (q_up (q_up _ 480 (sz62 : Int).toNat (zi (i8 109))) 467 26 (zi (sz62 + 1))))
  generalize q_up (q_up _ 480 (sz62 : Int).toNat (zi (i8 109))) 467 26 (zi (sz62 + 1)) = X68 at hS68 ho68 ⊢
  obtain ⟨sz68, hm68⟩ : ∃ m : Int, m = sz62 + 1 := ⟨_, rfl⟩
  rw [← hm68] at hS68
  refine r_aload_n (i := 0) (pc' := 72) dX12_write_71 rfl rfl (.head _) ?_
  refine r_aload_n (i := 0) (pc' := 73) dX12_write_72 rfl rfl (.head _) ?_
  refine r_getR (pc' := 76) dX12_write_73 rfl fX12_3 rfl (by first | assumption | rfl) (by omega) (by assumption) ?_
  refine r_bipush (pc' := 78) dX12_write_76 rfl (by decide) ?_
  refine r_iaload (pc' := 79) dX12_write_78 rfl (by first | assumption | rfl) (by omega) (by omega) (by omega) (by first | decide | omega) (show Int.toNat 6 = 6 from rfl) ?_
  rw [ho68.v, hR.z 6 (by decide)]
  refine r_bipush (pc' := 81) dX12_write_79 rfl (by decide) ?_
  refine r_V2gv (ci := 12) (pc' := 84) dX12_write_81 rfl lX12_393 rfl (by decide) (Nat.le_of_ble_eq_true rfl) (by first | assumption | rfl) (by omega) (tX12_writeNumber hm (v := xv C b 6) (be := 59) (by omega) (by omega) hS68 (by omega)) (fun n81 P81 X81 Y81 e81 le81 => ?_)
  obtain ⟨h1v, h2v, h3v, ho81q, hS81⟩ := e81
  subst h1v h2v h3v
  have ho81 := ho68.trans ho81q
  obtain ⟨sz81, hm81⟩ : ∃ m : Int, m = sz68 + (nd (xv C b 6) : Int) + 1 := ⟨_, rfl⟩
  rw [← hm81] at hS81
  refine r_iconst (pc' := 85) dX12_write_84 rfl ?_
  refine r_istore_n (i := 1) (pc' := 86) dX12_write_85 rfl rfl rfl (.s1 .nil rfl rfl rfl) ?_
  rw [← wr_h] at hS81
  exact lX12_write hm (C := C) hR hO hb1 20 0 _ sz81 (by omega) (by omega) ho81 hS81
