set_option maxHeartbeats 4000000 in
set_option maxRecDepth 100000 in
theorem tX9_init {l : Launch} {g : q_G} {n : Nat} {P : q_P} {X : q_X} {Y : q_Y} {o : Nat} (hs : q_sh o = (9, 3) ∧ q_sh (o + 1) = (2, 2) ∧ q_sh (o + 2) = (20, 500)) (hn : n = o + 1) : q_Met l g mX9_init 2 [.ref (g.1 + o)] n P X Y (q_gv (fun n' P' X' Y' => n' = o + 3 ∧ nAg o P P' X X' Y Y' ∧ (P' o 0 = some (o + 1) ∧ P' (o + 1) 0 = some (o + 2)) ∧ X' (o + 1) = (fun _ => 0) ∧ X' (o + 2) = (fun _ => 0))) := by
  obtain ⟨hs0, hs1, hs2⟩ := id hs
  subst hn
  refine q_enter (L := [(0, .ref (g.1 + o))]) (by decide) (Nat.le_of_ble_eq_true rfl) rfl ?_
  refine r_aload_n (i := 0) (pc' := 1) dX9_init_0 rfl rfl (.head _) ?_
  refine r_objInit (pc' := 4) dX9_init_1 rfl lX9_3 o_inst o_code (by decide) (Nat.le_of_ble_eq_true rfl) ?_
  refine r_aload_n (i := 0) (pc' := 5) dX9_init_4 rfl rfl (.head _) ?_
  refine r_new (pc' := 8) dX9_init_5 rfl nX9_9 hs1 ?_
  refine r_dup (pc' := 9) dX9_init_8 rfl rfl ?_
  refine r_sipush (pc' := 12) dX9_init_9 rfl (by decide) ?_
  refine r_I1gv (pc' := 15) dX9_init_12 rfl lX9_11 (by decide) (Nat.le_of_ble_eq_true rfl) (tX2_init (o := o + 1) (N := 500) ⟨hs1, hs2⟩ (by omega) rfl) (fun n12 P12 X12 Y12 e12 le12 => ?_)
  obtain ⟨hn12, nag12, kp, kx0, kx1⟩ := e12
  subst hn12
  have hP12 : ∀ a j, a < _ → P12 a j = _ := fun a j ha => congrFun (nag12 a ha).1 j
  have hX12 : ∀ a j, a < _ → X12 a j = _ := fun a j ha => congrFun (nag12 a ha).2.1 j
  refine r_putRF (pc' := 18) dX9_init_15 rfl fX9_14 rfl rfl rfl (by first | assumption | rfl) (by omega) rfl rfl ?_
  refine r_aload_n (i := 0) (pc' := 19) dX9_init_18 rfl rfl (.head _) ?_
  refine r_iconst (pc' := 20) dX9_init_19 rfl ?_
  refine r_putI (pc' := 23) dX9_init_20 rfl fX9_20 rfl (by first | assumption | rfl) (by omega) rfl rfl ?_
  refine r_return dX9_init_23 rfl ?_
  refine ⟨rfl, rfl, ((fun a ha => ?_ : nAg o _ _ _ _ _ _)), ⟨?_, ?_⟩, ?_, ?_⟩
  · obtain ⟨h1, h2, h3⟩ := nag12 a (by omega)
    refine ⟨?_, ?_, ?_⟩
    · funext j; rw [q_up_ne _ _ (by omega), h1, q_clr_ne _ _ (by omega)]
    · funext j; rw [q_up_ne _ _ (by omega), h2, q_clr_ne _ _ (by omega)]
    · funext j; rw [h3, q_clr_ne _ _ (by omega)]
  · exact q_up_same _ _ _ _
  · rw [q_up_ne _ _ (by omega)]; exact kp
  · funext j; rw [q_up_ne _ _ (by omega), kx0]; exact q_clr_same _ _ _ _
  · funext j; rw [q_up_ne _ _ (by omega), kx1]
set_option maxHeartbeats 4000000 in
set_option maxRecDepth 100000 in
theorem tX6_initN {l : Launch} {g : q_G} {n : Nat} {P : q_P} {X : q_X} {Y : q_Y} {o : Nat} (hs : q_sh o = (6, 3) ∧ q_sh (o + 1) = (25, 8)) (hn : n = o + 1) : q_Met l g mX6_init 1 [.ref (g.1 + o)] n P X Y (q_gv (fun n' P' X' Y' => n' = o + 2 ∧ nAg o P P' X X' Y Y' ∧ (P' o 0 = some (o + 1) ∧ ∀ j, P' (o + 1) j = none) ∧ X' o = X o)) := by
  obtain ⟨hs0, hs1⟩ := id hs
  subst hn
  refine q_enter (L := [(0, .ref (g.1 + o))]) (by decide) (Nat.le_of_ble_eq_true rfl) rfl ?_
  refine r_aload_n (i := 0) (pc' := 1) dX6_init_0 rfl rfl (.head _) ?_
  refine r_objInit (pc' := 4) dX6_init_1 rfl lX6_1 o_inst o_code (by decide) (Nat.le_of_ble_eq_true rfl) ?_
  refine r_aload_n (i := 0) (pc' := 5) dX6_init_4 rfl rfl (.head _) ?_
  refine r_bipush (pc' := 7) dX6_init_5 rfl (by decide) ?_
  refine r_newB (pc' := 10) dX6_init_7 rfl kX6_9 hs1 rfl (by decide) ?_
  refine r_putRF (pc' := 13) dX6_init_10 rfl fX6_11 rfl rfl rfl (by first | assumption | rfl) (by omega) rfl rfl ?_
  refine r_return dX6_init_13 rfl ?_
  refine ⟨rfl, rfl, ((nAg.rfl.clr (by omega)).upP (by omega)), ⟨?_, fun j => ?_⟩, ?_⟩
  · first | rfl | (simp (disch := omega) only [q_up_ne, q_up_same, q_clr_ne, q_clr_same]; done) | (simp [q_up, q_clr]; done)
  · first | rfl | (simp (disch := omega) only [q_up_ne, q_up_same, q_clr_ne, q_clr_same]; done) | (simp [q_up, q_clr]; done)
  · funext j; first | rfl | (simp (disch := omega) only [q_up_ne, q_up_same, q_clr_ne, q_clr_same]; done) | (simp [q_up, q_clr]; done)
set_option maxHeartbeats 4000000 in
set_option maxRecDepth 100000 in
theorem tX11_init {l : Launch} {g : q_G} {n : Nat} {P : q_P} {X : q_X} {Y : q_Y} (hn : n = 1) (hX0 : X 0 = fun _ => 0) : q_Met l g mX11_init 3 [.ref (g.1 + 0)] n P X Y (q_gv (fun n' P' X' Y' => n' = 467 ∧ (P' 0 0 = some 1 ∧ P' 0 1 = some 221 ∧ P' 0 2 = some 441 ∧ P' 0 3 = some 442 ∧ P' 0 4 = some 444 ∧ P' 0 5 = some 447 ∧ P' 0 6 = some 449 ∧ P' 0 7 = some 453 ∧ P' 0 8 = some 459) ∧ isBk 467 P' 1 ∧ isBk 467 P' 221 ∧ bNew X' 1 ∧ (∀ j, P' 441 j = none) ∧ (P' 442 0 = some 443 ∧ ∀ j, P' 443 j = none) ∧ (xv X' 442 1 = 0 ∧ xv X' 442 2 = 0) ∧ (P' 444 0 = some 445 ∧ P' 445 0 = some 446 ∧ xv X' 445 1 = 0) ∧ (P' 447 0 = some 448 ∧ xv X' 447 1 = 0) ∧ (P' 449 1 = some 450 ∧ P' 449 2 = some 451 ∧ P' 449 3 = some 452) ∧ (P' 453 0 = some 454 ∧ P' 453 1 = some 455 ∧ P' 453 2 = some 456 ∧ P' 453 3 = some 457 ∧ P' 453 4 = some 458) ∧ (P' 459 0 = some 460 ∧ P' 459 1 = some 461 ∧ P' 459 2 = some 462 ∧ P' 459 3 = some 463 ∧ P' 459 4 = some 464 ∧ P' 459 5 = some 465 ∧ P' 459 6 = some 466) ∧ xv X' 0 9 = -1 ∧ xv X' 0 10 = -1 ∧ xv X' 0 11 = 0)) := by
  subst hn
  refine q_enter (L := [(0, .ref (g.1 + 0))]) (by decide) (Nat.le_of_ble_eq_true rfl) rfl ?_
  refine r_aload_n (i := 0) (pc' := 1) dX11_init_0 rfl rfl (.head _) ?_
  refine r_objInit (pc' := 4) dX11_init_1 rfl lX11_1 o_inst o_code (by decide) (Nat.le_of_ble_eq_true rfl) ?_
  refine r_aload_n (i := 0) (pc' := 5) dX11_init_4 rfl rfl (.head _) ?_
  refine r_new (pc' := 8) dX11_init_5 rfl nX11_7 (by decide) ?_
  refine r_dup (pc' := 9) dX11_init_8 rfl rfl ?_
  refine r_I0gv (pc' := 12) dX11_init_9 rfl lX11_9 (by decide) (Nat.le_of_ble_eq_true rfl) (tX1_init (b := 1) isPl_1 rfl (by funext j; exact q_clr_same _ _ _ _)) (fun n9 P9 X9 Y9 e9 le9 => ?_)
  obtain ⟨hn9, nag9, ib9, nb9⟩ := e9
  obtain rfl : n9 = 221 := by rw [hn9]
  have hP9 := fun (a j : Nat) (ha : a < 1) => congrFun (nag9 a ha).1 j
  have hX9 := fun (a j : Nat) (ha : a < 1) => congrFun (nag9 a ha).2.1 j
  refine r_putR (pc' := 15) dX11_init_12 rfl fX11_10 rfl (by first | assumption | rfl) (by omega) rfl rfl ?_
  refine r_aload_n (i := 0) (pc' := 16) dX11_init_15 rfl rfl (.head _) ?_
  refine r_new (pc' := 19) dX11_init_16 rfl nX11_7 (by decide) ?_
  refine r_dup (pc' := 20) dX11_init_19 rfl rfl ?_
  refine r_I0gv (pc' := 23) dX11_init_20 rfl lX11_9 (by decide) (Nat.le_of_ble_eq_true rfl) (tX1_init (b := 221) isPl_221 rfl (by funext j; exact q_clr_same _ _ _ _)) (fun n20 P20 X20 Y20 e20 le20 => ?_)
  obtain ⟨hn20, nag20, ib20, nb20⟩ := e20
  obtain rfl : n20 = 441 := by rw [hn20]
  have hP20 := fun (a j : Nat) (ha : a < 221) => congrFun (nag20 a ha).1 j
  have hX20 := fun (a j : Nat) (ha : a < 221) => congrFun (nag20 a ha).2.1 j
  refine r_putR (pc' := 26) dX11_init_23 rfl fX11_16 rfl (by first | assumption | rfl) (by omega) rfl rfl ?_
  refine r_aload_n (i := 0) (pc' := 27) dX11_init_26 rfl rfl (.head _) ?_
  refine r_iconst (pc' := 28) dX11_init_27 rfl ?_
  refine r_newB (pc' := 31) dX11_init_28 rfl kX11_7 (by decide) rfl (by decide) ?_
  refine r_putRF (pc' := 34) dX11_init_31 rfl fX11_19 rfl rfl rfl (by first | assumption | rfl) (by omega) rfl rfl ?_
  refine r_aload_n (i := 0) (pc' := 35) dX11_init_34 rfl rfl (.head _) ?_
  refine r_new (pc' := 38) dX11_init_35 rfl nX11_23 (by decide) ?_
  refine r_dup (pc' := 39) dX11_init_38 rfl rfl ?_
  refine r_IN0gv (pc' := 42) dX11_init_39 rfl lX11_25 (by decide) (Nat.le_of_ble_eq_true rfl) (tX6_initN (o := 442) ⟨rfl, rfl⟩ rfl) (fun n39 P39 X39 Y39 e39 le39 => ?_)
  obtain ⟨hn39, nag39, ⟨k39, h443⟩, kx39⟩ := e39
  obtain rfl : n39 = 444 := by rw [hn39]
  have hP39 := fun (a j : Nat) (ha : a < 442) => congrFun (nag39 a ha).1 j
  have hX39 := fun (a j : Nat) (ha : a < 442) => congrFun (nag39 a ha).2.1 j
  refine r_putRF (pc' := 45) dX11_init_42 rfl fX11_26 rfl rfl rfl (by first | assumption | rfl) (by omega) rfl rfl ?_
  refine r_aload_n (i := 0) (pc' := 46) dX11_init_45 rfl rfl (.head _) ?_
  refine r_new (pc' := 49) dX11_init_46 rfl nX11_30 (by decide) ?_
  refine r_dup (pc' := 50) dX11_init_49 rfl rfl ?_
  refine r_IN0gv (pc' := 53) dX11_init_50 rfl lX11_32 (by decide) (Nat.le_of_ble_eq_true rfl) (tX9_init (o := 444) ⟨rfl, rfl, rfl⟩ rfl) (fun n50 P50 X50 Y50 e50 le50 => ?_)
  obtain ⟨hn50, nag50, ⟨k50a, k50b⟩, kx50, kx50b⟩ := e50
  obtain rfl : n50 = 447 := by rw [hn50]
  have hP50 := fun (a j : Nat) (ha : a < 444) => congrFun (nag50 a ha).1 j
  have hX50 := fun (a j : Nat) (ha : a < 444) => congrFun (nag50 a ha).2.1 j
  refine r_putRF (pc' := 56) dX11_init_53 rfl fX11_33 rfl rfl rfl (by first | assumption | rfl) (by omega) rfl rfl ?_
  refine r_aload_n (i := 0) (pc' := 57) dX11_init_56 rfl rfl (.head _) ?_
  refine r_new (pc' := 60) dX11_init_57 rfl nX11_37 (by decide) ?_
  refine r_dup (pc' := 61) dX11_init_60 rfl rfl ?_
  refine r_sipush (pc' := 64) dX11_init_61 rfl (by decide) ?_
  refine r_I1gv (pc' := 67) dX11_init_64 rfl lX11_39 (by decide) (Nat.le_of_ble_eq_true rfl) (tX2_init (o := 447) (N := 256) ⟨rfl, rfl⟩ (by omega) rfl) (fun n64 P64 X64 Y64 e64 le64 => ?_)
  obtain ⟨hn64, nag64, k64, kx64, kx64b⟩ := e64
  obtain rfl : n64 = 449 := by rw [hn64]
  have hP64 := fun (a j : Nat) (ha : a < 447) => congrFun (nag64 a ha).1 j
  have hX64 := fun (a j : Nat) (ha : a < 447) => congrFun (nag64 a ha).2.1 j
  refine r_putRF (pc' := 70) dX11_init_67 rfl fX11_42 rfl rfl rfl (by first | assumption | rfl) (by omega) rfl rfl ?_
  refine r_aload_n (i := 0) (pc' := 71) dX11_init_70 rfl rfl (.head _) ?_
  refine r_new (pc' := 74) dX11_init_71 rfl nX11_46 (by decide) ?_
  refine r_dup (pc' := 75) dX11_init_74 rfl rfl ?_
  refine r_IN0gv (pc' := 78) dX11_init_75 rfl lX11_48 (by decide) (Nat.le_of_ble_eq_true rfl) (tX0_init (o := 449) ⟨rfl, rfl, rfl, rfl⟩ rfl) (fun n75 P75 X75 Y75 e75 le75 => ?_)
  obtain ⟨hn75, nag75, ⟨k75_0, k75_1, k75_2⟩, kx75, kx75b⟩ := e75
  obtain rfl : n75 = 453 := by rw [hn75]
  have hP75 := fun (a j : Nat) (ha : a < 449) => congrFun (nag75 a ha).1 j
  have hX75 := fun (a j : Nat) (ha : a < 449) => congrFun (nag75 a ha).2.1 j
  refine r_putRF (pc' := 81) dX11_init_78 rfl fX11_49 rfl rfl rfl (by first | assumption | rfl) (by omega) rfl rfl ?_
  refine r_aload_n (i := 0) (pc' := 82) dX11_init_81 rfl rfl (.head _) ?_
  refine r_new (pc' := 85) dX11_init_82 rfl nX11_53 (by decide) ?_
  refine r_dup (pc' := 86) dX11_init_85 rfl rfl ?_
  refine r_IN0gv (pc' := 89) dX11_init_86 rfl lX11_55 (by decide) (Nat.le_of_ble_eq_true rfl) (tX10_init (o := 453) ⟨rfl, rfl, rfl, rfl, rfl, rfl⟩ rfl) (fun n86 P86 X86 Y86 e86 le86 => ?_)
  obtain ⟨hn86, nag86, ⟨k86_0, k86_1, k86_2, k86_3, k86_4⟩, kx86, kx86b⟩ := e86
  obtain rfl : n86 = 459 := by rw [hn86]
  have hP86 := fun (a j : Nat) (ha : a < 453) => congrFun (nag86 a ha).1 j
  have hX86 := fun (a j : Nat) (ha : a < 453) => congrFun (nag86 a ha).2.1 j
  refine r_putRF (pc' := 92) dX11_init_89 rfl fX11_56 rfl rfl rfl (by first | assumption | rfl) (by omega) rfl rfl ?_
  refine r_aload_n (i := 0) (pc' := 93) dX11_init_92 rfl rfl (.head _) ?_
  refine r_new (pc' := 96) dX11_init_93 rfl nX11_60 (by decide) ?_
  refine r_dup (pc' := 97) dX11_init_96 rfl rfl ?_
  refine r_IN0gv (pc' := 100) dX11_init_97 rfl lX11_62 (by decide) (Nat.le_of_ble_eq_true rfl) (tX3_init (o := 459) ⟨rfl, rfl, rfl, rfl, rfl, rfl, rfl, rfl⟩ rfl) (fun n97 P97 X97 Y97 e97 le97 => ?_)
  obtain ⟨hn97, nag97, ⟨k97_0, k97_1, k97_2, k97_3, k97_4, k97_5, k97_6⟩, kx97, kx97b⟩ := e97
  obtain rfl : n97 = 467 := by rw [hn97]
  have hP97 := fun (a j : Nat) (ha : a < 459) => congrFun (nag97 a ha).1 j
  have hX97 := fun (a j : Nat) (ha : a < 459) => congrFun (nag97 a ha).2.1 j
  refine r_putRF (pc' := 103) dX11_init_100 rfl fX11_63 rfl rfl rfl (by first | assumption | rfl) (by omega) rfl rfl ?_
  refine r_aload_n (i := 0) (pc' := 104) dX11_init_103 rfl rfl (.head _) ?_
  refine r_iconst (pc' := 105) dX11_init_104 rfl ?_
  refine r_putI (pc' := 108) dX11_init_105 rfl fX11_67 rfl (by first | assumption | rfl) (by omega) rfl rfl ?_
  refine r_aload_n (i := 0) (pc' := 109) dX11_init_108 rfl rfl (.head _) ?_
  refine r_iconst (pc' := 110) dX11_init_109 rfl ?_
  refine r_putI (pc' := 113) dX11_init_110 rfl fX11_71 rfl (by first | assumption | rfl) (by omega) rfl rfl ?_
  refine r_aload_n (i := 0) (pc' := 114) dX11_init_113 rfl rfl (.head _) ?_
  refine r_iconst (pc' := 115) dX11_init_114 rfl ?_
  refine r_putI (pc' := 118) dX11_init_115 rfl fX11_74 rfl (by first | assumption | rfl) (by omega) rfl rfl ?_
  refine r_return dX11_init_118 rfl ?_
  refine ⟨rfl, rfl, ⟨?_, ?_, ?_, ?_, ?_, ?_, ?_, ?_, ?_⟩, ?_, ?_, ?_, fun j => ?_, ⟨?_, fun j => ?_⟩, ⟨?_, ?_⟩, ⟨?_, ?_, ?_⟩, ⟨?_, ?_⟩, ⟨?_, ?_, ?_⟩, ⟨?_, ?_, ?_, ?_, ?_⟩, ⟨?_, ?_, ?_, ?_, ?_, ?_, ?_⟩, ?_, ?_, ?_⟩
  · simp (disch := omega) only [hP97, hP86, hP75, hP64, hP50, hP39, hP20, hP9, q_up_ne, q_up_same, q_clr_ne, q_clr_same]
  · simp (disch := omega) only [hP97, hP86, hP75, hP64, hP50, hP39, hP20, hP9, q_up_ne, q_up_same, q_clr_ne, q_clr_same]
  · simp (disch := omega) only [hP97, hP86, hP75, hP64, hP50, hP39, hP20, hP9, q_up_ne, q_up_same, q_clr_ne, q_clr_same]
  · simp (disch := omega) only [hP97, hP86, hP75, hP64, hP50, hP39, hP20, hP9, q_up_ne, q_up_same, q_clr_ne, q_clr_same]
  · simp (disch := omega) only [hP97, hP86, hP75, hP64, hP50, hP39, hP20, hP9, q_up_ne, q_up_same, q_clr_ne, q_clr_same]
  · simp (disch := omega) only [hP97, hP86, hP75, hP64, hP50, hP39, hP20, hP9, q_up_ne, q_up_same, q_clr_ne, q_clr_same]
  · simp (disch := omega) only [hP97, hP86, hP75, hP64, hP50, hP39, hP20, hP9, q_up_ne, q_up_same, q_clr_ne, q_clr_same]
  · simp (disch := omega) only [hP97, hP86, hP75, hP64, hP50, hP39, hP20, hP9, q_up_ne, q_up_same, q_clr_ne, q_clr_same]
  · simp (disch := omega) only [hP97, hP86, hP75, hP64, hP50, hP39, hP20, hP9, q_up_ne, q_up_same, q_clr_ne, q_clr_same]
  · exact isBk_of ib9 (by omega) (fun d hd => by funext j; simp (disch := omega) only [hP97, hP86, hP75, hP64, hP50, hP39, hP20, hP9, q_up_ne, q_up_same, q_clr_ne, q_clr_same])
  · exact isBk_of ib20 (by omega) (fun d hd => by funext j; simp (disch := omega) only [hP97, hP86, hP75, hP64, hP50, hP39, hP20, hP9, q_up_ne, q_up_same, q_clr_ne, q_clr_same])
  · have hbx : ∀ a, 1 ≤ a → a < 221 → xv (q_up (q_up (q_up X97 0 9 (zi (-1))) 0 10 (zi (-1))) 0 11 (zi 0)) a = xv X9 a := fun a h1 h2 => by funext j; unfold xv; simp (disch := omega) only [hX97, hX86, hX75, hX64, hX50, hX39, hX20, hX9, q_up_ne, q_up_same, q_clr_ne, q_clr_same]
    unfold bNew at nb9 ⊢
    rw [hbx 1 (by omega) (by omega), hbx (1 + 1) (by omega) (by omega), hbx (1 + 2) (by omega) (by omega)]
    exact ⟨nb9.1, nb9.2.1, fun d h1 h2 j => by rw [hbx (1 + d) (by omega) (by omega)]; exact nb9.2.2 d h1 h2 j⟩
  · simp (disch := omega) only [hP97, hP86, hP75, hP64, hP50, hP39, hP20, hP9, q_up_ne, q_up_same, q_clr_ne, q_clr_same]
  · simp (disch := omega) only [hP97, hP86, hP75, hP64, hP50, hP39, hP20, hP9, q_up_ne, q_up_same, q_clr_ne, q_clr_same]; exact k39
  · rw [show (443 : Nat) = 442 + 1 from rfl]; simp (disch := omega) only [hP97, hP86, hP75, hP64, hP50, hP39, hP20, hP9, q_up_ne, q_up_same, q_clr_ne, q_clr_same]; exact h443 j
  · unfold xv; simp (disch := omega) only [hX97, hX86, hX75, hX64, hX50, hX39, hX20, hX9, q_up_ne, q_up_same, q_clr_ne, q_clr_same]; rw [kx39]; simp (disch := omega) only [hX97, hX86, hX75, hX64, hX50, hX39, hX20, hX9, q_up_ne, q_up_same, q_clr_ne, q_clr_same]; rfl
  · unfold xv; simp (disch := omega) only [hX97, hX86, hX75, hX64, hX50, hX39, hX20, hX9, q_up_ne, q_up_same, q_clr_ne, q_clr_same]; rw [kx39]; simp (disch := omega) only [hX97, hX86, hX75, hX64, hX50, hX39, hX20, hX9, q_up_ne, q_up_same, q_clr_ne, q_clr_same]; rfl
  · simp (disch := omega) only [hP97, hP86, hP75, hP64, hP50, hP39, hP20, hP9, q_up_ne, q_up_same, q_clr_ne, q_clr_same]; exact k50a
  · simp (disch := omega) only [hP97, hP86, hP75, hP64, hP50, hP39, hP20, hP9, q_up_ne, q_up_same, q_clr_ne, q_clr_same]; exact k50b
  · unfold xv; simp (disch := omega) only [hX97, hX86, hX75, hX64, hX50, hX39, hX20, hX9, q_up_ne, q_up_same, q_clr_ne, q_clr_same]; rw [show X50 445 = fun _ => 0 from kx50]; rfl
  · simp (disch := omega) only [hP97, hP86, hP75, hP64, hP50, hP39, hP20, hP9, q_up_ne, q_up_same, q_clr_ne, q_clr_same]; exact k64
  · unfold xv; simp (disch := omega) only [hX97, hX86, hX75, hX64, hX50, hX39, hX20, hX9, q_up_ne, q_up_same, q_clr_ne, q_clr_same]; rw [show X64 447 = _ from kx64]; simp (disch := omega) only [hX97, hX86, hX75, hX64, hX50, hX39, hX20, hX9, q_up_ne, q_up_same, q_clr_ne, q_clr_same]; rfl
  · simp (disch := omega) only [hP97, hP86, hP75, hP64, hP50, hP39, hP20, hP9, q_up_ne, q_up_same, q_clr_ne, q_clr_same]; exact k75_0
  · simp (disch := omega) only [hP97, hP86, hP75, hP64, hP50, hP39, hP20, hP9, q_up_ne, q_up_same, q_clr_ne, q_clr_same]; exact k75_1
  · simp (disch := omega) only [hP97, hP86, hP75, hP64, hP50, hP39, hP20, hP9, q_up_ne, q_up_same, q_clr_ne, q_clr_same]; exact k75_2
  · simp (disch := omega) only [hP97, hP86, hP75, hP64, hP50, hP39, hP20, hP9, q_up_ne, q_up_same, q_clr_ne, q_clr_same]; exact k86_0
  · simp (disch := omega) only [hP97, hP86, hP75, hP64, hP50, hP39, hP20, hP9, q_up_ne, q_up_same, q_clr_ne, q_clr_same]; exact k86_1
  · simp (disch := omega) only [hP97, hP86, hP75, hP64, hP50, hP39, hP20, hP9, q_up_ne, q_up_same, q_clr_ne, q_clr_same]; exact k86_2
  · simp (disch := omega) only [hP97, hP86, hP75, hP64, hP50, hP39, hP20, hP9, q_up_ne, q_up_same, q_clr_ne, q_clr_same]; exact k86_3
  · simp (disch := omega) only [hP97, hP86, hP75, hP64, hP50, hP39, hP20, hP9, q_up_ne, q_up_same, q_clr_ne, q_clr_same]; exact k86_4
  · simp (disch := omega) only [hP97, hP86, hP75, hP64, hP50, hP39, hP20, hP9, q_up_ne, q_up_same, q_clr_ne, q_clr_same]; exact k97_0
  · simp (disch := omega) only [hP97, hP86, hP75, hP64, hP50, hP39, hP20, hP9, q_up_ne, q_up_same, q_clr_ne, q_clr_same]; exact k97_1
  · simp (disch := omega) only [hP97, hP86, hP75, hP64, hP50, hP39, hP20, hP9, q_up_ne, q_up_same, q_clr_ne, q_clr_same]; exact k97_2
  · simp (disch := omega) only [hP97, hP86, hP75, hP64, hP50, hP39, hP20, hP9, q_up_ne, q_up_same, q_clr_ne, q_clr_same]; exact k97_3
  · simp (disch := omega) only [hP97, hP86, hP75, hP64, hP50, hP39, hP20, hP9, q_up_ne, q_up_same, q_clr_ne, q_clr_same]; exact k97_4
  · simp (disch := omega) only [hP97, hP86, hP75, hP64, hP50, hP39, hP20, hP9, q_up_ne, q_up_same, q_clr_ne, q_clr_same]; exact k97_5
  · simp (disch := omega) only [hP97, hP86, hP75, hP64, hP50, hP39, hP20, hP9, q_up_ne, q_up_same, q_clr_ne, q_clr_same]; exact k97_6
  · unfold xv; simp (disch := omega) only [hX97, hX86, hX75, hX64, hX50, hX39, hX20, hX9, q_up_ne, q_up_same, q_clr_ne, q_clr_same]; rfl
  · unfold xv; simp (disch := omega) only [hX97, hX86, hX75, hX64, hX50, hX39, hX20, hX9, q_up_ne, q_up_same, q_clr_ne, q_clr_same]; rfl
  · unfold xv; simp (disch := omega) only [hX97, hX86, hX75, hX64, hX50, hX39, hX20, hX9, q_up_ne, q_up_same, q_clr_ne, q_clr_same]; rfl
  
