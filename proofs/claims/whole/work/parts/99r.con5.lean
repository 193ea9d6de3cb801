theorem rd4_eq (C : q_X) (d : Nat) : rd_exp (rd_numX (rd3 C d) 0 99999) 44 = rd4 C d := by rw [rd4, rdN]
theorem tF.con4a {C X : q_X} {d : Nat} (h : tF (rd_exp (rd_numX (rd3 C d) 0 99999) 44) X) (hd : d ≠ 444) : tF (rdCon C d) X := by
  rw [rd4_eq] at h; exact h.con4 hd
theorem tF.con4n {C X : q_X} {d : Nat} (h : tF (rd_numX (rd3 C d) 0 99999) X) (hd : d ≠ 444) : tF (rdCon C d) X := tF.con4a (h.exp 44) hd
theorem rd2_eq (C : q_X) (d : Nat) : rd_exp (rd_numX (rd1 C d) 1 (min 6 (20 - rdf C d))) 44 = rd2 C d := by rw [rd2, rdN]
theorem rd3_eq (C : q_X) (d : Nat) : rd_exp (rd_numX (rd2 C d) 0 (min 4 (20 - rdf C d - rdy C d))) 44 = rd3 C d := by rw [rd3, rdN]
theorem tF.con2a {C X : q_X} {d : Nat} (h : tF (rd_exp (rd_numX (rd1 C d) 1 (min 6 (20 - rdf C d))) 44) X) (hd : d ≠ 444) : tF (rdCon C d) X := by
  rw [rd2_eq] at h; exact h.con2 hd
theorem tF.con2n {C X : q_X} {d : Nat} (h : tF (rd_numX (rd1 C d) 1 (min 6 (20 - rdf C d))) X) (hd : d ≠ 444) : tF (rdCon C d) X := tF.con2a (h.exp 44) hd
theorem tF.con3a {C X : q_X} {d : Nat} (h : tF (rd_exp (rd_numX (rd2 C d) 0 (min 4 (20 - rdf C d - rdy C d))) 44) X) (hd : d ≠ 444) : tF (rdCon C d) X := by
  rw [rd3_eq] at h; exact h.con3 hd
theorem tF.con3n {C X : q_X} {d : Nat} (h : tF (rd_numX (rd2 C d) 0 (min 4 (20 - rdf C d - rdy C d))) X) (hd : d ≠ 444) : tF (rdCon C d) X := tF.con3a (h.exp 44) hd
set_option maxHeartbeats 4000000 in
set_option maxRecDepth 100000 in
theorem tX12_readContract {l : Launch} {g : q_G} {n : Nat} {P : q_P} {X : q_X} {Y : q_Y} (hm : isMod n P) {C : q_X} {d : Nat} (hR : tR C X) (hB : RB C d (xv X 468)) (hA : bA C d) (hd : d + 220 ≤ 441) (h40 : xv C d 10 < 40) : q_Met l g mX12_readContract 5 [.ref (g.1 + 467)] n P X Y (q_gi (fun r' n' P' X' Y' => n' = n ∧ P' = P ∧ Y' = Y ∧ ((r' = 1 ∧ uO X X' ∧ tR (rdCon C d) X' ∧ RB (rdCon C d) d (xv X' 468) ∧ bA (rdCon C d) d) ∨ (r' = 0 ∧ uO X X' ∧ tF (rdCon C d) X')))) := by
  have hO := hA.1
  obtain ⟨m0, m2, m3, m8, m9, m14, m15, m16, m17, m18, m20, m22, m25, hnm9⟩ := id hm
  obtain ⟨o0, o1, o2, o3, o4, o5, o6, o10, oc, op0, opz, opi, om0, omi, olim⟩ := id hO
  obtain ⟨z, hz⟩ : ∃ z : Nat, xv C d 10 = (z : Int) := ⟨(xv C d 10).toNat, by omega⟩
  refine q_enter (L := [(0, .ref (g.1 + 467))]) (by decide) (Nat.le_of_ble_eq_true rfl) rfl ?_
  refine r_aload_n (i := 0) (pc' := 1) dX12_readContract_0 rfl rfl (.head _) ?_
  refine r_getR (pc' := 4) dX12_readContract_1 rfl fX12_3 rfl (by first | assumption | rfl) (by omega) (by assumption) ?_
  refine r_bipush (pc' := 6) dX12_readContract_4 rfl (by decide) ?_
  refine r_iaload (pc' := 7) dX12_readContract_6 rfl (by first | assumption | rfl) (by omega) (by omega) (by omega) (by first | decide | omega) (show Int.toNat 7 = 7 from rfl) ?_
  rw [hB.m, hz]
  refine r_istore_n (i := 1) (pc' := 8) dX12_readContract_7 rfl rfl rfl (.s1 .nil rfl rfl rfl) ?_
  refine r_iconst (pc' := 9) dX12_readContract_8 rfl ?_
  refine r_istore_n (i := 2) (pc' := 10) dX12_readContract_9 rfl rfl rfl (.s1 (.s1 .nil rfl rfl rfl) rfl rfl rfl) ?_
  refine l0cX12_readContract hm (by omega) ?_
  have hv0 := fun j => zR_v X (130 + 86 * z) 86 j
  have hu0 : uO X (zR X (130 + 86 * z) 86) := fun a j a1 a2 => by unfold zR; rw [if_neg (by omega)]
  have hR0 : tR C (zR X (130 + 86 * z) 86) := hR.x (by funext j; simp only [xv]; unfold zR; rw [if_neg (by omega)]) (by funext j; simp only [xv]; unfold zR; rw [if_neg (by omega)])
  generalize zR X (130 + 86 * z) 86 = X0 at hv0 hu0 hR0 ⊢
  refine r_aload_n (i := 0) (pc' := 34) dX12_readContract_33 rfl rfl (.head _) ?_
  refine r_iload_n (i := 1) (pc' := 35) dX12_readContract_34 rfl rfl (.tail _ (.head _)) ?_
  refine r_iconst (pc' := 36) dX12_readContract_35 rfl ?_
  refine r_S2p (pc' := 39) dX12_readContract_36 rfl lX12_111 (by decide) (Nat.le_of_ble_eq_true rfl) (tX12_placeOf ) ?_
  rw [show 130 + 86 * (z : Int) + 0 = ((130 + 86 * z : Nat) : Int) by omega]
  refine r_aload_n (i := 0) (pc' := 40) dX12_readContract_39 rfl rfl (.head _) ?_
  refine r_getR (pc' := 43) dX12_readContract_40 rfl fX12_3 rfl (by first | assumption | rfl) (by omega) (by assumption) ?_
  refine r_iconst (pc' := 44) dX12_readContract_43 rfl ?_
  refine r_iaload (pc' := 45) dX12_readContract_44 rfl (by first | assumption | rfl) (by omega) (by omega) (by omega) (by first | decide | omega) (show Int.toNat 0 = 0 from rfl) ?_
  rw [hv0, if_neg (by omega), hB.z 0 (by decide)]
  refine r_bipush (pc' := 47) dX12_readContract_45 rfl (by decide) ?_
  refine r_V3gi (ci := 12) (pc' := 50) dX12_readContract_47 rfl lX12_107 rfl (by decide) (Nat.le_of_ble_eq_true rfl) (by first | assumption | rfl) (by omega) (tX12_reads (C := C) hm hR0 (by omega) (by omega) (to := (130 + 86 * z)) (by omega)) (fun r47 n47 P47 X47 Y47 e47 le47 => ?_)
  obtain ⟨h1v, h2v, h3v, hq47⟩ := e47
  subst h1v h2v h3v
  rcases hq47 with ⟨hz47, X1, ho47, hX1, ht47, f1, f2⟩ | ⟨hz47, ho47, hf⟩
  · subst hz47
    generalize hfvq : rd_numV C (xv C d 0) 19 = fv at hX1 f1 f2
    have hfl : ∀ p : Int → Prop, p fv ↔ p (rdf C d) := fun p => by rw [← hfvq]; exact Iff.rfl
    clear hfvq
    subst hX1
    have hv47 : ∀ j, xv (q_up X1 468 ((130 + 86 * z)) (zi fv)) 468 j = if j = (130 + 86 * z) then fv else xv X0 468 j := fun j => by
      by_cases e : j = (130 + 86 * z)
      · subst e; rw [xv_up_same _ _ _ (by omega), if_pos rfl]
      · rw [xv_up_ne _ _ (by omega), if_neg e, ho47.v (by omega)]
    refine r_if_eq (t := 142) (f := 53) dX12_readContract_50 (by decide) rfl (by first | omega | exact xv_in _ _ _) (fun h50 => ?_) (fun h50 => ?_)
    · exfalso; omega
    · refine r_aload_n (i := 0) (pc' := 54) dX12_readContract_53 rfl rfl (.head _) ?_
      refine r_bipush (pc' := 56) dX12_readContract_54 rfl (by decide) ?_
      refine r_V1gi (ci := 12) (pc' := 59) dX12_readContract_56 rfl lX12_103 rfl (by decide) (Nat.le_of_ble_eq_true rfl) (by first | assumption | rfl) (by omega) (tT_takes (C := rd_numX C (xv C d 0) 19) hm (ht47.up _ _) (by omega) (by omega)) (fun r56 n56 P56 X56 Y56 e56 le56 => ?_)
      obtain ⟨h1v, h2v, h3v, hq56⟩ := e56
      subst h1v h2v h3v
      rcases hq56 with ⟨hz56, ho56, ht56⟩ | ⟨hz56, ho56, hf⟩
      · subst hz56
        replace ht56 : tR (rd1 C d) X56 := ht56
        have hu56 := ((hu0.trans ho47.u).up (j := (130 + 86 * z)) (v := zi fv) (by omega)).trans ho56.u
        have k47 : xv X56 468 (130 + 86 * z) = fv := by rw [ho56.v (by omega)]; exact (hv47 _).trans (if_pos rfl)
        refine r_if_eq (t := 142) (f := 62) dX12_readContract_59 (by decide) rfl (by first | omega | exact xv_in _ _ _) (fun h59 => ?_) (fun h59 => ?_)
        · exfalso; omega
        · refine r_aload_n (i := 0) (pc' := 63) dX12_readContract_62 rfl rfl (.head _) ?_
          refine r_iload_n (i := 1) (pc' := 64) dX12_readContract_63 rfl rfl (.tail _ (.head _)) ?_
          refine r_iconst (pc' := 65) dX12_readContract_64 rfl ?_
          refine r_S2p (pc' := 68) dX12_readContract_65 rfl lX12_111 (by decide) (Nat.le_of_ble_eq_true rfl) (tX12_placeOf ) ?_
          rw [show 130 + 86 * (z : Int) + 1 = ((130 + 86 * z + 1 : Nat) : Int) by omega]
          refine r_iconst (pc' := 69) dX12_readContract_68 rfl ?_
          refine r_bipush (pc' := 71) dX12_readContract_69 rfl (by decide) ?_
          refine r_bipush (pc' := 73) dX12_readContract_71 rfl (by decide) ?_
          refine r_aload_n (i := 0) (pc' := 74) dX12_readContract_73 rfl rfl (.head _) ?_
          refine r_iload_n (i := 1) (pc' := 75) dX12_readContract_74 rfl rfl (.tail _ (.head _)) ?_
          refine r_iconst (pc' := 76) dX12_readContract_75 rfl ?_
          refine r_V2p (ci := 12) (pc' := 79) dX12_readContract_76 rfl lX12_115 rfl (by decide) (Nat.le_of_ble_eq_true rfl) (by first | assumption | rfl) (by omega) (tX12_of hm (k := (z : Int)) (w := 0) (by omega) (by omega)) ?_
          rw [show (130 + 86 * (z : Int) + 0).toNat = 130 + 86 * z by omega, k47]
          refine r_isub (pc' := 80) dX12_readContract_79 rfl ?_
          refine r_S2p (pc' := 83) dX12_readContract_80 rfl lX12_122 (by decide) (Nat.le_of_ble_eq_true rfl) (tX12_lesser (by omega) (by omega)) ?_
          refine r_V3gi (ci := 12) (pc' := 86) dX12_readContract_83 rfl lX12_107 rfl (by decide) (Nat.le_of_ble_eq_true rfl) (by first | assumption | rfl) (by omega) (tX12_reads (C := rd1 C d) hm ht56 (by omega) (by omega) (to := (130 + 86 * z) + 1) (by omega)) (fun r83 n83 P83 X83 Y83 e83 le83 => ?_)
          obtain ⟨h1v, h2v, h3v, hq83⟩ := e83
          subst h1v h2v h3v
          rcases hq83 with ⟨hz83, X2, ho83, hX2, ht83, y1, y2⟩ | ⟨hz83, ho83, hf⟩
          · subst hz83
            generalize hyvq : rd_numV (rd1 C d) 1 (min 6 (20 - fv)) = yv at hX2 y1 y2
            have hyl : ∀ p : Int → Prop, p yv ↔ p (rdy C d) := fun p => by rw [← hyvq]; exact (hfl (fun x => p (rd_numV (rd1 C d) 1 (min 6 (20 - x)))))
            clear hyvq
            subst hX2
            have hv83 : ∀ j, xv (q_up X2 468 ((130 + 86 * z) + 1) (zi yv)) 468 j = if j = (130 + 86 * z) + 1 then yv else if j = (130 + 86 * z) then fv else xv X0 468 j := fun j => by
              by_cases e : j = (130 + 86 * z) + 1
              · subst e; rw [xv_up_same _ _ _ (by omega), if_pos rfl]
              · rw [xv_up_ne _ _ (by omega), if_neg e, ho83.v (by omega), ho56.v (by omega)]; exact hv47 j
            refine r_if_eq (t := 142) (f := 89) dX12_readContract_86 (by decide) rfl (by first | omega | exact xv_in _ _ _) (fun h86 => ?_) (fun h86 => ?_)
            · exfalso; omega
            · refine r_aload_n (i := 0) (pc' := 90) dX12_readContract_89 rfl rfl (.head _) ?_
              refine r_bipush (pc' := 92) dX12_readContract_90 rfl (by decide) ?_
              refine r_V1gi (ci := 12) (pc' := 95) dX12_readContract_92 rfl lX12_103 rfl (by decide) (Nat.le_of_ble_eq_true rfl) (by first | assumption | rfl) (by omega) (tT_takes (C := rd_numX (rd1 C d) 1 (min 6 (20 - fv))) hm (ht83.up _ _) (by omega) (by omega)) (fun r92 n92 P92 X92 Y92 e92 le92 => ?_)
              obtain ⟨h1v, h2v, h3v, hq92⟩ := e92
              subst h1v h2v h3v
              rcases hq92 with ⟨hz92, ho92, ht92⟩ | ⟨hz92, ho92, hf⟩
              · subst hz92
                replace ht92 : tR (rd2 C d) X92 := ((hfl (fun x => tR (rd_exp (rd_numX (rd1 C d) 1 (min 6 (20 - x))) 44) X92))).mp ht92
                have hu92 := ((hu56.trans ho83.u).up (j := (130 + 86 * z) + 1) (v := zi yv) (by omega)).trans ho92.u
                have k83a : xv X92 468 (130 + 86 * z) = fv := by rw [ho92.v (by omega)]; exact (hv83 _).trans ((if_neg (by omega)).trans (if_pos rfl))
                have k83b : xv X92 468 ((130 + 86 * z) + 1) = yv := by rw [ho92.v (by omega)]; exact (hv83 _).trans (if_pos rfl)
                refine r_if_eq (t := 142) (f := 98) dX12_readContract_95 (by decide) rfl (by first | omega | exact xv_in _ _ _) (fun h95 => ?_) (fun h95 => ?_)
                · exfalso; omega
                · refine r_aload_n (i := 0) (pc' := 99) dX12_readContract_98 rfl rfl (.head _) ?_
                  refine r_iload_n (i := 1) (pc' := 100) dX12_readContract_99 rfl rfl (.tail _ (.head _)) ?_
                  refine r_iconst (pc' := 101) dX12_readContract_100 rfl ?_
                  refine r_S2p (pc' := 104) dX12_readContract_101 rfl lX12_111 (by decide) (Nat.le_of_ble_eq_true rfl) (tX12_placeOf ) ?_
                  rw [show 130 + 86 * (z : Int) + 2 = ((130 + 86 * z + 2 : Nat) : Int) by omega]
                  refine r_iconst (pc' := 105) dX12_readContract_104 rfl ?_
                  refine r_iconst (pc' := 106) dX12_readContract_105 rfl ?_
                  refine r_bipush (pc' := 108) dX12_readContract_106 rfl (by decide) ?_
                  refine r_aload_n (i := 0) (pc' := 109) dX12_readContract_108 rfl rfl (.head _) ?_
                  refine r_iload_n (i := 1) (pc' := 110) dX12_readContract_109 rfl rfl (.tail _ (.head _)) ?_
                  refine r_V1p (ci := 12) (pc' := 113) dX12_readContract_110 rfl lX12_132 rfl (by decide) (Nat.le_of_ble_eq_true rfl) (by first | assumption | rfl) (by omega) (tE_endOf hm (k := z) (by omega)) ?_
                  rw [k83a, k83b]
                  refine r_isub (pc' := 114) dX12_readContract_113 rfl ?_
                  refine r_S2p (pc' := 117) dX12_readContract_114 rfl lX12_122 (by decide) (Nat.le_of_ble_eq_true rfl) (tX12_lesser (by omega) (by omega)) ?_
                  rw [show 20 - (fv + yv) = 20 - fv - yv by omega]
                  refine r_V3gi (ci := 12) (pc' := 120) dX12_readContract_117 rfl lX12_107 rfl (by decide) (Nat.le_of_ble_eq_true rfl) (by first | assumption | rfl) (by omega) (tX12_reads (C := rd2 C d) hm ht92 (by omega) (by omega) (to := (130 + 86 * z) + 2) (by omega)) (fun r117 n117 P117 X117 Y117 e117 le117 => ?_)
                  obtain ⟨h1v, h2v, h3v, hq117⟩ := e117
                  subst h1v h2v h3v
                  rcases hq117 with ⟨hz117, X3, ho117, hX3, ht117, v1, v2⟩ | ⟨hz117, ho117, hf⟩
                  · subst hz117
                    generalize hvvq : rd_numV (rd2 C d) 0 (min 4 (20 - fv - yv)) = vv at hX3 v1 v2
                    have hvl : ∀ p : Int → Prop, p vv ↔ p (rdv C d) := fun p => by rw [← hvvq]; exact ((hfl (fun x => p (rd_numV (rd2 C d) 0 (min 4 (20 - x - yv))))).trans (hyl (fun x => p (rd_numV (rd2 C d) 0 (min 4 (20 - rdf C d - x))))))
                    clear hvvq
                    subst hX3
                    have hv117 : ∀ j, xv (q_up X3 468 ((130 + 86 * z) + 2) (zi vv)) 468 j = if j = (130 + 86 * z) + 2 then vv else if j = (130 + 86 * z) + 1 then yv else if j = (130 + 86 * z) then fv else xv X0 468 j := fun j => by
                      by_cases e : j = (130 + 86 * z) + 2
                      · subst e; rw [xv_up_same _ _ _ (by omega), if_pos rfl]
                      · rw [xv_up_ne _ _ (by omega), if_neg e, ho117.v (by omega), ho92.v (by omega)]; exact hv83 j
                    refine r_if_eq (t := 142) (f := 123) dX12_readContract_120 (by decide) rfl (by first | omega | exact xv_in _ _ _) (fun h120 => ?_) (fun h120 => ?_)
                    · exfalso; omega
                    · refine r_aload_n (i := 0) (pc' := 124) dX12_readContract_123 rfl rfl (.head _) ?_
                      refine r_bipush (pc' := 126) dX12_readContract_124 rfl (by decide) ?_
                      refine r_V1gi (ci := 12) (pc' := 129) dX12_readContract_126 rfl lX12_103 rfl (by decide) (Nat.le_of_ble_eq_true rfl) (by first | assumption | rfl) (by omega) (tT_takes (C := rd_numX (rd2 C d) 0 (min 4 (20 - fv - yv))) hm (ht117.up _ _) (by omega) (by omega)) (fun r126 n126 P126 X126 Y126 e126 le126 => ?_)
                      obtain ⟨h1v, h2v, h3v, hq126⟩ := e126
                      subst h1v h2v h3v
                      rcases hq126 with ⟨hz126, ho126, ht126⟩ | ⟨hz126, ho126, hf⟩
                      · subst hz126
                        replace ht126 : tR (rd3 C d) X126 := (((hfl (fun x => tR (rd_exp (rd_numX (rd2 C d) 0 (min 4 (20 - x - yv))) 44) X126)).trans (hyl (fun x => tR (rd_exp (rd_numX (rd2 C d) 0 (min 4 (20 - rdf C d - x))) 44) X126)))).mp ht126
                        have hu126 := ((hu92.trans ho117.u).up (j := (130 + 86 * z) + 2) (v := zi vv) (by omega)).trans ho126.u
                        refine r_if_eq (t := 142) (f := 132) dX12_readContract_129 (by decide) rfl (by first | omega | exact xv_in _ _ _) (fun h129 => ?_) (fun h129 => ?_)
                        · exfalso; omega
                        · refine r_aload_n (i := 0) (pc' := 133) dX12_readContract_132 rfl rfl (.head _) ?_
                          refine r_iconst (pc' := 134) dX12_readContract_133 rfl ?_
                          refine r_ldc (pc' := 136) dX12_readContract_134 rfl kX12_135 ?_
                          refine r_V2gi (ci := 12) (pc' := 139) dX12_readContract_136 rfl lX12_99 rfl (by decide) (Nat.le_of_ble_eq_true rfl) (by first | assumption | rfl) (by omega) (tX12_readNumber (C := rd3 C d) hm ht126 (by omega) (by omega)) (fun r136 n136 P136 X136 Y136 e136 le136 => ?_)
                          obtain ⟨h1v, h2v, h3v, hq136⟩ := e136
                          subst h1v h2v h3v
                          rcases hq136 with ⟨hz136, ho136, ht136, hnum, bo1, bo2⟩ | ⟨hz136, ho136, hf⟩
                          · subst hz136
                            generalize hboq : rd_numV (rd3 C d) 0 99999 = bo at hnum bo1 bo2
                            have hbl : ∀ p : Int → Prop, p bo ↔ p (rdb C d) := fun p => by rw [← hboq]; exact Iff.rfl
                            clear hboq
                            refine r_if_ne (t := 144) (f := 142) dX12_readContract_139 (by decide) rfl (by first | omega | exact xv_in _ _ _) (fun h139 => ?_) (fun h139 => ?_)
                            · refine r_aload_n (i := 0) (pc' := 145) dX12_readContract_144 rfl rfl (.head _) ?_
                              refine r_getI (pc' := 148) dX12_readContract_145 rfl fX12_93 rfl (by first | assumption | rfl) (by omega) ?_
                              rw [hnum]
                              refine r_istore_n (i := 2) (pc' := 149) dX12_readContract_148 rfl rfl rfl (.s1 (.s1 .nil rfl rfl rfl) rfl rfl rfl) ?_
                              refine r_aload_n (i := 0) (pc' := 150) dX12_readContract_149 rfl rfl (.head _) ?_
                              refine r_bipush (pc' := 152) dX12_readContract_150 rfl (by decide) ?_
                              refine r_V1gi (ci := 12) (pc' := 155) dX12_readContract_152 rfl lX12_103 rfl (by decide) (Nat.le_of_ble_eq_true rfl) (by first | assumption | rfl) (by omega) (tT_takes (C := rd_numX (rd3 C d) 0 99999) hm ht136 (by omega) (by omega)) (fun r152 n152 P152 X152 Y152 e152 le152 => ?_)
                              obtain ⟨h1v, h2v, h3v, hq152⟩ := e152
                              subst h1v h2v h3v
                              rcases hq152 with ⟨hz152, ho152, ht152⟩ | ⟨hz152, ho152, hf⟩
                              · subst hz152
                                replace ht152 : tR (rd4 C d) X152 := ht152
                                refine r_if_eq (t := 173) (f := 158) dX12_readContract_155 (by decide) rfl (by first | omega | exact xv_in _ _ _) (fun h155 => ?_) (fun h155 => ?_)
                                · exfalso; omega
                                · refine r_aload_n (i := 0) (pc' := 159) dX12_readContract_158 rfl rfl (.head _) ?_
                                  refine r_iload_n (i := 1) (pc' := 160) dX12_readContract_159 rfl rfl (.tail _ (.head _)) ?_
                                  refine r_iconst (pc' := 161) dX12_readContract_160 rfl ?_
                                  refine r_S2p (pc' := 164) dX12_readContract_161 rfl lX12_111 (by decide) (Nat.le_of_ble_eq_true rfl) (tX12_placeOf ) ?_
                                  rw [show 130 + 86 * (z : Int) + 3 = ((130 + 86 * z + 3 : Nat) : Int) by omega]
                                  refine r_iconst (pc' := 165) dX12_readContract_164 rfl ?_
                                  refine r_bipush (pc' := 167) dX12_readContract_165 rfl (by decide) ?_
                                  refine r_V3gi (ci := 12) (pc' := 170) dX12_readContract_167 rfl lX12_107 rfl (by decide) (Nat.le_of_ble_eq_true rfl) (by first | assumption | rfl) (by omega) (tX12_reads (C := rd4 C d) hm ht152 (by omega) (by omega) (to := (130 + 86 * z) + 3) (by omega)) (fun r167 n167 P167 X167 Y167 e167 le167 => ?_)
                                  obtain ⟨h1v, h2v, h3v, hq167⟩ := e167
                                  subst h1v h2v h3v
                                  rcases hq167 with ⟨hz167, X4, ho167, hX4, ht167, s1, s2⟩ | ⟨hz167, ho167, hf⟩
                                  · subst hz167
                                    generalize hsvq : rd_numV (rd4 C d) 0 100 = sv at hX4 s1 s2
                                    have hsl : ∀ p : Int → Prop, p sv ↔ p (rds C d) := fun p => by rw [← hsvq]; exact Iff.rfl
                                    clear hsvq
                                    subst hX4
                                    replace ht167 : tR (rd5 C d) X4 := ht167
                                    have hv167 : ∀ j, xv (q_up X4 468 ((130 + 86 * z) + 3) (zi sv)) 468 j = if j = (130 + 86 * z) + 3 then sv else if j = (130 + 86 * z) + 2 then vv else if j = (130 + 86 * z) + 1 then yv else if j = (130 + 86 * z) then fv else xv X0 468 j := fun j => by
                                      by_cases e : j = (130 + 86 * z) + 3
                                      · subst e; rw [xv_up_same _ _ _ (by omega), if_pos rfl]
                                      · rw [xv_up_ne _ _ (by omega), if_neg e, ho167.v (by omega), ho152.v (by omega), ho136.v (by omega), ho126.v (by omega)]; exact hv117 j
                                    refine r_if_ne (t := 175) (f := 173) dX12_readContract_170 (by decide) rfl (by first | omega | exact xv_in _ _ _) (fun h170 => ?_) (fun h170 => ?_)
                                    · refine r_iconst (pc' := 176) dX12_readContract_175 rfl ?_
                                      refine r_istore_n (i := 3) (pc' := 177) dX12_readContract_176 rfl rfl rfl (.s1 (.s1 (.s1 .nil rfl rfl rfl) rfl rfl rfl) rfl rfl rfl) ?_
                                      have hcr : rdc C d = d + 20 + 5 * (xv C d 10).toNat := rfl
                                      have q1 : fv = (fv.toNat : Int) := by omega
                                      have q2 : yv = (yv.toNat : Int) := by omega
                                      have hu8 := ((((hu126.trans ho136.u).trans ho152.u).trans ho167.u).up (j := (130 + 86 * z) + 3) (v := zi sv) (by omega))
                                      have hz40 : z < 40 := by omega
                                      have hcr2 : rdc C d < 440 := by omega
                                      have hd4 : d < 400 := by omega
                                      have hn6 : (446 : Nat) ≠ d := by omega
                                      have hcr3 : rdc C d + 4 < 446 := by omega
                                      have hv8 : ∀ j, xv (q_up X4 468 ((130 + 86 * z) + 3) (zi sv)) 468 j = if j = (130 + 86 * z) + 3 then rds C d else if j = (130 + 86 * z) + 2 then rdv C d else if j = (130 + 86 * z) + 1 then rdy C d else if j = (130 + 86 * z) then rdf C d else if (130 + 86 * z) ≤ j ∧ j < (130 + 86 * z) + 86 then 0 else xv X 468 j := fun j => by
                                        have q := hv167 j
                                        rw [hv0] at q
                                        exact (hsl (fun s => xv (q_up X4 468 ((130 + 86 * z) + 3) (zi sv)) 468 j = if j = (130 + 86 * z) + 3 then s else if j = (130 + 86 * z) + 2 then rdv C d else if j = (130 + 86 * z) + 1 then rdy C d else if j = (130 + 86 * z) then rdf C d else if (130 + 86 * z) ≤ j ∧ j < (130 + 86 * z) + 86 then 0 else xv X 468 j)).mp ((hvl (fun s => xv (q_up X4 468 ((130 + 86 * z) + 3) (zi sv)) 468 j = if j = (130 + 86 * z) + 3 then sv else if j = (130 + 86 * z) + 2 then s else if j = (130 + 86 * z) + 1 then rdy C d else if j = (130 + 86 * z) then rdf C d else if (130 + 86 * z) ≤ j ∧ j < (130 + 86 * z) + 86 then 0 else xv X 468 j)).mp ((hyl (fun s => xv (q_up X4 468 ((130 + 86 * z) + 3) (zi sv)) 468 j = if j = (130 + 86 * z) + 3 then sv else if j = (130 + 86 * z) + 2 then vv else if j = (130 + 86 * z) + 1 then s else if j = (130 + 86 * z) then rdf C d else if (130 + 86 * z) ≤ j ∧ j < (130 + 86 * z) + 86 then 0 else xv X 468 j)).mp ((hfl (fun s => xv (q_up X4 468 ((130 + 86 * z) + 3) (zi sv)) 468 j = if j = (130 + 86 * z) + 3 then sv else if j = (130 + 86 * z) + 2 then vv else if j = (130 + 86 * z) + 1 then yv else if j = (130 + 86 * z) then s else if (130 + 86 * z) ≤ j ∧ j < (130 + 86 * z) + 86 then 0 else xv X 468 j)).mp q)))
                                      have hco : conOk C d := ⟨(hfl (fun x => xv C d 0 ≤ x)).mp f1, (hfl (fun x => x ≤ 19)).mp f2, (hyl (fun x => 1 ≤ x)).mp y1, (hfl (fun x => rdy C d ≤ min 6 (20 - x))).mp ((hyl (fun x => x ≤ min 6 (20 - fv))).mp y2), (hvl (fun x => 0 ≤ x)).mp v1, (hfl (fun x => rdv C d ≤ min 4 (20 - x - rdy C d))).mp ((hyl (fun x => rdv C d ≤ min 4 (20 - fv - x))).mp ((hvl (fun x => x ≤ min 4 (20 - fv - yv))).mp v2))⟩
                                      have e1 : rdf C d = ((rdf C d).toNat : Int) := (hfl (fun x => x = (x.toNat : Int))).mp q1
                                      have e2 : rdy C d = ((rdy C d).toNat : Int) := (hyl (fun x => x = (x.toNat : Int))).mp q2
                                      rw [rdCon_ok ht167.2.1]
                                      refine (hbl (fun x => q_Tr l g mX12_readContract 5 _ 177 [(0, .ref (g.1 + 467)), (1, .int (zi (z : Int))), (2, .int (zi x)), (3, .int (zi 0))] [] _ _ _ _)).mpr ?_
                                      exact jX12_readContract (X := X) (f := (rdf C d).toNat) (m := (rdy C d).toNat) hm hd hA hB hz hz40 e1 e2 hco hv8 hu8 ((ht167.up _ _).cg (rd8_r (Or.inl rfl) (Or.inl hd4) (Or.inl hcr2)) (rd8_r (Or.inr rfl) (Or.inl hd4) (Or.inl hcr2)) (by rw [rd8_o ⟨by decide, hn6, Or.inr hcr3⟩, rd5_o (by decide)]))
                                    · exfalso; omega
                                  · subst hz167
                                    refine r_if_ne (t := 175) (f := 173) dX12_readContract_170 (by decide) rfl (by first | omega | exact xv_in _ _ _) (fun h170 => ?_) (fun h170 => ?_)
                                    · exfalso; omega
                                    · refine r_iconst (pc' := 174) dX12_readContract_173 rfl ?_
                                      refine r_zreturn dX12_readContract_174 rfl (by first | decide | (split <;> omega) | omega) ?_
                                      exact ⟨_, rfl, rfl, rfl, rfl, Or.inr ⟨rfl, ((hu126.trans ho136.u).trans ho152.u).trans ho167.u, (hf : tF (rd5 C d) _).con5 (by omega)⟩⟩
                              · subst hz152
                                refine r_if_eq (t := 173) (f := 158) dX12_readContract_155 (by decide) rfl (by first | omega | exact xv_in _ _ _) (fun h155 => ?_) (fun h155 => ?_)
                                · refine r_iconst (pc' := 174) dX12_readContract_173 rfl ?_
                                  refine r_zreturn dX12_readContract_174 rfl (by first | decide | (split <;> omega) | omega) ?_
                                  exact ⟨_, rfl, rfl, rfl, rfl, Or.inr ⟨rfl, (hu126.trans ho136.u).trans ho152.u, tF.con4a hf (by omega)⟩⟩
                                · exfalso; omega
                            · exfalso; omega
                          · subst hz136
                            refine r_if_ne (t := 144) (f := 142) dX12_readContract_139 (by decide) rfl (by first | omega | exact xv_in _ _ _) (fun h139 => ?_) (fun h139 => ?_)
                            · exfalso; omega
                            · refine r_iconst (pc' := 143) dX12_readContract_142 rfl ?_
                              refine r_zreturn dX12_readContract_143 rfl (by first | decide | (split <;> omega) | omega) ?_
                              exact ⟨_, rfl, rfl, rfl, rfl, Or.inr ⟨rfl, hu126.trans ho136.u, tF.con4n hf (by omega)⟩⟩
                      · subst hz126
                        refine r_if_eq (t := 142) (f := 132) dX12_readContract_129 (by decide) rfl (by first | omega | exact xv_in _ _ _) (fun h129 => ?_) (fun h129 => ?_)
                        · refine r_iconst (pc' := 143) dX12_readContract_142 rfl ?_
                          refine r_zreturn dX12_readContract_143 rfl (by first | decide | (split <;> omega) | omega) ?_
                          exact ⟨_, rfl, rfl, rfl, rfl, Or.inr ⟨rfl, ((hu92.trans ho117.u).up (by omega)).trans ho126.u, tF.con3a ((((hfl (fun x => tF (rd_exp (rd_numX (rd2 C d) 0 (min 4 (20 - x - yv))) 44) X126)).trans (hyl (fun x => tF (rd_exp (rd_numX (rd2 C d) 0 (min 4 (20 - rdf C d - x))) 44) X126)))).mp hf) (by omega)⟩⟩
                        · exfalso; omega
                  · subst hz117
                    refine r_if_eq (t := 142) (f := 123) dX12_readContract_120 (by decide) rfl (by first | omega | exact xv_in _ _ _) (fun h120 => ?_) (fun h120 => ?_)
                    · refine r_iconst (pc' := 143) dX12_readContract_142 rfl ?_
                      refine r_zreturn dX12_readContract_143 rfl (by first | decide | (split <;> omega) | omega) ?_
                      exact ⟨_, rfl, rfl, rfl, rfl, Or.inr ⟨rfl, hu92.trans ho117.u, tF.con3n ((((hfl (fun x => tF (rd_numX (rd2 C d) 0 (min 4 (20 - x - yv))) X117)).trans (hyl (fun x => tF (rd_numX (rd2 C d) 0 (min 4 (20 - rdf C d - x))) X117)))).mp hf) (by omega)⟩⟩
                    · exfalso; omega
              · subst hz92
                refine r_if_eq (t := 142) (f := 98) dX12_readContract_95 (by decide) rfl (by first | omega | exact xv_in _ _ _) (fun h95 => ?_) (fun h95 => ?_)
                · refine r_iconst (pc' := 143) dX12_readContract_142 rfl ?_
                  refine r_zreturn dX12_readContract_143 rfl (by first | decide | (split <;> omega) | omega) ?_
                  exact ⟨_, rfl, rfl, rfl, rfl, Or.inr ⟨rfl, ((hu56.trans ho83.u).up (by omega)).trans ho92.u, tF.con2a (((hfl (fun x => tF (rd_exp (rd_numX (rd1 C d) 1 (min 6 (20 - x))) 44) X92))).mp hf) (by omega)⟩⟩
                · exfalso; omega
          · subst hz83
            refine r_if_eq (t := 142) (f := 89) dX12_readContract_86 (by decide) rfl (by first | omega | exact xv_in _ _ _) (fun h86 => ?_) (fun h86 => ?_)
            · refine r_iconst (pc' := 143) dX12_readContract_142 rfl ?_
              refine r_zreturn dX12_readContract_143 rfl (by first | decide | (split <;> omega) | omega) ?_
              exact ⟨_, rfl, rfl, rfl, rfl, Or.inr ⟨rfl, hu56.trans ho83.u, tF.con2n (((hfl (fun x => tF (rd_numX (rd1 C d) 1 (min 6 (20 - x))) X83))).mp hf) (by omega)⟩⟩
            · exfalso; omega
      · subst hz56
        refine r_if_eq (t := 142) (f := 62) dX12_readContract_59 (by decide) rfl (by first | omega | exact xv_in _ _ _) (fun h59 => ?_) (fun h59 => ?_)
        · refine r_iconst (pc' := 143) dX12_readContract_142 rfl ?_
          refine r_zreturn dX12_readContract_143 rfl (by first | decide | (split <;> omega) | omega) ?_
          exact ⟨_, rfl, rfl, rfl, rfl, Or.inr ⟨rfl, ((hu0.trans ho47.u).up (by omega)).trans ho56.u, (hf : tF (rd1 C d) _).con1 (by omega)⟩⟩
        · exfalso; omega
  · subst hz47
    refine r_if_eq (t := 142) (f := 53) dX12_readContract_50 (by decide) rfl (by first | omega | exact xv_in _ _ _) (fun h50 => ?_) (fun h50 => ?_)
    · refine r_iconst (pc' := 143) dX12_readContract_142 rfl ?_
      refine r_zreturn dX12_readContract_143 rfl (by first | decide | (split <;> omega) | omega) ?_
      exact ⟨_, rfl, rfl, rfl, rfl, Or.inr ⟨rfl, hu0.trans ho47.u, (hf.exp 44 : tF (rd1 C d) _).con1 (by omega)⟩⟩
    · exfalso; omega
