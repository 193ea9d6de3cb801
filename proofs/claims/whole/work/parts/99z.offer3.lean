set_option maxHeartbeats 4000000 in
set_option maxRecDepth 100000 in
theorem tX12_readOffer {l : Launch} {g : q_G} {n : Nat} {P : q_P} {X : q_X} {Y : q_Y} (hm : isMod n P) {D : q_X} {d i : Nat} (hR : tR D X) (hB : RB D d (xv X 468)) (hA : bA D d) (hd : d + 220 ≤ 441) (hi : xv D (d + 10) 0 = (i : Int)) (h12 : i < 12) : q_Met l g mX12_readOffer 3 [.ref (g.1 + 467)] n P X Y (q_gi (fun r' n' P' X' Y' => n' = n ∧ P' = P ∧ Y' = Y ∧ ((r' = 1 ∧ uO X X' ∧ tR (mkOne D (d + 10) i (xv D d 6)) X' ∧ RB (mkOne D (d + 10) i (xv D d 6)) d (xv X' 468) ∧ bA (mkOne D (d + 10) i (xv D d 6)) d ∧ xv (mkOne D (d + 10) i (xv D d 6)) (d + 10) 0 = (i : Int) + 1 ∧ (∀ a, a ≠ 444 → (a < d + 10 ∨ d + 14 < a) → xv (mkOne D (d + 10) i (xv D d 6)) a = xv D a)) ∨ (r' = 0 ∧ uO X X' ∧ tF (mkOne D (d + 10) i (xv D d 6)) X')))) := by
  have hO := hA.1
  obtain ⟨m0, m2, m3, m8, m9, m14, m15, m16, m17, m18, m20, m22, m25, hnm9⟩ := id hm
  obtain ⟨o0, o1, o2, o3, o4, o5, o6, o10, oc, op0, opz, opi, om0, omi, olim⟩ := id hO
  have h70 : xv X 468 3570 = (i : Int) := hB.om.trans hi
  have h6 : xv X 468 6 = xv D d 6 := hB.z 6 (by decide)
  rw [mkOne_eq]
  generalize hlp : xv D d 6 = lp at h6 o6 ⊢
  clear hlp
  refine q_enter (L := [(0, .ref (g.1 + 467))]) (by decide) (Nat.le_of_ble_eq_true rfl) rfl ?_
  refine r_sipush (pc' := 3) dX12_readOffer_0 rfl (by decide) ?_
  refine r_iconst (pc' := 4) dX12_readOffer_3 rfl ?_
  refine r_aload_n (i := 0) (pc' := 5) dX12_readOffer_4 rfl rfl (.head _) ?_
  refine r_getR (pc' := 8) dX12_readOffer_5 rfl fX12_3 rfl (by first | assumption | rfl) (by omega) (by assumption) ?_
  refine r_sipush (pc' := 11) dX12_readOffer_8 rfl (by decide) ?_
  refine r_iaload (pc' := 12) dX12_readOffer_11 rfl (by first | assumption | rfl) (by omega) (by omega) (by omega) (by first | decide | omega) (show Int.toNat 3570 = 3570 from rfl) ?_
  rw [h70]
  refine r_imul (pc' := 13) dX12_readOffer_12 rfl ?_
  refine r_iadd (pc' := 14) dX12_readOffer_13 rfl ?_
  refine r_istore_n (i := 1) (pc' := 15) dX12_readOffer_14 rfl rfl rfl (.s1 .nil rfl rfl rfl) ?_
  refine r_aload_n (i := 0) (pc' := 16) dX12_readOffer_15 rfl rfl (.head _) ?_
  refine r_getR (pc' := 19) dX12_readOffer_16 rfl fX12_3 rfl (by first | assumption | rfl) (by omega) (by assumption) ?_
  refine r_sipush (pc' := 22) dX12_readOffer_19 rfl (by decide) ?_
  refine r_iaload (pc' := 23) dX12_readOffer_22 rfl (by first | assumption | rfl) (by omega) (by omega) (by omega) (by first | decide | omega) (show Int.toNat 3570 = 3570 from rfl) ?_
  rw [h70]
  refine r_bipush (pc' := 25) dX12_readOffer_23 rfl (by decide) ?_
  refine r_icmp_ne (t := 37) (f := 28) dX12_readOffer_25 (by decide) rfl (by first | omega | exact xv_in _ _ _) (by first | omega | exact xv_in _ _ _) (fun h25 => ?_) (fun h25 => ?_)
  · refine r_aload_n (i := 0) (pc' := 38) dX12_readOffer_37 rfl rfl (.head _) ?_
    refine r_iload_n (i := 1) (pc' := 39) dX12_readOffer_38 rfl rfl (.tail _ (.head _)) ?_
    rw [show 3572 + 4 * (i : Int) = ((3572 + 4 * i : Nat) : Int) by omega]
    refine r_iconst (pc' := 40) dX12_readOffer_39 rfl ?_
    refine r_sipush (pc' := 43) dX12_readOffer_40 rfl (by decide) ?_
    refine r_V3gi (ci := 12) (pc' := 46) dX12_readOffer_43 rfl lX12_107 rfl (by decide) (Nat.le_of_ble_eq_true rfl) (by first | assumption | rfl) (by omega) (tX12_reads (C := D) hm hR (by omega) (by omega) (to := 3572 + 4 * i) (by omega)) (fun r43 n43 P43 X43 Y43 e43 le43 => ?_)
    obtain ⟨h1v, h2v, h3v, hq43⟩ := e43
    subst h1v h2v h3v
    rcases hq43 with ⟨hz43, Xa, ho43, hXa, ht43, b1, b1h⟩ | ⟨hz43, ho43, hf⟩
    · subst hz43
      have f1 : (∀ a, a ≠ 444 → a ≠ d + 10 + 1 → xv (mk1 D (d + 10) i) a = xv D a) ∧ (∀ j, xv (mk1 D (d + 10) i) (d + 10 + 1) j = if j = i then rd_numV D 1 9999 else xv D (d + 10 + 1) j) ∧ (∀ X, tR (rdN D 1 9999) X → tR (mk1 D (d + 10) i) X) ∧ ∀ X, tF (rdN D 1 9999) X → tF (mk1 D (d + 10) i) X := mkN_f (by omega) (by omega)
      generalize rd_numV D 1 9999 = v1 at hXa b1 b1h f1
      subst hXa
      have hv1 : ∀ j, xv (q_up Xa 468 (3572 + 4 * i) (zi v1)) 468 j = if j = 3572 + 4 * i then v1 else xv X 468 j := fun j => by
        by_cases e : j = 3572 + 4 * i
        · subst e; rw [xv_up_same _ _ _ (by omega), if_pos rfl]
        · rw [xv_up_ne _ _ (by omega), if_neg e, ho43.v (by omega)]
      refine r_if_eq (t := 121) (f := 49) dX12_readOffer_46 (by decide) rfl (by first | omega | exact xv_in _ _ _) (fun h46 => ?_) (fun h46 => ?_)
      · exfalso; omega
      · refine r_aload_n (i := 0) (pc' := 50) dX12_readOffer_49 rfl rfl (.head _) ?_
        refine r_bipush (pc' := 52) dX12_readOffer_50 rfl (by decide) ?_
        refine r_V1gi (ci := 12) (pc' := 55) dX12_readOffer_52 rfl lX12_103 rfl (by decide) (Nat.le_of_ble_eq_true rfl) (by first | assumption | rfl) (by omega) (tT_takes (C := rd_numX D 1 9999) hm (ht43.up _ _) (by omega) (by omega)) (fun r52 n52 P52 X52 Y52 e52 le52 => ?_)
        obtain ⟨h1v, h2v, h3v, hq52⟩ := e52
        subst h1v h2v h3v
        rcases hq52 with ⟨hz52, ho52, ht52⟩ | ⟨hz52, ho52, hf⟩
        · subst hz52
          have hu52 := (ho43.u.up (j := 3572 + 4 * i) (v := zi v1) (by omega)).trans ho52.u
          have hT1 := f1.2.2.1 _ (tN ht52)
          obtain ⟨fa1, fb1, -, -⟩ := f1
          clear ht52 ht43
          generalize mk1 D (d + 10) i = D1 at fa1 fb1 hT1 ⊢
          refine r_if_eq (t := 121) (f := 58) dX12_readOffer_55 (by decide) rfl (by first | omega | exact xv_in _ _ _) (fun h55 => ?_) (fun h55 => ?_)
          · exfalso; omega
          · refine r_aload_n (i := 0) (pc' := 59) dX12_readOffer_58 rfl rfl (.head _) ?_
            refine r_iload_n (i := 1) (pc' := 60) dX12_readOffer_59 rfl rfl (.tail _ (.head _)) ?_
            refine r_iconst (pc' := 61) dX12_readOffer_60 rfl ?_
            refine r_iadd (pc' := 62) dX12_readOffer_61 rfl ?_
            rw [show ((3572 + 4 * i : Nat) : Int) + 1 = ((3572 + 4 * i + 1 : Nat) : Int) by omega]
            refine r_iconst (pc' := 63) dX12_readOffer_62 rfl ?_
            refine r_bipush (pc' := 65) dX12_readOffer_63 rfl (by decide) ?_
            refine r_V3gi (ci := 12) (pc' := 68) dX12_readOffer_65 rfl lX12_107 rfl (by decide) (Nat.le_of_ble_eq_true rfl) (by first | assumption | rfl) (by omega) (tX12_reads (C := D1) hm hT1 (by omega) (by omega) (to := 3572 + 4 * i + 1) (by omega)) (fun r65 n65 P65 X65 Y65 e65 le65 => ?_)
            obtain ⟨h1v, h2v, h3v, hq65⟩ := e65
            subst h1v h2v h3v
            rcases hq65 with ⟨hz65, Xb, ho65, hXb, ht65, b2, b2h⟩ | ⟨hz65, ho65, hf⟩
            · subst hz65
              have f2 : (∀ a, a ≠ 444 → a ≠ d + 10 + 2 → xv (mk2 D1 (d + 10) i) a = xv D1 a) ∧ (∀ j, xv (mk2 D1 (d + 10) i) (d + 10 + 2) j = if j = i then rd_numV D1 1 6 else xv D1 (d + 10 + 2) j) ∧ (∀ X, tR (rdN D1 1 6) X → tR (mk2 D1 (d + 10) i) X) ∧ ∀ X, tF (rdN D1 1 6) X → tF (mk2 D1 (d + 10) i) X := mkN_f (by omega) (by omega)
              generalize rd_numV D1 1 6 = v2 at hXb b2 b2h f2
              subst hXb
              have hv2 : ∀ j, xv (q_up Xb 468 (3572 + 4 * i + 1) (zi v2)) 468 j = if j = 3572 + 4 * i + 1 then v2 else if j = 3572 + 4 * i then v1 else xv X 468 j := fun j => by
                by_cases e : j = 3572 + 4 * i + 1
                · subst e; rw [xv_up_same _ _ _ (by omega), if_pos rfl]
                · rw [xv_up_ne _ _ (by omega), if_neg e, ho65.v (by omega), ho52.v (by omega)]; exact hv1 j
              refine r_if_eq (t := 121) (f := 71) dX12_readOffer_68 (by decide) rfl (by first | omega | exact xv_in _ _ _) (fun h68 => ?_) (fun h68 => ?_)
              · exfalso; omega
              · refine r_aload_n (i := 0) (pc' := 72) dX12_readOffer_71 rfl rfl (.head _) ?_
                refine r_bipush (pc' := 74) dX12_readOffer_72 rfl (by decide) ?_
                refine r_V1gi (ci := 12) (pc' := 77) dX12_readOffer_74 rfl lX12_103 rfl (by decide) (Nat.le_of_ble_eq_true rfl) (by first | assumption | rfl) (by omega) (tT_takes (C := rd_numX D1 1 6) hm (ht65.up _ _) (by omega) (by omega)) (fun r74 n74 P74 X74 Y74 e74 le74 => ?_)
                obtain ⟨h1v, h2v, h3v, hq74⟩ := e74
                subst h1v h2v h3v
                rcases hq74 with ⟨hz74, ho74, ht74⟩ | ⟨hz74, ho74, hf⟩
                · subst hz74
                  have hu74 := ((hu52.trans ho65.u).up (j := 3572 + 4 * i + 1) (v := zi v2) (by omega)).trans ho74.u
                  have hT2 := f2.2.2.1 _ (tN ht74)
                  obtain ⟨fa2, fb2, -, -⟩ := f2
                  clear ht74 ht65 hT1
                  generalize mk2 D1 (d + 10) i = D2 at fa2 fb2 hT2 ⊢
                  refine r_if_eq (t := 121) (f := 80) dX12_readOffer_77 (by decide) rfl (by first | omega | exact xv_in _ _ _) (fun h77 => ?_) (fun h77 => ?_)
                  · exfalso; omega
                  · refine r_aload_n (i := 0) (pc' := 81) dX12_readOffer_80 rfl rfl (.head _) ?_
                    refine r_iload_n (i := 1) (pc' := 82) dX12_readOffer_81 rfl rfl (.tail _ (.head _)) ?_
                    refine r_iconst (pc' := 83) dX12_readOffer_82 rfl ?_
                    refine r_iadd (pc' := 84) dX12_readOffer_83 rfl ?_
                    rw [show ((3572 + 4 * i : Nat) : Int) + 2 = ((3572 + 4 * i + 2 : Nat) : Int) by omega]
                    refine r_iconst (pc' := 85) dX12_readOffer_84 rfl ?_
                    refine r_ldc (pc' := 87) dX12_readOffer_85 rfl kX12_135 ?_
                    refine r_V3gi (ci := 12) (pc' := 90) dX12_readOffer_87 rfl lX12_107 rfl (by decide) (Nat.le_of_ble_eq_true rfl) (by first | assumption | rfl) (by omega) (tX12_reads (C := D2) hm hT2 (by omega) (by omega) (to := 3572 + 4 * i + 2) (by omega)) (fun r87 n87 P87 X87 Y87 e87 le87 => ?_)
                    obtain ⟨h1v, h2v, h3v, hq87⟩ := e87
                    subst h1v h2v h3v
                    rcases hq87 with ⟨hz87, Xc, ho87, hXc, ht87, b3, b3h⟩ | ⟨hz87, ho87, hf⟩
                    · subst hz87
                      have f3 : (∀ a, a ≠ 444 → a ≠ d + 10 + 3 → xv (mk3 D2 (d + 10) i) a = xv D2 a) ∧ (∀ j, xv (mk3 D2 (d + 10) i) (d + 10 + 3) j = if j = i then rd_numV D2 0 99999 else xv D2 (d + 10 + 3) j) ∧ (∀ X, tR (rdN D2 0 99999) X → tR (mk3 D2 (d + 10) i) X) ∧ ∀ X, tF (rdN D2 0 99999) X → tF (mk3 D2 (d + 10) i) X := mkN_f (by omega) (by omega)
                      generalize rd_numV D2 0 99999 = v3 at hXc b3 b3h f3
                      subst hXc
                      have hv3 : ∀ j, xv (q_up Xc 468 (3572 + 4 * i + 2) (zi v3)) 468 j = if j = 3572 + 4 * i + 2 then v3 else if j = 3572 + 4 * i + 1 then v2 else if j = 3572 + 4 * i then v1 else xv X 468 j := fun j => by
                        by_cases e : j = 3572 + 4 * i + 2
                        · subst e; rw [xv_up_same _ _ _ (by omega), if_pos rfl]
                        · rw [xv_up_ne _ _ (by omega), if_neg e, ho87.v (by omega), ho74.v (by omega)]; exact hv2 j
                      refine r_if_eq (t := 121) (f := 93) dX12_readOffer_90 (by decide) rfl (by first | omega | exact xv_in _ _ _) (fun h90 => ?_) (fun h90 => ?_)
                      · exfalso; omega
                      · refine r_aload_n (i := 0) (pc' := 94) dX12_readOffer_93 rfl rfl (.head _) ?_
                        refine r_bipush (pc' := 96) dX12_readOffer_94 rfl (by decide) ?_
                        refine r_V1gi (ci := 12) (pc' := 99) dX12_readOffer_96 rfl lX12_103 rfl (by decide) (Nat.le_of_ble_eq_true rfl) (by first | assumption | rfl) (by omega) (tT_takes (C := rd_numX D2 0 99999) hm (ht87.up _ _) (by omega) (by omega)) (fun r96 n96 P96 X96 Y96 e96 le96 => ?_)
                        obtain ⟨h1v, h2v, h3v, hq96⟩ := e96
                        subst h1v h2v h3v
                        rcases hq96 with ⟨hz96, ho96, ht96⟩ | ⟨hz96, ho96, hf⟩
                        · subst hz96
                          have hu96 := ((hu74.trans ho87.u).up (j := 3572 + 4 * i + 2) (v := zi v3) (by omega)).trans ho96.u
                          have hT3 := f3.2.2.1 _ (tN ht96)
                          obtain ⟨fa3, fb3, -, -⟩ := f3
                          clear ht96 ht87 hT2
                          generalize mk3 D2 (d + 10) i = D3 at fa3 fb3 hT3 ⊢
                          have k6 : xv X96 468 6 = lp := by
                            rw [ho96.v (by omega)]
                            exact (hv3 6).trans ((if_neg (by omega)).trans ((if_neg (by omega)).trans ((if_neg (by omega)).trans h6)))
                          refine r_if_eq (t := 121) (f := 102) dX12_readOffer_99 (by decide) rfl (by first | omega | exact xv_in _ _ _) (fun h99 => ?_) (fun h99 => ?_)
                          · exfalso; omega
                          · refine r_aload_n (i := 0) (pc' := 103) dX12_readOffer_102 rfl rfl (.head _) ?_
                            refine r_iload_n (i := 1) (pc' := 104) dX12_readOffer_103 rfl rfl (.tail _ (.head _)) ?_
                            refine r_iconst (pc' := 105) dX12_readOffer_104 rfl ?_
                            refine r_iadd (pc' := 106) dX12_readOffer_105 rfl ?_
                            rw [show ((3572 + 4 * i : Nat) : Int) + 3 = ((3572 + 4 * i + 3 : Nat) : Int) by omega]
                            refine r_aload_n (i := 0) (pc' := 107) dX12_readOffer_106 rfl rfl (.head _) ?_
                            refine r_getR (pc' := 110) dX12_readOffer_107 rfl fX12_3 rfl (by first | assumption | rfl) (by omega) (by assumption) ?_
                            refine r_bipush (pc' := 112) dX12_readOffer_110 rfl (by decide) ?_
                            refine r_iaload (pc' := 113) dX12_readOffer_112 rfl (by first | assumption | rfl) (by omega) (by omega) (by omega) (by first | decide | omega) (show Int.toNat 6 = 6 from rfl) ?_
                            rw [k6]
                            refine r_ldc (pc' := 115) dX12_readOffer_113 rfl kX12_135 ?_
                            refine r_V3gi (ci := 12) (pc' := 118) dX12_readOffer_115 rfl lX12_107 rfl (by decide) (Nat.le_of_ble_eq_true rfl) (by first | assumption | rfl) (by omega) (tX12_reads (C := D3) hm hT3 (by omega) (by omega) (to := 3572 + 4 * i + 3) (by omega)) (fun r115 n115 P115 X115 Y115 e115 le115 => ?_)
                            obtain ⟨h1v, h2v, h3v, hq115⟩ := e115
                            subst h1v h2v h3v
                            rcases hq115 with ⟨hz115, Xd, ho115, hXd, ht115, b4, b4h⟩ | ⟨hz115, ho115, hf⟩
                            · subst hz115
                              have f4 : (∀ a, a ≠ 444 → a ≠ d + 10 + 4 → xv (mk4 D3 (d + 10) i lp) a = xv D3 a) ∧ (∀ j, xv (mk4 D3 (d + 10) i lp) (d + 10 + 4) j = if j = i then rd_numV D3 lp 99999 else xv D3 (d + 10 + 4) j) ∧ (∀ X, tR (rd_numX D3 lp 99999) X → tR (mk4 D3 (d + 10) i lp) X) ∧ ∀ X, tF (rd_numX D3 lp 99999) X → tF (mk4 D3 (d + 10) i lp) X := mkX_f (by omega) (by omega)
                              generalize rd_numV D3 lp 99999 = v4 at hXd b4 b4h f4
                              subst hXd
                              have hv4 : ∀ j, xv (q_up Xd 468 (3572 + 4 * i + 3) (zi v4)) 468 j = if j = 3572 + 4 * i + 3 then v4 else if j = 3572 + 4 * i + 2 then v3 else if j = 3572 + 4 * i + 1 then v2 else if j = 3572 + 4 * i then v1 else xv X 468 j := fun j => by
                                by_cases e : j = 3572 + 4 * i + 3
                                · subst e; rw [xv_up_same _ _ _ (by omega), if_pos rfl]
                                · rw [xv_up_ne _ _ (by omega), if_neg e, ho115.v (by omega), ho96.v (by omega)]; exact hv3 j
                              have hu115 := (hu96.trans ho115.u).up (j := 3572 + 4 * i + 3) (v := zi v4) (by omega)
                              have hT4 := (f4.2.2.1 _ ht115).up (3572 + 4 * i + 3) (zi v4)
                              obtain ⟨fa4, fb4, -, -⟩ := f4
                              clear ht115 hT3
                              generalize mk4 D3 (d + 10) i lp = D4 at fa4 fb4 hT4 ⊢
                              generalize q_up Xd 468 (3572 + 4 * i + 3) (zi v4) = Xe at hv4 hu115 hT4 ⊢
                              have k70 : xv Xe 468 3570 = (i : Int) := (hv4 3570).trans ((if_neg (by omega)).trans ((if_neg (by omega)).trans ((if_neg (by omega)).trans ((if_neg (by omega)).trans h70))))
                              refine r_if_ne (t := 123) (f := 121) dX12_readOffer_118 (by decide) rfl (by first | omega | exact xv_in _ _ _) (fun h118 => ?_) (fun h118 => ?_)
                              · refine r_aload_n (i := 0) (pc' := 124) dX12_readOffer_123 rfl rfl (.head _) ?_
                                refine r_getR (pc' := 127) dX12_readOffer_124 rfl fX12_3 rfl (by first | assumption | rfl) (by omega) (by assumption) ?_
                                refine r_sipush (pc' := 130) dX12_readOffer_127 rfl (by decide) ?_
                                refine r_dup2 (pc' := 131) dX12_readOffer_130 rfl rfl rfl ?_
                                refine r_iaload (pc' := 132) dX12_readOffer_131 rfl (by first | assumption | rfl) (by omega) (by omega) (by omega) (by first | decide | omega) (show Int.toNat 3570 = 3570 from rfl) ?_
                                rw [k70]
                                refine r_iconst (pc' := 133) dX12_readOffer_132 rfl ?_
                                refine r_iadd (pc' := 134) dX12_readOffer_133 rfl ?_
                                refine r_iastore (pc' := 135) dX12_readOffer_134 rfl (by first | assumption | rfl) (by omega) (by omega) (by omega) (by first | decide | omega) (show Int.toNat 3570 = 3570 from rfl) ?_
                                refine r_aload_n (i := 0) (pc' := 136) dX12_readOffer_135 rfl rfl (.head _) ?_
                                refine r_bipush (pc' := 138) dX12_readOffer_136 rfl (by decide) ?_
                                refine r_V1gi (ci := 12) (pc' := 141) dX12_readOffer_138 rfl lX12_103 rfl (by decide) (Nat.le_of_ble_eq_true rfl) (by first | assumption | rfl) (by omega) (tT_takes (C := D4) hm (hT4.up _ _) (by omega) (by omega)) (fun r138 n138 P138 X138 Y138 e138 le138 => ?_)
                                obtain ⟨h1v, h2v, h3v, hq138⟩ := e138
                                subst h1v h2v h3v
                                rcases hq138 with ⟨hz138, ho138, ht138⟩ | ⟨hz138, ho138, hf138⟩
                                · subst hz138
                                  refine r_zreturn dX12_readOffer_141 rfl (by first | decide | (split <;> omega) | omega) ?_
                                  have hvf : ∀ j, xv X138 468 j = if j = 3570 then (i : Int) + 1 else if j = 3572 + 4 * i + 3 then v4 else if j = 3572 + 4 * i + 2 then v3 else if j = 3572 + 4 * i + 1 then v2 else if j = 3572 + 4 * i then v1 else xv X 468 j := fun j => by
                                    rw [ho138.v (by omega)]
                                    by_cases e : j = 3570
                                    · subst e; rw [xv_up_same _ _ _ (by omega), if_pos rfl]
                                    · rw [xv_up_ne _ _ (by omega), if_neg e]; exact hv4 j
                                  have hoff := RB_off (D := D) (D4 := D4) (X := X) (Xf := X138) (d := d) (i := i) (v1 := v1) (v2 := v2) (v3 := v3) (v4 := v4) hd hA hB hi h12 ⟨b1, b1h⟩ ⟨b2, b2h⟩ ⟨b3, b3h⟩ ⟨by omega, b4h⟩ (fun a a0 a1 a2 a3 a4 => by rw [fa4 a a0 a4, fa3 a a0 a3, fa2 a a0 a2, fa1 a a0 a1]) (fun j => by rw [fa4 _ (by omega) (by omega), fa3 _ (by omega) (by omega), fa2 _ (by omega) (by omega), fb1]) (fun j => by rw [fa4 _ (by omega) (by omega), fa3 _ (by omega) (by omega), fb2, fa1 _ (by omega) (by omega)]) (fun j => by rw [fa4 _ (by omega) (by omega), fb3, fa2 _ (by omega) (by omega), fa1 _ (by omega) (by omega)]) (fun j => by rw [fb4, fa3 _ (by omega) (by omega), fa2 _ (by omega) (by omega), fa1 _ (by omega) (by omega)]) rfl hvf
                                  exact ⟨_, rfl, rfl, rfl, rfl, Or.inl ⟨rfl, (hu115.up (by omega)).trans ho138.u, ht138.cg (xv_up_row _ _ _ (by omega)) (xv_up_row _ _ _ (by omega)) (xv_up_row _ _ _ (by omega)), hoff.1, hoff.2.1, hoff.2.2.1, hoff.2.2.2⟩⟩
                                · subst hz138
                                  refine r_zreturn dX12_readOffer_141 rfl (by first | decide | (split <;> omega) | omega) ?_
                                  exact ⟨_, rfl, rfl, rfl, rfl, Or.inr ⟨rfl, (hu115.up (by omega)).trans ho138.u, hf138.up (by omega) _ _⟩⟩
                              · exfalso; omega
                            · subst hz115
                              refine r_if_ne (t := 123) (f := 121) dX12_readOffer_118 (by decide) rfl (by first | omega | exact xv_in _ _ _) (fun h118 => ?_) (fun h118 => ?_)
                              · exfalso; omega
                              · refine r_iconst (pc' := 122) dX12_readOffer_121 rfl ?_
                                refine r_zreturn dX12_readOffer_122 rfl (by first | decide | (split <;> omega) | omega) ?_
                                exact ⟨_, rfl, rfl, rfl, rfl, Or.inr ⟨rfl, hu96.trans ho115.u, tFm5 (by omega) (tFm4n (by omega) hf)⟩⟩
                        · subst hz96
                          refine r_if_eq (t := 121) (f := 102) dX12_readOffer_99 (by decide) rfl (by first | omega | exact xv_in _ _ _) (fun h99 => ?_) (fun h99 => ?_)
                          · refine r_iconst (pc' := 122) dX12_readOffer_121 rfl ?_
                            refine r_zreturn dX12_readOffer_122 rfl (by first | decide | (split <;> omega) | omega) ?_
                            exact ⟨_, rfl, rfl, rfl, rfl, Or.inr ⟨rfl, ((hu74.trans ho87.u).up (by omega)).trans ho96.u, tFm5 (by omega) (tFm4 (by omega) (tFm3n (by omega) (tFN hf)))⟩⟩
                          · exfalso; omega
                    · subst hz87
                      refine r_if_eq (t := 121) (f := 93) dX12_readOffer_90 (by decide) rfl (by first | omega | exact xv_in _ _ _) (fun h90 => ?_) (fun h90 => ?_)
                      · refine r_iconst (pc' := 122) dX12_readOffer_121 rfl ?_
                        refine r_zreturn dX12_readOffer_122 rfl (by first | decide | (split <;> omega) | omega) ?_
                        exact ⟨_, rfl, rfl, rfl, rfl, Or.inr ⟨rfl, hu74.trans ho87.u, tFm5 (by omega) (tFm4 (by omega) (tFm3n (by omega) (tFN (hf.exp 44))))⟩⟩
                      · exfalso; omega
                · subst hz74
                  refine r_if_eq (t := 121) (f := 80) dX12_readOffer_77 (by decide) rfl (by first | omega | exact xv_in _ _ _) (fun h77 => ?_) (fun h77 => ?_)
                  · refine r_iconst (pc' := 122) dX12_readOffer_121 rfl ?_
                    refine r_zreturn dX12_readOffer_122 rfl (by first | decide | (split <;> omega) | omega) ?_
                    exact ⟨_, rfl, rfl, rfl, rfl, Or.inr ⟨rfl, ((hu52.trans ho65.u).up (by omega)).trans ho74.u, tFm5 (by omega) (tFm4 (by omega) (tFm3 (by omega) (tFm2n (by omega) (tFN hf))))⟩⟩
                  · exfalso; omega
            · subst hz65
              refine r_if_eq (t := 121) (f := 71) dX12_readOffer_68 (by decide) rfl (by first | omega | exact xv_in _ _ _) (fun h68 => ?_) (fun h68 => ?_)
              · refine r_iconst (pc' := 122) dX12_readOffer_121 rfl ?_
                refine r_zreturn dX12_readOffer_122 rfl (by first | decide | (split <;> omega) | omega) ?_
                exact ⟨_, rfl, rfl, rfl, rfl, Or.inr ⟨rfl, hu52.trans ho65.u, tFm5 (by omega) (tFm4 (by omega) (tFm3 (by omega) (tFm2n (by omega) (tFN (hf.exp 44)))))⟩⟩
              · exfalso; omega
        · subst hz52
          refine r_if_eq (t := 121) (f := 58) dX12_readOffer_55 (by decide) rfl (by first | omega | exact xv_in _ _ _) (fun h55 => ?_) (fun h55 => ?_)
          · refine r_iconst (pc' := 122) dX12_readOffer_121 rfl ?_
            refine r_zreturn dX12_readOffer_122 rfl (by first | decide | (split <;> omega) | omega) ?_
            exact ⟨_, rfl, rfl, rfl, rfl, Or.inr ⟨rfl, (ho43.u.up (by omega)).trans ho52.u, tFm5 (by omega) (tFm4 (by omega) (tFm3 (by omega) (tFm2 (by omega) (tFm1 (by omega) (tFN hf)))))⟩⟩
          · exfalso; omega
    · subst hz43
      refine r_if_eq (t := 121) (f := 49) dX12_readOffer_46 (by decide) rfl (by first | omega | exact xv_in _ _ _) (fun h46 => ?_) (fun h46 => ?_)
      · refine r_iconst (pc' := 122) dX12_readOffer_121 rfl ?_
        refine r_zreturn dX12_readOffer_122 rfl (by first | decide | (split <;> omega) | omega) ?_
        exact ⟨_, rfl, rfl, rfl, rfl, Or.inr ⟨rfl, ho43.u, tFm5 (by omega) (tFm4 (by omega) (tFm3 (by omega) (tFm2 (by omega) (tFm1 (by omega) (tFN (hf.exp 44))))))⟩⟩
      · exfalso; omega
  · exfalso; omega
