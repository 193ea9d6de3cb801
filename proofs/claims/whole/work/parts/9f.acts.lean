set_option maxHeartbeats 4000000 in
set_option maxRecDepth 100000 in
theorem tF_readAct {l : Launch} {g : q_G} {n : Nat} {P : q_P} {X : q_X} {Y : q_Y} (hm : isMod n P) {D : q_X} (hR : tR D X) (hac : actsR D X 20) : q_Met l g mX12_readAct 2 [.ref (g.1 + 467)] n P X Y (q_gi (fun r' n' P' X' Y' => n' = n ∧ P' = P ∧ Y' = Y ∧ r' = 0 ∧ rA X X' ∧ tF (rd_fail D (xv D 444 1)) X')) := by
  obtain ⟨m0, m2, m3, m8, m9, m14, m15, m16, m17, m18, m20, m22, m25, hnm9⟩ := id hm
  have hra := hR.a
  have h54 := hR.2.2.2.1
  have hrq := rd_in D (xv D 444 1)
  refine q_enter (L := [(0, .ref (g.1 + 467))]) (by decide) (Nat.le_of_ble_eq_true rfl) rfl ?_
  refine r_aload_n (i := 0) (pc' := 1) dX12_readAct_0 rfl rfl (.head _) ?_
  refine r_V0p (ci := 12) (pc' := 4) dX12_readAct_1 rfl lX12_85 rfl (by decide) (Nat.le_of_ble_eq_true rfl) (by first | assumption | rfl) (by omega) (tX12_here hm (by omega) (by omega)) ?_
  rw [hR.h]
  refine r_istore_n (i := 1) (pc' := 5) dX12_readAct_4 rfl rfl rfl (.s1 .nil rfl rfl rfl) ?_
  refine r_iload_n (i := 1) (pc' := 6) dX12_readAct_5 rfl rfl (.tail _ (.head _)) ?_
  refine r_bipush (pc' := 8) dX12_readAct_6 rfl (by decide) ?_
  refine r_icmp_ne (t := 15) (f := 11) dX12_readAct_8 (by decide) rfl (by first | omega | exact xv_in _ _ _) (by first | omega | exact xv_in _ _ _) (fun h8 => ?_) (fun h8 => ?_)
  · refine r_iload_n (i := 1) (pc' := 16) dX12_readAct_15 rfl rfl (.tail _ (.head _)) ?_
    refine r_bipush (pc' := 18) dX12_readAct_16 rfl (by decide) ?_
    refine r_icmp_eq (t := 27) (f := 21) dX12_readAct_18 (by decide) rfl (by first | omega | exact xv_in _ _ _) (by first | omega | exact xv_in _ _ _) (fun h18 => ?_) (fun h18 => ?_)
    · refine r_iconst (pc' := 28) dX12_readAct_27 rfl ?_
      refine r_goto (t := 32) dX12_readAct_28 (by decide) ?_
      refine r_istore_n (i := 2) (pc' := 33) dX12_readAct_32 rfl rfl rfl (.s1 (.s1 .nil rfl rfl rfl) rfl rfl rfl) ?_
      refine r_iload_n (i := 2) (pc' := 34) dX12_readAct_33 rfl rfl (.tail _ (.tail _ (.head _))) ?_
      refine r_if_ne (t := 43) (f := 37) dX12_readAct_34 (by decide) rfl (by first | omega | exact xv_in _ _ _) (fun h34 => ?_) (fun h34 => ?_)
      · refine r_aload_n (i := 0) (pc' := 44) dX12_readAct_43 rfl rfl (.head _) ?_
        refine r_getI (pc' := 47) dX12_readAct_44 rfl fX12_366 rfl (by first | assumption | rfl) (by omega) ?_
        rw [hac.2.1]
        refine r_bipush (pc' := 49) dX12_readAct_47 rfl (by decide) ?_
        refine r_icmp_ne (t := 61) (f := 52) dX12_readAct_49 (by decide) rfl (by first | omega | exact xv_in _ _ _) (by first | omega | exact xv_in _ _ _) (fun h49 => ?_) (fun h49 => ?_)
        · exfalso; omega
        · refine r_aload_n (i := 0) (pc' := 53) dX12_readAct_52 rfl rfl (.head _) ?_
          refine r_aload_n (i := 0) (pc' := 54) dX12_readAct_53 rfl rfl (.head _) ?_
          refine r_getI (pc' := 57) dX12_readAct_54 rfl fX12_82 rfl (by first | assumption | rfl) (by omega) ?_
          rw [h54]
          refine r_V1gi (ci := 12) (pc' := 60) dX12_readAct_57 rfl lX12_89 rfl (by decide) (Nat.le_of_ble_eq_true rfl) (by first | assumption | rfl) (by omega) (tX12_fails hm) (fun r57 n57 P57 X57 Y57 e57 le57 => ?_)
          obtain ⟨h1v, h2v, h3v, h4v, hr57⟩ := e57
          subst h1v h2v h3v h4v hr57
          refine r_zreturn dX12_readAct_60 rfl (by first | decide | (split <;> omega) | omega) ?_
          exact ⟨_, rfl, rfl, rfl, rfl, rfl, rA.rfl.x (by omega), hR.fail (by omega)⟩
      · refine r_iload_n (i := 1) (pc' := 38) dX12_readAct_37 rfl rfl (.tail _ (.head _)) ?_
        refine r_bipush (pc' := 40) dX12_readAct_38 rfl (by decide) ?_
        refine r_icmp_ne (t := 52) (f := 43) dX12_readAct_40 (by decide) rfl (by first | omega | exact xv_in _ _ _) (by first | omega | exact xv_in _ _ _) (fun h40 => ?_) (fun h40 => ?_)
        · refine r_aload_n (i := 0) (pc' := 53) dX12_readAct_52 rfl rfl (.head _) ?_
          refine r_aload_n (i := 0) (pc' := 54) dX12_readAct_53 rfl rfl (.head _) ?_
          refine r_getI (pc' := 57) dX12_readAct_54 rfl fX12_82 rfl (by first | assumption | rfl) (by omega) ?_
          rw [h54]
          refine r_V1gi (ci := 12) (pc' := 60) dX12_readAct_57 rfl lX12_89 rfl (by decide) (Nat.le_of_ble_eq_true rfl) (by first | assumption | rfl) (by omega) (tX12_fails hm) (fun r57 n57 P57 X57 Y57 e57 le57 => ?_)
          obtain ⟨h1v, h2v, h3v, h4v, hr57⟩ := e57
          subst h1v h2v h3v h4v hr57
          refine r_zreturn dX12_readAct_60 rfl (by first | decide | (split <;> omega) | omega) ?_
          exact ⟨_, rfl, rfl, rfl, rfl, rfl, rA.rfl.x (by omega), hR.fail (by omega)⟩
        · refine r_aload_n (i := 0) (pc' := 44) dX12_readAct_43 rfl rfl (.head _) ?_
          refine r_getI (pc' := 47) dX12_readAct_44 rfl fX12_366 rfl (by first | assumption | rfl) (by omega) ?_
          rw [hac.2.1]
          refine r_bipush (pc' := 49) dX12_readAct_47 rfl (by decide) ?_
          refine r_icmp_ne (t := 61) (f := 52) dX12_readAct_49 (by decide) rfl (by first | omega | exact xv_in _ _ _) (by first | omega | exact xv_in _ _ _) (fun h49 => ?_) (fun h49 => ?_)
          · exfalso; omega
          · refine r_aload_n (i := 0) (pc' := 53) dX12_readAct_52 rfl rfl (.head _) ?_
            refine r_aload_n (i := 0) (pc' := 54) dX12_readAct_53 rfl rfl (.head _) ?_
            refine r_getI (pc' := 57) dX12_readAct_54 rfl fX12_82 rfl (by first | assumption | rfl) (by omega) ?_
            rw [h54]
            refine r_V1gi (ci := 12) (pc' := 60) dX12_readAct_57 rfl lX12_89 rfl (by decide) (Nat.le_of_ble_eq_true rfl) (by first | assumption | rfl) (by omega) (tX12_fails hm) (fun r57 n57 P57 X57 Y57 e57 le57 => ?_)
            obtain ⟨h1v, h2v, h3v, h4v, hr57⟩ := e57
            subst h1v h2v h3v h4v hr57
            refine r_zreturn dX12_readAct_60 rfl (by first | decide | (split <;> omega) | omega) ?_
            exact ⟨_, rfl, rfl, rfl, rfl, rfl, rA.rfl.x (by omega), hR.fail (by omega)⟩
    · refine r_iload_n (i := 1) (pc' := 22) dX12_readAct_21 rfl rfl (.tail _ (.head _)) ?_
      refine r_bipush (pc' := 24) dX12_readAct_22 rfl (by decide) ?_
      refine r_icmp_ne (t := 31) (f := 27) dX12_readAct_24 (by decide) rfl (by first | omega | exact xv_in _ _ _) (by first | omega | exact xv_in _ _ _) (fun h24 => ?_) (fun h24 => ?_)
      · refine r_iconst (pc' := 32) dX12_readAct_31 rfl ?_
        refine r_istore_n (i := 2) (pc' := 33) dX12_readAct_32 rfl rfl rfl (.s1 (.s1 .nil rfl rfl rfl) rfl rfl rfl) ?_
        refine r_iload_n (i := 2) (pc' := 34) dX12_readAct_33 rfl rfl (.tail _ (.tail _ (.head _))) ?_
        refine r_if_ne (t := 43) (f := 37) dX12_readAct_34 (by decide) rfl (by first | omega | exact xv_in _ _ _) (fun h34 => ?_) (fun h34 => ?_)
        · refine r_aload_n (i := 0) (pc' := 44) dX12_readAct_43 rfl rfl (.head _) ?_
          refine r_getI (pc' := 47) dX12_readAct_44 rfl fX12_366 rfl (by first | assumption | rfl) (by omega) ?_
          rw [hac.2.1]
          refine r_bipush (pc' := 49) dX12_readAct_47 rfl (by decide) ?_
          refine r_icmp_ne (t := 61) (f := 52) dX12_readAct_49 (by decide) rfl (by first | omega | exact xv_in _ _ _) (by first | omega | exact xv_in _ _ _) (fun h49 => ?_) (fun h49 => ?_)
          · exfalso; omega
          · refine r_aload_n (i := 0) (pc' := 53) dX12_readAct_52 rfl rfl (.head _) ?_
            refine r_aload_n (i := 0) (pc' := 54) dX12_readAct_53 rfl rfl (.head _) ?_
            refine r_getI (pc' := 57) dX12_readAct_54 rfl fX12_82 rfl (by first | assumption | rfl) (by omega) ?_
            rw [h54]
            refine r_V1gi (ci := 12) (pc' := 60) dX12_readAct_57 rfl lX12_89 rfl (by decide) (Nat.le_of_ble_eq_true rfl) (by first | assumption | rfl) (by omega) (tX12_fails hm) (fun r57 n57 P57 X57 Y57 e57 le57 => ?_)
            obtain ⟨h1v, h2v, h3v, h4v, hr57⟩ := e57
            subst h1v h2v h3v h4v hr57
            refine r_zreturn dX12_readAct_60 rfl (by first | decide | (split <;> omega) | omega) ?_
            exact ⟨_, rfl, rfl, rfl, rfl, rfl, rA.rfl.x (by omega), hR.fail (by omega)⟩
        · refine r_iload_n (i := 1) (pc' := 38) dX12_readAct_37 rfl rfl (.tail _ (.head _)) ?_
          refine r_bipush (pc' := 40) dX12_readAct_38 rfl (by decide) ?_
          refine r_icmp_ne (t := 52) (f := 43) dX12_readAct_40 (by decide) rfl (by first | omega | exact xv_in _ _ _) (by first | omega | exact xv_in _ _ _) (fun h40 => ?_) (fun h40 => ?_)
          · refine r_aload_n (i := 0) (pc' := 53) dX12_readAct_52 rfl rfl (.head _) ?_
            refine r_aload_n (i := 0) (pc' := 54) dX12_readAct_53 rfl rfl (.head _) ?_
            refine r_getI (pc' := 57) dX12_readAct_54 rfl fX12_82 rfl (by first | assumption | rfl) (by omega) ?_
            rw [h54]
            refine r_V1gi (ci := 12) (pc' := 60) dX12_readAct_57 rfl lX12_89 rfl (by decide) (Nat.le_of_ble_eq_true rfl) (by first | assumption | rfl) (by omega) (tX12_fails hm) (fun r57 n57 P57 X57 Y57 e57 le57 => ?_)
            obtain ⟨h1v, h2v, h3v, h4v, hr57⟩ := e57
            subst h1v h2v h3v h4v hr57
            refine r_zreturn dX12_readAct_60 rfl (by first | decide | (split <;> omega) | omega) ?_
            exact ⟨_, rfl, rfl, rfl, rfl, rfl, rA.rfl.x (by omega), hR.fail (by omega)⟩
          · refine r_aload_n (i := 0) (pc' := 44) dX12_readAct_43 rfl rfl (.head _) ?_
            refine r_getI (pc' := 47) dX12_readAct_44 rfl fX12_366 rfl (by first | assumption | rfl) (by omega) ?_
            rw [hac.2.1]
            refine r_bipush (pc' := 49) dX12_readAct_47 rfl (by decide) ?_
            refine r_icmp_ne (t := 61) (f := 52) dX12_readAct_49 (by decide) rfl (by first | omega | exact xv_in _ _ _) (by first | omega | exact xv_in _ _ _) (fun h49 => ?_) (fun h49 => ?_)
            · exfalso; omega
            · refine r_aload_n (i := 0) (pc' := 53) dX12_readAct_52 rfl rfl (.head _) ?_
              refine r_aload_n (i := 0) (pc' := 54) dX12_readAct_53 rfl rfl (.head _) ?_
              refine r_getI (pc' := 57) dX12_readAct_54 rfl fX12_82 rfl (by first | assumption | rfl) (by omega) ?_
              rw [h54]
              refine r_V1gi (ci := 12) (pc' := 60) dX12_readAct_57 rfl lX12_89 rfl (by decide) (Nat.le_of_ble_eq_true rfl) (by first | assumption | rfl) (by omega) (tX12_fails hm) (fun r57 n57 P57 X57 Y57 e57 le57 => ?_)
              obtain ⟨h1v, h2v, h3v, h4v, hr57⟩ := e57
              subst h1v h2v h3v h4v hr57
              refine r_zreturn dX12_readAct_60 rfl (by first | decide | (split <;> omega) | omega) ?_
              exact ⟨_, rfl, rfl, rfl, rfl, rfl, rA.rfl.x (by omega), hR.fail (by omega)⟩
      · refine r_iconst (pc' := 28) dX12_readAct_27 rfl ?_
        refine r_goto (t := 32) dX12_readAct_28 (by decide) ?_
        refine r_istore_n (i := 2) (pc' := 33) dX12_readAct_32 rfl rfl rfl (.s1 (.s1 .nil rfl rfl rfl) rfl rfl rfl) ?_
        refine r_iload_n (i := 2) (pc' := 34) dX12_readAct_33 rfl rfl (.tail _ (.tail _ (.head _))) ?_
        refine r_if_ne (t := 43) (f := 37) dX12_readAct_34 (by decide) rfl (by first | omega | exact xv_in _ _ _) (fun h34 => ?_) (fun h34 => ?_)
        · refine r_aload_n (i := 0) (pc' := 44) dX12_readAct_43 rfl rfl (.head _) ?_
          refine r_getI (pc' := 47) dX12_readAct_44 rfl fX12_366 rfl (by first | assumption | rfl) (by omega) ?_
          rw [hac.2.1]
          refine r_bipush (pc' := 49) dX12_readAct_47 rfl (by decide) ?_
          refine r_icmp_ne (t := 61) (f := 52) dX12_readAct_49 (by decide) rfl (by first | omega | exact xv_in _ _ _) (by first | omega | exact xv_in _ _ _) (fun h49 => ?_) (fun h49 => ?_)
          · exfalso; omega
          · refine r_aload_n (i := 0) (pc' := 53) dX12_readAct_52 rfl rfl (.head _) ?_
            refine r_aload_n (i := 0) (pc' := 54) dX12_readAct_53 rfl rfl (.head _) ?_
            refine r_getI (pc' := 57) dX12_readAct_54 rfl fX12_82 rfl (by first | assumption | rfl) (by omega) ?_
            rw [h54]
            refine r_V1gi (ci := 12) (pc' := 60) dX12_readAct_57 rfl lX12_89 rfl (by decide) (Nat.le_of_ble_eq_true rfl) (by first | assumption | rfl) (by omega) (tX12_fails hm) (fun r57 n57 P57 X57 Y57 e57 le57 => ?_)
            obtain ⟨h1v, h2v, h3v, h4v, hr57⟩ := e57
            subst h1v h2v h3v h4v hr57
            refine r_zreturn dX12_readAct_60 rfl (by first | decide | (split <;> omega) | omega) ?_
            exact ⟨_, rfl, rfl, rfl, rfl, rfl, rA.rfl.x (by omega), hR.fail (by omega)⟩
        · refine r_iload_n (i := 1) (pc' := 38) dX12_readAct_37 rfl rfl (.tail _ (.head _)) ?_
          refine r_bipush (pc' := 40) dX12_readAct_38 rfl (by decide) ?_
          refine r_icmp_ne (t := 52) (f := 43) dX12_readAct_40 (by decide) rfl (by first | omega | exact xv_in _ _ _) (by first | omega | exact xv_in _ _ _) (fun h40 => ?_) (fun h40 => ?_)
          · refine r_aload_n (i := 0) (pc' := 53) dX12_readAct_52 rfl rfl (.head _) ?_
            refine r_aload_n (i := 0) (pc' := 54) dX12_readAct_53 rfl rfl (.head _) ?_
            refine r_getI (pc' := 57) dX12_readAct_54 rfl fX12_82 rfl (by first | assumption | rfl) (by omega) ?_
            rw [h54]
            refine r_V1gi (ci := 12) (pc' := 60) dX12_readAct_57 rfl lX12_89 rfl (by decide) (Nat.le_of_ble_eq_true rfl) (by first | assumption | rfl) (by omega) (tX12_fails hm) (fun r57 n57 P57 X57 Y57 e57 le57 => ?_)
            obtain ⟨h1v, h2v, h3v, h4v, hr57⟩ := e57
            subst h1v h2v h3v h4v hr57
            refine r_zreturn dX12_readAct_60 rfl (by first | decide | (split <;> omega) | omega) ?_
            exact ⟨_, rfl, rfl, rfl, rfl, rfl, rA.rfl.x (by omega), hR.fail (by omega)⟩
          · refine r_aload_n (i := 0) (pc' := 44) dX12_readAct_43 rfl rfl (.head _) ?_
            refine r_getI (pc' := 47) dX12_readAct_44 rfl fX12_366 rfl (by first | assumption | rfl) (by omega) ?_
            rw [hac.2.1]
            refine r_bipush (pc' := 49) dX12_readAct_47 rfl (by decide) ?_
            refine r_icmp_ne (t := 61) (f := 52) dX12_readAct_49 (by decide) rfl (by first | omega | exact xv_in _ _ _) (by first | omega | exact xv_in _ _ _) (fun h49 => ?_) (fun h49 => ?_)
            · exfalso; omega
            · refine r_aload_n (i := 0) (pc' := 53) dX12_readAct_52 rfl rfl (.head _) ?_
              refine r_aload_n (i := 0) (pc' := 54) dX12_readAct_53 rfl rfl (.head _) ?_
              refine r_getI (pc' := 57) dX12_readAct_54 rfl fX12_82 rfl (by first | assumption | rfl) (by omega) ?_
              rw [h54]
              refine r_V1gi (ci := 12) (pc' := 60) dX12_readAct_57 rfl lX12_89 rfl (by decide) (Nat.le_of_ble_eq_true rfl) (by first | assumption | rfl) (by omega) (tX12_fails hm) (fun r57 n57 P57 X57 Y57 e57 le57 => ?_)
              obtain ⟨h1v, h2v, h3v, h4v, hr57⟩ := e57
              subst h1v h2v h3v h4v hr57
              refine r_zreturn dX12_readAct_60 rfl (by first | decide | (split <;> omega) | omega) ?_
              exact ⟨_, rfl, rfl, rfl, rfl, rfl, rA.rfl.x (by omega), hR.fail (by omega)⟩
  · refine r_iconst (pc' := 12) dX12_readAct_11 rfl ?_
    refine r_goto (t := 32) dX12_readAct_12 (by decide) ?_
    refine r_istore_n (i := 2) (pc' := 33) dX12_readAct_32 rfl rfl rfl (.s1 (.s1 .nil rfl rfl rfl) rfl rfl rfl) ?_
    refine r_iload_n (i := 2) (pc' := 34) dX12_readAct_33 rfl rfl (.tail _ (.tail _ (.head _))) ?_
    refine r_if_ne (t := 43) (f := 37) dX12_readAct_34 (by decide) rfl (by first | omega | exact xv_in _ _ _) (fun h34 => ?_) (fun h34 => ?_)
    · refine r_aload_n (i := 0) (pc' := 44) dX12_readAct_43 rfl rfl (.head _) ?_
      refine r_getI (pc' := 47) dX12_readAct_44 rfl fX12_366 rfl (by first | assumption | rfl) (by omega) ?_
      rw [hac.2.1]
      refine r_bipush (pc' := 49) dX12_readAct_47 rfl (by decide) ?_
      refine r_icmp_ne (t := 61) (f := 52) dX12_readAct_49 (by decide) rfl (by first | omega | exact xv_in _ _ _) (by first | omega | exact xv_in _ _ _) (fun h49 => ?_) (fun h49 => ?_)
      · exfalso; omega
      · refine r_aload_n (i := 0) (pc' := 53) dX12_readAct_52 rfl rfl (.head _) ?_
        refine r_aload_n (i := 0) (pc' := 54) dX12_readAct_53 rfl rfl (.head _) ?_
        refine r_getI (pc' := 57) dX12_readAct_54 rfl fX12_82 rfl (by first | assumption | rfl) (by omega) ?_
        rw [h54]
        refine r_V1gi (ci := 12) (pc' := 60) dX12_readAct_57 rfl lX12_89 rfl (by decide) (Nat.le_of_ble_eq_true rfl) (by first | assumption | rfl) (by omega) (tX12_fails hm) (fun r57 n57 P57 X57 Y57 e57 le57 => ?_)
        obtain ⟨h1v, h2v, h3v, h4v, hr57⟩ := e57
        subst h1v h2v h3v h4v hr57
        refine r_zreturn dX12_readAct_60 rfl (by first | decide | (split <;> omega) | omega) ?_
        exact ⟨_, rfl, rfl, rfl, rfl, rfl, rA.rfl.x (by omega), hR.fail (by omega)⟩
    · refine r_iload_n (i := 1) (pc' := 38) dX12_readAct_37 rfl rfl (.tail _ (.head _)) ?_
      refine r_bipush (pc' := 40) dX12_readAct_38 rfl (by decide) ?_
      refine r_icmp_ne (t := 52) (f := 43) dX12_readAct_40 (by decide) rfl (by first | omega | exact xv_in _ _ _) (by first | omega | exact xv_in _ _ _) (fun h40 => ?_) (fun h40 => ?_)
      · refine r_aload_n (i := 0) (pc' := 53) dX12_readAct_52 rfl rfl (.head _) ?_
        refine r_aload_n (i := 0) (pc' := 54) dX12_readAct_53 rfl rfl (.head _) ?_
        refine r_getI (pc' := 57) dX12_readAct_54 rfl fX12_82 rfl (by first | assumption | rfl) (by omega) ?_
        rw [h54]
        refine r_V1gi (ci := 12) (pc' := 60) dX12_readAct_57 rfl lX12_89 rfl (by decide) (Nat.le_of_ble_eq_true rfl) (by first | assumption | rfl) (by omega) (tX12_fails hm) (fun r57 n57 P57 X57 Y57 e57 le57 => ?_)
        obtain ⟨h1v, h2v, h3v, h4v, hr57⟩ := e57
        subst h1v h2v h3v h4v hr57
        refine r_zreturn dX12_readAct_60 rfl (by first | decide | (split <;> omega) | omega) ?_
        exact ⟨_, rfl, rfl, rfl, rfl, rfl, rA.rfl.x (by omega), hR.fail (by omega)⟩
      · refine r_aload_n (i := 0) (pc' := 44) dX12_readAct_43 rfl rfl (.head _) ?_
        refine r_getI (pc' := 47) dX12_readAct_44 rfl fX12_366 rfl (by first | assumption | rfl) (by omega) ?_
        rw [hac.2.1]
        refine r_bipush (pc' := 49) dX12_readAct_47 rfl (by decide) ?_
        refine r_icmp_ne (t := 61) (f := 52) dX12_readAct_49 (by decide) rfl (by first | omega | exact xv_in _ _ _) (by first | omega | exact xv_in _ _ _) (fun h49 => ?_) (fun h49 => ?_)
        · exfalso; omega
        · refine r_aload_n (i := 0) (pc' := 53) dX12_readAct_52 rfl rfl (.head _) ?_
          refine r_aload_n (i := 0) (pc' := 54) dX12_readAct_53 rfl rfl (.head _) ?_
          refine r_getI (pc' := 57) dX12_readAct_54 rfl fX12_82 rfl (by first | assumption | rfl) (by omega) ?_
          rw [h54]
          refine r_V1gi (ci := 12) (pc' := 60) dX12_readAct_57 rfl lX12_89 rfl (by decide) (Nat.le_of_ble_eq_true rfl) (by first | assumption | rfl) (by omega) (tX12_fails hm) (fun r57 n57 P57 X57 Y57 e57 le57 => ?_)
          obtain ⟨h1v, h2v, h3v, h4v, hr57⟩ := e57
          subst h1v h2v h3v h4v hr57
          refine r_zreturn dX12_readAct_60 rfl (by first | decide | (split <;> omega) | omega) ?_
          exact ⟨_, rfl, rfl, rfl, rfl, rfl, rA.rfl.x (by omega), hR.fail (by omega)⟩
theorem ac_f {F : q_X} (h : xv F 444 2 ≠ -1) (w i : Nat) : rdTail (acRd w i F) = F := by
  have e : acRd w i F = F := by
    cases w with
    | zero => rfl
    | succ w => rw [acRd, if_neg (fun q => h q.1)]
  rw [e, rdTail, if_neg (fun q => h q.1)]
set_option maxHeartbeats 4000000 in
set_option maxRecDepth 100000 in
theorem lX12_acts {l : Launch} {g : q_G} {n : Nat} {P : q_P} {Y : q_Y} (hm : isMod n P) {X0 : q_X} {K : q_K} : ∀ (w i : Nat) (D X : q_X), i + w = 20 → tR D X → actsR D X i → rA X0 X → (∀ X' m, rA X0 X' → tR (rdTail (acRd w i D)) X' → actsR (rdTail (acRd w i D)) X' m → q_Tr l g mX12_acts 9 K 46 [(0, .ref (g.1 + 467))] [] n P X' Y) → (∀ X', rA X0 X' → tF (rdTail (acRd w i D)) X' → q_Tr l g mX12_acts 9 K 46 [(0, .ref (g.1 + 467))] [] n P X' Y) → q_Tr l g mX12_acts 9 K 9 [(0, .ref (g.1 + 467))] [] n P X Y := by
  obtain ⟨m0, m2, m3, m8, m9, m14, m15, m16, m17, m18, m20, m22, m25, hnm9⟩ := id hm
  intro w
  induction w with
  | zero =>
    intro i D X hi hR hac ho k1 k2
    obtain rfl : i = 20 := by omega
    have h54 := hR.2.2.2.1
    have hx6 := hR.2.2.1
    have h4 := hR.2.2.2.2.2.2.1
    have hra := hR.a
    rw [acRd] at k1 k2
    refine r_aload_n (i := 0) (pc' := 10) dX12_acts_9 rfl rfl (.head _) ?_
    refine r_getI (pc' := 13) dX12_acts_10 rfl fX12_22 rfl (by first | assumption | rfl) (by omega) ?_
    refine r_iconst (pc' := 14) dX12_acts_13 rfl ?_
    refine r_icmp_ne (t := 46) (f := 17) dX12_acts_14 (by decide) rfl (by first | omega | exact xv_in _ _ _) (by first | omega | exact xv_in _ _ _) (fun h14 => ?_) (fun h14 => ?_)
    · exfalso; omega
    · refine r_aload_n (i := 0) (pc' := 18) dX12_acts_17 rfl rfl (.head _) ?_
      refine r_getI (pc' := 21) dX12_acts_18 rfl fX12_82 rfl (by first | assumption | rfl) (by omega) ?_
      refine r_aload_n (i := 0) (pc' := 22) dX12_acts_21 rfl rfl (.head _) ?_
      refine r_getI (pc' := 25) dX12_acts_22 rfl fX12_76 rfl (by first | assumption | rfl) (by omega) ?_
      refine r_icmp_ge (t := 46) (f := 28) dX12_acts_25 (by decide) rfl (by first | omega | exact xv_in _ _ _) (by first | omega | exact xv_in _ _ _) (fun h25 => ?_) (fun h25 => ?_)
      · have e : rdTail D = D := by rw [rdTail, if_neg (fun q => by have := q.2; omega)]
        rw [e] at k1 k2
        exact k1 X _ ho hR hac
      · have e : rdTail D = rd_fail D (xv D 444 1) := by rw [rdTail, if_pos ⟨hR.2.1, by omega⟩]
        rw [e] at k1 k2
        refine r_aload_n (i := 0) (pc' := 29) dX12_acts_28 rfl rfl (.head _) ?_
        refine r_V0gi (ci := 12) (pc' := 32) dX12_acts_29 rfl lX12_381 rfl (by decide) (Nat.le_of_ble_eq_true rfl) (by first | assumption | rfl) (by omega) (tF_readAct (D := D) hm hR hac) (fun r29 n29 P29 X29 Y29 e29 le29 => ?_)
        obtain ⟨h1v, h2v, h3v, h4v, hu29, hf29⟩ := e29
        subst h1v h2v h3v h4v
        generalize rd_fail D (xv D 444 1) = E at hf29 k1 k2
        refine r_if_ne (t := 9) (f := 35) dX12_acts_32 (by decide) rfl (by first | omega | exact xv_in _ _ _) (fun h32 => ?_) (fun h32 => ?_)
        · exfalso; omega
        · refine r_aload_n (i := 0) (pc' := 36) dX12_acts_35 rfl rfl (.head _) ?_
          refine r_aload_n (i := 0) (pc' := 37) dX12_acts_36 rfl rfl (.head _) ?_
          refine r_getI (pc' := 40) dX12_acts_37 rfl fX12_76 rfl (by first | assumption | rfl) (by omega) ?_
          refine r_putI (pc' := 43) dX12_acts_40 rfl fX12_82 rfl (by first | assumption | rfl) (by omega) rfl rfl ?_
          refine r_goto (t := 9) dX12_acts_43 (by decide) ?_
          have hf6 := hf29.2
          have hf7 := hf29.1
          have hfn : ¬ xv (q_up X29 467 5 (zi (xv X29 467 4))) 467 6 = -1 := by rw [xv_up_ne _ _ (by omega), hf6]; exact hf7
          have kk := k2 (q_up X29 467 5 (zi (xv X29 467 4))) ((ho.trans hu29).x (by omega)) ⟨hf7, by rw [xv_up_ne _ _ (by omega)]; exact hf6⟩
          generalize q_up X29 467 5 (zi (xv X29 467 4)) = X9 at hfn kk ⊢
          clear k1 k2
          refine r_aload_n (i := 0) (pc' := 10) dX12_acts_9 rfl rfl (.head _) ?_
          refine r_getI (pc' := 13) dX12_acts_10 rfl fX12_22 rfl (by first | assumption | rfl) (by omega) ?_
          refine r_iconst (pc' := 14) dX12_acts_13 rfl ?_
          refine r_icmp_ne (t := 46) (f := 17) dX12_acts_14 (by decide) rfl (by first | omega | exact xv_in _ _ _) (by first | omega | exact xv_in _ _ _) (fun h14 => ?_) (fun h14 => ?_)
          · exact kk
          · exfalso; omega
  | succ w ih =>
    intro i D X hi hR hac ho k1 k2
    have h54 := hR.2.2.2.1
    have hx6 := hR.2.2.1
    have h4 := hR.2.2.2.2.2.2.1
    have hra := hR.a
    refine r_aload_n (i := 0) (pc' := 10) dX12_acts_9 rfl rfl (.head _) ?_
    refine r_getI (pc' := 13) dX12_acts_10 rfl fX12_22 rfl (by first | assumption | rfl) (by omega) ?_
    refine r_iconst (pc' := 14) dX12_acts_13 rfl ?_
    refine r_icmp_ne (t := 46) (f := 17) dX12_acts_14 (by decide) rfl (by first | omega | exact xv_in _ _ _) (by first | omega | exact xv_in _ _ _) (fun h14 => ?_) (fun h14 => ?_)
    · exfalso; omega
    · refine r_aload_n (i := 0) (pc' := 18) dX12_acts_17 rfl rfl (.head _) ?_
      refine r_getI (pc' := 21) dX12_acts_18 rfl fX12_82 rfl (by first | assumption | rfl) (by omega) ?_
      refine r_aload_n (i := 0) (pc' := 22) dX12_acts_21 rfl rfl (.head _) ?_
      refine r_getI (pc' := 25) dX12_acts_22 rfl fX12_76 rfl (by first | assumption | rfl) (by omega) ?_
      refine r_icmp_ge (t := 46) (f := 28) dX12_acts_25 (by decide) rfl (by first | omega | exact xv_in _ _ _) (by first | omega | exact xv_in _ _ _) (fun h25 => ?_) (fun h25 => ?_)
      · have e : rdTail (acRd (w + 1) i D) = D := by rw [acRd, if_neg (fun q => by have := q.2; omega), rdTail, if_neg (fun q => by have := q.2; omega)]
        rw [e] at k1 k2
        exact k1 X _ ho hR hac
      · have hl : xv D 444 1 < xv D 445 1 := by omega
        have e : rdTail (acRd (w + 1) i D) = rdTail (acRd w (i + 1) (acOne D i)) := by rw [acRd, if_pos ⟨hR.2.1, hl⟩]
        rw [e] at k1 k2
        refine r_aload_n (i := 0) (pc' := 29) dX12_acts_28 rfl rfl (.head _) ?_
        refine r_V0gi (ci := 12) (pc' := 32) dX12_acts_29 rfl lX12_381 rfl (by decide) (Nat.le_of_ble_eq_true rfl) (by first | assumption | rfl) (by omega) (tX12_readAct (D := D) hm hR hac (by omega) hl) (fun r29 n29 P29 X29 Y29 e29 le29 => ?_)
        obtain ⟨h1v, h2v, h3v, hq29⟩ := e29
        subst h1v h2v h3v
        generalize acOne D i = E at hq29 k1 k2
        rcases hq29 with ⟨hz29, hu29, ht29, ha29⟩ | ⟨hz29, hu29, hf29⟩
        · subst hz29
          refine r_if_ne (t := 9) (f := 35) dX12_acts_32 (by decide) rfl (by first | omega | exact xv_in _ _ _) (fun h32 => ?_) (fun h32 => ?_)
          · first
              | exact ih (i + 1) E _ (by omega) ht29 ha29 (ho.trans hu29) k1 k2
              | (rw [ac_f hf29.1] at k2
                 have hf6 := hf29.2
                 have hf7 := hf29.1
                 have hfn : ¬ xv (q_up X29 467 5 (zi (xv X29 467 4))) 467 6 = -1 := by rw [xv_up_ne _ _ (by omega), hf6]; exact hf7
                 have kk := k2 (q_up X29 467 5 (zi (xv X29 467 4))) ((ho.trans hu29).x (by omega)) ⟨hf7, by rw [xv_up_ne _ _ (by omega)]; exact hf6⟩
                 generalize q_up X29 467 5 (zi (xv X29 467 4)) = X9 at hfn kk ⊢
                 clear k1 k2
                 refine r_aload_n (i := 0) (pc' := 10) dX12_acts_9 rfl rfl (.head _) ?_
                 refine r_getI (pc' := 13) dX12_acts_10 rfl fX12_22 rfl (by first | assumption | rfl) (by omega) ?_
                 refine r_iconst (pc' := 14) dX12_acts_13 rfl ?_
                 refine r_icmp_ne (t := 46) (f := 17) dX12_acts_14 (by decide) rfl (by first | omega | exact xv_in _ _ _) (by first | omega | exact xv_in _ _ _) (fun h14 => ?_) (fun h14 => ?_)
                 · exact kk
                 · exfalso; omega)
          · exfalso; omega
        · subst hz29
          refine r_if_ne (t := 9) (f := 35) dX12_acts_32 (by decide) rfl (by first | omega | exact xv_in _ _ _) (fun h32 => ?_) (fun h32 => ?_)
          · exfalso; omega
          · refine r_aload_n (i := 0) (pc' := 36) dX12_acts_35 rfl rfl (.head _) ?_
            refine r_aload_n (i := 0) (pc' := 37) dX12_acts_36 rfl rfl (.head _) ?_
            refine r_getI (pc' := 40) dX12_acts_37 rfl fX12_76 rfl (by first | assumption | rfl) (by omega) ?_
            refine r_putI (pc' := 43) dX12_acts_40 rfl fX12_82 rfl (by first | assumption | rfl) (by omega) rfl rfl ?_
            refine r_goto (t := 9) dX12_acts_43 (by decide) ?_
            first
              | exact ih (i + 1) E _ (by omega) ht29 ha29 (ho.trans hu29) k1 k2
              | (rw [ac_f hf29.1] at k2
                 have hf6 := hf29.2
                 have hf7 := hf29.1
                 have hfn : ¬ xv (q_up X29 467 5 (zi (xv X29 467 4))) 467 6 = -1 := by rw [xv_up_ne _ _ (by omega), hf6]; exact hf7
                 have kk := k2 (q_up X29 467 5 (zi (xv X29 467 4))) ((ho.trans hu29).x (by omega)) ⟨hf7, by rw [xv_up_ne _ _ (by omega)]; exact hf6⟩
                 generalize q_up X29 467 5 (zi (xv X29 467 4)) = X9 at hfn kk ⊢
                 clear k1 k2
                 refine r_aload_n (i := 0) (pc' := 10) dX12_acts_9 rfl rfl (.head _) ?_
                 refine r_getI (pc' := 13) dX12_acts_10 rfl fX12_22 rfl (by first | assumption | rfl) (by omega) ?_
                 refine r_iconst (pc' := 14) dX12_acts_13 rfl ?_
                 refine r_icmp_ne (t := 46) (f := 17) dX12_acts_14 (by decide) rfl (by first | omega | exact xv_in _ _ _) (by first | omega | exact xv_in _ _ _) (fun h14 => ?_) (fun h14 => ?_)
                 · exact kk
                 · exfalso; omega)
