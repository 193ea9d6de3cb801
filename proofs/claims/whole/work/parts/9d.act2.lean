theorem tR.o {C X X' : q_X} (h : tR C X) (ho : ∀ j, j ≠ 23 → xv X' 467 j = xv X 467 j) (h0 : xv X' 470 = xv X 470) : tR C X' := by
  obtain ⟨a1, a2, a3, a4, a5⟩ := h
  exact ⟨a1, a2, by rw [ho 6 (by omega)]; exact a3, by rw [ho 5 (by omega)]; exact a4, a5.cg rfl rfl (ho 4 (by omega)) h0⟩
theorem tR.u9 {C X : q_X} (h : tR C X) (j : Nat) (v : Int32) : tR C (q_up X 479 j v) := h.x (xv_up_row _ _ _ (by omega)) (xv_up_row _ _ _ (by omega))
/-- behind the letter of an act -/
theorem act_beg {D X : q_X} {i : Nat} {c : Int} (hR : tR D X) (hl : xv D 444 1 < xv D 445 1) (hc : rd D (xv D 444 1) = c) (hq : q_in c) : ∃ S, S = rd_skip (ac0 D i) ∧ tR S (q_up (q_up X 479 (3 * i) (zi c)) 467 5 (zi (xv D 444 1 + 1))) ∧ xv S 449 = xv D 449 ∧ (∀ q, xv S 450 q = if q = i then c else xv D 450 q) ∧ (∀ q, xv S 451 q = if q = i then 0 else xv D 451 q) ∧ (∀ q, xv S 452 q = if q = i then 0 else xv D 452 q) := by
  obtain ⟨f1, f2, f3, f4⟩ := ac0_f D (i := i) hc hq
  have h0 : tR (ac0 D i) X := hR.cg (f1 _ (by omega) (by omega) (by omega)) (f1 _ (by omega) (by omega) (by omega)) (f1 _ (by omega) (by omega) (by omega))
  have h1 := (h0.u9 (3 * i) (zi c)).skip (by rw [f1 444 (by omega) (by omega) (by omega), f1 445 (by omega) (by omega) (by omega)]; exact hl)
  have e5 : xv (q_up X 479 (3 * i) (zi c)) 467 5 = xv D 444 1 := by rw [xv_up_ne _ _ (by omega)]; exact hR.2.2.2.1
  rw [e5] at h1
  refine ⟨_, rfl, h1, by rw [rd_skip_o (by omega), f1 _ (by omega) (by omega) (by omega)], fun q => by rw [rd_skip_o (by omega), f2], fun q => by rw [rd_skip_o (by omega), f3], fun q => by rw [rd_skip_o (by omega), f4]⟩
theorem up_f {S T : q_X} {r i : Nat} {v : Int} (hr : r = 451 ∨ r = 452) (hv : q_in v) (hT : ∀ a, a ≠ 444 → xv T a = xv S a) : (∀ a, a ≠ 444 → a ≠ r → xv (q_up T r i (zi v)) a = xv S a) ∧ (∀ j, xv (q_up T r i (zi v)) r j = if j = i then v else xv S r j) ∧ (∀ X, tR T X → tR (q_up T r i (zi v)) X) := by
  refine ⟨fun a h1 h2 => by rw [xv_up_row _ _ _ h2, hT a h1], fun j => ?_, fun X h => h.cg (xv_up_row _ _ _ (by omega)) (xv_up_row _ _ _ (by omega)) (xv_up_row _ _ _ (by omega))⟩
  by_cases e : j = i
  · subst e; rw [if_pos rfl, xv_up_same _ _ _ hv]
  · rw [if_neg e, xv_up_ne _ _ (by omega), hT r (by omega)]
set_option maxHeartbeats 4000000 in
set_option maxRecDepth 100000 in
theorem tX12_readAct {l : Launch} {g : q_G} {n : Nat} {P : q_P} {X : q_X} {Y : q_Y} (hm : isMod n P) {D : q_X} {i : Nat} (hR : tR D X) (hac : actsR D X i) (h20 : i < 20) (hl : xv D 444 1 < xv D 445 1) : q_Met l g mX12_readAct 2 [.ref (g.1 + 467)] n P X Y (q_gi (fun r' n' P' X' Y' => n' = n ∧ P' = P ∧ Y' = Y ∧ ((r' = 1 ∧ rA X X' ∧ tR (acOne D i) X' ∧ actsR (acOne D i) X' (i + 1)) ∨ (r' = 0 ∧ rA X X' ∧ tF (acOne D i) X')))) := by
  obtain ⟨m0, m2, m3, m8, m9, m14, m15, m16, m17, m18, m20, m22, m25, hnm9⟩ := id hm
  have hra := hR.a
  have h54 := hR.2.2.2.1
  have hrq := rd_in D (xv D 444 1)
  rw [acOne_eq]
  refine q_enter (L := [(0, .ref (g.1 + 467))]) (by decide) (Nat.le_of_ble_eq_true rfl) rfl ?_
  refine r_aload_n (i := 0) (pc' := 1) dX12_readAct_0 rfl rfl (.head _) ?_
  refine r_V0p (ci := 12) (pc' := 4) dX12_readAct_1 rfl lX12_85 rfl (by decide) (Nat.le_of_ble_eq_true rfl) (by first | assumption | rfl) (by omega) (tX12_here hm (by omega) (by omega)) ?_
  rw [hR.h]
  generalize hch : rd D (xv D 444 1) = ch at hrq ⊢
  refine r_istore_n (i := 1) (pc' := 5) dX12_readAct_4 rfl rfl rfl (.s1 .nil rfl rfl rfl) ?_
  rcases (show (ch = 100 ∨ ch = 120) ∨ ch = 116 ∨ ch = 121 ∨ (¬ ch = 100 ∧ ¬ ch = 120 ∧ ¬ ch = 116 ∧ ¬ ch = 121) by omega) with hx | hx | hx | hx
  · rw [aa_x (by rw [hch]; omega)]
    obtain ⟨S, hSe, hT, s9, s0, s1, s2⟩ := act_beg (i := i) hR hl hch hrq
    rw [← hSe]
    clear hSe
    refine r_iload_n (i := 1) (pc' := 6) dX12_readAct_5 rfl rfl (.tail _ (.head _)) ?_
    refine r_bipush (pc' := 8) dX12_readAct_6 rfl (by decide) ?_
    refine r_icmp_ne (t := 15) (f := 11) dX12_readAct_8 (by decide) rfl (by first | omega | exact xv_in _ _ _) (by first | omega | exact xv_in _ _ _) (fun h8 => ?_) (fun h8 => ?_)
    · refine r_iload_n (i := 1) (pc' := 16) dX12_readAct_15 rfl rfl (.tail _ (.head _)) ?_
      refine r_bipush (pc' := 18) dX12_readAct_16 rfl (by decide) ?_
      refine r_icmp_eq (t := 27) (f := 21) dX12_readAct_18 (by decide) rfl (by first | omega | exact xv_in _ _ _) (by first | omega | exact xv_in _ _ _) (fun h18 => ?_) (fun h18 => ?_)
      · refine r_iconst (pc' := 28) dX12_readAct_27 rfl ?_
        refine r_goto (t := 32) dX12_readAct_28 (by decide) ?_
        refine r_istore_n (i := 2) (pc' := 33) dX12_readAct_32 rfl rfl rfl (.s1 (.s1 .nil rfl rfl rfl) rfl rfl rfl) ?_
        refine r_iload_n (i := 2) (pc' := 34) dX12_readAct_33 rfl rfl (.tail _ (.tail _ (.head _))) ?_
        refine r_if_ne (t := 43) (f := 37) dX12_readAct_34 (by decide) rfl (by first | omega | exact xv_in _ _ _) (fun h34 => ?_) (fun h34 => ?_)
        · refine r_aload_n (i := 0) (pc' := 44) dX12_readAct_43 rfl rfl (.head _) ?_
          refine r_getI (pc' := 47) dX12_readAct_44 rfl fX12_366 rfl (by first | assumption | rfl) (by omega) ?_
          rw [hac.2.1]
          refine r_bipush (pc' := 49) dX12_readAct_47 rfl (by decide) ?_
          refine r_icmp_ne (t := 61) (f := 52) dX12_readAct_49 (by decide) rfl (by first | omega | exact xv_in _ _ _) (by first | omega | exact xv_in _ _ _) (fun h49 => ?_) (fun h49 => ?_)
          · refine r_iconst (pc' := 62) dX12_readAct_61 rfl ?_
            refine r_aload_n (i := 0) (pc' := 63) dX12_readAct_62 rfl rfl (.head _) ?_
            refine r_getI (pc' := 66) dX12_readAct_63 rfl fX12_366 rfl (by first | assumption | rfl) (by omega) ?_
            rw [hac.2.1]
            refine r_imul (pc' := 67) dX12_readAct_66 rfl ?_
            refine r_istore_n (i := 3) (pc' := 68) dX12_readAct_67 rfl rfl rfl (.s1 (.s1 (.s1 .nil rfl rfl rfl) rfl rfl rfl) rfl rfl rfl) ?_
            refine r_aload_n (i := 0) (pc' := 69) dX12_readAct_68 rfl rfl (.head _) ?_
            refine r_getR (pc' := 72) dX12_readAct_69 rfl fX12_51 rfl (by first | assumption | rfl) (by omega) (by assumption) ?_
            refine r_iload_n (i := 3) (pc' := 73) dX12_readAct_72 rfl rfl (.tail _ (.tail _ (.tail _ (.head _)))) ?_
            refine r_iload_n (i := 1) (pc' := 74) dX12_readAct_73 rfl rfl (.tail _ (.head _)) ?_
            refine r_iastore (pc' := 75) dX12_readAct_74 rfl (by first | assumption | rfl) (by omega) (by omega) (by omega) (by first | decide | omega) (show _ = 3 * i by omega) ?_
            refine r_aload_n (i := 0) (pc' := 76) dX12_readAct_75 rfl rfl (.head _) ?_
            refine r_dup (pc' := 77) dX12_readAct_76 rfl rfl ?_
            refine r_getI (pc' := 80) dX12_readAct_77 rfl fX12_82 rfl (by first | assumption | rfl) (by omega) ?_
            rw [xv_up_ne _ _ (by omega), h54]
            refine r_iconst (pc' := 81) dX12_readAct_80 rfl ?_
            refine r_iadd (pc' := 82) dX12_readAct_81 rfl ?_
            refine r_putI (pc' := 85) dX12_readAct_82 rfl fX12_82 rfl (by first | assumption | rfl) (by omega) rfl rfl ?_
            have ho2 : rA X (q_up (q_up X 479 (3 * i) (zi ch)) 467 5 (zi (xv D 444 1 + 1))) := (rA.rfl.u _ _).x (by omega)
            have h79 : ∀ j, xv (q_up (q_up X 479 (3 * i) (zi ch)) 467 5 (zi (xv D 444 1 + 1))) 479 j = if j = 3 * i then ch else xv X 479 j := fun j => by
              rw [xv_up_ne _ _ (by omega)]
              by_cases e : j = 3 * i
              · subst e; rw [xv_up_same _ _ _ hrq, if_pos rfl]
              · rw [xv_up_ne _ _ (by omega), if_neg e]
            have h23 : xv (q_up (q_up X 479 (3 * i) (zi ch)) 467 5 (zi (xv D 444 1 + 1))) 467 23 = (i : Int) := by rw [xv_up_ne _ _ (by omega), xv_up_ne _ _ (by omega)]; exact hac.2.1
            generalize q_up (q_up X 479 (3 * i) (zi ch)) 467 5 (zi (xv D 444 1 + 1)) = X2 at hT ho2 h79 h23 ⊢
            refine r_iconst (pc' := 86) dX12_readAct_85 rfl ?_
            refine r_istore (pc' := 88) dX12_readAct_86 rfl rfl (.s1 (.s1 (.s1 (.s1 .nil rfl rfl rfl) rfl rfl rfl) rfl rfl rfl) rfl rfl rfl) ?_
            refine r_iload (pc' := 90) dX12_readAct_88 rfl (.tail _ (.tail _ (.tail _ (.tail _ (.head _))))) ?_
            refine r_iload_n (i := 2) (pc' := 91) dX12_readAct_90 rfl rfl (.tail _ (.tail _ (.head _))) ?_
            refine r_icmp_gt (t := 140) (f := 94) dX12_readAct_91 (by decide) rfl (by first | omega | exact xv_in _ _ _) (by first | omega | exact xv_in _ _ _) (fun h91 => ?_) (fun h91 => ?_)
            · exfalso; omega
            · refine r_iload (pc' := 96) dX12_readAct_94 rfl (.tail _ (.tail _ (.tail _ (.tail _ (.head _))))) ?_
              refine r_iconst (pc' := 97) dX12_readAct_96 rfl ?_
              refine r_icmp_le (t := 109) (f := 100) dX12_readAct_97 (by decide) rfl (by first | omega | exact xv_in _ _ _) (by first | omega | exact xv_in _ _ _) (fun h97 => ?_) (fun h97 => ?_)
              · refine r_aload_n (i := 0) (pc' := 110) dX12_readAct_109 rfl rfl (.head _) ?_
                refine r_iconst (pc' := 111) dX12_readAct_110 rfl ?_
                refine r_ldc (pc' := 113) dX12_readAct_111 rfl kX12_106 ?_
                refine r_V2gi (ci := 12) (pc' := 116) dX12_readAct_113 rfl lX12_99 rfl (by decide) (Nat.le_of_ble_eq_true rfl) (by first | assumption | rfl) (by omega) (tX12_readNumber (C := S) hm hT (by omega) (by omega)) (fun r113 n113 P113 X113 Y113 e113 le113 => ?_)
                obtain ⟨h1v, h2v, h3v, hq113⟩ := e113
                subst h1v h2v h3v
                rcases hq113 with ⟨hz113, ho113, ht113, hnu, b1, b1h⟩ | ⟨hz113, ho113, hf⟩
                · subst hz113
                  unfold ac1
                  generalize rd_numV S 0 999999 = v1 at hnu b1 b1h ⊢
                  refine r_if_ne (t := 121) (f := 119) dX12_readAct_116 (by decide) rfl (by first | omega | exact xv_in _ _ _) (fun h116 => ?_) (fun h116 => ?_)
                  · refine r_aload_n (i := 0) (pc' := 122) dX12_readAct_121 rfl rfl (.head _) ?_
                    refine r_getR (pc' := 125) dX12_readAct_122 rfl fX12_51 rfl (by first | assumption | rfl) (by omega) (by assumption) ?_
                    refine r_iload_n (i := 3) (pc' := 126) dX12_readAct_125 rfl rfl (.tail _ (.tail _ (.tail _ (.head _)))) ?_
                    refine r_iload (pc' := 128) dX12_readAct_126 rfl (.tail _ (.tail _ (.tail _ (.tail _ (.head _))))) ?_
                    refine r_iadd (pc' := 129) dX12_readAct_128 rfl ?_
                    refine r_aload_n (i := 0) (pc' := 130) dX12_readAct_129 rfl rfl (.head _) ?_
                    refine r_getI (pc' := 133) dX12_readAct_130 rfl fX12_93 rfl (by first | assumption | rfl) (by omega) ?_
                    rw [hnu]
                    refine r_iastore (pc' := 134) dX12_readAct_133 rfl (by first | assumption | rfl) (by omega) (by omega) (by omega) (by first | decide | omega) (show _ = 3 * i + 1 by omega) ?_
                    have h79n : ∀ j, xv (q_up X113 479 (3 * i + 1) (zi v1)) 479 j = if j = 3 * i + 1 then v1 else xv X2 479 j := fun j => by
                      by_cases e : j = 3 * i + 1
                      · subst e; rw [xv_up_same _ _ _ (by omega), if_pos rfl]
                      · rw [xv_up_ne _ _ (by omega), if_neg e, ho113.v (by omega)]
                    have h23n : xv (q_up X113 479 (3 * i + 1) (zi v1)) 467 23 = (i : Int) := by rw [xv_up_ne _ _ (by omega), ← h23]; simp only [xv]; rw [ho113 _ _ (by omega)]
                    have hon := (ho2.trans ho113.ra).u (3 * i + 1) (zi v1)
                    have htn := ht113.u9 (3 * i + 1) (zi v1)
                    generalize q_up X113 479 (3 * i + 1) (zi v1) = X3 at h79n h23n hon htn ⊢
                    refine r_iinc (pc' := 137) dX12_readAct_134 rfl rfl (.tail _ (.tail _ (.tail _ (.tail _ (.head _))))) (.s1 (.s1 (.s1 (.s1 (.here .nil) rfl rfl rfl) rfl rfl rfl) rfl rfl rfl) rfl rfl rfl) ?_
                    refine r_goto (t := 88) dX12_readAct_137 (by decide) ?_
                    refine r_iload (pc' := 90) dX12_readAct_88 rfl (.tail _ (.tail _ (.tail _ (.tail _ (.head _))))) ?_
                    refine r_iload_n (i := 2) (pc' := 91) dX12_readAct_90 rfl rfl (.tail _ (.tail _ (.head _))) ?_
                    refine r_icmp_gt (t := 140) (f := 94) dX12_readAct_91 (by decide) rfl (by first | omega | exact xv_in _ _ _) (by first | omega | exact xv_in _ _ _) (fun h91 => ?_) (fun h91 => ?_)
                    · refine r_sub (.kp (.dr (.dr (.dr (.dr .nil))))) ?_
                      obtain ⟨f1, f2, f3⟩ := up_f (S := S) (T := rd_numX S 0 999999) (r := 451) (i := i) (v := v1) (by omega) (by omega) (fun a ha => rd_num_o ha)
                      exact zX12_readAct (X0 := X) (D := D) (c := ch) (v1 := v1) (v2 := 0) hm (f3 _ htn) hon hac h20 (by omega) ⟨b1, b1h⟩ (by omega) (by rw [f1 _ (by omega) (by omega), s9]) (fun q => by rw [f1 _ (by omega) (by omega)]; exact s0 q) (fun q => by rw [f2, s1]; split <;> rfl) (fun q => by rw [f1 _ (by omega) (by omega)]; exact s2 q) h23n (by rw [h79n, if_neg (by omega), h79, if_pos rfl]) (fun _ => by rw [h79n, if_pos rfl]) (fun q => by omega) (fun j hj => by rw [h79n, if_neg (by omega), h79, if_neg (by omega)])
                    · exfalso; omega
                  · exfalso; omega
                · subst hz113
                  refine r_if_ne (t := 121) (f := 119) dX12_readAct_116 (by decide) rfl (by first | omega | exact xv_in _ _ _) (fun h116 => ?_) (fun h116 => ?_)
                  · exfalso; omega
                  · refine r_iconst (pc' := 120) dX12_readAct_119 rfl ?_
                    refine r_zreturn dX12_readAct_120 rfl (by first | decide | (split <;> omega) | omega) ?_
                    exact ⟨_, rfl, rfl, rfl, rfl, Or.inr ⟨rfl, ho2.trans ho113.ra, ((hf.up (by omega) _ _).exp 59).up (by omega) _ _⟩⟩
              · exfalso; omega
          · exfalso; omega
        · exfalso; omega
      · refine r_iload_n (i := 1) (pc' := 22) dX12_readAct_21 rfl rfl (.tail _ (.head _)) ?_
        refine r_bipush (pc' := 24) dX12_readAct_22 rfl (by decide) ?_
        refine r_icmp_ne (t := 31) (f := 27) dX12_readAct_24 (by decide) rfl (by first | omega | exact xv_in _ _ _) (by first | omega | exact xv_in _ _ _) (fun h24 => ?_) (fun h24 => ?_)
        · refine r_iconst (pc' := 32) dX12_readAct_31 rfl ?_
          refine r_istore_n (i := 2) (pc' := 33) dX12_readAct_32 rfl rfl rfl (.s1 (.s1 .nil rfl rfl rfl) rfl rfl rfl) ?_
          refine r_iload_n (i := 2) (pc' := 34) dX12_readAct_33 rfl rfl (.tail _ (.tail _ (.head _))) ?_
          refine r_if_ne (t := 43) (f := 37) dX12_readAct_34 (by decide) rfl (by first | omega | exact xv_in _ _ _) (fun h34 => ?_) (fun h34 => ?_)
          · refine r_aload_n (i := 0) (pc' := 44) dX12_readAct_43 rfl rfl (.head _) ?_
            refine r_getI (pc' := 47) dX12_readAct_44 rfl fX12_366 rfl (by first | assumption | rfl) (by omega) ?_
            rw [hac.2.1]
            refine r_bipush (pc' := 49) dX12_readAct_47 rfl (by decide) ?_
            refine r_icmp_ne (t := 61) (f := 52) dX12_readAct_49 (by decide) rfl (by first | omega | exact xv_in _ _ _) (by first | omega | exact xv_in _ _ _) (fun h49 => ?_) (fun h49 => ?_)
            · refine r_iconst (pc' := 62) dX12_readAct_61 rfl ?_
              refine r_aload_n (i := 0) (pc' := 63) dX12_readAct_62 rfl rfl (.head _) ?_
              refine r_getI (pc' := 66) dX12_readAct_63 rfl fX12_366 rfl (by first | assumption | rfl) (by omega) ?_
              rw [hac.2.1]
              refine r_imul (pc' := 67) dX12_readAct_66 rfl ?_
              refine r_istore_n (i := 3) (pc' := 68) dX12_readAct_67 rfl rfl rfl (.s1 (.s1 (.s1 .nil rfl rfl rfl) rfl rfl rfl) rfl rfl rfl) ?_
              refine r_aload_n (i := 0) (pc' := 69) dX12_readAct_68 rfl rfl (.head _) ?_
              refine r_getR (pc' := 72) dX12_readAct_69 rfl fX12_51 rfl (by first | assumption | rfl) (by omega) (by assumption) ?_
              refine r_iload_n (i := 3) (pc' := 73) dX12_readAct_72 rfl rfl (.tail _ (.tail _ (.tail _ (.head _)))) ?_
              refine r_iload_n (i := 1) (pc' := 74) dX12_readAct_73 rfl rfl (.tail _ (.head _)) ?_
              refine r_iastore (pc' := 75) dX12_readAct_74 rfl (by first | assumption | rfl) (by omega) (by omega) (by omega) (by first | decide | omega) (show _ = 3 * i by omega) ?_
              refine r_aload_n (i := 0) (pc' := 76) dX12_readAct_75 rfl rfl (.head _) ?_
              refine r_dup (pc' := 77) dX12_readAct_76 rfl rfl ?_
              refine r_getI (pc' := 80) dX12_readAct_77 rfl fX12_82 rfl (by first | assumption | rfl) (by omega) ?_
              rw [xv_up_ne _ _ (by omega), h54]
              refine r_iconst (pc' := 81) dX12_readAct_80 rfl ?_
              refine r_iadd (pc' := 82) dX12_readAct_81 rfl ?_
              refine r_putI (pc' := 85) dX12_readAct_82 rfl fX12_82 rfl (by first | assumption | rfl) (by omega) rfl rfl ?_
              have ho2 : rA X (q_up (q_up X 479 (3 * i) (zi ch)) 467 5 (zi (xv D 444 1 + 1))) := (rA.rfl.u _ _).x (by omega)
              have h79 : ∀ j, xv (q_up (q_up X 479 (3 * i) (zi ch)) 467 5 (zi (xv D 444 1 + 1))) 479 j = if j = 3 * i then ch else xv X 479 j := fun j => by
                rw [xv_up_ne _ _ (by omega)]
                by_cases e : j = 3 * i
                · subst e; rw [xv_up_same _ _ _ hrq, if_pos rfl]
                · rw [xv_up_ne _ _ (by omega), if_neg e]
              have h23 : xv (q_up (q_up X 479 (3 * i) (zi ch)) 467 5 (zi (xv D 444 1 + 1))) 467 23 = (i : Int) := by rw [xv_up_ne _ _ (by omega), xv_up_ne _ _ (by omega)]; exact hac.2.1
              generalize q_up (q_up X 479 (3 * i) (zi ch)) 467 5 (zi (xv D 444 1 + 1)) = X2 at hT ho2 h79 h23 ⊢
              refine r_iconst (pc' := 86) dX12_readAct_85 rfl ?_
              refine r_istore (pc' := 88) dX12_readAct_86 rfl rfl (.s1 (.s1 (.s1 (.s1 .nil rfl rfl rfl) rfl rfl rfl) rfl rfl rfl) rfl rfl rfl) ?_
              refine r_iload (pc' := 90) dX12_readAct_88 rfl (.tail _ (.tail _ (.tail _ (.tail _ (.head _))))) ?_
              refine r_iload_n (i := 2) (pc' := 91) dX12_readAct_90 rfl rfl (.tail _ (.tail _ (.head _))) ?_
              refine r_icmp_gt (t := 140) (f := 94) dX12_readAct_91 (by decide) rfl (by first | omega | exact xv_in _ _ _) (by first | omega | exact xv_in _ _ _) (fun h91 => ?_) (fun h91 => ?_)
              · exfalso; omega
              · refine r_iload (pc' := 96) dX12_readAct_94 rfl (.tail _ (.tail _ (.tail _ (.tail _ (.head _))))) ?_
                refine r_iconst (pc' := 97) dX12_readAct_96 rfl ?_
                refine r_icmp_le (t := 109) (f := 100) dX12_readAct_97 (by decide) rfl (by first | omega | exact xv_in _ _ _) (by first | omega | exact xv_in _ _ _) (fun h97 => ?_) (fun h97 => ?_)
                · refine r_aload_n (i := 0) (pc' := 110) dX12_readAct_109 rfl rfl (.head _) ?_
                  refine r_iconst (pc' := 111) dX12_readAct_110 rfl ?_
                  refine r_ldc (pc' := 113) dX12_readAct_111 rfl kX12_106 ?_
                  refine r_V2gi (ci := 12) (pc' := 116) dX12_readAct_113 rfl lX12_99 rfl (by decide) (Nat.le_of_ble_eq_true rfl) (by first | assumption | rfl) (by omega) (tX12_readNumber (C := S) hm hT (by omega) (by omega)) (fun r113 n113 P113 X113 Y113 e113 le113 => ?_)
                  obtain ⟨h1v, h2v, h3v, hq113⟩ := e113
                  subst h1v h2v h3v
                  rcases hq113 with ⟨hz113, ho113, ht113, hnu, b1, b1h⟩ | ⟨hz113, ho113, hf⟩
                  · subst hz113
                    unfold ac1
                    generalize rd_numV S 0 999999 = v1 at hnu b1 b1h ⊢
                    refine r_if_ne (t := 121) (f := 119) dX12_readAct_116 (by decide) rfl (by first | omega | exact xv_in _ _ _) (fun h116 => ?_) (fun h116 => ?_)
                    · refine r_aload_n (i := 0) (pc' := 122) dX12_readAct_121 rfl rfl (.head _) ?_
                      refine r_getR (pc' := 125) dX12_readAct_122 rfl fX12_51 rfl (by first | assumption | rfl) (by omega) (by assumption) ?_
                      refine r_iload_n (i := 3) (pc' := 126) dX12_readAct_125 rfl rfl (.tail _ (.tail _ (.tail _ (.head _)))) ?_
                      refine r_iload (pc' := 128) dX12_readAct_126 rfl (.tail _ (.tail _ (.tail _ (.tail _ (.head _))))) ?_
                      refine r_iadd (pc' := 129) dX12_readAct_128 rfl ?_
                      refine r_aload_n (i := 0) (pc' := 130) dX12_readAct_129 rfl rfl (.head _) ?_
                      refine r_getI (pc' := 133) dX12_readAct_130 rfl fX12_93 rfl (by first | assumption | rfl) (by omega) ?_
                      rw [hnu]
                      refine r_iastore (pc' := 134) dX12_readAct_133 rfl (by first | assumption | rfl) (by omega) (by omega) (by omega) (by first | decide | omega) (show _ = 3 * i + 1 by omega) ?_
                      have h79n : ∀ j, xv (q_up X113 479 (3 * i + 1) (zi v1)) 479 j = if j = 3 * i + 1 then v1 else xv X2 479 j := fun j => by
                        by_cases e : j = 3 * i + 1
                        · subst e; rw [xv_up_same _ _ _ (by omega), if_pos rfl]
                        · rw [xv_up_ne _ _ (by omega), if_neg e, ho113.v (by omega)]
                      have h23n : xv (q_up X113 479 (3 * i + 1) (zi v1)) 467 23 = (i : Int) := by rw [xv_up_ne _ _ (by omega), ← h23]; simp only [xv]; rw [ho113 _ _ (by omega)]
                      have hon := (ho2.trans ho113.ra).u (3 * i + 1) (zi v1)
                      have htn := ht113.u9 (3 * i + 1) (zi v1)
                      generalize q_up X113 479 (3 * i + 1) (zi v1) = X3 at h79n h23n hon htn ⊢
                      refine r_iinc (pc' := 137) dX12_readAct_134 rfl rfl (.tail _ (.tail _ (.tail _ (.tail _ (.head _))))) (.s1 (.s1 (.s1 (.s1 (.here .nil) rfl rfl rfl) rfl rfl rfl) rfl rfl rfl) rfl rfl rfl) ?_
                      refine r_goto (t := 88) dX12_readAct_137 (by decide) ?_
                      refine r_iload (pc' := 90) dX12_readAct_88 rfl (.tail _ (.tail _ (.tail _ (.tail _ (.head _))))) ?_
                      refine r_iload_n (i := 2) (pc' := 91) dX12_readAct_90 rfl rfl (.tail _ (.tail _ (.head _))) ?_
                      refine r_icmp_gt (t := 140) (f := 94) dX12_readAct_91 (by decide) rfl (by first | omega | exact xv_in _ _ _) (by first | omega | exact xv_in _ _ _) (fun h91 => ?_) (fun h91 => ?_)
                      · refine r_sub (.kp (.dr (.dr (.dr (.dr .nil))))) ?_
                        obtain ⟨f1, f2, f3⟩ := up_f (S := S) (T := rd_numX S 0 999999) (r := 451) (i := i) (v := v1) (by omega) (by omega) (fun a ha => rd_num_o ha)
                        exact zX12_readAct (X0 := X) (D := D) (c := ch) (v1 := v1) (v2 := 0) hm (f3 _ htn) hon hac h20 (by omega) ⟨b1, b1h⟩ (by omega) (by rw [f1 _ (by omega) (by omega), s9]) (fun q => by rw [f1 _ (by omega) (by omega)]; exact s0 q) (fun q => by rw [f2, s1]; split <;> rfl) (fun q => by rw [f1 _ (by omega) (by omega)]; exact s2 q) h23n (by rw [h79n, if_neg (by omega), h79, if_pos rfl]) (fun _ => by rw [h79n, if_pos rfl]) (fun q => by omega) (fun j hj => by rw [h79n, if_neg (by omega), h79, if_neg (by omega)])
                      · exfalso; omega
                    · exfalso; omega
                  · subst hz113
                    refine r_if_ne (t := 121) (f := 119) dX12_readAct_116 (by decide) rfl (by first | omega | exact xv_in _ _ _) (fun h116 => ?_) (fun h116 => ?_)
                    · exfalso; omega
                    · refine r_iconst (pc' := 120) dX12_readAct_119 rfl ?_
                      refine r_zreturn dX12_readAct_120 rfl (by first | decide | (split <;> omega) | omega) ?_
                      exact ⟨_, rfl, rfl, rfl, rfl, Or.inr ⟨rfl, ho2.trans ho113.ra, ((hf.up (by omega) _ _).exp 59).up (by omega) _ _⟩⟩
                · exfalso; omega
            · exfalso; omega
          · exfalso; omega
        · refine r_iconst (pc' := 28) dX12_readAct_27 rfl ?_
          refine r_goto (t := 32) dX12_readAct_28 (by decide) ?_
          refine r_istore_n (i := 2) (pc' := 33) dX12_readAct_32 rfl rfl rfl (.s1 (.s1 .nil rfl rfl rfl) rfl rfl rfl) ?_
          refine r_iload_n (i := 2) (pc' := 34) dX12_readAct_33 rfl rfl (.tail _ (.tail _ (.head _))) ?_
          refine r_if_ne (t := 43) (f := 37) dX12_readAct_34 (by decide) rfl (by first | omega | exact xv_in _ _ _) (fun h34 => ?_) (fun h34 => ?_)
          · refine r_aload_n (i := 0) (pc' := 44) dX12_readAct_43 rfl rfl (.head _) ?_
            refine r_getI (pc' := 47) dX12_readAct_44 rfl fX12_366 rfl (by first | assumption | rfl) (by omega) ?_
            rw [hac.2.1]
            refine r_bipush (pc' := 49) dX12_readAct_47 rfl (by decide) ?_
            refine r_icmp_ne (t := 61) (f := 52) dX12_readAct_49 (by decide) rfl (by first | omega | exact xv_in _ _ _) (by first | omega | exact xv_in _ _ _) (fun h49 => ?_) (fun h49 => ?_)
            · refine r_iconst (pc' := 62) dX12_readAct_61 rfl ?_
              refine r_aload_n (i := 0) (pc' := 63) dX12_readAct_62 rfl rfl (.head _) ?_
              refine r_getI (pc' := 66) dX12_readAct_63 rfl fX12_366 rfl (by first | assumption | rfl) (by omega) ?_
              rw [hac.2.1]
              refine r_imul (pc' := 67) dX12_readAct_66 rfl ?_
              refine r_istore_n (i := 3) (pc' := 68) dX12_readAct_67 rfl rfl rfl (.s1 (.s1 (.s1 .nil rfl rfl rfl) rfl rfl rfl) rfl rfl rfl) ?_
              refine r_aload_n (i := 0) (pc' := 69) dX12_readAct_68 rfl rfl (.head _) ?_
              refine r_getR (pc' := 72) dX12_readAct_69 rfl fX12_51 rfl (by first | assumption | rfl) (by omega) (by assumption) ?_
              refine r_iload_n (i := 3) (pc' := 73) dX12_readAct_72 rfl rfl (.tail _ (.tail _ (.tail _ (.head _)))) ?_
              refine r_iload_n (i := 1) (pc' := 74) dX12_readAct_73 rfl rfl (.tail _ (.head _)) ?_
              refine r_iastore (pc' := 75) dX12_readAct_74 rfl (by first | assumption | rfl) (by omega) (by omega) (by omega) (by first | decide | omega) (show _ = 3 * i by omega) ?_
              refine r_aload_n (i := 0) (pc' := 76) dX12_readAct_75 rfl rfl (.head _) ?_
              refine r_dup (pc' := 77) dX12_readAct_76 rfl rfl ?_
              refine r_getI (pc' := 80) dX12_readAct_77 rfl fX12_82 rfl (by first | assumption | rfl) (by omega) ?_
              rw [xv_up_ne _ _ (by omega), h54]
              refine r_iconst (pc' := 81) dX12_readAct_80 rfl ?_
              refine r_iadd (pc' := 82) dX12_readAct_81 rfl ?_
              refine r_putI (pc' := 85) dX12_readAct_82 rfl fX12_82 rfl (by first | assumption | rfl) (by omega) rfl rfl ?_
              have ho2 : rA X (q_up (q_up X 479 (3 * i) (zi ch)) 467 5 (zi (xv D 444 1 + 1))) := (rA.rfl.u _ _).x (by omega)
              have h79 : ∀ j, xv (q_up (q_up X 479 (3 * i) (zi ch)) 467 5 (zi (xv D 444 1 + 1))) 479 j = if j = 3 * i then ch else xv X 479 j := fun j => by
                rw [xv_up_ne _ _ (by omega)]
                by_cases e : j = 3 * i
                · subst e; rw [xv_up_same _ _ _ hrq, if_pos rfl]
                · rw [xv_up_ne _ _ (by omega), if_neg e]
              have h23 : xv (q_up (q_up X 479 (3 * i) (zi ch)) 467 5 (zi (xv D 444 1 + 1))) 467 23 = (i : Int) := by rw [xv_up_ne _ _ (by omega), xv_up_ne _ _ (by omega)]; exact hac.2.1
              generalize q_up (q_up X 479 (3 * i) (zi ch)) 467 5 (zi (xv D 444 1 + 1)) = X2 at hT ho2 h79 h23 ⊢
              refine r_iconst (pc' := 86) dX12_readAct_85 rfl ?_
              refine r_istore (pc' := 88) dX12_readAct_86 rfl rfl (.s1 (.s1 (.s1 (.s1 .nil rfl rfl rfl) rfl rfl rfl) rfl rfl rfl) rfl rfl rfl) ?_
              refine r_iload (pc' := 90) dX12_readAct_88 rfl (.tail _ (.tail _ (.tail _ (.tail _ (.head _))))) ?_
              refine r_iload_n (i := 2) (pc' := 91) dX12_readAct_90 rfl rfl (.tail _ (.tail _ (.head _))) ?_
              refine r_icmp_gt (t := 140) (f := 94) dX12_readAct_91 (by decide) rfl (by first | omega | exact xv_in _ _ _) (by first | omega | exact xv_in _ _ _) (fun h91 => ?_) (fun h91 => ?_)
              · exfalso; omega
              · refine r_iload (pc' := 96) dX12_readAct_94 rfl (.tail _ (.tail _ (.tail _ (.tail _ (.head _))))) ?_
                refine r_iconst (pc' := 97) dX12_readAct_96 rfl ?_
                refine r_icmp_le (t := 109) (f := 100) dX12_readAct_97 (by decide) rfl (by first | omega | exact xv_in _ _ _) (by first | omega | exact xv_in _ _ _) (fun h97 => ?_) (fun h97 => ?_)
                · refine r_aload_n (i := 0) (pc' := 110) dX12_readAct_109 rfl rfl (.head _) ?_
                  refine r_iconst (pc' := 111) dX12_readAct_110 rfl ?_
                  refine r_ldc (pc' := 113) dX12_readAct_111 rfl kX12_106 ?_
                  refine r_V2gi (ci := 12) (pc' := 116) dX12_readAct_113 rfl lX12_99 rfl (by decide) (Nat.le_of_ble_eq_true rfl) (by first | assumption | rfl) (by omega) (tX12_readNumber (C := S) hm hT (by omega) (by omega)) (fun r113 n113 P113 X113 Y113 e113 le113 => ?_)
                  obtain ⟨h1v, h2v, h3v, hq113⟩ := e113
                  subst h1v h2v h3v
                  rcases hq113 with ⟨hz113, ho113, ht113, hnu, b1, b1h⟩ | ⟨hz113, ho113, hf⟩
                  · subst hz113
                    unfold ac1
                    generalize rd_numV S 0 999999 = v1 at hnu b1 b1h ⊢
                    refine r_if_ne (t := 121) (f := 119) dX12_readAct_116 (by decide) rfl (by first | omega | exact xv_in _ _ _) (fun h116 => ?_) (fun h116 => ?_)
                    · refine r_aload_n (i := 0) (pc' := 122) dX12_readAct_121 rfl rfl (.head _) ?_
                      refine r_getR (pc' := 125) dX12_readAct_122 rfl fX12_51 rfl (by first | assumption | rfl) (by omega) (by assumption) ?_
                      refine r_iload_n (i := 3) (pc' := 126) dX12_readAct_125 rfl rfl (.tail _ (.tail _ (.tail _ (.head _)))) ?_
                      refine r_iload (pc' := 128) dX12_readAct_126 rfl (.tail _ (.tail _ (.tail _ (.tail _ (.head _))))) ?_
                      refine r_iadd (pc' := 129) dX12_readAct_128 rfl ?_
                      refine r_aload_n (i := 0) (pc' := 130) dX12_readAct_129 rfl rfl (.head _) ?_
                      refine r_getI (pc' := 133) dX12_readAct_130 rfl fX12_93 rfl (by first | assumption | rfl) (by omega) ?_
                      rw [hnu]
                      refine r_iastore (pc' := 134) dX12_readAct_133 rfl (by first | assumption | rfl) (by omega) (by omega) (by omega) (by first | decide | omega) (show _ = 3 * i + 1 by omega) ?_
                      have h79n : ∀ j, xv (q_up X113 479 (3 * i + 1) (zi v1)) 479 j = if j = 3 * i + 1 then v1 else xv X2 479 j := fun j => by
                        by_cases e : j = 3 * i + 1
                        · subst e; rw [xv_up_same _ _ _ (by omega), if_pos rfl]
                        · rw [xv_up_ne _ _ (by omega), if_neg e, ho113.v (by omega)]
                      have h23n : xv (q_up X113 479 (3 * i + 1) (zi v1)) 467 23 = (i : Int) := by rw [xv_up_ne _ _ (by omega), ← h23]; simp only [xv]; rw [ho113 _ _ (by omega)]
                      have hon := (ho2.trans ho113.ra).u (3 * i + 1) (zi v1)
                      have htn := ht113.u9 (3 * i + 1) (zi v1)
                      generalize q_up X113 479 (3 * i + 1) (zi v1) = X3 at h79n h23n hon htn ⊢
                      refine r_iinc (pc' := 137) dX12_readAct_134 rfl rfl (.tail _ (.tail _ (.tail _ (.tail _ (.head _))))) (.s1 (.s1 (.s1 (.s1 (.here .nil) rfl rfl rfl) rfl rfl rfl) rfl rfl rfl) rfl rfl rfl) ?_
                      refine r_goto (t := 88) dX12_readAct_137 (by decide) ?_
                      refine r_iload (pc' := 90) dX12_readAct_88 rfl (.tail _ (.tail _ (.tail _ (.tail _ (.head _))))) ?_
                      refine r_iload_n (i := 2) (pc' := 91) dX12_readAct_90 rfl rfl (.tail _ (.tail _ (.head _))) ?_
                      refine r_icmp_gt (t := 140) (f := 94) dX12_readAct_91 (by decide) rfl (by first | omega | exact xv_in _ _ _) (by first | omega | exact xv_in _ _ _) (fun h91 => ?_) (fun h91 => ?_)
                      · refine r_sub (.kp (.dr (.dr (.dr (.dr .nil))))) ?_
                        obtain ⟨f1, f2, f3⟩ := up_f (S := S) (T := rd_numX S 0 999999) (r := 451) (i := i) (v := v1) (by omega) (by omega) (fun a ha => rd_num_o ha)
                        exact zX12_readAct (X0 := X) (D := D) (c := ch) (v1 := v1) (v2 := 0) hm (f3 _ htn) hon hac h20 (by omega) ⟨b1, b1h⟩ (by omega) (by rw [f1 _ (by omega) (by omega), s9]) (fun q => by rw [f1 _ (by omega) (by omega)]; exact s0 q) (fun q => by rw [f2, s1]; split <;> rfl) (fun q => by rw [f1 _ (by omega) (by omega)]; exact s2 q) h23n (by rw [h79n, if_neg (by omega), h79, if_pos rfl]) (fun _ => by rw [h79n, if_pos rfl]) (fun q => by omega) (fun j hj => by rw [h79n, if_neg (by omega), h79, if_neg (by omega)])
                      · exfalso; omega
                    · exfalso; omega
                  · subst hz113
                    refine r_if_ne (t := 121) (f := 119) dX12_readAct_116 (by decide) rfl (by first | omega | exact xv_in _ _ _) (fun h116 => ?_) (fun h116 => ?_)
                    · exfalso; omega
                    · refine r_iconst (pc' := 120) dX12_readAct_119 rfl ?_
                      refine r_zreturn dX12_readAct_120 rfl (by first | decide | (split <;> omega) | omega) ?_
                      exact ⟨_, rfl, rfl, rfl, rfl, Or.inr ⟨rfl, ho2.trans ho113.ra, ((hf.up (by omega) _ _).exp 59).up (by omega) _ _⟩⟩
                · exfalso; omega
            · exfalso; omega
          · exfalso; omega
    · exfalso; omega
  · rw [aa_t (by rw [hch]; exact hx)]
    obtain ⟨S, hSe, hT, s9, s0, s1, s2⟩ := act_beg (i := i) hR hl hch hrq
    rw [← hSe]
    clear hSe
    refine r_iload_n (i := 1) (pc' := 6) dX12_readAct_5 rfl rfl (.tail _ (.head _)) ?_
    refine r_bipush (pc' := 8) dX12_readAct_6 rfl (by decide) ?_
    refine r_icmp_ne (t := 15) (f := 11) dX12_readAct_8 (by decide) rfl (by first | omega | exact xv_in _ _ _) (by first | omega | exact xv_in _ _ _) (fun h8 => ?_) (fun h8 => ?_)
    · exfalso; omega
    · refine r_iconst (pc' := 12) dX12_readAct_11 rfl ?_
      refine r_goto (t := 32) dX12_readAct_12 (by decide) ?_
      refine r_istore_n (i := 2) (pc' := 33) dX12_readAct_32 rfl rfl rfl (.s1 (.s1 .nil rfl rfl rfl) rfl rfl rfl) ?_
      refine r_iload_n (i := 2) (pc' := 34) dX12_readAct_33 rfl rfl (.tail _ (.tail _ (.head _))) ?_
      refine r_if_ne (t := 43) (f := 37) dX12_readAct_34 (by decide) rfl (by first | omega | exact xv_in _ _ _) (fun h34 => ?_) (fun h34 => ?_)
      · refine r_aload_n (i := 0) (pc' := 44) dX12_readAct_43 rfl rfl (.head _) ?_
        refine r_getI (pc' := 47) dX12_readAct_44 rfl fX12_366 rfl (by first | assumption | rfl) (by omega) ?_
        rw [hac.2.1]
        refine r_bipush (pc' := 49) dX12_readAct_47 rfl (by decide) ?_
        refine r_icmp_ne (t := 61) (f := 52) dX12_readAct_49 (by decide) rfl (by first | omega | exact xv_in _ _ _) (by first | omega | exact xv_in _ _ _) (fun h49 => ?_) (fun h49 => ?_)
        · refine r_iconst (pc' := 62) dX12_readAct_61 rfl ?_
          refine r_aload_n (i := 0) (pc' := 63) dX12_readAct_62 rfl rfl (.head _) ?_
          refine r_getI (pc' := 66) dX12_readAct_63 rfl fX12_366 rfl (by first | assumption | rfl) (by omega) ?_
          rw [hac.2.1]
          refine r_imul (pc' := 67) dX12_readAct_66 rfl ?_
          refine r_istore_n (i := 3) (pc' := 68) dX12_readAct_67 rfl rfl rfl (.s1 (.s1 (.s1 .nil rfl rfl rfl) rfl rfl rfl) rfl rfl rfl) ?_
          refine r_aload_n (i := 0) (pc' := 69) dX12_readAct_68 rfl rfl (.head _) ?_
          refine r_getR (pc' := 72) dX12_readAct_69 rfl fX12_51 rfl (by first | assumption | rfl) (by omega) (by assumption) ?_
          refine r_iload_n (i := 3) (pc' := 73) dX12_readAct_72 rfl rfl (.tail _ (.tail _ (.tail _ (.head _)))) ?_
          refine r_iload_n (i := 1) (pc' := 74) dX12_readAct_73 rfl rfl (.tail _ (.head _)) ?_
          refine r_iastore (pc' := 75) dX12_readAct_74 rfl (by first | assumption | rfl) (by omega) (by omega) (by omega) (by first | decide | omega) (show _ = 3 * i by omega) ?_
          refine r_aload_n (i := 0) (pc' := 76) dX12_readAct_75 rfl rfl (.head _) ?_
          refine r_dup (pc' := 77) dX12_readAct_76 rfl rfl ?_
          refine r_getI (pc' := 80) dX12_readAct_77 rfl fX12_82 rfl (by first | assumption | rfl) (by omega) ?_
          rw [xv_up_ne _ _ (by omega), h54]
          refine r_iconst (pc' := 81) dX12_readAct_80 rfl ?_
          refine r_iadd (pc' := 82) dX12_readAct_81 rfl ?_
          refine r_putI (pc' := 85) dX12_readAct_82 rfl fX12_82 rfl (by first | assumption | rfl) (by omega) rfl rfl ?_
          have ho2 : rA X (q_up (q_up X 479 (3 * i) (zi ch)) 467 5 (zi (xv D 444 1 + 1))) := (rA.rfl.u _ _).x (by omega)
          have h79 : ∀ j, xv (q_up (q_up X 479 (3 * i) (zi ch)) 467 5 (zi (xv D 444 1 + 1))) 479 j = if j = 3 * i then ch else xv X 479 j := fun j => by
            rw [xv_up_ne _ _ (by omega)]
            by_cases e : j = 3 * i
            · subst e; rw [xv_up_same _ _ _ hrq, if_pos rfl]
            · rw [xv_up_ne _ _ (by omega), if_neg e]
          have h23 : xv (q_up (q_up X 479 (3 * i) (zi ch)) 467 5 (zi (xv D 444 1 + 1))) 467 23 = (i : Int) := by rw [xv_up_ne _ _ (by omega), xv_up_ne _ _ (by omega)]; exact hac.2.1
          generalize q_up (q_up X 479 (3 * i) (zi ch)) 467 5 (zi (xv D 444 1 + 1)) = X2 at hT ho2 h79 h23 ⊢
          refine r_iconst (pc' := 86) dX12_readAct_85 rfl ?_
          refine r_istore (pc' := 88) dX12_readAct_86 rfl rfl (.s1 (.s1 (.s1 (.s1 .nil rfl rfl rfl) rfl rfl rfl) rfl rfl rfl) rfl rfl rfl) ?_
          refine r_iload (pc' := 90) dX12_readAct_88 rfl (.tail _ (.tail _ (.tail _ (.tail _ (.head _))))) ?_
          refine r_iload_n (i := 2) (pc' := 91) dX12_readAct_90 rfl rfl (.tail _ (.tail _ (.head _))) ?_
          refine r_icmp_gt (t := 140) (f := 94) dX12_readAct_91 (by decide) rfl (by first | omega | exact xv_in _ _ _) (by first | omega | exact xv_in _ _ _) (fun h91 => ?_) (fun h91 => ?_)
          · exfalso; omega
          · refine r_iload (pc' := 96) dX12_readAct_94 rfl (.tail _ (.tail _ (.tail _ (.tail _ (.head _))))) ?_
            refine r_iconst (pc' := 97) dX12_readAct_96 rfl ?_
            refine r_icmp_le (t := 109) (f := 100) dX12_readAct_97 (by decide) rfl (by first | omega | exact xv_in _ _ _) (by first | omega | exact xv_in _ _ _) (fun h97 => ?_) (fun h97 => ?_)
            · refine r_aload_n (i := 0) (pc' := 110) dX12_readAct_109 rfl rfl (.head _) ?_
              refine r_iconst (pc' := 111) dX12_readAct_110 rfl ?_
              refine r_ldc (pc' := 113) dX12_readAct_111 rfl kX12_106 ?_
              refine r_V2gi (ci := 12) (pc' := 116) dX12_readAct_113 rfl lX12_99 rfl (by decide) (Nat.le_of_ble_eq_true rfl) (by first | assumption | rfl) (by omega) (tX12_readNumber (C := S) hm hT (by omega) (by omega)) (fun r113 n113 P113 X113 Y113 e113 le113 => ?_)
              obtain ⟨h1v, h2v, h3v, hq113⟩ := e113
              subst h1v h2v h3v
              rcases hq113 with ⟨hz113, ho113, ht113, hnu, b1, b1h⟩ | ⟨hz113, ho113, hf⟩
              · subst hz113
                unfold ac2
                generalize rd_numV S 0 999999 = v1 at hnu b1 b1h ⊢
                refine r_if_ne (t := 121) (f := 119) dX12_readAct_116 (by decide) rfl (by first | omega | exact xv_in _ _ _) (fun h116 => ?_) (fun h116 => ?_)
                · refine r_aload_n (i := 0) (pc' := 122) dX12_readAct_121 rfl rfl (.head _) ?_
                  refine r_getR (pc' := 125) dX12_readAct_122 rfl fX12_51 rfl (by first | assumption | rfl) (by omega) (by assumption) ?_
                  refine r_iload_n (i := 3) (pc' := 126) dX12_readAct_125 rfl rfl (.tail _ (.tail _ (.tail _ (.head _)))) ?_
                  refine r_iload (pc' := 128) dX12_readAct_126 rfl (.tail _ (.tail _ (.tail _ (.tail _ (.head _))))) ?_
                  refine r_iadd (pc' := 129) dX12_readAct_128 rfl ?_
                  refine r_aload_n (i := 0) (pc' := 130) dX12_readAct_129 rfl rfl (.head _) ?_
                  refine r_getI (pc' := 133) dX12_readAct_130 rfl fX12_93 rfl (by first | assumption | rfl) (by omega) ?_
                  rw [hnu]
                  refine r_iastore (pc' := 134) dX12_readAct_133 rfl (by first | assumption | rfl) (by omega) (by omega) (by omega) (by first | decide | omega) (show _ = 3 * i + 1 by omega) ?_
                  have h79n : ∀ j, xv (q_up X113 479 (3 * i + 1) (zi v1)) 479 j = if j = 3 * i + 1 then v1 else xv X2 479 j := fun j => by
                    by_cases e : j = 3 * i + 1
                    · subst e; rw [xv_up_same _ _ _ (by omega), if_pos rfl]
                    · rw [xv_up_ne _ _ (by omega), if_neg e, ho113.v (by omega)]
                  have h23n : xv (q_up X113 479 (3 * i + 1) (zi v1)) 467 23 = (i : Int) := by rw [xv_up_ne _ _ (by omega), ← h23]; simp only [xv]; rw [ho113 _ _ (by omega)]
                  have hon := (ho2.trans ho113.ra).u (3 * i + 1) (zi v1)
                  have htn := ht113.u9 (3 * i + 1) (zi v1)
                  generalize q_up X113 479 (3 * i + 1) (zi v1) = X3 at h79n h23n hon htn ⊢
                  refine r_iinc (pc' := 137) dX12_readAct_134 rfl rfl (.tail _ (.tail _ (.tail _ (.tail _ (.head _))))) (.s1 (.s1 (.s1 (.s1 (.here .nil) rfl rfl rfl) rfl rfl rfl) rfl rfl rfl) rfl rfl rfl) ?_
                  refine r_goto (t := 88) dX12_readAct_137 (by decide) ?_
                  refine r_iload (pc' := 90) dX12_readAct_88 rfl (.tail _ (.tail _ (.tail _ (.tail _ (.head _))))) ?_
                  refine r_iload_n (i := 2) (pc' := 91) dX12_readAct_90 rfl rfl (.tail _ (.tail _ (.head _))) ?_
                  refine r_icmp_gt (t := 140) (f := 94) dX12_readAct_91 (by decide) rfl (by first | omega | exact xv_in _ _ _) (by first | omega | exact xv_in _ _ _) (fun h91 => ?_) (fun h91 => ?_)
                  · exfalso; omega
                  · refine r_iload (pc' := 96) dX12_readAct_94 rfl (.tail _ (.tail _ (.tail _ (.tail _ (.head _))))) ?_
                    refine r_iconst (pc' := 97) dX12_readAct_96 rfl ?_
                    refine r_icmp_le (t := 109) (f := 100) dX12_readAct_97 (by decide) rfl (by first | omega | exact xv_in _ _ _) (by first | omega | exact xv_in _ _ _) (fun h97 => ?_) (fun h97 => ?_)
                    · exfalso; omega
                    · refine r_aload_n (i := 0) (pc' := 101) dX12_readAct_100 rfl rfl (.head _) ?_
                      refine r_bipush (pc' := 103) dX12_readAct_101 rfl (by decide) ?_
                      refine r_V1gi (ci := 12) (pc' := 106) dX12_readAct_103 rfl lX12_103 rfl (by decide) (Nat.le_of_ble_eq_true rfl) (by first | assumption | rfl) (by omega) (tT_takes (C := rd_numX S 0 999999) hm htn (by omega) (by omega)) (fun r103 n103 P103 X103 Y103 e103 le103 => ?_)
                      obtain ⟨h1v, h2v, h3v, hq103⟩ := e103
                      subst h1v h2v h3v
                      rcases hq103 with ⟨hz103, ho103, ht103⟩ | ⟨hz103, ho103, hf⟩
                      · subst hz103
                        obtain ⟨g1, g2, g3⟩ := up_f (S := S) (T := rdN S 0 999999) (r := 451) (i := i) (v := v1) (by omega) (by omega) (fun a ha => rdN_o ha)
                        have hT2 := g3 _ (tN ht103)
                        generalize q_up (rdN S 0 999999) 451 i (zi v1) = S2 at g1 g2 g3 hT2 ⊢
                        clear g3 ht103 htn
                        refine r_if_eq (t := 119) (f := 109) dX12_readAct_106 (by decide) rfl (by first | omega | exact xv_in _ _ _) (fun h106 => ?_) (fun h106 => ?_)
                        · exfalso; omega
                        · refine r_aload_n (i := 0) (pc' := 110) dX12_readAct_109 rfl rfl (.head _) ?_
                          refine r_iconst (pc' := 111) dX12_readAct_110 rfl ?_
                          refine r_ldc (pc' := 113) dX12_readAct_111 rfl kX12_106 ?_
                          refine r_V2gi (ci := 12) (pc' := 116) dX12_readAct_113 rfl lX12_99 rfl (by decide) (Nat.le_of_ble_eq_true rfl) (by first | assumption | rfl) (by omega) (tX12_readNumber (C := S2) hm hT2 (by omega) (by omega)) (fun r113 n113 P113 X113 Y113 e113 le113 => ?_)
                          obtain ⟨h1v, h2v, h3v, hq113⟩ := e113
                          subst h1v h2v h3v
                          rcases hq113 with ⟨hz113, ho113, ht113, hnu, b2, b2h⟩ | ⟨hz113, ho113, hf⟩
                          · subst hz113
                            unfold ac3
                            generalize rd_numV S2 0 999999 = v2 at hnu b2 b2h ⊢
                            refine r_if_ne (t := 121) (f := 119) dX12_readAct_116 (by decide) rfl (by first | omega | exact xv_in _ _ _) (fun h116 => ?_) (fun h116 => ?_)
                            · refine r_aload_n (i := 0) (pc' := 122) dX12_readAct_121 rfl rfl (.head _) ?_
                              refine r_getR (pc' := 125) dX12_readAct_122 rfl fX12_51 rfl (by first | assumption | rfl) (by omega) (by assumption) ?_
                              refine r_iload_n (i := 3) (pc' := 126) dX12_readAct_125 rfl rfl (.tail _ (.tail _ (.tail _ (.head _)))) ?_
                              refine r_iload (pc' := 128) dX12_readAct_126 rfl (.tail _ (.tail _ (.tail _ (.tail _ (.head _))))) ?_
                              refine r_iadd (pc' := 129) dX12_readAct_128 rfl ?_
                              refine r_aload_n (i := 0) (pc' := 130) dX12_readAct_129 rfl rfl (.head _) ?_
                              refine r_getI (pc' := 133) dX12_readAct_130 rfl fX12_93 rfl (by first | assumption | rfl) (by omega) ?_
                              rw [hnu]
                              refine r_iastore (pc' := 134) dX12_readAct_133 rfl (by first | assumption | rfl) (by omega) (by omega) (by omega) (by first | decide | omega) (show _ = 3 * i + 2 by omega) ?_
                              have h79m : ∀ j, xv (q_up X113 479 (3 * i + 2) (zi v2)) 479 j = if j = 3 * i + 2 then v2 else xv X3 479 j := fun j => by
                                by_cases e : j = 3 * i + 2
                                · subst e; rw [xv_up_same _ _ _ (by omega), if_pos rfl]
                                · rw [xv_up_ne _ _ (by omega), if_neg e, ho113.v (by omega), ho103.v (by omega)]
                              have h23m : xv (q_up X113 479 (3 * i + 2) (zi v2)) 467 23 = (i : Int) := by rw [xv_up_ne _ _ (by omega), ← h23n]; simp only [xv]; rw [ho113 _ _ (by omega), ho103 _ _ (by omega)]
                              have hom := ((hon.trans ho103.ra).trans ho113.ra).u (3 * i + 2) (zi v2)
                              have htm := ht113.u9 (3 * i + 2) (zi v2)
                              generalize q_up X113 479 (3 * i + 2) (zi v2) = X4 at h79m h23m hom htm ⊢
                              refine r_iinc (pc' := 137) dX12_readAct_134 rfl rfl (.tail _ (.tail _ (.tail _ (.tail _ (.head _))))) (.s1 (.s1 (.s1 (.s1 (.here .nil) rfl rfl rfl) rfl rfl rfl) rfl rfl rfl) rfl rfl rfl) ?_
                              refine r_goto (t := 88) dX12_readAct_137 (by decide) ?_
                              refine r_iload (pc' := 90) dX12_readAct_88 rfl (.tail _ (.tail _ (.tail _ (.tail _ (.head _))))) ?_
                              refine r_iload_n (i := 2) (pc' := 91) dX12_readAct_90 rfl rfl (.tail _ (.tail _ (.head _))) ?_
                              refine r_icmp_gt (t := 140) (f := 94) dX12_readAct_91 (by decide) rfl (by first | omega | exact xv_in _ _ _) (by first | omega | exact xv_in _ _ _) (fun h91 => ?_) (fun h91 => ?_)
                              · refine r_sub (.kp (.dr (.dr (.dr (.dr .nil))))) ?_
                                obtain ⟨f1, f2, f3⟩ := up_f (S := S2) (T := rd_numX S2 0 999999) (r := 452) (i := i) (v := v2) (by omega) (by omega) (fun a ha => rd_num_o ha)
                                exact zX12_readAct (X0 := X) (D := D) (c := ch) (v1 := v1) (v2 := v2) hm (f3 _ htm) hom hac h20 (by omega) ⟨b1, b1h⟩ ⟨b2, b2h⟩ (by rw [f1 _ (by omega) (by omega), g1 _ (by omega) (by omega), s9]) (fun q => by rw [f1 _ (by omega) (by omega), g1 _ (by omega) (by omega)]; exact s0 q) (fun q => by rw [f1 _ (by omega) (by omega), g2, s1]; split <;> rfl) (fun q => by rw [f2, g1 _ (by omega) (by omega), s2]; split <;> rfl) h23m (by rw [h79m, if_neg (by omega), h79n, if_neg (by omega), h79, if_pos rfl]) (fun _ => by rw [h79m, if_neg (by omega), h79n, if_pos rfl]) (fun _ => by rw [h79m, if_pos rfl]) (fun j hj => by rw [h79m, if_neg (by omega), h79n, if_neg (by omega), h79, if_neg (by omega)])
                              · exfalso; omega
                            · exfalso; omega
                          · subst hz113
                            refine r_if_ne (t := 121) (f := 119) dX12_readAct_116 (by decide) rfl (by first | omega | exact xv_in _ _ _) (fun h116 => ?_) (fun h116 => ?_)
                            · exfalso; omega
                            · refine r_iconst (pc' := 120) dX12_readAct_119 rfl ?_
                              refine r_zreturn dX12_readAct_120 rfl (by first | decide | (split <;> omega) | omega) ?_
                              exact ⟨_, rfl, rfl, rfl, rfl, Or.inr ⟨rfl, (hon.trans ho103.ra).trans ho113.ra, ((hf.up (by omega) _ _).exp 59).up (by omega) _ _⟩⟩
                      · subst hz103
                        refine r_if_eq (t := 119) (f := 109) dX12_readAct_106 (by decide) rfl (by first | omega | exact xv_in _ _ _) (fun h106 => ?_) (fun h106 => ?_)
                        · refine r_iconst (pc' := 120) dX12_readAct_119 rfl ?_
                          refine r_zreturn dX12_readAct_120 rfl (by first | decide | (split <;> omega) | omega) ?_
                          exact ⟨_, rfl, rfl, rfl, rfl, Or.inr ⟨rfl, hon.trans ho103.ra, (((((tFN hf).up (by omega) _ _).num _ _).up (by omega) _ _).exp 59).up (by omega) _ _⟩⟩
                        · exfalso; omega
                · exfalso; omega
              · subst hz113
                refine r_if_ne (t := 121) (f := 119) dX12_readAct_116 (by decide) rfl (by first | omega | exact xv_in _ _ _) (fun h116 => ?_) (fun h116 => ?_)
                · exfalso; omega
                · refine r_iconst (pc' := 120) dX12_readAct_119 rfl ?_
                  refine r_zreturn dX12_readAct_120 rfl (by first | decide | (split <;> omega) | omega) ?_
                  exact ⟨_, rfl, rfl, rfl, rfl, Or.inr ⟨rfl, ho2.trans ho113.ra, (((((tFN (hf.exp 44)).up (by omega) _ _).num _ _).up (by omega) _ _).exp 59).up (by omega) _ _⟩⟩
            · exfalso; omega
        · exfalso; omega
      · exfalso; omega
  · rw [aa_y (by rw [hch]; exact hx)]
    obtain ⟨S, hSe, hT, s9, s0, s1, s2⟩ := act_beg (i := i) hR hl hch hrq
    rw [← hSe]
    clear hSe
    refine r_iload_n (i := 1) (pc' := 6) dX12_readAct_5 rfl rfl (.tail _ (.head _)) ?_
    refine r_bipush (pc' := 8) dX12_readAct_6 rfl (by decide) ?_
    refine r_icmp_ne (t := 15) (f := 11) dX12_readAct_8 (by decide) rfl (by first | omega | exact xv_in _ _ _) (by first | omega | exact xv_in _ _ _) (fun h8 => ?_) (fun h8 => ?_)
    · refine r_iload_n (i := 1) (pc' := 16) dX12_readAct_15 rfl rfl (.tail _ (.head _)) ?_
      refine r_bipush (pc' := 18) dX12_readAct_16 rfl (by decide) ?_
      refine r_icmp_eq (t := 27) (f := 21) dX12_readAct_18 (by decide) rfl (by first | omega | exact xv_in _ _ _) (by first | omega | exact xv_in _ _ _) (fun h18 => ?_) (fun h18 => ?_)
      · exfalso; omega
      · refine r_iload_n (i := 1) (pc' := 22) dX12_readAct_21 rfl rfl (.tail _ (.head _)) ?_
        refine r_bipush (pc' := 24) dX12_readAct_22 rfl (by decide) ?_
        refine r_icmp_ne (t := 31) (f := 27) dX12_readAct_24 (by decide) rfl (by first | omega | exact xv_in _ _ _) (by first | omega | exact xv_in _ _ _) (fun h24 => ?_) (fun h24 => ?_)
        · refine r_iconst (pc' := 32) dX12_readAct_31 rfl ?_
          refine r_istore_n (i := 2) (pc' := 33) dX12_readAct_32 rfl rfl rfl (.s1 (.s1 .nil rfl rfl rfl) rfl rfl rfl) ?_
          refine r_iload_n (i := 2) (pc' := 34) dX12_readAct_33 rfl rfl (.tail _ (.tail _ (.head _))) ?_
          refine r_if_ne (t := 43) (f := 37) dX12_readAct_34 (by decide) rfl (by first | omega | exact xv_in _ _ _) (fun h34 => ?_) (fun h34 => ?_)
          · exfalso; omega
          · refine r_iload_n (i := 1) (pc' := 38) dX12_readAct_37 rfl rfl (.tail _ (.head _)) ?_
            refine r_bipush (pc' := 40) dX12_readAct_38 rfl (by decide) ?_
            refine r_icmp_ne (t := 52) (f := 43) dX12_readAct_40 (by decide) rfl (by first | omega | exact xv_in _ _ _) (by first | omega | exact xv_in _ _ _) (fun h40 => ?_) (fun h40 => ?_)
            · exfalso; omega
            · refine r_aload_n (i := 0) (pc' := 44) dX12_readAct_43 rfl rfl (.head _) ?_
              refine r_getI (pc' := 47) dX12_readAct_44 rfl fX12_366 rfl (by first | assumption | rfl) (by omega) ?_
              rw [hac.2.1]
              refine r_bipush (pc' := 49) dX12_readAct_47 rfl (by decide) ?_
              refine r_icmp_ne (t := 61) (f := 52) dX12_readAct_49 (by decide) rfl (by first | omega | exact xv_in _ _ _) (by first | omega | exact xv_in _ _ _) (fun h49 => ?_) (fun h49 => ?_)
              · refine r_iconst (pc' := 62) dX12_readAct_61 rfl ?_
                refine r_aload_n (i := 0) (pc' := 63) dX12_readAct_62 rfl rfl (.head _) ?_
                refine r_getI (pc' := 66) dX12_readAct_63 rfl fX12_366 rfl (by first | assumption | rfl) (by omega) ?_
                rw [hac.2.1]
                refine r_imul (pc' := 67) dX12_readAct_66 rfl ?_
                refine r_istore_n (i := 3) (pc' := 68) dX12_readAct_67 rfl rfl rfl (.s1 (.s1 (.s1 .nil rfl rfl rfl) rfl rfl rfl) rfl rfl rfl) ?_
                refine r_aload_n (i := 0) (pc' := 69) dX12_readAct_68 rfl rfl (.head _) ?_
                refine r_getR (pc' := 72) dX12_readAct_69 rfl fX12_51 rfl (by first | assumption | rfl) (by omega) (by assumption) ?_
                refine r_iload_n (i := 3) (pc' := 73) dX12_readAct_72 rfl rfl (.tail _ (.tail _ (.tail _ (.head _)))) ?_
                refine r_iload_n (i := 1) (pc' := 74) dX12_readAct_73 rfl rfl (.tail _ (.head _)) ?_
                refine r_iastore (pc' := 75) dX12_readAct_74 rfl (by first | assumption | rfl) (by omega) (by omega) (by omega) (by first | decide | omega) (show _ = 3 * i by omega) ?_
                refine r_aload_n (i := 0) (pc' := 76) dX12_readAct_75 rfl rfl (.head _) ?_
                refine r_dup (pc' := 77) dX12_readAct_76 rfl rfl ?_
                refine r_getI (pc' := 80) dX12_readAct_77 rfl fX12_82 rfl (by first | assumption | rfl) (by omega) ?_
                rw [xv_up_ne _ _ (by omega), h54]
                refine r_iconst (pc' := 81) dX12_readAct_80 rfl ?_
                refine r_iadd (pc' := 82) dX12_readAct_81 rfl ?_
                refine r_putI (pc' := 85) dX12_readAct_82 rfl fX12_82 rfl (by first | assumption | rfl) (by omega) rfl rfl ?_
                have ho2 : rA X (q_up (q_up X 479 (3 * i) (zi ch)) 467 5 (zi (xv D 444 1 + 1))) := (rA.rfl.u _ _).x (by omega)
                have h79 : ∀ j, xv (q_up (q_up X 479 (3 * i) (zi ch)) 467 5 (zi (xv D 444 1 + 1))) 479 j = if j = 3 * i then ch else xv X 479 j := fun j => by
                  rw [xv_up_ne _ _ (by omega)]
                  by_cases e : j = 3 * i
                  · subst e; rw [xv_up_same _ _ _ hrq, if_pos rfl]
                  · rw [xv_up_ne _ _ (by omega), if_neg e]
                have h23 : xv (q_up (q_up X 479 (3 * i) (zi ch)) 467 5 (zi (xv D 444 1 + 1))) 467 23 = (i : Int) := by rw [xv_up_ne _ _ (by omega), xv_up_ne _ _ (by omega)]; exact hac.2.1
                generalize q_up (q_up X 479 (3 * i) (zi ch)) 467 5 (zi (xv D 444 1 + 1)) = X2 at hT ho2 h79 h23 ⊢
                refine r_iconst (pc' := 86) dX12_readAct_85 rfl ?_
                refine r_istore (pc' := 88) dX12_readAct_86 rfl rfl (.s1 (.s1 (.s1 (.s1 .nil rfl rfl rfl) rfl rfl rfl) rfl rfl rfl) rfl rfl rfl) ?_
                refine r_iload (pc' := 90) dX12_readAct_88 rfl (.tail _ (.tail _ (.tail _ (.tail _ (.head _))))) ?_
                refine r_iload_n (i := 2) (pc' := 91) dX12_readAct_90 rfl rfl (.tail _ (.tail _ (.head _))) ?_
                refine r_icmp_gt (t := 140) (f := 94) dX12_readAct_91 (by decide) rfl (by first | omega | exact xv_in _ _ _) (by first | omega | exact xv_in _ _ _) (fun h91 => ?_) (fun h91 => ?_)
                · refine r_sub (.kp (.dr (.dr (.dr (.dr .nil))))) ?_
                  exact zX12_readAct (X0 := X) (D := D) (c := ch) (v1 := 0) (v2 := 0) hm hT ho2 hac h20 (by omega) (by omega) (by omega) s9 s0 s1 s2 h23 (by rw [h79, if_pos rfl]) (fun q => by omega) (fun q => by omega) (fun j hj => by rw [h79, if_neg (by omega)])
                · exfalso; omega
              · exfalso; omega
        · exfalso; omega
    · exfalso; omega
  · rw [aa_n (by rw [hch]; omega) (by rw [hch]; omega) (by rw [hch]; omega) (by rw [hch]; omega)]
    obtain ⟨f1, f2, f3, f4⟩ := ac0_f D (i := i) hch hrq
    have h0 : tR (ac0 D i) X := hR.cg (f1 _ (by omega) (by omega) (by omega)) (f1 _ (by omega) (by omega) (by omega)) (f1 _ (by omega) (by omega) (by omega))
    have e4 : xv (ac0 D i) 444 1 = xv D 444 1 := by rw [f1 _ (by omega) (by omega) (by omega)]
    have hff := h0.fail (z := xv (ac0 D i) 444 1) (by rw [e4]; omega)
    rw [e4] at hff ⊢
    refine r_iload_n (i := 1) (pc' := 6) dX12_readAct_5 rfl rfl (.tail _ (.head _)) ?_
    refine r_bipush (pc' := 8) dX12_readAct_6 rfl (by decide) ?_
    refine r_icmp_ne (t := 15) (f := 11) dX12_readAct_8 (by decide) rfl (by first | omega | exact xv_in _ _ _) (by first | omega | exact xv_in _ _ _) (fun h8 => ?_) (fun h8 => ?_)
    · refine r_iload_n (i := 1) (pc' := 16) dX12_readAct_15 rfl rfl (.tail _ (.head _)) ?_
      refine r_bipush (pc' := 18) dX12_readAct_16 rfl (by decide) ?_
      refine r_icmp_eq (t := 27) (f := 21) dX12_readAct_18 (by decide) rfl (by first | omega | exact xv_in _ _ _) (by first | omega | exact xv_in _ _ _) (fun h18 => ?_) (fun h18 => ?_)
      · exfalso; omega
      · refine r_iload_n (i := 1) (pc' := 22) dX12_readAct_21 rfl rfl (.tail _ (.head _)) ?_
        refine r_bipush (pc' := 24) dX12_readAct_22 rfl (by decide) ?_
        refine r_icmp_ne (t := 31) (f := 27) dX12_readAct_24 (by decide) rfl (by first | omega | exact xv_in _ _ _) (by first | omega | exact xv_in _ _ _) (fun h24 => ?_) (fun h24 => ?_)
        · refine r_iconst (pc' := 32) dX12_readAct_31 rfl ?_
          refine r_istore_n (i := 2) (pc' := 33) dX12_readAct_32 rfl rfl rfl (.s1 (.s1 .nil rfl rfl rfl) rfl rfl rfl) ?_
          refine r_iload_n (i := 2) (pc' := 34) dX12_readAct_33 rfl rfl (.tail _ (.tail _ (.head _))) ?_
          refine r_if_ne (t := 43) (f := 37) dX12_readAct_34 (by decide) rfl (by first | omega | exact xv_in _ _ _) (fun h34 => ?_) (fun h34 => ?_)
          · exfalso; omega
          · refine r_iload_n (i := 1) (pc' := 38) dX12_readAct_37 rfl rfl (.tail _ (.head _)) ?_
            refine r_bipush (pc' := 40) dX12_readAct_38 rfl (by decide) ?_
            refine r_icmp_ne (t := 52) (f := 43) dX12_readAct_40 (by decide) rfl (by first | omega | exact xv_in _ _ _) (by first | omega | exact xv_in _ _ _) (fun h40 => ?_) (fun h40 => ?_)
            · refine r_aload_n (i := 0) (pc' := 53) dX12_readAct_52 rfl rfl (.head _) ?_
              refine r_aload_n (i := 0) (pc' := 54) dX12_readAct_53 rfl rfl (.head _) ?_
              refine r_getI (pc' := 57) dX12_readAct_54 rfl fX12_82 rfl (by first | assumption | rfl) (by omega) ?_
              rw [h54]
              refine r_V1gi (ci := 12) (pc' := 60) dX12_readAct_57 rfl lX12_89 rfl (by decide) (Nat.le_of_ble_eq_true rfl) (by first | assumption | rfl) (by omega) (tX12_fails hm) (fun r57 n57 P57 X57 Y57 e57 le57 => ?_)
              obtain ⟨h1v, h2v, h3v, h4v, hr57⟩ := e57
              subst h1v h2v h3v h4v hr57
              refine r_zreturn dX12_readAct_60 rfl (by first | decide | (split <;> omega) | omega) ?_
              exact ⟨_, rfl, rfl, rfl, rfl, Or.inr ⟨rfl, rA.rfl.x (by omega), (hff.exp 59).up (by omega) _ _⟩⟩
            · exfalso; omega
        · exfalso; omega
    · exfalso; omega
