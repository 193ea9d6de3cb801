theorem TS.back {X X' : q_X} {b k : Nat} {G G' T T' : Nat → Bool} {u : Int} (hO : bOk X b) (hk : (k : Int) < xv X b 10) (h : TS X X' b G T) (hG : ∀ i, i ≠ k → G' i = G i) (hu : u = if G' k = true then 1 else 0) (hT : ∀ i, i ≠ k → T' i = T i) (hk0 : T' k = false) : TS X (q_up (q_up (q_up X' 457 k (zi u)) 454 k (zi (bk_hT X b g0 k))) 455 k (zi (bk_pT X b g0 k))) b G' T' := by
  have b1 := bk_hT_b g0 (hO.c hk) hO.2.2.2.2.2.2.1.1
  refine (h.gone hG hu).set hT ⟨by omega, ?_⟩ ⟨by omega, ?_⟩
  · rw [bk_hT, bk_hT, hk0]; rfl
  · rw [bk_pT, bk_pT, hk0]; rfl
set_option maxHeartbeats 4000000 in
set_option maxRecDepth 100000 in
theorem lX3_arrange {l : Launch} {g : q_G} {n : Nat} {P : q_P} {X : q_X} {Y : q_Y} {b : Nat} (hb : isBk n P b) (hO : bOk X b) (hap : bApart b) (ht : isTal n P) (hch : isCho n P) {L : List Nat} (hL : LOk X b L) {cu tu : Nat} {G T : Nat → Bool} {r9 : Nat → Int} (hcu : cu < 10000) (htu : tu < 10000) (hG : ∀ k, (∀ i, i < L.length → wAt L i ≠ k) → G k = false) (hT : ∀ k, (∀ i, i < L.length → wAt L i ≠ k) → T k = false) : ∀ (w i : Nat) (X1 : q_X), i + w = L.length → TS X X1 b (gI L cu G i) (gI L tu T i) → chG X X1 b L → xv X1 459 = r9 → q_Tr l g mX3_arrange 2 (q_gv (fun n' P' X' Y' => n' = n ∧ P' = P ∧ Y' = Y ∧ TT X X' b (gS L cu) (gS L tu) ∧ chG X X' b L ∧ xv X' 459 = r9)) 3 [(0, .ref (g.1 + 459)), (1, .ref (g.1 + 453)), (2, .int (zi (cu : Int))), (3, .int (zi (tu : Int))), (4, .int (zi (i : Int)))] [] n P X1 Y := by
  obtain ⟨b0, b1, b2, b3, q7, q8, q9, q11, q12, q13, hn, hpro, hmar, hfor, hcs⟩ := id hb
  obtain ⟨o0, o1, o2, o3, o4, o5, o6, o10, oc, op0, opz, opi, om0, omi, olim⟩ := id hO
  obtain ⟨t0, t1, t2, t3, t4, hnt⟩ := id ht
  obtain ⟨v0, v1, v2, v3, v4, v5, v6, hnh⟩ := id hch
  have hLl := hL.1
  intro w
  induction w with
  | zero =>
    intro i X1 hi hTS hcg hq9
    have zX1 := hcg.1
    obtain rfl : i = L.length := by omega
    have hTS := hTS.congrF (gI_end hG) (gI_end hT)
    refine r_iload (pc' := 5) dX3_arrange_3 rfl (.tail _ (.tail _ (.tail _ (.tail _ (.head _))))) ?_
    refine r_aload_n (i := 0) (pc' := 6) dX3_arrange_5 rfl rfl (.head _) ?_
    refine r_getI (pc' := 9) dX3_arrange_6 rfl fX3_41 rfl (by first | assumption | rfl) (by omega) ?_
    rw [zX1]
    refine r_icmp_ge (t := 105) (f := 12) dX3_arrange_9 (by decide) rfl (by first | omega | exact xv_in _ _ _) (by first | omega | exact xv_in _ _ _) (fun h9 => ?_) (fun h9 => ?_)
    · refine r_aload_n (i := 1) (pc' := 106) dX3_arrange_105 rfl rfl (.tail _ (.head _)) ?_
      refine r_V0gv (ci := 10) (pc' := 109) dX3_arrange_106 rfl lX3_120 rfl (by decide) (Nat.le_of_ble_eq_true rfl) (by first | assumption | rfl) (by omega) (tX10_rank ht hTS.2.1) (fun n106 P106 X106 Y106 e106 le106 => ?_)
      obtain ⟨rfl, rfl, rfl, f, ef, hrI⟩ := e106
      have hT2 := hTS.rank hrI
      rw [← ef] at hT2
      refine r_return dX3_arrange_109 rfl ?_
      refine ⟨rfl, rfl, rfl, rfl, hT2, hcg.out (by rw [ef, xv_row _ _ (by omega)]) (fun a a1 a2 => by rw [ef, xv_row _ _ (by omega)]), ?_⟩
      rw [ef, xv_row _ _ (by omega)]; exact hq9
    · exfalso; omega
  | succ w ih =>
    intro i X1 hi hTS hcg hq9
    have zX1 := hcg.1
    have hci := hcg.2 i (by omega)
    obtain ⟨hwi, hwr⟩ := hL.2.1 i (by omega)
    have hgc := gS_at (s := cu) hL (i := i) (by omega)
    have hgt := gS_at (s := tu) hL (i := i) (by omega)
    have hst := fun (u : Int) (hu : u = if gS L cu (wAt L i) = true then 1 else 0) => hTS.back (u := u) (G' := gI L cu G (i + 1)) (T' := fun k => if k = wAt L i then false else gI L tu T i k) hO hwi (fun k hk => gI_s hk) (by rw [gI_at]; exact hu) (fun k hk => by simp [hk]) (by simp)
    refine r_iload (pc' := 5) dX3_arrange_3 rfl (.tail _ (.tail _ (.tail _ (.tail _ (.head _))))) ?_
    refine r_aload_n (i := 0) (pc' := 6) dX3_arrange_5 rfl rfl (.head _) ?_
    refine r_getI (pc' := 9) dX3_arrange_6 rfl fX3_41 rfl (by first | assumption | rfl) (by omega) ?_
    rw [zX1]
    refine r_icmp_ge (t := 105) (f := 12) dX3_arrange_9 (by decide) rfl (by first | omega | exact xv_in _ _ _) (by first | omega | exact xv_in _ _ _) (fun h9 => ?_) (fun h9 => ?_)
    · exfalso; omega
    · refine r_aload_n (i := 0) (pc' := 13) dX3_arrange_12 rfl rfl (.head _) ?_
      refine r_getR (pc' := 16) dX3_arrange_13 rfl fX3_9 rfl (by first | assumption | rfl) (by omega) (by assumption) ?_
      refine r_iload (pc' := 18) dX3_arrange_16 rfl (.tail _ (.tail _ (.tail _ (.tail _ (.head _))))) ?_
      refine r_iaload (pc' := 19) dX3_arrange_18 rfl (by first | assumption | rfl) (by omega) (by omega) (by omega) (by first | decide | omega) (Int.toNat_natCast _) ?_
      rw [hci.1]
      refine r_istore (pc' := 21) dX3_arrange_19 rfl rfl (.s1 (.s1 (.s1 (.s1 (.s1 .nil rfl rfl rfl) rfl rfl rfl) rfl rfl rfl) rfl rfl rfl) rfl rfl rfl) ?_
      refine r_aload_n (i := 1) (pc' := 22) dX3_arrange_21 rfl rfl (.tail _ (.head _)) ?_
      refine r_getR (pc' := 25) dX3_arrange_22 rfl fX3_97 rfl (by first | assumption | rfl) (by omega) (by assumption) ?_
      refine r_iload (pc' := 27) dX3_arrange_25 rfl (.tail _ (.tail _ (.tail _ (.tail _ (.tail _ (.head _)))))) ?_
      refine r_iload_n (i := 2) (pc' := 28) dX3_arrange_27 rfl rfl (.tail _ (.tail _ (.head _))) ?_
      refine r_iload (pc' := 30) dX3_arrange_28 rfl (.tail _ (.tail _ (.tail _ (.tail _ (.head _))))) ?_
      refine r_ishr (pc' := 31) dX3_arrange_30 rfl (p_shr (by omega) (by omega)) ?_
      refine r_iconst (pc' := 32) dX3_arrange_31 rfl ?_
      refine r_iand (pc' := 33) dX3_arrange_32 rfl (p_and1 _) ?_
      refine r_if_eq (t := 40) (f := 36) dX3_arrange_33 (by decide) rfl (by first | omega | exact xv_in _ _ _) (fun h33 => ?_) (fun h33 => ?_)
      · have hst := hst 0 (by rw [if_neg (fun q => by have := hgc.mp q; unfold p_bit at this; omega)])
        refine r_iconst (pc' := 41) dX3_arrange_40 rfl ?_
        refine r_zastore (pc' := 42) dX3_arrange_41 rfl (by first | assumption | rfl) (by omega) (by omega) (by omega) (by first | decide | omega) (Int.toNat_natCast _) (by omega) ?_
        refine r_aload_n (i := 1) (pc' := 43) dX3_arrange_42 rfl rfl (.tail _ (.head _)) ?_
        refine r_getR (pc' := 46) dX3_arrange_43 rfl fX3_61 rfl (by first | assumption | rfl) (by omega) (by assumption) ?_
        refine r_iload (pc' := 48) dX3_arrange_46 rfl (.tail _ (.tail _ (.tail _ (.tail _ (.tail _ (.head _)))))) ?_
        refine r_aload_n (i := 0) (pc' := 49) dX3_arrange_48 rfl rfl (.head _) ?_
        refine r_getR (pc' := 52) dX3_arrange_49 rfl fX3_19 rfl (by first | assumption | rfl) (by omega) (by assumption) ?_
        refine r_iload (pc' := 54) dX3_arrange_52 rfl (.tail _ (.tail _ (.tail _ (.tail _ (.head _))))) ?_
        refine r_iaload (pc' := 55) dX3_arrange_54 rfl (by first | assumption | rfl) (by omega) (by omega) (by omega) (by first | decide | omega) (Int.toNat_natCast _) ?_
        simp (disch := omega) only [xv_up_ne]
        rw [hci.2.2.2.1]
        refine r_iastore (pc' := 56) dX3_arrange_55 rfl (by first | assumption | rfl) (by omega) (by omega) (by omega) (by first | decide | omega) (Int.toNat_natCast _) ?_
        refine r_aload_n (i := 1) (pc' := 57) dX3_arrange_56 rfl rfl (.tail _ (.head _)) ?_
        refine r_getR (pc' := 60) dX3_arrange_57 rfl fX3_64 rfl (by first | assumption | rfl) (by omega) (by assumption) ?_
        refine r_iload (pc' := 62) dX3_arrange_60 rfl (.tail _ (.tail _ (.tail _ (.tail _ (.tail _ (.head _)))))) ?_
        refine r_aload_n (i := 0) (pc' := 63) dX3_arrange_62 rfl rfl (.head _) ?_
        refine r_getR (pc' := 66) dX3_arrange_63 rfl fX3_22 rfl (by first | assumption | rfl) (by omega) (by assumption) ?_
        refine r_iload (pc' := 68) dX3_arrange_66 rfl (.tail _ (.tail _ (.tail _ (.tail _ (.head _))))) ?_
        refine r_iaload (pc' := 69) dX3_arrange_68 rfl (by first | assumption | rfl) (by omega) (by omega) (by omega) (by first | decide | omega) (Int.toNat_natCast _) ?_
        simp (disch := omega) only [xv_up_ne]
        rw [hci.2.2.2.2.1]
        refine r_iastore (pc' := 70) dX3_arrange_69 rfl (by first | assumption | rfl) (by omega) (by omega) (by omega) (by first | decide | omega) (Int.toNat_natCast _) ?_
        refine r_iload_n (i := 3) (pc' := 71) dX3_arrange_70 rfl rfl (.tail _ (.tail _ (.tail _ (.head _)))) ?_
        refine r_iload (pc' := 73) dX3_arrange_71 rfl (.tail _ (.tail _ (.tail _ (.tail _ (.head _))))) ?_
        refine r_ishr (pc' := 74) dX3_arrange_73 rfl (p_shr (by omega) (by omega)) ?_
        refine r_iconst (pc' := 75) dX3_arrange_74 rfl ?_
        refine r_iand (pc' := 76) dX3_arrange_75 rfl (p_and1 _) ?_
        refine r_if_eq (t := 99) (f := 79) dX3_arrange_76 (by decide) rfl (by first | omega | exact xv_in _ _ _) (fun h76 => ?_) (fun h76 => ?_)
        · refine r_iinc (pc' := 102) dX3_arrange_99 rfl rfl (.tail _ (.tail _ (.tail _ (.tail _ (.head _))))) (.s1 (.s1 (.s1 (.s1 (.here (.s1 .nil rfl rfl rfl)) rfl rfl rfl) rfl rfl rfl) rfl rfl rfl) rfl rfl rfl) ?_
          refine r_goto (t := 3) dX3_arrange_102 (by decide) ?_
          refine r_sub (.kp (.kp (.kp (.kp (.kp (.dr .nil)))))) ?_
          first
            | (refine ih (i + 1) _ (by omega) (hst.congrF (fun _ => rfl) (fun k => ?_)) (hcg.out ?_ (fun a a1 a2 => ?_)) ?_
               · by_cases e : k = wAt L i
                 · rw [if_pos e, e, gI_at]
                   cases hq : gS L tu (wAt L i) with
                   | false => rfl
                   | true => exfalso; have := hgt.mp hq; unfold p_bit at this; omega
                 · rw [if_neg e, gI_s e]
               · simp (disch := omega) only [xv_up_ne]
               · rw [xv_up_row _ _ _ (by omega), xv_up_row _ _ _ (by omega), xv_up_row _ _ _ (by omega)]
               · rw [xv_up_row _ _ _ (by omega), xv_up_row _ _ _ (by omega), xv_up_row _ _ _ (by omega)]; exact hq9)
            | (refine ih (i + 1) _ (by omega) (hst.turn hO hwi (T' := gI L tu T (i + 1)) (fun k hk => by rw [gI_s hk, if_neg hk]) (by simp) ?_) (hcg.out ?_ (fun a a1 a2 => ?_)) ?_
               · rw [gI_at]; exact hgt.mpr (by unfold p_bit; omega)
               · unfold t_shift; simp (disch := omega) only [xv_up_ne]
               · unfold t_shift; rw [xv_up_row _ _ _ (by omega), xv_up_row _ _ _ (by omega), xv_up_row _ _ _ (by omega), xv_up_row _ _ _ (by omega), xv_up_row _ _ _ (by omega)]
               · unfold t_shift; rw [xv_up_row _ _ _ (by omega), xv_up_row _ _ _ (by omega), xv_up_row _ _ _ (by omega), xv_up_row _ _ _ (by omega), xv_up_row _ _ _ (by omega)]; exact hq9)
        · refine r_aload_n (i := 1) (pc' := 80) dX3_arrange_79 rfl rfl (.tail _ (.head _)) ?_
          refine r_iload (pc' := 82) dX3_arrange_80 rfl (.tail _ (.tail _ (.tail _ (.tail _ (.tail _ (.head _)))))) ?_
          refine r_aload_n (i := 0) (pc' := 83) dX3_arrange_82 rfl rfl (.head _) ?_
          refine r_getR (pc' := 86) dX3_arrange_83 rfl fX3_25 rfl (by first | assumption | rfl) (by omega) (by assumption) ?_
          refine r_iload (pc' := 88) dX3_arrange_86 rfl (.tail _ (.tail _ (.tail _ (.tail _ (.head _))))) ?_
          refine r_iaload (pc' := 89) dX3_arrange_88 rfl (by first | assumption | rfl) (by omega) (by omega) (by omega) (by first | decide | omega) (Int.toNat_natCast _) ?_
          simp (disch := omega) only [xv_up_ne]
          rw [hci.2.2.2.2.2.1]
          refine r_aload_n (i := 0) (pc' := 90) dX3_arrange_89 rfl rfl (.head _) ?_
          refine r_getR (pc' := 93) dX3_arrange_90 rfl fX3_28 rfl (by first | assumption | rfl) (by omega) (by assumption) ?_
          refine r_iload (pc' := 95) dX3_arrange_93 rfl (.tail _ (.tail _ (.tail _ (.tail _ (.head _))))) ?_
          refine r_iaload (pc' := 96) dX3_arrange_95 rfl (by first | assumption | rfl) (by omega) (by omega) (by omega) (by first | decide | omega) (Int.toNat_natCast _) ?_
          simp (disch := omega) only [xv_up_ne]
          rw [hci.2.2.2.2.2.2]
          refine r_V3gv (ci := 10) (pc' := 99) dX3_arrange_96 rfl lX3_116 rfl (by decide) (Nat.le_of_ble_eq_true rfl) (by first | assumption | rfl) (by omega) (tX10_shift ht (by omega)) (fun n96 P96 X96 Y96 e96 le96 => ?_)
          obtain ⟨rfl, rfl, rfl, rfl⟩ := e96
          refine r_iinc (pc' := 102) dX3_arrange_99 rfl rfl (.tail _ (.tail _ (.tail _ (.tail _ (.head _))))) (.s1 (.s1 (.s1 (.s1 (.here (.s1 .nil rfl rfl rfl)) rfl rfl rfl) rfl rfl rfl) rfl rfl rfl) rfl rfl rfl) ?_
          refine r_goto (t := 3) dX3_arrange_102 (by decide) ?_
          refine r_sub (.kp (.kp (.kp (.kp (.kp (.dr .nil)))))) ?_
          first
            | (refine ih (i + 1) _ (by omega) (hst.congrF (fun _ => rfl) (fun k => ?_)) (hcg.out ?_ (fun a a1 a2 => ?_)) ?_
               · by_cases e : k = wAt L i
                 · rw [if_pos e, e, gI_at]
                   cases hq : gS L tu (wAt L i) with
                   | false => rfl
                   | true => exfalso; have := hgt.mp hq; unfold p_bit at this; omega
                 · rw [if_neg e, gI_s e]
               · simp (disch := omega) only [xv_up_ne]
               · rw [xv_up_row _ _ _ (by omega), xv_up_row _ _ _ (by omega), xv_up_row _ _ _ (by omega)]
               · rw [xv_up_row _ _ _ (by omega), xv_up_row _ _ _ (by omega), xv_up_row _ _ _ (by omega)]; exact hq9)
            | (refine ih (i + 1) _ (by omega) (hst.turn hO hwi (T' := gI L tu T (i + 1)) (fun k hk => by rw [gI_s hk, if_neg hk]) (by simp) ?_) (hcg.out ?_ (fun a a1 a2 => ?_)) ?_
               · rw [gI_at]; exact hgt.mpr (by unfold p_bit; omega)
               · unfold t_shift; simp (disch := omega) only [xv_up_ne]
               · unfold t_shift; rw [xv_up_row _ _ _ (by omega), xv_up_row _ _ _ (by omega), xv_up_row _ _ _ (by omega), xv_up_row _ _ _ (by omega), xv_up_row _ _ _ (by omega)]
               · unfold t_shift; rw [xv_up_row _ _ _ (by omega), xv_up_row _ _ _ (by omega), xv_up_row _ _ _ (by omega), xv_up_row _ _ _ (by omega), xv_up_row _ _ _ (by omega)]; exact hq9)
      · have hst := hst 1 (by rw [if_pos (hgc.mpr (by unfold p_bit; omega))])
        refine r_iconst (pc' := 37) dX3_arrange_36 rfl ?_
        refine r_goto (t := 41) dX3_arrange_37 (by decide) ?_
        refine r_zastore (pc' := 42) dX3_arrange_41 rfl (by first | assumption | rfl) (by omega) (by omega) (by omega) (by first | decide | omega) (Int.toNat_natCast _) (by omega) ?_
        refine r_aload_n (i := 1) (pc' := 43) dX3_arrange_42 rfl rfl (.tail _ (.head _)) ?_
        refine r_getR (pc' := 46) dX3_arrange_43 rfl fX3_61 rfl (by first | assumption | rfl) (by omega) (by assumption) ?_
        refine r_iload (pc' := 48) dX3_arrange_46 rfl (.tail _ (.tail _ (.tail _ (.tail _ (.tail _ (.head _)))))) ?_
        refine r_aload_n (i := 0) (pc' := 49) dX3_arrange_48 rfl rfl (.head _) ?_
        refine r_getR (pc' := 52) dX3_arrange_49 rfl fX3_19 rfl (by first | assumption | rfl) (by omega) (by assumption) ?_
        refine r_iload (pc' := 54) dX3_arrange_52 rfl (.tail _ (.tail _ (.tail _ (.tail _ (.head _))))) ?_
        refine r_iaload (pc' := 55) dX3_arrange_54 rfl (by first | assumption | rfl) (by omega) (by omega) (by omega) (by first | decide | omega) (Int.toNat_natCast _) ?_
        simp (disch := omega) only [xv_up_ne]
        rw [hci.2.2.2.1]
        refine r_iastore (pc' := 56) dX3_arrange_55 rfl (by first | assumption | rfl) (by omega) (by omega) (by omega) (by first | decide | omega) (Int.toNat_natCast _) ?_
        refine r_aload_n (i := 1) (pc' := 57) dX3_arrange_56 rfl rfl (.tail _ (.head _)) ?_
        refine r_getR (pc' := 60) dX3_arrange_57 rfl fX3_64 rfl (by first | assumption | rfl) (by omega) (by assumption) ?_
        refine r_iload (pc' := 62) dX3_arrange_60 rfl (.tail _ (.tail _ (.tail _ (.tail _ (.tail _ (.head _)))))) ?_
        refine r_aload_n (i := 0) (pc' := 63) dX3_arrange_62 rfl rfl (.head _) ?_
        refine r_getR (pc' := 66) dX3_arrange_63 rfl fX3_22 rfl (by first | assumption | rfl) (by omega) (by assumption) ?_
        refine r_iload (pc' := 68) dX3_arrange_66 rfl (.tail _ (.tail _ (.tail _ (.tail _ (.head _))))) ?_
        refine r_iaload (pc' := 69) dX3_arrange_68 rfl (by first | assumption | rfl) (by omega) (by omega) (by omega) (by first | decide | omega) (Int.toNat_natCast _) ?_
        simp (disch := omega) only [xv_up_ne]
        rw [hci.2.2.2.2.1]
        refine r_iastore (pc' := 70) dX3_arrange_69 rfl (by first | assumption | rfl) (by omega) (by omega) (by omega) (by first | decide | omega) (Int.toNat_natCast _) ?_
        refine r_iload_n (i := 3) (pc' := 71) dX3_arrange_70 rfl rfl (.tail _ (.tail _ (.tail _ (.head _)))) ?_
        refine r_iload (pc' := 73) dX3_arrange_71 rfl (.tail _ (.tail _ (.tail _ (.tail _ (.head _))))) ?_
        refine r_ishr (pc' := 74) dX3_arrange_73 rfl (p_shr (by omega) (by omega)) ?_
        refine r_iconst (pc' := 75) dX3_arrange_74 rfl ?_
        refine r_iand (pc' := 76) dX3_arrange_75 rfl (p_and1 _) ?_
        refine r_if_eq (t := 99) (f := 79) dX3_arrange_76 (by decide) rfl (by first | omega | exact xv_in _ _ _) (fun h76 => ?_) (fun h76 => ?_)
        · refine r_iinc (pc' := 102) dX3_arrange_99 rfl rfl (.tail _ (.tail _ (.tail _ (.tail _ (.head _))))) (.s1 (.s1 (.s1 (.s1 (.here (.s1 .nil rfl rfl rfl)) rfl rfl rfl) rfl rfl rfl) rfl rfl rfl) rfl rfl rfl) ?_
          refine r_goto (t := 3) dX3_arrange_102 (by decide) ?_
          refine r_sub (.kp (.kp (.kp (.kp (.kp (.dr .nil)))))) ?_
          first
            | (refine ih (i + 1) _ (by omega) (hst.congrF (fun _ => rfl) (fun k => ?_)) (hcg.out ?_ (fun a a1 a2 => ?_)) ?_
               · by_cases e : k = wAt L i
                 · rw [if_pos e, e, gI_at]
                   cases hq : gS L tu (wAt L i) with
                   | false => rfl
                   | true => exfalso; have := hgt.mp hq; unfold p_bit at this; omega
                 · rw [if_neg e, gI_s e]
               · simp (disch := omega) only [xv_up_ne]
               · rw [xv_up_row _ _ _ (by omega), xv_up_row _ _ _ (by omega), xv_up_row _ _ _ (by omega)]
               · rw [xv_up_row _ _ _ (by omega), xv_up_row _ _ _ (by omega), xv_up_row _ _ _ (by omega)]; exact hq9)
            | (refine ih (i + 1) _ (by omega) (hst.turn hO hwi (T' := gI L tu T (i + 1)) (fun k hk => by rw [gI_s hk, if_neg hk]) (by simp) ?_) (hcg.out ?_ (fun a a1 a2 => ?_)) ?_
               · rw [gI_at]; exact hgt.mpr (by unfold p_bit; omega)
               · unfold t_shift; simp (disch := omega) only [xv_up_ne]
               · unfold t_shift; rw [xv_up_row _ _ _ (by omega), xv_up_row _ _ _ (by omega), xv_up_row _ _ _ (by omega), xv_up_row _ _ _ (by omega), xv_up_row _ _ _ (by omega)]
               · unfold t_shift; rw [xv_up_row _ _ _ (by omega), xv_up_row _ _ _ (by omega), xv_up_row _ _ _ (by omega), xv_up_row _ _ _ (by omega), xv_up_row _ _ _ (by omega)]; exact hq9)
        · refine r_aload_n (i := 1) (pc' := 80) dX3_arrange_79 rfl rfl (.tail _ (.head _)) ?_
          refine r_iload (pc' := 82) dX3_arrange_80 rfl (.tail _ (.tail _ (.tail _ (.tail _ (.tail _ (.head _)))))) ?_
          refine r_aload_n (i := 0) (pc' := 83) dX3_arrange_82 rfl rfl (.head _) ?_
          refine r_getR (pc' := 86) dX3_arrange_83 rfl fX3_25 rfl (by first | assumption | rfl) (by omega) (by assumption) ?_
          refine r_iload (pc' := 88) dX3_arrange_86 rfl (.tail _ (.tail _ (.tail _ (.tail _ (.head _))))) ?_
          refine r_iaload (pc' := 89) dX3_arrange_88 rfl (by first | assumption | rfl) (by omega) (by omega) (by omega) (by first | decide | omega) (Int.toNat_natCast _) ?_
          simp (disch := omega) only [xv_up_ne]
          rw [hci.2.2.2.2.2.1]
          refine r_aload_n (i := 0) (pc' := 90) dX3_arrange_89 rfl rfl (.head _) ?_
          refine r_getR (pc' := 93) dX3_arrange_90 rfl fX3_28 rfl (by first | assumption | rfl) (by omega) (by assumption) ?_
          refine r_iload (pc' := 95) dX3_arrange_93 rfl (.tail _ (.tail _ (.tail _ (.tail _ (.head _))))) ?_
          refine r_iaload (pc' := 96) dX3_arrange_95 rfl (by first | assumption | rfl) (by omega) (by omega) (by omega) (by first | decide | omega) (Int.toNat_natCast _) ?_
          simp (disch := omega) only [xv_up_ne]
          rw [hci.2.2.2.2.2.2]
          refine r_V3gv (ci := 10) (pc' := 99) dX3_arrange_96 rfl lX3_116 rfl (by decide) (Nat.le_of_ble_eq_true rfl) (by first | assumption | rfl) (by omega) (tX10_shift ht (by omega)) (fun n96 P96 X96 Y96 e96 le96 => ?_)
          obtain ⟨rfl, rfl, rfl, rfl⟩ := e96
          refine r_iinc (pc' := 102) dX3_arrange_99 rfl rfl (.tail _ (.tail _ (.tail _ (.tail _ (.head _))))) (.s1 (.s1 (.s1 (.s1 (.here (.s1 .nil rfl rfl rfl)) rfl rfl rfl) rfl rfl rfl) rfl rfl rfl) rfl rfl rfl) ?_
          refine r_goto (t := 3) dX3_arrange_102 (by decide) ?_
          refine r_sub (.kp (.kp (.kp (.kp (.kp (.dr .nil)))))) ?_
          first
            | (refine ih (i + 1) _ (by omega) (hst.congrF (fun _ => rfl) (fun k => ?_)) (hcg.out ?_ (fun a a1 a2 => ?_)) ?_
               · by_cases e : k = wAt L i
                 · rw [if_pos e, e, gI_at]
                   cases hq : gS L tu (wAt L i) with
                   | false => rfl
                   | true => exfalso; have := hgt.mp hq; unfold p_bit at this; omega
                 · rw [if_neg e, gI_s e]
               · simp (disch := omega) only [xv_up_ne]
               · rw [xv_up_row _ _ _ (by omega), xv_up_row _ _ _ (by omega), xv_up_row _ _ _ (by omega)]
               · rw [xv_up_row _ _ _ (by omega), xv_up_row _ _ _ (by omega), xv_up_row _ _ _ (by omega)]; exact hq9)
            | (refine ih (i + 1) _ (by omega) (hst.turn hO hwi (T' := gI L tu T (i + 1)) (fun k hk => by rw [gI_s hk, if_neg hk]) (by simp) ?_) (hcg.out ?_ (fun a a1 a2 => ?_)) ?_
               · rw [gI_at]; exact hgt.mpr (by unfold p_bit; omega)
               · unfold t_shift; simp (disch := omega) only [xv_up_ne]
               · unfold t_shift; rw [xv_up_row _ _ _ (by omega), xv_up_row _ _ _ (by omega), xv_up_row _ _ _ (by omega), xv_up_row _ _ _ (by omega), xv_up_row _ _ _ (by omega)]
               · unfold t_shift; rw [xv_up_row _ _ _ (by omega), xv_up_row _ _ _ (by omega), xv_up_row _ _ _ (by omega), xv_up_row _ _ _ (by omega), xv_up_row _ _ _ (by omega)]; exact hq9)
set_option maxHeartbeats 4000000 in
set_option maxRecDepth 100000 in
theorem tX3_arrange {l : Launch} {g : q_G} {n : Nat} {P : q_P} {X : q_X} {Y : q_Y} {X1 : q_X} {b : Nat} (hb : isBk n P b) (hO : bOk X b) (hap : bApart b) (ht : isTal n P) (hch : isCho n P) {L : List Nat} (hL : LOk X b L) {cu tu : Nat} {G T : Nat → Bool} {r9 : Nat → Int} (hcu : cu < 10000) (htu : tu < 10000) (hG : ∀ k, (∀ i, i < L.length → wAt L i ≠ k) → G k = false) (hT : ∀ k, (∀ i, i < L.length → wAt L i ≠ k) → T k = false) (hTS : TS X X1 b G T) (hcg : chG X X1 b L) (hq9 : xv X1 459 = r9) : q_Met l g mX3_arrange 2 [.ref (g.1 + 459), .ref (g.1 + 453), .int (zi (cu : Int)), .int (zi (tu : Int))] n P X1 Y (q_gv (fun n' P' X' Y' => n' = n ∧ P' = P ∧ Y' = Y ∧ TT X X' b (gS L cu) (gS L tu) ∧ chG X X' b L ∧ xv X' 459 = r9)) := by
  refine q_enter (L := [(0, .ref (g.1 + 459)), (1, .ref (g.1 + 453)), (2, .int (zi (cu : Int))), (3, .int (zi (tu : Int)))]) (by decide) (Nat.le_of_ble_eq_true rfl) rfl ?_
  refine r_iconst (pc' := 1) dX3_arrange_0 rfl ?_
  refine r_istore (pc' := 3) dX3_arrange_1 rfl rfl (.s1 (.s1 (.s1 (.s1 .nil rfl rfl rfl) rfl rfl rfl) rfl rfl rfl) rfl rfl rfl) ?_
  exact lX3_arrange hb hO hap ht hch hL hcu htu hG hT L.length 0 X1 (Nat.zero_add _) (hTS.congrF (fun k => (gI_z L cu G k).symm) (fun k => (gI_z L tu T k).symm)) hcg hq9
theorem dgN_b (d v m : Nat) (hm : m ≤ 10) : dgN d v m < 1024 := Nat.lt_of_lt_of_le (dgN_lt d v m) (Nat.pow_le_pow_right (n := 2) (by omega) hm)
set_option maxHeartbeats 4000000 in
set_option maxRecDepth 100000 in
theorem lX3_chooseFit {l : Launch} {g : q_G} {n : Nat} {P : q_P} {X : q_X} {Y : q_Y} {b : Nat} (hb : isBk n P b) (hO : bOk X b) (hap : bApart b) (ht : isTal n P) (hch : isCho n P) {L : List Nat} (hL : LOk X b L) {goal : Int} (hL6 : L.length ≤ 6) (hgo : q_in goal) {Z : Nat} (hZe : 3 ^ L.length = Z) : ∀ (w s : Nat) (X1 : q_X) (G T : Nat → Bool), s + w = Z → TS X X1 b G T → (∀ k, (∀ i, i < L.length → wAt L i ≠ k) → G k = false) → (∀ k, (∀ i, i < L.length → wAt L i ≠ k) → T k = false) → chG X X1 b L → chF X1 (ch_fit X b L goal s) → q_Tr l g mX3_chooseFit 5 (q_gv (fun n' P' X' Y' => n' = n ∧ P' = P ∧ Y' = Y ∧ tOut X X' ∧ chF X' (ch_fit X b L goal (3 ^ L.length)))) 38 [(0, .ref (g.1 + 459)), (1, .ref (g.1 + b)), (2, .ref (g.1 + 453)), (3, .int (zi goal)), (4, .int (zi (Z : Int))), (5, .int (zi (s : Int)))] [] n P X1 Y := by
  obtain ⟨b0, b1, b2, b3, q7, q8, q9, q11, q12, q13, hn, hpro, hmar, hfor, hcs⟩ := id hb
  obtain ⟨o0, o1, o2, o3, o4, o5, o6, o10, oc, op0, opz, opi, om0, omi, olim⟩ := id hO
  obtain ⟨t0, t1, t2, t3, t4, hnt⟩ := id ht
  obtain ⟨v0, v1, v2, v3, v4, v5, v6, hnh⟩ := id hch
  have hLl := hL.1
  have hZ : 3 ^ L.length ≤ 729 := Nat.pow_le_pow_right (n := 3) (by omega) hL6
  rw [hZe] at hZ ⊢
  intro w
  induction w with
  | zero =>
    intro s X1 G T hi hTS hG hT hcg hS
    have zX1 := hcg.1
    obtain rfl : s = Z := by omega
    refine r_iload (pc' := 40) dX3_chooseFit_38 rfl (.tail _ (.tail _ (.tail _ (.tail _ (.tail _ (.head _)))))) ?_
    refine r_iload (pc' := 42) dX3_chooseFit_40 rfl (.tail _ (.tail _ (.tail _ (.tail _ (.head _))))) ?_
    refine r_icmp_ge (t := 152) (f := 45) dX3_chooseFit_42 (by decide) rfl (by first | omega | exact xv_in _ _ _) (by first | omega | exact xv_in _ _ _) (fun h42 => ?_) (fun h42 => ?_)
    · refine r_return dX3_chooseFit_152 rfl ?_
      exact ⟨rfl, rfl, rfl, rfl, hTS.1, hS⟩
    · exfalso; omega
  | succ w ih =>
    intro s X1 G T hi hTS hG hT hcg hS
    have zX1 := hcg.1
    have b1 := dgN_b 1 s L.length hLl
    have b2 := dgN_b 2 s L.length hLl
    have hdb := ch_dead_b hO hL (dgN 1 s L.length)
    have hnb := ch_now_b hO hL (dgN 1 s L.length)
    have ih := ih (s + 1)
    rw [ch_fit] at ih
    generalize hc1 : dgN 1 s L.length = cu at *
    generalize hc2 : dgN 2 s L.length = tu at *
    refine r_iload (pc' := 40) dX3_chooseFit_38 rfl (.tail _ (.tail _ (.tail _ (.tail _ (.tail _ (.head _)))))) ?_
    refine r_iload (pc' := 42) dX3_chooseFit_40 rfl (.tail _ (.tail _ (.tail _ (.tail _ (.head _))))) ?_
    refine r_icmp_ge (t := 152) (f := 45) dX3_chooseFit_42 (by decide) rfl (by first | omega | exact xv_in _ _ _ | exact nz_in _) (by first | omega | exact xv_in _ _ _ | exact nz_in _) (fun h42 => ?_) (fun h42 => ?_)
    · exfalso; omega
    · refine r_aload_n (i := 0) (pc' := 46) dX3_chooseFit_45 rfl rfl (.head _) ?_
      refine r_iload (pc' := 48) dX3_chooseFit_46 rfl (.tail _ (.tail _ (.tail _ (.tail _ (.tail _ (.head _)))))) ?_
      refine r_iconst (pc' := 49) dX3_chooseFit_48 rfl ?_
      refine r_V2p (ci := 3) (pc' := 52) dX3_chooseFit_49 rfl lX3_105 rfl (by decide) (Nat.le_of_ble_eq_true rfl) (by first | assumption | rfl) (by omega) (tX3_digits (d := 1) (by omega) zX1 (by omega) (by omega) (by omega)) ?_
      rw [hc1]
      refine r_istore (pc' := 54) dX3_chooseFit_52 rfl rfl (.s1 (.s1 (.s1 (.s1 (.s1 (.s1 .nil rfl rfl rfl) rfl rfl rfl) rfl rfl rfl) rfl rfl rfl) rfl rfl rfl) rfl rfl rfl) ?_
      refine r_aload_n (i := 0) (pc' := 55) dX3_chooseFit_54 rfl rfl (.head _) ?_
      refine r_aload_n (i := 0) (pc' := 56) dX3_chooseFit_55 rfl rfl (.head _) ?_
      refine r_getR (pc' := 59) dX3_chooseFit_56 rfl fX3_16 rfl (by first | assumption | rfl) (by omega) (by assumption) ?_
      refine r_iload (pc' := 61) dX3_chooseFit_59 rfl (.tail _ (.tail _ (.tail _ (.tail _ (.tail _ (.tail _ (.head _))))))) ?_
      refine r_V2p (ci := 3) (pc' := 64) dX3_chooseFit_61 rfl lX3_81 rfl (by decide) (Nat.le_of_ble_eq_true rfl) (by first | assumption | rfl) (by omega) (tX3_chD (by omega) hL (by omega) hcg) ?_
      refine r_istore (pc' := 66) dX3_chooseFit_64 rfl rfl (.s1 (.s1 (.s1 (.s1 (.s1 (.s1 (.s1 .nil rfl rfl rfl) rfl rfl rfl) rfl rfl rfl) rfl rfl rfl) rfl rfl rfl) rfl rfl rfl) rfl rfl rfl) ?_
      refine r_aload_n (i := 0) (pc' := 67) dX3_chooseFit_66 rfl rfl (.head _) ?_
      refine r_getI (pc' := 70) dX3_chooseFit_67 rfl fX3_37 rfl (by first | assumption | rfl) (by omega) ?_
      refine r_if_eq (t := 85) (f := 73) dX3_chooseFit_70 (by decide) rfl (by first | omega | exact xv_in _ _ _ | exact nz_in _) (fun h70 => ?_) (fun h70 => ?_)
      · have hne : ¬ ((ch_fit X b L goal s).1 = true ∧ (ch_fit X b L goal s).2.1 ≤ ch_dead X b L cu) := by
          intro q
          have := hS.1; rw [q.1, if_pos rfl] at this; omega
        refine r_aload_n (i := 0) (pc' := 86) dX3_chooseFit_85 rfl rfl (.head _) ?_
        refine r_iload (pc' := 88) dX3_chooseFit_86 rfl (.tail _ (.tail _ (.tail _ (.tail _ (.tail _ (.head _)))))) ?_
        refine r_iconst (pc' := 89) dX3_chooseFit_88 rfl ?_
        refine r_V2p (ci := 3) (pc' := 92) dX3_chooseFit_89 rfl lX3_105 rfl (by decide) (Nat.le_of_ble_eq_true rfl) (by first | assumption | rfl) (by omega) (tX3_digits (d := 2) (by omega) zX1 (by omega) (by omega) (by omega)) ?_
        rw [hc2]
        refine r_istore (pc' := 94) dX3_chooseFit_92 rfl rfl (.s1 (.s1 (.s1 (.s1 (.s1 (.s1 (.s1 (.s1 .nil rfl rfl rfl) rfl rfl rfl) rfl rfl rfl) rfl rfl rfl) rfl rfl rfl) rfl rfl rfl) rfl rfl rfl) rfl rfl rfl) ?_
        refine r_aload_n (i := 0) (pc' := 95) dX3_chooseFit_94 rfl rfl (.head _) ?_
        refine r_aload_n (i := 2) (pc' := 96) dX3_chooseFit_95 rfl rfl (.tail _ (.tail _ (.head _))) ?_
        refine r_iload (pc' := 98) dX3_chooseFit_96 rfl (.tail _ (.tail _ (.tail _ (.tail _ (.tail _ (.tail _ (.head _))))))) ?_
        refine r_iload (pc' := 100) dX3_chooseFit_98 rfl (.tail _ (.tail _ (.tail _ (.tail _ (.tail _ (.tail _ (.tail _ (.tail _ (.head _))))))))) ?_
        refine r_V3gv (ci := 3) (pc' := 103) dX3_chooseFit_100 rfl lX3_109 rfl (by decide) (Nat.le_of_ble_eq_true rfl) (by first | assumption | rfl) (by omega) (tX3_arrange (r9 := xv X1 459) hb hO hap ht hch hL (by omega) (by omega) hG hT hTS hcg rfl) (fun n100 P100 X100 Y100 e100 le100 => ?_)
        obtain ⟨rfl, rfl, rfl, hTT2, hcg2, h92⟩ := e100
        have hO2 := bOk_ag (hTT2.1.ag hap) hO
        refine r_aload_n (i := 2) (pc' := 104) dX3_chooseFit_103 rfl rfl (.tail _ (.tail _ (.head _))) ?_
        refine r_aload_n (i := 1) (pc' := 105) dX3_chooseFit_104 rfl rfl (.tail _ (.head _)) ?_
        refine r_V1p (ci := 10) (pc' := 108) dX3_chooseFit_105 rfl lX3_101 rfl (by decide) (Nat.le_of_ble_eq_true rfl) (by first | assumption | rfl) (by omega) (tX10_room hb hO2 ht hTT2.2.1.1) ?_
        rw [hTT2.room hap]
        refine r_aload_n (i := 0) (pc' := 109) dX3_chooseFit_108 rfl rfl (.head _) ?_
        refine r_aload_n (i := 0) (pc' := 110) dX3_chooseFit_109 rfl rfl (.head _) ?_
        refine r_getR (pc' := 113) dX3_chooseFit_110 rfl fX3_13 rfl (by first | assumption | rfl) (by omega) (by assumption) ?_
        refine r_iload (pc' := 115) dX3_chooseFit_113 rfl (.tail _ (.tail _ (.tail _ (.tail _ (.tail _ (.tail _ (.head _))))))) ?_
        refine r_V2p (ci := 3) (pc' := 118) dX3_chooseFit_115 rfl lX3_81 rfl (by decide) (Nat.le_of_ble_eq_true rfl) (by first | assumption | rfl) (by omega) (tX3_chN (by omega) hL (by omega) hcg2) ?_
        refine r_isub (pc' := 119) dX3_chooseFit_118 rfl ?_
        rw [← zi_nz (bk_room X b (gS L cu) (gS L tu) - ch_now X b L cu)]
        refine r_iload_n (i := 3) (pc' := 120) dX3_chooseFit_119 rfl rfl (.tail _ (.tail _ (.tail _ (.head _)))) ?_
        refine r_icmp_lt (t := 146) (f := 123) dX3_chooseFit_120 (by decide) rfl (by first | omega | exact xv_in _ _ _ | exact nz_in _) (by first | omega | exact xv_in _ _ _ | exact nz_in _) (fun h120 => ?_) (fun h120 => ?_)
        · refine r_iinc (pc' := 149) dX3_chooseFit_146 rfl rfl (.tail _ (.tail _ (.tail _ (.tail _ (.tail _ (.head _)))))) (.s1 (.s1 (.s1 (.s1 (.s1 (.here (.s1 (.s1 (.s1 .nil rfl rfl rfl) rfl rfl rfl) rfl rfl rfl)) rfl rfl rfl) rfl rfl rfl) rfl rfl rfl) rfl rfl rfl) rfl rfl rfl) ?_
          refine r_goto (t := 38) dX3_chooseFit_149 (by decide) ?_
          refine r_sub (.kp (.kp (.kp (.kp (.kp (.kp (.dr (.dr (.dr .nil))))))))) ?_
          first
            | (have hfd : (ch_fit X b L goal s).1 = true := by
                 cases hh : (ch_fit X b L goal s).1 with
                 | true => rfl
                 | false => exfalso; have := hS.1; rw [hh, if_neg (by decide)] at this; omega
               have m1 := (hS.2 hfd).1
               refine ih X1 G T (by omega) hTS hG hT hcg ?_
               rw [if_pos ⟨hfd, by omega⟩]; exact hS)
            | (refine ih _ (gS L cu) (gS L tu) (by omega) hTT2.s (fun k hk => gS_out hk) (fun k hk => gS_out hk) hcg2 ?_
               rw [if_neg hne, if_neg (by omega)]
               unfold chF at hS ⊢
               rw [h92]; exact hS)
            | (refine ih _ (gS L cu) (gS L tu) (by omega) (hTT2.s.out ((((hTT2.1.up _ _ (by omega)).up _ _ (by omega)).up _ _ (by omega)).up _ _ (by omega)) (fun a a1 a2 => ?_)) (fun k hk => gS_out hk) (fun k hk => gS_out hk) (hcg2.out (by rw [xv_up_ne _ _ (by omega), xv_up_ne _ _ (by omega), xv_up_ne _ _ (by omega), xv_up_ne _ _ (by omega)]) (fun a a1 a2 => ?_)) ?_
               · rw [xv_up_row _ _ _ (by omega), xv_up_row _ _ _ (by omega), xv_up_row _ _ _ (by omega), xv_up_row _ _ _ (by omega)]
               · rw [xv_up_row _ _ _ (by omega), xv_up_row _ _ _ (by omega), xv_up_row _ _ _ (by omega), xv_up_row _ _ _ (by omega)]
               · rw [if_neg hne, if_pos (by omega)]
                 refine ⟨?_, fun _ => ⟨?_, ?_, ?_⟩⟩
                 · rw [xv_up_ne _ _ (by omega), xv_up_ne _ _ (by omega), xv_up_ne _ _ (by omega), xv_up_same _ _ _ (by omega), if_pos rfl]
                 · rw [xv_up_ne _ _ (by omega), xv_up_ne _ _ (by omega), xv_up_same _ _ _ (by omega)]
                 · rw [xv_up_ne _ _ (by omega), xv_up_same _ _ _ (by omega)]
                 · rw [xv_up_same _ _ _ (by omega)])
        · refine r_aload_n (i := 0) (pc' := 124) dX3_chooseFit_123 rfl rfl (.head _) ?_
          refine r_iconst (pc' := 125) dX3_chooseFit_124 rfl ?_
          refine r_putI (pc' := 128) dX3_chooseFit_125 rfl fX3_37 rfl (by first | assumption | rfl) (by omega) rfl rfl ?_
          refine r_aload_n (i := 0) (pc' := 129) dX3_chooseFit_128 rfl rfl (.head _) ?_
          refine r_iload (pc' := 131) dX3_chooseFit_129 rfl (.tail _ (.tail _ (.tail _ (.tail _ (.tail _ (.tail _ (.tail _ (.head _)))))))) ?_
          refine r_putI (pc' := 134) dX3_chooseFit_131 rfl fX3_85 rfl (by first | assumption | rfl) (by omega) rfl rfl ?_
          refine r_aload_n (i := 0) (pc' := 135) dX3_chooseFit_134 rfl rfl (.head _) ?_
          refine r_iload (pc' := 137) dX3_chooseFit_135 rfl (.tail _ (.tail _ (.tail _ (.tail _ (.tail _ (.tail _ (.head _))))))) ?_
          refine r_putI (pc' := 140) dX3_chooseFit_137 rfl fX3_94 rfl (by first | assumption | rfl) (by omega) rfl rfl ?_
          refine r_aload_n (i := 0) (pc' := 141) dX3_chooseFit_140 rfl rfl (.head _) ?_
          refine r_iload (pc' := 143) dX3_chooseFit_141 rfl (.tail _ (.tail _ (.tail _ (.tail _ (.tail _ (.tail _ (.tail _ (.tail _ (.head _))))))))) ?_
          refine r_putI (pc' := 146) dX3_chooseFit_143 rfl fX3_113 rfl (by first | assumption | rfl) (by omega) rfl rfl ?_
          refine r_iinc (pc' := 149) dX3_chooseFit_146 rfl rfl (.tail _ (.tail _ (.tail _ (.tail _ (.tail _ (.head _)))))) (.s1 (.s1 (.s1 (.s1 (.s1 (.here (.s1 (.s1 (.s1 .nil rfl rfl rfl) rfl rfl rfl) rfl rfl rfl)) rfl rfl rfl) rfl rfl rfl) rfl rfl rfl) rfl rfl rfl) rfl rfl rfl) ?_
          refine r_goto (t := 38) dX3_chooseFit_149 (by decide) ?_
          refine r_sub (.kp (.kp (.kp (.kp (.kp (.kp (.dr (.dr (.dr .nil))))))))) ?_
          first
            | (have hfd : (ch_fit X b L goal s).1 = true := by
                 cases hh : (ch_fit X b L goal s).1 with
                 | true => rfl
                 | false => exfalso; have := hS.1; rw [hh, if_neg (by decide)] at this; omega
               have m1 := (hS.2 hfd).1
               refine ih X1 G T (by omega) hTS hG hT hcg ?_
               rw [if_pos ⟨hfd, by omega⟩]; exact hS)
            | (refine ih _ (gS L cu) (gS L tu) (by omega) hTT2.s (fun k hk => gS_out hk) (fun k hk => gS_out hk) hcg2 ?_
               rw [if_neg hne, if_neg (by omega)]
               unfold chF at hS ⊢
               rw [h92]; exact hS)
            | (refine ih _ (gS L cu) (gS L tu) (by omega) (hTT2.s.out ((((hTT2.1.up _ _ (by omega)).up _ _ (by omega)).up _ _ (by omega)).up _ _ (by omega)) (fun a a1 a2 => ?_)) (fun k hk => gS_out hk) (fun k hk => gS_out hk) (hcg2.out (by rw [xv_up_ne _ _ (by omega), xv_up_ne _ _ (by omega), xv_up_ne _ _ (by omega), xv_up_ne _ _ (by omega)]) (fun a a1 a2 => ?_)) ?_
               · rw [xv_up_row _ _ _ (by omega), xv_up_row _ _ _ (by omega), xv_up_row _ _ _ (by omega), xv_up_row _ _ _ (by omega)]
               · rw [xv_up_row _ _ _ (by omega), xv_up_row _ _ _ (by omega), xv_up_row _ _ _ (by omega), xv_up_row _ _ _ (by omega)]
               · rw [if_neg hne, if_pos (by omega)]
                 refine ⟨?_, fun _ => ⟨?_, ?_, ?_⟩⟩
                 · rw [xv_up_ne _ _ (by omega), xv_up_ne _ _ (by omega), xv_up_ne _ _ (by omega), xv_up_same _ _ _ (by omega), if_pos rfl]
                 · rw [xv_up_ne _ _ (by omega), xv_up_ne _ _ (by omega), xv_up_same _ _ _ (by omega)]
                 · rw [xv_up_ne _ _ (by omega), xv_up_same _ _ _ (by omega)]
                 · rw [xv_up_same _ _ _ (by omega)])
      · refine r_iload (pc' := 75) dX3_chooseFit_73 rfl (.tail _ (.tail _ (.tail _ (.tail _ (.tail _ (.tail _ (.tail _ (.head _)))))))) ?_
        refine r_aload_n (i := 0) (pc' := 76) dX3_chooseFit_75 rfl rfl (.head _) ?_
        refine r_getI (pc' := 79) dX3_chooseFit_76 rfl fX3_85 rfl (by first | assumption | rfl) (by omega) ?_
        refine r_icmp_lt (t := 85) (f := 82) dX3_chooseFit_79 (by decide) rfl (by first | omega | exact xv_in _ _ _ | exact nz_in _) (by first | omega | exact xv_in _ _ _ | exact nz_in _) (fun h79 => ?_) (fun h79 => ?_)
        · have hne : ¬ ((ch_fit X b L goal s).1 = true ∧ (ch_fit X b L goal s).2.1 ≤ ch_dead X b L cu) := by
            intro q
            have := (hS.2 q.1).1; have := q.2; omega
          refine r_aload_n (i := 0) (pc' := 86) dX3_chooseFit_85 rfl rfl (.head _) ?_
          refine r_iload (pc' := 88) dX3_chooseFit_86 rfl (.tail _ (.tail _ (.tail _ (.tail _ (.tail _ (.head _)))))) ?_
          refine r_iconst (pc' := 89) dX3_chooseFit_88 rfl ?_
          refine r_V2p (ci := 3) (pc' := 92) dX3_chooseFit_89 rfl lX3_105 rfl (by decide) (Nat.le_of_ble_eq_true rfl) (by first | assumption | rfl) (by omega) (tX3_digits (d := 2) (by omega) zX1 (by omega) (by omega) (by omega)) ?_
          rw [hc2]
          refine r_istore (pc' := 94) dX3_chooseFit_92 rfl rfl (.s1 (.s1 (.s1 (.s1 (.s1 (.s1 (.s1 (.s1 .nil rfl rfl rfl) rfl rfl rfl) rfl rfl rfl) rfl rfl rfl) rfl rfl rfl) rfl rfl rfl) rfl rfl rfl) rfl rfl rfl) ?_
          refine r_aload_n (i := 0) (pc' := 95) dX3_chooseFit_94 rfl rfl (.head _) ?_
          refine r_aload_n (i := 2) (pc' := 96) dX3_chooseFit_95 rfl rfl (.tail _ (.tail _ (.head _))) ?_
          refine r_iload (pc' := 98) dX3_chooseFit_96 rfl (.tail _ (.tail _ (.tail _ (.tail _ (.tail _ (.tail _ (.head _))))))) ?_
          refine r_iload (pc' := 100) dX3_chooseFit_98 rfl (.tail _ (.tail _ (.tail _ (.tail _ (.tail _ (.tail _ (.tail _ (.tail _ (.head _))))))))) ?_
          refine r_V3gv (ci := 3) (pc' := 103) dX3_chooseFit_100 rfl lX3_109 rfl (by decide) (Nat.le_of_ble_eq_true rfl) (by first | assumption | rfl) (by omega) (tX3_arrange (r9 := xv X1 459) hb hO hap ht hch hL (by omega) (by omega) hG hT hTS hcg rfl) (fun n100 P100 X100 Y100 e100 le100 => ?_)
          obtain ⟨rfl, rfl, rfl, hTT2, hcg2, h92⟩ := e100
          have hO2 := bOk_ag (hTT2.1.ag hap) hO
          refine r_aload_n (i := 2) (pc' := 104) dX3_chooseFit_103 rfl rfl (.tail _ (.tail _ (.head _))) ?_
          refine r_aload_n (i := 1) (pc' := 105) dX3_chooseFit_104 rfl rfl (.tail _ (.head _)) ?_
          refine r_V1p (ci := 10) (pc' := 108) dX3_chooseFit_105 rfl lX3_101 rfl (by decide) (Nat.le_of_ble_eq_true rfl) (by first | assumption | rfl) (by omega) (tX10_room hb hO2 ht hTT2.2.1.1) ?_
          rw [hTT2.room hap]
          refine r_aload_n (i := 0) (pc' := 109) dX3_chooseFit_108 rfl rfl (.head _) ?_
          refine r_aload_n (i := 0) (pc' := 110) dX3_chooseFit_109 rfl rfl (.head _) ?_
          refine r_getR (pc' := 113) dX3_chooseFit_110 rfl fX3_13 rfl (by first | assumption | rfl) (by omega) (by assumption) ?_
          refine r_iload (pc' := 115) dX3_chooseFit_113 rfl (.tail _ (.tail _ (.tail _ (.tail _ (.tail _ (.tail _ (.head _))))))) ?_
          refine r_V2p (ci := 3) (pc' := 118) dX3_chooseFit_115 rfl lX3_81 rfl (by decide) (Nat.le_of_ble_eq_true rfl) (by first | assumption | rfl) (by omega) (tX3_chN (by omega) hL (by omega) hcg2) ?_
          refine r_isub (pc' := 119) dX3_chooseFit_118 rfl ?_
          rw [← zi_nz (bk_room X b (gS L cu) (gS L tu) - ch_now X b L cu)]
          refine r_iload_n (i := 3) (pc' := 120) dX3_chooseFit_119 rfl rfl (.tail _ (.tail _ (.tail _ (.head _)))) ?_
          refine r_icmp_lt (t := 146) (f := 123) dX3_chooseFit_120 (by decide) rfl (by first | omega | exact xv_in _ _ _ | exact nz_in _) (by first | omega | exact xv_in _ _ _ | exact nz_in _) (fun h120 => ?_) (fun h120 => ?_)
          · refine r_iinc (pc' := 149) dX3_chooseFit_146 rfl rfl (.tail _ (.tail _ (.tail _ (.tail _ (.tail _ (.head _)))))) (.s1 (.s1 (.s1 (.s1 (.s1 (.here (.s1 (.s1 (.s1 .nil rfl rfl rfl) rfl rfl rfl) rfl rfl rfl)) rfl rfl rfl) rfl rfl rfl) rfl rfl rfl) rfl rfl rfl) rfl rfl rfl) ?_
            refine r_goto (t := 38) dX3_chooseFit_149 (by decide) ?_
            refine r_sub (.kp (.kp (.kp (.kp (.kp (.kp (.dr (.dr (.dr .nil))))))))) ?_
            first
              | (have hfd : (ch_fit X b L goal s).1 = true := by
                   cases hh : (ch_fit X b L goal s).1 with
                   | true => rfl
                   | false => exfalso; have := hS.1; rw [hh, if_neg (by decide)] at this; omega
                 have m1 := (hS.2 hfd).1
                 refine ih X1 G T (by omega) hTS hG hT hcg ?_
                 rw [if_pos ⟨hfd, by omega⟩]; exact hS)
              | (refine ih _ (gS L cu) (gS L tu) (by omega) hTT2.s (fun k hk => gS_out hk) (fun k hk => gS_out hk) hcg2 ?_
                 rw [if_neg hne, if_neg (by omega)]
                 unfold chF at hS ⊢
                 rw [h92]; exact hS)
              | (refine ih _ (gS L cu) (gS L tu) (by omega) (hTT2.s.out ((((hTT2.1.up _ _ (by omega)).up _ _ (by omega)).up _ _ (by omega)).up _ _ (by omega)) (fun a a1 a2 => ?_)) (fun k hk => gS_out hk) (fun k hk => gS_out hk) (hcg2.out (by rw [xv_up_ne _ _ (by omega), xv_up_ne _ _ (by omega), xv_up_ne _ _ (by omega), xv_up_ne _ _ (by omega)]) (fun a a1 a2 => ?_)) ?_
                 · rw [xv_up_row _ _ _ (by omega), xv_up_row _ _ _ (by omega), xv_up_row _ _ _ (by omega), xv_up_row _ _ _ (by omega)]
                 · rw [xv_up_row _ _ _ (by omega), xv_up_row _ _ _ (by omega), xv_up_row _ _ _ (by omega), xv_up_row _ _ _ (by omega)]
                 · rw [if_neg hne, if_pos (by omega)]
                   refine ⟨?_, fun _ => ⟨?_, ?_, ?_⟩⟩
                   · rw [xv_up_ne _ _ (by omega), xv_up_ne _ _ (by omega), xv_up_ne _ _ (by omega), xv_up_same _ _ _ (by omega), if_pos rfl]
                   · rw [xv_up_ne _ _ (by omega), xv_up_ne _ _ (by omega), xv_up_same _ _ _ (by omega)]
                   · rw [xv_up_ne _ _ (by omega), xv_up_same _ _ _ (by omega)]
                   · rw [xv_up_same _ _ _ (by omega)])
          · refine r_aload_n (i := 0) (pc' := 124) dX3_chooseFit_123 rfl rfl (.head _) ?_
            refine r_iconst (pc' := 125) dX3_chooseFit_124 rfl ?_
            refine r_putI (pc' := 128) dX3_chooseFit_125 rfl fX3_37 rfl (by first | assumption | rfl) (by omega) rfl rfl ?_
            refine r_aload_n (i := 0) (pc' := 129) dX3_chooseFit_128 rfl rfl (.head _) ?_
            refine r_iload (pc' := 131) dX3_chooseFit_129 rfl (.tail _ (.tail _ (.tail _ (.tail _ (.tail _ (.tail _ (.tail _ (.head _)))))))) ?_
            refine r_putI (pc' := 134) dX3_chooseFit_131 rfl fX3_85 rfl (by first | assumption | rfl) (by omega) rfl rfl ?_
            refine r_aload_n (i := 0) (pc' := 135) dX3_chooseFit_134 rfl rfl (.head _) ?_
            refine r_iload (pc' := 137) dX3_chooseFit_135 rfl (.tail _ (.tail _ (.tail _ (.tail _ (.tail _ (.tail _ (.head _))))))) ?_
            refine r_putI (pc' := 140) dX3_chooseFit_137 rfl fX3_94 rfl (by first | assumption | rfl) (by omega) rfl rfl ?_
            refine r_aload_n (i := 0) (pc' := 141) dX3_chooseFit_140 rfl rfl (.head _) ?_
            refine r_iload (pc' := 143) dX3_chooseFit_141 rfl (.tail _ (.tail _ (.tail _ (.tail _ (.tail _ (.tail _ (.tail _ (.tail _ (.head _))))))))) ?_
            refine r_putI (pc' := 146) dX3_chooseFit_143 rfl fX3_113 rfl (by first | assumption | rfl) (by omega) rfl rfl ?_
            refine r_iinc (pc' := 149) dX3_chooseFit_146 rfl rfl (.tail _ (.tail _ (.tail _ (.tail _ (.tail _ (.head _)))))) (.s1 (.s1 (.s1 (.s1 (.s1 (.here (.s1 (.s1 (.s1 .nil rfl rfl rfl) rfl rfl rfl) rfl rfl rfl)) rfl rfl rfl) rfl rfl rfl) rfl rfl rfl) rfl rfl rfl) rfl rfl rfl) ?_
            refine r_goto (t := 38) dX3_chooseFit_149 (by decide) ?_
            refine r_sub (.kp (.kp (.kp (.kp (.kp (.kp (.dr (.dr (.dr .nil))))))))) ?_
            first
              | (have hfd : (ch_fit X b L goal s).1 = true := by
                   cases hh : (ch_fit X b L goal s).1 with
                   | true => rfl
                   | false => exfalso; have := hS.1; rw [hh, if_neg (by decide)] at this; omega
                 have m1 := (hS.2 hfd).1
                 refine ih X1 G T (by omega) hTS hG hT hcg ?_
                 rw [if_pos ⟨hfd, by omega⟩]; exact hS)
              | (refine ih _ (gS L cu) (gS L tu) (by omega) hTT2.s (fun k hk => gS_out hk) (fun k hk => gS_out hk) hcg2 ?_
                 rw [if_neg hne, if_neg (by omega)]
                 unfold chF at hS ⊢
                 rw [h92]; exact hS)
              | (refine ih _ (gS L cu) (gS L tu) (by omega) (hTT2.s.out ((((hTT2.1.up _ _ (by omega)).up _ _ (by omega)).up _ _ (by omega)).up _ _ (by omega)) (fun a a1 a2 => ?_)) (fun k hk => gS_out hk) (fun k hk => gS_out hk) (hcg2.out (by rw [xv_up_ne _ _ (by omega), xv_up_ne _ _ (by omega), xv_up_ne _ _ (by omega), xv_up_ne _ _ (by omega)]) (fun a a1 a2 => ?_)) ?_
                 · rw [xv_up_row _ _ _ (by omega), xv_up_row _ _ _ (by omega), xv_up_row _ _ _ (by omega), xv_up_row _ _ _ (by omega)]
                 · rw [xv_up_row _ _ _ (by omega), xv_up_row _ _ _ (by omega), xv_up_row _ _ _ (by omega), xv_up_row _ _ _ (by omega)]
                 · rw [if_neg hne, if_pos (by omega)]
                   refine ⟨?_, fun _ => ⟨?_, ?_, ?_⟩⟩
                   · rw [xv_up_ne _ _ (by omega), xv_up_ne _ _ (by omega), xv_up_ne _ _ (by omega), xv_up_same _ _ _ (by omega), if_pos rfl]
                   · rw [xv_up_ne _ _ (by omega), xv_up_ne _ _ (by omega), xv_up_same _ _ _ (by omega)]
                   · rw [xv_up_ne _ _ (by omega), xv_up_same _ _ _ (by omega)]
                   · rw [xv_up_same _ _ _ (by omega)])
        · refine r_goto (t := 146) dX3_chooseFit_82 (by decide) ?_
          refine r_iinc (pc' := 149) dX3_chooseFit_146 rfl rfl (.tail _ (.tail _ (.tail _ (.tail _ (.tail _ (.head _)))))) (.s1 (.s1 (.s1 (.s1 (.s1 (.here (.s1 (.s1 .nil rfl rfl rfl) rfl rfl rfl)) rfl rfl rfl) rfl rfl rfl) rfl rfl rfl) rfl rfl rfl) rfl rfl rfl) ?_
          refine r_goto (t := 38) dX3_chooseFit_149 (by decide) ?_
          refine r_sub (.kp (.kp (.kp (.kp (.kp (.kp (.dr (.dr .nil)))))))) ?_
          first
            | (have hfd : (ch_fit X b L goal s).1 = true := by
                 cases hh : (ch_fit X b L goal s).1 with
                 | true => rfl
                 | false => exfalso; have := hS.1; rw [hh, if_neg (by decide)] at this; omega
               have m1 := (hS.2 hfd).1
               refine ih X1 G T (by omega) hTS hG hT hcg ?_
               rw [if_pos ⟨hfd, by omega⟩]; exact hS)
            | (refine ih _ (gS L cu) (gS L tu) (by omega) hTT2.s (fun k hk => gS_out hk) (fun k hk => gS_out hk) hcg2 ?_
               rw [if_neg hne, if_neg (by omega)]
               unfold chF at hS ⊢
               rw [h92]; exact hS)
            | (refine ih _ (gS L cu) (gS L tu) (by omega) (hTT2.s.out ((((hTT2.1.up _ _ (by omega)).up _ _ (by omega)).up _ _ (by omega)).up _ _ (by omega)) (fun a a1 a2 => ?_)) (fun k hk => gS_out hk) (fun k hk => gS_out hk) (hcg2.out (by rw [xv_up_ne _ _ (by omega), xv_up_ne _ _ (by omega), xv_up_ne _ _ (by omega), xv_up_ne _ _ (by omega)]) (fun a a1 a2 => ?_)) ?_
               · rw [xv_up_row _ _ _ (by omega), xv_up_row _ _ _ (by omega), xv_up_row _ _ _ (by omega), xv_up_row _ _ _ (by omega)]
               · rw [xv_up_row _ _ _ (by omega), xv_up_row _ _ _ (by omega), xv_up_row _ _ _ (by omega), xv_up_row _ _ _ (by omega)]
               · rw [if_neg hne, if_pos (by omega)]
                 refine ⟨?_, fun _ => ⟨?_, ?_, ?_⟩⟩
                 · rw [xv_up_ne _ _ (by omega), xv_up_ne _ _ (by omega), xv_up_ne _ _ (by omega), xv_up_same _ _ _ (by omega), if_pos rfl]
                 · rw [xv_up_ne _ _ (by omega), xv_up_ne _ _ (by omega), xv_up_same _ _ _ (by omega)]
                 · rw [xv_up_ne _ _ (by omega), xv_up_same _ _ _ (by omega)]
                 · rw [xv_up_same _ _ _ (by omega)])
set_option maxHeartbeats 4000000 in
set_option maxRecDepth 100000 in
theorem l0X3_chooseFit {l : Launch} {g : q_G} {n : Nat} {P : q_P} {X : q_X} {Y : q_Y} {K : q_K} {b z : Nat} {goal : Int} (hn9 : 481 ≤ n) (hz : xv X 459 7 = (z : Int)) (hz6 : z ≤ 6) (kk : q_Tr l g mX3_chooseFit 5 K 38 [(0, .ref (g.1 + 459)), (1, .ref (g.1 + b)), (2, .ref (g.1 + 453)), (3, .int (zi goal)), (4, .int (zi ((3 ^ z : Nat) : Int))), (5, .int (zi 0))] [] n P X Y) : ∀ (w i : Nat), i + w = z → q_Tr l g mX3_chooseFit 5 K 14 [(0, .ref (g.1 + 459)), (1, .ref (g.1 + b)), (2, .ref (g.1 + 453)), (3, .int (zi goal)), (4, .int (zi ((3 ^ i : Nat) : Int))), (5, .int (zi (i : Int)))] [] n P X Y := by
  intro w
  induction w with
  | zero =>
    intro i hi
    obtain rfl : i = z := by omega
    refine r_iload (pc' := 16) dX3_chooseFit_14 rfl (.tail _ (.tail _ (.tail _ (.tail _ (.tail _ (.head _)))))) ?_
    refine r_aload_n (i := 0) (pc' := 17) dX3_chooseFit_16 rfl rfl (.head _) ?_
    refine r_getI (pc' := 20) dX3_chooseFit_17 rfl fX3_41 rfl (by first | assumption | rfl) (by omega) ?_
    rw [hz]
    refine r_icmp_ge (t := 35) (f := 23) dX3_chooseFit_20 (by decide) rfl (by first | omega | exact xv_in _ _ _) (by first | omega | exact xv_in _ _ _) (fun h20 => ?_) (fun h20 => ?_)
    · refine r_iconst (pc' := 36) dX3_chooseFit_35 rfl ?_
      refine r_istore (pc' := 38) dX3_chooseFit_36 rfl rfl (.s1 (.s1 (.s1 (.s1 (.s1 (.here .nil) rfl rfl rfl) rfl rfl rfl) rfl rfl rfl) rfl rfl rfl) rfl rfl rfl) ?_
      exact kk
    · exfalso; omega
  | succ w ih =>
    intro i hi
    have ih := ih (i + 1) (by omega)
    rw [Nat.pow_succ] at ih
    refine r_iload (pc' := 16) dX3_chooseFit_14 rfl (.tail _ (.tail _ (.tail _ (.tail _ (.tail _ (.head _)))))) ?_
    refine r_aload_n (i := 0) (pc' := 17) dX3_chooseFit_16 rfl rfl (.head _) ?_
    refine r_getI (pc' := 20) dX3_chooseFit_17 rfl fX3_41 rfl (by first | assumption | rfl) (by omega) ?_
    rw [hz]
    refine r_icmp_ge (t := 35) (f := 23) dX3_chooseFit_20 (by decide) rfl (by first | omega | exact xv_in _ _ _) (by first | omega | exact xv_in _ _ _) (fun h20 => ?_) (fun h20 => ?_)
    · exfalso; omega
    · refine r_iload (pc' := 25) dX3_chooseFit_23 rfl (.tail _ (.tail _ (.tail _ (.tail _ (.head _))))) ?_
      refine r_iconst (pc' := 26) dX3_chooseFit_25 rfl ?_
      refine r_imul (pc' := 27) dX3_chooseFit_26 rfl ?_
      refine r_istore (pc' := 29) dX3_chooseFit_27 rfl rfl (.s1 (.s1 (.s1 (.s1 (.here (.s1 .nil rfl rfl rfl)) rfl rfl rfl) rfl rfl rfl) rfl rfl rfl) rfl rfl rfl) ?_
      refine r_iinc (pc' := 32) dX3_chooseFit_29 rfl rfl (.tail _ (.tail _ (.tail _ (.tail _ (.tail _ (.head _)))))) (.s1 (.s1 (.s1 (.s1 (.s1 (.here .nil) rfl rfl rfl) rfl rfl rfl) rfl rfl rfl) rfl rfl rfl) rfl rfl rfl) ?_
      refine r_goto (t := 14) dX3_chooseFit_32 (by decide) ?_
      exact ih
set_option maxHeartbeats 4000000 in
set_option maxRecDepth 100000 in
theorem tX3_chooseFit {l : Launch} {g : q_G} {n : Nat} {P : q_P} {X : q_X} {Y : q_Y} {b : Nat} (hb : isBk n P b) (hO : bOk X b) (hap : bApart b) (ht : isTal n P) (hch : isCho n P) {goal : Int} (hgo : q_in goal) : q_Met l g mX3_chooseFit 5 [.ref (g.1 + 459), .ref (g.1 + b), .ref (g.1 + 453), .int (zi goal)] n P X Y (q_gv (fun n' P' X' Y' => n' = n ∧ P' = P ∧ Y' = Y ∧ tOut X X' ∧ chF X' (ch_fit X b (whoA X b 6) goal (3 ^ (whoA X b 6).length)))) := by
  obtain ⟨b0, b1, b2, b3, q7, q8, q9, q11, q12, q13, hn, hpro, hmar, hfor, hcs⟩ := id hb
  obtain ⟨o0, o1, o2, o3, o4, o5, o6, o10, oc, op0, opz, opi, om0, omi, olim⟩ := id hO
  obtain ⟨t0, t1, t2, t3, t4, hnt⟩ := id ht
  obtain ⟨v0, v1, v2, v3, v4, v5, v6, hnh⟩ := id hch
  refine q_enter (L := [(0, .ref (g.1 + 459)), (1, .ref (g.1 + b)), (2, .ref (g.1 + 453)), (3, .int (zi goal))]) (by decide) (Nat.le_of_ble_eq_true rfl) rfl ?_
  refine r_aload_n (i := 0) (pc' := 1) dX3_chooseFit_0 rfl rfl (.head _) ?_
  refine r_aload_n (i := 1) (pc' := 2) dX3_chooseFit_1 rfl rfl (.tail _ (.head _)) ?_
  refine r_aload_n (i := 2) (pc' := 3) dX3_chooseFit_2 rfl rfl (.tail _ (.tail _ (.head _))) ?_
  refine r_bipush (pc' := 5) dX3_chooseFit_3 rfl (by decide) ?_
  refine r_V3gv (ci := 3) (pc' := 8) dX3_chooseFit_5 rfl lX3_77 rfl (by decide) (Nat.le_of_ble_eq_true rfl) (by first | assumption | rfl) (by omega) (tX3_gather (m := 6) hb hO hap ht hch (by omega)) (fun n5 P5 X5 Y5 e5 le5 => ?_)
  obtain ⟨rfl, rfl, rfl, hTT, hcg, h8⟩ := e5
  refine r_iconst (pc' := 9) dX3_chooseFit_8 rfl ?_
  refine r_istore (pc' := 11) dX3_chooseFit_9 rfl rfl (.s1 (.s1 (.s1 (.s1 .nil rfl rfl rfl) rfl rfl rfl) rfl rfl rfl) rfl rfl rfl) ?_
  refine r_iconst (pc' := 12) dX3_chooseFit_11 rfl ?_
  refine r_istore (pc' := 14) dX3_chooseFit_12 rfl rfl (.s1 (.s1 (.s1 (.s1 (.s1 .nil rfl rfl rfl) rfl rfl rfl) rfl rfl rfl) rfl rfl rfl) rfl rfl rfl) ?_
  have hl6 := (whoL_len X b 6 (xv X b 10).toNat).1
  refine l0X3_chooseFit (by omega) hcg.1 hl6 ?_ _ 0 (Nat.zero_add _)
  exact lX3_chooseFit hb hO hap ht hch (LOk_who (by omega)) hl6 hgo rfl _ 0 _ g0 g0 (Nat.zero_add _) hTT.s (fun k _ => rfl) (fun k _ => rfl) hcg ⟨by rw [h8]; rfl, fun q => by cases q⟩
theorem of_hit_b {X : q_X} {b i : Nat} (hO : bOk X b) (hi : (i : Int) < xv X (b + 10) 0) : 0 ≤ of_hit X b i ∧ of_hit X b i ≤ 199998 := by
  obtain ⟨o0, o1, o2, o3, o4, o5, o6, o10, oc, op0, opz, opi, om0, omi, olim⟩ := id hO
  have h := omi i hi
  have := c_piece_b (a := xv X (b + 13) i) (ov := xv X (b + 12) i) (i := 0) h.2.2.2.2.1
  unfold of_hit; omega
set_option maxHeartbeats 4000000 in
set_option maxRecDepth 100000 in
theorem l0X3_chooseOffers {l : Launch} {g : q_G} {n : Nat} {P : q_P} {X : q_X} {Y : q_Y} {b : Nat} (hb : isBk n P b) (hO : bOk X b) (hap : bApart b) (ht : isTal n P) (hch : isCho n P) {K : q_K} {m : Nat} {room : Int} {r9 : Nat → Int} (hm : (m : Int) = min 10 (xv X (b + 10) 0)) (kk : ∀ X2, tOut X X2 → xv X2 459 = r9 → (∀ i, i < m → xv X2 463 i = of_hit X b i) → q_Tr l g mX3_chooseOffers 3 K 57 [(0, .ref (g.1 + 459)), (1, .ref (g.1 + (b + 10))), (2, .int (zi room)), (3, .int (zi 1))] [] n P X2 Y) : ∀ (w i : Nat) (X1 : q_X), i + w = m → tOut X X1 → xv X1 459 = r9 → r9 7 = m → (∀ j, j < i → xv X1 463 j = of_hit X b j) → q_Tr l g mX3_chooseOffers 3 K 30 [(0, .ref (g.1 + 459)), (1, .ref (g.1 + (b + 10))), (2, .int (zi room)), (3, .int (zi (i : Int)))] [] n P X1 Y := by
  obtain ⟨b0, b1, b2, b3, q7, q8, q9, q11, q12, q13, hn, hpro, hmar, hfor, hcs⟩ := id hb
  obtain ⟨o0, o1, o2, o3, o4, o5, o6, o10, oc, op0, opz, opi, om0, omi, olim⟩ := id hO
  obtain ⟨t0, t1, t2, t3, t4, hnt⟩ := id ht
  obtain ⟨v0, v1, v2, v3, v4, v5, v6, hnh⟩ := id hch
  obtain ⟨a0, a1, a2, a3, a4, u1, u2, u3, u4, hnm⟩ := isBk.mar hmar
  intro w
  induction w with
  | zero =>
    intro i X1 hi ho hq9 h7 hh
    obtain rfl : i = m := by omega
    refine r_iload_n (i := 3) (pc' := 31) dX3_chooseOffers_30 rfl rfl (.tail _ (.tail _ (.tail _ (.head _)))) ?_
    refine r_aload_n (i := 0) (pc' := 32) dX3_chooseOffers_31 rfl rfl (.head _) ?_
    refine r_getI (pc' := 35) dX3_chooseOffers_32 rfl fX3_41 rfl (by first | assumption | rfl) (by omega) ?_
    rw [hq9, h7]
    refine r_icmp_ge (t := 55) (f := 38) dX3_chooseOffers_35 (by decide) rfl (by first | omega | exact xv_in _ _ _) (by first | omega | exact xv_in _ _ _) (fun h35 => ?_) (fun h35 => ?_)
    · refine r_iconst (pc' := 56) dX3_chooseOffers_55 rfl ?_
      refine r_istore_n (i := 3) (pc' := 57) dX3_chooseOffers_56 rfl rfl rfl (.s1 (.s1 (.s1 (.here .nil) rfl rfl rfl) rfl rfl rfl) rfl rfl rfl) ?_
      exact kk X1 ho hq9 hh
    · exfalso; omega
  | succ w ih =>
    intro i X1 hi ho hq9 h7 hh
    have hob := of_hit_b hO (i := i) (by omega)
    have e1 := ho.b hap 13 (by omega)
    have e2 := ho.b hap 12 (by omega)
    have e3 := ho.b hap 14 (by omega)
    refine r_iload_n (i := 3) (pc' := 31) dX3_chooseOffers_30 rfl rfl (.tail _ (.tail _ (.tail _ (.head _)))) ?_
    refine r_aload_n (i := 0) (pc' := 32) dX3_chooseOffers_31 rfl rfl (.head _) ?_
    refine r_getI (pc' := 35) dX3_chooseOffers_32 rfl fX3_41 rfl (by first | assumption | rfl) (by omega) ?_
    rw [hq9, h7]
    refine r_icmp_ge (t := 55) (f := 38) dX3_chooseOffers_35 (by decide) rfl (by first | omega | exact xv_in _ _ _) (by first | omega | exact xv_in _ _ _) (fun h35 => ?_) (fun h35 => ?_)
    · exfalso; omega
    · refine r_aload_n (i := 0) (pc' := 39) dX3_chooseOffers_38 rfl rfl (.head _) ?_
      refine r_getR (pc' := 42) dX3_chooseOffers_39 rfl fX3_19 rfl (by first | assumption | rfl) (by omega) (by assumption) ?_
      refine r_iload_n (i := 3) (pc' := 43) dX3_chooseOffers_42 rfl rfl (.tail _ (.tail _ (.tail _ (.head _)))) ?_
      refine r_aload_n (i := 1) (pc' := 44) dX3_chooseOffers_43 rfl rfl (.tail _ (.head _)) ?_
      refine r_iload_n (i := 3) (pc' := 45) dX3_chooseOffers_44 rfl rfl (.tail _ (.tail _ (.tail _ (.head _)))) ?_
      refine r_V1p (ci := 7) (pc' := 48) dX3_chooseOffers_45 rfl lX3_134 rfl (by decide) (Nat.le_of_ble_eq_true rfl) (by first | assumption | rfl) (by omega) (tB_mhit hmar (by omega)) ?_
      rw [e1, e2, e3, ← of_hit]
      refine r_iastore (pc' := 49) dX3_chooseOffers_48 rfl (by first | assumption | rfl) (by omega) (by omega) (by omega) (by first | decide | omega) (Int.toNat_natCast _) ?_
      refine r_iinc (pc' := 52) dX3_chooseOffers_49 rfl rfl (.tail _ (.tail _ (.tail _ (.head _)))) (.s1 (.s1 (.s1 (.here .nil) rfl rfl rfl) rfl rfl rfl) rfl rfl rfl) ?_
      refine r_goto (t := 30) dX3_chooseOffers_52 (by decide) ?_
      refine ih (i + 1) _ (by omega) (ho.up _ _ (by omega)) ((xv_up_row _ _ _ (by omega)).trans hq9) h7 (fun j hj => ?_)
      by_cases e : j = i
      · subst e; rw [xv_up_same _ _ _ (by omega)]
      · rw [xv_up_ne _ _ (by omega)]; exact hh j (by omega)
set_option maxHeartbeats 4000000 in
set_option maxRecDepth 100000 in
theorem lX3_chooseOffers {l : Launch} {g : q_G} {n : Nat} {P : q_P} {X : q_X} {Y : q_Y} {b : Nat} (hb : isBk n P b) (hO : bOk X b) (hap : bApart b) (ht : isTal n P) (hch : isCho n P) {m : Nat} {room : Int} (hm : (m : Int) = min 10 (xv X (b + 10) 0)) (hro : q_in room) : ∀ (w s : Nat) (X1 : q_X), s + 1 + w = 2 ^ m → tOut X X1 → xv X1 459 7 = m → (∀ i, i < m → xv X1 463 i = of_hit X b i) → xv X1 459 10 = (ch_off X b m room s).1 ∧ xv X1 459 11 = ((ch_off X b m room s).2.1 : Int) ∧ xv X1 459 9 = (ch_off X b m room s).2.2 → q_Tr l g mX3_chooseOffers 3 (q_gv (fun n' P' X' Y' => n' = n ∧ P' = P ∧ Y' = Y ∧ tOut X X' ∧ xv X' 459 10 = (ch_off X b m room (2 ^ m - 1)).1 ∧ xv X' 459 11 = ((ch_off X b m room (2 ^ m - 1)).2.1 : Int) ∧ xv X' 459 9 = (ch_off X b m room (2 ^ m - 1)).2.2)) 57 [(0, .ref (g.1 + 459)), (1, .ref (g.1 + (b + 10))), (2, .int (zi room)), (3, .int (zi ((s + 1 : Nat) : Int)))] [] n P X1 Y := by
  obtain ⟨b0, b1, b2, b3, q7, q8, q9, q11, q12, q13, hn, hpro, hmar, hfor, hcs⟩ := id hb
  obtain ⟨o0, o1, o2, o3, o4, o5, o6, o10, oc, op0, opz, opi, om0, omi, olim⟩ := id hO
  obtain ⟨t0, t1, t2, t3, t4, hnt⟩ := id ht
  obtain ⟨v0, v1, v2, v3, v4, v5, v6, hnh⟩ := id hch
  obtain ⟨a0, a1, a2, a3, a4, u1, u2, u3, u4, hnm⟩ := isBk.mar hmar
  have hZ : 2 ^ m ≤ 1024 := Nat.pow_le_pow_right (n := 2) (by omega) (show m ≤ 10 by omega)
  have hpw : (2 : Int) ^ m = ((2 ^ m : Nat) : Int) := by rw [Int.natCast_pow]; rfl
  generalize hZe : 2 ^ m = Z at *
  intro w
  induction w with
  | zero =>
    intro s X1 hi ho h7 hh hS
    refine r_iload_n (i := 3) (pc' := 58) dX3_chooseOffers_57 rfl rfl (.tail _ (.tail _ (.tail _ (.head _)))) ?_
    refine r_iconst (pc' := 59) dX3_chooseOffers_58 rfl ?_
    refine r_aload_n (i := 0) (pc' := 60) dX3_chooseOffers_59 rfl rfl (.head _) ?_
    refine r_getI (pc' := 63) dX3_chooseOffers_60 rfl fX3_41 rfl (by first | assumption | rfl) (by omega) ?_
    rw [h7]
    refine r_ishl (pc' := 64) dX3_chooseOffers_63 rfl (zi_shl1 m (by omega)) ?_
    rw [hpw]
    refine r_icmp_ge (t := 162) (f := 67) dX3_chooseOffers_64 (by decide) rfl (by first | omega | exact xv_in _ _ _) (by first | omega | exact xv_in _ _ _) (fun h64 => ?_) (fun h64 => ?_)
    · refine r_return dX3_chooseOffers_162 rfl ?_
      exact ⟨rfl, rfl, rfl, rfl, ho, by rw [show Z - 1 = s by omega]; exact hS⟩
    · exfalso; omega
  | succ w ih =>
    intro s X1 hi ho h7 hh hS
    have ih := fun X2 => ih (s + 1) X2 (by omega)
    have hw := p_sumS_b (f := xv X (b + 11)) (s := s + 1) (m := m) (B := 9999) (fun i hi => by have := omi i (by omega); omega)
    have hp := p_sumS_b (f := of_hit X b) (s := s + 1) (m := m) (B := 199998) (fun i hi => of_hit_b hO (by omega))
    have e11 := ho.b hap 11 (by omega)
    have hps := b_bc_pop (s + 1) (by omega)
    have hob := ch_off_b X b m room s
    have hbp : b_bc (xv X1 459 11) = p_pop (ch_off X b m room s).2.1 := by rw [hS.2.1]; exact b_bc_pop _ (by omega)
    rw [ch_off] at ih
    generalize hS1 : p_sumS (xv X (b + 11)) (s + 1) m = mu at *
    generalize hS2 : p_sumS (of_hit X b) (s + 1) m = pr at *
    have b1 := p_pop_b (s + 1)
    have b2 := p_pop_b (ch_off X b m room s).2.1
    refine r_iload_n (i := 3) (pc' := 58) dX3_chooseOffers_57 rfl rfl (.tail _ (.tail _ (.tail _ (.head _)))) ?_
    refine r_iconst (pc' := 59) dX3_chooseOffers_58 rfl ?_
    refine r_aload_n (i := 0) (pc' := 60) dX3_chooseOffers_59 rfl rfl (.head _) ?_
    refine r_getI (pc' := 63) dX3_chooseOffers_60 rfl fX3_41 rfl (by first | assumption | rfl) (by omega) ?_
    rw [h7]
    refine r_ishl (pc' := 64) dX3_chooseOffers_63 rfl (zi_shl1 m (by omega)) ?_
    rw [hpw]
    refine r_icmp_ge (t := 162) (f := 67) dX3_chooseOffers_64 (by decide) rfl (by first | omega | exact xv_in _ _ _ | exact b_bc_in _) (by first | omega | exact xv_in _ _ _ | exact b_bc_in _) (fun h64 => ?_) (fun h64 => ?_)
    · exfalso; omega
    · refine r_aload_n (i := 0) (pc' := 68) dX3_chooseOffers_67 rfl rfl (.head _) ?_
      refine r_aload_n (i := 1) (pc' := 69) dX3_chooseOffers_68 rfl rfl (.tail _ (.head _)) ?_
      refine r_getR (pc' := 72) dX3_chooseOffers_69 rfl fX3_136 rfl (by first | assumption | rfl) (by omega) (by assumption) ?_
      refine r_iload_n (i := 3) (pc' := 73) dX3_chooseOffers_72 rfl rfl (.tail _ (.tail _ (.tail _ (.head _)))) ?_
      refine r_V2p (ci := 3) (pc' := 76) dX3_chooseOffers_73 rfl lX3_81 rfl (by decide) (Nat.le_of_ble_eq_true rfl) (by first | assumption | rfl) (by omega) (tX3_sum (N := 12) a1 (by omega) (by omega) (by omega) h7 (by omega) (by omega) (fun i hi => by rw [e11])) ?_
      rw [hS1]
      refine r_istore (pc' := 78) dX3_chooseOffers_76 rfl rfl (.s1 (.s1 (.s1 (.s1 .nil rfl rfl rfl) rfl rfl rfl) rfl rfl rfl) rfl rfl rfl) ?_
      refine r_iload_n (i := 3) (pc' := 79) dX3_chooseOffers_78 rfl rfl (.tail _ (.tail _ (.tail _ (.head _)))) ?_
      refine r_S1p (pc' := 82) dX3_chooseOffers_79 rfl lX3_88 (by decide) (Nat.le_of_ble_eq_true rfl) (tJ6_bitCount_0f7a4) ?_
      refine r_aload_n (i := 0) (pc' := 83) dX3_chooseOffers_82 rfl rfl (.head _) ?_
      refine r_getI (pc' := 86) dX3_chooseOffers_83 rfl fX3_94 rfl (by first | assumption | rfl) (by omega) ?_
      skip
      refine r_S1p (pc' := 89) dX3_chooseOffers_86 rfl lX3_88 (by decide) (Nat.le_of_ble_eq_true rfl) (tJ6_bitCount_0f7a4) ?_
      refine r_icmp_ge (t := 96) (f := 92) dX3_chooseOffers_89 (by decide) rfl (by first | omega | exact xv_in _ _ _ | exact b_bc_in _) (by first | omega | exact xv_in _ _ _ | exact b_bc_in _) (fun h89 => ?_) (fun h89 => ?_)
      · refine r_iconst (pc' := 97) dX3_chooseOffers_96 rfl ?_
        refine r_istore (pc' := 99) dX3_chooseOffers_97 rfl rfl (.s1 (.s1 (.s1 (.s1 (.s1 .nil rfl rfl rfl) rfl rfl rfl) rfl rfl rfl) rfl rfl rfl) rfl rfl rfl) ?_
        refine r_aload_n (i := 0) (pc' := 100) dX3_chooseOffers_99 rfl rfl (.head _) ?_
        refine r_aload_n (i := 0) (pc' := 101) dX3_chooseOffers_100 rfl rfl (.head _) ?_
        refine r_getR (pc' := 104) dX3_chooseOffers_101 rfl fX3_19 rfl (by first | assumption | rfl) (by omega) (by assumption) ?_
        refine r_iload_n (i := 3) (pc' := 105) dX3_chooseOffers_104 rfl rfl (.tail _ (.tail _ (.tail _ (.head _)))) ?_
        refine r_V2p (ci := 3) (pc' := 108) dX3_chooseOffers_105 rfl lX3_81 rfl (by decide) (Nat.le_of_ble_eq_true rfl) (by first | assumption | rfl) (by omega) (tX3_sum (N := 10) rfl (by omega) (by omega) (by omega) h7 (by omega) (by omega) hh) ?_
        rw [hS2]
        refine r_istore (pc' := 110) dX3_chooseOffers_108 rfl rfl (.s1 (.s1 (.s1 (.s1 (.s1 (.s1 .nil rfl rfl rfl) rfl rfl rfl) rfl rfl rfl) rfl rfl rfl) rfl rfl rfl) rfl rfl rfl) ?_
        refine r_iload (pc' := 112) dX3_chooseOffers_110 rfl (.tail _ (.tail _ (.tail _ (.tail _ (.tail _ (.tail _ (.head _))))))) ?_
        refine r_iload_n (i := 2) (pc' := 113) dX3_chooseOffers_112 rfl rfl (.tail _ (.tail _ (.head _))) ?_
        refine r_icmp_gt (t := 156) (f := 116) dX3_chooseOffers_113 (by decide) rfl (by first | omega | exact xv_in _ _ _ | exact b_bc_in _) (by first | omega | exact xv_in _ _ _ | exact b_bc_in _) (fun h113 => ?_) (fun h113 => ?_)
        · refine r_iinc (pc' := 159) dX3_chooseOffers_156 rfl rfl (.tail _ (.tail _ (.tail _ (.head _)))) (.s1 (.s1 (.s1 (.here (.s1 (.s1 (.s1 .nil rfl rfl rfl) rfl rfl rfl) rfl rfl rfl)) rfl rfl rfl) rfl rfl rfl) rfl rfl rfl) ?_
          refine r_goto (t := 57) dX3_chooseOffers_159 (by decide) ?_
          refine r_sub (.kp (.kp (.kp (.kp (.dr (.dr (.dr .nil))))))) ?_
          first
            | (refine ih X1 ho h7 hh ?_
               rw [if_neg (by omega)]; exact hS)
            | (refine ih _ (((ho.up _ _ (by omega)).up _ _ (by omega)).up _ _ (by omega)) (by rw [xv_up_ne _ _ (by omega), xv_up_ne _ _ (by omega), xv_up_ne _ _ (by omega)]; exact h7) (fun i hi => by rw [xv_up_ne _ _ (by omega), xv_up_ne _ _ (by omega), xv_up_ne _ _ (by omega)]; exact hh i hi) ?_
               rw [if_pos (by omega)]
               refine ⟨?_, ?_, ?_⟩
               · rw [xv_up_ne _ _ (by omega), xv_up_ne _ _ (by omega), xv_up_same _ _ _ (by omega)]
               · rw [xv_up_ne _ _ (by omega), xv_up_same _ _ _ (by omega)]
               · rw [xv_up_same _ _ _ (by omega)])
        · refine r_iload (pc' := 118) dX3_chooseOffers_116 rfl (.tail _ (.tail _ (.tail _ (.tail _ (.head _))))) ?_
          refine r_aload_n (i := 0) (pc' := 119) dX3_chooseOffers_118 rfl rfl (.head _) ?_
          refine r_getI (pc' := 122) dX3_chooseOffers_119 rfl fX3_123 rfl (by first | assumption | rfl) (by omega) ?_
          refine r_icmp_gt (t := 139) (f := 125) dX3_chooseOffers_122 (by decide) rfl (by first | omega | exact xv_in _ _ _ | exact b_bc_in _) (by first | omega | exact xv_in _ _ _ | exact b_bc_in _) (fun h122 => ?_) (fun h122 => ?_)
          · refine r_aload_n (i := 0) (pc' := 140) dX3_chooseOffers_139 rfl rfl (.head _) ?_
            refine r_iload (pc' := 142) dX3_chooseOffers_140 rfl (.tail _ (.tail _ (.tail _ (.tail _ (.head _))))) ?_
            refine r_putI (pc' := 145) dX3_chooseOffers_142 rfl fX3_123 rfl (by first | assumption | rfl) (by omega) rfl rfl ?_
            refine r_aload_n (i := 0) (pc' := 146) dX3_chooseOffers_145 rfl rfl (.head _) ?_
            refine r_iload_n (i := 3) (pc' := 147) dX3_chooseOffers_146 rfl rfl (.tail _ (.tail _ (.tail _ (.head _)))) ?_
            refine r_putI (pc' := 150) dX3_chooseOffers_147 rfl fX3_94 rfl (by first | assumption | rfl) (by omega) rfl rfl ?_
            refine r_aload_n (i := 0) (pc' := 151) dX3_chooseOffers_150 rfl rfl (.head _) ?_
            refine r_iload (pc' := 153) dX3_chooseOffers_151 rfl (.tail _ (.tail _ (.tail _ (.tail _ (.tail _ (.tail _ (.head _))))))) ?_
            refine r_putI (pc' := 156) dX3_chooseOffers_153 rfl fX3_85 rfl (by first | assumption | rfl) (by omega) rfl rfl ?_
            refine r_iinc (pc' := 159) dX3_chooseOffers_156 rfl rfl (.tail _ (.tail _ (.tail _ (.head _)))) (.s1 (.s1 (.s1 (.here (.s1 (.s1 (.s1 .nil rfl rfl rfl) rfl rfl rfl) rfl rfl rfl)) rfl rfl rfl) rfl rfl rfl) rfl rfl rfl) ?_
            refine r_goto (t := 57) dX3_chooseOffers_159 (by decide) ?_
            refine r_sub (.kp (.kp (.kp (.kp (.dr (.dr (.dr .nil))))))) ?_
            first
              | (refine ih X1 ho h7 hh ?_
                 rw [if_neg (by omega)]; exact hS)
              | (refine ih _ (((ho.up _ _ (by omega)).up _ _ (by omega)).up _ _ (by omega)) (by rw [xv_up_ne _ _ (by omega), xv_up_ne _ _ (by omega), xv_up_ne _ _ (by omega)]; exact h7) (fun i hi => by rw [xv_up_ne _ _ (by omega), xv_up_ne _ _ (by omega), xv_up_ne _ _ (by omega)]; exact hh i hi) ?_
                 rw [if_pos (by omega)]
                 refine ⟨?_, ?_, ?_⟩
                 · rw [xv_up_ne _ _ (by omega), xv_up_ne _ _ (by omega), xv_up_same _ _ _ (by omega)]
                 · rw [xv_up_ne _ _ (by omega), xv_up_same _ _ _ (by omega)]
                 · rw [xv_up_same _ _ _ (by omega)])
          · refine r_iload (pc' := 127) dX3_chooseOffers_125 rfl (.tail _ (.tail _ (.tail _ (.tail _ (.head _))))) ?_
            refine r_aload_n (i := 0) (pc' := 128) dX3_chooseOffers_127 rfl rfl (.head _) ?_
            refine r_getI (pc' := 131) dX3_chooseOffers_128 rfl fX3_123 rfl (by first | assumption | rfl) (by omega) ?_
            refine r_icmp_ne (t := 156) (f := 134) dX3_chooseOffers_131 (by decide) rfl (by first | omega | exact xv_in _ _ _ | exact b_bc_in _) (by first | omega | exact xv_in _ _ _ | exact b_bc_in _) (fun h131 => ?_) (fun h131 => ?_)
            · refine r_iinc (pc' := 159) dX3_chooseOffers_156 rfl rfl (.tail _ (.tail _ (.tail _ (.head _)))) (.s1 (.s1 (.s1 (.here (.s1 (.s1 (.s1 .nil rfl rfl rfl) rfl rfl rfl) rfl rfl rfl)) rfl rfl rfl) rfl rfl rfl) rfl rfl rfl) ?_
              refine r_goto (t := 57) dX3_chooseOffers_159 (by decide) ?_
              refine r_sub (.kp (.kp (.kp (.kp (.dr (.dr (.dr .nil))))))) ?_
              first
                | (refine ih X1 ho h7 hh ?_
                   rw [if_neg (by omega)]; exact hS)
                | (refine ih _ (((ho.up _ _ (by omega)).up _ _ (by omega)).up _ _ (by omega)) (by rw [xv_up_ne _ _ (by omega), xv_up_ne _ _ (by omega), xv_up_ne _ _ (by omega)]; exact h7) (fun i hi => by rw [xv_up_ne _ _ (by omega), xv_up_ne _ _ (by omega), xv_up_ne _ _ (by omega)]; exact hh i hi) ?_
                   rw [if_pos (by omega)]
                   refine ⟨?_, ?_, ?_⟩
                   · rw [xv_up_ne _ _ (by omega), xv_up_ne _ _ (by omega), xv_up_same _ _ _ (by omega)]
                   · rw [xv_up_ne _ _ (by omega), xv_up_same _ _ _ (by omega)]
                   · rw [xv_up_same _ _ _ (by omega)])
            · refine r_iload (pc' := 136) dX3_chooseOffers_134 rfl (.tail _ (.tail _ (.tail _ (.tail _ (.tail _ (.head _)))))) ?_
              refine r_if_eq (t := 156) (f := 139) dX3_chooseOffers_136 (by decide) rfl (by first | omega | exact xv_in _ _ _ | exact b_bc_in _) (fun h136 => ?_) (fun h136 => ?_)
              · refine r_iinc (pc' := 159) dX3_chooseOffers_156 rfl rfl (.tail _ (.tail _ (.tail _ (.head _)))) (.s1 (.s1 (.s1 (.here (.s1 (.s1 (.s1 .nil rfl rfl rfl) rfl rfl rfl) rfl rfl rfl)) rfl rfl rfl) rfl rfl rfl) rfl rfl rfl) ?_
                refine r_goto (t := 57) dX3_chooseOffers_159 (by decide) ?_
                refine r_sub (.kp (.kp (.kp (.kp (.dr (.dr (.dr .nil))))))) ?_
                first
                  | (refine ih X1 ho h7 hh ?_
                     rw [if_neg (by omega)]; exact hS)
                  | (refine ih _ (((ho.up _ _ (by omega)).up _ _ (by omega)).up _ _ (by omega)) (by rw [xv_up_ne _ _ (by omega), xv_up_ne _ _ (by omega), xv_up_ne _ _ (by omega)]; exact h7) (fun i hi => by rw [xv_up_ne _ _ (by omega), xv_up_ne _ _ (by omega), xv_up_ne _ _ (by omega)]; exact hh i hi) ?_
                     rw [if_pos (by omega)]
                     refine ⟨?_, ?_, ?_⟩
                     · rw [xv_up_ne _ _ (by omega), xv_up_ne _ _ (by omega), xv_up_same _ _ _ (by omega)]
                     · rw [xv_up_ne _ _ (by omega), xv_up_same _ _ _ (by omega)]
                     · rw [xv_up_same _ _ _ (by omega)])
              · refine r_aload_n (i := 0) (pc' := 140) dX3_chooseOffers_139 rfl rfl (.head _) ?_
                refine r_iload (pc' := 142) dX3_chooseOffers_140 rfl (.tail _ (.tail _ (.tail _ (.tail _ (.head _))))) ?_
                refine r_putI (pc' := 145) dX3_chooseOffers_142 rfl fX3_123 rfl (by first | assumption | rfl) (by omega) rfl rfl ?_
                refine r_aload_n (i := 0) (pc' := 146) dX3_chooseOffers_145 rfl rfl (.head _) ?_
                refine r_iload_n (i := 3) (pc' := 147) dX3_chooseOffers_146 rfl rfl (.tail _ (.tail _ (.tail _ (.head _)))) ?_
                refine r_putI (pc' := 150) dX3_chooseOffers_147 rfl fX3_94 rfl (by first | assumption | rfl) (by omega) rfl rfl ?_
                refine r_aload_n (i := 0) (pc' := 151) dX3_chooseOffers_150 rfl rfl (.head _) ?_
                refine r_iload (pc' := 153) dX3_chooseOffers_151 rfl (.tail _ (.tail _ (.tail _ (.tail _ (.tail _ (.tail _ (.head _))))))) ?_
                refine r_putI (pc' := 156) dX3_chooseOffers_153 rfl fX3_85 rfl (by first | assumption | rfl) (by omega) rfl rfl ?_
                refine r_iinc (pc' := 159) dX3_chooseOffers_156 rfl rfl (.tail _ (.tail _ (.tail _ (.head _)))) (.s1 (.s1 (.s1 (.here (.s1 (.s1 (.s1 .nil rfl rfl rfl) rfl rfl rfl) rfl rfl rfl)) rfl rfl rfl) rfl rfl rfl) rfl rfl rfl) ?_
                refine r_goto (t := 57) dX3_chooseOffers_159 (by decide) ?_
                refine r_sub (.kp (.kp (.kp (.kp (.dr (.dr (.dr .nil))))))) ?_
                first
                  | (refine ih X1 ho h7 hh ?_
                     rw [if_neg (by omega)]; exact hS)
                  | (refine ih _ (((ho.up _ _ (by omega)).up _ _ (by omega)).up _ _ (by omega)) (by rw [xv_up_ne _ _ (by omega), xv_up_ne _ _ (by omega), xv_up_ne _ _ (by omega)]; exact h7) (fun i hi => by rw [xv_up_ne _ _ (by omega), xv_up_ne _ _ (by omega), xv_up_ne _ _ (by omega)]; exact hh i hi) ?_
                     rw [if_pos (by omega)]
                     refine ⟨?_, ?_, ?_⟩
                     · rw [xv_up_ne _ _ (by omega), xv_up_ne _ _ (by omega), xv_up_same _ _ _ (by omega)]
                     · rw [xv_up_ne _ _ (by omega), xv_up_same _ _ _ (by omega)]
                     · rw [xv_up_same _ _ _ (by omega)])
      · refine r_iconst (pc' := 93) dX3_chooseOffers_92 rfl ?_
        refine r_goto (t := 97) dX3_chooseOffers_93 (by decide) ?_
        refine r_istore (pc' := 99) dX3_chooseOffers_97 rfl rfl (.s1 (.s1 (.s1 (.s1 (.s1 .nil rfl rfl rfl) rfl rfl rfl) rfl rfl rfl) rfl rfl rfl) rfl rfl rfl) ?_
        refine r_aload_n (i := 0) (pc' := 100) dX3_chooseOffers_99 rfl rfl (.head _) ?_
        refine r_aload_n (i := 0) (pc' := 101) dX3_chooseOffers_100 rfl rfl (.head _) ?_
        refine r_getR (pc' := 104) dX3_chooseOffers_101 rfl fX3_19 rfl (by first | assumption | rfl) (by omega) (by assumption) ?_
        refine r_iload_n (i := 3) (pc' := 105) dX3_chooseOffers_104 rfl rfl (.tail _ (.tail _ (.tail _ (.head _)))) ?_
        refine r_V2p (ci := 3) (pc' := 108) dX3_chooseOffers_105 rfl lX3_81 rfl (by decide) (Nat.le_of_ble_eq_true rfl) (by first | assumption | rfl) (by omega) (tX3_sum (N := 10) rfl (by omega) (by omega) (by omega) h7 (by omega) (by omega) hh) ?_
        rw [hS2]
        refine r_istore (pc' := 110) dX3_chooseOffers_108 rfl rfl (.s1 (.s1 (.s1 (.s1 (.s1 (.s1 .nil rfl rfl rfl) rfl rfl rfl) rfl rfl rfl) rfl rfl rfl) rfl rfl rfl) rfl rfl rfl) ?_
        refine r_iload (pc' := 112) dX3_chooseOffers_110 rfl (.tail _ (.tail _ (.tail _ (.tail _ (.tail _ (.tail _ (.head _))))))) ?_
        refine r_iload_n (i := 2) (pc' := 113) dX3_chooseOffers_112 rfl rfl (.tail _ (.tail _ (.head _))) ?_
        refine r_icmp_gt (t := 156) (f := 116) dX3_chooseOffers_113 (by decide) rfl (by first | omega | exact xv_in _ _ _ | exact b_bc_in _) (by first | omega | exact xv_in _ _ _ | exact b_bc_in _) (fun h113 => ?_) (fun h113 => ?_)
        · refine r_iinc (pc' := 159) dX3_chooseOffers_156 rfl rfl (.tail _ (.tail _ (.tail _ (.head _)))) (.s1 (.s1 (.s1 (.here (.s1 (.s1 (.s1 .nil rfl rfl rfl) rfl rfl rfl) rfl rfl rfl)) rfl rfl rfl) rfl rfl rfl) rfl rfl rfl) ?_
          refine r_goto (t := 57) dX3_chooseOffers_159 (by decide) ?_
          refine r_sub (.kp (.kp (.kp (.kp (.dr (.dr (.dr .nil))))))) ?_
          first
            | (refine ih X1 ho h7 hh ?_
               rw [if_neg (by omega)]; exact hS)
            | (refine ih _ (((ho.up _ _ (by omega)).up _ _ (by omega)).up _ _ (by omega)) (by rw [xv_up_ne _ _ (by omega), xv_up_ne _ _ (by omega), xv_up_ne _ _ (by omega)]; exact h7) (fun i hi => by rw [xv_up_ne _ _ (by omega), xv_up_ne _ _ (by omega), xv_up_ne _ _ (by omega)]; exact hh i hi) ?_
               rw [if_pos (by omega)]
               refine ⟨?_, ?_, ?_⟩
               · rw [xv_up_ne _ _ (by omega), xv_up_ne _ _ (by omega), xv_up_same _ _ _ (by omega)]
               · rw [xv_up_ne _ _ (by omega), xv_up_same _ _ _ (by omega)]
               · rw [xv_up_same _ _ _ (by omega)])
        · refine r_iload (pc' := 118) dX3_chooseOffers_116 rfl (.tail _ (.tail _ (.tail _ (.tail _ (.head _))))) ?_
          refine r_aload_n (i := 0) (pc' := 119) dX3_chooseOffers_118 rfl rfl (.head _) ?_
          refine r_getI (pc' := 122) dX3_chooseOffers_119 rfl fX3_123 rfl (by first | assumption | rfl) (by omega) ?_
          refine r_icmp_gt (t := 139) (f := 125) dX3_chooseOffers_122 (by decide) rfl (by first | omega | exact xv_in _ _ _ | exact b_bc_in _) (by first | omega | exact xv_in _ _ _ | exact b_bc_in _) (fun h122 => ?_) (fun h122 => ?_)
          · refine r_aload_n (i := 0) (pc' := 140) dX3_chooseOffers_139 rfl rfl (.head _) ?_
            refine r_iload (pc' := 142) dX3_chooseOffers_140 rfl (.tail _ (.tail _ (.tail _ (.tail _ (.head _))))) ?_
            refine r_putI (pc' := 145) dX3_chooseOffers_142 rfl fX3_123 rfl (by first | assumption | rfl) (by omega) rfl rfl ?_
            refine r_aload_n (i := 0) (pc' := 146) dX3_chooseOffers_145 rfl rfl (.head _) ?_
            refine r_iload_n (i := 3) (pc' := 147) dX3_chooseOffers_146 rfl rfl (.tail _ (.tail _ (.tail _ (.head _)))) ?_
            refine r_putI (pc' := 150) dX3_chooseOffers_147 rfl fX3_94 rfl (by first | assumption | rfl) (by omega) rfl rfl ?_
            refine r_aload_n (i := 0) (pc' := 151) dX3_chooseOffers_150 rfl rfl (.head _) ?_
            refine r_iload (pc' := 153) dX3_chooseOffers_151 rfl (.tail _ (.tail _ (.tail _ (.tail _ (.tail _ (.tail _ (.head _))))))) ?_
            refine r_putI (pc' := 156) dX3_chooseOffers_153 rfl fX3_85 rfl (by first | assumption | rfl) (by omega) rfl rfl ?_
            refine r_iinc (pc' := 159) dX3_chooseOffers_156 rfl rfl (.tail _ (.tail _ (.tail _ (.head _)))) (.s1 (.s1 (.s1 (.here (.s1 (.s1 (.s1 .nil rfl rfl rfl) rfl rfl rfl) rfl rfl rfl)) rfl rfl rfl) rfl rfl rfl) rfl rfl rfl) ?_
            refine r_goto (t := 57) dX3_chooseOffers_159 (by decide) ?_
            refine r_sub (.kp (.kp (.kp (.kp (.dr (.dr (.dr .nil))))))) ?_
            first
              | (refine ih X1 ho h7 hh ?_
                 rw [if_neg (by omega)]; exact hS)
              | (refine ih _ (((ho.up _ _ (by omega)).up _ _ (by omega)).up _ _ (by omega)) (by rw [xv_up_ne _ _ (by omega), xv_up_ne _ _ (by omega), xv_up_ne _ _ (by omega)]; exact h7) (fun i hi => by rw [xv_up_ne _ _ (by omega), xv_up_ne _ _ (by omega), xv_up_ne _ _ (by omega)]; exact hh i hi) ?_
                 rw [if_pos (by omega)]
                 refine ⟨?_, ?_, ?_⟩
                 · rw [xv_up_ne _ _ (by omega), xv_up_ne _ _ (by omega), xv_up_same _ _ _ (by omega)]
                 · rw [xv_up_ne _ _ (by omega), xv_up_same _ _ _ (by omega)]
                 · rw [xv_up_same _ _ _ (by omega)])
          · refine r_iload (pc' := 127) dX3_chooseOffers_125 rfl (.tail _ (.tail _ (.tail _ (.tail _ (.head _))))) ?_
            refine r_aload_n (i := 0) (pc' := 128) dX3_chooseOffers_127 rfl rfl (.head _) ?_
            refine r_getI (pc' := 131) dX3_chooseOffers_128 rfl fX3_123 rfl (by first | assumption | rfl) (by omega) ?_
            refine r_icmp_ne (t := 156) (f := 134) dX3_chooseOffers_131 (by decide) rfl (by first | omega | exact xv_in _ _ _ | exact b_bc_in _) (by first | omega | exact xv_in _ _ _ | exact b_bc_in _) (fun h131 => ?_) (fun h131 => ?_)
            · refine r_iinc (pc' := 159) dX3_chooseOffers_156 rfl rfl (.tail _ (.tail _ (.tail _ (.head _)))) (.s1 (.s1 (.s1 (.here (.s1 (.s1 (.s1 .nil rfl rfl rfl) rfl rfl rfl) rfl rfl rfl)) rfl rfl rfl) rfl rfl rfl) rfl rfl rfl) ?_
              refine r_goto (t := 57) dX3_chooseOffers_159 (by decide) ?_
              refine r_sub (.kp (.kp (.kp (.kp (.dr (.dr (.dr .nil))))))) ?_
              first
                | (refine ih X1 ho h7 hh ?_
                   rw [if_neg (by omega)]; exact hS)
                | (refine ih _ (((ho.up _ _ (by omega)).up _ _ (by omega)).up _ _ (by omega)) (by rw [xv_up_ne _ _ (by omega), xv_up_ne _ _ (by omega), xv_up_ne _ _ (by omega)]; exact h7) (fun i hi => by rw [xv_up_ne _ _ (by omega), xv_up_ne _ _ (by omega), xv_up_ne _ _ (by omega)]; exact hh i hi) ?_
                   rw [if_pos (by omega)]
                   refine ⟨?_, ?_, ?_⟩
                   · rw [xv_up_ne _ _ (by omega), xv_up_ne _ _ (by omega), xv_up_same _ _ _ (by omega)]
                   · rw [xv_up_ne _ _ (by omega), xv_up_same _ _ _ (by omega)]
                   · rw [xv_up_same _ _ _ (by omega)])
            · refine r_iload (pc' := 136) dX3_chooseOffers_134 rfl (.tail _ (.tail _ (.tail _ (.tail _ (.tail _ (.head _)))))) ?_
              refine r_if_eq (t := 156) (f := 139) dX3_chooseOffers_136 (by decide) rfl (by first | omega | exact xv_in _ _ _ | exact b_bc_in _) (fun h136 => ?_) (fun h136 => ?_)
              · refine r_iinc (pc' := 159) dX3_chooseOffers_156 rfl rfl (.tail _ (.tail _ (.tail _ (.head _)))) (.s1 (.s1 (.s1 (.here (.s1 (.s1 (.s1 .nil rfl rfl rfl) rfl rfl rfl) rfl rfl rfl)) rfl rfl rfl) rfl rfl rfl) rfl rfl rfl) ?_
                refine r_goto (t := 57) dX3_chooseOffers_159 (by decide) ?_
                refine r_sub (.kp (.kp (.kp (.kp (.dr (.dr (.dr .nil))))))) ?_
                first
                  | (refine ih X1 ho h7 hh ?_
                     rw [if_neg (by omega)]; exact hS)
                  | (refine ih _ (((ho.up _ _ (by omega)).up _ _ (by omega)).up _ _ (by omega)) (by rw [xv_up_ne _ _ (by omega), xv_up_ne _ _ (by omega), xv_up_ne _ _ (by omega)]; exact h7) (fun i hi => by rw [xv_up_ne _ _ (by omega), xv_up_ne _ _ (by omega), xv_up_ne _ _ (by omega)]; exact hh i hi) ?_
                     rw [if_pos (by omega)]
                     refine ⟨?_, ?_, ?_⟩
                     · rw [xv_up_ne _ _ (by omega), xv_up_ne _ _ (by omega), xv_up_same _ _ _ (by omega)]
                     · rw [xv_up_ne _ _ (by omega), xv_up_same _ _ _ (by omega)]
                     · rw [xv_up_same _ _ _ (by omega)])
              · refine r_aload_n (i := 0) (pc' := 140) dX3_chooseOffers_139 rfl rfl (.head _) ?_
                refine r_iload (pc' := 142) dX3_chooseOffers_140 rfl (.tail _ (.tail _ (.tail _ (.tail _ (.head _))))) ?_
                refine r_putI (pc' := 145) dX3_chooseOffers_142 rfl fX3_123 rfl (by first | assumption | rfl) (by omega) rfl rfl ?_
                refine r_aload_n (i := 0) (pc' := 146) dX3_chooseOffers_145 rfl rfl (.head _) ?_
                refine r_iload_n (i := 3) (pc' := 147) dX3_chooseOffers_146 rfl rfl (.tail _ (.tail _ (.tail _ (.head _)))) ?_
                refine r_putI (pc' := 150) dX3_chooseOffers_147 rfl fX3_94 rfl (by first | assumption | rfl) (by omega) rfl rfl ?_
                refine r_aload_n (i := 0) (pc' := 151) dX3_chooseOffers_150 rfl rfl (.head _) ?_
                refine r_iload (pc' := 153) dX3_chooseOffers_151 rfl (.tail _ (.tail _ (.tail _ (.tail _ (.tail _ (.tail _ (.head _))))))) ?_
                refine r_putI (pc' := 156) dX3_chooseOffers_153 rfl fX3_85 rfl (by first | assumption | rfl) (by omega) rfl rfl ?_
                refine r_iinc (pc' := 159) dX3_chooseOffers_156 rfl rfl (.tail _ (.tail _ (.tail _ (.head _)))) (.s1 (.s1 (.s1 (.here (.s1 (.s1 (.s1 .nil rfl rfl rfl) rfl rfl rfl) rfl rfl rfl)) rfl rfl rfl) rfl rfl rfl) rfl rfl rfl) ?_
                refine r_goto (t := 57) dX3_chooseOffers_159 (by decide) ?_
                refine r_sub (.kp (.kp (.kp (.kp (.dr (.dr (.dr .nil))))))) ?_
                first
                  | (refine ih X1 ho h7 hh ?_
                     rw [if_neg (by omega)]; exact hS)
                  | (refine ih _ (((ho.up _ _ (by omega)).up _ _ (by omega)).up _ _ (by omega)) (by rw [xv_up_ne _ _ (by omega), xv_up_ne _ _ (by omega), xv_up_ne _ _ (by omega)]; exact h7) (fun i hi => by rw [xv_up_ne _ _ (by omega), xv_up_ne _ _ (by omega), xv_up_ne _ _ (by omega)]; exact hh i hi) ?_
                     rw [if_pos (by omega)]
                     refine ⟨?_, ?_, ?_⟩
                     · rw [xv_up_ne _ _ (by omega), xv_up_ne _ _ (by omega), xv_up_same _ _ _ (by omega)]
                     · rw [xv_up_ne _ _ (by omega), xv_up_same _ _ _ (by omega)]
                     · rw [xv_up_same _ _ _ (by omega)])
set_option maxHeartbeats 4000000 in
set_option maxRecDepth 100000 in
theorem tX3_chooseOffers {l : Launch} {g : q_G} {n : Nat} {P : q_P} {X : q_X} {Y : q_Y} {b : Nat} (hb : isBk n P b) (hO : bOk X b) (hap : bApart b) (ht : isTal n P) (hch : isCho n P) {room : Int} (hro : q_in room) : q_Met l g mX3_chooseOffers 3 [.ref (g.1 + 459), .ref (g.1 + (b + 10)), .int (zi room)] n P X Y (q_gv (fun n' P' X' Y' => n' = n ∧ P' = P ∧ Y' = Y ∧ tOut X X' ∧ xv X' 459 10 = (ch_off X b (min 10 (xv X (b + 10) 0)).toNat room (2 ^ (min 10 (xv X (b + 10) 0)).toNat - 1)).1 ∧ xv X' 459 11 = ((ch_off X b (min 10 (xv X (b + 10) 0)).toNat room (2 ^ (min 10 (xv X (b + 10) 0)).toNat - 1)).2.1 : Int) ∧ xv X' 459 9 = (ch_off X b (min 10 (xv X (b + 10) 0)).toNat room (2 ^ (min 10 (xv X (b + 10) 0)).toNat - 1)).2.2)) := by
  obtain ⟨b0, b1, b2, b3, q7, q8, q9, q11, q12, q13, hn, hpro, hmar, hfor, hcs⟩ := id hb
  obtain ⟨o0, o1, o2, o3, o4, o5, o6, o10, oc, op0, opz, opi, om0, omi, olim⟩ := id hO
  obtain ⟨t0, t1, t2, t3, t4, hnt⟩ := id ht
  obtain ⟨v0, v1, v2, v3, v4, v5, v6, hnh⟩ := id hch
  obtain ⟨a0, a1, a2, a3, a4, u1, u2, u3, u4, hnm⟩ := isBk.mar hmar
  refine q_enter (L := [(0, .ref (g.1 + 459)), (1, .ref (g.1 + (b + 10))), (2, .int (zi room))]) (by decide) (Nat.le_of_ble_eq_true rfl) rfl ?_
  refine r_aload_n (i := 0) (pc' := 1) dX3_chooseOffers_0 rfl rfl (.head _) ?_
  refine r_iconst (pc' := 2) dX3_chooseOffers_1 rfl ?_
  refine r_putI (pc' := 5) dX3_chooseOffers_2 rfl fX3_123 rfl (by first | assumption | rfl) (by omega) rfl rfl ?_
  refine r_aload_n (i := 0) (pc' := 6) dX3_chooseOffers_5 rfl rfl (.head _) ?_
  refine r_iconst (pc' := 7) dX3_chooseOffers_6 rfl ?_
  refine r_putI (pc' := 10) dX3_chooseOffers_7 rfl fX3_94 rfl (by first | assumption | rfl) (by omega) rfl rfl ?_
  refine r_aload_n (i := 0) (pc' := 11) dX3_chooseOffers_10 rfl rfl (.head _) ?_
  refine r_iconst (pc' := 12) dX3_chooseOffers_11 rfl ?_
  refine r_putI (pc' := 15) dX3_chooseOffers_12 rfl fX3_85 rfl (by first | assumption | rfl) (by omega) rfl rfl ?_
  refine r_aload_n (i := 0) (pc' := 16) dX3_chooseOffers_15 rfl rfl (.head _) ?_
  refine r_bipush (pc' := 18) dX3_chooseOffers_16 rfl (by decide) ?_
  refine r_aload_n (i := 1) (pc' := 19) dX3_chooseOffers_18 rfl rfl (.tail _ (.head _)) ?_
  refine r_getI (pc' := 22) dX3_chooseOffers_19 rfl fX3_126 rfl (by first | assumption | rfl) (by omega) ?_
  simp (disch := omega) only [xv_up_ne]
  refine r_min (pc' := 25) dX3_chooseOffers_22 rfl lX3_129 (by decide) (Nat.le_of_ble_eq_true rfl) (by first | omega | exact xv_in _ _ _) (by first | omega | exact xv_in _ _ _) ?_
  refine r_putI (pc' := 28) dX3_chooseOffers_25 rfl fX3_41 rfl (by first | assumption | rfl) (by omega) rfl rfl ?_
  refine r_iconst (pc' := 29) dX3_chooseOffers_28 rfl ?_
  refine r_istore_n (i := 3) (pc' := 30) dX3_chooseOffers_29 rfl rfl rfl (.s1 (.s1 (.s1 .nil rfl rfl rfl) rfl rfl rfl) rfl rfl rfl) ?_
  refine l0X3_chooseOffers (m := (min 10 (xv X (b + 10) 0)).toNat) hb hO hap ht hch (by omega) (r9 := xv (q_up (q_up (q_up (q_up X 459 10 (zi 0)) 459 11 (zi 0)) 459 9 (zi 0)) 459 7 (zi (min 10 (xv X (b + 10) 0)))) 459) (fun X2 ho2 h92 hh2 => ?_) _ 0 _ (Nat.zero_add _) ((((tOut.rfl.up _ _ (by omega)).up _ _ (by omega)).up _ _ (by omega)).up _ _ (by omega)) rfl (by rw [xv_up_same _ _ _ (by omega)]; omega) (fun j hj => by omega)
  have hz1 : 1 ≤ 2 ^ (min 10 (xv X (b + 10) 0)).toNat := Nat.one_le_two_pow
  refine lX3_chooseOffers hb hO hap ht hch (by omega) hro (2 ^ (min 10 (xv X (b + 10) 0)).toNat - 1) 0 X2 (by omega) ho2 (by rw [h92, xv_up_same _ _ _ (by omega)]; omega) hh2 ?_
  rw [h92, xv_up_ne _ _ (by omega), xv_up_ne _ _ (by omega), xv_up_ne _ _ (by omega), xv_up_same _ _ _ (by omega), xv_up_ne _ _ (by omega), xv_up_ne _ _ (by omega), xv_up_same _ _ _ (by omega), xv_up_ne _ _ (by omega), xv_up_same _ _ _ (by omega)]
  exact ⟨rfl, rfl, rfl⟩
