theorem lg_gt_z (a b : Int64) : 0 < (if a < b then (-1 : Int) else if a = b then 0 else 1) ↔ b < a := by
  have k1 := Int64.lt_iff_toInt_lt (x := a) (y := b)
  have k2 := Int64.lt_iff_toInt_lt (x := b) (y := a)
  by_cases h : a < b
  · rw [if_pos h]
    constructor
    · intro q; omega
    · intro q; have := k1.mp h; have := k2.mp q; omega
  · rw [if_neg h]
    by_cases e : a = b
    · rw [if_pos e]
      constructor
      · intro q; omega
      · intro q; subst e; have := k2.mp q; omega
    · rw [if_neg e]
      constructor
      · intro _
        refine k2.mpr ?_
        have : ¬ a.toInt = b.toInt := fun z => e (Int64.toInt_inj.mp z)
        have : ¬ a.toInt < b.toInt := fun z => h (k1.mpr z)
        omega
      · intro _; omega
theorem ref_open {C : q_X} {b k : Nat} (h0 : bk_ref C b (k : Int) = 0) : xv C (con b k) 4 = 0 := by
  have hk := bk_ref_has h0
  have q := h0
  unfold bk_ref at q
  rw [if_neg (fun z => z hk), Int.toNat_natCast] at q
  apply Classical.byContradiction
  intro z
  rw [if_pos z] at q
  omega
theorem many_rel {C : q_X} {b k : Nat} (hO : bOk C b) (h0 : bk_ref C b (k : Int) = 0) : bk_many (bk_rel C b (k : Int) 0) b 0 0 (xv C b 10).toNat < bk_many C b 0 0 (xv C b 10).toNat := by
  have hk := bk_ref_has h0
  have o10 := hO.2.2.2.2.2.2.2.1
  have hc := fun j => bk_rel_c (t := 0) h0 hO j
  rw [Int.toNat_natCast] at hc
  unfold bk_many
  refine q_sum_lt (j := k) _ _ (fun i _ hi => ?_) (by omega) (by omega) ?_
  · by_cases e : i = k
    · subst e; rw [hc, if_pos rfl]; split <;> split <;> omega
    · rw [bk_rel_o (by unfold con; omega) (by rw [Int.toNat_natCast]; unfold con; omega)]; omega
  · rw [hc, if_pos rfl, if_neg (by omega), if_pos (ref_open h0)]; omega
theorem gp_none {C : q_X} {b : Nat} (h : bk_many C b 0 0 (xv C b 10).toNat ≤ 0) : (gp C b (xv C b 10).toNat).1 = -1 := by
  rcases gp_ok C b (xv C b 10).toNat with q | ⟨q1, q2, q3⟩
  · exact q
  · exfalso
    obtain ⟨k, hk⟩ : ∃ k : Nat, (gp C b (xv C b 10).toNat).1 = (k : Int) := ⟨(gp C b (xv C b 10).toNat).1.toNat, by omega⟩
    rw [hk] at q2 q3
    have := q_sum_le (f := fun i => if xv C (con b i) 4 = 0 then (1 : Int) else 0) (xv C b 10).toNat 0 k (fun i _ _ => by split <;> omega) (by omega) (by omega)
    rw [if_pos (ref_open q3)] at this
    unfold bk_many at h
    omega
set_option maxHeartbeats 4000000 in
set_option maxRecDepth 100000 in
theorem iX12_byPolicy {l : Launch} {g : q_G} {n : Nat} {P : q_P} (hm : isMod n P) {C : q_X} {b : Nat} (hO : bOk C b) (hv : bLv C b) (hF : bF C b) (hf1 : 1 ≤ xv C (b + 15) 0) {goal mm : Int} {X0 : q_X} {K : q_K} (kk : ∀ X Y, hOut X0 X → RB C b (xv X 468) → q_Tr l g mX12_byPolicy 8 K 129 [(0, .ref (g.1 + 467)), (1, .int (zi goal)), (2, .int (zi mm)), (3, .int (zi (gp C b (xv C b 10).toNat).1))] [] n P X Y) : ∀ (w i : Nat) (X : q_X) (Y : q_Y), i + w = (xv C b 10).toNat → hOut X0 X → RB C b (xv X 468) → q_Tr l g mX12_byPolicy 8 K 53 [(0, .ref (g.1 + 467)), (1, .int (zi goal)), (2, .int (zi mm)), (3, .int (zi (gp C b i).1)), (4, .long (gp C b i).2), (6, .int (zi (i : Int)))] [] n P X Y := by
  obtain ⟨m0, m2, m3, m8, m9, m14, m15, m16, m17, m18, m20, m22, m25, hnm9⟩ := id hm
  obtain ⟨o0, o1, o2, o3, o4, o5, o6, o10, oc, op0, opz, opi, om0, omi, olim⟩ := id hO
  intro w
  induction w with
  | zero =>
    intro i X Y hi ho hR
    obtain rfl : i = (xv C b 10).toNat := by omega
    refine r_iload (pc' := 55) dX12_byPolicy_53 rfl (.tail _ (.tail _ (.tail _ (.tail _ (.tail _ (.head _)))))) ?_
    refine r_aload_n (i := 0) (pc' := 56) dX12_byPolicy_55 rfl rfl (.head _) ?_
    refine r_getR (pc' := 59) dX12_byPolicy_56 rfl fX12_3 rfl (by first | assumption | rfl) (by omega) (by assumption) ?_
    refine r_bipush (pc' := 61) dX12_byPolicy_59 rfl (by decide) ?_
    refine r_iaload (pc' := 62) dX12_byPolicy_61 rfl (by first | assumption | rfl) (by omega) (by omega) (by omega) (by first | decide | omega) (show Int.toNat 7 = 7 from rfl) ?_
    rw [hR.m]
    refine r_icmp_ge (t := 129) (f := 65) dX12_byPolicy_62 (by decide) rfl (by first | omega | exact xv_in _ _ _) (by first | omega | exact xv_in _ _ _) (fun h62 => ?_) (fun h62 => ?_)
    · refine r_sub (.kp (.kp (.kp (.kp (.dr (.dr .nil)))))) ?_
      exact kk _ _ ho hR
    · exfalso; omega
  | succ w ih =>
    intro i X Y hi ho hR
    have hk : (i : Int) < xv C b 10 := by omega
    have hgo := gp_ok C b i
    have hsb := bk_sav_b hO hk (xv C b 1)
    have ih := ih (i + 1)
    rw [gp] at ih
    refine r_iload (pc' := 55) dX12_byPolicy_53 rfl (.tail _ (.tail _ (.tail _ (.tail _ (.tail _ (.head _)))))) ?_
    refine r_aload_n (i := 0) (pc' := 56) dX12_byPolicy_55 rfl rfl (.head _) ?_
    refine r_getR (pc' := 59) dX12_byPolicy_56 rfl fX12_3 rfl (by first | assumption | rfl) (by omega) (by assumption) ?_
    refine r_bipush (pc' := 61) dX12_byPolicy_59 rfl (by decide) ?_
    refine r_iaload (pc' := 62) dX12_byPolicy_61 rfl (by first | assumption | rfl) (by omega) (by omega) (by omega) (by first | decide | omega) (show Int.toNat 7 = 7 from rfl) ?_
    rw [hR.m]
    refine r_icmp_ge (t := 129) (f := 65) dX12_byPolicy_62 (by decide) rfl (by first | omega | exact xv_in _ _ _) (by first | omega | exact xv_in _ _ _) (fun h62 => ?_) (fun h62 => ?_)
    · exfalso; omega
    · refine r_aload_n (i := 0) (pc' := 66) dX12_byPolicy_65 rfl rfl (.head _) ?_
      refine r_iload (pc' := 68) dX12_byPolicy_66 rfl (.tail _ (.tail _ (.tail _ (.tail _ (.tail _ (.head _)))))) ?_
      refine r_V1p (ci := 12) (pc' := 71) dX12_byPolicy_68 rfl lX12_261 rfl (by decide) (Nat.le_of_ble_eq_true rfl) (by first | assumption | rfl) (by omega) (tX12_canCut (by assumption) (by assumption) (by assumption) (by first | omega | assumption)) ?_
      refine r_bif_eq (t := 123) (f := 74) dX12_byPolicy_71 (by decide) rfl (fun h71 => ?_) (fun h71 => ?_)
      · refine r_iinc (pc' := 126) dX12_byPolicy_123 rfl rfl (.tail _ (.tail _ (.tail _ (.tail _ (.tail _ (.head _)))))) (.s1 (.s1 (.s1 (.s1 (.s2 (.here .nil) rfl (.inl rfl) (.inr rfl)) rfl rfl rfl) rfl rfl rfl) rfl rfl rfl) rfl rfl rfl) ?_
        refine r_goto (t := 53) dX12_byPolicy_126 (by decide) ?_
        first
          | (rw [if_neg (fun q => by have := q.1; omega)] at ih; exact ih _ _ (by omega) ho hR)
          | (rw [if_neg (fun q => by have := q.2.1; omega)] at ih; exact ih _ _ (by omega) (ho.trans ho83) hR83)
          | (rw [if_pos ⟨by assumption, by omega, Or.inl (by omega)⟩] at ih; exact ih _ _ (by omega) ((ho.trans ho83).trans ho95) hR95)
          | (rw [if_pos ⟨by assumption, by omega, Or.inr ((lg_gt_z _ _).mp h110)⟩] at ih; exact ih _ _ (by omega) ((ho.trans ho83).trans ho95) hR95)
          | (rw [if_neg (fun q => by rcases q.2.2 with z | z <;> first | omega | (have := (lg_gt_z _ _).mpr z; omega))] at ih; exact ih _ _ (by omega) ((ho.trans ho83).trans ho95) hR95)
      · refine r_aload_n (i := 0) (pc' := 75) dX12_byPolicy_74 rfl rfl (.head _) ?_
        refine r_iload (pc' := 77) dX12_byPolicy_75 rfl (.tail _ (.tail _ (.tail _ (.tail _ (.tail _ (.head _)))))) ?_
        refine r_aload_n (i := 0) (pc' := 78) dX12_byPolicy_77 rfl rfl (.head _) ?_
        refine r_getR (pc' := 81) dX12_byPolicy_78 rfl fX12_3 rfl (by first | assumption | rfl) (by omega) (by assumption) ?_
        refine r_iconst (pc' := 82) dX12_byPolicy_81 rfl ?_
        refine r_iaload (pc' := 83) dX12_byPolicy_82 rfl (by first | assumption | rfl) (by omega) (by omega) (by omega) (by first | decide | omega) (show Int.toNat 1 = 1 from rfl) ?_
        rw [hR.z 1 (by decide)]
        refine r_V2gi (ci := 12) (pc' := 86) dX12_byPolicy_83 rfl lX12_269 rfl (by decide) (Nat.le_of_ble_eq_true rfl) (by first | assumption | rfl) (by omega) (tX12_savedOn hm hR hO hk (by omega)) (fun r83 n83 P83 X83 Y83 e83 le83 => ?_)
        obtain ⟨h1v, h2v, h3v, ho83, hr83⟩ := e83
        subst h1v h2v h3v hr83
        have hR83 : RB C b (xv X83 468) := by rw [ho83.v (by omega)]; exact hR
        refine r_if_gt (t := 92) (f := 89) dX12_byPolicy_86 (by decide) rfl (by first | omega | exact xv_in _ _ _) (fun h86 => ?_) (fun h86 => ?_)
        · refine r_aload_n (i := 0) (pc' := 93) dX12_byPolicy_92 rfl rfl (.head _) ?_
          refine r_iload (pc' := 95) dX12_byPolicy_93 rfl (.tail _ (.tail _ (.tail _ (.tail _ (.tail _ (.head _)))))) ?_
          refine r_V1gl (ci := 12) (pc' := 98) dX12_byPolicy_95 rfl lX12_320 rfl (by decide) (Nat.le_of_ble_eq_true rfl) (by first | assumption | rfl) (by omega) (tX12_saysOf hm hR83 hO hk hv hF hf1) (fun r95 n95 P95 X95 Y95 e95 le95 => ?_)
          obtain ⟨h1v, h2v, ho95, hr95⟩ := e95
          subst h1v h2v hr95
          have hR95 : RB C b (xv X95 468) := by rw [ho95.v (by omega)]; exact hR83
          refine r_lstore (pc' := 100) dX12_byPolicy_98 rfl rfl (.s2 (.s2 (.s2 (.s2 (.s2 (.s2 .nil rfl (.inr rfl) (.inl rfl)) rfl (.inl rfl) (.inl rfl)) rfl (.inr rfl) (.inl rfl)) rfl (.inr rfl) (.inl rfl)) rfl (.inr rfl) (.inl rfl)) rfl (.inr rfl) (.inl rfl)) ?_
          refine r_iload_n (i := 3) (pc' := 101) dX12_byPolicy_100 rfl rfl (.tail _ (.tail _ (.tail _ (.head _)))) ?_
          refine r_iconst (pc' := 102) dX12_byPolicy_101 rfl ?_
          refine r_icmp_eq (t := 116) (f := 105) dX12_byPolicy_102 (by decide) rfl (by first | omega | exact xv_in _ _ _) (by first | omega | exact xv_in _ _ _) (fun h102 => ?_) (fun h102 => ?_)
          · refine r_iload (pc' := 118) dX12_byPolicy_116 rfl (.tail _ (.tail _ (.tail _ (.tail _ (.tail _ (.head _)))))) ?_
            refine r_istore_n (i := 3) (pc' := 119) dX12_byPolicy_118 rfl rfl rfl (.s1 (.s1 (.s1 (.here (.s2 (.s1 (.s2 .nil rfl (.inl rfl) (.inr rfl)) rfl rfl rfl) rfl (.inl rfl) (.inr rfl))) rfl rfl rfl) rfl rfl rfl) rfl rfl rfl) ?_
            refine r_lload (pc' := 121) dX12_byPolicy_119 rfl (.tail _ (.tail _ (.tail _ (.tail _ (.tail _ (.tail _ (.head _))))))) ?_
            refine r_lstore (pc' := 123) dX12_byPolicy_121 rfl rfl (.s2 (.s2 (.s2 (.s2 (.here (.s2 (.s2 .nil rfl (.inl rfl) (.inl rfl)) rfl (.inr rfl) (.inl rfl))) rfl (.inr rfl) (.inl rfl)) rfl (.inr rfl) (.inl rfl)) rfl (.inr rfl) (.inl rfl)) rfl (.inr rfl) (.inl rfl)) ?_
            refine r_iinc (pc' := 126) dX12_byPolicy_123 rfl rfl (.tail _ (.tail _ (.tail _ (.tail _ (.tail _ (.head _)))))) (.s1 (.s1 (.s1 (.s1 (.s2 (.here (.s2 .nil rfl (.inl rfl) (.inr rfl))) rfl (.inl rfl) (.inr rfl)) rfl rfl rfl) rfl rfl rfl) rfl rfl rfl) rfl rfl rfl) ?_
            refine r_goto (t := 53) dX12_byPolicy_126 (by decide) ?_
            refine r_sub (.kp (.kp (.kp (.kp (.kp (.kp (.dr .nil))))))) ?_
            first
              | (rw [if_neg (fun q => by have := q.1; omega)] at ih; exact ih _ _ (by omega) ho hR)
              | (rw [if_neg (fun q => by have := q.2.1; omega)] at ih; exact ih _ _ (by omega) (ho.trans ho83) hR83)
              | (rw [if_pos ⟨by assumption, by omega, Or.inl (by omega)⟩] at ih; exact ih _ _ (by omega) ((ho.trans ho83).trans ho95) hR95)
              | (rw [if_pos ⟨by assumption, by omega, Or.inr ((lg_gt_z _ _).mp h110)⟩] at ih; exact ih _ _ (by omega) ((ho.trans ho83).trans ho95) hR95)
              | (rw [if_neg (fun q => by rcases q.2.2 with z | z <;> first | omega | (have := (lg_gt_z _ _).mpr z; omega))] at ih; exact ih _ _ (by omega) ((ho.trans ho83).trans ho95) hR95)
          · refine r_lload (pc' := 107) dX12_byPolicy_105 rfl (.tail _ (.tail _ (.tail _ (.tail _ (.tail _ (.tail _ (.head _))))))) ?_
            refine r_lload (pc' := 109) dX12_byPolicy_107 rfl (.tail _ (.tail _ (.tail _ (.tail _ (.head _))))) ?_
            refine r_lcmp (pc' := 110) dX12_byPolicy_109 rfl ?_
            rw [lg_cmp_z]
            refine r_if_gt (t := 116) (f := 113) dX12_byPolicy_110 (by decide) rfl (by split <;> first | omega | (split <;> omega)) (fun h110 => ?_) (fun h110 => ?_)
            · refine r_iload (pc' := 118) dX12_byPolicy_116 rfl (.tail _ (.tail _ (.tail _ (.tail _ (.tail _ (.head _)))))) ?_
              refine r_istore_n (i := 3) (pc' := 119) dX12_byPolicy_118 rfl rfl rfl (.s1 (.s1 (.s1 (.here (.s2 (.s1 (.s2 .nil rfl (.inl rfl) (.inr rfl)) rfl rfl rfl) rfl (.inl rfl) (.inr rfl))) rfl rfl rfl) rfl rfl rfl) rfl rfl rfl) ?_
              refine r_lload (pc' := 121) dX12_byPolicy_119 rfl (.tail _ (.tail _ (.tail _ (.tail _ (.tail _ (.tail _ (.head _))))))) ?_
              refine r_lstore (pc' := 123) dX12_byPolicy_121 rfl rfl (.s2 (.s2 (.s2 (.s2 (.here (.s2 (.s2 .nil rfl (.inl rfl) (.inl rfl)) rfl (.inr rfl) (.inl rfl))) rfl (.inr rfl) (.inl rfl)) rfl (.inr rfl) (.inl rfl)) rfl (.inr rfl) (.inl rfl)) rfl (.inr rfl) (.inl rfl)) ?_
              refine r_iinc (pc' := 126) dX12_byPolicy_123 rfl rfl (.tail _ (.tail _ (.tail _ (.tail _ (.tail _ (.head _)))))) (.s1 (.s1 (.s1 (.s1 (.s2 (.here (.s2 .nil rfl (.inl rfl) (.inr rfl))) rfl (.inl rfl) (.inr rfl)) rfl rfl rfl) rfl rfl rfl) rfl rfl rfl) rfl rfl rfl) ?_
              refine r_goto (t := 53) dX12_byPolicy_126 (by decide) ?_
              refine r_sub (.kp (.kp (.kp (.kp (.kp (.kp (.dr .nil))))))) ?_
              first
                | (rw [if_neg (fun q => by have := q.1; omega)] at ih; exact ih _ _ (by omega) ho hR)
                | (rw [if_neg (fun q => by have := q.2.1; omega)] at ih; exact ih _ _ (by omega) (ho.trans ho83) hR83)
                | (rw [if_pos ⟨by assumption, by omega, Or.inl (by omega)⟩] at ih; exact ih _ _ (by omega) ((ho.trans ho83).trans ho95) hR95)
                | (rw [if_pos ⟨by assumption, by omega, Or.inr ((lg_gt_z _ _).mp h110)⟩] at ih; exact ih _ _ (by omega) ((ho.trans ho83).trans ho95) hR95)
                | (rw [if_neg (fun q => by rcases q.2.2 with z | z <;> first | omega | (have := (lg_gt_z _ _).mpr z; omega))] at ih; exact ih _ _ (by omega) ((ho.trans ho83).trans ho95) hR95)
            · refine r_goto (t := 123) dX12_byPolicy_113 (by decide) ?_
              refine r_iinc (pc' := 126) dX12_byPolicy_123 rfl rfl (.tail _ (.tail _ (.tail _ (.tail _ (.tail _ (.head _)))))) (.s1 (.s1 (.s1 (.s1 (.s2 (.here (.s2 .nil rfl (.inl rfl) (.inr rfl))) rfl (.inl rfl) (.inr rfl)) rfl rfl rfl) rfl rfl rfl) rfl rfl rfl) rfl rfl rfl) ?_
              refine r_goto (t := 53) dX12_byPolicy_126 (by decide) ?_
              refine r_sub (.kp (.kp (.kp (.kp (.kp (.kp (.dr .nil))))))) ?_
              first
                | (rw [if_neg (fun q => by have := q.1; omega)] at ih; exact ih _ _ (by omega) ho hR)
                | (rw [if_neg (fun q => by have := q.2.1; omega)] at ih; exact ih _ _ (by omega) (ho.trans ho83) hR83)
                | (rw [if_pos ⟨by assumption, by omega, Or.inl (by omega)⟩] at ih; exact ih _ _ (by omega) ((ho.trans ho83).trans ho95) hR95)
                | (rw [if_pos ⟨by assumption, by omega, Or.inr ((lg_gt_z _ _).mp h110)⟩] at ih; exact ih _ _ (by omega) ((ho.trans ho83).trans ho95) hR95)
                | (rw [if_neg (fun q => by rcases q.2.2 with z | z <;> first | omega | (have := (lg_gt_z _ _).mpr z; omega))] at ih; exact ih _ _ (by omega) ((ho.trans ho83).trans ho95) hR95)
        · refine r_goto (t := 123) dX12_byPolicy_89 (by decide) ?_
          refine r_iinc (pc' := 126) dX12_byPolicy_123 rfl rfl (.tail _ (.tail _ (.tail _ (.tail _ (.tail _ (.head _)))))) (.s1 (.s1 (.s1 (.s1 (.s2 (.here .nil) rfl (.inl rfl) (.inr rfl)) rfl rfl rfl) rfl rfl rfl) rfl rfl rfl) rfl rfl rfl) ?_
          refine r_goto (t := 53) dX12_byPolicy_126 (by decide) ?_
          first
            | (rw [if_neg (fun q => by have := q.1; omega)] at ih; exact ih _ _ (by omega) ho hR)
            | (rw [if_neg (fun q => by have := q.2.1; omega)] at ih; exact ih _ _ (by omega) (ho.trans ho83) hR83)
            | (rw [if_pos ⟨by assumption, by omega, Or.inl (by omega)⟩] at ih; exact ih _ _ (by omega) ((ho.trans ho83).trans ho95) hR95)
            | (rw [if_pos ⟨by assumption, by omega, Or.inr ((lg_gt_z _ _).mp h110)⟩] at ih; exact ih _ _ (by omega) ((ho.trans ho83).trans ho95) hR95)
            | (rw [if_neg (fun q => by rcases q.2.2 with z | z <;> first | omega | (have := (lg_gt_z _ _).mpr z; omega))] at ih; exact ih _ _ (by omega) ((ho.trans ho83).trans ho95) hR95)
set_option maxHeartbeats 4000000 in
set_option maxRecDepth 100000 in
theorem oX12_byPolicy {l : Launch} {g : q_G} {n : Nat} {P : q_P} {X : q_X} {Y : q_Y} (hm : isMod n P) {C : q_X} {b : Nat} (hO : bOk C b) (hv : bLv C b) (hF : bF C b) (hf1 : 1 ≤ xv C (b + 15) 0) (hR : RB C b (xv X 468)) {goal mm best : Int} (hgi : q_in goal) (hb : 0 ≤ best ∧ best < 40) {X0 : q_X} (ho : rOut X0 X) {K : q_K}
    (k1 : ∀ X' Y', (goal ≤ nz (bk_room C b g0 g0) ∨ (gp C b (xv C b 10).toNat).1 = -1) → rOut X0 X' → RB C b (xv X' 468) → q_Tr l g mX12_byPolicy 8 K 148 [(0, .ref (g.1 + 467)), (1, .int (zi goal)), (2, .int (zi mm))] [] n P X' Y')
    (k2 : ∀ X' Y' best', ¬ goal ≤ nz (bk_room C b g0 g0) → 0 ≤ (gp C b (xv C b 10).toNat).1 → 0 ≤ best' → best' < 40 → rOut X0 X' → RB (bk_rel C b (gp C b (xv C b 10).toNat).1 0) b (xv X' 468) → q_Tr l g mX12_byPolicy 8 K 30 [(0, .ref (g.1 + 467)), (1, .int (zi goal)), (2, .int (zi (mm + 1))), (3, .int (zi best'))] [] n P X' Y') :
    q_Tr l g mX12_byPolicy 8 K 30 [(0, .ref (g.1 + 467)), (1, .int (zi goal)), (2, .int (zi mm)), (3, .int (zi best))] [] n P X Y := by
  obtain ⟨m0, m2, m3, m8, m9, m14, m15, m16, m17, m18, m20, m22, m25, hnm9⟩ := id hm
  obtain ⟨o0, o1, o2, o3, o4, o5, o6, o10, oc, op0, opz, opi, om0, omi, olim⟩ := id hO
  refine r_iload_n (i := 3) (pc' := 31) dX12_byPolicy_30 rfl rfl (.tail _ (.tail _ (.tail _ (.head _)))) ?_
  refine r_iconst (pc' := 32) dX12_byPolicy_31 rfl ?_
  refine r_icmp_eq (t := 148) (f := 35) dX12_byPolicy_32 (by decide) rfl (by first | omega | exact nz_in _ | exact xv_in _ _ _) (by first | omega | exact nz_in _ | exact xv_in _ _ _) (fun h32 => ?_) (fun h32 => ?_)
  · exfalso; omega
  · refine r_aload_n (i := 0) (pc' := 36) dX12_byPolicy_35 rfl rfl (.head _) ?_
    refine r_lconst (pc' := 37) (z := 0) dX12_byPolicy_36 rfl rfl ?_
    refine r_lconst (pc' := 38) (z := 0) dX12_byPolicy_37 rfl rfl ?_
    refine r_V2gi (ci := 12) (pc' := 41) dX12_byPolicy_38 rfl lX12_246 rfl (by decide) (Nat.le_of_ble_eq_true rfl) (by first | assumption | rfl) (by omega) (tX12_roomOf hm hR hO lB_0 lB_0) (fun r38 n38 P38 X38 Y38 e38 le38 => ?_)
    obtain ⟨h1v, h2v, h3v, ho38, hr38⟩ := e38
    subst h1v h2v h3v hr38
    have hR38 : RB C b (xv X38 468) := by rw [ho38.v (by omega)]; exact hR
    rw [roomG_0, ← zi_nz (bk_room C b g0 g0)]
    refine r_iload_n (i := 1) (pc' := 42) dX12_byPolicy_41 rfl rfl (.tail _ (.head _)) ?_
    refine r_icmp_ge (t := 148) (f := 45) dX12_byPolicy_42 (by decide) rfl (by first | omega | exact nz_in _ | exact xv_in _ _ _) (by first | omega | exact nz_in _ | exact xv_in _ _ _) (fun h42 => ?_) (fun h42 => ?_)
    · refine r_sub (.kp (.kp (.kp (.dr .nil)))) ?_
      exact k1 _ _ (Or.inl (by omega)) (ho.trans ho38.r) hR38
    · refine r_iconst (pc' := 46) dX12_byPolicy_45 rfl ?_
      refine r_istore_n (i := 3) (pc' := 47) dX12_byPolicy_46 rfl rfl rfl (.s1 (.s1 (.s1 (.here .nil) rfl rfl rfl) rfl rfl rfl) rfl rfl rfl) ?_
      refine r_lconst (pc' := 48) (z := 0) dX12_byPolicy_47 rfl rfl ?_
      refine r_lstore (pc' := 50) dX12_byPolicy_48 rfl rfl (.s2 (.s2 (.s2 (.s2 .nil rfl (.inr rfl) (.inl rfl)) rfl (.inr rfl) (.inl rfl)) rfl (.inr rfl) (.inl rfl)) rfl (.inr rfl) (.inl rfl)) ?_
      refine r_iconst (pc' := 51) dX12_byPolicy_50 rfl ?_
      refine r_istore (pc' := 53) dX12_byPolicy_51 rfl rfl (.s1 (.s1 (.s1 (.s1 (.s2 .nil rfl (.inl rfl) (.inr rfl)) rfl rfl rfl) rfl rfl rfl) rfl rfl rfl) rfl rfl rfl) ?_
      refine iX12_byPolicy hm hO hv hF hf1 (X0 := X38) (fun Xi Yi hoi hRi => ?_) _ 0 _ _ (Nat.zero_add _) hOut.rfl hR38
      rcases gp_ok C b (xv C b 10).toNat with hg1 | ⟨hg1, hg2, hg3⟩
      · rw [hg1]
        refine r_iload_n (i := 3) (pc' := 130) dX12_byPolicy_129 rfl rfl (.tail _ (.tail _ (.tail _ (.head _)))) ?_
        refine r_iconst (pc' := 131) dX12_byPolicy_130 rfl ?_
        refine r_icmp_ne (t := 137) (f := 134) dX12_byPolicy_131 (by decide) rfl (by first | omega | exact xv_in _ _ _) (by first | omega | exact xv_in _ _ _) (fun h131 => ?_) (fun h131 => ?_)
        · exfalso; omega
        · refine r_goto (t := 30) dX12_byPolicy_134 (by decide) ?_
          refine r_iload_n (i := 3) (pc' := 31) dX12_byPolicy_30 rfl rfl (.tail _ (.tail _ (.tail _ (.head _)))) ?_
          refine r_iconst (pc' := 32) dX12_byPolicy_31 rfl ?_
          refine r_icmp_eq (t := 148) (f := 35) dX12_byPolicy_32 (by decide) rfl (by first | omega | exact xv_in _ _ _) (by first | omega | exact xv_in _ _ _) (fun h32 => ?_) (fun h32 => ?_)
          · refine r_sub (.kp (.kp (.kp (.dr .nil)))) ?_
            exact k1 _ _ (Or.inr hg1) (ho.trans (ho38.trans hoi).r) hRi
          · exfalso; omega
      · obtain ⟨kn, hkn⟩ : ∃ kn : Nat, (gp C b (xv C b 10).toNat).1 = (kn : Int) := ⟨(gp C b (xv C b 10).toNat).1.toNat, by omega⟩
        rw [hkn] at hg2 hg3 k2
        rw [hkn]
        refine r_iload_n (i := 3) (pc' := 130) dX12_byPolicy_129 rfl rfl (.tail _ (.tail _ (.tail _ (.head _)))) ?_
        refine r_iconst (pc' := 131) dX12_byPolicy_130 rfl ?_
        refine r_icmp_ne (t := 137) (f := 134) dX12_byPolicy_131 (by decide) rfl (by first | omega | exact xv_in _ _ _) (by first | omega | exact xv_in _ _ _) (fun h131 => ?_) (fun h131 => ?_)
        · refine r_aload_n (i := 0) (pc' := 138) dX12_byPolicy_137 rfl rfl (.head _) ?_
          refine r_iload_n (i := 3) (pc' := 139) dX12_byPolicy_138 rfl rfl (.tail _ (.tail _ (.tail _ (.head _)))) ?_
          refine r_V1gv (ci := 12) (pc' := 142) dX12_byPolicy_139 rfl lX12_284 rfl (by decide) (Nat.le_of_ble_eq_true rfl) (by first | assumption | rfl) (by omega) (tX12_cuts hm hRi hO (by omega) hF.1.2 hg3) (fun n139 P139 X139 Y139 e139 le139 => ?_)
          obtain ⟨h1v, h2v, h3v, hro139, hR139⟩ := e139
          subst h1v h2v h3v
          refine r_iinc (pc' := 145) dX12_byPolicy_142 rfl rfl (.tail _ (.tail _ (.head _))) (.s1 (.s1 (.here (.s1 .nil rfl rfl rfl)) rfl rfl rfl) rfl rfl rfl) ?_
          refine r_goto (t := 30) dX12_byPolicy_145 (by decide) ?_
          exact k2 _ _ _ (by omega) (by omega) (by omega) (by omega) (ho.trans ((ho38.trans hoi).r.trans hro139)) hR139
        · exfalso; omega
