/-! sets of contracts as longs -/
theorem l_sh : ∀ k : Nat, k < 40 → (((zi (k : Int)).toInt64 &&& 63).toBitVec.smod 64).toNat = k := by decide +kernel
theorem lbit_iff (x : Int64) {k : Nat} (hk : k < 40) : (x >>> ((zi (k : Int)).toInt64 &&& 63) &&& 1 = 1) ↔ x.toBitVec.getLsbD k = true := by
  have hs := l_sh k hk
  have e1 : (x >>> ((zi (k : Int)).toInt64 &&& 63)).toBitVec = x.toBitVec.sshiftRight k := by
    rw [Int64.toBitVec_shiftRight, BitVec.sshiftRight', hs]
  generalize hy : x >>> ((zi (k : Int)).toInt64 &&& 63) = y at *
  have e2 : x.toBitVec.getLsbD k = y.toBitVec.getLsbD 0 := by
    rw [e1, BitVec.getLsbD_sshiftRight]
    simp; omega
  rw [e2, ← Int64.toBitVec_inj, Int64.toBitVec_and]
  constructor
  · intro h
    have := congrArg (fun z : BitVec 64 => z.getLsbD 0) h
    simpa using this
  · intro h
    apply BitVec.eq_of_toNat_eq
    rw [BitVec.toNat_and]
    have h2 : y.toBitVec.toNat % 2 = 1 := by
      have : y.toBitVec.toNat.testBit 0 = true := h
      simpa [Nat.testBit_zero] using this
    show y.toBitVec.toNat &&& 1 = 1
    rw [Nat.and_one_is_mod]; exact h2
theorem lB_0 : lB 0 g0 := fun k hk => by
  rw [lbit_iff _ hk]
  show (0 : BitVec 64).getLsbD k = true ↔ false = true
  simp
theorem lB_1 {k : Nat} (hk : k < 40) : lB (1 <<< ((zi (k : Int)).toInt64 &&& 63)) (g1 k) := by
  have h : ∀ k : Nat, k < 40 → ∀ j : Nat, j < 40 → (((1 : Int64) <<< ((zi (k : Int)).toInt64 &&& 63) >>> ((zi (j : Int)).toInt64 &&& 63) &&& 1 = 1) ↔ (j == k) = true) := by decide +kernel
  exact fun j hj => h k hk j hj
theorem lB_or {a c : Int64} {A B : Nat → Bool} (ha : lB a A) (hc : lB c B) : lB (a ||| c) (fun k => A k || B k) := fun k hk => by
  have h1 := ha k hk
  have h2 := hc k hk
  rw [lbit_iff _ hk] at h1 h2 ⊢
  rw [Int64.toBitVec_or, BitVec.getLsbD_or, Bool.or_eq_true, Bool.or_eq_true, h1, h2]
theorem lB.congr {a : Int64} {A B : Nat → Bool} (ha : lB a A) (h : ∀ k, k < 40 → A k = B k) : lB a B := fun k hk => by rw [ha k hk, h k hk]
/-- the count with some cut: what they leave dead, too -/
def cnG (C : q_X) (b : Nat) (G T : Nat → Bool) (day : Int) : Int := bk_cnt C b G T day + q_sum (fun k => if G k = true then bk_dead C b (con b k) day else 0) 0 (xv C b 10).toNat
theorem cnG_0 (C : q_X) (b : Nat) (T : Nat → Bool) (day : Int) : cnG C b g0 T day = bk_cnt C b g0 T day := by
  unfold cnG; rw [q_sum_0 _ _ (fun i _ _ => if_neg (by simp [g0]))]; omega
theorem cnG_1 {C : q_X} {b k : Nat} (T : Nat → Bool) (day : Int) (hk : (k : Int) < xv C b 10) : cnG C b (g1 k) T day = bk_cnt C b (g1 k) T day + bk_dead C b (con b k) day := by
  unfold cnG
  rw [q_sum_congr (h := fun i => if i = k then bk_dead C b (con b k) day else 0) _ _ (fun i _ _ => by
    by_cases e : i = k
    · subst e; rw [if_pos (by simp [g1]), if_pos rfl]
    · rw [if_neg (by simp [g1, e]), if_neg e]), q_sum_ind k _ (by omega)]
def cnF (C : q_X) (b : Nat) (G T : Nat → Bool) (day : Int) (k : Nat) : Int := (if lhO C b G k = true then t_lik C b k (xv C (b + 4) 0).toNat + (if u_rk (xv C b 10).toNat (lhO C b G) (bk_hT C b T) k < bk_full C b day then bk_hT C b T k else bk_pT C b T k) else 0) + if G k = true then bk_dead C b (con b k) day else 0
theorem cnG_sum (C : q_X) (b : Nat) (G T : Nat → Bool) (day : Int) : cnG C b G T day = xv C (b + 2) (xv C b 0).toNat + q_sum (cnF C b G T day) 0 (xv C b 10).toNat := by
  unfold cnG bk_cnt u_ct
  have e : cnF C b G T day = fun k => (if lhO C b G k = true then t_lik C b k (xv C (b + 4) 0).toNat + (if u_rk (xv C b 10).toNat (lhO C b G) (bk_hT C b T) k < bk_full C b day then bk_hT C b T k else bk_pT C b T k) else 0) + if G k = true then bk_dead C b (con b k) day else 0 := rfl
  rw [e, q_sum_plus]
  have e2 : (fun k => bk_op C b k && !G k) = lhO C b G := rfl
  rw [e2]; exact Int.add_assoc _ _ _
set_option maxHeartbeats 4000000 in
set_option maxRecDepth 100000 in
theorem lX12_countOf {l : Launch} {g : q_G} {n : Nat} {P : q_P} {Y : q_Y} {X : q_X} (hm : isMod n P) {C : q_X} {b : Nat} (hR : RB C b (xv X 468)) (hO : bOk C b) {cu tu : Int64} {G T : Nat → Bool} (hG : lB cu G) (hT : lB tu T) {day : Int} (hday : q_in day) {X0 : q_X} (ho : hOut X0 X) (hL : LH1 C b G T X (xv C b 10).toNat) (hL2 : LH2 C b G T day X (xv C b 10).toNat) {r : Int} : ∀ (w i : Nat) (s : Int), i + w = (xv C b 10).toNat → s + q_sum (cnF C b G T day) i w = r → q_Tr l g mX12_countOf 5 (q_gi (fun r' n' P' X' Y' => n' = n ∧ P' = P ∧ Y' = Y ∧ hOut X0 X' ∧ r' = r)) 27 [(0, .ref (g.1 + 467)), (1, .long cu), (3, .long tu), (5, .int (zi day)), (6, .int (zi s)), (7, .int (zi (i : Int)))] [] n P X Y := by
  obtain ⟨m0, m2, m3, m8, m9, m14, m15, m16, m17, m18, m20, m22, m25, hnm9⟩ := id hm
  obtain ⟨o0, o1, o2, o3, o4, o5, o6, o10, oc, op0, opz, opi, om0, omi, olim⟩ := id hO
  intro w
  induction w with
  | zero =>
    intro i s hi hr
    refine r_iload (pc' := 29) dX12_countOf_27 rfl (.tail _ (.tail _ (.tail _ (.tail _ (.tail _ (.head _)))))) ?_
    refine r_aload_n (i := 0) (pc' := 30) dX12_countOf_29 rfl rfl (.head _) ?_
    refine r_getR (pc' := 33) dX12_countOf_30 rfl fX12_3 rfl (by first | assumption | rfl) (by omega) (by assumption) ?_
    refine r_bipush (pc' := 35) dX12_countOf_33 rfl (by decide) ?_
    refine r_iaload (pc' := 36) dX12_countOf_35 rfl (by first | assumption | rfl) (by omega) (by omega) (by omega) (by first | decide | omega) (show Int.toNat 7 = 7 from rfl) ?_
    rw [hR.m]
    refine r_icmp_ge (t := 130) (f := 39) dX12_countOf_36 (by decide) rfl (by first | omega | exact xv_in _ _ _) (by first | omega | exact xv_in _ _ _) (fun h36 => ?_) (fun h36 => ?_)
    · refine r_iload (pc' := 132) dX12_countOf_130 rfl (.tail _ (.tail _ (.tail _ (.tail _ (.head _))))) ?_
      refine r_ireturn dX12_countOf_132 rfl ?_
      exact ⟨_, rfl, rfl, rfl, rfl, ho, by rw [← hr]; simp [q_sum]⟩
    · exfalso; omega
  | succ w ih =>
    intro i s hi hr
    have hk : (i : Int) < xv C b 10 := by omega
    have hgi := hG i (by omega)
    obtain ⟨hL1, hLp⟩ := hL i (by omega)
    have hLf := hL2 i (by omega)
    have hbi := lh_in (G := G) (T := T) hO hk
    have hhb := bk_hT_b T (hO.c hk) o6.1
    have hop : lh C b G T i = -1 ↔ ¬ lhO C b G i = true := by
      unfold lh; split
      · rename_i q; exact ⟨fun z => by omega, fun z => absurd q z⟩
      · rename_i q; exact ⟨fun _ => q, fun _ => rfl⟩
    have hgn : G i = true → ¬ lhO C b G i = true := fun q => by unfold lhO; rw [q]; simp
    have hfc : cnF C b G T day i = (if lhO C b G i = true then t_lik C b i (xv C (b + 4) 0).toNat + (if u_rk (xv C b 10).toNat (lhO C b G) (bk_hT C b T) i < bk_full C b day then bk_hT C b T i else bk_pT C b T i) else 0) + if G i = true then bk_dead C b (con b i) day else 0 := rfl
    rw [q_sum] at hr
    refine r_iload (pc' := 29) dX12_countOf_27 rfl (.tail _ (.tail _ (.tail _ (.tail _ (.tail _ (.head _)))))) ?_
    refine r_aload_n (i := 0) (pc' := 30) dX12_countOf_29 rfl rfl (.head _) ?_
    refine r_getR (pc' := 33) dX12_countOf_30 rfl fX12_3 rfl (by first | assumption | rfl) (by omega) (by assumption) ?_
    refine r_bipush (pc' := 35) dX12_countOf_33 rfl (by decide) ?_
    refine r_iaload (pc' := 36) dX12_countOf_35 rfl (by first | assumption | rfl) (by omega) (by omega) (by omega) (by first | decide | omega) (show Int.toNat 7 = 7 from rfl) ?_
    rw [hR.m]
    refine r_icmp_ge (t := 130) (f := 39) dX12_countOf_36 (by decide) rfl (by first | omega | exact xv_in _ _ _) (by first | omega | exact xv_in _ _ _) (fun h36 => ?_) (fun h36 => ?_)
    · exfalso; omega
    · refine r_lload_n (i := 1) (pc' := 40) dX12_countOf_39 rfl rfl (.tail _ (.head _)) ?_
      refine r_iload (pc' := 42) dX12_countOf_40 rfl (.tail _ (.tail _ (.tail _ (.tail _ (.tail _ (.head _)))))) ?_
      refine r_lshr (pc' := 43) dX12_countOf_42 rfl rfl ?_
      refine r_lconst (pc' := 44) (z := 1) dX12_countOf_43 rfl rfl ?_
      refine r_land (pc' := 45) dX12_countOf_44 rfl ?_
      refine r_lconst (pc' := 46) (z := 1) dX12_countOf_45 rfl rfl ?_
      refine r_lcmp (pc' := 47) dX12_countOf_46 rfl ?_
      rw [lg_cmp_z]
      refine r_if_ne (t := 66) (f := 50) dX12_countOf_47 (by decide) rfl (by split <;> first | omega | (split <;> omega)) (fun h47 => ?_) (fun h47 => ?_)
      · refine r_aload_n (i := 0) (pc' := 67) dX12_countOf_66 rfl rfl (.head _) ?_
        refine r_getR (pc' := 70) dX12_countOf_67 rfl fX12_39 rfl (by first | assumption | rfl) (by omega) (by assumption) ?_
        refine r_iload (pc' := 72) dX12_countOf_70 rfl (.tail _ (.tail _ (.tail _ (.tail _ (.tail _ (.head _)))))) ?_
        refine r_iaload (pc' := 73) dX12_countOf_72 rfl (by first | assumption | rfl) (by omega) (by omega) (by omega) (by first | decide | omega) (Int.toNat_natCast _) ?_
        rw [hL1]
        refine r_iconst (pc' := 74) dX12_countOf_73 rfl ?_
        refine r_icmp_eq (t := 124) (f := 77) dX12_countOf_74 (by decide) rfl (by first | omega | exact xv_in _ _ _) (by first | omega | exact xv_in _ _ _) (fun h74 => ?_) (fun h74 => ?_)
        · refine r_iinc (pc' := 127) dX12_countOf_124 rfl rfl (.tail _ (.tail _ (.tail _ (.tail _ (.tail _ (.head _)))))) (.s1 (.s2 (.s2 (.s1 (.s1 (.here .nil) rfl rfl rfl) rfl rfl rfl) rfl (.inl rfl) (.inr rfl)) rfl (.inl rfl) (.inr rfl)) rfl rfl rfl) ?_
          refine r_goto (t := 27) dX12_countOf_127 (by decide) ?_
          refine ih (i + 1) _ (by omega) ?_
          rw [← hr, hfc]
          first
            | (have hgt := hgi.mp ((lg_ne_z _ _).mp h47)
               rw [if_neg (hgn hgt), if_pos hgt]; omega)
            | (have hgf : ¬ G i = true := fun q => h47 ((lg_ne_z _ _).mpr (hgi.mpr q))
               have hno := hop.mp h74
               rw [if_neg hno, if_neg hgf]; omega)
            | (have hgf : ¬ G i = true := fun q => h47 ((lg_ne_z _ _).mpr (hgi.mpr q))
               have hyes : lhO C b G i = true := Classical.not_not.mp (fun q => h74 (hop.mpr q))
               have hlh : lh C b G T i = bk_hT C b T i := by unfold lh; rw [if_pos hyes]
               have hpp := hLp hyes
               rw [if_pos hyes, if_neg hgf]
               by_cases hfu : lfull C b G T day i
               · rw [if_pos hfu] at h86
                 rw [if_pos hfu.2]; omega
               · rw [if_neg hfu] at h86
                 rw [if_neg (fun q => hfu ⟨hyes, q⟩)]; omega)
        · refine r_iload (pc' := 79) dX12_countOf_77 rfl (.tail _ (.tail _ (.tail _ (.tail _ (.head _))))) ?_
          refine r_aload_n (i := 0) (pc' := 80) dX12_countOf_79 rfl rfl (.head _) ?_
          refine r_getR (pc' := 83) dX12_countOf_80 rfl fX12_45 rfl (by first | assumption | rfl) (by omega) (by assumption) ?_
          refine r_iload (pc' := 85) dX12_countOf_83 rfl (.tail _ (.tail _ (.tail _ (.tail _ (.tail _ (.head _)))))) ?_
          refine r_zaload (pc' := 86) dX12_countOf_85 rfl (by first | assumption | rfl) (by omega) (by omega) (by omega) (by first | decide | omega) (Int.toNat_natCast _) ?_
          rw [hLf]
          refine r_if_eq (t := 99) (f := 89) dX12_countOf_86 (by decide) rfl (by split <;> omega) (fun h86 => ?_) (fun h86 => ?_)
          · refine r_aload_n (i := 0) (pc' := 100) dX12_countOf_99 rfl rfl (.head _) ?_
            refine r_getR (pc' := 103) dX12_countOf_100 rfl fX12_42 rfl (by first | assumption | rfl) (by omega) (by assumption) ?_
            refine r_iload (pc' := 105) dX12_countOf_103 rfl (.tail _ (.tail _ (.tail _ (.tail _ (.tail _ (.head _)))))) ?_
            refine r_iaload (pc' := 106) dX12_countOf_105 rfl (by first | assumption | rfl) (by omega) (by omega) (by omega) (by first | decide | omega) (Int.toNat_natCast _) ?_
            refine r_aload_n (i := 0) (pc' := 107) dX12_countOf_106 rfl rfl (.head _) ?_
            refine r_iload (pc' := 109) dX12_countOf_107 rfl (.tail _ (.tail _ (.tail _ (.tail _ (.tail _ (.head _)))))) ?_
            refine r_aload_n (i := 0) (pc' := 110) dX12_countOf_109 rfl rfl (.head _) ?_
            refine r_getR (pc' := 113) dX12_countOf_110 rfl fX12_3 rfl (by first | assumption | rfl) (by omega) (by assumption) ?_
            refine r_iconst (pc' := 114) dX12_countOf_113 rfl ?_
            refine r_iaload (pc' := 115) dX12_countOf_114 rfl (by first | assumption | rfl) (by omega) (by omega) (by omega) (by first | decide | omega) (show Int.toNat 0 = 0 from rfl) ?_
            rw [hR.z 0 (by decide)]
            refine r_iconst (pc' := 116) dX12_countOf_115 rfl ?_
            refine r_iconst (pc' := 117) dX12_countOf_116 rfl ?_
            refine r_V4p (ci := 12) (pc' := 120) dX12_countOf_117 rfl lX12_237 rfl (by decide) (Nat.le_of_ble_eq_true rfl) (by first | assumption | rfl) (by omega) (tX12_promisesOf hm hR hO (by omega) (by omega) (by omega) (by omega)) ?_
            rw [← pr_of, pr_of_1 hO, ← t_lik]
            refine r_iadd (pc' := 121) dX12_countOf_120 rfl ?_
            refine r_iadd (pc' := 122) dX12_countOf_121 rfl ?_
            refine r_istore (pc' := 124) dX12_countOf_122 rfl rfl (.s1 (.s2 (.s2 (.s1 (.here (.s1 .nil rfl rfl rfl)) rfl rfl rfl) rfl (.inl rfl) (.inr rfl)) rfl (.inl rfl) (.inr rfl)) rfl rfl rfl) ?_
            refine r_iinc (pc' := 127) dX12_countOf_124 rfl rfl (.tail _ (.tail _ (.tail _ (.tail _ (.tail _ (.head _)))))) (.s1 (.s2 (.s2 (.s1 (.s1 (.here .nil) rfl rfl rfl) rfl rfl rfl) rfl (.inl rfl) (.inr rfl)) rfl (.inl rfl) (.inr rfl)) rfl rfl rfl) ?_
            refine r_goto (t := 27) dX12_countOf_127 (by decide) ?_
            refine ih (i + 1) _ (by omega) ?_
            rw [← hr, hfc]
            first
              | (have hgt := hgi.mp ((lg_ne_z _ _).mp h47)
                 rw [if_neg (hgn hgt), if_pos hgt]; omega)
              | (have hgf : ¬ G i = true := fun q => h47 ((lg_ne_z _ _).mpr (hgi.mpr q))
                 have hno := hop.mp h74
                 rw [if_neg hno, if_neg hgf]; omega)
              | (have hgf : ¬ G i = true := fun q => h47 ((lg_ne_z _ _).mpr (hgi.mpr q))
                 have hyes : lhO C b G i = true := Classical.not_not.mp (fun q => h74 (hop.mpr q))
                 have hlh : lh C b G T i = bk_hT C b T i := by unfold lh; rw [if_pos hyes]
                 have hpp := hLp hyes
                 rw [if_pos hyes, if_neg hgf]
                 by_cases hfu : lfull C b G T day i
                 · rw [if_pos hfu] at h86
                   rw [if_pos hfu.2]; omega
                 · rw [if_neg hfu] at h86
                   rw [if_neg (fun q => hfu ⟨hyes, q⟩)]; omega)
          · refine r_aload_n (i := 0) (pc' := 90) dX12_countOf_89 rfl rfl (.head _) ?_
            refine r_getR (pc' := 93) dX12_countOf_90 rfl fX12_39 rfl (by first | assumption | rfl) (by omega) (by assumption) ?_
            refine r_iload (pc' := 95) dX12_countOf_93 rfl (.tail _ (.tail _ (.tail _ (.tail _ (.tail _ (.head _)))))) ?_
            refine r_iaload (pc' := 96) dX12_countOf_95 rfl (by first | assumption | rfl) (by omega) (by omega) (by omega) (by first | decide | omega) (Int.toNat_natCast _) ?_
            rw [hL1]
            refine r_goto (t := 106) dX12_countOf_96 (by decide) ?_
            refine r_aload_n (i := 0) (pc' := 107) dX12_countOf_106 rfl rfl (.head _) ?_
            refine r_iload (pc' := 109) dX12_countOf_107 rfl (.tail _ (.tail _ (.tail _ (.tail _ (.tail _ (.head _)))))) ?_
            refine r_aload_n (i := 0) (pc' := 110) dX12_countOf_109 rfl rfl (.head _) ?_
            refine r_getR (pc' := 113) dX12_countOf_110 rfl fX12_3 rfl (by first | assumption | rfl) (by omega) (by assumption) ?_
            refine r_iconst (pc' := 114) dX12_countOf_113 rfl ?_
            refine r_iaload (pc' := 115) dX12_countOf_114 rfl (by first | assumption | rfl) (by omega) (by omega) (by omega) (by first | decide | omega) (show Int.toNat 0 = 0 from rfl) ?_
            rw [hR.z 0 (by decide)]
            refine r_iconst (pc' := 116) dX12_countOf_115 rfl ?_
            refine r_iconst (pc' := 117) dX12_countOf_116 rfl ?_
            refine r_V4p (ci := 12) (pc' := 120) dX12_countOf_117 rfl lX12_237 rfl (by decide) (Nat.le_of_ble_eq_true rfl) (by first | assumption | rfl) (by omega) (tX12_promisesOf hm hR hO (by omega) (by omega) (by omega) (by omega)) ?_
            rw [← pr_of, pr_of_1 hO, ← t_lik]
            refine r_iadd (pc' := 121) dX12_countOf_120 rfl ?_
            refine r_iadd (pc' := 122) dX12_countOf_121 rfl ?_
            refine r_istore (pc' := 124) dX12_countOf_122 rfl rfl (.s1 (.s2 (.s2 (.s1 (.here (.s1 .nil rfl rfl rfl)) rfl rfl rfl) rfl (.inl rfl) (.inr rfl)) rfl (.inl rfl) (.inr rfl)) rfl rfl rfl) ?_
            refine r_iinc (pc' := 127) dX12_countOf_124 rfl rfl (.tail _ (.tail _ (.tail _ (.tail _ (.tail _ (.head _)))))) (.s1 (.s2 (.s2 (.s1 (.s1 (.here .nil) rfl rfl rfl) rfl rfl rfl) rfl (.inl rfl) (.inr rfl)) rfl (.inl rfl) (.inr rfl)) rfl rfl rfl) ?_
            refine r_goto (t := 27) dX12_countOf_127 (by decide) ?_
            refine ih (i + 1) _ (by omega) ?_
            rw [← hr, hfc]
            first
              | (have hgt := hgi.mp ((lg_ne_z _ _).mp h47)
                 rw [if_neg (hgn hgt), if_pos hgt]; omega)
              | (have hgf : ¬ G i = true := fun q => h47 ((lg_ne_z _ _).mpr (hgi.mpr q))
                 have hno := hop.mp h74
                 rw [if_neg hno, if_neg hgf]; omega)
              | (have hgf : ¬ G i = true := fun q => h47 ((lg_ne_z _ _).mpr (hgi.mpr q))
                 have hyes : lhO C b G i = true := Classical.not_not.mp (fun q => h74 (hop.mpr q))
                 have hlh : lh C b G T i = bk_hT C b T i := by unfold lh; rw [if_pos hyes]
                 have hpp := hLp hyes
                 rw [if_pos hyes, if_neg hgf]
                 by_cases hfu : lfull C b G T day i
                 · rw [if_pos hfu] at h86
                   rw [if_pos hfu.2]; omega
                 · rw [if_neg hfu] at h86
                   rw [if_neg (fun q => hfu ⟨hyes, q⟩)]; omega)
      · refine r_iload (pc' := 52) dX12_countOf_50 rfl (.tail _ (.tail _ (.tail _ (.tail _ (.head _))))) ?_
        refine r_aload_n (i := 0) (pc' := 53) dX12_countOf_52 rfl rfl (.head _) ?_
        refine r_iload (pc' := 55) dX12_countOf_53 rfl (.tail _ (.tail _ (.tail _ (.tail _ (.tail _ (.head _)))))) ?_
        refine r_iload (pc' := 57) dX12_countOf_55 rfl (.tail _ (.tail _ (.tail _ (.head _)))) ?_
        refine r_V2p (ci := 12) (pc' := 60) dX12_countOf_57 rfl lX12_218 rfl (by decide) (Nat.le_of_ble_eq_true rfl) (by first | assumption | rfl) (by omega) (tX12_deadNow (by assumption) (by assumption) (by assumption) (by assumption) (by first | omega | assumption)) ?_
        refine r_iadd (pc' := 61) dX12_countOf_60 rfl ?_
        refine r_istore (pc' := 63) dX12_countOf_61 rfl rfl (.s1 (.s2 (.s2 (.s1 (.here (.s1 .nil rfl rfl rfl)) rfl rfl rfl) rfl (.inl rfl) (.inr rfl)) rfl (.inl rfl) (.inr rfl)) rfl rfl rfl) ?_
        refine r_goto (t := 124) dX12_countOf_63 (by decide) ?_
        refine r_iinc (pc' := 127) dX12_countOf_124 rfl rfl (.tail _ (.tail _ (.tail _ (.tail _ (.tail _ (.head _)))))) (.s1 (.s2 (.s2 (.s1 (.s1 (.here .nil) rfl rfl rfl) rfl rfl rfl) rfl (.inl rfl) (.inr rfl)) rfl (.inl rfl) (.inr rfl)) rfl rfl rfl) ?_
        refine r_goto (t := 27) dX12_countOf_127 (by decide) ?_
        refine ih (i + 1) _ (by omega) ?_
        rw [← hr, hfc]
        first
          | (have hgt := hgi.mp ((lg_ne_z _ _).mp h47)
             rw [if_neg (hgn hgt), if_pos hgt]; omega)
          | (have hgf : ¬ G i = true := fun q => h47 ((lg_ne_z _ _).mpr (hgi.mpr q))
             have hno := hop.mp h74
             rw [if_neg hno, if_neg hgf]; omega)
          | (have hgf : ¬ G i = true := fun q => h47 ((lg_ne_z _ _).mpr (hgi.mpr q))
             have hyes : lhO C b G i = true := Classical.not_not.mp (fun q => h74 (hop.mpr q))
             have hlh : lh C b G T i = bk_hT C b T i := by unfold lh; rw [if_pos hyes]
             have hpp := hLp hyes
             rw [if_pos hyes, if_neg hgf]
             by_cases hfu : lfull C b G T day i
             · rw [if_pos hfu] at h86
               rw [if_pos hfu.2]; omega
             · rw [if_neg hfu] at h86
               rw [if_neg (fun q => hfu ⟨hyes, q⟩)]; omega)
set_option maxHeartbeats 4000000 in
set_option maxRecDepth 100000 in
theorem tX12_countOf {l : Launch} {g : q_G} {n : Nat} {P : q_P} {X : q_X} {Y : q_Y} (hm : isMod n P) {C : q_X} {b : Nat} (hR : RB C b (xv X 468)) (hO : bOk C b) {cu tu : Int64} {G T : Nat → Bool} (hG : lB cu G) (hT : lB tu T) {day : Int} (hday : q_in day) : q_Met l g mX12_countOf 5 [.ref (g.1 + 467), .long cu, .long tu, .int (zi day)] n P X Y (q_gi (fun r' n' P' X' Y' => n' = n ∧ P' = P ∧ Y' = Y ∧ hOut X X' ∧ r' = cnG C b G T day)) := by
  obtain ⟨m0, m2, m3, m8, m9, m14, m15, m16, m17, m18, m20, m22, m25, hnm9⟩ := id hm
  obtain ⟨o0, o1, o2, o3, o4, o5, o6, o10, oc, op0, opz, opi, om0, omi, olim⟩ := id hO
  refine q_enter (L := [(0, .ref (g.1 + 467)), (1, .long cu), (3, .long tu), (5, .int (zi day))]) (by decide) (Nat.le_of_ble_eq_true rfl) rfl ?_
  refine r_aload_n (i := 0) (pc' := 1) dX12_countOf_0 rfl rfl (.head _) ?_
  refine r_lload_n (i := 1) (pc' := 2) dX12_countOf_1 rfl rfl (.tail _ (.head _)) ?_
  refine r_lload_n (i := 3) (pc' := 3) dX12_countOf_2 rfl rfl (.tail _ (.tail _ (.head _))) ?_
  refine r_iload (pc' := 5) dX12_countOf_3 rfl (.tail _ (.tail _ (.tail _ (.head _)))) ?_
  refine r_V3gv (ci := 12) (pc' := 8) dX12_countOf_5 rfl lX12_233 rfl (by decide) (Nat.le_of_ble_eq_true rfl) (by first | assumption | rfl) (by omega) (tX12_layHits hm hR hO hG hT hday) (fun n5 P5 X5 Y5 e5 le5 => ?_)
  obtain ⟨h1v, h2v, h3v, ho, hL, hL2⟩ := e5
  subst h1v h2v h3v
  have hR2 : RB C b (xv X5 468) := by rw [ho.v (by omega)]; exact hR
  refine r_aload_n (i := 0) (pc' := 9) dX12_countOf_8 rfl rfl (.head _) ?_
  refine r_getR (pc' := 12) dX12_countOf_9 rfl fX12_3 rfl (by first | assumption | rfl) (by omega) (by assumption) ?_
  refine r_bipush (pc' := 14) dX12_countOf_12 rfl (by decide) ?_
  refine r_aload_n (i := 0) (pc' := 15) dX12_countOf_14 rfl rfl (.head _) ?_
  refine r_getR (pc' := 18) dX12_countOf_15 rfl fX12_3 rfl (by first | assumption | rfl) (by omega) (by assumption) ?_
  refine r_iconst (pc' := 19) dX12_countOf_18 rfl ?_
  refine r_iaload (pc' := 20) dX12_countOf_19 rfl (by first | assumption | rfl) (by omega) (by omega) (by omega) (by first | decide | omega) (show Int.toNat 0 = 0 from rfl) ?_
  rw [hR2.z 0 (by decide)]
  refine r_iadd (pc' := 21) dX12_countOf_20 rfl ?_
  refine r_iaload (pc' := 22) dX12_countOf_21 rfl (by first | assumption | rfl) (by omega) (by omega) (by omega) (by first | decide | omega) rfl ?_
  rw [hR2.dead (by omega)]
  refine r_istore (pc' := 24) dX12_countOf_22 rfl rfl (.s1 (.s2 (.s2 (.s1 .nil rfl rfl rfl) rfl (.inl rfl) (.inr rfl)) rfl (.inl rfl) (.inr rfl)) rfl rfl rfl) ?_
  refine r_iconst (pc' := 25) dX12_countOf_24 rfl ?_
  refine r_istore (pc' := 27) dX12_countOf_25 rfl rfl (.s1 (.s2 (.s2 (.s1 (.s1 .nil rfl rfl rfl) rfl rfl rfl) rfl (.inl rfl) (.inr rfl)) rfl (.inl rfl) (.inr rfl)) rfl rfl rfl) ?_
  rw [cnG_sum]
  exact lX12_countOf hm hR2 hO hG hT hday ho hL hL2 _ 0 _ (Nat.zero_add _) rfl
