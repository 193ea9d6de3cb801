/-! who counts: the reference's rows hits, partsNow, isFull -/
theorem lg_ne_z (a b : Int64) : (if a < b then (-1 : Int) else if a = b then 0 else 1) = 0 ↔ a = b := by
  have k1 := Int64.lt_iff_toInt_lt (x := a) (y := b)
  by_cases h : a < b
  · rw [if_pos h]
    constructor
    · intro q; omega
    · intro q; subst q; have := k1.mp h; omega
  · rw [if_neg h]
    by_cases e : a = b
    · rw [if_pos e]; exact ⟨fun _ => e, fun _ => rfl⟩
    · rw [if_neg e]; exact ⟨fun q => by omega, fun q => absurd q e⟩
/-- the set c of contracts is G -/
def lB (c : Int64) (G : Nat → Bool) : Prop := ∀ k : Nat, k < 40 → ((c >>> ((zi (k : Int)).toInt64 &&& 63) &&& 1 = 1) ↔ G k = true)
def lhO (C : q_X) (b : Nat) (G : Nat → Bool) (k : Nat) : Bool := bk_op C b k && !G k
def lh (C : q_X) (b : Nat) (G T : Nat → Bool) (k : Nat) : Int := if lhO C b G k = true then bk_hT C b T k else -1
def hOut (X X' : q_X) : Prop := ∀ a, a ≠ 475 → a ≠ 476 → a ≠ 477 → X' a = X a
theorem hOut.rfl {X : q_X} : hOut X X := fun _ _ _ _ => Eq.refl _
theorem hOut.trans {X X' X2 : q_X} (h : hOut X X') (h2 : hOut X' X2) : hOut X X2 := fun a a1 a2 a3 => (h2 a a1 a2 a3).trans (h a a1 a2 a3)
theorem hOut.up {X X' : q_X} (h : hOut X X') {i j : Nat} {v : Int32} (hi : i = 475 ∨ i = 476 ∨ i = 477) : hOut X (q_up X' i j v) := fun a a1 a2 a3 => by
  rw [← h a a1 a2 a3]; funext q; exact q_up_ne _ _ (by omega)
theorem hOut.v {X X' : q_X} (h : hOut X X') {a : Nat} (ha : a ≠ 475 ∧ a ≠ 476 ∧ a ≠ 477) : xv X' a = xv X a := by funext j; simp only [xv, h a ha.1 ha.2.1 ha.2.2]
theorem hOut.m {X X' : q_X} (h : hOut X X') : mOut X X' := fun a ha => h a (by omega) (by omega) (by omega)
/-- the first i are laid -/
def LH1 (C : q_X) (b : Nat) (G T : Nat → Bool) (X : q_X) (i : Nat) : Prop := ∀ j, j < i → xv X 475 j = lh C b G T j ∧ (lhO C b G j = true → xv X 476 j = bk_pT C b T j)
abbrev lfull (C : q_X) (b : Nat) (G T : Nat → Bool) (day : Int) (j : Nat) : Prop := lhO C b G j = true ∧ u_rk (xv C b 10).toNat (lhO C b G) (bk_hT C b T) j < bk_full C b day
def LH2 (C : q_X) (b : Nat) (G T : Nat → Bool) (day : Int) (X : q_X) (i : Nat) : Prop := ∀ j, j < i → xv X 477 j = if lfull C b G T day j then 1 else 0
theorem u_rkB {s : Nat} {O : Nat → Bool} {H : Nat → Int} {k : Nat} (hk : k < s) : 0 ≤ u_rk s O H k ∧ u_rk s O H k ≤ s - 1 := by
  unfold u_rk
  have h01 : ∀ i, 0 ≤ (if O i = true ∧ u_ah H i k then (1 : Int) else 0) ∧ (if O i = true ∧ u_ah H i k then (1 : Int) else 0) ≤ 1 := fun i => by split <;> omega
  refine ⟨q_sum_nn _ _ (fun i _ _ => (h01 i).1), ?_⟩
  have e := q_sum_add (fun i => if O i = true ∧ u_ah H i k then (1 : Int) else 0) k (s - k) 0
  rw [show k + (s - k) = s by omega] at e
  rw [e, show s - k = (s - k - 1) + 1 by omega, q_sum]
  have h1 := q_sum_ub (f := fun i => if O i = true ∧ u_ah H i k then (1 : Int) else 0) (B := 1) k 0 (fun i _ _ => (h01 i).2)
  have h2 := q_sum_ub (f := fun i => if O i = true ∧ u_ah H i k then (1 : Int) else 0) (B := 1) (s - k - 1) (0 + k + 1) (fun i _ _ => (h01 i).2)
  have h3 : (if O (0 + k) = true ∧ u_ah H (0 + k) k then (1 : Int) else 0) = 0 := if_neg (fun q => by have := q.2; unfold u_ah at this; rw [Nat.zero_add] at this; omega)
  rw [h3]; omega
theorem lh_rk {C : q_X} {b : Nat} {G T : Nat → Bool} {k : Nat} (hO : bOk C b) (hk : (k : Int) < xv C b 10) (hop : lhO C b G k = true) : q_sum (fun o => if lh C b G T k < lh C b G T o ∨ (lh C b G T o = lh C b G T k ∧ o < k) then (1 : Int) else 0) 0 (xv C b 10).toNat = u_rk (xv C b 10).toNat (lhO C b G) (bk_hT C b T) k := by
  have h6 := hO.2.2.2.2.2.2.1
  unfold u_rk
  refine q_sum_congr _ _ (fun i _ hi => ?_)
  have e1 : lh C b G T k = bk_hT C b T k := by unfold lh; rw [if_pos hop]
  have b1 := bk_hT_b T (hO.c hk) h6.1
  rw [e1]
  by_cases h : lhO C b G i = true
  · have e2 : lh C b G T i = bk_hT C b T i := by unfold lh; rw [if_pos h]
    rw [e2]
    by_cases q : bk_hT C b T k < bk_hT C b T i ∨ (bk_hT C b T i = bk_hT C b T k ∧ i < k)
    · rw [if_pos q, if_pos ⟨h, q⟩]
    · rw [if_neg q, if_neg (fun z => q z.2)]
  · have e2 : lh C b G T i = -1 := by unfold lh; rw [if_neg h]
    rw [e2, if_neg (by omega), if_neg (fun z => h z.1)]
set_option maxHeartbeats 4000000 in
set_option maxRecDepth 100000 in
theorem l1X12_layHits {l : Launch} {g : q_G} {n : Nat} {P : q_P} {Y : q_Y} (hm : isMod n P) {C : q_X} {b : Nat} (hO : bOk C b) {cu tu : Int64} {G T : Nat → Bool} (hG : lB cu G) (hT : lB tu T) {day : Int} (hday : q_in day) {K : q_K} {X0 : q_X} (kk : ∀ X, hOut X0 X → LH1 C b G T X (xv C b 10).toNat → q_Tr l g mX12_layHits 4 K 150 [(0, .ref (g.1 + 467)), (1, .long cu), (3, .long tu), (5, .int (zi day)), (6, .int (zi (xv C b 0)))] [] n P X Y) : ∀ (w i : Nat) (X : q_X), i + w = (xv C b 10).toNat → hOut X0 X → RB C b (xv X 468) → LH1 C b G T X i → q_Tr l g mX12_layHits 4 K 11 [(0, .ref (g.1 + 467)), (1, .long cu), (3, .long tu), (5, .int (zi day)), (6, .int (zi (xv C b 0))), (7, .int (zi (i : Int)))] [] n P X Y := by
  obtain ⟨m0, m2, m3, m8, m9, m14, m15, m16, m17, m18, m20, m22, m25, hnm9⟩ := id hm
  obtain ⟨o0, o1, o2, o3, o4, o5, o6, o10, oc, op0, opz, opi, om0, omi, olim⟩ := id hO
  intro w
  induction w with
  | zero =>
    intro i X hi ho hR hL
    refine r_iload (pc' := 13) dX12_layHits_11 rfl (.tail _ (.tail _ (.tail _ (.tail _ (.tail _ (.head _)))))) ?_
    refine r_aload_n (i := 0) (pc' := 14) dX12_layHits_13 rfl rfl (.head _) ?_
    refine r_getR (pc' := 17) dX12_layHits_14 rfl fX12_3 rfl (by first | assumption | rfl) (by omega) (by assumption) ?_
    refine r_bipush (pc' := 19) dX12_layHits_17 rfl (by decide) ?_
    refine r_iaload (pc' := 20) dX12_layHits_19 rfl (by first | assumption | rfl) (by omega) (by omega) (by omega) (by first | decide | omega) (show Int.toNat 7 = 7 from rfl) ?_
    rw [hR.m]
    refine r_icmp_ge (t := 150) (f := 23) dX12_layHits_20 (by decide) rfl (by first | omega | exact xv_in _ _ _) (by first | omega | exact xv_in _ _ _) (fun h20 => ?_) (fun h20 => ?_)
    · refine r_sub (.kp (.kp (.kp (.kp (.kp (.dr .nil)))))) ?_
      rw [show i = (xv C b 10).toNat by omega] at hL
      exact kk X ho hL
    · exfalso; omega
  | succ w ih =>
    intro i X hi ho hR hL
    have hk : (i : Int) < xv C b 10 := by omega
    have hck := hO.c hk
    obtain ⟨hf, hf2, hf3, hf4, hfj, hfs, hfg⟩ := id hck
    have hR2 : RB C b (xv (q_up X 475 i (zi (-1))) 468) := by rw [xv_up_row _ _ _ (by omega)]; exact hR
    have ho2 : hOut X0 (q_up X 475 i (zi (-1))) := ho.up (Or.inl rfl)
    have hgi := hG i (by omega)
    have hti := hT i (by omega)
    have hmb := bk_most_b hck o6.1
    have hbb := c_base_b hck (xv C b 0)
    have hhb := bk_hT_b T hck o6.1
    have hlst : c_last C (con b i) = xv C (con b i) 0 + xv C (con b i) 1 + xv C (con b i) 2 - 1 := rfl
    have hsh0 : bk_most C b (con b i) = 0 → bk_sh C b i = 0 := fun q => by
      have := c_piece_b (a := 0) (ov := c_last C (con b i) - xv C b 0 + 1) (i := 0) (by omega)
      unfold bk_sh; rw [q]; omega
    refine r_iload (pc' := 13) dX12_layHits_11 rfl (.tail _ (.tail _ (.tail _ (.tail _ (.tail _ (.head _)))))) ?_
    refine r_aload_n (i := 0) (pc' := 14) dX12_layHits_13 rfl rfl (.head _) ?_
    refine r_getR (pc' := 17) dX12_layHits_14 rfl fX12_3 rfl (by first | assumption | rfl) (by omega) (by assumption) ?_
    refine r_bipush (pc' := 19) dX12_layHits_17 rfl (by decide) ?_
    refine r_iaload (pc' := 20) dX12_layHits_19 rfl (by first | assumption | rfl) (by omega) (by omega) (by omega) (by first | decide | omega) (show Int.toNat 7 = 7 from rfl) ?_
    rw [hR.m]
    refine r_icmp_ge (t := 150) (f := 23) dX12_layHits_20 (by decide) rfl (by first | omega | exact xv_in _ _ _) (by first | omega | exact xv_in _ _ _) (fun h20 => ?_) (fun h20 => ?_)
    · exfalso; omega
    · refine r_aload_n (i := 0) (pc' := 24) dX12_layHits_23 rfl rfl (.head _) ?_
      refine r_getR (pc' := 27) dX12_layHits_24 rfl fX12_39 rfl (by first | assumption | rfl) (by omega) (by assumption) ?_
      refine r_iload (pc' := 29) dX12_layHits_27 rfl (.tail _ (.tail _ (.tail _ (.tail _ (.tail _ (.head _)))))) ?_
      refine r_iconst (pc' := 30) dX12_layHits_29 rfl ?_
      refine r_iastore (pc' := 31) dX12_layHits_30 rfl (by first | assumption | rfl) (by omega) (by omega) (by omega) (by first | decide | omega) (Int.toNat_natCast _) ?_
      refine r_aload_n (i := 0) (pc' := 32) dX12_layHits_31 rfl rfl (.head _) ?_
      refine r_iload (pc' := 34) dX12_layHits_32 rfl (.tail _ (.tail _ (.tail _ (.tail _ (.tail _ (.head _)))))) ?_
      refine r_V1p (ci := 12) (pc' := 37) dX12_layHits_34 rfl lX12_209 rfl (by decide) (Nat.le_of_ble_eq_true rfl) (by first | assumption | rfl) (by omega) (tX12_isOpen hm hR2 hO hk) ?_
      refine r_bif_eq (t := 144) (f := 40) dX12_layHits_37 (by decide) rfl (fun h37 => ?_) (fun h37 => ?_)
      · refine r_iinc (pc' := 147) dX12_layHits_144 rfl rfl (.tail _ (.tail _ (.tail _ (.tail _ (.tail _ (.head _)))))) (.s1 (.s2 (.s2 (.s1 (.s1 (.here .nil) rfl rfl rfl) rfl rfl rfl) rfl (.inl rfl) (.inr rfl)) rfl (.inl rfl) (.inr rfl)) rfl rfl rfl) ?_
        refine r_goto (t := 11) dX12_layHits_147 (by decide) ?_
        first
          | (exfalso; omega)
          | (have hno : lhO C b G i = false := by
               unfold lhO bk_op
               first
                 | (simp [h37]; done)
                 | (rw [hgi.mp ((lg_ne_z _ _).mp (Classical.not_not.mp h48))]; simp; done)
                 | (rw [hgi.mp ((lg_ne_z _ _).mp h48)]; simp; done)
             refine ih (i + 1) _ (by omega) ho2 hR2 (fun j hj => ?_)
             by_cases ej : j = i
             · subst ej
               exact ⟨by rw [xv_up_same _ _ _ (by omega), lh, if_neg (by rw [hno]; decide)], fun q => absurd (hno.symm.trans q) (by decide)⟩
             · have hl := hL j (by omega)
               rw [xv_up_ne _ _ (by omega), xv_up_ne _ _ (by omega)]
               exact hl)
          | (have hyes : lhO C b G i = true := by
               unfold lhO bk_op
               have : G i = false := by
                 cases hg : G i with
                 | false => rfl
                 | true => exact absurd ((lg_ne_z _ _).mpr (hgi.mpr hg)) h48
               rw [this]; simp [h37]
             have hTi : (T i = true ∧ (c_hit C (con b i) (xv C b 0) - bk_most C b (con b i) + bk_sh C b i = bk_hT C b T i ∧ c_parts C (con b i) (xv C b 0) + bk_sh C b i = bk_pT C b T i) ∧ (bk_most C b (con b i) = 0 → bk_sh C b i = 0)) ∨ (T i = false ∧ (c_hit C (con b i) (xv C b 0) = bk_hT C b T i ∧ c_parts C (con b i) (xv C b 0) = bk_pT C b T i)) := by
               cases ht : T i with
               | false => exact Or.inr ⟨rfl, by unfold bk_hT; rw [ht, if_neg (by decide)]; omega, by unfold bk_pT; rw [ht, if_neg (by decide)]; omega⟩
               | true => exact Or.inl ⟨rfl, ⟨by unfold bk_hT; rw [ht, if_pos rfl]; omega, by unfold bk_pT; rw [ht, if_pos rfl]⟩, hsh0⟩
             have hTb : T i = true ↔ (tu >>> ((zi (i : Int)).toInt64 &&& 63) &&& 1 = 1) := hti.symm
             rw [← lg_ne_z] at hTb
             refine ih (i + 1) _ (by omega) ((ho2.up (Or.inl rfl)).up (Or.inr (Or.inl rfl))) (by rw [xv_up_row _ _ _ (by omega), xv_up_row _ _ _ (by omega)]; exact hR2) (fun j hj => ?_)
             by_cases ej : j = i
             · subst ej
               have hpb := c_parts_b hck (xv C b 0)
               rw [xv_up_ne _ _ (by omega), lh, if_pos hyes]
               rcases hTi with ⟨t1, t2, t3⟩ | ⟨t1, t2⟩
               · have t4 := hTb.mp t1
                 first
                   | (exfalso; exact h62 t4)
                   | (have h0 := t3 (by omega)
                      exact ⟨by rw [xv_up_same _ _ _ (by omega)]; omega, fun _ => by rw [xv_up_same _ _ _ (by omega)]; omega⟩)
                   | exact ⟨by rw [xv_up_same _ _ _ (by omega)]; omega, fun _ => by rw [xv_up_same _ _ _ (by omega)]; omega⟩
               · have t4 : ¬ _ := fun q => absurd (t1.symm.trans (hTb.mpr q)) (by decide)
                 first
                   | (exfalso; exact t4 h62)
                   | exact ⟨by rw [xv_up_same _ _ _ (by omega)]; omega, fun _ => by rw [xv_up_same _ _ _ (by omega)]; omega⟩
             · have hl := hL j (by omega)
               simp (disch := omega) only [xv_up_ne]
               exact hl)
      · refine r_lload_n (i := 1) (pc' := 41) dX12_layHits_40 rfl rfl (.tail _ (.head _)) ?_
        refine r_iload (pc' := 43) dX12_layHits_41 rfl (.tail _ (.tail _ (.tail _ (.tail _ (.tail _ (.head _)))))) ?_
        refine r_lshr (pc' := 44) dX12_layHits_43 rfl rfl ?_
        refine r_lconst (pc' := 45) (z := 1) dX12_layHits_44 rfl rfl ?_
        refine r_land (pc' := 46) dX12_layHits_45 rfl ?_
        refine r_lconst (pc' := 47) (z := 1) dX12_layHits_46 rfl rfl ?_
        refine r_lcmp (pc' := 48) dX12_layHits_47 rfl ?_
        rw [lg_cmp_z]
        refine r_if_ne (t := 54) (f := 51) dX12_layHits_48 (by decide) rfl (by split <;> first | omega | (split <;> omega)) (fun h48 => ?_) (fun h48 => ?_)
        · refine r_lload_n (i := 3) (pc' := 55) dX12_layHits_54 rfl rfl (.tail _ (.tail _ (.head _))) ?_
          refine r_iload (pc' := 57) dX12_layHits_55 rfl (.tail _ (.tail _ (.tail _ (.tail _ (.tail _ (.head _)))))) ?_
          refine r_lshr (pc' := 58) dX12_layHits_57 rfl rfl ?_
          refine r_lconst (pc' := 59) (z := 1) dX12_layHits_58 rfl rfl ?_
          refine r_land (pc' := 60) dX12_layHits_59 rfl ?_
          refine r_lconst (pc' := 61) (z := 1) dX12_layHits_60 rfl rfl ?_
          refine r_lcmp (pc' := 62) dX12_layHits_61 rfl ?_
          rw [lg_cmp_z]
          refine r_if_ne (t := 74) (f := 65) dX12_layHits_62 (by decide) rfl (by split <;> first | omega | (split <;> omega)) (fun h62 => ?_) (fun h62 => ?_)
          · refine r_iconst (pc' := 75) dX12_layHits_74 rfl ?_
            refine r_istore (pc' := 77) dX12_layHits_75 rfl rfl (.s1 (.s2 (.s2 (.s1 (.s1 (.s1 .nil rfl rfl rfl) rfl rfl rfl) rfl rfl rfl) rfl (.inl rfl) (.inr rfl)) rfl (.inl rfl) (.inr rfl)) rfl rfl rfl) ?_
            refine r_iload (pc' := 79) dX12_layHits_77 rfl (.tail _ (.tail _ (.tail _ (.tail _ (.tail _ (.tail _ (.head _))))))) ?_
            refine r_if_ne (t := 86) (f := 82) dX12_layHits_79 (by decide) rfl (by first | omega | exact xv_in _ _ _) (fun h79 => ?_) (fun h79 => ?_)
            · refine r_iload (pc' := 88) dX12_layHits_86 rfl (.tail _ (.tail _ (.tail _ (.tail _ (.tail _ (.tail _ (.head _))))))) ?_
              refine r_aload_n (i := 0) (pc' := 89) dX12_layHits_88 rfl rfl (.head _) ?_
              refine r_iload (pc' := 91) dX12_layHits_89 rfl (.tail _ (.tail _ (.tail _ (.tail _ (.tail _ (.head _)))))) ?_
              refine r_iload (pc' := 93) dX12_layHits_91 rfl (.tail _ (.tail _ (.tail _ (.tail _ (.head _))))) ?_
              refine r_V2p (ci := 12) (pc' := 96) dX12_layHits_93 rfl lX12_125 rfl (by decide) (Nat.le_of_ble_eq_true rfl) (by first | assumption | rfl) (by omega) (tX12_partsFrom hm hR2 hO hk (by omega)) ?_
              refine r_iconst (pc' := 97) dX12_layHits_96 rfl ?_
              refine r_S3p (pc' := 100) dX12_layHits_97 rfl lX12_128 (by decide) (Nat.le_of_ble_eq_true rfl) (tX12_pieceOf (ov := c_last C (con b i) - xv C b 0 + 1) (by omega) (by omega) (by omega)) ?_
              try rw [show c_piece (bk_most C b (con b i)) (c_last C (con b i) - xv C b 0 + 1) 0 = bk_sh C b i from rfl]
              refine r_istore (pc' := 102) dX12_layHits_100 rfl rfl (.s1 (.s2 (.s2 (.s1 (.s1 (.s1 (.s1 .nil rfl rfl rfl) rfl rfl rfl) rfl rfl rfl) rfl rfl rfl) rfl (.inl rfl) (.inr rfl)) rfl (.inl rfl) (.inr rfl)) rfl rfl rfl) ?_
              refine r_aload_n (i := 0) (pc' := 103) dX12_layHits_102 rfl rfl (.head _) ?_
              refine r_getR (pc' := 106) dX12_layHits_103 rfl fX12_39 rfl (by first | assumption | rfl) (by omega) (by assumption) ?_
              refine r_iload (pc' := 108) dX12_layHits_106 rfl (.tail _ (.tail _ (.tail _ (.tail _ (.tail _ (.head _)))))) ?_
              refine r_aload_n (i := 0) (pc' := 109) dX12_layHits_108 rfl rfl (.head _) ?_
              refine r_iload (pc' := 111) dX12_layHits_109 rfl (.tail _ (.tail _ (.tail _ (.tail _ (.tail _ (.head _)))))) ?_
              refine r_iload (pc' := 113) dX12_layHits_111 rfl (.tail _ (.tail _ (.tail _ (.tail _ (.head _))))) ?_
              refine r_V2p (ci := 12) (pc' := 116) dX12_layHits_113 rfl lX12_230 rfl (by decide) (Nat.le_of_ble_eq_true rfl) (by first | assumption | rfl) (by omega) (tX12_hitOf hm hR2 hO hk (by omega)) ?_
              refine r_iload (pc' := 118) dX12_layHits_116 rfl (.tail _ (.tail _ (.tail _ (.tail _ (.tail _ (.tail _ (.head _))))))) ?_
              refine r_isub (pc' := 119) dX12_layHits_118 rfl ?_
              refine r_iload (pc' := 121) dX12_layHits_119 rfl (.tail _ (.tail _ (.tail _ (.tail _ (.tail _ (.tail _ (.tail _ (.head _)))))))) ?_
              refine r_iadd (pc' := 122) dX12_layHits_121 rfl ?_
              refine r_iastore (pc' := 123) dX12_layHits_122 rfl (by first | assumption | rfl) (by omega) (by omega) (by omega) (by first | decide | omega) (Int.toNat_natCast _) ?_
              refine r_aload_n (i := 0) (pc' := 124) dX12_layHits_123 rfl rfl (.head _) ?_
              refine r_getR (pc' := 127) dX12_layHits_124 rfl fX12_42 rfl (by first | assumption | rfl) (by omega) (by assumption) ?_
              refine r_iload (pc' := 129) dX12_layHits_127 rfl (.tail _ (.tail _ (.tail _ (.tail _ (.tail _ (.head _)))))) ?_
              refine r_aload_n (i := 0) (pc' := 130) dX12_layHits_129 rfl rfl (.head _) ?_
              refine r_iload (pc' := 132) dX12_layHits_130 rfl (.tail _ (.tail _ (.tail _ (.tail _ (.tail _ (.head _)))))) ?_
              refine r_bipush (pc' := 134) dX12_layHits_132 rfl (by decide) ?_
              refine r_iload (pc' := 136) dX12_layHits_134 rfl (.tail _ (.tail _ (.tail _ (.tail _ (.head _))))) ?_
              refine r_iadd (pc' := 137) dX12_layHits_136 rfl ?_
              refine r_V2p (ci := 12) (pc' := 140) dX12_layHits_137 rfl lX12_115 rfl (by decide) (Nat.le_of_ble_eq_true rfl) (by first | assumption | rfl) (by omega) (tO_p hm (by rw [xv_up_row _ _ _ (by omega)]; exact hR2) hO hk (by omega)) ?_
              refine r_iload (pc' := 142) dX12_layHits_140 rfl (.tail _ (.tail _ (.tail _ (.tail _ (.tail _ (.tail _ (.tail _ (.head _)))))))) ?_
              refine r_iadd (pc' := 143) dX12_layHits_142 rfl ?_
              refine r_iastore (pc' := 144) dX12_layHits_143 rfl (by first | assumption | rfl) (by omega) (by omega) (by omega) (by first | decide | omega) (Int.toNat_natCast _) ?_
              refine r_iinc (pc' := 147) dX12_layHits_144 rfl rfl (.tail _ (.tail _ (.tail _ (.tail _ (.tail _ (.head _)))))) (.s1 (.s2 (.s2 (.s1 (.s1 (.here (.s1 (.s1 .nil rfl rfl rfl) rfl rfl rfl)) rfl rfl rfl) rfl rfl rfl) rfl (.inl rfl) (.inr rfl)) rfl (.inl rfl) (.inr rfl)) rfl rfl rfl) ?_
              refine r_goto (t := 11) dX12_layHits_147 (by decide) ?_
              refine r_sub (.kp (.kp (.kp (.kp (.kp (.kp (.dr (.dr .nil)))))))) ?_
              first
                | (exfalso; omega)
                | (have hno : lhO C b G i = false := by
                     unfold lhO bk_op
                     first
                       | (simp [h37]; done)
                       | (rw [hgi.mp ((lg_ne_z _ _).mp (Classical.not_not.mp h48))]; simp; done)
                       | (rw [hgi.mp ((lg_ne_z _ _).mp h48)]; simp; done)
                   refine ih (i + 1) _ (by omega) ho2 hR2 (fun j hj => ?_)
                   by_cases ej : j = i
                   · subst ej
                     exact ⟨by rw [xv_up_same _ _ _ (by omega), lh, if_neg (by rw [hno]; decide)], fun q => absurd (hno.symm.trans q) (by decide)⟩
                   · have hl := hL j (by omega)
                     rw [xv_up_ne _ _ (by omega), xv_up_ne _ _ (by omega)]
                     exact hl)
                | (have hyes : lhO C b G i = true := by
                     unfold lhO bk_op
                     have : G i = false := by
                       cases hg : G i with
                       | false => rfl
                       | true => exact absurd ((lg_ne_z _ _).mpr (hgi.mpr hg)) h48
                     rw [this]; simp [h37]
                   have hTi : (T i = true ∧ (c_hit C (con b i) (xv C b 0) - bk_most C b (con b i) + bk_sh C b i = bk_hT C b T i ∧ c_parts C (con b i) (xv C b 0) + bk_sh C b i = bk_pT C b T i) ∧ (bk_most C b (con b i) = 0 → bk_sh C b i = 0)) ∨ (T i = false ∧ (c_hit C (con b i) (xv C b 0) = bk_hT C b T i ∧ c_parts C (con b i) (xv C b 0) = bk_pT C b T i)) := by
                     cases ht : T i with
                     | false => exact Or.inr ⟨rfl, by unfold bk_hT; rw [ht, if_neg (by decide)]; omega, by unfold bk_pT; rw [ht, if_neg (by decide)]; omega⟩
                     | true => exact Or.inl ⟨rfl, ⟨by unfold bk_hT; rw [ht, if_pos rfl]; omega, by unfold bk_pT; rw [ht, if_pos rfl]⟩, hsh0⟩
                   have hTb : T i = true ↔ (tu >>> ((zi (i : Int)).toInt64 &&& 63) &&& 1 = 1) := hti.symm
                   rw [← lg_ne_z] at hTb
                   refine ih (i + 1) _ (by omega) ((ho2.up (Or.inl rfl)).up (Or.inr (Or.inl rfl))) (by rw [xv_up_row _ _ _ (by omega), xv_up_row _ _ _ (by omega)]; exact hR2) (fun j hj => ?_)
                   by_cases ej : j = i
                   · subst ej
                     have hpb := c_parts_b hck (xv C b 0)
                     rw [xv_up_ne _ _ (by omega), lh, if_pos hyes]
                     rcases hTi with ⟨t1, t2, t3⟩ | ⟨t1, t2⟩
                     · have t4 := hTb.mp t1
                       first
                         | (exfalso; exact h62 t4)
                         | (have h0 := t3 (by omega)
                            exact ⟨by rw [xv_up_same _ _ _ (by omega)]; omega, fun _ => by rw [xv_up_same _ _ _ (by omega)]; omega⟩)
                         | exact ⟨by rw [xv_up_same _ _ _ (by omega)]; omega, fun _ => by rw [xv_up_same _ _ _ (by omega)]; omega⟩
                     · have t4 : ¬ _ := fun q => absurd (t1.symm.trans (hTb.mpr q)) (by decide)
                       first
                         | (exfalso; exact t4 h62)
                         | exact ⟨by rw [xv_up_same _ _ _ (by omega)]; omega, fun _ => by rw [xv_up_same _ _ _ (by omega)]; omega⟩
                   · have hl := hL j (by omega)
                     simp (disch := omega) only [xv_up_ne]
                     exact hl)
            · refine r_iconst (pc' := 83) dX12_layHits_82 rfl ?_
              refine r_goto (t := 100) dX12_layHits_83 (by decide) ?_
              refine r_istore (pc' := 102) dX12_layHits_100 rfl rfl (.s1 (.s2 (.s2 (.s1 (.s1 (.s1 (.s1 .nil rfl rfl rfl) rfl rfl rfl) rfl rfl rfl) rfl rfl rfl) rfl (.inl rfl) (.inr rfl)) rfl (.inl rfl) (.inr rfl)) rfl rfl rfl) ?_
              refine r_aload_n (i := 0) (pc' := 103) dX12_layHits_102 rfl rfl (.head _) ?_
              refine r_getR (pc' := 106) dX12_layHits_103 rfl fX12_39 rfl (by first | assumption | rfl) (by omega) (by assumption) ?_
              refine r_iload (pc' := 108) dX12_layHits_106 rfl (.tail _ (.tail _ (.tail _ (.tail _ (.tail _ (.head _)))))) ?_
              refine r_aload_n (i := 0) (pc' := 109) dX12_layHits_108 rfl rfl (.head _) ?_
              refine r_iload (pc' := 111) dX12_layHits_109 rfl (.tail _ (.tail _ (.tail _ (.tail _ (.tail _ (.head _)))))) ?_
              refine r_iload (pc' := 113) dX12_layHits_111 rfl (.tail _ (.tail _ (.tail _ (.tail _ (.head _))))) ?_
              refine r_V2p (ci := 12) (pc' := 116) dX12_layHits_113 rfl lX12_230 rfl (by decide) (Nat.le_of_ble_eq_true rfl) (by first | assumption | rfl) (by omega) (tX12_hitOf hm hR2 hO hk (by omega)) ?_
              refine r_iload (pc' := 118) dX12_layHits_116 rfl (.tail _ (.tail _ (.tail _ (.tail _ (.tail _ (.tail _ (.head _))))))) ?_
              refine r_isub (pc' := 119) dX12_layHits_118 rfl ?_
              refine r_iload (pc' := 121) dX12_layHits_119 rfl (.tail _ (.tail _ (.tail _ (.tail _ (.tail _ (.tail _ (.tail _ (.head _)))))))) ?_
              refine r_iadd (pc' := 122) dX12_layHits_121 rfl ?_
              refine r_iastore (pc' := 123) dX12_layHits_122 rfl (by first | assumption | rfl) (by omega) (by omega) (by omega) (by first | decide | omega) (Int.toNat_natCast _) ?_
              refine r_aload_n (i := 0) (pc' := 124) dX12_layHits_123 rfl rfl (.head _) ?_
              refine r_getR (pc' := 127) dX12_layHits_124 rfl fX12_42 rfl (by first | assumption | rfl) (by omega) (by assumption) ?_
              refine r_iload (pc' := 129) dX12_layHits_127 rfl (.tail _ (.tail _ (.tail _ (.tail _ (.tail _ (.head _)))))) ?_
              refine r_aload_n (i := 0) (pc' := 130) dX12_layHits_129 rfl rfl (.head _) ?_
              refine r_iload (pc' := 132) dX12_layHits_130 rfl (.tail _ (.tail _ (.tail _ (.tail _ (.tail _ (.head _)))))) ?_
              refine r_bipush (pc' := 134) dX12_layHits_132 rfl (by decide) ?_
              refine r_iload (pc' := 136) dX12_layHits_134 rfl (.tail _ (.tail _ (.tail _ (.tail _ (.head _))))) ?_
              refine r_iadd (pc' := 137) dX12_layHits_136 rfl ?_
              refine r_V2p (ci := 12) (pc' := 140) dX12_layHits_137 rfl lX12_115 rfl (by decide) (Nat.le_of_ble_eq_true rfl) (by first | assumption | rfl) (by omega) (tO_p hm (by rw [xv_up_row _ _ _ (by omega)]; exact hR2) hO hk (by omega)) ?_
              refine r_iload (pc' := 142) dX12_layHits_140 rfl (.tail _ (.tail _ (.tail _ (.tail _ (.tail _ (.tail _ (.tail _ (.head _)))))))) ?_
              refine r_iadd (pc' := 143) dX12_layHits_142 rfl ?_
              refine r_iastore (pc' := 144) dX12_layHits_143 rfl (by first | assumption | rfl) (by omega) (by omega) (by omega) (by first | decide | omega) (Int.toNat_natCast _) ?_
              refine r_iinc (pc' := 147) dX12_layHits_144 rfl rfl (.tail _ (.tail _ (.tail _ (.tail _ (.tail _ (.head _)))))) (.s1 (.s2 (.s2 (.s1 (.s1 (.here (.s1 (.s1 .nil rfl rfl rfl) rfl rfl rfl)) rfl rfl rfl) rfl rfl rfl) rfl (.inl rfl) (.inr rfl)) rfl (.inl rfl) (.inr rfl)) rfl rfl rfl) ?_
              refine r_goto (t := 11) dX12_layHits_147 (by decide) ?_
              refine r_sub (.kp (.kp (.kp (.kp (.kp (.kp (.dr (.dr .nil)))))))) ?_
              first
                | (exfalso; omega)
                | (have hno : lhO C b G i = false := by
                     unfold lhO bk_op
                     first
                       | (simp [h37]; done)
                       | (rw [hgi.mp ((lg_ne_z _ _).mp (Classical.not_not.mp h48))]; simp; done)
                       | (rw [hgi.mp ((lg_ne_z _ _).mp h48)]; simp; done)
                   refine ih (i + 1) _ (by omega) ho2 hR2 (fun j hj => ?_)
                   by_cases ej : j = i
                   · subst ej
                     exact ⟨by rw [xv_up_same _ _ _ (by omega), lh, if_neg (by rw [hno]; decide)], fun q => absurd (hno.symm.trans q) (by decide)⟩
                   · have hl := hL j (by omega)
                     rw [xv_up_ne _ _ (by omega), xv_up_ne _ _ (by omega)]
                     exact hl)
                | (have hyes : lhO C b G i = true := by
                     unfold lhO bk_op
                     have : G i = false := by
                       cases hg : G i with
                       | false => rfl
                       | true => exact absurd ((lg_ne_z _ _).mpr (hgi.mpr hg)) h48
                     rw [this]; simp [h37]
                   have hTi : (T i = true ∧ (c_hit C (con b i) (xv C b 0) - bk_most C b (con b i) + bk_sh C b i = bk_hT C b T i ∧ c_parts C (con b i) (xv C b 0) + bk_sh C b i = bk_pT C b T i) ∧ (bk_most C b (con b i) = 0 → bk_sh C b i = 0)) ∨ (T i = false ∧ (c_hit C (con b i) (xv C b 0) = bk_hT C b T i ∧ c_parts C (con b i) (xv C b 0) = bk_pT C b T i)) := by
                     cases ht : T i with
                     | false => exact Or.inr ⟨rfl, by unfold bk_hT; rw [ht, if_neg (by decide)]; omega, by unfold bk_pT; rw [ht, if_neg (by decide)]; omega⟩
                     | true => exact Or.inl ⟨rfl, ⟨by unfold bk_hT; rw [ht, if_pos rfl]; omega, by unfold bk_pT; rw [ht, if_pos rfl]⟩, hsh0⟩
                   have hTb : T i = true ↔ (tu >>> ((zi (i : Int)).toInt64 &&& 63) &&& 1 = 1) := hti.symm
                   rw [← lg_ne_z] at hTb
                   refine ih (i + 1) _ (by omega) ((ho2.up (Or.inl rfl)).up (Or.inr (Or.inl rfl))) (by rw [xv_up_row _ _ _ (by omega), xv_up_row _ _ _ (by omega)]; exact hR2) (fun j hj => ?_)
                   by_cases ej : j = i
                   · subst ej
                     have hpb := c_parts_b hck (xv C b 0)
                     rw [xv_up_ne _ _ (by omega), lh, if_pos hyes]
                     rcases hTi with ⟨t1, t2, t3⟩ | ⟨t1, t2⟩
                     · have t4 := hTb.mp t1
                       first
                         | (exfalso; exact h62 t4)
                         | (have h0 := t3 (by omega)
                            exact ⟨by rw [xv_up_same _ _ _ (by omega)]; omega, fun _ => by rw [xv_up_same _ _ _ (by omega)]; omega⟩)
                         | exact ⟨by rw [xv_up_same _ _ _ (by omega)]; omega, fun _ => by rw [xv_up_same _ _ _ (by omega)]; omega⟩
                     · have t4 : ¬ _ := fun q => absurd (t1.symm.trans (hTb.mpr q)) (by decide)
                       first
                         | (exfalso; exact t4 h62)
                         | exact ⟨by rw [xv_up_same _ _ _ (by omega)]; omega, fun _ => by rw [xv_up_same _ _ _ (by omega)]; omega⟩
                   · have hl := hL j (by omega)
                     simp (disch := omega) only [xv_up_ne]
                     exact hl)
          · refine r_aload_n (i := 0) (pc' := 66) dX12_layHits_65 rfl rfl (.head _) ?_
            refine r_iload (pc' := 68) dX12_layHits_66 rfl (.tail _ (.tail _ (.tail _ (.tail _ (.tail _ (.head _)))))) ?_
            refine r_V1p (ci := 12) (pc' := 71) dX12_layHits_68 rfl lX12_227 rfl (by decide) (Nat.le_of_ble_eq_true rfl) (by first | assumption | rfl) (by omega) (tX12_mostOf hm hR2 hO hk) ?_
            refine r_goto (t := 75) dX12_layHits_71 (by decide) ?_
            refine r_istore (pc' := 77) dX12_layHits_75 rfl rfl (.s1 (.s2 (.s2 (.s1 (.s1 (.s1 .nil rfl rfl rfl) rfl rfl rfl) rfl rfl rfl) rfl (.inl rfl) (.inr rfl)) rfl (.inl rfl) (.inr rfl)) rfl rfl rfl) ?_
            refine r_iload (pc' := 79) dX12_layHits_77 rfl (.tail _ (.tail _ (.tail _ (.tail _ (.tail _ (.tail _ (.head _))))))) ?_
            refine r_if_ne (t := 86) (f := 82) dX12_layHits_79 (by decide) rfl (by first | omega | exact xv_in _ _ _) (fun h79 => ?_) (fun h79 => ?_)
            · refine r_iload (pc' := 88) dX12_layHits_86 rfl (.tail _ (.tail _ (.tail _ (.tail _ (.tail _ (.tail _ (.head _))))))) ?_
              refine r_aload_n (i := 0) (pc' := 89) dX12_layHits_88 rfl rfl (.head _) ?_
              refine r_iload (pc' := 91) dX12_layHits_89 rfl (.tail _ (.tail _ (.tail _ (.tail _ (.tail _ (.head _)))))) ?_
              refine r_iload (pc' := 93) dX12_layHits_91 rfl (.tail _ (.tail _ (.tail _ (.tail _ (.head _))))) ?_
              refine r_V2p (ci := 12) (pc' := 96) dX12_layHits_93 rfl lX12_125 rfl (by decide) (Nat.le_of_ble_eq_true rfl) (by first | assumption | rfl) (by omega) (tX12_partsFrom hm hR2 hO hk (by omega)) ?_
              refine r_iconst (pc' := 97) dX12_layHits_96 rfl ?_
              refine r_S3p (pc' := 100) dX12_layHits_97 rfl lX12_128 (by decide) (Nat.le_of_ble_eq_true rfl) (tX12_pieceOf (ov := c_last C (con b i) - xv C b 0 + 1) (by omega) (by omega) (by omega)) ?_
              try rw [show c_piece (bk_most C b (con b i)) (c_last C (con b i) - xv C b 0 + 1) 0 = bk_sh C b i from rfl]
              refine r_istore (pc' := 102) dX12_layHits_100 rfl rfl (.s1 (.s2 (.s2 (.s1 (.s1 (.s1 (.s1 .nil rfl rfl rfl) rfl rfl rfl) rfl rfl rfl) rfl rfl rfl) rfl (.inl rfl) (.inr rfl)) rfl (.inl rfl) (.inr rfl)) rfl rfl rfl) ?_
              refine r_aload_n (i := 0) (pc' := 103) dX12_layHits_102 rfl rfl (.head _) ?_
              refine r_getR (pc' := 106) dX12_layHits_103 rfl fX12_39 rfl (by first | assumption | rfl) (by omega) (by assumption) ?_
              refine r_iload (pc' := 108) dX12_layHits_106 rfl (.tail _ (.tail _ (.tail _ (.tail _ (.tail _ (.head _)))))) ?_
              refine r_aload_n (i := 0) (pc' := 109) dX12_layHits_108 rfl rfl (.head _) ?_
              refine r_iload (pc' := 111) dX12_layHits_109 rfl (.tail _ (.tail _ (.tail _ (.tail _ (.tail _ (.head _)))))) ?_
              refine r_iload (pc' := 113) dX12_layHits_111 rfl (.tail _ (.tail _ (.tail _ (.tail _ (.head _))))) ?_
              refine r_V2p (ci := 12) (pc' := 116) dX12_layHits_113 rfl lX12_230 rfl (by decide) (Nat.le_of_ble_eq_true rfl) (by first | assumption | rfl) (by omega) (tX12_hitOf hm hR2 hO hk (by omega)) ?_
              refine r_iload (pc' := 118) dX12_layHits_116 rfl (.tail _ (.tail _ (.tail _ (.tail _ (.tail _ (.tail _ (.head _))))))) ?_
              refine r_isub (pc' := 119) dX12_layHits_118 rfl ?_
              refine r_iload (pc' := 121) dX12_layHits_119 rfl (.tail _ (.tail _ (.tail _ (.tail _ (.tail _ (.tail _ (.tail _ (.head _)))))))) ?_
              refine r_iadd (pc' := 122) dX12_layHits_121 rfl ?_
              refine r_iastore (pc' := 123) dX12_layHits_122 rfl (by first | assumption | rfl) (by omega) (by omega) (by omega) (by first | decide | omega) (Int.toNat_natCast _) ?_
              refine r_aload_n (i := 0) (pc' := 124) dX12_layHits_123 rfl rfl (.head _) ?_
              refine r_getR (pc' := 127) dX12_layHits_124 rfl fX12_42 rfl (by first | assumption | rfl) (by omega) (by assumption) ?_
              refine r_iload (pc' := 129) dX12_layHits_127 rfl (.tail _ (.tail _ (.tail _ (.tail _ (.tail _ (.head _)))))) ?_
              refine r_aload_n (i := 0) (pc' := 130) dX12_layHits_129 rfl rfl (.head _) ?_
              refine r_iload (pc' := 132) dX12_layHits_130 rfl (.tail _ (.tail _ (.tail _ (.tail _ (.tail _ (.head _)))))) ?_
              refine r_bipush (pc' := 134) dX12_layHits_132 rfl (by decide) ?_
              refine r_iload (pc' := 136) dX12_layHits_134 rfl (.tail _ (.tail _ (.tail _ (.tail _ (.head _))))) ?_
              refine r_iadd (pc' := 137) dX12_layHits_136 rfl ?_
              refine r_V2p (ci := 12) (pc' := 140) dX12_layHits_137 rfl lX12_115 rfl (by decide) (Nat.le_of_ble_eq_true rfl) (by first | assumption | rfl) (by omega) (tO_p hm (by rw [xv_up_row _ _ _ (by omega)]; exact hR2) hO hk (by omega)) ?_
              refine r_iload (pc' := 142) dX12_layHits_140 rfl (.tail _ (.tail _ (.tail _ (.tail _ (.tail _ (.tail _ (.tail _ (.head _)))))))) ?_
              refine r_iadd (pc' := 143) dX12_layHits_142 rfl ?_
              refine r_iastore (pc' := 144) dX12_layHits_143 rfl (by first | assumption | rfl) (by omega) (by omega) (by omega) (by first | decide | omega) (Int.toNat_natCast _) ?_
              refine r_iinc (pc' := 147) dX12_layHits_144 rfl rfl (.tail _ (.tail _ (.tail _ (.tail _ (.tail _ (.head _)))))) (.s1 (.s2 (.s2 (.s1 (.s1 (.here (.s1 (.s1 .nil rfl rfl rfl) rfl rfl rfl)) rfl rfl rfl) rfl rfl rfl) rfl (.inl rfl) (.inr rfl)) rfl (.inl rfl) (.inr rfl)) rfl rfl rfl) ?_
              refine r_goto (t := 11) dX12_layHits_147 (by decide) ?_
              refine r_sub (.kp (.kp (.kp (.kp (.kp (.kp (.dr (.dr .nil)))))))) ?_
              first
                | (exfalso; omega)
                | (have hno : lhO C b G i = false := by
                     unfold lhO bk_op
                     first
                       | (simp [h37]; done)
                       | (rw [hgi.mp ((lg_ne_z _ _).mp (Classical.not_not.mp h48))]; simp; done)
                       | (rw [hgi.mp ((lg_ne_z _ _).mp h48)]; simp; done)
                   refine ih (i + 1) _ (by omega) ho2 hR2 (fun j hj => ?_)
                   by_cases ej : j = i
                   · subst ej
                     exact ⟨by rw [xv_up_same _ _ _ (by omega), lh, if_neg (by rw [hno]; decide)], fun q => absurd (hno.symm.trans q) (by decide)⟩
                   · have hl := hL j (by omega)
                     rw [xv_up_ne _ _ (by omega), xv_up_ne _ _ (by omega)]
                     exact hl)
                | (have hyes : lhO C b G i = true := by
                     unfold lhO bk_op
                     have : G i = false := by
                       cases hg : G i with
                       | false => rfl
                       | true => exact absurd ((lg_ne_z _ _).mpr (hgi.mpr hg)) h48
                     rw [this]; simp [h37]
                   have hTi : (T i = true ∧ (c_hit C (con b i) (xv C b 0) - bk_most C b (con b i) + bk_sh C b i = bk_hT C b T i ∧ c_parts C (con b i) (xv C b 0) + bk_sh C b i = bk_pT C b T i) ∧ (bk_most C b (con b i) = 0 → bk_sh C b i = 0)) ∨ (T i = false ∧ (c_hit C (con b i) (xv C b 0) = bk_hT C b T i ∧ c_parts C (con b i) (xv C b 0) = bk_pT C b T i)) := by
                     cases ht : T i with
                     | false => exact Or.inr ⟨rfl, by unfold bk_hT; rw [ht, if_neg (by decide)]; omega, by unfold bk_pT; rw [ht, if_neg (by decide)]; omega⟩
                     | true => exact Or.inl ⟨rfl, ⟨by unfold bk_hT; rw [ht, if_pos rfl]; omega, by unfold bk_pT; rw [ht, if_pos rfl]⟩, hsh0⟩
                   have hTb : T i = true ↔ (tu >>> ((zi (i : Int)).toInt64 &&& 63) &&& 1 = 1) := hti.symm
                   rw [← lg_ne_z] at hTb
                   refine ih (i + 1) _ (by omega) ((ho2.up (Or.inl rfl)).up (Or.inr (Or.inl rfl))) (by rw [xv_up_row _ _ _ (by omega), xv_up_row _ _ _ (by omega)]; exact hR2) (fun j hj => ?_)
                   by_cases ej : j = i
                   · subst ej
                     have hpb := c_parts_b hck (xv C b 0)
                     rw [xv_up_ne _ _ (by omega), lh, if_pos hyes]
                     rcases hTi with ⟨t1, t2, t3⟩ | ⟨t1, t2⟩
                     · have t4 := hTb.mp t1
                       first
                         | (exfalso; exact h62 t4)
                         | (have h0 := t3 (by omega)
                            exact ⟨by rw [xv_up_same _ _ _ (by omega)]; omega, fun _ => by rw [xv_up_same _ _ _ (by omega)]; omega⟩)
                         | exact ⟨by rw [xv_up_same _ _ _ (by omega)]; omega, fun _ => by rw [xv_up_same _ _ _ (by omega)]; omega⟩
                     · have t4 : ¬ _ := fun q => absurd (t1.symm.trans (hTb.mpr q)) (by decide)
                       first
                         | (exfalso; exact t4 h62)
                         | exact ⟨by rw [xv_up_same _ _ _ (by omega)]; omega, fun _ => by rw [xv_up_same _ _ _ (by omega)]; omega⟩
                   · have hl := hL j (by omega)
                     simp (disch := omega) only [xv_up_ne]
                     exact hl)
            · refine r_iconst (pc' := 83) dX12_layHits_82 rfl ?_
              refine r_goto (t := 100) dX12_layHits_83 (by decide) ?_
              refine r_istore (pc' := 102) dX12_layHits_100 rfl rfl (.s1 (.s2 (.s2 (.s1 (.s1 (.s1 (.s1 .nil rfl rfl rfl) rfl rfl rfl) rfl rfl rfl) rfl rfl rfl) rfl (.inl rfl) (.inr rfl)) rfl (.inl rfl) (.inr rfl)) rfl rfl rfl) ?_
              refine r_aload_n (i := 0) (pc' := 103) dX12_layHits_102 rfl rfl (.head _) ?_
              refine r_getR (pc' := 106) dX12_layHits_103 rfl fX12_39 rfl (by first | assumption | rfl) (by omega) (by assumption) ?_
              refine r_iload (pc' := 108) dX12_layHits_106 rfl (.tail _ (.tail _ (.tail _ (.tail _ (.tail _ (.head _)))))) ?_
              refine r_aload_n (i := 0) (pc' := 109) dX12_layHits_108 rfl rfl (.head _) ?_
              refine r_iload (pc' := 111) dX12_layHits_109 rfl (.tail _ (.tail _ (.tail _ (.tail _ (.tail _ (.head _)))))) ?_
              refine r_iload (pc' := 113) dX12_layHits_111 rfl (.tail _ (.tail _ (.tail _ (.tail _ (.head _))))) ?_
              refine r_V2p (ci := 12) (pc' := 116) dX12_layHits_113 rfl lX12_230 rfl (by decide) (Nat.le_of_ble_eq_true rfl) (by first | assumption | rfl) (by omega) (tX12_hitOf hm hR2 hO hk (by omega)) ?_
              refine r_iload (pc' := 118) dX12_layHits_116 rfl (.tail _ (.tail _ (.tail _ (.tail _ (.tail _ (.tail _ (.head _))))))) ?_
              refine r_isub (pc' := 119) dX12_layHits_118 rfl ?_
              refine r_iload (pc' := 121) dX12_layHits_119 rfl (.tail _ (.tail _ (.tail _ (.tail _ (.tail _ (.tail _ (.tail _ (.head _)))))))) ?_
              refine r_iadd (pc' := 122) dX12_layHits_121 rfl ?_
              refine r_iastore (pc' := 123) dX12_layHits_122 rfl (by first | assumption | rfl) (by omega) (by omega) (by omega) (by first | decide | omega) (Int.toNat_natCast _) ?_
              refine r_aload_n (i := 0) (pc' := 124) dX12_layHits_123 rfl rfl (.head _) ?_
              refine r_getR (pc' := 127) dX12_layHits_124 rfl fX12_42 rfl (by first | assumption | rfl) (by omega) (by assumption) ?_
              refine r_iload (pc' := 129) dX12_layHits_127 rfl (.tail _ (.tail _ (.tail _ (.tail _ (.tail _ (.head _)))))) ?_
              refine r_aload_n (i := 0) (pc' := 130) dX12_layHits_129 rfl rfl (.head _) ?_
              refine r_iload (pc' := 132) dX12_layHits_130 rfl (.tail _ (.tail _ (.tail _ (.tail _ (.tail _ (.head _)))))) ?_
              refine r_bipush (pc' := 134) dX12_layHits_132 rfl (by decide) ?_
              refine r_iload (pc' := 136) dX12_layHits_134 rfl (.tail _ (.tail _ (.tail _ (.tail _ (.head _))))) ?_
              refine r_iadd (pc' := 137) dX12_layHits_136 rfl ?_
              refine r_V2p (ci := 12) (pc' := 140) dX12_layHits_137 rfl lX12_115 rfl (by decide) (Nat.le_of_ble_eq_true rfl) (by first | assumption | rfl) (by omega) (tO_p hm (by rw [xv_up_row _ _ _ (by omega)]; exact hR2) hO hk (by omega)) ?_
              refine r_iload (pc' := 142) dX12_layHits_140 rfl (.tail _ (.tail _ (.tail _ (.tail _ (.tail _ (.tail _ (.tail _ (.head _)))))))) ?_
              refine r_iadd (pc' := 143) dX12_layHits_142 rfl ?_
              refine r_iastore (pc' := 144) dX12_layHits_143 rfl (by first | assumption | rfl) (by omega) (by omega) (by omega) (by first | decide | omega) (Int.toNat_natCast _) ?_
              refine r_iinc (pc' := 147) dX12_layHits_144 rfl rfl (.tail _ (.tail _ (.tail _ (.tail _ (.tail _ (.head _)))))) (.s1 (.s2 (.s2 (.s1 (.s1 (.here (.s1 (.s1 .nil rfl rfl rfl) rfl rfl rfl)) rfl rfl rfl) rfl rfl rfl) rfl (.inl rfl) (.inr rfl)) rfl (.inl rfl) (.inr rfl)) rfl rfl rfl) ?_
              refine r_goto (t := 11) dX12_layHits_147 (by decide) ?_
              refine r_sub (.kp (.kp (.kp (.kp (.kp (.kp (.dr (.dr .nil)))))))) ?_
              first
                | (exfalso; omega)
                | (have hno : lhO C b G i = false := by
                     unfold lhO bk_op
                     first
                       | (simp [h37]; done)
                       | (rw [hgi.mp ((lg_ne_z _ _).mp (Classical.not_not.mp h48))]; simp; done)
                       | (rw [hgi.mp ((lg_ne_z _ _).mp h48)]; simp; done)
                   refine ih (i + 1) _ (by omega) ho2 hR2 (fun j hj => ?_)
                   by_cases ej : j = i
                   · subst ej
                     exact ⟨by rw [xv_up_same _ _ _ (by omega), lh, if_neg (by rw [hno]; decide)], fun q => absurd (hno.symm.trans q) (by decide)⟩
                   · have hl := hL j (by omega)
                     rw [xv_up_ne _ _ (by omega), xv_up_ne _ _ (by omega)]
                     exact hl)
                | (have hyes : lhO C b G i = true := by
                     unfold lhO bk_op
                     have : G i = false := by
                       cases hg : G i with
                       | false => rfl
                       | true => exact absurd ((lg_ne_z _ _).mpr (hgi.mpr hg)) h48
                     rw [this]; simp [h37]
                   have hTi : (T i = true ∧ (c_hit C (con b i) (xv C b 0) - bk_most C b (con b i) + bk_sh C b i = bk_hT C b T i ∧ c_parts C (con b i) (xv C b 0) + bk_sh C b i = bk_pT C b T i) ∧ (bk_most C b (con b i) = 0 → bk_sh C b i = 0)) ∨ (T i = false ∧ (c_hit C (con b i) (xv C b 0) = bk_hT C b T i ∧ c_parts C (con b i) (xv C b 0) = bk_pT C b T i)) := by
                     cases ht : T i with
                     | false => exact Or.inr ⟨rfl, by unfold bk_hT; rw [ht, if_neg (by decide)]; omega, by unfold bk_pT; rw [ht, if_neg (by decide)]; omega⟩
                     | true => exact Or.inl ⟨rfl, ⟨by unfold bk_hT; rw [ht, if_pos rfl]; omega, by unfold bk_pT; rw [ht, if_pos rfl]⟩, hsh0⟩
                   have hTb : T i = true ↔ (tu >>> ((zi (i : Int)).toInt64 &&& 63) &&& 1 = 1) := hti.symm
                   rw [← lg_ne_z] at hTb
                   refine ih (i + 1) _ (by omega) ((ho2.up (Or.inl rfl)).up (Or.inr (Or.inl rfl))) (by rw [xv_up_row _ _ _ (by omega), xv_up_row _ _ _ (by omega)]; exact hR2) (fun j hj => ?_)
                   by_cases ej : j = i
                   · subst ej
                     have hpb := c_parts_b hck (xv C b 0)
                     rw [xv_up_ne _ _ (by omega), lh, if_pos hyes]
                     rcases hTi with ⟨t1, t2, t3⟩ | ⟨t1, t2⟩
                     · have t4 := hTb.mp t1
                       first
                         | (exfalso; exact h62 t4)
                         | (have h0 := t3 (by omega)
                            exact ⟨by rw [xv_up_same _ _ _ (by omega)]; omega, fun _ => by rw [xv_up_same _ _ _ (by omega)]; omega⟩)
                         | exact ⟨by rw [xv_up_same _ _ _ (by omega)]; omega, fun _ => by rw [xv_up_same _ _ _ (by omega)]; omega⟩
                     · have t4 : ¬ _ := fun q => absurd (t1.symm.trans (hTb.mpr q)) (by decide)
                       first
                         | (exfalso; exact t4 h62)
                         | exact ⟨by rw [xv_up_same _ _ _ (by omega)]; omega, fun _ => by rw [xv_up_same _ _ _ (by omega)]; omega⟩
                   · have hl := hL j (by omega)
                     simp (disch := omega) only [xv_up_ne]
                     exact hl)
        · refine r_goto (t := 144) dX12_layHits_51 (by decide) ?_
          refine r_iinc (pc' := 147) dX12_layHits_144 rfl rfl (.tail _ (.tail _ (.tail _ (.tail _ (.tail _ (.head _)))))) (.s1 (.s2 (.s2 (.s1 (.s1 (.here .nil) rfl rfl rfl) rfl rfl rfl) rfl (.inl rfl) (.inr rfl)) rfl (.inl rfl) (.inr rfl)) rfl rfl rfl) ?_
          refine r_goto (t := 11) dX12_layHits_147 (by decide) ?_
          first
            | (exfalso; omega)
            | (have hno : lhO C b G i = false := by
                 unfold lhO bk_op
                 first
                   | (simp [h37]; done)
                   | (rw [hgi.mp ((lg_ne_z _ _).mp (Classical.not_not.mp h48))]; simp; done)
                   | (rw [hgi.mp ((lg_ne_z _ _).mp h48)]; simp; done)
               refine ih (i + 1) _ (by omega) ho2 hR2 (fun j hj => ?_)
               by_cases ej : j = i
               · subst ej
                 exact ⟨by rw [xv_up_same _ _ _ (by omega), lh, if_neg (by rw [hno]; decide)], fun q => absurd (hno.symm.trans q) (by decide)⟩
               · have hl := hL j (by omega)
                 rw [xv_up_ne _ _ (by omega), xv_up_ne _ _ (by omega)]
                 exact hl)
            | (have hyes : lhO C b G i = true := by
                 unfold lhO bk_op
                 have : G i = false := by
                   cases hg : G i with
                   | false => rfl
                   | true => exact absurd ((lg_ne_z _ _).mpr (hgi.mpr hg)) h48
                 rw [this]; simp [h37]
               have hTi : (T i = true ∧ (c_hit C (con b i) (xv C b 0) - bk_most C b (con b i) + bk_sh C b i = bk_hT C b T i ∧ c_parts C (con b i) (xv C b 0) + bk_sh C b i = bk_pT C b T i) ∧ (bk_most C b (con b i) = 0 → bk_sh C b i = 0)) ∨ (T i = false ∧ (c_hit C (con b i) (xv C b 0) = bk_hT C b T i ∧ c_parts C (con b i) (xv C b 0) = bk_pT C b T i)) := by
                 cases ht : T i with
                 | false => exact Or.inr ⟨rfl, by unfold bk_hT; rw [ht, if_neg (by decide)]; omega, by unfold bk_pT; rw [ht, if_neg (by decide)]; omega⟩
                 | true => exact Or.inl ⟨rfl, ⟨by unfold bk_hT; rw [ht, if_pos rfl]; omega, by unfold bk_pT; rw [ht, if_pos rfl]⟩, hsh0⟩
               have hTb : T i = true ↔ (tu >>> ((zi (i : Int)).toInt64 &&& 63) &&& 1 = 1) := hti.symm
               rw [← lg_ne_z] at hTb
               refine ih (i + 1) _ (by omega) ((ho2.up (Or.inl rfl)).up (Or.inr (Or.inl rfl))) (by rw [xv_up_row _ _ _ (by omega), xv_up_row _ _ _ (by omega)]; exact hR2) (fun j hj => ?_)
               by_cases ej : j = i
               · subst ej
                 have hpb := c_parts_b hck (xv C b 0)
                 rw [xv_up_ne _ _ (by omega), lh, if_pos hyes]
                 rcases hTi with ⟨t1, t2, t3⟩ | ⟨t1, t2⟩
                 · have t4 := hTb.mp t1
                   first
                     | (exfalso; exact h62 t4)
                     | (have h0 := t3 (by omega)
                        exact ⟨by rw [xv_up_same _ _ _ (by omega)]; omega, fun _ => by rw [xv_up_same _ _ _ (by omega)]; omega⟩)
                     | exact ⟨by rw [xv_up_same _ _ _ (by omega)]; omega, fun _ => by rw [xv_up_same _ _ _ (by omega)]; omega⟩
                 · have t4 : ¬ _ := fun q => absurd (t1.symm.trans (hTb.mpr q)) (by decide)
                   first
                     | (exfalso; exact t4 h62)
                     | exact ⟨by rw [xv_up_same _ _ _ (by omega)]; omega, fun _ => by rw [xv_up_same _ _ _ (by omega)]; omega⟩
               · have hl := hL j (by omega)
                 simp (disch := omega) only [xv_up_ne]
                 exact hl)
