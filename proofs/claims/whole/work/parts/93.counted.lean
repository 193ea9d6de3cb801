def cI (C : q_X) (b i : Nat) (r : Int) : Prop := (r = -2 ∧ ∀ k : Nat, k < i → ¬ bk_isFull C b k) ∨ ∃ k : Nat, k < i ∧ bk_isFull C b k ∧ r = c_hit C (con b k) (xv C b 0) ∧ ∀ j : Nat, j < i → bk_isFull C b j → c_hit C (con b k) (xv C b 0) ≤ c_hit C (con b j) (xv C b 0)
theorem cI.skip {C : q_X} {b i : Nat} {r : Int} (h : cI C b i r) (hn : ¬ bk_isFull C b i) : cI C b (i + 1) r := by
  rcases h with ⟨h1, h2⟩ | ⟨k, k1, k2, k3, k4⟩
  · exact Or.inl ⟨h1, fun k hk q => by
      by_cases e : k = i
      · subst e; exact hn q
      · exact h2 k (by omega) q⟩
  · exact Or.inr ⟨k, by omega, k2, k3, fun j hj q => by
      by_cases e : j = i
      · subst e; exact absurd q hn
      · exact k4 j (by omega) q⟩
theorem cI.new {C : q_X} {b i : Nat} {r : Int} (h : cI C b i r) (hp : ∀ j, j < i → 0 ≤ c_hit C (con b j) (xv C b 0)) (hf : bk_isFull C b i) (hr : r = -2 ∨ c_hit C (con b i) (xv C b 0) < r) : cI C b (i + 1) (c_hit C (con b i) (xv C b 0)) := by
  refine Or.inr ⟨i, by omega, hf, rfl, fun j hj q => ?_⟩
  by_cases e : j = i
  · subst e; omega
  · rcases h with ⟨h1, h2⟩ | ⟨k, k1, k2, k3, k4⟩
    · exact absurd q (h2 j (by omega))
    · have := k4 j (by omega) q
      have := hp k k1
      omega
theorem cI.old {C : q_X} {b i : Nat} {r : Int} (h : cI C b i r) (hr : ¬ r = -2) (hl : ¬ c_hit C (con b i) (xv C b 0) < r) : cI C b (i + 1) r := by
  rcases h with ⟨h1, h2⟩ | ⟨k, k1, k2, k3, k4⟩
  · exact absurd h1 hr
  · exact Or.inr ⟨k, by omega, k2, k3, fun j hj q => by
      by_cases e : j = i
      · subst e; omega
      · exact k4 j (by omega) q⟩
theorem cI.b {C : q_X} {b i : Nat} {r : Int} (h : cI C b i r) (hO : bOk C b) (hi : (i : Int) ≤ xv C b 10) : -2 ≤ r ∧ r ≤ 2299977 := by
  rcases h with ⟨h1, h2⟩ | ⟨k, k1, k2, k3, k4⟩
  · omega
  · have := c_hit_b (hO.c (show (k : Int) < xv C b 10 by omega)) (xv C b 0)
    omega
theorem cI.p {C : q_X} {b i : Nat} {r : Int} (h : cI C b i r) (hi : (i : Int) = xv C b 10) : cntP C b r := by
  rcases h with ⟨h1, h2⟩ | ⟨k, k1, k2, k3, k4⟩
  · exact Or.inl ⟨h1, fun k hk => h2 k (by omega)⟩
  · exact Or.inr ⟨k, by omega, k2, k3, fun j hj => k4 j (by omega)⟩
theorem cntP.u {C : q_X} {b : Nat} {r r' : Int} (h : cntP C b r) (h' : cntP C b r') : r = r' := by
  rcases h with ⟨h1, h2⟩ | ⟨k, k1, k2, k3, k4⟩
  · rcases h' with ⟨g1, g2⟩ | ⟨j, j1, j2, j3, j4⟩
    · omega
    · exact absurd j2 (h2 j j1)
  · rcases h' with ⟨g1, g2⟩ | ⟨j, j1, j2, j3, j4⟩
    · exact absurd k2 (g2 k k1)
    · have := k4 j j1 j2
      have := j4 k k1 k2
      omega
set_option maxHeartbeats 4000000 in
set_option maxRecDepth 100000 in
theorem lX12_counted {l : Launch} {g : q_G} {n : Nat} {P : q_P} {Y : q_Y} {X : q_X} (hm : isMod n P) {C : q_X} {b : Nat} (hR : RB C b (xv X 468)) (hO : bOk C b) {X0 : q_X} (ho : hOut X0 X) (hL : LH1 C b g0 g0 X (xv C b 10).toNat) (hL2 : LH2 C b g0 g0 (xv C b 1) X (xv C b 10).toNat) {v : Int} (hv : v = 0 ∨ v = 1) : ∀ (w i : Nat) (s t : Int), i + w = (xv C b 10).toNat → cI C b i s → t + q_sum (fun k => if bk_op C b k = true ∧ ¬ bk_isFull C b k then (1 : Int) else 0) i w = f_cntN C b → q_Tr l g mX12_counted 5 (q_gi (fun r' n' P' X' Y' => n' = n ∧ P' = P ∧ Y' = Y ∧ hOut X0 X' ∧ (if v = 0 then cntP C b r' else if v = 1 then r' = f_cntN C b else r' = -1))) 32 [(0, .ref (g.1 + 467)), (1, .int (zi v)), (2, .int (zi s)), (3, .int (zi t)), (4, .int (zi (i : Int)))] [] n P X Y := by
  obtain ⟨m0, m2, m3, m8, m9, m14, m15, m16, m17, m18, m20, m22, m25, hnm9⟩ := id hm
  obtain ⟨o0, o1, o2, o3, o4, o5, o6, o10, oc, op0, opz, opi, om0, omi, olim⟩ := id hO
  intro w
  induction w with
  | zero =>
    intro i s t hi hI hr
    refine r_iload (pc' := 34) dX12_counted_32 rfl (.tail _ (.tail _ (.tail _ (.tail _ (.head _))))) ?_
    refine r_aload_n (i := 0) (pc' := 35) dX12_counted_34 rfl rfl (.head _) ?_
    refine r_getR (pc' := 38) dX12_counted_35 rfl fX12_3 rfl (by first | assumption | rfl) (by omega) (by assumption) ?_
    refine r_bipush (pc' := 40) dX12_counted_38 rfl (by decide) ?_
    refine r_iaload (pc' := 41) dX12_counted_40 rfl (by first | assumption | rfl) (by omega) (by omega) (by omega) (by first | decide | omega) (show Int.toNat 7 = 7 from rfl) ?_
    rw [hR.m]
    refine r_icmp_ge (t := 117) (f := 44) dX12_counted_41 (by decide) rfl (by first | omega | exact xv_in _ _ _) (by first | omega | exact xv_in _ _ _) (fun h41 => ?_) (fun h41 => ?_)
    · refine r_iload_n (i := 1) (pc' := 118) dX12_counted_117 rfl rfl (.tail _ (.head _)) ?_
      refine r_if_ne (t := 125) (f := 121) dX12_counted_118 (by decide) rfl (by first | omega | exact xv_in _ _ _) (fun h118 => ?_) (fun h118 => ?_)
      · refine r_iload_n (i := 3) (pc' := 126) dX12_counted_125 rfl rfl (.tail _ (.tail _ (.tail _ (.head _)))) ?_
        refine r_ireturn dX12_counted_126 rfl ?_
        refine ⟨_, rfl, rfl, rfl, rfl, ho, ?_⟩
        first
          | (rw [if_pos (by omega)]; exact hI.p (by omega))
          | (rw [if_neg (by omega), if_pos (by omega), ← hr]; simp [q_sum])
      · refine r_iload_n (i := 2) (pc' := 122) dX12_counted_121 rfl rfl (.tail _ (.tail _ (.head _))) ?_
        refine r_goto (t := 126) dX12_counted_122 (by decide) ?_
        refine r_ireturn dX12_counted_126 rfl ?_
        refine ⟨_, rfl, rfl, rfl, rfl, ho, ?_⟩
        first
          | (rw [if_pos (by omega)]; exact hI.p (by omega))
          | (rw [if_neg (by omega), if_pos (by omega), ← hr]; simp [q_sum])
    · exfalso; omega
  | succ w ih =>
    intro i s t hi hI hr
    have hk : (i : Int) < xv C b 10 := by omega
    have hsb := hI.b hO (by omega)
    have hpp : ∀ j, j < i → 0 ≤ c_hit C (con b j) (xv C b 0) := fun j hj => (c_hit_b (hO.c (show (j : Int) < xv C b 10 by omega)) (xv C b 0)).1
    have hhb := c_hit_b (hO.c hk) (xv C b 0)
    have hl1 := (hL i (by omega)).1
    have hl2 := hL2 i (by omega)
    rw [lfull_0] at hl2
    have hcs : (xv X 475 i = -1 ∧ ¬ bk_isFull C b i ∧ ¬ bk_op C b i = true) ∨ (xv X 475 i = c_hit C (con b i) (xv C b 0) ∧ xv X 477 i = 1 ∧ bk_isFull C b i) ∨ (xv X 475 i = c_hit C (con b i) (xv C b 0) ∧ xv X 477 i = 0 ∧ ¬ bk_isFull C b i ∧ bk_op C b i = true) := by
      unfold lh at hl1
      rw [lhO_0, bk_hT_0] at hl1
      by_cases q : bk_op C b i = true
      · rw [if_pos q] at hl1
        by_cases f : bk_isFull C b i
        · rw [if_pos f] at hl2
          exact Or.inr (Or.inl ⟨hl1, hl2, f⟩)
        · rw [if_neg f] at hl2
          exact Or.inr (Or.inr ⟨hl1, hl2, f, q⟩)
      · rw [if_neg q] at hl1
        exact Or.inl ⟨hl1, fun f => q f.1, q⟩
    refine r_iload (pc' := 34) dX12_counted_32 rfl (.tail _ (.tail _ (.tail _ (.tail _ (.head _))))) ?_
    refine r_aload_n (i := 0) (pc' := 35) dX12_counted_34 rfl rfl (.head _) ?_
    refine r_getR (pc' := 38) dX12_counted_35 rfl fX12_3 rfl (by first | assumption | rfl) (by omega) (by assumption) ?_
    refine r_bipush (pc' := 40) dX12_counted_38 rfl (by decide) ?_
    refine r_iaload (pc' := 41) dX12_counted_40 rfl (by first | assumption | rfl) (by omega) (by omega) (by omega) (by first | decide | omega) (show Int.toNat 7 = 7 from rfl) ?_
    rw [hR.m]
    refine r_icmp_ge (t := 117) (f := 44) dX12_counted_41 (by decide) rfl (by first | omega | exact xv_in _ _ _) (by first | omega | exact xv_in _ _ _) (fun h41 => ?_) (fun h41 => ?_)
    · exfalso; omega
    · rcases hcs with ⟨eH, hnf, hno⟩ | ⟨eH, eF, hf⟩ | ⟨eH, eF, hnf, hop⟩
      · refine r_aload_n (i := 0) (pc' := 45) dX12_counted_44 rfl rfl (.head _) ?_
        refine r_getR (pc' := 48) dX12_counted_45 rfl fX12_39 rfl (by first | assumption | rfl) (by omega) (by assumption) ?_
        refine r_iload (pc' := 50) dX12_counted_48 rfl (.tail _ (.tail _ (.tail _ (.tail _ (.head _))))) ?_
        refine r_iaload (pc' := 51) dX12_counted_50 rfl (by first | assumption | rfl) (by omega) (by omega) (by omega) (by first | decide | omega) (Int.toNat_natCast _) ?_
        rw [eH]
        refine r_iconst (pc' := 52) dX12_counted_51 rfl ?_
        refine r_icmp_ne (t := 58) (f := 55) dX12_counted_52 (by decide) rfl (by first | omega | exact xv_in _ _ _) (by first | omega | exact xv_in _ _ _) (fun h52 => ?_) (fun h52 => ?_)
        · exfalso; omega
        · refine r_goto (t := 111) dX12_counted_55 (by decide) ?_
          refine r_iinc (pc' := 114) dX12_counted_111 rfl rfl (.tail _ (.tail _ (.tail _ (.tail _ (.head _))))) (.s1 (.s1 (.s1 (.s1 (.here .nil) rfl rfl rfl) rfl rfl rfl) rfl rfl rfl) rfl rfl rfl) ?_
          refine r_goto (t := 32) dX12_counted_114 (by decide) ?_
          exact ih (i + 1) _ _ (by omega) (hI.skip hnf) (by rw [← hr, q_sum]; rw [if_neg (fun q => hno q.1)]; omega)
      · refine r_aload_n (i := 0) (pc' := 45) dX12_counted_44 rfl rfl (.head _) ?_
        refine r_getR (pc' := 48) dX12_counted_45 rfl fX12_39 rfl (by first | assumption | rfl) (by omega) (by assumption) ?_
        refine r_iload (pc' := 50) dX12_counted_48 rfl (.tail _ (.tail _ (.tail _ (.tail _ (.head _))))) ?_
        refine r_iaload (pc' := 51) dX12_counted_50 rfl (by first | assumption | rfl) (by omega) (by omega) (by omega) (by first | decide | omega) (Int.toNat_natCast _) ?_
        rw [eH]
        refine r_iconst (pc' := 52) dX12_counted_51 rfl ?_
        refine r_icmp_ne (t := 58) (f := 55) dX12_counted_52 (by decide) rfl (by first | omega | exact xv_in _ _ _) (by first | omega | exact xv_in _ _ _) (fun h52 => ?_) (fun h52 => ?_)
        · refine r_iload_n (i := 3) (pc' := 59) dX12_counted_58 rfl rfl (.tail _ (.tail _ (.tail _ (.head _)))) ?_
          refine r_aload_n (i := 0) (pc' := 60) dX12_counted_59 rfl rfl (.head _) ?_
          refine r_getR (pc' := 63) dX12_counted_60 rfl fX12_45 rfl (by first | assumption | rfl) (by omega) (by assumption) ?_
          refine r_iload (pc' := 65) dX12_counted_63 rfl (.tail _ (.tail _ (.tail _ (.tail _ (.head _))))) ?_
          refine r_zaload (pc' := 66) dX12_counted_65 rfl (by first | assumption | rfl) (by omega) (by omega) (by omega) (by first | decide | omega) (Int.toNat_natCast _) ?_
          rw [eF]
          refine r_if_eq (t := 73) (f := 69) dX12_counted_66 (by decide) rfl (by first | omega | exact xv_in _ _ _) (fun h66 => ?_) (fun h66 => ?_)
          · exfalso; omega
          · refine r_iconst (pc' := 70) dX12_counted_69 rfl ?_
            refine r_goto (t := 74) dX12_counted_70 (by decide) ?_
            refine r_iadd (pc' := 75) dX12_counted_74 rfl ?_
            refine r_istore_n (i := 3) (pc' := 76) dX12_counted_75 rfl rfl rfl (.s1 (.s1 (.s1 (.here (.s1 .nil rfl rfl rfl)) rfl rfl rfl) rfl rfl rfl) rfl rfl rfl) ?_
            refine r_aload_n (i := 0) (pc' := 77) dX12_counted_76 rfl rfl (.head _) ?_
            refine r_getR (pc' := 80) dX12_counted_77 rfl fX12_45 rfl (by first | assumption | rfl) (by omega) (by assumption) ?_
            refine r_iload (pc' := 82) dX12_counted_80 rfl (.tail _ (.tail _ (.tail _ (.tail _ (.head _))))) ?_
            refine r_zaload (pc' := 83) dX12_counted_82 rfl (by first | assumption | rfl) (by omega) (by omega) (by omega) (by first | decide | omega) (Int.toNat_natCast _) ?_
            rw [eF]
            refine r_if_eq (t := 111) (f := 86) dX12_counted_83 (by decide) rfl (by first | omega | exact xv_in _ _ _) (fun h83 => ?_) (fun h83 => ?_)
            · exfalso; omega
            · refine r_iload_n (i := 2) (pc' := 87) dX12_counted_86 rfl rfl (.tail _ (.tail _ (.head _))) ?_
              refine r_bipush (pc' := 89) dX12_counted_87 rfl (by decide) ?_
              refine r_icmp_eq (t := 103) (f := 92) dX12_counted_89 (by decide) rfl (by first | omega | exact xv_in _ _ _) (by first | omega | exact xv_in _ _ _) (fun h89 => ?_) (fun h89 => ?_)
              · refine r_aload_n (i := 0) (pc' := 104) dX12_counted_103 rfl rfl (.head _) ?_
                refine r_getR (pc' := 107) dX12_counted_104 rfl fX12_39 rfl (by first | assumption | rfl) (by omega) (by assumption) ?_
                refine r_iload (pc' := 109) dX12_counted_107 rfl (.tail _ (.tail _ (.tail _ (.tail _ (.head _))))) ?_
                refine r_iaload (pc' := 110) dX12_counted_109 rfl (by first | assumption | rfl) (by omega) (by omega) (by omega) (by first | decide | omega) (Int.toNat_natCast _) ?_
                rw [eH]
                refine r_istore_n (i := 2) (pc' := 111) dX12_counted_110 rfl rfl rfl (.s1 (.s1 (.here (.s1 (.s1 .nil rfl rfl rfl) rfl rfl rfl)) rfl rfl rfl) rfl rfl rfl) ?_
                refine r_iinc (pc' := 114) dX12_counted_111 rfl rfl (.tail _ (.tail _ (.tail _ (.tail _ (.head _))))) (.s1 (.s1 (.s1 (.s1 (.here .nil) rfl rfl rfl) rfl rfl rfl) rfl rfl rfl) rfl rfl rfl) ?_
                refine r_goto (t := 32) dX12_counted_114 (by decide) ?_
                first
                  | exact ih (i + 1) _ _ (by omega) (hI.new hpp hf (by omega)) (by rw [← hr, q_sum]; rw [if_neg (fun q => q.2 hf)]; omega)
                  | exact ih (i + 1) _ _ (by omega) (hI.old (by omega) (by omega)) (by rw [← hr, q_sum]; rw [if_neg (fun q => q.2 hf)]; omega)
              · refine r_aload_n (i := 0) (pc' := 93) dX12_counted_92 rfl rfl (.head _) ?_
                refine r_getR (pc' := 96) dX12_counted_93 rfl fX12_39 rfl (by first | assumption | rfl) (by omega) (by assumption) ?_
                refine r_iload (pc' := 98) dX12_counted_96 rfl (.tail _ (.tail _ (.tail _ (.tail _ (.head _))))) ?_
                refine r_iaload (pc' := 99) dX12_counted_98 rfl (by first | assumption | rfl) (by omega) (by omega) (by omega) (by first | decide | omega) (Int.toNat_natCast _) ?_
                rw [eH]
                refine r_iload_n (i := 2) (pc' := 100) dX12_counted_99 rfl rfl (.tail _ (.tail _ (.head _))) ?_
                refine r_icmp_ge (t := 111) (f := 103) dX12_counted_100 (by decide) rfl (by first | omega | exact xv_in _ _ _) (by first | omega | exact xv_in _ _ _) (fun h100 => ?_) (fun h100 => ?_)
                · refine r_iinc (pc' := 114) dX12_counted_111 rfl rfl (.tail _ (.tail _ (.tail _ (.tail _ (.head _))))) (.s1 (.s1 (.s1 (.s1 (.here .nil) rfl rfl rfl) rfl rfl rfl) rfl rfl rfl) rfl rfl rfl) ?_
                  refine r_goto (t := 32) dX12_counted_114 (by decide) ?_
                  first
                    | exact ih (i + 1) _ _ (by omega) (hI.new hpp hf (by omega)) (by rw [← hr, q_sum]; rw [if_neg (fun q => q.2 hf)]; omega)
                    | exact ih (i + 1) _ _ (by omega) (hI.old (by omega) (by omega)) (by rw [← hr, q_sum]; rw [if_neg (fun q => q.2 hf)]; omega)
                · refine r_aload_n (i := 0) (pc' := 104) dX12_counted_103 rfl rfl (.head _) ?_
                  refine r_getR (pc' := 107) dX12_counted_104 rfl fX12_39 rfl (by first | assumption | rfl) (by omega) (by assumption) ?_
                  refine r_iload (pc' := 109) dX12_counted_107 rfl (.tail _ (.tail _ (.tail _ (.tail _ (.head _))))) ?_
                  refine r_iaload (pc' := 110) dX12_counted_109 rfl (by first | assumption | rfl) (by omega) (by omega) (by omega) (by first | decide | omega) (Int.toNat_natCast _) ?_
                  rw [eH]
                  refine r_istore_n (i := 2) (pc' := 111) dX12_counted_110 rfl rfl rfl (.s1 (.s1 (.here (.s1 (.s1 .nil rfl rfl rfl) rfl rfl rfl)) rfl rfl rfl) rfl rfl rfl) ?_
                  refine r_iinc (pc' := 114) dX12_counted_111 rfl rfl (.tail _ (.tail _ (.tail _ (.tail _ (.head _))))) (.s1 (.s1 (.s1 (.s1 (.here .nil) rfl rfl rfl) rfl rfl rfl) rfl rfl rfl) rfl rfl rfl) ?_
                  refine r_goto (t := 32) dX12_counted_114 (by decide) ?_
                  first
                    | exact ih (i + 1) _ _ (by omega) (hI.new hpp hf (by omega)) (by rw [← hr, q_sum]; rw [if_neg (fun q => q.2 hf)]; omega)
                    | exact ih (i + 1) _ _ (by omega) (hI.old (by omega) (by omega)) (by rw [← hr, q_sum]; rw [if_neg (fun q => q.2 hf)]; omega)
        · exfalso; omega
      · refine r_aload_n (i := 0) (pc' := 45) dX12_counted_44 rfl rfl (.head _) ?_
        refine r_getR (pc' := 48) dX12_counted_45 rfl fX12_39 rfl (by first | assumption | rfl) (by omega) (by assumption) ?_
        refine r_iload (pc' := 50) dX12_counted_48 rfl (.tail _ (.tail _ (.tail _ (.tail _ (.head _))))) ?_
        refine r_iaload (pc' := 51) dX12_counted_50 rfl (by first | assumption | rfl) (by omega) (by omega) (by omega) (by first | decide | omega) (Int.toNat_natCast _) ?_
        rw [eH]
        refine r_iconst (pc' := 52) dX12_counted_51 rfl ?_
        refine r_icmp_ne (t := 58) (f := 55) dX12_counted_52 (by decide) rfl (by first | omega | exact xv_in _ _ _) (by first | omega | exact xv_in _ _ _) (fun h52 => ?_) (fun h52 => ?_)
        · refine r_iload_n (i := 3) (pc' := 59) dX12_counted_58 rfl rfl (.tail _ (.tail _ (.tail _ (.head _)))) ?_
          refine r_aload_n (i := 0) (pc' := 60) dX12_counted_59 rfl rfl (.head _) ?_
          refine r_getR (pc' := 63) dX12_counted_60 rfl fX12_45 rfl (by first | assumption | rfl) (by omega) (by assumption) ?_
          refine r_iload (pc' := 65) dX12_counted_63 rfl (.tail _ (.tail _ (.tail _ (.tail _ (.head _))))) ?_
          refine r_zaload (pc' := 66) dX12_counted_65 rfl (by first | assumption | rfl) (by omega) (by omega) (by omega) (by first | decide | omega) (Int.toNat_natCast _) ?_
          rw [eF]
          refine r_if_eq (t := 73) (f := 69) dX12_counted_66 (by decide) rfl (by first | omega | exact xv_in _ _ _) (fun h66 => ?_) (fun h66 => ?_)
          · refine r_iconst (pc' := 74) dX12_counted_73 rfl ?_
            refine r_iadd (pc' := 75) dX12_counted_74 rfl ?_
            refine r_istore_n (i := 3) (pc' := 76) dX12_counted_75 rfl rfl rfl (.s1 (.s1 (.s1 (.here (.s1 .nil rfl rfl rfl)) rfl rfl rfl) rfl rfl rfl) rfl rfl rfl) ?_
            refine r_aload_n (i := 0) (pc' := 77) dX12_counted_76 rfl rfl (.head _) ?_
            refine r_getR (pc' := 80) dX12_counted_77 rfl fX12_45 rfl (by first | assumption | rfl) (by omega) (by assumption) ?_
            refine r_iload (pc' := 82) dX12_counted_80 rfl (.tail _ (.tail _ (.tail _ (.tail _ (.head _))))) ?_
            refine r_zaload (pc' := 83) dX12_counted_82 rfl (by first | assumption | rfl) (by omega) (by omega) (by omega) (by first | decide | omega) (Int.toNat_natCast _) ?_
            rw [eF]
            refine r_if_eq (t := 111) (f := 86) dX12_counted_83 (by decide) rfl (by first | omega | exact xv_in _ _ _) (fun h83 => ?_) (fun h83 => ?_)
            · refine r_iinc (pc' := 114) dX12_counted_111 rfl rfl (.tail _ (.tail _ (.tail _ (.tail _ (.head _))))) (.s1 (.s1 (.s1 (.s1 (.here .nil) rfl rfl rfl) rfl rfl rfl) rfl rfl rfl) rfl rfl rfl) ?_
              refine r_goto (t := 32) dX12_counted_114 (by decide) ?_
              exact ih (i + 1) _ _ (by omega) (hI.skip hnf) (by rw [← hr, q_sum]; rw [if_pos ⟨hop, hnf⟩]; omega)
            · exfalso; omega
          · exfalso; omega
        · exfalso; omega
set_option maxHeartbeats 4000000 in
set_option maxRecDepth 100000 in
theorem tX12_counted {l : Launch} {g : q_G} {n : Nat} {P : q_P} {X : q_X} {Y : q_Y} (hm : isMod n P) {C : q_X} {b : Nat} (hR : RB C b (xv X 468)) (hO : bOk C b) {v : Int} (hv : q_in v) : q_Met l g mX12_counted 5 [.ref (g.1 + 467), .int (zi v)] n P X Y (q_gi (fun r' n' P' X' Y' => n' = n ∧ P' = P ∧ Y' = Y ∧ hOut X X' ∧ (if v = 0 then cntP C b r' else if v = 1 then r' = f_cntN C b else r' = -1))) := by
  obtain ⟨m0, m2, m3, m8, m9, m14, m15, m16, m17, m18, m20, m22, m25, hnm9⟩ := id hm
  obtain ⟨o0, o1, o2, o3, o4, o5, o6, o10, oc, op0, opz, opi, om0, omi, olim⟩ := id hO
  refine q_enter (L := [(0, .ref (g.1 + 467)), (1, .int (zi v))]) (by decide) (Nat.le_of_ble_eq_true rfl) rfl ?_
  refine r_iload_n (i := 1) (pc' := 1) dX12_counted_0 rfl rfl (.tail _ (.head _)) ?_
  refine r_i2l (pc' := 2) dX12_counted_1 rfl rfl ?_
  refine r_lconst (pc' := 3) (z := 0) dX12_counted_2 rfl rfl ?_
  refine r_lconst (pc' := 4) (z := 1) dX12_counted_3 rfl rfl ?_
  refine r_S3p (pc' := 7) dX12_counted_4 rfl lX12_68 (by decide) (Nat.le_of_ble_eq_true rfl) (tX12_isIn (by first | exact li_z (by omega) | exact li_z (xv_in _ _ _) | rfl) (by first | exact li_z (by omega) | exact li_z (xv_in _ _ _) | rfl) (by first | exact li_z (by omega) | exact li_z (xv_in _ _ _) | rfl)) ?_
  try simp only [i64_0, i64_1, i64_2, i64_3, i64_4, i64_5, i64_6, i64_7, i64_10, i64_19, i64_40, i64_100, i64_364, i64_9999, i64_99999, i64_999999, i64_m999999]
  refine r_bif_ne (t := 12) (f := 10) dX12_counted_7 (by decide) rfl (fun h7 => ?_) (fun h7 => ?_)
  · refine r_aload_n (i := 0) (pc' := 13) dX12_counted_12 rfl rfl (.head _) ?_
    refine r_lconst (pc' := 14) (z := 0) dX12_counted_13 rfl rfl ?_
    refine r_lconst (pc' := 15) (z := 0) dX12_counted_14 rfl rfl ?_
    refine r_aload_n (i := 0) (pc' := 16) dX12_counted_15 rfl rfl (.head _) ?_
    refine r_getR (pc' := 19) dX12_counted_16 rfl fX12_3 rfl (by first | assumption | rfl) (by omega) (by assumption) ?_
    refine r_iconst (pc' := 20) dX12_counted_19 rfl ?_
    refine r_iaload (pc' := 21) dX12_counted_20 rfl (by first | assumption | rfl) (by omega) (by omega) (by omega) (by first | decide | omega) (show Int.toNat 1 = 1 from rfl) ?_
    rw [hR.z 1 (by decide)]
    refine r_V3gv (ci := 12) (pc' := 24) dX12_counted_21 rfl lX12_233 rfl (by decide) (Nat.le_of_ble_eq_true rfl) (by first | assumption | rfl) (by omega) (tX12_layHits hm hR hO lB_0 lB_0 (by omega)) (fun n21 P21 X21 Y21 e21 le21 => ?_)
    obtain ⟨h1v, h2v, h3v, ho, hL, hL2⟩ := e21
    subst h1v h2v h3v
    have hR2 : RB C b (xv X21 468) := by rw [ho.v (by omega)]; exact hR
    refine r_bipush (pc' := 26) dX12_counted_24 rfl (by decide) ?_
    refine r_istore_n (i := 2) (pc' := 27) dX12_counted_26 rfl rfl rfl (.s1 (.s1 .nil rfl rfl rfl) rfl rfl rfl) ?_
    refine r_iconst (pc' := 28) dX12_counted_27 rfl ?_
    refine r_istore_n (i := 3) (pc' := 29) dX12_counted_28 rfl rfl rfl (.s1 (.s1 (.s1 .nil rfl rfl rfl) rfl rfl rfl) rfl rfl rfl) ?_
    refine r_iconst (pc' := 30) dX12_counted_29 rfl ?_
    refine r_istore (pc' := 32) dX12_counted_30 rfl rfl (.s1 (.s1 (.s1 (.s1 .nil rfl rfl rfl) rfl rfl rfl) rfl rfl rfl) rfl rfl rfl) ?_
    exact lX12_counted hm hR2 hO ho hL hL2 (by omega) _ 0 _ _ (Nat.zero_add _) (Or.inl ⟨rfl, fun k hk => by omega⟩) (by rw [f_cntN]; omega)
  · refine r_iconst (pc' := 11) dX12_counted_10 rfl ?_
    refine r_ireturn dX12_counted_11 rfl ?_
    refine ⟨_, rfl, rfl, rfl, rfl, hOut.rfl, ?_⟩
    rw [if_neg (by omega), if_neg (by omega)]
