theorem bk_most_ag {X X' : q_X} {b c : Nat} (h : bAg X X' b) (hc : cAg X X' c) : bk_most X' b c = bk_most X b c := by simp only [bk_most, h.z, c_base_ag hc]
theorem bk_full_ag {X X' : q_X} {b : Nat} (h : xv X' b = xv X b) (d : Int) : bk_full X' b d = bk_full X b d := by simp only [bk_full, h]
theorem c_last_ag {X X' : q_X} {c : Nat} (hc : cAg X X' c) : c_last X' c = c_last X c := by simp only [c_last, hc.z]
theorem TS.congr {X X' : q_X} {b : Nat} {G G' T T' : Nat → Bool} (h : TS X X' b G T) (hT : ∀ k : Nat, (k : Int) < xv X b 10 → T k = T' k ∧ G k = G' k) : TS X X' b G' T' := by
  refine ⟨h.1, h.2.1, h.2.2.1, fun k hk => ?_⟩
  have := h.2.2.2 k hk
  simp only [bk_hT, bk_pT, ← (hT k hk).1, ← (hT k hk).2] at this ⊢
  exact this
theorem TT.congr {X X' : q_X} {b : Nat} {G G' T T' : Nat → Bool} (h : TT X X' b G T) (hT : ∀ k : Nat, (k : Int) < xv X b 10 → T k = T' k ∧ G k = G' k) : TT X X' b G' T' := ⟨h.1, h.2.1, (h.s.congr hT).2.2.2⟩
/-- turning k as far as can be -/
theorem TS.turn {X X' : q_X} {b k : Nat} {G T T' : Nat → Bool} (hO : bOk X b) (hk : (k : Int) < xv X b 10) (h : TS X X' b G T) (hT : ∀ i, i ≠ k → T' i = T i) (hk0 : T k = false) (hk1 : T' k = true) : TS X (t_shift X' k (bk_most X b (con b k)) (bk_sh X b k)) b G T' := by
  have h6 := hO.2.2.2.2.2.2.1
  obtain ⟨a1, a2, -, -⟩ := h.2.2.2 k hk
  have b1 := bk_hT_b T' (hO.c hk) h6.1
  have e1 : xv X' 454 k + (bk_sh X b k - bk_most X b (con b k)) = bk_hT X b T' k := by rw [a1, bk_hT, bk_hT, hk0, hk1, if_pos rfl, if_neg (by decide)]; omega
  have e2 : xv X' 455 k + bk_sh X b k = bk_pT X b T' k := by rw [a2, bk_pT, bk_pT, hk0, hk1, if_pos rfl, if_neg (by decide)]; omega
  rw [t_shift]
  exact h.set hT ⟨by omega, e1⟩ ⟨by omega, e2⟩
def f_allT (X : q_X) (b : Nat) : Int := bk_room X b g0 (fun k => decide (bk_ref X b k = 0))
set_option maxHeartbeats 4000000 in
set_option maxRecDepth 100000 in
theorem lX11_countsInFull {l : Launch} {g : q_G} {n : Nat} {P : q_P} {X : q_X} {Y : q_Y} {X1 : q_X} {b : Nat} (hF : isFace n P b) (hb : isBk n P b) (hO : bOk X b) (hap : bApart b) (ht : isTal n P) {k : Nat} {full : Int} (hk : (k : Int) < xv X b 10) (hTT : TT X X1 b g0 g0) (hfu : full = min (xv X1 453 5) (bk_full X b (xv X b 1))) : ∀ (w i : Nat), i + w = full.toNat → (∀ j : Nat, j < i → xv X1 458 j ≠ k) → q_Tr l g mX11_countsInFull 4 (q_gi (fun r' n' P' X' Y' => n' = n ∧ P' = P ∧ Y' = Y ∧ tOut X X' ∧ r' = if bk_isFull X b k then 1 else 0)) 38 [(0, .ref (g.1 + 0)), (1, .int (zi (k : Int))), (2, .int (zi full)), (3, .int (zi (i : Int)))] [] n P X1 Y := by
  obtain ⟨f0, f2, f3, f4, f5, f6, f7, f8, hn0⟩ := id hF
  obtain ⟨b0, b1, b2, b3, q7, q8, q9, q11, q12, q13, hn, hpro, hmar, hfor, hcs⟩ := id hb
  obtain ⟨o0, o1, o2, o3, o4, o5, o6, o10, oc, op0, opz, opi, om0, omi, olim⟩ := id hO
  obtain ⟨t0, t1, t2, t3, t4, hnt⟩ := id ht
  have hfb := bk_full_in hO (xv X b 1)
  have h40 := hTT.2.1.1.1
  intro w
  induction w with
  | zero =>
    intro i hk1 hno
    refine r_iload_n (i := 3) (pc' := 39) dX11_countsInFull_38 rfl rfl (.tail _ (.tail _ (.tail _ (.head _)))) ?_
    refine r_iload_n (i := 2) (pc' := 40) dX11_countsInFull_39 rfl rfl (.tail _ (.tail _ (.head _))) ?_
    refine r_icmp_ge (t := 64) (f := 43) dX11_countsInFull_40 (by decide) rfl (by first | omega | exact xv_in _ _ _) (by first | omega | exact xv_in _ _ _) (fun h40 => ?_) (fun h40 => ?_)
    · refine r_iconst (pc' := 65) dX11_countsInFull_64 rfl ?_
      refine r_zreturn dX11_countsInFull_65 rfl (by decide) ?_
      refine ⟨_, rfl, rfl, rfl, rfl, hTT.1, ?_⟩
      rw [if_neg]
      intro hf
      obtain ⟨j, j1, j2⟩ := hTT.2.1.mem (k := k) (by omega) hf.1
      obtain ⟨k2, a1, a2, a3, a4⟩ := hTT.ord hO j1
      have e : k2 = k := by omega
      subst e
      have := hf.2
      exact hno j (by omega) j2
    · exfalso; omega
  | succ w ih =>
    intro i hk1 hno
    obtain ⟨k2, a1, a2, a3, a4⟩ := hTT.ord hO (j := i) (by omega)
    refine r_iload_n (i := 3) (pc' := 39) dX11_countsInFull_38 rfl rfl (.tail _ (.tail _ (.tail _ (.head _)))) ?_
    refine r_iload_n (i := 2) (pc' := 40) dX11_countsInFull_39 rfl rfl (.tail _ (.tail _ (.head _))) ?_
    refine r_icmp_ge (t := 64) (f := 43) dX11_countsInFull_40 (by decide) rfl (by first | omega | exact xv_in _ _ _) (by first | omega | exact xv_in _ _ _) (fun h40 => ?_) (fun h40 => ?_)
    · exfalso; omega
    · refine r_aload_n (i := 0) (pc' := 44) dX11_countsInFull_43 rfl rfl (.head _) ?_
      refine r_getR (pc' := 47) dX11_countsInFull_44 rfl fX11_56 rfl (by first | assumption | rfl) (by omega) (by assumption) ?_
      refine r_getR (pc' := 50) dX11_countsInFull_47 rfl fX11_377 rfl (by first | assumption | rfl) (by omega) (by assumption) ?_
      refine r_iload_n (i := 3) (pc' := 51) dX11_countsInFull_50 rfl rfl (.tail _ (.tail _ (.tail _ (.head _)))) ?_
      refine r_iaload (pc' := 52) dX11_countsInFull_51 rfl (by first | assumption | rfl) (by omega) (by omega) (by omega) (by first | decide | omega) (Int.toNat_natCast _) ?_
      refine r_iload_n (i := 1) (pc' := 53) dX11_countsInFull_52 rfl rfl (.tail _ (.head _)) ?_
      refine r_icmp_ne (t := 58) (f := 56) dX11_countsInFull_53 (by decide) rfl (by first | omega | exact xv_in _ _ _) (by first | omega | exact xv_in _ _ _) (fun h53 => ?_) (fun h53 => ?_)
      · refine r_iinc (pc' := 61) dX11_countsInFull_58 rfl rfl (.tail _ (.tail _ (.tail _ (.head _)))) (.s1 (.s1 (.s1 (.here .nil) rfl rfl rfl) rfl rfl rfl) rfl rfl rfl) ?_
        refine r_goto (t := 38) dX11_countsInFull_61 (by decide) ?_
        refine ih (i + 1) (by omega) (fun j hj => ?_)
        rcases Nat.lt_succ_iff_lt_or_eq.mp hj with h | rfl
        · exact hno j h
        · assumption
      · refine r_iconst (pc' := 57) dX11_countsInFull_56 rfl ?_
        refine r_zreturn dX11_countsInFull_57 rfl (by decide) ?_
        refine ⟨_, rfl, rfl, rfl, rfl, hTT.1, ?_⟩
        have e : k2 = k := by omega
        subst e
        rw [if_pos ⟨a3, by omega⟩]
set_option maxHeartbeats 4000000 in
set_option maxRecDepth 100000 in
theorem tX11_countsInFull {l : Launch} {g : q_G} {n : Nat} {P : q_P} {X : q_X} {Y : q_Y} {b : Nat} (hF : isFace n P b) (hb : isBk n P b) (hO : bOk X b) (hap : bApart b) (ht : isTal n P) {k : Nat} (hk : (k : Int) < xv X b 10) : q_Met l g mX11_countsInFull 4 [.ref (g.1 + 0), .int (zi (k : Int))] n P X Y (q_gi (fun r' n' P' X' Y' => n' = n ∧ P' = P ∧ Y' = Y ∧ tOut X X' ∧ r' = if bk_isFull X b k then 1 else 0)) := by
  obtain ⟨f0, f2, f3, f4, f5, f6, f7, f8, hn0⟩ := id hF
  obtain ⟨b0, b1, b2, b3, q7, q8, q9, q11, q12, q13, hn, hpro, hmar, hfor, hcs⟩ := id hb
  obtain ⟨o0, o1, o2, o3, o4, o5, o6, o10, oc, op0, opz, opi, om0, omi, olim⟩ := id hO
  obtain ⟨t0, t1, t2, t3, t4, hnt⟩ := id ht
  refine q_enter (L := [(0, .ref (g.1 + 0)), (1, .int (zi (k : Int)))]) (by decide) (Nat.le_of_ble_eq_true rfl) rfl ?_
  refine r_aload_n (i := 0) (pc' := 1) dX11_countsInFull_0 rfl rfl (.head _) ?_
  refine r_getR (pc' := 4) dX11_countsInFull_1 rfl fX11_56 rfl (by first | assumption | rfl) (by omega) (by assumption) ?_
  refine r_aload_n (i := 0) (pc' := 5) dX11_countsInFull_4 rfl rfl (.head _) ?_
  refine r_getR (pc' := 8) dX11_countsInFull_5 rfl fX11_10 rfl (by first | assumption | rfl) (by omega) (by assumption) ?_
  refine r_V1gv (ci := 10) (pc' := 11) dX11_countsInFull_8 rfl lX11_211 rfl (by decide) (Nat.le_of_ble_eq_true rfl) (by first | assumption | rfl) (by omega) (tX10_load hb hO ht hap) (fun n8 P8 X8 Y8 e8 le8 => ?_)
  obtain ⟨rfl, rfl, rfl, ho, htl⟩ := e8
  have hTT := TT.of ho hap hO htl
  have hT1 := htl.1
  have hag := ho.ag hap
  have hO1 := bOk_ag hag hO
  have eb : xv X8 b = xv X b := hag.z
  refine r_aload_n (i := 0) (pc' := 12) dX11_countsInFull_11 rfl rfl (.head _) ?_
  refine r_getR (pc' := 15) dX11_countsInFull_12 rfl fX11_56 rfl (by first | assumption | rfl) (by omega) (by assumption) ?_
  refine r_getI (pc' := 18) dX11_countsInFull_15 rfl fX11_376 rfl (by first | assumption | rfl) (by omega) ?_
  refine r_aload_n (i := 0) (pc' := 19) dX11_countsInFull_18 rfl rfl (.head _) ?_
  refine r_getR (pc' := 22) dX11_countsInFull_19 rfl fX11_10 rfl (by first | assumption | rfl) (by omega) (by assumption) ?_
  refine r_aload_n (i := 0) (pc' := 23) dX11_countsInFull_22 rfl rfl (.head _) ?_
  refine r_getR (pc' := 26) dX11_countsInFull_23 rfl fX11_10 rfl (by first | assumption | rfl) (by omega) (by assumption) ?_
  refine r_getI (pc' := 29) dX11_countsInFull_26 rfl fX11_138 rfl (by first | assumption | rfl) (by omega) ?_
  rw [eb]
  refine r_V1p (ci := 1) (pc' := 32) dX11_countsInFull_29 rfl lX11_397 rfl (by decide) (Nat.le_of_ble_eq_true rfl) (by first | assumption | rfl) (by omega) (tX1_fullPlaces hb (by omega)) ?_
  rw [bk_full_ag eb]
  have hfb := bk_full_in hO (xv X b 1)
  have h40 := hTT.2.1.1.1
  refine r_min (pc' := 35) dX11_countsInFull_32 rfl lX11_353 (by decide) (Nat.le_of_ble_eq_true rfl) (by first | omega | exact xv_in _ _ _) (by first | omega | exact xv_in _ _ _) ?_
  refine r_istore_n (i := 2) (pc' := 36) dX11_countsInFull_35 rfl rfl rfl (.s1 (.s1 .nil rfl rfl rfl) rfl rfl rfl) ?_
  refine r_iconst (pc' := 37) dX11_countsInFull_36 rfl ?_
  refine r_istore_n (i := 3) (pc' := 38) dX11_countsInFull_37 rfl rfl rfl (.s1 (.s1 (.s1 .nil rfl rfl rfl) rfl rfl rfl) rfl rfl rfl) ?_
  exact lX11_countsInFull hF hb hO hap ht hk hTT rfl _ 0 (Nat.zero_add _) (fun j hj => by omega)
set_option maxHeartbeats 4000000 in
set_option maxRecDepth 100000 in
theorem tX11_countsInFullZ {l : Launch} {g : q_G} {n : Nat} {P : q_P} {X : q_X} {Y : q_Y} {b : Nat} (hF : isFace n P b) (hb : isBk n P b) (hO : bOk X b) (hap : bApart b) (ht : isTal n P) {k : Int} (h0 : 0 ≤ k) (hk : k < xv X b 10) : q_Met l g mX11_countsInFull 4 [.ref (g.1 + 0), .int (zi k)] n P X Y (q_gi (fun r' n' P' X' Y' => n' = n ∧ P' = P ∧ Y' = Y ∧ tOut X X' ∧ r' = if bk_isFull X b k.toNat then 1 else 0)) := by
  have := tX11_countsInFull (l := l) (g := g) (n := n) (P := P) (X := X) (Y := Y) (k := k.toNat) hF hb hO hap ht (by omega)
  rw [Int.toNat_of_nonneg h0] at this; exact this
set_option maxHeartbeats 4000000 in
set_option maxRecDepth 100000 in
theorem tX11_contract {l : Launch} {g : q_G} {n : Nat} {P : q_P} {X : q_X} {Y : q_Y} {b : Nat} (hF : isFace n P b) (hb : isBk n P b) (hO : bOk X b) (hap : bApart b) (ht : isTal n P) {k w : Int} (hi : q_in k) (hw : q_in w) : q_Met l g mX11_contract 5 [.ref (g.1 + 0), .int (zi k), .int (zi w)] n P X Y (q_it (f_con X b k w) n P X Y) := by
  obtain ⟨f0, f2, f3, f4, f5, f6, f7, f8, hn0⟩ := id hF
  obtain ⟨b0, b1, b2, b3, q7, q8, q9, q11, q12, q13, hn, hpro, hmar, hfor, hcs⟩ := id hb
  obtain ⟨o0, o1, o2, o3, o4, o5, o6, o10, oc, op0, opz, opi, om0, omi, olim⟩ := id hO
  obtain ⟨t0, t1, t2, t3, t4, hnt⟩ := id ht
  refine q_enter (L := [(0, .ref (g.1 + 0)), (1, .int (zi k)), (2, .int (zi w))]) (by decide) (Nat.le_of_ble_eq_true rfl) rfl ?_
  refine r_aload_n (i := 0) (pc' := 1) dX11_contract_0 rfl rfl (.head _) ?_
  refine r_getR (pc' := 4) dX11_contract_1 rfl fX11_10 rfl (by first | assumption | rfl) (by omega) (by assumption) ?_
  refine r_iload_n (i := 1) (pc' := 5) dX11_contract_4 rfl rfl (.tail _ (.head _)) ?_
  by_cases hk : bk_has X b k
  · have hc := hb.c (k := k.toNat) (by omega)
    obtain ⟨s0, s1, s2, s3, s4, p6, p7, p8, p9, hnc⟩ := id hc
    have hck := hO.c (k := k.toNat) (by omega)
    obtain ⟨hf, hf2, hf3, hf4, hfj, hfs, hfg⟩ := id hck
    refine r_V1p (ci := 1) (pc' := 8) dX11_contract_5 rfl lX11_168 rfl (by decide) (Nat.le_of_ble_eq_true rfl) (by first | assumption | rfl) (by omega) (tX1_find (by assumption) (by assumption) (by assumption)) ?_
    refine r_astore_n (i := 3) (pc' := 9) dX11_contract_8 rfl rfl rfl (.s1 (.s1 (.s1 .nil rfl rfl rfl) rfl rfl rfl) rfl rfl rfl) ?_
    refine r_aload_n (i := 3) (pc' := 10) dX11_contract_9 rfl rfl (.tail _ (.tail _ (.tail _ (.head _)))) ?_
    refine r_ifnonnull (t := 15) dX11_contract_10 (by decide) ?_
    refine r_iload_n (i := 2) (pc' := 16) dX11_contract_15 rfl rfl (.tail _ (.tail _ (.head _))) ?_
    by_cases hs16 : w < 0 ∨ 7 < w
    · refine r_tout (t := 138) dX11_contract_16 (by first | omega | exact xv_in _ _ _) hs16 (by decide) ?_
      refine r_iconst (pc' := 139) dX11_contract_138 rfl ?_
      refine r_ireturn dX11_contract_139 rfl ?_
      refine ⟨_, rfl, rfl, rfl, rfl, by first | exact eo126 | exact tOut.rfl, ?_⟩
      unfold f_con
      first
        | rw [if_pos hk]
        | (rw [if_neg (fun q => q hk)]
           (repeat' split) <;> first | rfl | (exfalso; omega) | (exfalso; first | (rw [if_pos (by assumption)] at e126; omega) | (rw [if_neg (by assumption)] at e126; omega)))
    · have hc16 : w = 0 ∨ w = 1 ∨ w = 2 ∨ w = 3 ∨ w = 4 ∨ w = 5 ∨ w = 6 ∨ w = 7 := by omega
      rcases hc16 with hc16 | hc16 | hc16 | hc16 | hc16 | hc16 | hc16 | hc16
      · refine r_tin (t := 64) (off := 48) dX11_contract_16 (by first | omega | exact xv_in _ _ _) (by omega) (by omega) (by rw [hc16]; rfl) (by decide) ?_
        refine r_aload_n (i := 3) (pc' := 65) dX11_contract_64 rfl rfl (.tail _ (.tail _ (.tail _ (.head _)))) ?_
        refine r_getI (pc' := 68) dX11_contract_65 rfl fX11_172 rfl (by first | assumption | rfl) (by omega) ?_
        refine r_ireturn dX11_contract_68 rfl ?_
        refine ⟨_, rfl, rfl, rfl, rfl, by first | exact eo126 | exact tOut.rfl, ?_⟩
        unfold f_con
        first
          | rw [if_pos hk]
          | (rw [if_neg (fun q => q hk)]
             (repeat' split) <;> first | rfl | (exfalso; omega) | (exfalso; first | (rw [if_pos (by assumption)] at e126; omega) | (rw [if_neg (by assumption)] at e126; omega)))
      · refine r_tin (t := 69) (off := 53) dX11_contract_16 (by first | omega | exact xv_in _ _ _) (by omega) (by omega) (by rw [hc16]; rfl) (by decide) ?_
        refine r_aload_n (i := 3) (pc' := 70) dX11_contract_69 rfl rfl (.tail _ (.tail _ (.tail _ (.head _)))) ?_
        refine r_getI (pc' := 73) dX11_contract_70 rfl fX11_177 rfl (by first | assumption | rfl) (by omega) ?_
        refine r_ireturn dX11_contract_73 rfl ?_
        refine ⟨_, rfl, rfl, rfl, rfl, by first | exact eo126 | exact tOut.rfl, ?_⟩
        unfold f_con
        first
          | rw [if_pos hk]
          | (rw [if_neg (fun q => q hk)]
             (repeat' split) <;> first | rfl | (exfalso; omega) | (exfalso; first | (rw [if_pos (by assumption)] at e126; omega) | (rw [if_neg (by assumption)] at e126; omega)))
      · refine r_tin (t := 74) (off := 58) dX11_contract_16 (by first | omega | exact xv_in _ _ _) (by omega) (by omega) (by rw [hc16]; rfl) (by decide) ?_
        refine r_aload_n (i := 3) (pc' := 75) dX11_contract_74 rfl rfl (.tail _ (.tail _ (.tail _ (.head _)))) ?_
        refine r_getI (pc' := 78) dX11_contract_75 rfl fX11_180 rfl (by first | assumption | rfl) (by omega) ?_
        refine r_ireturn dX11_contract_78 rfl ?_
        refine ⟨_, rfl, rfl, rfl, rfl, by first | exact eo126 | exact tOut.rfl, ?_⟩
        unfold f_con
        first
          | rw [if_pos hk]
          | (rw [if_neg (fun q => q hk)]
             (repeat' split) <;> first | rfl | (exfalso; omega) | (exfalso; first | (rw [if_pos (by assumption)] at e126; omega) | (rw [if_neg (by assumption)] at e126; omega)))
      · refine r_tin (t := 79) (off := 63) dX11_contract_16 (by first | omega | exact xv_in _ _ _) (by omega) (by omega) (by rw [hc16]; rfl) (by decide) ?_
        refine r_aload_n (i := 3) (pc' := 80) dX11_contract_79 rfl rfl (.tail _ (.tail _ (.tail _ (.head _)))) ?_
        refine r_getI (pc' := 83) dX11_contract_80 rfl fX11_183 rfl (by first | assumption | rfl) (by omega) ?_
        refine r_ireturn dX11_contract_83 rfl ?_
        refine ⟨_, rfl, rfl, rfl, rfl, by first | exact eo126 | exact tOut.rfl, ?_⟩
        unfold f_con
        first
          | rw [if_pos hk]
          | (rw [if_neg (fun q => q hk)]
             (repeat' split) <;> first | rfl | (exfalso; omega) | (exfalso; first | (rw [if_pos (by assumption)] at e126; omega) | (rw [if_neg (by assumption)] at e126; omega)))
      · refine r_tin (t := 84) (off := 68) dX11_contract_16 (by first | omega | exact xv_in _ _ _) (by omega) (by omega) (by rw [hc16]; rfl) (by decide) ?_
        refine r_aload_n (i := 3) (pc' := 85) dX11_contract_84 rfl rfl (.tail _ (.tail _ (.tail _ (.head _)))) ?_
        refine r_getI (pc' := 88) dX11_contract_85 rfl fX11_186 rfl (by first | assumption | rfl) (by omega) ?_
        refine r_ireturn dX11_contract_88 rfl ?_
        refine ⟨_, rfl, rfl, rfl, rfl, by first | exact eo126 | exact tOut.rfl, ?_⟩
        unfold f_con
        first
          | rw [if_pos hk]
          | (rw [if_neg (fun q => q hk)]
             (repeat' split) <;> first | rfl | (exfalso; omega) | (exfalso; first | (rw [if_pos (by assumption)] at e126; omega) | (rw [if_neg (by assumption)] at e126; omega)))
      · refine r_tin (t := 89) (off := 73) dX11_contract_16 (by first | omega | exact xv_in _ _ _) (by omega) (by omega) (by rw [hc16]; rfl) (by decide) ?_
        refine r_aload_n (i := 3) (pc' := 90) dX11_contract_89 rfl rfl (.tail _ (.tail _ (.tail _ (.head _)))) ?_
        refine r_aload_n (i := 0) (pc' := 91) dX11_contract_90 rfl rfl (.head _) ?_
        refine r_getR (pc' := 94) dX11_contract_91 rfl fX11_10 rfl (by first | assumption | rfl) (by omega) (by assumption) ?_
        refine r_getI (pc' := 97) dX11_contract_94 rfl fX11_135 rfl (by first | assumption | rfl) (by omega) ?_
        refine r_V1p (ci := 4) (pc' := 100) dX11_contract_97 rfl lX11_189 rfl (by decide) (Nat.le_of_ble_eq_true rfl) (by first | assumption | rfl) (by omega) (tX4_yearsLeft (by assumption) (by assumption) (by omega)) ?_
        refine r_ireturn dX11_contract_100 rfl ?_
        refine ⟨_, rfl, rfl, rfl, rfl, by first | exact eo126 | exact tOut.rfl, ?_⟩
        unfold f_con
        first
          | rw [if_pos hk]
          | (rw [if_neg (fun q => q hk)]
             (repeat' split) <;> first | rfl | (exfalso; omega) | (exfalso; first | (rw [if_pos (by assumption)] at e126; omega) | (rw [if_neg (by assumption)] at e126; omega)))
      · refine r_tin (t := 101) (off := 85) dX11_contract_16 (by first | omega | exact xv_in _ _ _) (by omega) (by omega) (by rw [hc16]; rfl) (by decide) ?_
        refine r_aload_n (i := 3) (pc' := 102) dX11_contract_101 rfl rfl (.tail _ (.tail _ (.tail _ (.head _)))) ?_
        refine r_V0p (ci := 4) (pc' := 105) dX11_contract_102 rfl lX11_192 rfl (by decide) (Nat.le_of_ble_eq_true rfl) (by first | assumption | rfl) (by omega) (tX4_isOpen (by assumption)) ?_
        refine r_bif_eq (t := 122) (f := 108) dX11_contract_105 (by decide) rfl (fun h105 => ?_) (fun h105 => ?_)
        · refine r_iconst (pc' := 123) dX11_contract_122 rfl ?_
          refine r_ireturn dX11_contract_123 rfl ?_
          refine ⟨_, rfl, rfl, rfl, rfl, by first | exact eo126 | exact tOut.rfl, ?_⟩
          unfold f_con
          first
            | rw [if_pos hk]
            | (rw [if_neg (fun q => q hk)]
               (repeat' split) <;> first | rfl | (exfalso; omega) | (exfalso; first | (rw [if_pos (by assumption)] at e126; omega) | (rw [if_neg (by assumption)] at e126; omega)))
        · refine r_aload_n (i := 3) (pc' := 109) dX11_contract_108 rfl rfl (.tail _ (.tail _ (.tail _ (.head _)))) ?_
          refine r_aload_n (i := 0) (pc' := 110) dX11_contract_109 rfl rfl (.head _) ?_
          refine r_getR (pc' := 113) dX11_contract_110 rfl fX11_10 rfl (by first | assumption | rfl) (by omega) (by assumption) ?_
          refine r_getI (pc' := 116) dX11_contract_113 rfl fX11_135 rfl (by first | assumption | rfl) (by omega) ?_
          refine r_V1p (ci := 4) (pc' := 119) dX11_contract_116 rfl lX11_196 rfl (by decide) (Nat.le_of_ble_eq_true rfl) (by first | assumption | rfl) (by omega) (tX4_hit (by assumption) (by assumption) (by omega)) ?_
          refine r_goto (t := 123) dX11_contract_119 (by decide) ?_
          refine r_ireturn dX11_contract_123 rfl ?_
          refine ⟨_, rfl, rfl, rfl, rfl, by first | exact eo126 | exact tOut.rfl, ?_⟩
          unfold f_con
          first
            | rw [if_pos hk]
            | (rw [if_neg (fun q => q hk)]
               (repeat' split) <;> first | rfl | (exfalso; omega) | (exfalso; first | (rw [if_pos (by assumption)] at e126; omega) | (rw [if_neg (by assumption)] at e126; omega)))
      · refine r_tin (t := 124) (off := 108) dX11_contract_16 (by first | omega | exact xv_in _ _ _) (by omega) (by omega) (by rw [hc16]; rfl) (by decide) ?_
        refine r_aload_n (i := 0) (pc' := 125) dX11_contract_124 rfl rfl (.head _) ?_
        refine r_iload_n (i := 1) (pc' := 126) dX11_contract_125 rfl rfl (.tail _ (.head _)) ?_
        refine r_V1gi (ci := 11) (pc' := 129) dX11_contract_126 rfl lX11_199 rfl (by decide) (Nat.le_of_ble_eq_true rfl) (by first | assumption | rfl) (by omega) (tX11_countsInFullZ hF hb hO hap ht (by omega) (by omega)) (fun r126 n126 P126 X126 Y126 e126 le126 => ?_)
        obtain ⟨rfl, rfl, rfl, eo126, e126⟩ := e126
        have h01 : r126 = 0 ∨ r126 = 1 := by rw [e126]; split <;> omega
        refine r_if_eq (t := 136) (f := 132) dX11_contract_129 (by decide) rfl (by first | omega | exact xv_in _ _ _) (fun h129 => ?_) (fun h129 => ?_)
        · refine r_iconst (pc' := 137) dX11_contract_136 rfl ?_
          refine r_ireturn dX11_contract_137 rfl ?_
          refine ⟨_, rfl, rfl, rfl, rfl, by first | exact eo126 | exact tOut.rfl, ?_⟩
          unfold f_con
          first
            | rw [if_pos hk]
            | (rw [if_neg (fun q => q hk)]
               (repeat' split) <;> first | rfl | (exfalso; omega) | (exfalso; first | (rw [if_pos (by assumption)] at e126; omega) | (rw [if_neg (by assumption)] at e126; omega)))
        · refine r_iconst (pc' := 133) dX11_contract_132 rfl ?_
          refine r_goto (t := 137) dX11_contract_133 (by decide) ?_
          refine r_ireturn dX11_contract_137 rfl ?_
          refine ⟨_, rfl, rfl, rfl, rfl, by first | exact eo126 | exact tOut.rfl, ?_⟩
          unfold f_con
          first
            | rw [if_pos hk]
            | (rw [if_neg (fun q => q hk)]
               (repeat' split) <;> first | rfl | (exfalso; omega) | (exfalso; first | (rw [if_pos (by assumption)] at e126; omega) | (rw [if_neg (by assumption)] at e126; omega)))
  · refine r_V1p (ci := 1) (pc' := 8) dX11_contract_5 rfl lX11_168 rfl (by decide) (Nat.le_of_ble_eq_true rfl) (by first | assumption | rfl) (by omega) (tX1_findN (by assumption) (by assumption) (by first | assumption | omega) (by assumption)) ?_
    refine r_astoreN_n (i := 3) (pc' := 9) dX11_contract_8 rfl rfl rfl (.s1 (.s1 (.s1 .nil rfl rfl rfl) rfl rfl rfl) rfl rfl rfl) ?_
    refine r_aloadN_n (i := 3) (pc' := 10) dX11_contract_9 rfl rfl (.tail _ (.tail _ (.tail _ (.head _)))) ?_
    refine r_ifnonnullN (pc' := 13) dX11_contract_10 rfl ?_
    refine r_iconst (pc' := 14) dX11_contract_13 rfl ?_
    refine r_ireturn dX11_contract_14 rfl ?_
    refine ⟨_, rfl, rfl, rfl, rfl, by first | exact eo126 | exact tOut.rfl, ?_⟩
    unfold f_con
    first
      | rw [if_pos hk]
      | (rw [if_neg (fun q => q hk)]
         (repeat' split) <;> first | rfl | (exfalso; omega) | (exfalso; first | (rw [if_pos (by assumption)] at e126; omega) | (rw [if_neg (by assumption)] at e126; omega)))
set_option maxHeartbeats 4000000 in
set_option maxRecDepth 100000 in
theorem tX11_savedByTurn {l : Launch} {g : q_G} {n : Nat} {P : q_P} {X : q_X} {Y : q_Y} {X0 : q_X} {b k : Nat} (hF : isFace n P b) (hb : isBk n P b) (hO0 : bOk X0 b) (hap : bApart b) (ht : isTal n P) (hk : (k : Int) < xv X0 b 10) (hTT : TT X0 X b g0 g0) : q_Met l g mX11_savedByTurn 3 [.ref (g.1 + 0), .int (zi (k : Int)), .ref (g.1 + con b k)] n P X Y (q_gi (fun r' n' P' X' Y' => n' = n ∧ P' = P ∧ Y' = Y ∧ tOut X0 X' ∧ r' = bk_cnt X0 b g0 g0 (xv X0 b 1) - bk_cnt X0 b g0 (g1 k) (xv X0 b 1))) := by
  have ho := hTT.1
  have hag := ho.ag hap
  have hO := bOk_ag hag hO0
  have eb : xv X b = xv X0 b := hag.z
  have hT1 := hTT.2.1.1
  obtain ⟨f0, f2, f3, f4, f5, f6, f7, f8, hn0⟩ := id hF
  obtain ⟨b0, b1, b2, b3, q7, q8, q9, q11, q12, q13, hn, hpro, hmar, hfor, hcs⟩ := id hb
  obtain ⟨o0, o1, o2, o3, o4, o5, o6, o10, oc, op0, opz, opi, om0, omi, olim⟩ := id hO
  obtain ⟨t0, t1, t2, t3, t4, hnt⟩ := id ht
  have h10 := hO0.2.2.2.2.2.2.2.1
  have hcg := hag.c (k := k) (by omega)
  have ek : (k : Int) < xv X b 10 := by rw [eb]; exact hk
  have hc := hb.c (k := k) (by omega)
  obtain ⟨s0, s1, s2, s3, s4, p6, p7, p8, p9, hnc⟩ := id hc
  have hck := hO.c (k := k) (by omega)
  obtain ⟨hf, hf2, hf3, hf4, hfj, hfs, hfg⟩ := id hck
  have hmb := bk_most_b (hO0.c hk) hO0.2.2.2.2.2.2.1.1
  have hbb := c_base_b (hO0.c hk) (xv X0 b 0)
  have hlst : c_last X (con b k) = xv X (con b k) 0 + xv X (con b k) 1 + xv X (con b k) 2 - 1 := rfl
  refine q_enter (L := [(0, .ref (g.1 + 0)), (1, .int (zi (k : Int))), (2, .ref (g.1 + con b k))]) (by decide) (Nat.le_of_ble_eq_true rfl) rfl ?_
  refine r_aload_n (i := 0) (pc' := 1) dX11_savedByTurn_0 rfl rfl (.head _) ?_
  refine r_getR (pc' := 4) dX11_savedByTurn_1 rfl fX11_56 rfl (by first | assumption | rfl) (by omega) (by assumption) ?_
  refine r_aload_n (i := 0) (pc' := 5) dX11_savedByTurn_4 rfl rfl (.head _) ?_
  refine r_getR (pc' := 8) dX11_savedByTurn_5 rfl fX11_10 rfl (by first | assumption | rfl) (by omega) (by assumption) ?_
  refine r_aload_n (i := 0) (pc' := 9) dX11_savedByTurn_8 rfl rfl (.head _) ?_
  refine r_getR (pc' := 12) dX11_savedByTurn_9 rfl fX11_10 rfl (by first | assumption | rfl) (by omega) (by assumption) ?_
  refine r_getI (pc' := 15) dX11_savedByTurn_12 rfl fX11_138 rfl (by first | assumption | rfl) (by omega) ?_
  refine r_V2p (ci := 10) (pc' := 18) dX11_savedByTurn_15 rfl lX11_214 rfl (by decide) (Nat.le_of_ble_eq_true rfl) (by first | assumption | rfl) (by omega) (tX10_count hb hO ht hT1 (by omega)) ?_
  rw [hTT.cnt hap, eb]
  refine r_istore_n (i := 3) (pc' := 19) dX11_savedByTurn_18 rfl rfl rfl (.s1 (.s1 (.s1 .nil rfl rfl rfl) rfl rfl rfl) rfl rfl rfl) ?_
  refine r_aload_n (i := 0) (pc' := 20) dX11_savedByTurn_19 rfl rfl (.head _) ?_
  refine r_getR (pc' := 23) dX11_savedByTurn_20 rfl fX11_10 rfl (by first | assumption | rfl) (by omega) (by assumption) ?_
  refine r_aload_n (i := 2) (pc' := 24) dX11_savedByTurn_23 rfl rfl (.tail _ (.tail _ (.head _))) ?_
  refine r_V1p (ci := 1) (pc' := 27) dX11_savedByTurn_24 rfl lX11_337 rfl (by decide) (Nat.le_of_ble_eq_true rfl) (by first | assumption | rfl) (by omega) (tX1_mostTurned hb hO hc hck) ?_
  rw [bk_most_ag hag hcg]
  refine r_istore (pc' := 29) dX11_savedByTurn_27 rfl rfl (.s1 (.s1 (.s1 (.s1 .nil rfl rfl rfl) rfl rfl rfl) rfl rfl rfl) rfl rfl rfl) ?_
  refine r_aload_n (i := 0) (pc' := 30) dX11_savedByTurn_29 rfl rfl (.head _) ?_
  refine r_getR (pc' := 33) dX11_savedByTurn_30 rfl fX11_56 rfl (by first | assumption | rfl) (by omega) (by assumption) ?_
  refine r_iload_n (i := 1) (pc' := 34) dX11_savedByTurn_33 rfl rfl (.tail _ (.head _)) ?_
  refine r_iload (pc' := 36) dX11_savedByTurn_34 rfl (.tail _ (.tail _ (.tail _ (.tail _ (.head _))))) ?_
  refine r_aload_n (i := 2) (pc' := 37) dX11_savedByTurn_36 rfl rfl (.tail _ (.tail _ (.head _))) ?_
  refine r_iload (pc' := 39) dX11_savedByTurn_37 rfl (.tail _ (.tail _ (.tail _ (.tail _ (.head _))))) ?_
  refine r_aload_n (i := 0) (pc' := 40) dX11_savedByTurn_39 rfl rfl (.head _) ?_
  refine r_getR (pc' := 43) dX11_savedByTurn_40 rfl fX11_10 rfl (by first | assumption | rfl) (by omega) (by assumption) ?_
  refine r_getI (pc' := 46) dX11_savedByTurn_43 rfl fX11_135 rfl (by first | assumption | rfl) (by omega) ?_
  refine r_iconst (pc' := 47) dX11_savedByTurn_46 rfl ?_
  refine r_V3p (ci := 4) (pc' := 50) dX11_savedByTurn_47 rfl lX11_365 rfl (by decide) (Nat.le_of_ble_eq_true rfl) (by first | assumption | rfl) (by omega) (tX4_partOf hc (by omega) (by omega) (by omega) (by omega)) ?_
  rw [c_last_ag hcg, eb, show c_piece (bk_most X0 b (con b k)) (c_last X0 (con b k) - xv X0 b 0 + 1) 0 = bk_sh X0 b k from rfl]
  refine r_V3gv (ci := 10) (pc' := 53) dX11_savedByTurn_50 rfl lX11_369 rfl (by decide) (Nat.le_of_ble_eq_true rfl) (by first | assumption | rfl) (by omega) (tX10_shift ht (by omega)) (fun n50 P50 X50 Y50 e50 le50 => ?_)
  obtain ⟨rfl, rfl, rfl, rfl⟩ := e50
  have hTS := TS.turn (T' := g1 k) hO0 hk hTT.s (fun i hi => by simp [g0, g1, hi]) rfl (by simp [g1])
  refine r_aload_n (i := 0) (pc' := 54) dX11_savedByTurn_53 rfl rfl (.head _) ?_
  refine r_getR (pc' := 57) dX11_savedByTurn_54 rfl fX11_56 rfl (by first | assumption | rfl) (by omega) (by assumption) ?_
  refine r_V0gv (ci := 10) (pc' := 60) dX11_savedByTurn_57 rfl lX11_373 rfl (by decide) (Nat.le_of_ble_eq_true rfl) (by first | assumption | rfl) (by omega) (tX10_rank ht hTS.2.1) (fun n57 P57 X57 Y57 e57 le57 => ?_)
  obtain ⟨rfl, rfl, rfl, f, ef, hrI⟩ := e57
  have hT2 := hTS.rank hrI
  rw [← ef] at hT2
  have hag2 := hT2.1.ag hap
  have hO2 := bOk_ag hag2 hO0
  have eb2 : xv X57 b = xv X0 b := hag2.z
  refine r_iload_n (i := 3) (pc' := 61) dX11_savedByTurn_60 rfl rfl (.tail _ (.tail _ (.tail _ (.head _)))) ?_
  refine r_aload_n (i := 0) (pc' := 62) dX11_savedByTurn_61 rfl rfl (.head _) ?_
  refine r_getR (pc' := 65) dX11_savedByTurn_62 rfl fX11_56 rfl (by first | assumption | rfl) (by omega) (by assumption) ?_
  refine r_aload_n (i := 0) (pc' := 66) dX11_savedByTurn_65 rfl rfl (.head _) ?_
  refine r_getR (pc' := 69) dX11_savedByTurn_66 rfl fX11_10 rfl (by first | assumption | rfl) (by omega) (by assumption) ?_
  refine r_aload_n (i := 0) (pc' := 70) dX11_savedByTurn_69 rfl rfl (.head _) ?_
  refine r_getR (pc' := 73) dX11_savedByTurn_70 rfl fX11_10 rfl (by first | assumption | rfl) (by omega) (by assumption) ?_
  refine r_getI (pc' := 76) dX11_savedByTurn_73 rfl fX11_138 rfl (by first | assumption | rfl) (by omega) ?_
  refine r_V2p (ci := 10) (pc' := 79) dX11_savedByTurn_76 rfl lX11_214 rfl (by decide) (Nat.le_of_ble_eq_true rfl) (by first | assumption | rfl) (by omega) (tX10_count hb hO2 ht hT2.2.1.1 (by rw [eb2]; have := hO0.2.1; omega)) ?_
  rw [hT2.cnt hap, eb2]
  refine r_isub (pc' := 80) dX11_savedByTurn_79 rfl ?_
  refine r_ireturn dX11_savedByTurn_80 rfl ?_
  exact ⟨_, rfl, rfl, rfl, rfl, hT2.1, rfl⟩
set_option maxHeartbeats 4000000 in
set_option maxRecDepth 100000 in
theorem tX11_savedByTurnZ {l : Launch} {g : q_G} {n : Nat} {P : q_P} {X : q_X} {Y : q_Y} {X0 : q_X} {b : Nat} {k : Int} (hF : isFace n P b) (hb : isBk n P b) (hO0 : bOk X0 b) (hap : bApart b) (ht : isTal n P) (h0 : 0 ≤ k) (hk : k < xv X0 b 10) (hTT : TT X0 X b g0 g0) : q_Met l g mX11_savedByTurn 3 [.ref (g.1 + 0), .int (zi k), .ref (g.1 + con b k.toNat)] n P X Y (q_gi (fun r' n' P' X' Y' => n' = n ∧ P' = P ∧ Y' = Y ∧ tOut X0 X' ∧ r' = bk_cnt X0 b g0 g0 (xv X0 b 1) - bk_cnt X0 b g0 (g1 k.toNat) (xv X0 b 1))) := by
  have := tX11_savedByTurn (l := l) (g := g) (n := n) (P := P) (X := X) (Y := Y) (k := k.toNat) hF hb hO0 hap ht (by omega) hTT
  rw [Int.toNat_of_nonneg h0] at this; exact this
set_option maxHeartbeats 4000000 in
set_option maxRecDepth 100000 in
theorem tX11_turned {l : Launch} {g : q_G} {n : Nat} {P : q_P} {X : q_X} {Y : q_Y} {b : Nat} (hF : isFace n P b) (hb : isBk n P b) (hO : bOk X b) (hap : bApart b) (ht : isTal n P) {k w : Int} (hi : q_in k) (hw : q_in w) : q_Met l g mX11_turned 4 [.ref (g.1 + 0), .int (zi k), .int (zi w)] n P X Y (q_it (f_turned X b k w) n P X Y) := by
  obtain ⟨f0, f2, f3, f4, f5, f6, f7, f8, hn0⟩ := id hF
  obtain ⟨b0, b1, b2, b3, q7, q8, q9, q11, q12, q13, hn, hpro, hmar, hfor, hcs⟩ := id hb
  obtain ⟨o0, o1, o2, o3, o4, o5, o6, o10, oc, op0, opz, opi, om0, omi, olim⟩ := id hO
  obtain ⟨t0, t1, t2, t3, t4, hnt⟩ := id ht
  refine q_enter (L := [(0, .ref (g.1 + 0)), (1, .int (zi k)), (2, .int (zi w))]) (by decide) (Nat.le_of_ble_eq_true rfl) rfl ?_
  refine r_aload_n (i := 0) (pc' := 1) dX11_turned_0 rfl rfl (.head _) ?_
  refine r_getR (pc' := 4) dX11_turned_1 rfl fX11_10 rfl (by first | assumption | rfl) (by omega) (by assumption) ?_
  refine r_iload_n (i := 1) (pc' := 5) dX11_turned_4 rfl rfl (.tail _ (.head _)) ?_
  by_cases hk : bk_ref X b k = 0
  · have hh := bk_ref_has hk
    have hc := hb.c (k := k.toNat) (by omega)
    obtain ⟨s0, s1, s2, s3, s4, p6, p7, p8, p9, hnc⟩ := id hc
    have hck := hO.c (k := k.toNat) (by omega)
    obtain ⟨hf, hf2, hf3, hf4, hfj, hfs, hfg⟩ := id hck
    refine r_V1p (ci := 1) (pc' := 8) dX11_turned_5 rfl lX11_222 rfl (by decide) (Nat.le_of_ble_eq_true rfl) (by first | assumption | rfl) (by omega) (tX1_findBegun (by assumption) (by assumption) (by first | assumption | omega) (by assumption)) ?_
    refine r_astore_n (i := 3) (pc' := 9) dX11_turned_8 rfl rfl rfl (.s1 (.s1 (.s1 .nil rfl rfl rfl) rfl rfl rfl) rfl rfl rfl) ?_
    refine r_aload_n (i := 3) (pc' := 10) dX11_turned_9 rfl rfl (.tail _ (.tail _ (.tail _ (.head _)))) ?_
    refine r_ifnonnull (t := 15) dX11_turned_10 (by decide) ?_
    refine r_iload_n (i := 2) (pc' := 16) dX11_turned_15 rfl rfl (.tail _ (.tail _ (.head _))) ?_
    by_cases hs16 : w = 0 ∨ w = 1
    · rcases hs16 with hs16 | hs16
      · refine r_look (t := 44) (off := 28) dX11_turned_16 rfl (by first | omega | exact xv_in _ _ _) (by rw [hs16]; rfl) (by decide) ?_
        refine r_aload_n (i := 0) (pc' := 45) dX11_turned_44 rfl rfl (.head _) ?_
        refine r_getR (pc' := 48) dX11_turned_45 rfl fX11_10 rfl (by first | assumption | rfl) (by omega) (by assumption) ?_
        refine r_aload_n (i := 3) (pc' := 49) dX11_turned_48 rfl rfl (.tail _ (.tail _ (.tail _ (.head _)))) ?_
        refine r_V1p (ci := 1) (pc' := 52) dX11_turned_49 rfl lX11_337 rfl (by decide) (Nat.le_of_ble_eq_true rfl) (by first | assumption | rfl) (by omega) (tX1_mostTurned (by assumption) (by assumption) (by assumption) (by assumption)) ?_
        refine r_ireturn dX11_turned_52 rfl ?_
        refine ⟨_, rfl, rfl, rfl, rfl, by first | exact eo67 | exact tOut.rfl, ?_⟩
        unfold f_turned
        (repeat' split) <;> first | rfl | (exfalso; omega) | (rw [e67]; done)
      · refine r_look (t := 53) (off := 37) dX11_turned_16 rfl (by first | omega | exact xv_in _ _ _) (by rw [hs16]; rfl) (by decide) ?_
        refine r_aload_n (i := 0) (pc' := 54) dX11_turned_53 rfl rfl (.head _) ?_
        refine r_getR (pc' := 57) dX11_turned_54 rfl fX11_56 rfl (by first | assumption | rfl) (by omega) (by assumption) ?_
        refine r_aload_n (i := 0) (pc' := 58) dX11_turned_57 rfl rfl (.head _) ?_
        refine r_getR (pc' := 61) dX11_turned_58 rfl fX11_10 rfl (by first | assumption | rfl) (by omega) (by assumption) ?_
        refine r_V1gv (ci := 10) (pc' := 64) dX11_turned_61 rfl lX11_211 rfl (by decide) (Nat.le_of_ble_eq_true rfl) (by first | assumption | rfl) (by omega) (tX10_load hb hO ht hap) (fun n61 P61 X61 Y61 e61 le61 => ?_)
        obtain ⟨rfl, rfl, rfl, ho, htl⟩ := e61
        have hTT := TT.of ho hap hO htl
        have hT1 := htl.1
        have hag := ho.ag hap
        have hO1 := bOk_ag hag hO
        have eb : xv X61 b = xv X b := hag.z
        refine r_aload_n (i := 0) (pc' := 65) dX11_turned_64 rfl rfl (.head _) ?_
        refine r_iload_n (i := 1) (pc' := 66) dX11_turned_65 rfl rfl (.tail _ (.head _)) ?_
        refine r_aload_n (i := 3) (pc' := 67) dX11_turned_66 rfl rfl (.tail _ (.tail _ (.tail _ (.head _)))) ?_
        refine r_V2gi (ci := 11) (pc' := 70) dX11_turned_67 rfl lX11_340 rfl (by decide) (Nat.le_of_ble_eq_true rfl) (by first | assumption | rfl) (by omega) (tX11_savedByTurnZ hF hb hO hap ht (by omega) (by omega) hTT) (fun r67 n67 P67 X67 Y67 e67 le67 => ?_)
        obtain ⟨rfl, rfl, rfl, eo67, e67⟩ := e67
        refine r_ireturn dX11_turned_70 rfl ?_
        refine ⟨_, rfl, rfl, rfl, rfl, by first | exact eo67 | exact tOut.rfl, ?_⟩
        unfold f_turned
        (repeat' split) <;> first | rfl | (exfalso; omega) | (rw [e67]; done)
    · refine r_look (t := 71) (off := 55) dX11_turned_16 rfl (by first | omega | exact xv_in _ _ _) (by simp [Op.lookupswitch.offset]; omega) (by decide) ?_
      refine r_iconst (pc' := 72) dX11_turned_71 rfl ?_
      refine r_ireturn dX11_turned_72 rfl ?_
      refine ⟨_, rfl, rfl, rfl, rfl, by first | exact eo67 | exact tOut.rfl, ?_⟩
      unfold f_turned
      (repeat' split) <;> first | rfl | (exfalso; omega) | (rw [e67]; done)
  · refine r_V1p (ci := 1) (pc' := 8) dX11_turned_5 rfl lX11_222 rfl (by decide) (Nat.le_of_ble_eq_true rfl) (by first | assumption | rfl) (by omega) (tX1_findBegunN (by assumption) (by assumption) (by first | assumption | omega) (by assumption)) ?_
    refine r_astoreN_n (i := 3) (pc' := 9) dX11_turned_8 rfl rfl rfl (.s1 (.s1 (.s1 .nil rfl rfl rfl) rfl rfl rfl) rfl rfl rfl) ?_
    refine r_aloadN_n (i := 3) (pc' := 10) dX11_turned_9 rfl rfl (.tail _ (.tail _ (.tail _ (.head _)))) ?_
    refine r_ifnonnullN (pc' := 13) dX11_turned_10 rfl ?_
    refine r_iconst (pc' := 14) dX11_turned_13 rfl ?_
    refine r_ireturn dX11_turned_14 rfl ?_
    refine ⟨_, rfl, rfl, rfl, rfl, by first | exact eo67 | exact tOut.rfl, ?_⟩
    unfold f_turned
    (repeat' split) <;> first | rfl | (exfalso; omega) | (rw [e67]; done)
set_option maxHeartbeats 4000000 in
set_option maxRecDepth 100000 in
theorem lX11_allTurned {l : Launch} {g : q_G} {n : Nat} {P : q_P} {X : q_X} {Y : q_Y} {b : Nat} (hF : isFace n P b) (hb : isBk n P b) (hO : bOk X b) (hap : bApart b) (ht : isTal n P) : ∀ (w i : Nat) (X1 : q_X), i + w = (xv X b 10).toNat → TS X X1 b g0 (fun k => decide (k < i) && decide (bk_ref X b k = 0)) → q_Tr l g mX11_allTurned 4 (q_gi (fun r' n' P' X' Y' => n' = n ∧ P' = P ∧ Y' = Y ∧ tOut X X' ∧ r' = f_allT X b)) 13 [(0, .ref (g.1 + 0)), (1, .int (zi (i : Int)))] [] n P X1 Y := by
  obtain ⟨f0, f2, f3, f4, f5, f6, f7, f8, hn0⟩ := id hF
  obtain ⟨b0, b1, b2, b3, q7, q8, q9, q11, q12, q13, hn, hpro, hmar, hfor, hcs⟩ := id hb
  obtain ⟨o0, o1, o2, o3, o4, o5, o6, o10, oc, op0, opz, opi, om0, omi, olim⟩ := id hO
  obtain ⟨t0, t1, t2, t3, t4, hnt⟩ := id ht
  intro w
  induction w with
  | zero =>
    intro i X1 hi hTS
    have hag := hTS.1.ag hap
    have eb : xv X1 b = xv X b := hag.z
    have hcg := hTS.congr (T' := fun k => decide (bk_ref X b k = 0)) (G' := g0) (fun k hk => ⟨by simp; omega, rfl⟩)
    refine r_iload_n (i := 1) (pc' := 14) dX11_allTurned_13 rfl rfl (.tail _ (.head _)) ?_
    refine r_aload_n (i := 0) (pc' := 15) dX11_allTurned_14 rfl rfl (.head _) ?_
    refine r_getR (pc' := 18) dX11_allTurned_15 rfl fX11_10 rfl (by first | assumption | rfl) (by omega) (by assumption) ?_
    refine r_getI (pc' := 21) dX11_allTurned_18 rfl fX11_153 rfl (by first | assumption | rfl) (by omega) ?_
    rw [eb]
    refine r_icmp_ge (t := 74) (f := 24) dX11_allTurned_21 (by decide) rfl (by first | omega | exact xv_in _ _ _) (by first | omega | exact xv_in _ _ _) (fun h21 => ?_) (fun h21 => ?_)
    · refine r_aload_n (i := 0) (pc' := 75) dX11_allTurned_74 rfl rfl (.head _) ?_
      refine r_getR (pc' := 78) dX11_allTurned_75 rfl fX11_56 rfl (by first | assumption | rfl) (by omega) (by assumption) ?_
      refine r_V0gv (ci := 10) (pc' := 81) dX11_allTurned_78 rfl lX11_373 rfl (by decide) (Nat.le_of_ble_eq_true rfl) (by first | assumption | rfl) (by omega) (tX10_rank ht hTS.2.1) (fun n78 P78 X78 Y78 e78 le78 => ?_)
      obtain ⟨rfl, rfl, rfl, f, ef, hrI⟩ := e78
      have hT2 := hcg.rank hrI
      rw [← ef] at hT2
      have hag2 := hT2.1.ag hap
      have hO2 := bOk_ag hag2 hO
      refine r_aload_n (i := 0) (pc' := 82) dX11_allTurned_81 rfl rfl (.head _) ?_
      refine r_getR (pc' := 85) dX11_allTurned_82 rfl fX11_56 rfl (by first | assumption | rfl) (by omega) (by assumption) ?_
      refine r_aload_n (i := 0) (pc' := 86) dX11_allTurned_85 rfl rfl (.head _) ?_
      refine r_getR (pc' := 89) dX11_allTurned_86 rfl fX11_10 rfl (by first | assumption | rfl) (by omega) (by assumption) ?_
      refine r_V1p (ci := 10) (pc' := 92) dX11_allTurned_89 rfl lX11_218 rfl (by decide) (Nat.le_of_ble_eq_true rfl) (by first | assumption | rfl) (by omega) (tX10_room hb hO2 ht hT2.2.1.1) ?_
      rw [hT2.room hap]
      refine r_ireturn dX11_allTurned_92 rfl ?_
      exact ⟨_, rfl, rfl, rfl, rfl, hT2.1, rfl⟩
    · exfalso; omega
  | succ w ih =>
    intro i X1 hi hTS
    have hag := hTS.1.ag hap
    have hO1 := bOk_ag hag hO
    have eb : xv X1 b = xv X b := hag.z
    have hcg := hag.c (k := i) (by omega)
    have hmb := bk_most_b (hO.c (k := i) (by omega)) hO.2.2.2.2.2.2.1.1
    have hbb := c_base_b (hO.c (k := i) (by omega)) (xv X b 0)
    have hc := hb.c (k := i) (by omega)
    obtain ⟨s0, s1, s2, s3, s4, p6, p7, p8, p9, hnc⟩ := id hc
    have hck1 := hO1.c (k := i) (by rw [eb]; omega)
    have hlst : c_last X1 (con b i) = xv X1 (con b i) 0 + xv X1 (con b i) 1 + xv X1 (con b i) 2 - 1 := rfl
    have hl1 := hck1.1
    have hl2 := hck1.2.1
    refine r_iload_n (i := 1) (pc' := 14) dX11_allTurned_13 rfl rfl (.tail _ (.head _)) ?_
    refine r_aload_n (i := 0) (pc' := 15) dX11_allTurned_14 rfl rfl (.head _) ?_
    refine r_getR (pc' := 18) dX11_allTurned_15 rfl fX11_10 rfl (by first | assumption | rfl) (by omega) (by assumption) ?_
    refine r_getI (pc' := 21) dX11_allTurned_18 rfl fX11_153 rfl (by first | assumption | rfl) (by omega) ?_
    rw [eb]
    refine r_icmp_ge (t := 74) (f := 24) dX11_allTurned_21 (by decide) rfl (by first | omega | exact xv_in _ _ _) (by first | omega | exact xv_in _ _ _) (fun h21 => ?_) (fun h21 => ?_)
    · exfalso; omega
    · refine r_aload_n (i := 0) (pc' := 25) dX11_allTurned_24 rfl rfl (.head _) ?_
      refine r_getR (pc' := 28) dX11_allTurned_25 rfl fX11_10 rfl (by first | assumption | rfl) (by omega) (by assumption) ?_
      refine r_iload_n (i := 1) (pc' := 29) dX11_allTurned_28 rfl rfl (.tail _ (.head _)) ?_
      by_cases hk : bk_ref X b i = 0
      · refine r_V1p (ci := 1) (pc' := 32) dX11_allTurned_29 rfl lX11_222 rfl (by decide) (Nat.le_of_ble_eq_true rfl) (by first | assumption | rfl) (by omega) (tX1_findBegun hb hO1 (by omega) (by rw [bk_ref_ag hag o10.2]; exact hk)) ?_
        simp only [Int.toNat_natCast]
        refine r_astore_n (i := 2) (pc' := 33) dX11_allTurned_32 rfl rfl rfl (.s1 (.s1 .nil rfl rfl rfl) rfl rfl rfl) ?_
        refine r_aload_n (i := 2) (pc' := 34) dX11_allTurned_33 rfl rfl (.tail _ (.tail _ (.head _))) ?_
        refine r_ifnull (pc' := 37) dX11_allTurned_34 rfl ?_
        refine r_aload_n (i := 0) (pc' := 38) dX11_allTurned_37 rfl rfl (.head _) ?_
        refine r_getR (pc' := 41) dX11_allTurned_38 rfl fX11_10 rfl (by first | assumption | rfl) (by omega) (by assumption) ?_
        refine r_aload_n (i := 2) (pc' := 42) dX11_allTurned_41 rfl rfl (.tail _ (.tail _ (.head _))) ?_
        refine r_V1p (ci := 1) (pc' := 45) dX11_allTurned_42 rfl lX11_337 rfl (by decide) (Nat.le_of_ble_eq_true rfl) (by first | assumption | rfl) (by omega) (tX1_mostTurned hb hO1 hc hck1) ?_
        rw [bk_most_ag hag hcg]
        refine r_istore_n (i := 3) (pc' := 46) dX11_allTurned_45 rfl rfl rfl (.s1 (.s1 (.s1 .nil rfl rfl rfl) rfl rfl rfl) rfl rfl rfl) ?_
        refine r_aload_n (i := 0) (pc' := 47) dX11_allTurned_46 rfl rfl (.head _) ?_
        refine r_getR (pc' := 50) dX11_allTurned_47 rfl fX11_56 rfl (by first | assumption | rfl) (by omega) (by assumption) ?_
        refine r_iload_n (i := 1) (pc' := 51) dX11_allTurned_50 rfl rfl (.tail _ (.head _)) ?_
        refine r_iload_n (i := 3) (pc' := 52) dX11_allTurned_51 rfl rfl (.tail _ (.tail _ (.tail _ (.head _)))) ?_
        refine r_aload_n (i := 2) (pc' := 53) dX11_allTurned_52 rfl rfl (.tail _ (.tail _ (.head _))) ?_
        refine r_iload_n (i := 3) (pc' := 54) dX11_allTurned_53 rfl rfl (.tail _ (.tail _ (.tail _ (.head _)))) ?_
        refine r_aload_n (i := 0) (pc' := 55) dX11_allTurned_54 rfl rfl (.head _) ?_
        refine r_getR (pc' := 58) dX11_allTurned_55 rfl fX11_10 rfl (by first | assumption | rfl) (by omega) (by assumption) ?_
        refine r_getI (pc' := 61) dX11_allTurned_58 rfl fX11_135 rfl (by first | assumption | rfl) (by omega) ?_
        rw [eb]
        refine r_iconst (pc' := 62) dX11_allTurned_61 rfl ?_
        refine r_V3p (ci := 4) (pc' := 65) dX11_allTurned_62 rfl lX11_365 rfl (by decide) (Nat.le_of_ble_eq_true rfl) (by first | assumption | rfl) (by omega) (tX4_partOf hc (by omega) (by omega) (by omega) (by omega)) ?_
        rw [c_last_ag hcg, show c_piece (bk_most X b (con b i)) (c_last X (con b i) - xv X b 0 + 1) 0 = bk_sh X b i from rfl]
        refine r_V3gv (ci := 10) (pc' := 68) dX11_allTurned_65 rfl lX11_369 rfl (by decide) (Nat.le_of_ble_eq_true rfl) (by first | assumption | rfl) (by omega) (tX10_shift ht (by omega)) (fun n65 P65 X65 Y65 e65 le65 => ?_)
        obtain ⟨rfl, rfl, rfl, rfl⟩ := e65
        have hTS2 := TS.turn (T' := fun k => decide (k < i + 1) && decide (bk_ref X b k = 0)) hO (by omega) hTS (fun j hj => by simp [show j < i + 1 ↔ j < i by omega]) (by simp) (by simp [hk])
        refine r_iinc (pc' := 71) dX11_allTurned_68 rfl rfl (.tail _ (.head _)) (.s1 (.here (.s1 (.s1 .nil rfl rfl rfl) rfl rfl rfl)) rfl rfl rfl) ?_
        refine r_goto (t := 13) dX11_allTurned_71 (by decide) ?_
        refine r_sub (.kp (.kp (.dr (.dr .nil)))) ?_
        first
          | exact ih (i + 1) _ (by omega) hTS2
          | (refine ih (i + 1) _ (by omega) (hTS.congr (fun j hj => ⟨?_, rfl⟩))
             by_cases e : j = i
             · subst e; simp [hk]
             · simp [show j < i + 1 ↔ j < i by omega])
      · refine r_V1p (ci := 1) (pc' := 32) dX11_allTurned_29 rfl lX11_222 rfl (by decide) (Nat.le_of_ble_eq_true rfl) (by first | assumption | rfl) (by omega) (tX1_findBegunN hb hO1 (by omega) (by rw [bk_ref_ag hag o10.2]; exact hk)) ?_
        refine r_astoreN_n (i := 2) (pc' := 33) dX11_allTurned_32 rfl rfl rfl (.s1 (.s1 .nil rfl rfl rfl) rfl rfl rfl) ?_
        refine r_aloadN_n (i := 2) (pc' := 34) dX11_allTurned_33 rfl rfl (.tail _ (.tail _ (.head _))) ?_
        refine r_ifnullN (t := 68) dX11_allTurned_34 (by decide) ?_
        refine r_iinc (pc' := 71) dX11_allTurned_68 rfl rfl (.tail _ (.head _)) (.s1 (.here (.s1 .nil rfl rfl rfl)) rfl rfl rfl) ?_
        refine r_goto (t := 13) dX11_allTurned_71 (by decide) ?_
        refine r_sub (.kp (.kp (.dr .nil))) ?_
        first
          | exact ih (i + 1) _ (by omega) hTS2
          | (refine ih (i + 1) _ (by omega) (hTS.congr (fun j hj => ⟨?_, rfl⟩))
             by_cases e : j = i
             · subst e; simp [hk]
             · simp [show j < i + 1 ↔ j < i by omega])
set_option maxHeartbeats 4000000 in
set_option maxRecDepth 100000 in
theorem tX11_allTurned {l : Launch} {g : q_G} {n : Nat} {P : q_P} {X : q_X} {Y : q_Y} {b : Nat} (hF : isFace n P b) (hb : isBk n P b) (hO : bOk X b) (hap : bApart b) (ht : isTal n P) : q_Met l g mX11_allTurned 4 [.ref (g.1 + 0)] n P X Y (q_gi (fun r' n' P' X' Y' => n' = n ∧ P' = P ∧ Y' = Y ∧ tOut X X' ∧ r' = f_allT X b)) := by
  obtain ⟨f0, f2, f3, f4, f5, f6, f7, f8, hn0⟩ := id hF
  obtain ⟨b0, b1, b2, b3, q7, q8, q9, q11, q12, q13, hn, hpro, hmar, hfor, hcs⟩ := id hb
  obtain ⟨o0, o1, o2, o3, o4, o5, o6, o10, oc, op0, opz, opi, om0, omi, olim⟩ := id hO
  obtain ⟨t0, t1, t2, t3, t4, hnt⟩ := id ht
  refine q_enter (L := [(0, .ref (g.1 + 0))]) (by decide) (Nat.le_of_ble_eq_true rfl) rfl ?_
  refine r_aload_n (i := 0) (pc' := 1) dX11_allTurned_0 rfl rfl (.head _) ?_
  refine r_getR (pc' := 4) dX11_allTurned_1 rfl fX11_56 rfl (by first | assumption | rfl) (by omega) (by assumption) ?_
  refine r_aload_n (i := 0) (pc' := 5) dX11_allTurned_4 rfl rfl (.head _) ?_
  refine r_getR (pc' := 8) dX11_allTurned_5 rfl fX11_10 rfl (by first | assumption | rfl) (by omega) (by assumption) ?_
  refine r_V1gv (ci := 10) (pc' := 11) dX11_allTurned_8 rfl lX11_211 rfl (by decide) (Nat.le_of_ble_eq_true rfl) (by first | assumption | rfl) (by omega) (tX10_load hb hO ht hap) (fun n8 P8 X8 Y8 e8 le8 => ?_)
  obtain ⟨rfl, rfl, rfl, ho, htl⟩ := e8
  have hTT := TT.of ho hap hO htl
  have hT1 := htl.1
  have hag := ho.ag hap
  have hO1 := bOk_ag hag hO
  have eb : xv X8 b = xv X b := hag.z
  refine r_iconst (pc' := 12) dX11_allTurned_11 rfl ?_
  refine r_istore_n (i := 1) (pc' := 13) dX11_allTurned_12 rfl rfl rfl (.s1 .nil rfl rfl rfl) ?_
  exact lX11_allTurned hF hb hO hap ht _ 0 _ (Nat.zero_add _) (hTT.s.congr (fun k hk => ⟨by simp [g0], rfl⟩))
set_option maxHeartbeats 4000000 in
set_option maxRecDepth 100000 in
theorem tX11_ranked {l : Launch} {g : q_G} {n : Nat} {P : q_P} {X : q_X} {Y : q_Y} {b : Nat} (hF : isFace n P b) (hb : isBk n P b) (hO : bOk X b) (hap : bApart b) (ht : isTal n P) {i : Int} (hi : q_in i) : q_Met l g mX11_ranked 4 [.ref (g.1 + 0), .int (zi i)] n P X Y (q_it (f_ranked X b i) n P X Y) := by
  obtain ⟨f0, f2, f3, f4, f5, f6, f7, f8, hn0⟩ := id hF
  obtain ⟨b0, b1, b2, b3, q7, q8, q9, q11, q12, q13, hn, hpro, hmar, hfor, hcs⟩ := id hb
  obtain ⟨o0, o1, o2, o3, o4, o5, o6, o10, oc, op0, opz, opi, om0, omi, olim⟩ := id hO
  obtain ⟨t0, t1, t2, t3, t4, hnt⟩ := id ht
  refine q_enter (L := [(0, .ref (g.1 + 0)), (1, .int (zi i))]) (by decide) (Nat.le_of_ble_eq_true rfl) rfl ?_
  refine r_aload_n (i := 0) (pc' := 1) dX11_ranked_0 rfl rfl (.head _) ?_
  refine r_getR (pc' := 4) dX11_ranked_1 rfl fX11_56 rfl (by first | assumption | rfl) (by omega) (by assumption) ?_
  refine r_aload_n (i := 0) (pc' := 5) dX11_ranked_4 rfl rfl (.head _) ?_
  refine r_getR (pc' := 8) dX11_ranked_5 rfl fX11_10 rfl (by first | assumption | rfl) (by omega) (by assumption) ?_
  refine r_V1gv (ci := 10) (pc' := 11) dX11_ranked_8 rfl lX11_211 rfl (by decide) (Nat.le_of_ble_eq_true rfl) (by first | assumption | rfl) (by omega) (tX10_load hb hO ht hap) (fun n8 P8 X8 Y8 e8 le8 => ?_)
  obtain ⟨rfl, rfl, rfl, ho, htl⟩ := e8
  have hTT := TT.of ho hap hO htl
  have hT1 := htl.1
  have hag := ho.ag hap
  have hO1 := bOk_ag hag hO
  have eb : xv X8 b = xv X b := hag.z
  have h40 := hTT.2.1.1.1
  refine r_iload_n (i := 1) (pc' := 12) dX11_ranked_11 rfl rfl (.tail _ (.head _)) ?_
  refine r_if_lt (t := 38) (f := 15) dX11_ranked_12 (by decide) rfl (by first | omega | exact xv_in _ _ _) (fun h12 => ?_) (fun h12 => ?_)
  · refine r_iconst (pc' := 39) dX11_ranked_38 rfl ?_
    refine r_ireturn dX11_ranked_39 rfl ?_
    refine ⟨_, rfl, rfl, rfl, rfl, ho, ?_⟩
    first
      | rw [hTT.place hO (j := i.toNat) (by omega), f_ranked, Int.toNat_of_nonneg (by omega)]
      | rw [f_ranked, hTT.noplace (by omega)]
  · refine r_iload_n (i := 1) (pc' := 16) dX11_ranked_15 rfl rfl (.tail _ (.head _)) ?_
    refine r_aload_n (i := 0) (pc' := 17) dX11_ranked_16 rfl rfl (.head _) ?_
    refine r_getR (pc' := 20) dX11_ranked_17 rfl fX11_56 rfl (by first | assumption | rfl) (by omega) (by assumption) ?_
    refine r_getI (pc' := 23) dX11_ranked_20 rfl fX11_376 rfl (by first | assumption | rfl) (by omega) ?_
    refine r_icmp_ge (t := 38) (f := 26) dX11_ranked_23 (by decide) rfl (by first | omega | exact xv_in _ _ _) (by first | omega | exact xv_in _ _ _) (fun h23 => ?_) (fun h23 => ?_)
    · refine r_iconst (pc' := 39) dX11_ranked_38 rfl ?_
      refine r_ireturn dX11_ranked_39 rfl ?_
      refine ⟨_, rfl, rfl, rfl, rfl, ho, ?_⟩
      first
        | rw [hTT.place hO (j := i.toNat) (by omega), f_ranked, Int.toNat_of_nonneg (by omega)]
        | rw [f_ranked, hTT.noplace (by omega)]
    · refine r_aload_n (i := 0) (pc' := 27) dX11_ranked_26 rfl rfl (.head _) ?_
      refine r_getR (pc' := 30) dX11_ranked_27 rfl fX11_56 rfl (by first | assumption | rfl) (by omega) (by assumption) ?_
      refine r_getR (pc' := 33) dX11_ranked_30 rfl fX11_377 rfl (by first | assumption | rfl) (by omega) (by assumption) ?_
      refine r_iload_n (i := 1) (pc' := 34) dX11_ranked_33 rfl rfl (.tail _ (.head _)) ?_
      refine r_iaload (pc' := 35) dX11_ranked_34 rfl (by first | assumption | rfl) (by omega) (by omega) (by omega) (by first | decide | omega) rfl ?_
      refine r_goto (t := 39) dX11_ranked_35 (by decide) ?_
      refine r_ireturn dX11_ranked_39 rfl ?_
      refine ⟨_, rfl, rfl, rfl, rfl, ho, ?_⟩
      first
        | rw [hTT.place hO (j := i.toNat) (by omega), f_ranked, Int.toNat_of_nonneg (by omega)]
        | rw [f_ranked, hTT.noplace (by omega)]
