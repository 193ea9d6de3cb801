theorem c_hit_ag {X X' : q_X} {c : Nat} (h : cAg X X' c) (y : Int) : c_hit X' c y = c_hit X c y := by simp only [c_hit, c_base_ag h, c_roster_ag h, c_parts_ag h]
theorem cAg.up {X X' : q_X} {c i : Nat} (h : cAg X X' c) (j : Nat) (v : Int32) (hi : i < c ∨ c + 4 < i) : cAg X (q_up X' i j v) c := fun d hd => (xv_up_row X' j v (by omega)).trans (h d hd)
theorem tldO (X : q_X) (b k : Nat) : tOut X (tld X b k) := fun a ha => tld_o X b (by omega) k
theorem t_lik_ag {X X' : q_X} {b : Nat} (h : bAg X X' b) (k : Int) (m : Nat) : t_lik X' b k m = t_lik X b k m := by
  simp only [t_lik, h.z, h 5 (by omega) (by omega), h 6 (by omega) (by omega), h 7 (by omega) (by omega), h 8 (by omega) (by omega)]
theorem t_lik_b {X : q_X} {b : Nat} (hO : bOk X b) (k : Int) : 0 ≤ t_lik X b k (xv X (b + 4) 0).toNat ∧ t_lik X b k (xv X (b + 4) 0).toNat ≤ 2399976 := by
  obtain ⟨o0, o1, o2, o3, o4, o5, o6, o10, oc, op0, opz, opi, om0, omi, olim⟩ := id hO
  unfold t_lik
  refine ⟨q_sum_nn _ _ (fun i _ hi => ?_), ?_⟩
  · have := opi i (by omega)
    split <;> omega
  · have h1 := q_sum_ub (B := 99999) (f := fun j => if ¬ xv X (b + 8) j = 0 ∧ xv X (b + 5) j = k ∧ xv X (b + 6) j = xv X b 0 then xv X (b + 7) j else 0) (xv X (b + 4) 0).toNat 0 (fun i _ hi => by
      have := opi i (by omega)
      split <;> omega)
    omega
/-- behind load: the books as they were, the tally loaded -/
theorem TL_of {X X1 : q_X} {b : Nat} {f : Nat → Int32} (hO : bOk X b) (hap : bApart b) (h1 : tldI X X1 b (xv X b 10).toNat) (ho1 : tOut X X1) (hr : rInv (t_lp X1 b (xv X (b + 4) 0).toNat) (t_lp X1 b (xv X (b + 4) 0).toNat 458) f (xv X1 453 5).toNat (xv X1 453 5).toNat) :
    tOut X (q_row (t_lp X1 b (xv X (b + 4) 0).toNat) f) ∧ TL (q_row (t_lp X1 b (xv X (b + 4) 0).toNat) f) b := by
  obtain ⟨o0, o1, o2, o3, o4, o5, o6, o10, oc, op0, opz, opi, om0, omi, olim⟩ := id hO
  have hapx := id hap
  unfold bApart at hapx
  obtain ⟨i1, i2, i3, i4⟩ := h1
  have hag1 := ho1.ag hap
  have hout : tOut X (q_row (t_lp X1 b (xv X (b + 4) 0).toNat) f) := fun a ha => by
    funext q; simp only [q_row, t_lp]; rw [if_neg (by omega), if_neg (by omega), ho1 a ha]
  have hag := hout.ag hap
  refine ⟨hout, ?_⟩
  generalize hX2 : q_row (t_lp X1 b (xv X (b + 4) 0).toNat) f = X2 at *
  have r453 : xv X2 453 = xv X1 453 := by rw [← hX2, xv_row _ _ (by omega), t_lp_o _ _ _ (by omega)]
  have r454 : xv X2 454 = xv X1 454 := by rw [← hX2, xv_row _ _ (by omega), t_lp_o _ _ _ (by omega)]
  have r454' : xv (t_lp X1 b (xv X (b + 4) 0).toNat) 454 = xv X1 454 := t_lp_o _ _ _ (by omega)
  have r455 : xv X2 455 = xv X1 455 := by rw [← hX2, xv_row _ _ (by omega), t_lp_o _ _ _ (by omega)]
  have r457 : xv X2 457 = xv X1 457 := by rw [← hX2, xv_row _ _ (by omega), t_lp_o _ _ _ (by omega)]
  have r458 : ∀ q, xv X2 458 q = (f q).toInt := fun q => by rw [← hX2, xv_row8]
  have r458' : ∀ q, (t_lp X1 b (xv X (b + 4) 0).toNat 458 q).toInt = xv X1 458 q := fun q => congrFun (t_lp_o X1 b (xv X (b + 4) 0).toNat (a := 458) (by omega)) q
  have h10 : xv X2 b = xv X b := hag.z
  refine ⟨⟨by rw [r453]; omega, fun i hi => ?_⟩, fun k hk => ?_, fun F => ?_, fun p q hpq hq => ?_⟩
  · rw [r453] at hi; rw [r458]; exact hr.2.2 i (by omega)
  · rw [h10] at hk
    have hk40 : k < 40 := by omega
    have hi2 := i2 k (by omega)
    have hcag := hag.c hk40
    refine ⟨by rw [r454, h10, c_hit_ag hcag]; exact hi2.1, by rw [r455, h10, c_parts_ag hcag]; exact hi2.2.1, ?_, by rw [r457]; exact hi2.2.2.2⟩
    rw [t_lik_ag hag, hag 4 (by omega) (by omega)]
    have e1 : xv X2 456 k = nz (xv X1 456 k + t_lik X1 b k (xv X (b + 4) 0).toNat) := by
      rw [← hX2, xv_row _ _ (by omega)]
      simp only [xv, t_lp]; rw [if_pos ⟨trivial, hk40⟩]; rfl
    rw [e1, hi2.2.2.1, Int.zero_add, t_lik_ag hag1]
    exact nz_id (by have := t_lik_b hO k; omega)
  · rw [r453, h10]
    have e2 : q_sum (fun j => F (xv X2 458 j)) 0 (xv X1 453 5).toNat = q_sum (fun q => F (f q).toInt) 0 (xv X1 453 5).toNat := q_sum_congr _ _ (fun i _ _ => by simp only [r458])
    rw [e2, hr.1 F]
    have e3 : q_sum (fun q => F (t_lp X1 b (xv X (b + 4) 0).toNat 458 q).toInt) 0 (xv X1 453 5).toNat = q_sum (fun q => F (xv X1 458 q)) 0 (xv X1 453 5).toNat := q_sum_congr _ _ (fun i _ _ => by simp only [r458'])
    rw [e3, i3 F]
    exact q_sum_congr _ _ (fun i _ hi => by rw [(hag.c (k := i) (by omega)).z])
  · rw [r453] at hq
    have := hr.2.1 p q hpq (by omega)
    rw [r458, r458]
    simp only [t_ahead, r454', r454] at this ⊢
    exact this
set_option maxHeartbeats 4000000 in
set_option maxRecDepth 100000 in
theorem lX10_load {l : Launch} {g : q_G} {n : Nat} {P : q_P} {X : q_X} {Y : q_Y} {b : Nat} (hb : isBk n P b) (hO : bOk X b) (ht : isTal n P) (hap : bApart b) : ∀ (w i : Nat), i + w = (xv X b 10).toNat → q_Tr l g mX10_load 3 (q_gv (fun n' P' X' Y' => n' = n ∧ P' = P ∧ Y' = Y ∧ tOut X X' ∧ TL X' b)) 7 [(0, .ref (g.1 + 453)), (1, .ref (g.1 + b)), (2, .int (zi (i : Int)))] [] n P (tld X b i) Y := by
  obtain ⟨b0, b1, b2, b3, q7, q8, q9, q11, q12, q13, hn, hpro, hmar, hfor, hcs⟩ := id hb
  obtain ⟨o0, o1, o2, o3, o4, o5, o6, o10, oc, op0, opz, opi, om0, omi, olim⟩ := id hO
  obtain ⟨t0, t1, t2, t3, t4, hnt⟩ := id ht
  have hapx := id hap
  unfold bApart at hapx
  have hsp := hpro.1
  intro w
  induction w with
  | zero =>
    intro i hk
    have hag := (tldO X b i).ag hap
    have hinv := tld_inv (X := X) (b := b) oc (xv X b 10).toNat (by omega) (by omega)
    rw [show i = (xv X b 10).toNat by omega] at hag ⊢
    have hO1 := bOk_ag hag hO
    generalize hX1 : tld X b (xv X b 10).toNat = X1 at *
    have ho1 : tOut X X1 := by rw [← hX1]; exact tldO X b _
    have h0 : xv X1 b 0 = xv X b 0 := by rw [hag.z]
    have h4 : xv X1 (b + 4) = xv X (b + 4) := hag 4 (by omega) (by omega)
    have hT2 : tOk (t_lp X1 b (xv X (b + 4) 0).toNat) := by
      refine ⟨?_, fun j hj => ?_⟩
      · rw [t_lp_o _ _ _ (by omega)]; have := hinv.1; omega
      · rw [t_lp_o _ _ _ (by omega)] at hj ⊢
        have := hinv.2.2.2 j hj
        omega
    have h5 : xv (t_lp X1 b (xv X (b + 4) 0).toNat) 453 5 = xv X1 453 5 := by rw [t_lp_o _ _ _ (by omega)]
    refine r_iload_n (i := 2) (pc' := 8) dX10_load_7 rfl rfl (.tail _ (.tail _ (.head _))) ?_
    refine r_aload_n (i := 1) (pc' := 9) dX10_load_8 rfl rfl (.tail _ (.head _)) ?_
    refine r_getI (pc' := 12) dX10_load_9 rfl fX10_32 rfl (by first | assumption | rfl) (by omega) ?_
    rw [hag.z]
    refine r_icmp_ge (t := 97) (f := 15) dX10_load_12 (by decide) rfl (by first | omega | exact xv_in _ _ _) (by first | omega | exact xv_in _ _ _) (fun h12 => ?_) (fun h12 => ?_)
    · refine r_aload_n (i := 0) (pc' := 98) dX10_load_97 rfl rfl (.head _) ?_
      refine r_aload_n (i := 1) (pc' := 99) dX10_load_98 rfl rfl (.tail _ (.head _)) ?_
      refine r_getR (pc' := 102) dX10_load_99 rfl fX10_54 rfl (by first | assumption | rfl) (by omega) (by assumption) ?_
      refine r_aload_n (i := 1) (pc' := 103) dX10_load_102 rfl rfl (.tail _ (.head _)) ?_
      refine r_getI (pc' := 106) dX10_load_103 rfl fX10_39 rfl (by first | assumption | rfl) (by omega) ?_
      refine r_V2gv (ci := 10) (pc' := 109) dX10_load_106 rfl lX10_58 rfl (by decide) (Nat.le_of_ble_eq_true rfl) (by first | assumption | rfl) (by omega) (tX10_loadPromises hb hO1 ht hap) (fun n106 P106 X106 Y106 e106 le106 => ?_)
      obtain ⟨rfl, rfl, rfl, rfl⟩ := e106
      rw [h4]
      refine r_aload_n (i := 0) (pc' := 110) dX10_load_109 rfl rfl (.head _) ?_
      refine r_V0gv (ci := 10) (pc' := 113) dX10_load_110 rfl lX10_62 rfl (by decide) (Nat.le_of_ble_eq_true rfl) (by first | assumption | rfl) (by omega) (tX10_rank ht hT2) (fun n110 P110 X110 Y110 e110 le110 => ?_)
      obtain ⟨rfl, rfl, rfl, f, rfl, hri⟩ := e110
      rw [h5] at hri
      refine r_return dX10_load_113 rfl ?_
      exact ⟨rfl, rfl, rfl, rfl, TL_of hO hap hinv ho1 hri⟩
    · exfalso; omega
  | succ w ih =>
    intro i hk
    have hc := hb.c (k := i) (by omega)
    obtain ⟨s0, s1, s2, s3, s4, p6, p7, p8, p9, hnc⟩ := id hc
    have hck := hO.c (k := i) (by omega)
    obtain ⟨hf, hf2, hf3, hf4, hfj, hfs, hfg⟩ := id hck
    have hag := (tldO X b i).ag hap
    have hag2 := hag.c (k := i) (by omega)
    have hne : con b i = b + 20 + 5 * i := rfl
    have hinv := tld_inv (X := X) (b := b) oc i (by omega) (by omega)
    have hz1 := hinv.1
    have hf1 : 0 ≤ xv (tld X b i) (con b i) 0 ∧ xv (tld X b i) (con b i) 0 ≤ 19 := by rw [hag2.z]; exact hf
    have h0 : xv (tld X b i) b 0 = xv X b 0 := by rw [hag.z]
    have hag3 := fun v => hag2.up (i := 454) i v (by omega)
    have hst : xv (tld X b i) (con b i) 4 = xv X (con b i) 4 := by rw [hag2.z]
    refine r_iload_n (i := 2) (pc' := 8) dX10_load_7 rfl rfl (.tail _ (.tail _ (.head _))) ?_
    refine r_aload_n (i := 1) (pc' := 9) dX10_load_8 rfl rfl (.tail _ (.head _)) ?_
    refine r_getI (pc' := 12) dX10_load_9 rfl fX10_32 rfl (by first | assumption | rfl) (by omega) ?_
    rw [hag.z]
    refine r_icmp_ge (t := 97) (f := 15) dX10_load_12 (by decide) rfl (by first | omega | exact xv_in _ _ _) (by first | omega | exact xv_in _ _ _) (fun h12 => ?_) (fun h12 => ?_)
    · exfalso; omega
    · refine r_aload_n (i := 1) (pc' := 16) dX10_load_15 rfl rfl (.tail _ (.head _)) ?_
      refine r_getR (pc' := 19) dX10_load_16 rfl fX10_35 rfl (by first | assumption | rfl) (by omega) (by assumption) ?_
      refine r_iload_n (i := 2) (pc' := 20) dX10_load_19 rfl rfl (.tail _ (.tail _ (.head _))) ?_
      refine r_aaload (pc' := 21) (v := .ref (g.1 + con b i)) dX10_load_20 rfl (by first | assumption | rfl) (by decide) (by omega) (by omega) (by omega) (by first | decide | omega) (Int.toNat_natCast _) (hb.r (k := i) (by omega)) ?_
      refine r_astore_n (i := 3) (pc' := 22) dX10_load_21 rfl rfl rfl (.s1 (.s1 (.s1 .nil rfl rfl rfl) rfl rfl rfl) rfl rfl rfl) ?_
      refine r_aload_n (i := 0) (pc' := 23) dX10_load_22 rfl rfl (.head _) ?_
      refine r_getR (pc' := 26) dX10_load_23 rfl fX10_9 rfl (by first | assumption | rfl) (by omega) (by assumption) ?_
      refine r_iload_n (i := 2) (pc' := 27) dX10_load_26 rfl rfl (.tail _ (.tail _ (.head _))) ?_
      refine r_aload_n (i := 3) (pc' := 28) dX10_load_27 rfl rfl (.tail _ (.tail _ (.tail _ (.head _)))) ?_
      refine r_aload_n (i := 1) (pc' := 29) dX10_load_28 rfl rfl (.tail _ (.head _)) ?_
      refine r_getI (pc' := 32) dX10_load_29 rfl fX10_39 rfl (by first | assumption | rfl) (by omega) ?_
      rw [h0]
      refine r_V1p (ci := 4) (pc' := 35) dX10_load_32 rfl lX10_42 rfl (by decide) (Nat.le_of_ble_eq_true rfl) (by first | assumption | rfl) (by omega) (tX4_hit hc hf1 (by omega)) ?_
      rw [c_hit_ag hag2]
      refine r_iastore (pc' := 36) dX10_load_35 rfl (by first | assumption | rfl) (by omega) (by omega) (by omega) (by first | decide | omega) (Int.toNat_natCast _) ?_
      refine r_aload_n (i := 0) (pc' := 37) dX10_load_36 rfl rfl (.head _) ?_
      refine r_getR (pc' := 40) dX10_load_37 rfl fX10_15 rfl (by first | assumption | rfl) (by omega) (by assumption) ?_
      refine r_iload_n (i := 2) (pc' := 41) dX10_load_40 rfl rfl (.tail _ (.tail _ (.head _))) ?_
      refine r_aload_n (i := 3) (pc' := 42) dX10_load_41 rfl rfl (.tail _ (.tail _ (.tail _ (.head _)))) ?_
      refine r_aload_n (i := 1) (pc' := 43) dX10_load_42 rfl rfl (.tail _ (.head _)) ?_
      refine r_getI (pc' := 46) dX10_load_43 rfl fX10_39 rfl (by first | assumption | rfl) (by omega) ?_
      simp (disch := omega) only [xv_up_ne]
      rw [h0]
      refine r_V1p (ci := 4) (pc' := 49) dX10_load_46 rfl lX10_47 rfl (by decide) (Nat.le_of_ble_eq_true rfl) (by first | assumption | rfl) (by omega) (tX4_partsIn hc (by simp (disch := omega) only [xv_up_ne]; exact hf1) (by omega)) ?_
      rw [c_parts_ag (hag3 _)]
      refine r_iastore (pc' := 50) dX10_load_49 rfl (by first | assumption | rfl) (by omega) (by omega) (by omega) (by first | decide | omega) (Int.toNat_natCast _) ?_
      refine r_aload_n (i := 0) (pc' := 51) dX10_load_50 rfl rfl (.head _) ?_
      refine r_getR (pc' := 54) dX10_load_51 rfl fX10_18 rfl (by first | assumption | rfl) (by omega) (by assumption) ?_
      refine r_iload_n (i := 2) (pc' := 55) dX10_load_54 rfl rfl (.tail _ (.tail _ (.head _))) ?_
      refine r_iconst (pc' := 56) dX10_load_55 rfl ?_
      refine r_iastore (pc' := 57) dX10_load_56 rfl (by first | assumption | rfl) (by omega) (by omega) (by omega) (by first | decide | omega) (Int.toNat_natCast _) ?_
      refine r_aload_n (i := 0) (pc' := 58) dX10_load_57 rfl rfl (.head _) ?_
      refine r_getR (pc' := 61) dX10_load_58 rfl fX10_21 rfl (by first | assumption | rfl) (by omega) (by assumption) ?_
      refine r_iload_n (i := 2) (pc' := 62) dX10_load_61 rfl rfl (.tail _ (.tail _ (.head _))) ?_
      refine r_iconst (pc' := 63) dX10_load_62 rfl ?_
      refine r_zastore (pc' := 64) dX10_load_63 rfl (by first | assumption | rfl) (by omega) (by omega) (by omega) (by first | decide | omega) (Int.toNat_natCast _) (by omega) ?_
      refine r_aload_n (i := 3) (pc' := 65) dX10_load_64 rfl rfl (.tail _ (.tail _ (.tail _ (.head _)))) ?_
      refine r_V0p (ci := 4) (pc' := 68) dX10_load_65 rfl lX10_50 rfl (by decide) (Nat.le_of_ble_eq_true rfl) (by first | assumption | rfl) (by omega) (tX4_isOpen hc) ?_
      simp (disch := omega) only [xv_up_ne]
      rw [hst]
      refine r_bif_eq (t := 91) (f := 71) dX10_load_68 (by decide) rfl (fun h68 => ?_) (fun h68 => ?_)
      · refine r_iinc (pc' := 94) dX10_load_91 rfl rfl (.tail _ (.tail _ (.head _))) (.s1 (.s1 (.here (.s1 .nil rfl rfl rfl)) rfl rfl rfl) rfl rfl rfl) ?_
        refine r_goto (t := 7) dX10_load_94 (by decide) ?_
        refine r_sub (.kp (.kp (.kp (.dr .nil)))) ?_
        first
          | (refine r_eqX (X1 := tld X b (i + 1)) (by rw [tld, if_pos (by assumption)]) ?_
             exact ih (i + 1) (by omega))
          | (refine r_eqX (X1 := tld X b (i + 1)) (by rw [tld, if_neg (by assumption)]) ?_
             exact ih (i + 1) (by omega))
      · refine r_aload_n (i := 0) (pc' := 72) dX10_load_71 rfl rfl (.head _) ?_
        refine r_getR (pc' := 75) dX10_load_72 rfl fX10_25 rfl (by first | assumption | rfl) (by omega) (by assumption) ?_
        refine r_aload_n (i := 0) (pc' := 76) dX10_load_75 rfl rfl (.head _) ?_
        refine r_getI (pc' := 79) dX10_load_76 rfl fX10_28 rfl (by first | assumption | rfl) (by omega) ?_
        simp (disch := omega) only [xv_up_ne]
        refine r_iload_n (i := 2) (pc' := 80) dX10_load_79 rfl rfl (.tail _ (.tail _ (.head _))) ?_
        refine r_iastore (pc' := 81) dX10_load_80 rfl (by first | assumption | rfl) (by omega) (by omega) (by omega) (by first | decide | omega) rfl ?_
        refine r_aload_n (i := 0) (pc' := 82) dX10_load_81 rfl rfl (.head _) ?_
        refine r_dup (pc' := 83) dX10_load_82 rfl rfl ?_
        refine r_getI (pc' := 86) dX10_load_83 rfl fX10_28 rfl (by first | assumption | rfl) (by omega) ?_
        simp (disch := omega) only [xv_up_ne]
        refine r_iconst (pc' := 87) dX10_load_86 rfl ?_
        refine r_iadd (pc' := 88) dX10_load_87 rfl ?_
        refine r_putI (pc' := 91) dX10_load_88 rfl fX10_28 rfl (by first | assumption | rfl) (by omega) rfl rfl ?_
        refine r_iinc (pc' := 94) dX10_load_91 rfl rfl (.tail _ (.tail _ (.head _))) (.s1 (.s1 (.here (.s1 .nil rfl rfl rfl)) rfl rfl rfl) rfl rfl rfl) ?_
        refine r_goto (t := 7) dX10_load_94 (by decide) ?_
        refine r_sub (.kp (.kp (.kp (.dr .nil)))) ?_
        first
          | (refine r_eqX (X1 := tld X b (i + 1)) (by rw [tld, if_pos (by assumption)]) ?_
             exact ih (i + 1) (by omega))
          | (refine r_eqX (X1 := tld X b (i + 1)) (by rw [tld, if_neg (by assumption)]) ?_
             exact ih (i + 1) (by omega))
set_option maxHeartbeats 4000000 in
set_option maxRecDepth 100000 in
theorem tX10_load {l : Launch} {g : q_G} {n : Nat} {P : q_P} {X : q_X} {Y : q_Y} {b : Nat} (hb : isBk n P b) (hO : bOk X b) (ht : isTal n P) (hap : bApart b) : q_Met l g mX10_load 3 [.ref (g.1 + 453), .ref (g.1 + b)] n P X Y (q_gv (fun n' P' X' Y' => n' = n ∧ P' = P ∧ Y' = Y ∧ tOut X X' ∧ TL X' b)) := by
  obtain ⟨b0, b1, b2, b3, q7, q8, q9, q11, q12, q13, hn, hpro, hmar, hfor, hcs⟩ := id hb
  obtain ⟨o0, o1, o2, o3, o4, o5, o6, o10, oc, op0, opz, opi, om0, omi, olim⟩ := id hO
  obtain ⟨t0, t1, t2, t3, t4, hnt⟩ := id ht
  have hapx := id hap
  unfold bApart at hapx
  refine q_enter (L := [(0, .ref (g.1 + 453)), (1, .ref (g.1 + b))]) (by decide) (Nat.le_of_ble_eq_true rfl) rfl ?_
  refine r_aload_n (i := 0) (pc' := 1) dX10_load_0 rfl rfl (.head _) ?_
  refine r_iconst (pc' := 2) dX10_load_1 rfl ?_
  refine r_putI (pc' := 5) dX10_load_2 rfl fX10_28 rfl (by first | assumption | rfl) (by omega) rfl rfl ?_
  refine r_iconst (pc' := 6) dX10_load_5 rfl ?_
  refine r_istore_n (i := 2) (pc' := 7) dX10_load_6 rfl rfl rfl (.s1 (.s1 .nil rfl rfl rfl) rfl rfl rfl) ?_
  exact lX10_load hb hO ht hap (xv X b 10).toNat 0 (by omega)
