/-! acts -/
def P_go (x b n : Nat) (P : q_P) (X : q_X) (Y : q_Y) (k t r' : Int) (n' : Nat) (P' : q_P) (X' : q_X) (Y' : q_Y) : Prop := if bk_ref X b k = 0 then DE x b n P (q_up X 0 11 (zi 0)) Y (fun Z => bk_rel Z b k t) (fun Z => bk_many (bk_rel Z b k t) b 0 0 (xv (bk_rel Z b k t) b 10).toNat) r' n' P' X' Y' else NO n P (q_up X 0 11 (zi (bk_ref X b k))) Y r' n' P' X' Y'
def P_turn (x b n : Nat) (P : q_P) (X : q_X) (Y : q_Y) (k v r' : Int) (n' : Nat) (P' : q_P) (X' : q_X) (Y' : q_Y) : Prop := if bk_pref X b k v = 0 then DE x b n P (q_up X 0 11 (zi 0)) Y (fun Z => bk_turn Z b k v) (fun Z => c_hit (bk_turn Z b k v) (con b k.toNat) (xv Z b 0)) r' n' P' X' Y' else NO n P (q_up X 0 11 (zi (bk_pref X b k v))) Y r' n' P' X' Y'
def P_days (x b n : Nat) (P : q_P) (X : q_X) (Y : q_Y) (m r' : Int) (n' : Nat) (P' : q_P) (X' : q_X) (Y' : q_Y) : Prop := if 1 ≤ m ∧ m ≤ 364 - xv X b 1 then DE x b n P (q_up X 0 11 (zi 0)) Y (fun Z => q_up Z b 1 (zi (xv Z b 1 + m))) (fun Z => xv Z b 1 + m) r' n' P' X' Y' else NO n P (q_up X 0 11 (zi 4)) Y r' n' P' X' Y'
def P_year (x b n : Nat) (P : q_P) (X : q_X) (Y : q_Y) (r' : Int) (n' : Nat) (P' : q_P) (X' : q_X) (Y' : q_Y) : Prop := if xv X b 0 < 19 then DE x b n P (q_up X 0 11 (zi 0)) Y (fun Z => bk_year Z b) (fun Z => bk_yearN Z b) r' n' P' X' Y' else NO n P (q_up X 0 11 (zi 7)) Y r' n' P' X' Y'
def Perf (x b n : Nat) (P : q_P) (X : q_X) (Y : q_Y) (kd f s r' : Int) (n' : Nat) (P' : q_P) (X' : q_X) (Y' : q_Y) : Prop := if kd = 120 then P_go x b n P X Y f 0 r' n' P' X' Y' else if kd = 116 then P_turn x b n P X Y f s r' n' P' X' Y' else if kd = 100 then P_days x b n P X Y f r' n' P' X' Y' else P_year x b n P X Y r' n' P' X' Y'
/-- the class as acts need it -/
def CI (n : Nat) (P : q_P) (X : q_X) (b x : Nat) : Prop := isFace n P b ∧ isBk n P b ∧ bA X b ∧ isHi n P X x ∧ isTal n P ∧ isAct n P
theorem bk_year_o {X : q_X} {b a : Nat} (h10 : xv X b 10 ≤ 40) (h : a < b ∨ b + 220 ≤ a) : xv (bk_year X b) a = xv X a := by
  unfold bk_year
  rw [py_o _ _ (by omega) _ (fun i hi => by unfold con; omega), bk_p1, xv_up_row _ _ _ (by omega), xv_up_row _ _ _ (by omega), xv_up_row _ _ _ (by omega)]
/-- behind a deed -/
theorem CI.de {n n' : Nat} {P P' : q_P} {X X0 X' : q_X} {Y Y' : q_Y} {b x : Nat} {F : q_X → q_X} {R : q_X → Int} {r : Int} (h : CI n P X b x) (hb1 : 1 ≤ b ∧ b + 220 ≤ 441) (h0 : ∀ a, a ≠ 0 → xv X0 a = xv X a) (hd : DE x b n P X0 Y F R r n' P' X' Y') (hF : ∀ Z, bS X Z b → bA (F Z) b ∧ ∀ a, (a < b ∨ b + 220 ≤ a) → xv (F Z) a = xv Z a) : CI n' P' X' b ((x + 1) % 8) ∧ (∀ a, a < 453 → a ≠ 442 → (a < b ∨ b + 220 ≤ a) → xv X' a = xv X0 a) ∧ ∃ X1 X2, PU x b n P X0 Y n' P' X1 Y' ∧ tOut X1 X2 ∧ X' = F X2 ∧ r = R X2 ∧ bS X X2 b := by
  obtain ⟨hF0, hb, hA, hH, ht, ha⟩ := h
  obtain ⟨X1, X2, hp, ho, rfl, hr⟩ := hd
  have hn9 := hH.2.1.n
  have hap : bApart b := Or.inl hb1
  have e0 : bEq X X0 b := fun d hd => row_of (h0 _ (by omega))
  have e1 := hp.e (by omega) (b2 := b) (by omega)
  have hs : bS X X2 b := ((e0.trans e1).trans (bEq.to ho hap)).s
  obtain ⟨f1, f2⟩ := hF X2 hs
  have hpx := hp
  obtain ⟨a', p1, p2, p3, p4, p5, p6, p7, p8, p9, p10, p11⟩ := hp
  refine ⟨⟨hpx.face hF0, hpx.b hb (by omega), f1, ?_, hpx.tal ht, ?_⟩, fun a a1 a2 a3 => ?_, X1, X2, hpx, ho, rfl, hr, hs⟩
  · have e442 : xv (F X2) 442 = xv X1 442 := by rw [f2 442 (by omega)]; funext j; simp only [xv, ho 442 (by omega)]
    refine ⟨by rw [p5 442 (by omega) (by omega)]; exact hH.1, p3, by omega, ?_, ?_, ?_⟩
    · rw [e442, p10]; omega
    · rw [e442, p11, h0 442 (by omega)]; have := hH.2.2.2.2; omega
    · rw [e442, p11, h0 442 (by omega)]; have := hH.2.2.2.2; omega
  · obtain ⟨i1, i2, i3, i4⟩ := ha
    unfold isAct
    rw [p5 449 (by omega) (by omega)]
    exact ⟨i1, i2, i3, by omega⟩
  · rw [f2 a a3]
    have : xv X2 a = xv X1 a := by funext j; simp only [xv, ho a (by omega)]
    rw [this]; funext j; simp only [xv]; rw [p8 a j (by omega) (by omega) (by omega)]
theorem CI.no {n : Nat} {P : q_P} {X X' : q_X} {b x : Nat} (h : CI n P X b x) (hb1 : 1 ≤ b ∧ b + 220 ≤ 441) (h0 : ∀ a, a ≠ 0 → xv X' a = xv X a) : CI n P X' b x := by
  obtain ⟨hF0, hb, hA, hH, ht, ha⟩ := h
  refine ⟨hF0, hb, bS.a (fun d hd h8 => row_of (h0 _ (by omega))) hA, ?_, ht, ha⟩
  unfold isHi at hH ⊢; rw [h0 442 (by omega)]; exact hH
theorem c_spread_out {X : q_X} {c : Nat} {y v : Int} {a : Nat} (h : a < c ∨ c + 4 < a) : xv (c_spread X c y v) a = xv X a := c_spread_o _ _ _ _ (by omega)
theorem up0 {X : q_X} {j : Nat} {v : Int32} {a : Nat} (h : a ≠ 0) : xv (q_up X 0 j v) a = xv X a := xv_up_row _ _ _ h
theorem Perf.ci {n n' : Nat} {P P' : q_P} {X X' : q_X} {Y Y' : q_Y} {b x : Nat} {kd f s r : Int} (h : CI n P X b x) (hb1 : 1 ≤ b ∧ b + 220 ≤ 441) (hp : Perf x b n P X Y kd f s r n' P' X' Y') : n ≤ n' ∧ (CI n' P' X' b x ∨ CI n' P' X' b ((x + 1) % 8)) ∧ ∀ a, 449 ≤ a → a ≤ 452 → xv X' a = xv X a := by
  have hO := h.2.2.1.1
  have o10 := hO.2.2.2.2.2.2.2.1
  have key : ∀ {F : q_X → q_X} {R : q_X → Int}, DE x b n P (q_up X 0 11 (zi 0)) Y F R r n' P' X' Y' → (∀ Z, bS X Z b → bA (F Z) b ∧ ∀ a, (a < b ∨ b + 220 ≤ a) → xv (F Z) a = xv Z a) → n ≤ n' ∧ (CI n' P' X' b x ∨ CI n' P' X' b ((x + 1) % 8)) ∧ ∀ a, 449 ≤ a → a ≤ 452 → xv X' a = xv X a := fun hd hF => by
    obtain ⟨c1, c2, X1, X2, c3, -⟩ := h.de hb1 (fun a ha => up0 ha) hd hF
    exact ⟨c3.n.2, Or.inr c1, fun a a1 a2 => by rw [c2 a (by omega) (by omega) (by omega), up0 (by omega)]⟩
  have nok : ∀ {v : Int32}, NO n P (q_up X 0 11 v) Y r n' P' X' Y' → n ≤ n' ∧ (CI n' P' X' b x ∨ CI n' P' X' b ((x + 1) % 8)) ∧ ∀ a, 449 ≤ a → a ≤ 452 → xv X' a = xv X a := fun hn => by
    obtain ⟨rfl, rfl, rfl, rfl, -⟩ := hn
    exact ⟨Nat.le_refl _, Or.inl (h.no hb1 (fun a ha => up0 ha)), fun a a1 a2 => up0 (by omega)⟩
  unfold Perf at hp
  split at hp
  · unfold P_go at hp
    split at hp
    · rename_i hk
      refine key hp (fun Z hs => ⟨bA_rel 0 (hs.a h.2.2.1) (by rw [bk_ref_ag hs.ag o10.2]; exact hk), fun a ha => ?_⟩)
      have hh := bk_ref_has hk
      exact bk_rel_o (by omega) (by unfold con; omega)
    · exact nok hp
  · split at hp
    · unfold P_turn at hp
      split at hp
      · rename_i hk
        obtain ⟨k0, -⟩ := bk_pref_ref hk
        have hh := bk_ref_has k0
        refine key hp (fun Z hs => ⟨bA_turn (hs.a h.2.2.1) ?_, fun a ha => bk_turn_o (by unfold con; omega)⟩)
        rw [← hk]; unfold bk_pref
        rw [bk_ref_ag hs.ag o10.2, hs.v0, c_base_ag (hs.ag.c (k := f.toNat) (by omega))]
      · exact nok hp
    · split at hp
      · unfold P_days at hp
        split at hp
        · rename_i hk
          refine key hp (fun Z hs => ⟨bA_days (hs.a h.2.2.1) (by rw [hs.v0]; exact hk), fun a ha => xv_up_row _ _ _ (by omega)⟩)
        · exact nok hp
      · unfold P_year at hp
        split at hp
        · rename_i hk
          refine key hp (fun Z hs => ⟨bA_year (hs.a h.2.2.1) (by rw [hs.v0]; exact hk), fun a ha => bk_year_o (by rw [hs.v0]; exact o10.2) ha⟩)
        · exact nok hp
/-- acts, one behind the other: w are left, the next is i -/
def AC (b m : Nat) : Nat → Nat → Nat → Nat → q_P → q_X → q_Y → Int → Nat → q_P → q_X → q_Y → Prop
  | 0, _, _, n, P, X, _, r', n', P', X', _ => r' = (m : Int) ∧ n' = n ∧ P' = P ∧ X' = X
  | w + 1, i, x, n, P, X, Y, r', n', P', X', Y' => ∃ r1 n1 P1 X1 Y1, Perf x b n P X Y (xv X 450 i) (xv X 451 i) (xv X 452 i) r1 n1 P1 X1 Y1 ∧ if xv X1 0 11 = 0 then ∃ x1, CI n1 P1 X1 b x1 ∧ AC b m w (i + 1) x1 n1 P1 X1 Y1 r' n' P' X' Y' else n' = n1 ∧ P' = P1 ∧ X' = q_up X1 0 10 (zi (i : Int)) ∧ r' = (i : Int)
set_option maxHeartbeats 4000000 in
set_option maxRecDepth 100000 in
theorem tX11_perform {l : Launch} {g : q_G} {n : Nat} {P : q_P} {X : q_X} {Y : q_Y} {b x : Nat} (hC : CI n P X b x) (hb1 : 1 ≤ b ∧ b + 220 ≤ 441) {i : Nat} (hi : i < 20) : q_Met l g mX11_perform 6 [.ref (g.1 + 0), .int (zi (i : Int))] n P X Y (q_gi (fun r' n' P' X' Y' => (∃ r1, Perf x b n P X Y (xv X 450 i) (xv X 451 i) (xv X 452 i) r1 n' P' X' Y') ∧ r' = if xv X' 0 11 = 0 then 1 else 0)) := by
  obtain ⟨hF, hb, hA, hH, ht, ha⟩ := id hC
  have hO := hA.1
  obtain ⟨f0, f2, f3, f4, f5, f6, f7, f8, hn0⟩ := id hF
  obtain ⟨b0, b1, b2, b3, q7, q8, q9, q11, q12, q13, hn, hpro, hmar, hfor, hcs⟩ := id hb
  obtain ⟨o0, o1, o2, o3, o4, o5, o6, o10, oc, op0, opz, opi, om0, omi, olim⟩ := id hO
  obtain ⟨h442, hS, hx, hx1, hz0, hz8⟩ := id hH
  have hn9 := hS.n
  obtain ⟨t0, t1, t2, t3, t4, hnt⟩ := id ht
  obtain ⟨a1, a2, a3, hna⟩ := id ha
  refine q_enter (L := [(0, .ref (g.1 + 0)), (1, .int (zi (i : Int)))]) (by decide) (Nat.le_of_ble_eq_true rfl) rfl ?_
  refine r_aload_n (i := 0) (pc' := 1) dX11_perform_0 rfl rfl (.head _) ?_
  refine r_getR (pc' := 4) dX11_perform_1 rfl fX11_49 rfl (by first | assumption | rfl) (by omega) (by assumption) ?_
  refine r_getR (pc' := 7) dX11_perform_4 rfl fX11_447 rfl (by first | assumption | rfl) (by omega) (by assumption) ?_
  refine r_iload_n (i := 1) (pc' := 8) dX11_perform_7 rfl rfl (.tail _ (.head _)) ?_
  refine r_iaload (pc' := 9) dX11_perform_8 rfl (by first | assumption | rfl) (by omega) (by omega) (by omega) (by first | decide | omega) (Int.toNat_natCast _) ?_
  refine r_istore_n (i := 2) (pc' := 10) dX11_perform_9 rfl rfl rfl (.s1 (.s1 .nil rfl rfl rfl) rfl rfl rfl) ?_
  refine r_aload_n (i := 0) (pc' := 11) dX11_perform_10 rfl rfl (.head _) ?_
  refine r_getR (pc' := 14) dX11_perform_11 rfl fX11_49 rfl (by first | assumption | rfl) (by omega) (by assumption) ?_
  refine r_getR (pc' := 17) dX11_perform_14 rfl fX11_449 rfl (by first | assumption | rfl) (by omega) (by assumption) ?_
  refine r_iload_n (i := 1) (pc' := 18) dX11_perform_17 rfl rfl (.tail _ (.head _)) ?_
  refine r_iaload (pc' := 19) dX11_perform_18 rfl (by first | assumption | rfl) (by omega) (by omega) (by omega) (by first | decide | omega) (Int.toNat_natCast _) ?_
  by_cases hs19 : xv X 450 i = 100 ∨ xv X 450 i = 116 ∨ xv X 450 i = 120
  · rcases hs19 with hs19 | hs19 | hs19
    · refine r_look (t := 80) (off := 61) dX11_perform_19 rfl (by first | omega | exact xv_in _ _ _ | assumption) (by rw [hs19]; rfl) (by decide) ?_
      refine r_aload_n (i := 0) (pc' := 81) dX11_perform_80 rfl rfl (.head _) ?_
      refine r_iload_n (i := 2) (pc' := 82) dX11_perform_81 rfl rfl (.tail _ (.tail _ (.head _))) ?_
      refine r_V1gi (ci := 11) (pc' := 85) dX11_perform_82 rfl lX11_458 rfl (by decide) (Nat.le_of_ble_eq_true rfl) (by first | assumption | rfl) (by omega) (tX11_days (x := x) hF hb hO hH hb1 (xv_in _ _ _)) (fun r82 n82 P82 X82 Y82 e82 le82 => ?_)
      have hpf : Perf x b n P X Y (xv X 450 i) (xv X 451 i) (xv X 452 i) r82 n82 P82 X82 Y82 := by rw [Perf]; rw [if_neg (by omega), if_neg (by omega), if_pos hs19]; exact e82
      have hpc := hpf.ci hC hb1
      refine r_pop (pc' := 86) dX11_perform_85 rfl rfl ?_
      refine r_goto (t := 94) dX11_perform_86 (by decide) ?_
      refine r_aload_n (i := 0) (pc' := 95) dX11_perform_94 rfl rfl (.head _) ?_
      refine r_getI (pc' := 98) dX11_perform_95 rfl fX11_74 rfl (by first | assumption | rfl) (by omega) ?_
      refine r_if_ne (t := 105) (f := 101) dX11_perform_98 (by decide) rfl (by first | omega | exact xv_in _ _ _ | assumption) (fun h98 => ?_) (fun h98 => ?_)
      · refine r_iconst (pc' := 106) dX11_perform_105 rfl ?_
        refine r_zreturn dX11_perform_106 rfl (by decide) ?_
        refine ⟨_, rfl, ⟨_, hpf⟩, ?_⟩
        first | (rw [if_pos (by omega)]; done) | (rw [if_neg (by omega)]; done)
      · refine r_iconst (pc' := 102) dX11_perform_101 rfl ?_
        refine r_goto (t := 106) dX11_perform_102 (by decide) ?_
        refine r_zreturn dX11_perform_106 rfl (by decide) ?_
        refine ⟨_, rfl, ⟨_, hpf⟩, ?_⟩
        first | (rw [if_pos (by omega)]; done) | (rw [if_neg (by omega)]; done)
    · refine r_look (t := 62) (off := 43) dX11_perform_19 rfl (by first | omega | exact xv_in _ _ _ | assumption) (by rw [hs19]; rfl) (by decide) ?_
      refine r_aload_n (i := 0) (pc' := 63) dX11_perform_62 rfl rfl (.head _) ?_
      refine r_iload_n (i := 2) (pc' := 64) dX11_perform_63 rfl rfl (.tail _ (.tail _ (.head _))) ?_
      refine r_aload_n (i := 0) (pc' := 65) dX11_perform_64 rfl rfl (.head _) ?_
      refine r_getR (pc' := 68) dX11_perform_65 rfl fX11_49 rfl (by first | assumption | rfl) (by omega) (by assumption) ?_
      refine r_getR (pc' := 71) dX11_perform_68 rfl fX11_452 rfl (by first | assumption | rfl) (by omega) (by assumption) ?_
      refine r_iload_n (i := 1) (pc' := 72) dX11_perform_71 rfl rfl (.tail _ (.head _)) ?_
      refine r_iaload (pc' := 73) dX11_perform_72 rfl (by first | assumption | rfl) (by omega) (by omega) (by omega) (by first | decide | omega) (Int.toNat_natCast _) ?_
      refine r_V2gi (ci := 11) (pc' := 76) dX11_perform_73 rfl lX11_455 rfl (by decide) (Nat.le_of_ble_eq_true rfl) (by first | assumption | rfl) (by omega) (tX11_turn (x := x) hF hb hO hH hb1 (xv_in _ _ _) (xv_in _ _ _)) (fun r73 n73 P73 X73 Y73 e73 le73 => ?_)
      have hpf : Perf x b n P X Y (xv X 450 i) (xv X 451 i) (xv X 452 i) r73 n73 P73 X73 Y73 := by rw [Perf]; rw [if_neg (by omega), if_pos hs19]; exact e73
      have hpc := hpf.ci hC hb1
      refine r_pop (pc' := 77) dX11_perform_76 rfl rfl ?_
      refine r_goto (t := 94) dX11_perform_77 (by decide) ?_
      refine r_aload_n (i := 0) (pc' := 95) dX11_perform_94 rfl rfl (.head _) ?_
      refine r_getI (pc' := 98) dX11_perform_95 rfl fX11_74 rfl (by first | assumption | rfl) (by omega) ?_
      refine r_if_ne (t := 105) (f := 101) dX11_perform_98 (by decide) rfl (by first | omega | exact xv_in _ _ _ | assumption) (fun h98 => ?_) (fun h98 => ?_)
      · refine r_iconst (pc' := 106) dX11_perform_105 rfl ?_
        refine r_zreturn dX11_perform_106 rfl (by decide) ?_
        refine ⟨_, rfl, ⟨_, hpf⟩, ?_⟩
        first | (rw [if_pos (by omega)]; done) | (rw [if_neg (by omega)]; done)
      · refine r_iconst (pc' := 102) dX11_perform_101 rfl ?_
        refine r_goto (t := 106) dX11_perform_102 (by decide) ?_
        refine r_zreturn dX11_perform_106 rfl (by decide) ?_
        refine ⟨_, rfl, ⟨_, hpf⟩, ?_⟩
        first | (rw [if_pos (by omega)]; done) | (rw [if_neg (by omega)]; done)
    · refine r_look (t := 52) (off := 33) dX11_perform_19 rfl (by first | omega | exact xv_in _ _ _ | assumption) (by rw [hs19]; rfl) (by decide) ?_
      refine r_aload_n (i := 0) (pc' := 53) dX11_perform_52 rfl rfl (.head _) ?_
      refine r_iload_n (i := 2) (pc' := 54) dX11_perform_53 rfl rfl (.tail _ (.tail _ (.head _))) ?_
      refine r_iconst (pc' := 55) dX11_perform_54 rfl ?_
      refine r_V2gi (ci := 11) (pc' := 58) dX11_perform_55 rfl lX11_240 rfl (by decide) (Nat.le_of_ble_eq_true rfl) (by first | assumption | rfl) (by omega) (tX11_letGo (x := x) hF hb hO hH hb1 (xv_in _ _ _) (by omega)) (fun r55 n55 P55 X55 Y55 e55 le55 => ?_)
      have hpf : Perf x b n P X Y (xv X 450 i) (xv X 451 i) (xv X 452 i) r55 n55 P55 X55 Y55 := by rw [Perf]; rw [if_pos hs19]; exact e55
      have hpc := hpf.ci hC hb1
      refine r_pop (pc' := 59) dX11_perform_58 rfl rfl ?_
      refine r_goto (t := 94) dX11_perform_59 (by decide) ?_
      refine r_aload_n (i := 0) (pc' := 95) dX11_perform_94 rfl rfl (.head _) ?_
      refine r_getI (pc' := 98) dX11_perform_95 rfl fX11_74 rfl (by first | assumption | rfl) (by omega) ?_
      refine r_if_ne (t := 105) (f := 101) dX11_perform_98 (by decide) rfl (by first | omega | exact xv_in _ _ _ | assumption) (fun h98 => ?_) (fun h98 => ?_)
      · refine r_iconst (pc' := 106) dX11_perform_105 rfl ?_
        refine r_zreturn dX11_perform_106 rfl (by decide) ?_
        refine ⟨_, rfl, ⟨_, hpf⟩, ?_⟩
        first | (rw [if_pos (by omega)]; done) | (rw [if_neg (by omega)]; done)
      · refine r_iconst (pc' := 102) dX11_perform_101 rfl ?_
        refine r_goto (t := 106) dX11_perform_102 (by decide) ?_
        refine r_zreturn dX11_perform_106 rfl (by decide) ?_
        refine ⟨_, rfl, ⟨_, hpf⟩, ?_⟩
        first | (rw [if_pos (by omega)]; done) | (rw [if_neg (by omega)]; done)
  · refine r_look (t := 89) (off := 70) dX11_perform_19 rfl (by first | omega | exact xv_in _ _ _ | assumption) (by simp [Op.lookupswitch.offset]; omega) (by decide) ?_
    refine r_aload_n (i := 0) (pc' := 90) dX11_perform_89 rfl rfl (.head _) ?_
    refine r_V0gi (ci := 11) (pc' := 93) dX11_perform_90 rfl lX11_461 rfl (by decide) (Nat.le_of_ble_eq_true rfl) (by first | assumption | rfl) (by omega) (tX11_year (x := x) hF hb hO hH hb1 ht) (fun r90 n90 P90 X90 Y90 e90 le90 => ?_)
    have hpf : Perf x b n P X Y (xv X 450 i) (xv X 451 i) (xv X 452 i) r90 n90 P90 X90 Y90 := by rw [Perf]; rw [if_neg (by omega), if_neg (by omega), if_neg (by omega)]; exact e90
    have hpc := hpf.ci hC hb1
    refine r_pop (pc' := 94) dX11_perform_93 rfl rfl ?_
    refine r_aload_n (i := 0) (pc' := 95) dX11_perform_94 rfl rfl (.head _) ?_
    refine r_getI (pc' := 98) dX11_perform_95 rfl fX11_74 rfl (by first | assumption | rfl) (by omega) ?_
    refine r_if_ne (t := 105) (f := 101) dX11_perform_98 (by decide) rfl (by first | omega | exact xv_in _ _ _ | assumption) (fun h98 => ?_) (fun h98 => ?_)
    · refine r_iconst (pc' := 106) dX11_perform_105 rfl ?_
      refine r_zreturn dX11_perform_106 rfl (by decide) ?_
      refine ⟨_, rfl, ⟨_, hpf⟩, ?_⟩
      first | (rw [if_pos (by omega)]; done) | (rw [if_neg (by omega)]; done)
    · refine r_iconst (pc' := 102) dX11_perform_101 rfl ?_
      refine r_goto (t := 106) dX11_perform_102 (by decide) ?_
      refine r_zreturn dX11_perform_106 rfl (by decide) ?_
      refine ⟨_, rfl, ⟨_, hpf⟩, ?_⟩
      first | (rw [if_pos (by omega)]; done) | (rw [if_neg (by omega)]; done)
set_option maxHeartbeats 4000000 in
set_option maxRecDepth 100000 in
theorem lX11_acts {l : Launch} {g : q_G} {b m : Nat} (hb1 : 1 ≤ b ∧ b + 220 ≤ 441) (hm : m ≤ 20) : ∀ (w i x n : Nat) (P : q_P) (X : q_X) (Y : q_Y), i + w = m → CI n P X b x → xv X 449 0 = (m : Int) → q_Tr l g mX11_acts 7 (q_gi (fun r' n' P' X' Y' => AC b m w i x n P X Y r' n' P' X' Y')) 46 [(0, .ref (g.1 + 0)), (1, .int (zi (i : Int)))] [] n P X Y := by
  intro w
  induction w with
  | zero =>
    intro i x n P X Y hk hC h449
    obtain ⟨hF, hb, hA, hH, ht, ha⟩ := id hC
    have hO := hA.1
    obtain ⟨f0, f2, f3, f4, f5, f6, f7, f8, hn0⟩ := id hF
    obtain ⟨b0, b1, b2, b3, q7, q8, q9, q11, q12, q13, hn, hpro, hmar, hfor, hcs⟩ := id hb
    obtain ⟨o0, o1, o2, o3, o4, o5, o6, o10, oc, op0, opz, opi, om0, omi, olim⟩ := id hO
    obtain ⟨h442, hS, hx, hx1, hz0, hz8⟩ := id hH
    have hn9 := hS.n
    obtain ⟨t0, t1, t2, t3, t4, hnt⟩ := id ht
    obtain ⟨a1, a2, a3, hna⟩ := id ha
    refine r_iload_n (i := 1) (pc' := 47) dX11_acts_46 rfl rfl (.tail _ (.head _)) ?_
    refine r_aload_n (i := 0) (pc' := 48) dX11_acts_47 rfl rfl (.head _) ?_
    refine r_getR (pc' := 51) dX11_acts_48 rfl fX11_49 rfl (by first | assumption | rfl) (by omega) (by assumption) ?_
    refine r_getI (pc' := 54) dX11_acts_51 rfl fX11_130 rfl (by first | assumption | rfl) (by omega) ?_
    refine r_icmp_ge (t := 78) (f := 57) dX11_acts_54 (by decide) rfl (by first | omega | exact xv_in _ _ _ | assumption) (by first | omega | exact xv_in _ _ _ | assumption) (fun h54 => ?_) (fun h54 => ?_)
    · refine r_aload_n (i := 0) (pc' := 79) dX11_acts_78 rfl rfl (.head _) ?_
      refine r_getR (pc' := 82) dX11_acts_79 rfl fX11_49 rfl (by first | assumption | rfl) (by omega) (by assumption) ?_
      refine r_getI (pc' := 85) dX11_acts_82 rfl fX11_130 rfl (by first | assumption | rfl) (by omega) ?_
      refine r_ireturn dX11_acts_85 rfl ?_
      refine ⟨_, rfl, ?_⟩
      dsimp only
      rw [AC]
      exact ⟨h449, rfl, rfl, rfl⟩
    · exfalso; omega
  | succ w ih =>
    intro i x n P X Y hk hC h449
    obtain ⟨hF, hb, hA, hH, ht, ha⟩ := id hC
    have hO := hA.1
    obtain ⟨f0, f2, f3, f4, f5, f6, f7, f8, hn0⟩ := id hF
    obtain ⟨b0, b1, b2, b3, q7, q8, q9, q11, q12, q13, hn, hpro, hmar, hfor, hcs⟩ := id hb
    obtain ⟨o0, o1, o2, o3, o4, o5, o6, o10, oc, op0, opz, opi, om0, omi, olim⟩ := id hO
    obtain ⟨h442, hS, hx, hx1, hz0, hz8⟩ := id hH
    have hn9 := hS.n
    obtain ⟨t0, t1, t2, t3, t4, hnt⟩ := id ht
    obtain ⟨a1, a2, a3, hna⟩ := id ha
    refine r_iload_n (i := 1) (pc' := 47) dX11_acts_46 rfl rfl (.tail _ (.head _)) ?_
    refine r_aload_n (i := 0) (pc' := 48) dX11_acts_47 rfl rfl (.head _) ?_
    refine r_getR (pc' := 51) dX11_acts_48 rfl fX11_49 rfl (by first | assumption | rfl) (by omega) (by assumption) ?_
    refine r_getI (pc' := 54) dX11_acts_51 rfl fX11_130 rfl (by first | assumption | rfl) (by omega) ?_
    refine r_icmp_ge (t := 78) (f := 57) dX11_acts_54 (by decide) rfl (by first | omega | exact xv_in _ _ _ | assumption) (by first | omega | exact xv_in _ _ _ | assumption) (fun h54 => ?_) (fun h54 => ?_)
    · exfalso; omega
    · refine r_aload_n (i := 0) (pc' := 58) dX11_acts_57 rfl rfl (.head _) ?_
      refine r_iload_n (i := 1) (pc' := 59) dX11_acts_58 rfl rfl (.tail _ (.head _)) ?_
      refine r_V1gi (ci := 11) (pc' := 62) dX11_acts_59 rfl lX11_131 rfl (by decide) (Nat.le_of_ble_eq_true rfl) (by first | assumption | rfl) (by omega) (tX11_perform hC hb1 (by omega)) (fun r59 n59 P59 X59 Y59 e59 le59 => ?_)
      obtain ⟨⟨r1, hpf⟩, hrr⟩ := e59
      have hpc := hpf.ci hC hb1
      have hr01 : r59 = 0 ∨ r59 = 1 := by rw [hrr]; split <;> omega
      refine r_if_ne (t := 72) (f := 65) dX11_acts_62 (by decide) rfl (by first | omega | exact xv_in _ _ _ | assumption) (fun h62 => ?_) (fun h62 => ?_)
      · refine r_iinc (pc' := 75) dX11_acts_72 rfl rfl (.tail _ (.head _)) (.s1 (.here .nil) rfl rfl rfl) ?_
        refine r_goto (t := 46) dX11_acts_75 (by decide) ?_
        have hw0 : xv X59 0 11 = 0 := Classical.not_not.mp (fun q => by rw [if_neg q] at hrr; omega)
        have h49 : xv X59 449 0 = (m : Int) := by rw [hpc.2.2 449 (by omega) (by omega)]; exact h449
        rcases hpc.2.1 with hC1 | hC1
        · refine q_Tr.mono ?_ (ih (i + 1) x _ _ _ _ (by omega) hC1 h49)
          intro v' n' P' X' Y' hq
          obtain ⟨r', z1, z2⟩ := hq
          refine ⟨r', z1, ?_⟩
          dsimp only
          rw [AC]
          refine ⟨r1, _, _, _, _, hpf, ?_⟩
          rw [if_pos hw0]
          exact ⟨x, hC1, z2⟩
        · refine q_Tr.mono ?_ (ih (i + 1) ((x + 1) % 8) _ _ _ _ (by omega) hC1 h49)
          intro v' n' P' X' Y' hq
          obtain ⟨r', z1, z2⟩ := hq
          refine ⟨r', z1, ?_⟩
          dsimp only
          rw [AC]
          refine ⟨r1, _, _, _, _, hpf, ?_⟩
          rw [if_pos hw0]
          exact ⟨(x + 1) % 8, hC1, z2⟩
      · refine r_aload_n (i := 0) (pc' := 66) dX11_acts_65 rfl rfl (.head _) ?_
        refine r_iload_n (i := 1) (pc' := 67) dX11_acts_66 rfl rfl (.tail _ (.head _)) ?_
        refine r_putI (pc' := 70) dX11_acts_67 rfl fX11_71 rfl (by first | assumption | rfl) (by omega) rfl rfl ?_
        refine r_iload_n (i := 1) (pc' := 71) dX11_acts_70 rfl rfl (.tail _ (.head _)) ?_
        refine r_ireturn dX11_acts_71 rfl ?_
        refine ⟨_, rfl, ?_⟩
        dsimp only
        rw [AC]
        refine ⟨r1, _, _, _, _, hpf, ?_⟩
        rw [if_neg (fun q => by rw [if_pos q] at hrr; omega)]
        exact ⟨rfl, rfl, rfl, rfl⟩
