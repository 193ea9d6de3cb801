/-! acts: done there and here -/
def JT2 (C Z : q_X) : Prop := tS C Z (xv C 445 1) ∧ xv Z 467 6 = xv C 0 9 ∧ wS C Z (xv C 447 1)
def JW (P : q_P) (C Z : q_X) (b x : Nat) : Prop := (bA C b ∧ RB C b (xv Z 468)) ∧ JH P C Z x ∧ JT2 C Z
theorem JW.v {P : q_P} {C Z : q_X} {b x : Nat} (h : JW P C Z b x) (h24 : xv Z 467 24 = xv C 0 10) (h19 : xv Z 467 19 = xv C 0 11) : JV P C Z b x := ⟨h.1, h.2.1, h.2.2.1, ⟨h.2.2.2.1, h24, h19⟩, h.2.2.2.2⟩
theorem JT2.mv {C C' Z Z' : q_X} (h : JT2 C Z) (c0 : C' 0 9 = C 0 9) (c5 : C' 445 = C 445) (c6 : C' 446 = C 446) (c7 : C' 447 = C 447) (c8 : C' 448 = C 448) (z7 : ∀ j, (j = 4 ∨ j = 6 ∨ j = 26) → Z' 467 j = Z 467 j) (z0 : Z' 470 = Z 470) (z8 : Z' 480 = Z 480) : JT2 C' Z' := by
  obtain ⟨a1, a2, a5⟩ := h
  refine ⟨?_, ?_, ?_⟩
  · rw [xr c5]; exact a1.cg (xr c5) (xr c6) (xj (z7 4 (by omega))) (xr z0)
  · rw [xj (z7 6 (by omega)), xj c0]; exact a2
  · rw [xr c7]; exact a5.cg (xr c7) (xr c8) (xj (z7 26 (by omega))) (xr z8)
theorem JW.z {P : q_P} {C Z Z' : q_X} {b x : Nat} (h : JW P C Z b x) (hsz : xv C 442 2 ≤ 8) (z7 : ∀ j, (j = 1 ∨ j = 4 ∨ j = 6 ∨ j = 26) → Z' 467 j = Z 467 j) (z8 : ∀ j, j < 41140 → Z' 468 j = Z 468 j) (z9 : Z' 469 = Z 469) (z0 : Z' 470 = Z 470) (z80 : Z' 480 = Z 480) : JW P C Z' b x := by
  obtain ⟨⟨a1, a2⟩, a3, a4⟩ := h
  exact ⟨⟨a1, a2.rw a1 (fun j hj => xj (z8 j (by omega)))⟩, a3.mv hsz rfl (fun _ _ _ _ => bS.rfl) (xj (z7 1 (by omega))) (fun k _ => by rw [xr z9]) (fun r j h1 h2 hj => by unfold rw_; exact xj (z8 _ (by omega))), a4.mv rfl rfl rfl rfl rfl (fun j hj => z7 j (by omega)) z0 z80⟩
theorem JW.c {n : Nat} {P : q_P} {C C' Z : q_X} {b x : Nat} (h : JW P C Z b x) (hM : MS n P) (hb : 1 ≤ b ∧ b + 220 ≤ 441) (hsz : xv C 442 2 ≤ 8) (hc : ∀ a, (a < 449 ∨ 481 ≤ a) → a ≠ 0 → C' a = C a) (h9 : C' 0 9 = C 0 9) : JW P C' Z b x := by
  obtain ⟨⟨a1, a2⟩, a3, a4⟩ := h
  have hs : bS C C' b := fun q hq h8 => hc _ (by omega) (by omega)
  exact ⟨⟨hs.a a1, a2.bs a1 hs⟩, a3.mv hsz (by rw [xr (hc 442 (by omega) (by omega))]) (fun i a e hi q hq h8 => hc _ (by have := hM.a hi e; omega) (by have := hM.a hi e; omega)) rfl (fun _ _ => rfl) (fun _ _ _ _ _ => rfl), a4.mv h9 (hc _ (by omega) (by omega)) (hc _ (by omega) (by omega)) (hc _ (by omega) (by omega)) (hc _ (by omega) (by omega)) (fun _ _ => rfl) rfl rfl⟩
theorem JW_deed {n n' : Nat} {P P' : q_P} {C X0 X1 X' Z Zi Z2 : q_X} {Y Y' : q_Y} {b d x : Nat} (hS : JS n P C b d x) (hV : JW P C Z b x) (h0 : ∀ a j, ¬ (a = 0 ∧ j = 11) → X0 a j = C a j) (hp : PU x b n P X0 Y n' P' X1 Y') (hout : ∀ a, (a < 453 ∨ 466 < a) → (a < b ∨ b + 220 ≤ a) → X' a = X1 a) (hA : bA X' b) (hR : RB X' b (xv Z2 468)) (hi : ∀ a j, ¬ (a = 467 ∧ j = 19) → Zi a j = Z a j) (hz : rO (dd Zi 0) Z2) : JS n' P' X' b d ((x + 1) % 8) ∧ JW P' X' Z2 b ((x + 1) % 8) := by
  have hb := hS.b
  have hM := hS.M
  have hs := hS.s
  have hn := hM.n
  have r0 : ∀ a, a ≠ 0 → X0 a = C a := fun a ha => by funext j; exact h0 a j (by omega)
  have x1 : ∀ a, a < 481 → a ≠ 442 → X1 a = X0 a := fun a h1 h2 => hp.x (by omega) h1 h2
  have c1 : ∀ a, a < 449 → a ≠ 0 → a ≠ 442 → (a < b ∨ b + 220 ≤ a) → X' a = C a := fun a a1 a2 a3 a4 => by rw [hout a (by omega) a4, x1 a (by omega) a3, r0 a a2]
  have c0 : X' 0 9 = C 0 9 := by rw [hout 0 (by omega) (by omega), x1 0 (by omega) (by omega), h0 0 9 (by omega)]
  have e42 : X' 442 = X1 442 := hout 442 (by omega) (by omega)
  have z7 : ∀ j, j ≠ 1 → j ≠ 19 → Z2 467 j = Z 467 j := fun j j1 j2 => by
    rw [hz 467 j (by omega) (by omega) (by omega) (by omega), dd_ne _ _ (by omega) (by omega), hi _ _ (by omega)]
  have zr : ∀ a, (a = 469 ∨ a = 470 ∨ a = 480) → Z2 a = Z a := fun a ha => by
    funext j
    rw [hz a j (by omega) (by omega) (by omega) (by omega), dd_ne _ _ (by omega) (by omega), hi _ _ (by omega)]
  have ei : ∀ j, j ≠ 19 → xv Zi 467 j = xv Z 467 j := fun j hj => xj (hi _ _ (by omega))
  have ew : ∀ r j, rw_ Zi r j = rw_ Z r j := fun r j => by unfold rw_; exact xj (hi _ _ (by omega))
  have hDX : 0 ≤ xv Z 467 1 ∧ xv Z 467 1 ≤ 8 := by rw [hV.2.1.1.1]; exact hs.2.2
  have hDi : 0 ≤ xv Zi 467 1 ∧ xv Zi 467 1 ≤ 8 := by rw [ei 1 (by omega)]; exact hDX
  have jS : JS n' P' X' b d ((x + 1) % 8) := hS.push hp (xr (r0 442 (by omega))) (xr e42)
  have jH : JH P' X' Z2 ((x + 1) % 8) := by
    refine hV.2.1.push hM hs.1 hs.2.2 hV.1.1 hV.1.2 (fun q hq h8 => r0 _ (by omega)) (fun i a e hi10 q hq h8 => r0 _ (by have := hM.a hi10 e; omega)) (by rw [xr (r0 442 (by omega))]) hp (fun a ha q hq h8 => hout _ (by omega) (by omega)) (by rw [xr e42]) ?_ ?_ ?_
    · have q1 : xv Z2 467 1 = xv (dd Zi 0) 467 1 := xj (hz 467 1 (by omega) (by omega) (by omega) (by omega))
      rw [q1, dd_1 0 hDi, dd_1 0 hDX, ei 1 (by omega)]
    · intro k hk
      rw [xr (zr 469 (by omega))]
    · intro r j h1 h2 hj
      rw [hz.w ⟨h1, h2⟩ hj, dd_eq hDi (by omega) hj, dd_eq hDX (by omega) hj, ei 1 (by omega), ew, ew, ew]
  exact ⟨jS, ⟨hA, hR⟩, jH, hV.2.2.mv c0 (c1 445 (by omega) (by omega) (by omega) (by omega)) (c1 446 (by omega) (by omega) (by omega) (by omega)) (c1 447 (by omega) (by omega) (by omega) (by omega)) (c1 448 (by omega) (by omega) (by omega) (by omega)) (fun j hj => z7 j (by omega) (by omega)) (zr 470 (by omega)) (zr 480 (by omega))⟩
theorem actW_s {X C : q_X} {b : Nat} (hs : bS X C b) (h10 : xv X b 10 ≤ 40) {kd f s : Int} : actW C b kd f s = actW X b kd f s := by
  unfold actW; rw [bk_ref_ag hs.ag h10, pref_s hs h10, hs.v0]
theorem actW_in (X : q_X) (b : Nat) (kd f s : Int) : q_in (actW X b kd f s) := by
  have h1 := bk_ref_in X b f
  have h2 := bk_pref_in X b f s
  unfold actW q_in
  (repeat' split) <;> omega
theorem Perf_J {n n1 : Nat} {P P1 : q_P} {X X1 : q_X} {Y Y1 : q_Y} {b d x : Nat} {kd f s r : Int} (hS : JS n P X b d x) (hA : bA X b) (hp : Perf x b n P X Y kd f s r n1 P1 X1 Y1) (hk : kd = 120 ∨ kd = 116 ∨ kd = 100 ∨ kd = 121) : (actW X b kd f s = 0 ∧ ∃ Xp X2, PU x b n P (q_up X 0 11 (zi 0)) Y n1 P1 Xp Y1 ∧ tOut Xp X2 ∧ X1 = actC X2 b kd f s ∧ ∀ a, (a < b ∨ b + 220 ≤ a) → xv (actC X2 b kd f s) a = xv X2 a) ∨ (¬ actW X b kd f s = 0 ∧ n1 = n ∧ P1 = P ∧ X1 = q_up X 0 11 (zi (actW X b kd f s))) := by
  have o10 := hA.1.2.2.2.2.2.2.2.1
  have h0 : ∀ a j, ¬ (a = 0 ∧ j = 11) → (q_up X 0 11 (zi 0)) a j = X a j := fun a j q => q_up_ne _ _ (by omega)
  unfold Perf at hp
  rcases hk with e | e | e | e <;> subst e
  · rw [if_pos rfl] at hp
    unfold P_go at hp
    rw [aw_x.1]
    split at hp
    · rename_i hg
      obtain ⟨Xp, X2, q1, q2, q3, q4⟩ := hp
      have hh := bk_ref_has hg
      exact Or.inl ⟨hg, Xp, X2, q1, q2, q3, fun a ha => by rw [aw_x.2]; exact bk_rel_o (by omega) (by unfold con; omega)⟩
    · rename_i hg
      obtain ⟨q1, q2, q3, q4, q5⟩ := hp
      exact Or.inr ⟨hg, q1, q2, q4⟩
  · rw [if_neg (by omega), if_pos rfl] at hp
    unfold P_turn at hp
    rw [aw_t.1]
    split at hp
    · rename_i hg
      obtain ⟨Xp, X2, q1, q2, q3, q4⟩ := hp
      have hh := bk_ref_has (bk_pref_ref hg).1
      exact Or.inl ⟨hg, Xp, X2, q1, q2, q3, fun a ha => by rw [aw_t.2]; exact bk_turn_o (by unfold con; omega)⟩
    · rename_i hg
      obtain ⟨q1, q2, q3, q4, q5⟩ := hp
      exact Or.inr ⟨hg, q1, q2, q4⟩
  · rw [if_neg (by omega), if_neg (by omega), if_pos rfl] at hp
    unfold P_days at hp
    rw [aw_d.1]
    split at hp
    · rename_i hg
      obtain ⟨Xp, X2, q1, q2, q3, q4⟩ := hp
      rw [if_pos hg]
      exact Or.inl ⟨rfl, Xp, X2, q1, q2, q3, fun a ha => by rw [aw_d.2]; exact xv_up_row _ _ _ (by omega)⟩
    · rename_i hg
      obtain ⟨q1, q2, q3, q4, q5⟩ := hp
      rw [if_neg hg]
      exact Or.inr ⟨by omega, q1, q2, q4⟩
  · rw [if_neg (by omega), if_neg (by omega), if_neg (by omega)] at hp
    unfold P_year at hp
    rw [aw_y.1]
    split at hp
    · rename_i hg
      obtain ⟨Xp, X2, q1, q2, q3, q4⟩ := hp
      rw [if_pos hg]
      obtain ⟨s2, -⟩ := DE_s hS h0 q1 q2
      exact Or.inl ⟨rfl, Xp, X2, q1, q2, q3, fun a ha => by rw [aw_y.2]; exact bk_year_o (by rw [s2.v0]; exact o10.2) ha⟩
    · rename_i hg
      obtain ⟨q1, q2, q3, q4, q5⟩ := hp
      rw [if_neg hg]
      exact Or.inr ⟨by omega, q1, q2, q4⟩
set_option maxHeartbeats 4000000 in
set_option maxRecDepth 100000 in
theorem dX12_acts {l : Launch} {g : q_G} {N : Nat} {Q : q_P} {XF : q_X} {YF YM : q_Y} {rF : Int} (hm : isMod N Q) {b d m : Nat} (hm20 : m ≤ 20) : ∀ (w i x n : Nat) (P : q_P) (X : q_X) (Y : q_Y) (Z : q_X), i + w = m → AC b m w i x n P X Y rF N Q XF YF → JS n P X b d x → JW P X Z b x → xv X 0 10 = -1 → xv Z 467 19 = xv X 0 11 → (∀ q, q < m → aC X Z q) → xv Z 467 23 = (m : Int) → (∀ a, a < 467 ∨ 480 < a → Z a = XF a) → q_Tr l g mX12_acts 9 (q_gi (fun r2 n2 P2 X2 _ => zi r2 = zi rF ∧ J n2 P2 X2)) 57 [(0, .ref (g.1 + 467)), (1, .int (zi (i : Int)))] [] N Q Z YM := by
  obtain ⟨m0, m2, m3, m8, m9, m14, m15, m16, m17, m18, m20, m22, m25, hnm9⟩ := id hm
  intro w
  induction w with
  | zero =>
    intro i x n P X Y Z hi hac hS hV h10 h19 hact h23 hcl
    obtain rfl : i = m := by omega
    unfold AC at hac
    obtain ⟨z1, z2, z3, z4⟩ := hac
    have hs := hS.s
    refine r_iload_n (i := 1) (pc' := 58) dX12_acts_57 rfl rfl (.tail _ (.head _)) ?_
    refine r_aload_n (i := 0) (pc' := 59) dX12_acts_58 rfl rfl (.head _) ?_
    refine r_getI (pc' := 62) dX12_acts_59 rfl fX12_366 rfl (by first | assumption | rfl) (by omega) ?_
    rw [h23]
    refine r_icmp_ge (t := 81) (f := 65) dX12_acts_62 (by decide) rfl (by first | omega | exact xv_in _ _ _) (by first | omega | exact xv_in _ _ _) (fun h62 => ?_) (fun h62 => ?_)
    · refine r_aload_n (i := 0) (pc' := 82) dX12_acts_81 rfl rfl (.head _) ?_
      refine r_iload_n (i := 1) (pc' := 83) dX12_acts_82 rfl rfl (.tail _ (.head _)) ?_
      refine r_aload_n (i := 0) (pc' := 84) dX12_acts_83 rfl rfl (.head _) ?_
      refine r_getI (pc' := 87) dX12_acts_84 rfl fX12_366 rfl (by first | assumption | rfl) (by omega) ?_
      rw [h23]
      refine r_icmp_ge (t := 94) (f := 90) dX12_acts_87 (by decide) rfl (by first | omega | exact xv_in _ _ _) (by first | omega | exact xv_in _ _ _) (fun h87 => ?_) (fun h87 => ?_)
      · refine r_iconst (pc' := 95) dX12_acts_94 rfl ?_
        refine r_putI (pc' := 98) dX12_acts_95 rfl fX12_54 rfl (by first | assumption | rfl) (by omega) rfl rfl ?_
        refine r_iload_n (i := 1) (pc' := 99) dX12_acts_98 rfl rfl (.tail _ (.head _)) ?_
        refine r_ireturn dX12_acts_99 rfl ?_
        refine ⟨_, rfl, by rw [z1], ?_⟩
        have e : ∀ a j, ¬ (a = 467 ∧ j = 24) → (q_up Z 467 24 (zi (-1))) a j = Z a j := fun a j h => q_up_ne _ _ (by omega)
        have e24 : xv (q_up Z 467 24 (zi (-1))) 467 24 = -1 := xv_up_same _ _ _ (by omega)
        have er : ∀ a, a ≠ 467 → (q_up Z 467 24 (zi (-1))) a = Z a := fun a h => by funext j; exact e a j (by omega)
        generalize q_up Z 467 24 (zi (-1)) = M at *
        have v1 := hV.z hs.2.2.2 (Z' := M) (fun j hj => e 467 j (by omega)) (fun j _ => by rw [er 468 (by omega)]) (er 469 (by omega)) (er 470 (by omega)) (er 480 (by omega))
        have ex : ∀ a, a < 449 ∨ 481 ≤ a → M a = X a := fun a ha => by rw [er a (by omega), hcl a (by omega), z4]
        have v2 := v1.c hS.M hS.b.1 hs.2.2.2 (C' := M) (fun a ha _ => ex a ha) (by rw [ex 0 (by omega)])
        rw [z2, z3]
        exact ⟨b, d, x, hS.x (xr (ex 442 (by omega))), v2.v (by rw [e24, xr (ex 0 (by omega)), h10]) (by rw [xj (e 467 19 (by omega)), xr (ex 0 (by omega)), h19])⟩
      · exfalso; omega
    · exfalso; omega
  | succ w ih =>
    intro i x n P X Y Z hi hac hS hV h10 h19 hact h23 hcl
    unfold AC at hac
    obtain ⟨r1, n1, P1, X1, Y1, hpf, hac⟩ := hac
    have hs := hS.s
    have hb := hS.b
    have vA := hV.1.1
    have o10 := vA.1.2.2.2.2.2.2.2.1
    have hRz := hV.1.2
    have hn := hS.M.n
    have hD : 0 ≤ xv Z 467 1 ∧ xv Z 467 1 ≤ 8 := by rw [hV.2.1.1.1]; exact hs.2.2
    obtain ⟨k0, k1, k2, hkd, bf, bs⟩ := hact i (by omega)
    have hpj := Perf_J hS vA hpf hkd
    clear hpf
    generalize xv X 450 i = kd at k0 k1 k2 hkd hpj
    generalize xv X 451 i = f at k1 bf hpj
    generalize xv X 452 i = s at k2 bs hpj
    rcases hpj with ⟨hw, Xp, X2, hp, ho, hX1, hout⟩ | ⟨hw, e1, e2, e3⟩
    · have h0 : ∀ a j, ¬ (a = 0 ∧ j = 11) → (q_up X 0 11 (zi 0)) a j = X a j := fun a j q => q_up_ne _ _ (by omega)
      obtain ⟨s2, s7⟩ := DE_s hS h0 hp ho
      have hA2 := s2.a vA
      have hw2 : actW X2 b kd f s = 0 := by rw [actW_s s2 o10.2]; exact hw
      have fA : bA X1 b := by rw [hX1]; exact bA_act hA2 hw2
      have hou : ∀ a, (a < 453 ∨ 466 < a) → (a < b ∨ b + 220 ≤ a) → X1 a = Xp a := fun a a1 a2 => by rw [hX1]; exact (row_of (hout a a2)).trans (ho a a1)
      have x0 : X1 0 = (q_up X 0 11 (zi 0)) 0 := by rw [hou 0 (by omega) (by omega), hp.x (by omega) (by omega) (by omega)]
      have x11 : xv X1 0 11 = 0 := by rw [xr x0, xv_up_same _ _ _ (by omega)]
      have x10 : xv X1 0 10 = -1 := by rw [xr x0, xv_up_ne _ _ (by omega)]; exact h10
      have xa : ∀ a, 449 ≤ a → a ≤ 452 → X1 a = X a := fun a a1 a2 => by rw [hou a (by omega) (by omega), hp.x (by omega) (by omega) (by omega)]; funext j; exact h0 a j (by omega)
      rw [if_pos x11] at hac
      obtain ⟨x1, hci, hac⟩ := hac
      have hjn : xv X1 442 1 = (((x + 1) % 8 : Nat) : Int) := (hS.push (X' := X1) hp (xr (by funext j; exact h0 442 j (by omega))) (xr (hou 442 (by omega) (by omega)))).s.2.1
      obtain rfl : x1 = (x + 1) % 8 := by
        have q := hci.2.2.2.1.2.2
        have q1 := q.1
        have q2 := q.2.1
        omega
      refine r_iload_n (i := 1) (pc' := 58) dX12_acts_57 rfl rfl (.tail _ (.head _)) ?_
      refine r_aload_n (i := 0) (pc' := 59) dX12_acts_58 rfl rfl (.head _) ?_
      refine r_getI (pc' := 62) dX12_acts_59 rfl fX12_366 rfl (by first | assumption | rfl) (by omega) ?_
      rw [h23]
      refine r_icmp_ge (t := 81) (f := 65) dX12_acts_62 (by decide) rfl (by first | omega | exact xv_in _ _ _) (by first | omega | exact xv_in _ _ _) (fun h62 => ?_) (fun h62 => ?_)
      · exfalso; omega
      · refine r_aload_n (i := 0) (pc' := 66) dX12_acts_65 rfl rfl (.head _) ?_
        refine r_iconst (pc' := 67) dX12_acts_66 rfl ?_
        refine r_iload_n (i := 1) (pc' := 68) dX12_acts_67 rfl rfl (.tail _ (.head _)) ?_
        refine r_imul (pc' := 69) dX12_acts_68 rfl ?_
        refine r_V1gi (ci := 12) (pc' := 72) dX12_acts_69 rfl lX12_384 rfl (by decide) (Nat.le_of_ble_eq_true rfl) (by first | assumption | rfl) (by omega) (tX12_doAct hm (C := X2) (b := b) (q := i) (kd := kd) (f := f) (s := s) (hRz.bs vA s2) hA2 hD (by omega) hkd bf bs k0 k1 k2) (fun r69 n69 P69 X69 Y69 e69 le69 => ?_)
        obtain ⟨h1v, h2v, h3v, q69⟩ := e69
        rw [if_pos hw2] at q69
        obtain ⟨hr1, hro, hRn⟩ := q69
        subst h1v h2v h3v hr1
        refine r_if_eq (t := 81) (f := 75) dX12_acts_72 (by decide) rfl (by first | omega | exact xv_in _ _ _) (fun h72 => ?_) (fun h72 => ?_)
        · exfalso; omega
        · refine r_iinc (pc' := 78) dX12_acts_75 rfl rfl (.tail _ (.head _)) (.s1 (.here .nil) rfl rfl rfl) ?_
          refine r_goto (t := 57) dX12_acts_78 (by decide) ?_
          have z7 : ∀ j, j ≠ 1 → j ≠ 19 → X69 467 j = Z 467 j := fun j j1 j2 => by rw [hro.o 467 j (by omega) (by omega) (by omega) (by omega), dd_ne _ _ (by omega) (by omega), q_up_ne _ _ (by omega)]
          have zr : ∀ a, (a < 467 ∨ 477 < a) → X69 a = Z a := fun a ha => by
            funext j
            rw [hro.o a j (by omega) (by omega) (by omega) (by omega), dd_ne _ _ (by omega) (by omega), q_up_ne _ _ (by omega)]
          have z19 : xv X69 467 19 = 0 := by
            have q : xv X69 467 19 = xv (q_up Z 467 19 (zi 0)) 467 19 := xj (by rw [hro.o 467 19 (by omega) (by omega) (by omega) (by omega), dd_ne _ _ (by omega) (by omega)])
            rw [q, xv_up_same _ _ _ (by omega)]
          obtain ⟨jS, jV⟩ := JW_deed (X' := X1) (Z2 := X69) hS hV h0 hp hou fA (by rw [hX1]; exact hRn) (Zi := q_up Z 467 19 (zi 0)) (fun a j q => q_up_ne _ _ (by omega)) hro.o
          refine ih (i + 1) _ n1 P1 X1 Y1 X69 (by omega) hac jS jV x10 (by rw [z19, x11]) (fun q hq => ?_) (by rw [xj (z7 23 (by omega) (by omega))]; exact h23) (fun a ha => by rw [zr a (by omega)]; exact hcl a ha)
          have q0 := hact q hq
          unfold aC at q0 ⊢
          rw [xr (xa 450 (by omega) (by omega)), xr (xa 451 (by omega) (by omega)), xr (xa 452 (by omega) (by omega)), xr (zr 479 (by omega))]
          exact q0
    · have hin := actW_in X b kd f s
      generalize hwv : actW X b kd f s = wv at hw e3 hin
      have x11 : xv X1 0 11 = wv := by rw [e3, xv_up_same _ _ _ hin]
      rw [if_neg (by rw [x11]; exact hw)] at hac
      obtain ⟨z1, z2, z3, z4⟩ := hac
      clear ih
      refine r_iload_n (i := 1) (pc' := 58) dX12_acts_57 rfl rfl (.tail _ (.head _)) ?_
      refine r_aload_n (i := 0) (pc' := 59) dX12_acts_58 rfl rfl (.head _) ?_
      refine r_getI (pc' := 62) dX12_acts_59 rfl fX12_366 rfl (by first | assumption | rfl) (by omega) ?_
      rw [h23]
      refine r_icmp_ge (t := 81) (f := 65) dX12_acts_62 (by decide) rfl (by first | omega | exact xv_in _ _ _) (by first | omega | exact xv_in _ _ _) (fun h62 => ?_) (fun h62 => ?_)
      · exfalso; omega
      · refine r_aload_n (i := 0) (pc' := 66) dX12_acts_65 rfl rfl (.head _) ?_
        refine r_iconst (pc' := 67) dX12_acts_66 rfl ?_
        refine r_iload_n (i := 1) (pc' := 68) dX12_acts_67 rfl rfl (.tail _ (.head _)) ?_
        refine r_imul (pc' := 69) dX12_acts_68 rfl ?_
        refine r_V1gi (ci := 12) (pc' := 72) dX12_acts_69 rfl lX12_384 rfl (by decide) (Nat.le_of_ble_eq_true rfl) (by first | assumption | rfl) (by omega) (tX12_doAct hm (C := X) (b := b) (q := i) (kd := kd) (f := f) (s := s) hRz vA hD (by omega) hkd bf bs k0 k1 k2) (fun r69 n69 P69 X69 Y69 e69 le69 => ?_)
        obtain ⟨h1v, h2v, h3v, q69⟩ := e69
        rw [hwv, if_neg hw] at q69
        obtain ⟨hr1, hX9⟩ := q69
        subst h1v h2v h3v hr1 hX9
        refine r_if_eq (t := 81) (f := 75) dX12_acts_72 (by decide) rfl (by first | omega | exact xv_in _ _ _) (fun h72 => ?_) (fun h72 => ?_)
        · refine r_aload_n (i := 0) (pc' := 82) dX12_acts_81 rfl rfl (.head _) ?_
          refine r_iload_n (i := 1) (pc' := 83) dX12_acts_82 rfl rfl (.tail _ (.head _)) ?_
          refine r_aload_n (i := 0) (pc' := 84) dX12_acts_83 rfl rfl (.head _) ?_
          refine r_getI (pc' := 87) dX12_acts_84 rfl fX12_366 rfl (by first | assumption | rfl) (by omega) ?_
          rw [xv_up_ne _ _ (by omega), h23]
          refine r_icmp_ge (t := 94) (f := 90) dX12_acts_87 (by decide) rfl (by first | omega | exact xv_in _ _ _) (by first | omega | exact xv_in _ _ _) (fun h87 => ?_) (fun h87 => ?_)
          · exfalso; omega
          · refine r_iload_n (i := 1) (pc' := 91) dX12_acts_90 rfl rfl (.tail _ (.head _)) ?_
            refine r_goto (t := 95) dX12_acts_91 (by decide) ?_
            refine r_putI (pc' := 98) dX12_acts_95 rfl fX12_54 rfl (by first | assumption | rfl) (by omega) rfl rfl ?_
            refine r_iload_n (i := 1) (pc' := 99) dX12_acts_98 rfl rfl (.tail _ (.head _)) ?_
            refine r_ireturn dX12_acts_99 rfl ?_
            refine ⟨_, rfl, by rw [z4], ?_⟩
            have e : ∀ a j, ¬ (a = 467 ∧ (j = 19 ∨ j = 24)) → (q_up (q_up Z 467 19 (zi wv)) 467 24 (zi (i : Int))) a j = Z a j := fun a j h => by rw [q_up_ne _ _ (by omega), q_up_ne _ _ (by omega)]
            have e24 : xv (q_up (q_up Z 467 19 (zi wv)) 467 24 (zi (i : Int))) 467 24 = (i : Int) := xv_up_same _ _ _ (by omega)
            have e19 : xv (q_up (q_up Z 467 19 (zi wv)) 467 24 (zi (i : Int))) 467 19 = wv := by rw [xv_up_ne _ _ (by omega), xv_up_same _ _ _ hin]
            have er : ∀ a, a ≠ 467 → (q_up (q_up Z 467 19 (zi wv)) 467 24 (zi (i : Int))) a = Z a := fun a h => by funext j; exact e a j (by omega)
            generalize q_up (q_up Z 467 19 (zi wv)) 467 24 (zi (i : Int)) = M at *
            have v1 := hV.z hs.2.2.2 (Z' := M) (fun j hj => e 467 j (by omega)) (fun j _ => by rw [er 468 (by omega)]) (er 469 (by omega)) (er 470 (by omega)) (er 480 (by omega))
            have ex : ∀ a j, a < 449 ∨ 481 ≤ a → ¬ (a = 0 ∧ (j = 10 ∨ j = 11)) → M a j = X a j := fun a j ha h => by rw [er a (by omega), hcl a (by omega), z3, e3, q_up_ne _ _ (by omega), q_up_ne _ _ (by omega)]
            have m10 : xv M 0 10 = (i : Int) := by rw [xr (er 0 (by omega)), xr (hcl 0 (by omega)), z3, xv_up_same _ _ _ (by omega)]
            have m11 : xv M 0 11 = wv := by rw [xr (er 0 (by omega)), xr (hcl 0 (by omega)), z3, xv_up_ne _ _ (by omega), x11]
            have v2 := v1.c hS.M hS.b.1 hs.2.2.2 (C' := M) (fun a ha h => by funext j; exact ex a j ha (by omega)) (ex 0 9 (by omega) (by omega))
            rw [z1, z2, e1, e2]
            exact ⟨b, d, x, hS.x (xr (by funext j; exact ex 442 j (by omega) (by omega))), v2.v (by rw [e24, m10]) (by rw [e19, m11])⟩
        · exfalso; omega
