theorem q_bk_c {i d : Nat} (hd : d < 5) : q_bk (20 + 5 * i + d) = if d = 0 then (4, 10) else (20, 10) := by
  unfold q_bk
  rw [if_neg (by omega)]
  by_cases h : d = 0
  · rw [if_pos (by omega), if_pos h]
  · rw [if_neg (by omega), if_neg h]
/-- a place for books -/
def isPl (b : Nat) : Prop := ∀ d, d < 220 → q_sh (b + d) = q_bk d
theorem isPl.c {b : Nat} (h : isPl b) {i : Nat} (hi : i < 40) : q_sh (b + 20 + 5 * i) = (4, 10) ∧ q_sh (b + 20 + 5 * i + 1) = (20, 10) ∧ q_sh (b + 20 + 5 * i + 2) = (20, 10) ∧ q_sh (b + 20 + 5 * i + 3) = (20, 10) ∧ q_sh (b + 20 + 5 * i + 4) = (20, 10) := by
  have e : ∀ d, d < 5 → q_sh (b + 20 + 5 * i + d) = if d = 0 then (4, 10) else (20, 10) := fun d hd => by
    rw [← q_bk_c (i := i) hd, ← h (20 + 5 * i + d) (by omega)]; congr 1; omega
  exact ⟨e 0 (by omega), e 1 (by omega), e 2 (by omega), e 3 (by omega), e 4 (by omega)⟩
theorem isPl_1 : isPl 1 := fun d hd => by unfold q_sh; rw [if_neg (by omega), if_pos (by omega)]; congr 1; omega
theorem isPl_221 : isPl 221 := fun d hd => by unfold q_sh; rw [if_neg (by omega), if_pos (by omega)]; congr 1; omega
theorem isPl_t (t : Nat) : isPl (481 + 220 * t) := fun d hd => by unfold q_sh; rw [if_neg (by omega), if_neg (by omega), if_neg (by omega), show (481 + 220 * t + d - 481) % 220 = d by omega]
theorem isCon_of {n n' : Nat} {P P' : q_P} {c : Nat} (h : isCon n P c) (hn : n ≤ n') (hp : P' c = P c) : isCon n' P' c := by
  obtain ⟨s0, s1, s2, s3, s4, p6, p7, p8, p9, h5⟩ := h
  exact ⟨s0, s1, s2, s3, s4, by rw [hp]; exact p6, by rw [hp]; exact p7, by rw [hp]; exact p8, by rw [hp]; exact p9, by omega⟩
theorem isBk_of {n n' : Nat} {P P' : q_P} {b : Nat} (h : isBk n P b) (hn : n ≤ n') (hp : ∀ d, d < 220 → P' (b + d) = P (b + d)) : isBk n' P' b := by
  obtain ⟨b0, b1, b2, b3, q7, q8, q9, q11, q12, q13, hn', ⟨c0, c1, c2, c3, c4, c5, v1, v2, v3, v4, v5, hnp⟩, ⟨a0, a1, a2, a3, a4, u1, u2, u3, u4, hnm⟩, ⟨d0, d1, d2, d3, d4, w1, w2, w4, w5, hnf⟩, hcs⟩ := h
  have e0 : P' b = P b := hp 0 (by omega)
  have e3 := hp 3 (by omega)
  have e4 := hp 4 (by omega)
  have e10 := hp 10 (by omega)
  have e15 := hp 15 (by omega)
  refine ⟨b0, b1, b2, b3, by rw [e0]; exact q7, by rw [e0]; exact q8, by rw [e0]; exact q9, by rw [e0]; exact q11, by rw [e0]; exact q12, by rw [e0]; exact q13, by omega, ⟨c0, c1, c2, c3, c4, c5, by rw [e4]; exact v1, by rw [e4]; exact v2, by rw [e4]; exact v3, by rw [e4]; exact v4, by rw [e4]; exact v5, by omega⟩, ⟨a0, a1, a2, a3, a4, by rw [e10]; exact u1, by rw [e10]; exact u2, by rw [e10]; exact u3, by rw [e10]; exact u4, by omega⟩, ⟨d0, d1, d2, d3, d4, by rw [e15]; exact w1, by rw [e15]; exact w2, by rw [e15]; exact w4, by rw [e15]; exact w5, by omega⟩, fun k hk => ⟨by rw [e3]; exact (hcs k hk).1, isCon_of (hcs k hk).2 hn ?_⟩⟩
  have := hp (20 + 5 * k) (by omega)
  rw [show con b k = b + (20 + 5 * k) by unfold con; omega]; exact this
def bNew (X : q_X) (b : Nat) : Prop := (xv X b 0 = 0 ∧ xv X b 1 = 0 ∧ xv X b 2 = 150 ∧ xv X b 3 = 20 ∧ xv X b 4 = 200 ∧ xv X b 5 = 20 ∧ xv X b 6 = 100 ∧ xv X b 10 = 0) ∧ (∀ y, y < 20 → xv X (b + 1) y = 100000 ∧ xv X (b + 2) y = 0) ∧ ∀ d, 4 ≤ d → d < 20 → ∀ j, xv X (b + d) j = 0
def q_fill (X : q_X) (a i : Nat) : q_X := fun c j => if c = a ∧ j < i then zi 100000 else X c j
theorem q_fill_0 (X : q_X) (a : Nat) : q_fill X a 0 = X := by
  funext c j; simp only [q_fill]; rw [if_neg (by omega)]
theorem q_fill_s (X : q_X) (a i : Nat) : q_up (q_fill X a i) a i (zi 100000) = q_fill X a (i + 1) := by
  funext c j; simp only [q_fill, q_up]
  by_cases h : c = a ∧ j = i
  · rw [if_pos h, if_pos (by omega)]
  · rw [if_neg h]
    by_cases h2 : c = a ∧ j < i
    · rw [if_pos h2, if_pos (by omega)]
    · rw [if_neg h2, if_neg (by omega)]
set_option maxHeartbeats 4000000 in
set_option maxRecDepth 100000 in
theorem l2X1_init {l : Launch} {g : q_G} {b : Nat} {Pa : q_P} {Xa : q_X} {Ya : q_Y} (hpl : isPl b) (h9 : Pa b 9 = some (b + 3)) : ∀ (w i n : Nat) (P1 : q_P) (X1 : q_X) (Y1 : q_Y), i + w = 40 → n = b + 20 + 5 * i → (∀ a, a < b + 20 → a ≠ b + 3 → P1 a = Pa a) → (∀ a, a < b + 20 → X1 a = Xa a ∧ Y1 a = Ya a) → (∀ k, k < i → P1 (b + 3) k = some (con b k) ∧ isCon n P1 (con b k)) → q_Tr l g mX1_init 2 (q_gv (fun n' P' X' Y' => n' = b + 220 ∧ (∀ a, a < b + 20 → a ≠ b + 3 → P' a = Pa a) ∧ (∀ a, a < b + 20 → X' a = Xa a ∧ Y' a = Ya a) ∧ ∀ k, k < 40 → P' (b + 3) k = some (con b k) ∧ isCon (b + 220) P' (con b k))) 118 [(0, .ref (g.1 + b)), (1, .int (zi (i : Int)))] [] n P1 X1 Y1 := by
  have b3 : q_sh (b + 3) = (24, 40) := hpl 3 (by omega)
  have b0 : q_sh b = (1, 14) := hpl 0 (by omega)
  intro w
  induction w with
  | zero =>
    intro i n P1 X1 Y1 hi hn hA hB hC
    subst hn
    refine r_iload_n (i := 1) (pc' := 119) dX1_init_118 rfl rfl (.tail _ (.head _)) ?_
    refine r_bipush (pc' := 121) dX1_init_119 rfl (by decide) ?_
    refine r_icmp_ge (t := 143) (f := 124) dX1_init_121 (by decide) rfl (by first | omega | exact xv_in _ _ _) (by first | omega | exact xv_in _ _ _) (fun h121 => ?_) (fun h121 => ?_)
    · refine r_return dX1_init_143 rfl ?_
      refine ⟨rfl, by omega, hA, hB, fun k hk => ?_⟩
      have := hC k (by omega)
      rw [show b + 20 + 5 * i = b + 220 by omega] at this
      exact this
    · exfalso; omega
  | succ w ih =>
    intro i n P1 X1 Y1 hi hn hA hB hC
    subst hn
    obtain ⟨s0, s1, s2, s3, s4⟩ := hpl.c (i := i) (by omega)
    have p9 : P1 b 9 = some (b + 3) := by rw [hA b (by omega) (by omega)]; exact h9
    refine r_iload_n (i := 1) (pc' := 119) dX1_init_118 rfl rfl (.tail _ (.head _)) ?_
    refine r_bipush (pc' := 121) dX1_init_119 rfl (by decide) ?_
    refine r_icmp_ge (t := 143) (f := 124) dX1_init_121 (by decide) rfl (by first | omega | exact xv_in _ _ _) (by first | omega | exact xv_in _ _ _) (fun h121 => ?_) (fun h121 => ?_)
    · exfalso; omega
    · refine r_aload_n (i := 0) (pc' := 125) dX1_init_124 rfl rfl (.head _) ?_
      refine r_getR (pc' := 128) dX1_init_125 rfl fX1_36 rfl (by first | assumption | rfl) (by omega) (by assumption) ?_
      refine r_iload_n (i := 1) (pc' := 129) dX1_init_128 rfl rfl (.tail _ (.head _)) ?_
      refine r_new (pc' := 132) dX1_init_129 rfl nX1_34 s0 ?_
      refine r_dup (pc' := 133) dX1_init_132 rfl rfl ?_
      refine r_IN0gv (pc' := 136) dX1_init_133 rfl lX1_62 (by decide) (Nat.le_of_ble_eq_true rfl) (tX4_init (o := b + 20 + 5 * i) ⟨s0, s1, s2, s3, s4⟩ rfl) (fun n133 P133 X133 Y133 e133 le133 => ?_)
      obtain ⟨rfl, nag, ⟨k6, k7, k8, k9⟩, kx0, kx1, kx2, kx3, kx4⟩ := e133
      refine r_aastC (pc' := 137) dX1_init_136 rfl (by first | assumption | rfl) (by omega) (by omega) (by omega) (by first | decide | omega) (Int.toNat_natCast _) (by first | assumption | rfl) (by omega) ?_
      refine r_iinc (pc' := 140) dX1_init_137 rfl rfl (.tail _ (.head _)) (.s1 (.here .nil) rfl rfl rfl) ?_
      refine r_goto (t := 118) dX1_init_140 (by decide) ?_
      have hPn : ∀ a, a < b + 20 + 5 * i → P133 a = P1 a := fun a ha => by rw [(nag a ha).1]; funext j; exact q_clr_ne _ _ (by omega)
      have hcd : con b i = b + 20 + 5 * i := rfl
      refine ih (i + 1) _ _ _ _ (by omega) (by omega) (fun a a1 a2 => ?_) (fun a a1 => ?_) (fun k hk => ?_)
      · rw [← hA a a1 a2, ← hPn a (by omega)]; funext j; exact q_up_ne _ _ (by omega)
      · rw [(nag a (by omega)).2.1, (nag a (by omega)).2.2, ← (hB a a1).1, ← (hB a a1).2]
        exact ⟨by funext j; exact q_clr_ne _ _ (by omega), by funext j; exact q_clr_ne _ _ (by omega)⟩
      · by_cases e : k = i
        · subst e
          refine ⟨by rw [q_up_same, hcd], s0, s1, s2, s3, s4, ?_, ?_, ?_, ?_, by omega⟩ <;> rw [hcd, q_up_ne _ _ (by omega)] <;> assumption
        · have := hC k (by omega)
          have hck : con b k = b + 20 + 5 * k := rfl
          refine ⟨?_, isCon_of this.2 (by omega) ?_⟩
          · rw [q_up_ne _ _ (by omega), hPn _ (by omega)]; exact this.1
          · rw [← hPn _ (show con b k < b + 20 + 5 * i by omega)]; funext j; exact q_up_ne _ _ (by omega)
set_option maxHeartbeats 4000000 in
set_option maxRecDepth 100000 in
theorem l1X1_init {l : Launch} {g : q_G} {n : Nat} {P : q_P} {X : q_X} {Y : q_Y} {K : q_K} {b : Nat} (hpl : isPl b) (hn : b + 20 ≤ n) (h7 : P b 7 = some (b + 1)) (kk : q_Tr l g mX1_init 2 K 118 [(0, .ref (g.1 + b)), (1, .int (zi 0))] [] n P (q_fill X (b + 1) 20) Y) : ∀ (w i : Nat), i + w = 20 → q_Tr l g mX1_init 2 K 96 [(0, .ref (g.1 + b)), (1, .int (zi (i : Int)))] [] n P (q_fill X (b + 1) i) Y := by
  have b0 : q_sh b = (1, 14) := hpl 0 (by omega)
  have b1 : q_sh (b + 1) = (20, 20) := hpl 1 (by omega)
  intro w
  induction w with
  | zero =>
    intro i hi
    obtain rfl : i = 20 := by omega
    refine r_iload_n (i := 1) (pc' := 97) dX1_init_96 rfl rfl (.tail _ (.head _)) ?_
    refine r_bipush (pc' := 99) dX1_init_97 rfl (by decide) ?_
    refine r_icmp_ge (t := 116) (f := 102) dX1_init_99 (by decide) rfl (by first | omega | exact xv_in _ _ _) (by first | omega | exact xv_in _ _ _) (fun h99 => ?_) (fun h99 => ?_)
    · refine r_iconst (pc' := 117) dX1_init_116 rfl ?_
      refine r_istore_n (i := 1) (pc' := 118) dX1_init_117 rfl rfl rfl (.s1 (.here .nil) rfl rfl rfl) ?_
      exact kk
    · exfalso; omega
  | succ w ih =>
    intro i hi
    refine r_iload_n (i := 1) (pc' := 97) dX1_init_96 rfl rfl (.tail _ (.head _)) ?_
    refine r_bipush (pc' := 99) dX1_init_97 rfl (by decide) ?_
    refine r_icmp_ge (t := 116) (f := 102) dX1_init_99 (by decide) rfl (by first | omega | exact xv_in _ _ _) (by first | omega | exact xv_in _ _ _) (fun h99 => ?_) (fun h99 => ?_)
    · exfalso; omega
    · refine r_aload_n (i := 0) (pc' := 103) dX1_init_102 rfl rfl (.head _) ?_
      refine r_getR (pc' := 106) dX1_init_103 rfl fX1_27 rfl (by first | assumption | rfl) (by omega) (by assumption) ?_
      refine r_iload_n (i := 1) (pc' := 107) dX1_init_106 rfl rfl (.tail _ (.head _)) ?_
      refine r_ldc (pc' := 109) dX1_init_107 rfl kX1_61 ?_
      refine r_iastore (pc' := 110) dX1_init_109 rfl (by first | assumption | rfl) (by omega) (by omega) (by omega) (by first | decide | omega) (Int.toNat_natCast _) ?_
      refine r_iinc (pc' := 113) dX1_init_110 rfl rfl (.tail _ (.head _)) (.s1 (.here .nil) rfl rfl rfl) ?_
      refine r_goto (t := 96) dX1_init_113 (by decide) ?_
      rw [q_fill_s]
      exact ih (i + 1) (by omega)
set_option maxHeartbeats 4000000 in
set_option maxRecDepth 100000 in
theorem tX1_init {l : Launch} {g : q_G} {n : Nat} {P : q_P} {X : q_X} {Y : q_Y} {b : Nat} (hpl : isPl b) (hn : n = b + 1) (hX0 : X b = fun _ => 0) : q_Met l g mX1_init 2 [.ref (g.1 + b)] n P X Y (q_gv (fun n' P' X' Y' => n' = b + 220 ∧ nAg b P P' X X' Y Y' ∧ isBk n' P' b ∧ bNew X' b)) := by
  subst hn
  have b0 : q_sh b = (1, 14) := hpl 0 (by omega)
  refine q_enter (L := [(0, .ref (g.1 + b))]) (by decide) (Nat.le_of_ble_eq_true rfl) rfl ?_
  refine r_aload_n (i := 0) (pc' := 1) dX1_init_0 rfl rfl (.head _) ?_
  refine r_objInit (pc' := 4) dX1_init_1 rfl lX1_3 o_inst o_code (by decide) (Nat.le_of_ble_eq_true rfl) ?_
  refine r_aload_n (i := 0) (pc' := 5) dX1_init_4 rfl rfl (.head _) ?_
  refine r_sipush (pc' := 8) dX1_init_5 rfl (by decide) ?_
  refine r_putI (pc' := 11) dX1_init_8 rfl fX1_9 rfl (by first | assumption | rfl) (by omega) rfl rfl ?_
  refine r_aload_n (i := 0) (pc' := 12) dX1_init_11 rfl rfl (.head _) ?_
  refine r_bipush (pc' := 14) dX1_init_12 rfl (by decide) ?_
  refine r_putI (pc' := 17) dX1_init_14 rfl fX1_15 rfl (by first | assumption | rfl) (by omega) rfl rfl ?_
  refine r_aload_n (i := 0) (pc' := 18) dX1_init_17 rfl rfl (.head _) ?_
  refine r_sipush (pc' := 21) dX1_init_18 rfl (by decide) ?_
  refine r_putI (pc' := 24) dX1_init_21 rfl fX1_18 rfl (by first | assumption | rfl) (by omega) rfl rfl ?_
  refine r_aload_n (i := 0) (pc' := 25) dX1_init_24 rfl rfl (.head _) ?_
  refine r_bipush (pc' := 27) dX1_init_25 rfl (by decide) ?_
  refine r_putI (pc' := 30) dX1_init_27 rfl fX1_21 rfl (by first | assumption | rfl) (by omega) rfl rfl ?_
  refine r_aload_n (i := 0) (pc' := 31) dX1_init_30 rfl rfl (.head _) ?_
  refine r_bipush (pc' := 33) dX1_init_31 rfl (by decide) ?_
  refine r_putI (pc' := 36) dX1_init_33 rfl fX1_24 rfl (by first | assumption | rfl) (by omega) rfl rfl ?_
  refine r_aload_n (i := 0) (pc' := 37) dX1_init_36 rfl rfl (.head _) ?_
  refine r_bipush (pc' := 39) dX1_init_37 rfl (by decide) ?_
  refine r_newi (pc' := 41) dX1_init_39 rfl a_int (show q_sh (b + 1) = (20, 20) from hpl 1 (by omega)) rfl (by decide) ?_
  refine r_putRF (pc' := 44) dX1_init_41 rfl fX1_27 rfl rfl rfl (by first | assumption | rfl) (by omega) rfl rfl ?_
  refine r_aload_n (i := 0) (pc' := 45) dX1_init_44 rfl rfl (.head _) ?_
  refine r_bipush (pc' := 47) dX1_init_45 rfl (by decide) ?_
  refine r_newi (pc' := 49) dX1_init_47 rfl a_int (show q_sh (b + 2) = (20, 20) from hpl 2 (by omega)) rfl (by decide) ?_
  refine r_putRF (pc' := 52) dX1_init_49 rfl fX1_31 rfl rfl rfl (by first | assumption | rfl) (by omega) rfl rfl ?_
  refine r_aload_n (i := 0) (pc' := 53) dX1_init_52 rfl rfl (.head _) ?_
  refine r_bipush (pc' := 55) dX1_init_53 rfl (by decide) ?_
  refine r_newC (pc' := 58) dX1_init_55 rfl kX1_34 (show q_sh (b + 3) = (24, 40) from hpl 3 (by omega)) rfl (by decide) ?_
  refine r_putRF (pc' := 61) dX1_init_58 rfl fX1_36 rfl rfl rfl (by first | assumption | rfl) (by omega) rfl rfl ?_
  refine r_aload_n (i := 0) (pc' := 62) dX1_init_61 rfl rfl (.head _) ?_
  refine r_new (pc' := 65) dX1_init_62 rfl nX1_40 (show q_sh (b + 4) = (8, 6) from hpl 4 (by omega)) ?_
  refine r_dup (pc' := 66) dX1_init_65 rfl rfl ?_
  refine r_IN0gv (pc' := 69) dX1_init_66 rfl lX1_42 (by decide) (Nat.le_of_ble_eq_true rfl) (tX8_init (o := b + 4) ⟨hpl 4 (by omega), hpl 5 (by omega), hpl 6 (by omega), hpl 7 (by omega), hpl 8 (by omega), hpl 9 (by omega)⟩ rfl) (fun n66 P66 X66 Y66 e66 le66 => ?_)
  obtain ⟨rfl, nag66, ⟨k66_0, k66_1, k66_2, k66_3, k66_4⟩, kx66_0, kx66_1, kx66_2, kx66_3, kx66_4, kx66_5⟩ := e66
  have hP66 := fun a ha => (nag66 a ha).1
  have hX66 := fun a ha => (nag66 a ha).2.1
  have hY66 := fun a ha => (nag66 a ha).2.2
  refine r_putRF (pc' := 72) dX1_init_69 rfl fX1_43 rfl rfl rfl (by first | assumption | rfl) (by omega) rfl rfl ?_
  refine r_aload_n (i := 0) (pc' := 73) dX1_init_72 rfl rfl (.head _) ?_
  refine r_new (pc' := 76) dX1_init_73 rfl nX1_47 (show q_sh (b + 10) = (7, 5) from hpl 10 (by omega)) ?_
  refine r_dup (pc' := 77) dX1_init_76 rfl rfl ?_
  refine r_IN0gv (pc' := 80) dX1_init_77 rfl lX1_49 (by decide) (Nat.le_of_ble_eq_true rfl) (tX7_init (o := b + 10) ⟨hpl 10 (by omega), hpl 11 (by omega), hpl 12 (by omega), hpl 13 (by omega), hpl 14 (by omega)⟩ rfl) (fun n77 P77 X77 Y77 e77 le77 => ?_)
  obtain ⟨rfl, nag77, ⟨k77_0, k77_1, k77_2, k77_3⟩, kx77_0, kx77_1, kx77_2, kx77_3, kx77_4⟩ := e77
  have hP77 := fun a ha => (nag77 a ha).1
  have hX77 := fun a ha => (nag77 a ha).2.1
  have hY77 := fun a ha => (nag77 a ha).2.2
  refine r_putRF (pc' := 83) dX1_init_80 rfl fX1_50 rfl rfl rfl (by first | assumption | rfl) (by omega) rfl rfl ?_
  refine r_aload_n (i := 0) (pc' := 84) dX1_init_83 rfl rfl (.head _) ?_
  refine r_new (pc' := 87) dX1_init_84 rfl nX1_54 (show q_sh (b + 15) = (5, 6) from hpl 15 (by omega)) ?_
  refine r_dup (pc' := 88) dX1_init_87 rfl rfl ?_
  refine r_IN0gv (pc' := 91) dX1_init_88 rfl lX1_56 (by decide) (Nat.le_of_ble_eq_true rfl) (tX5_init (o := b + 15) ⟨hpl 15 (by omega), hpl 16 (by omega), hpl 17 (by omega), hpl 18 (by omega), hpl 19 (by omega)⟩ rfl) (fun n88 P88 X88 Y88 e88 le88 => ?_)
  obtain ⟨rfl, nag88, ⟨k88_0, k88_1, k88_2, k88_3⟩, kx88_0, kx88_1, kx88_2, kx88_3, kx88_4⟩ := e88
  have hP88 := fun a ha => (nag88 a ha).1
  have hX88 := fun a ha => (nag88 a ha).2.1
  have hY88 := fun a ha => (nag88 a ha).2.2
  refine r_putRF (pc' := 94) dX1_init_91 rfl fX1_57 rfl rfl rfl (by first | assumption | rfl) (by omega) rfl rfl ?_
  refine r_iconst (pc' := 95) dX1_init_94 rfl ?_
  refine r_istore_n (i := 1) (pc' := 96) dX1_init_95 rfl rfl rfl (.s1 .nil rfl rfl rfl) ?_
  have b0 : q_sh b = (1, 14) := hpl 0 (by omega)
  refine r_eqX (X1 := q_fill X88 (b + 1) 0) (q_fill_0 _ _).symm ?_
  refine l1X1_init hpl (by omega) (by simp (disch := omega) only [hP88, hP77, hP66, q_up_ne, q_up_same, q_clr_ne, q_clr_same]) ?_ 20 0 (by omega)
  obtain ⟨v, N, P', X', Y', ⟨hv, hN, hA, hB, hC⟩, hrun⟩ := l2X1_init (l := l) (g := g) (Pa := q_up P88 b 13 (some (b + 15))) (Xa := q_fill X88 (b + 1) 20) (Ya := Y88) hpl (by simp (disch := omega) only [hP88, hP77, hP66, q_up_ne, q_up_same, q_clr_ne, q_clr_same]) 40 0 (b + 15 + 5) _ _ _ (by omega) (by omega) (fun a a1 a2 => rfl) (fun a a1 => ⟨rfl, rfl⟩) (fun k hk => by omega)
  refine ⟨v, N, P', X', Y', ⟨hv, hN, fun a ha => ⟨?_, ?_, ?_⟩, ⟨b0, hpl 1 (by omega), hpl 2 (by omega), hpl 3 (by omega), ?_, ?_, ?_, ?_, ?_, ?_, by omega, ⟨hpl 4 (by omega), hpl 5 (by omega), hpl 6 (by omega), hpl 7 (by omega), hpl 8 (by omega), hpl 9 (by omega), ?_, ?_, ?_, ?_, ?_, by omega⟩, ⟨hpl 10 (by omega), hpl 11 (by omega), hpl 12 (by omega), hpl 13 (by omega), hpl 14 (by omega), ?_, ?_, ?_, ?_, by omega⟩, ⟨hpl 15 (by omega), hpl 16 (by omega), hpl 17 (by omega), hpl 18 (by omega), hpl 19 (by omega), ?_, ?_, ?_, ?_, by omega⟩, fun k hk => ⟨(hC k hk).1, by rw [hN]; exact (hC k hk).2⟩⟩, ⟨?_, ?_, ?_, ?_, ?_, ?_, ?_, ?_⟩, fun y hy => ⟨?_, ?_⟩, fun d d1 d2 j => ?_⟩, hrun⟩
  · rw [hA a (by omega) (by omega)]; funext j; simp (disch := omega) only [hP88, hP77, hP66, q_up_ne, q_up_same, q_clr_ne, q_clr_same]
  · rw [(hB a (by omega)).1]; funext j; simp only [q_fill]; rw [if_neg (by omega)]; simp (disch := omega) only [hX88, hX77, hX66, q_up_ne, q_up_same, q_clr_ne, q_clr_same]
  · rw [(hB a (by omega)).2]; funext j; simp (disch := omega) only [hY88, hY77, hY66, q_clr_ne]
  · rw [hA b (by omega) (by omega)]; simp (disch := omega) only [hP88, hP77, hP66, q_up_ne, q_up_same, q_clr_ne, q_clr_same]
  · rw [hA b (by omega) (by omega)]; simp (disch := omega) only [hP88, hP77, hP66, q_up_ne, q_up_same, q_clr_ne, q_clr_same]
  · rw [hA b (by omega) (by omega)]; simp (disch := omega) only [hP88, hP77, hP66, q_up_ne, q_up_same, q_clr_ne, q_clr_same]
  · rw [hA b (by omega) (by omega)]; simp (disch := omega) only [hP88, hP77, hP66, q_up_ne, q_up_same, q_clr_ne, q_clr_same]
  · rw [hA b (by omega) (by omega)]; simp (disch := omega) only [hP88, hP77, hP66, q_up_ne, q_up_same, q_clr_ne, q_clr_same]
  · rw [hA b (by omega) (by omega)]; simp (disch := omega) only [hP88, hP77, hP66, q_up_ne, q_up_same, q_clr_ne, q_clr_same]
  · rw [hA (b + 4) (by omega) (by omega)]; simp (disch := omega) only [hP88, hP77, q_up_ne, q_clr_ne]; assumption
  · rw [hA (b + 4) (by omega) (by omega)]; simp (disch := omega) only [hP88, hP77, q_up_ne, q_clr_ne]; assumption
  · rw [hA (b + 4) (by omega) (by omega)]; simp (disch := omega) only [hP88, hP77, q_up_ne, q_clr_ne]; assumption
  · rw [hA (b + 4) (by omega) (by omega)]; simp (disch := omega) only [hP88, hP77, q_up_ne, q_clr_ne]; assumption
  · rw [hA (b + 4) (by omega) (by omega)]; simp (disch := omega) only [hP88, hP77, q_up_ne, q_clr_ne]; assumption
  · rw [hA (b + 10) (by omega) (by omega)]; simp (disch := omega) only [hP88, q_up_ne, q_clr_ne]; assumption
  · rw [hA (b + 10) (by omega) (by omega)]; simp (disch := omega) only [hP88, q_up_ne, q_clr_ne]; assumption
  · rw [hA (b + 10) (by omega) (by omega)]; simp (disch := omega) only [hP88, q_up_ne, q_clr_ne]; assumption
  · rw [hA (b + 10) (by omega) (by omega)]; simp (disch := omega) only [hP88, q_up_ne, q_clr_ne]; assumption
  · rw [hA (b + 15) (by omega) (by omega)]; simp (disch := omega) only [q_up_ne, q_clr_ne]; assumption
  · rw [hA (b + 15) (by omega) (by omega)]; simp (disch := omega) only [q_up_ne, q_clr_ne]; assumption
  · rw [hA (b + 15) (by omega) (by omega)]; simp (disch := omega) only [q_up_ne, q_clr_ne]; assumption
  · rw [hA (b + 15) (by omega) (by omega)]; simp (disch := omega) only [q_up_ne, q_clr_ne]; assumption
  · unfold xv; rw [(hB b (by omega)).1]; simp only [q_fill]; rw [if_neg (by omega)]; simp (disch := omega) only [hX88, hX77, hX66, q_up_ne, q_up_same, q_clr_ne, q_clr_same]; first | rfl | (rw [hX0]; rfl)
  · unfold xv; rw [(hB b (by omega)).1]; simp only [q_fill]; rw [if_neg (by omega)]; simp (disch := omega) only [hX88, hX77, hX66, q_up_ne, q_up_same, q_clr_ne, q_clr_same]; first | rfl | (rw [hX0]; rfl)
  · unfold xv; rw [(hB b (by omega)).1]; simp only [q_fill]; rw [if_neg (by omega)]; simp (disch := omega) only [hX88, hX77, hX66, q_up_ne, q_up_same, q_clr_ne, q_clr_same]; first | rfl | (rw [hX0]; rfl)
  · unfold xv; rw [(hB b (by omega)).1]; simp only [q_fill]; rw [if_neg (by omega)]; simp (disch := omega) only [hX88, hX77, hX66, q_up_ne, q_up_same, q_clr_ne, q_clr_same]; first | rfl | (rw [hX0]; rfl)
  · unfold xv; rw [(hB b (by omega)).1]; simp only [q_fill]; rw [if_neg (by omega)]; simp (disch := omega) only [hX88, hX77, hX66, q_up_ne, q_up_same, q_clr_ne, q_clr_same]; first | rfl | (rw [hX0]; rfl)
  · unfold xv; rw [(hB b (by omega)).1]; simp only [q_fill]; rw [if_neg (by omega)]; simp (disch := omega) only [hX88, hX77, hX66, q_up_ne, q_up_same, q_clr_ne, q_clr_same]; first | rfl | (rw [hX0]; rfl)
  · unfold xv; rw [(hB b (by omega)).1]; simp only [q_fill]; rw [if_neg (by omega)]; simp (disch := omega) only [hX88, hX77, hX66, q_up_ne, q_up_same, q_clr_ne, q_clr_same]; first | rfl | (rw [hX0]; rfl)
  · unfold xv; rw [(hB b (by omega)).1]; simp only [q_fill]; rw [if_neg (by omega)]; simp (disch := omega) only [hX88, hX77, hX66, q_up_ne, q_up_same, q_clr_ne, q_clr_same]; first | rfl | (rw [hX0]; rfl)
  · unfold xv; rw [(hB (b + 1) (by omega)).1]; simp only [q_fill]; rw [if_pos (by first | exact ⟨rfl, hy⟩ | exact ⟨trivial, hy⟩)]; rfl
  · unfold xv; rw [(hB (b + 2) (by omega)).1]; simp only [q_fill]; rw [if_neg (by first | omega | simp)]; simp (disch := omega) only [hX88, hX77, hX66, q_up_ne, q_up_same, q_clr_ne, q_clr_same]; rfl
  · unfold xv; rw [(hB (b + d) (by omega)).1]; simp only [q_fill]; rw [if_neg (by omega)]
    have hd : d = 4 ∨ d = 5 ∨ d = 6 ∨ d = 7 ∨ d = 8 ∨ d = 9 ∨ d = 10 ∨ d = 11 ∨ d = 12 ∨ d = 13 ∨ d = 14 ∨ d = 15 ∨ d = 16 ∨ d = 17 ∨ d = 18 ∨ d = 19 := by omega
    rcases hd with rfl | rfl | rfl | rfl | rfl | rfl | rfl | rfl | rfl | rfl | rfl | rfl | rfl | rfl | rfl | rfl
    · simp (disch := omega) only [hX88, hX77, q_clr_ne]; rw [kx66_0]; first | rfl | (simp (disch := omega) only [hX88, hX77, hX66, q_up_ne, q_up_same, q_clr_ne, q_clr_same]; rfl)
    · simp (disch := omega) only [hX88, hX77, q_clr_ne]; rw [kx66_1]; first | rfl | (simp (disch := omega) only [hX88, hX77, hX66, q_up_ne, q_up_same, q_clr_ne, q_clr_same]; rfl)
    · simp (disch := omega) only [hX88, hX77, q_clr_ne]; rw [kx66_2]; first | rfl | (simp (disch := omega) only [hX88, hX77, hX66, q_up_ne, q_up_same, q_clr_ne, q_clr_same]; rfl)
    · simp (disch := omega) only [hX88, hX77, q_clr_ne]; rw [kx66_3]; first | rfl | (simp (disch := omega) only [hX88, hX77, hX66, q_up_ne, q_up_same, q_clr_ne, q_clr_same]; rfl)
    · simp (disch := omega) only [hX88, hX77, q_clr_ne]; rw [kx66_4]; first | rfl | (simp (disch := omega) only [hX88, hX77, hX66, q_up_ne, q_up_same, q_clr_ne, q_clr_same]; rfl)
    · simp (disch := omega) only [hX88, hX77, q_clr_ne]; rw [kx66_5]; first | rfl | (simp (disch := omega) only [hX88, hX77, hX66, q_up_ne, q_up_same, q_clr_ne, q_clr_same]; rfl)
    · simp (disch := omega) only [hX88, q_clr_ne]; rw [kx77_0]; first | rfl | (simp (disch := omega) only [hX88, hX77, hX66, q_up_ne, q_up_same, q_clr_ne, q_clr_same]; rfl)
    · simp (disch := omega) only [hX88, q_clr_ne]; rw [kx77_1]; first | rfl | (simp (disch := omega) only [hX88, hX77, hX66, q_up_ne, q_up_same, q_clr_ne, q_clr_same]; rfl)
    · simp (disch := omega) only [hX88, q_clr_ne]; rw [kx77_2]; first | rfl | (simp (disch := omega) only [hX88, hX77, hX66, q_up_ne, q_up_same, q_clr_ne, q_clr_same]; rfl)
    · simp (disch := omega) only [hX88, q_clr_ne]; rw [kx77_3]; first | rfl | (simp (disch := omega) only [hX88, hX77, hX66, q_up_ne, q_up_same, q_clr_ne, q_clr_same]; rfl)
    · simp (disch := omega) only [hX88, q_clr_ne]; rw [kx77_4]; first | rfl | (simp (disch := omega) only [hX88, hX77, hX66, q_up_ne, q_up_same, q_clr_ne, q_clr_same]; rfl)
    · rw [kx88_0]; first | rfl | (simp (disch := omega) only [hX88, hX77, hX66, q_up_ne, q_up_same, q_clr_ne, q_clr_same]; rfl)
    · rw [kx88_1]; first | rfl | (simp (disch := omega) only [hX88, hX77, hX66, q_up_ne, q_up_same, q_clr_ne, q_clr_same]; rfl)
    · rw [kx88_2]; first | rfl | (simp (disch := omega) only [hX88, hX77, hX66, q_up_ne, q_up_same, q_clr_ne, q_clr_same]; rfl)
    · rw [kx88_3]; first | rfl | (simp (disch := omega) only [hX88, hX77, hX66, q_up_ne, q_up_same, q_clr_ne, q_clr_same]; rfl)
    · rw [kx88_4]; first | rfl | (simp (disch := omega) only [hX88, hX77, hX66, q_up_ne, q_up_same, q_clr_ne, q_clr_same]; rfl)
