/-! history and kept: ten places for later books -/
def sl (P : q_P) (i : Nat) : Option Nat := if i < 8 then P 443 i else P 441 (i - 8)
def cntS (P : q_P) : Int := q_sum (fun i => if (sl P i).isSome = true then 1 else 0) 0 10
def MS (n : Nat) (P : q_P) : Prop := (n : Int) = 481 + 220 * cntS P ∧ ∀ i, i < 10 → ∀ a, sl P i = some a → 481 ≤ a ∧ isBk n P a ∧ ∀ j, j < 10 → j ≠ i → ∀ a', sl P j = some a' → a + 220 ≤ a' ∨ a' + 220 ≤ a
theorem cntS_b (P : q_P) : 0 ≤ cntS P ∧ cntS P ≤ 10 := by
  unfold cntS
  refine ⟨q_sum_nn _ _ (fun i _ _ => by split <;> omega), ?_⟩
  have := q_sum_ub (f := fun i => if (sl P i).isSome = true then (1 : Int) else 0) (B := 1) 10 0 (fun i _ _ => by split <;> omega)
  omega
theorem MS.n {n : Nat} {P : q_P} (h : MS n P) : 481 ≤ n ∧ n ≤ 2681 := by have := cntS_b P; have := h.1; omega
theorem MS.pl {n : Nat} {P : q_P} (h : MS n P) : isPl n := by
  have h1 := cntS_b P
  have h2 := h.1
  have := isPl_t (cntS P).toNat
  rw [show 481 + 220 * (cntS P).toNat = n by omega] at this
  exact this
theorem q_sum_upd {f f' : Nat → Int} {x : Nat} : ∀ (k a : Nat), a ≤ x → x < a + k → (∀ i, i ≠ x → f' i = f i) → q_sum f' a k = q_sum f a k - f x + f' x
  | 0, a, h1, h2, _ => by omega
  | k + 1, a, h1, h2, h => by
    rw [q_sum, q_sum]
    by_cases e : a = x
    · subst e
      rw [q_sum_congr (f := f') (h := f) k (a + 1) (fun i i1 _ => h i (by omega))]; omega
    · rw [q_sum_upd k (a + 1) (by omega) (by omega) h, h a e]; omega
/-- a new place is filled -/
theorem MS.add {n : Nat} {P P' : q_P} {x : Nat} (h : MS n P) (hx : x < 10) (h0 : sl P x = none) (h1 : sl P' x = some n) (hs : ∀ i, i ≠ x → sl P' i = sl P i) (hp : ∀ c, c < n → c ≠ 443 → c ≠ 441 → P' c = P c) (hb : isBk (n + 220) P' n) : MS (n + 220) P' := by
  have hc : cntS P' = cntS P + 1 := by
    unfold cntS
    rw [q_sum_upd (x := x) (f := fun i => if (sl P i).isSome = true then (1 : Int) else 0) 10 0 (by omega) (by omega) (fun i hi => by simp only [hs i hi])]
    simp only [h0, h1]; simp
  have hn := h.n
  refine ⟨by have := h.1; omega, fun i hi a ha => ?_⟩
  have hold : ∀ j a', j < 10 → j ≠ x → sl P' j = some a' → sl P j = some a' ∧ 481 ≤ a' ∧ a' + 220 ≤ n := fun j a' hj hjx hja => by
    rw [hs j hjx] at hja
    obtain ⟨h1, h2, -⟩ := h.2 j hj a' hja
    exact ⟨hja, h1, h2.2.2.2.2.2.2.2.2.2.2.1⟩
  by_cases e : i = x
  · subst e
    rw [h1] at ha; cases ha
    refine ⟨hn.1, hb, fun j hj hji a' ha' => ?_⟩
    have := hold j a' hj hji ha'
    omega
  · obtain ⟨o1, o2, o3⟩ := hold i a hi e ha
    obtain ⟨-, b2, b3⟩ := h.2 i hi a o1
    refine ⟨o2, isBk_of b2 (by omega) (fun d hd => hp _ (by omega) (by omega) (by omega)), fun j hj hji a' ha' => ?_⟩
    by_cases ej : j = x
    · subst ej; rw [h1] at ha'; cases ha'; omega
    · exact b3 j hj hji a' (hold j a' hj ej ha').1
theorem D_bk_lt {s d j : Nat} (hs : s ≤ 40) (h : D_bk s d j) : d < 220 := by unfold D_bk D_pro D_mar D_for at h; omega
def bEq (X X' : q_X) (b : Nat) : Prop := ∀ d, d < 220 → X' (b + d) = X (b + d)
theorem bEq.ag {X X' : q_X} {b : Nat} (h : bEq X X' b) : bAg X X' b := fun d hd _ => by funext j; simp only [xv, h d hd]
/-- what a push does: books b are copied into a, the place at next -/
def PU (x : Nat) (b : Nat) (n : Nat) (P : q_P) (X : q_X) (Y : q_Y) (n' : Nat) (P' : q_P) (X' : q_X) (Y' : q_Y) : Prop :=
  ∃ a, P' 443 x = some a ∧ (481 ≤ a ∧ a + 220 ≤ n') ∧ MS n' P' ∧ n ≤ n' ∧ (∀ c, c < n → c ≠ 443 → P' c = P c) ∧ (∀ j, j ≠ x → P' 443 j = P 443 j) ∧ (∀ c, c < n → Y' c = Y c) ∧
  (∀ c j, c < n → ¬ (a ≤ c ∧ c < a + 220) → ¬ (c = 442 ∧ (j = 1 ∨ j = 2)) → X' c j = X c j) ∧ (∀ d j, D_bk (xv X b 10).toNat d j → X' (a + d) j = X (b + d) j) ∧ xv X' 442 1 = ((x : Int) + 1) % 8 ∧ xv X' 442 2 = min 8 (xv X 442 2 + 1)
set_option maxHeartbeats 4000000 in
set_option maxRecDepth 100000 in
theorem tX6_push {l : Launch} {g : q_G} {n : Nat} {P : q_P} {X : q_X} {Y : q_Y} {b x : Nat} (h0 : P 442 0 = some 443) (hS : MS n P) (hb : isBk n P b) (hO : bOk X b) (hb1 : b + 220 ≤ 441) (hx : x < 8) (hx1 : xv X 442 1 = (x : Int)) (hz : 0 ≤ xv X 442 2 ∧ xv X 442 2 ≤ 8) : q_Met l g mX6_push 3 [.ref (g.1 + 442), .ref (g.1 + b)] n P X Y (q_gv (fun n' P' X' Y' => PU x b n P X Y n' P' X' Y')) := by
  obtain ⟨b0, b1, b2, b3, q7, q8, q9, q11, q12, q13, hn, hpro, hmar, hfor, hcs⟩ := id hb
  obtain ⟨o0, o1, o2, o3, o4, o5, o6, o10, oc, op0, opz, opi, om0, omi, olim⟩ := id hO
  have hn9 := hS.n
  have hpl := hS.pl
  refine q_enter (L := [(0, .ref (g.1 + 442)), (1, .ref (g.1 + b))]) (by decide) (Nat.le_of_ble_eq_true rfl) rfl ?_
  refine r_aload_n (i := 0) (pc' := 1) dX6_push_0 rfl rfl (.head _) ?_
  refine r_getR (pc' := 4) dX6_push_1 rfl fX6_11 rfl (by first | assumption | rfl) (by omega) (by assumption) ?_
  refine r_aload_n (i := 0) (pc' := 5) dX6_push_4 rfl rfl (.head _) ?_
  refine r_getI (pc' := 8) dX6_push_5 rfl fX6_15 rfl (by first | assumption | rfl) (by omega) ?_
  rw [hx1]
  rcases hP : P 443 x with _ | a
  · have hsn : sl P x = none := by unfold sl; rw [if_pos (by omega)]; exact hP
    have hq0 : q_sh n = (1, 14) := hpl 0 (by omega)
    refine r_aaload (pc' := 9) (v := .null) dX6_push_8 rfl (by first | assumption | rfl) (by decide) (by omega) (by omega) (by omega) (by first | decide | omega) (Int.toNat_natCast _) (by rw [hP]; rfl) ?_
    refine r_astoreN_n (i := 2) (pc' := 10) dX6_push_9 rfl rfl rfl (.s1 (.s1 .nil rfl rfl rfl) rfl rfl rfl) ?_
    refine r_aloadN_n (i := 2) (pc' := 11) dX6_push_10 rfl rfl (.tail _ (.tail _ (.head _))) ?_
    refine r_ifnonnullN (pc' := 14) dX6_push_11 rfl ?_
    refine r_new (pc' := 17) dX6_push_14 rfl nX6_9 (hpl 0 (by omega)) ?_
    refine r_dup (pc' := 18) dX6_push_17 rfl rfl ?_
    refine r_I0gv (pc' := 21) dX6_push_18 rfl lX6_19 (by decide) (Nat.le_of_ble_eq_true rfl) (tX1_init (b := n) hpl rfl (by funext j; exact q_clr_same _ _ _ _)) (fun n18 P18 X18 Y18 e18 le18 => ?_)
    obtain ⟨rfl, nag, ib, nb⟩ := e18
    have hP1 : ∀ c, c < n → P18 c = P c := fun c hc => by rw [(nag c hc).1]; funext j; exact q_clr_ne _ _ (by omega)
    have hX1 : ∀ c, c < n → X18 c = X c := fun c hc => by rw [(nag c hc).2.1]; funext j; exact q_clr_ne _ _ (by omega)
    have hY1 : ∀ c, c < n → Y18 c = Y c := fun c hc => by rw [(nag c hc).2.2]; funext j; exact q_clr_ne _ _ (by omega)
    have hp0 : P18 442 0 = some 443 := by rw [hP1 442 (by omega)]; exact h0
    have hx2 : xv X18 442 1 = (x : Int) := by unfold xv; rw [hX1 442 (by omega)]; exact hx1
    have hz2 : xv X18 442 2 = xv X 442 2 := by unfold xv; rw [hX1 442 (by omega)]
    have hbe : bEq X X18 b := fun d hd => hX1 _ (by omega)
    have hO1 := bOk_ag hbe.ag hO
    have hib : isBk (n + 220) (q_up P18 443 x (some n)) n := isBk_of ib (Nat.le_refl _) (fun d hd => by funext j; exact q_up_ne _ _ (by omega))
    have hbb : isBk (n + 220) (q_up P18 443 x (some n)) b := isBk_of hb (by omega) (fun d hd => by rw [← hP1 _ (show b + d < n by omega)]; funext j; exact q_up_ne _ _ (by omega))
    refine r_astore_n (i := 2) (pc' := 22) dX6_push_21 rfl rfl rfl (.s1 (.s1 (.here .nil) rfl rfl rfl) rfl rfl rfl) ?_
    refine r_aload_n (i := 0) (pc' := 23) dX6_push_22 rfl rfl (.head _) ?_
    refine r_getR (pc' := 26) dX6_push_23 rfl fX6_11 rfl (by first | assumption | rfl) (by omega) (by assumption) ?_
    refine r_aload_n (i := 0) (pc' := 27) dX6_push_26 rfl rfl (.head _) ?_
    refine r_getI (pc' := 30) dX6_push_27 rfl fX6_15 rfl (by first | assumption | rfl) (by omega) ?_
    rw [hx2]
    refine r_aload_n (i := 2) (pc' := 31) dX6_push_30 rfl rfl (.tail _ (.tail _ (.head _))) ?_
    refine r_aastB (pc' := 32) dX6_push_31 rfl (by first | assumption | rfl) (by omega) (by omega) (by omega) (by first | decide | omega) (Int.toNat_natCast _) (hpl 0 (by omega)) (by omega) ?_
    refine r_aload_n (i := 2) (pc' := 33) dX6_push_32 rfl rfl (.tail _ (.tail _ (.head _))) ?_
    refine r_aload_n (i := 1) (pc' := 34) dX6_push_33 rfl rfl (.tail _ (.head _)) ?_
    refine r_V1gv (ci := 1) (pc' := 37) dX6_push_34 rfl lX6_20 rfl (by decide) (Nat.le_of_ble_eq_true rfl) (by first | assumption | rfl) (by omega) (tX1_copyFrom hib hbb hO1 (Or.inr (by omega))) (fun n34 P34 X34 Y34 e34 le34 => ?_)
    obtain ⟨rfl, rfl, rfl, rfl⟩ := e34
    have hbl : ∀ c j, c < n → q_blk X18 n b (D_bk (xv X18 b 10).toNat) c j = X c j := fun c j hc => by rw [blk_out _ _ _ (by omega), hX1 c hc]
    have e1 : xv (q_blk X18 n b (D_bk (xv X18 b 10).toNat)) 442 1 = (x : Int) := (congrArg Int32.toInt (hbl 442 1 (by omega))).trans hx1
    have e2 : xv (q_blk X18 n b (D_bk (xv X18 b 10).toNat)) 442 2 = xv X 442 2 := congrArg Int32.toInt (hbl 442 2 (by omega))
    refine r_aload_n (i := 0) (pc' := 38) dX6_push_37 rfl rfl (.head _) ?_
    refine r_aload_n (i := 0) (pc' := 39) dX6_push_38 rfl rfl (.head _) ?_
    refine r_getI (pc' := 42) dX6_push_39 rfl fX6_15 rfl (by first | assumption | rfl) (by omega) ?_
    rw [e1]
    refine r_iconst (pc' := 43) dX6_push_42 rfl ?_
    refine r_iadd (pc' := 44) dX6_push_43 rfl ?_
    refine r_bipush (pc' := 46) dX6_push_44 rfl (by decide) ?_
    refine r_irem (pc' := 47) dX6_push_46 rfl (by first | omega | exact xv_in _ _ _) (by first | omega | exact xv_in _ _ _) (by omega) ?_
    rw [Int.tmod_eq_emod_of_nonneg (by omega)]
    refine r_putI (pc' := 50) dX6_push_47 rfl fX6_15 rfl (by first | assumption | rfl) (by omega) rfl rfl ?_
    refine r_aload_n (i := 0) (pc' := 51) dX6_push_50 rfl rfl (.head _) ?_
    refine r_bipush (pc' := 53) dX6_push_51 rfl (by decide) ?_
    refine r_aload_n (i := 0) (pc' := 54) dX6_push_53 rfl rfl (.head _) ?_
    refine r_getI (pc' := 57) dX6_push_54 rfl fX6_24 rfl (by first | assumption | rfl) (by omega) ?_
    rw [xv_up_ne _ _ (by omega), e2]
    refine r_iconst (pc' := 58) dX6_push_57 rfl ?_
    refine r_iadd (pc' := 59) dX6_push_58 rfl ?_
    refine r_min (pc' := 62) dX6_push_59 rfl lX6_27 (by decide) (Nat.le_of_ble_eq_true rfl) (by first | omega | exact xv_in _ _ _) (by first | omega | exact xv_in _ _ _) ?_
    refine r_putI (pc' := 65) dX6_push_62 rfl fX6_24 rfl (by first | assumption | rfl) (by omega) rfl rfl ?_
    refine r_return dX6_push_65 rfl ?_
    have e10 : (xv X18 b 10).toNat = (xv X b 10).toNat := congrArg (fun r : Nat → Int32 => (r 10).toInt.toNat) (hbe 0 (by omega))
    refine ⟨rfl, n, q_up_same _ _ _ _, ⟨by omega, by omega⟩, ?_, by omega, fun c c1 c2 => ?_, fun j hj => ?_, fun c c1 => hY1 c c1, fun c j c1 c2 c3 => ?_, fun d j hd => ?_, ?_, ?_⟩
    · refine hS.add (x := x) (by omega) hsn ?_ (fun i hi => ?_) (fun c c1 c2 c3 => ?_) hib
      · unfold sl; rw [if_pos (by omega), q_up_same]
      · unfold sl
        split
        · rw [q_up_ne _ _ (by omega), hP1 443 (by omega)]
        · rw [q_up_ne _ _ (by omega), hP1 441 (by omega)]
      · rw [← hP1 c c1]; funext j; exact q_up_ne _ _ (by omega)
    · rw [← hP1 c c1]; funext j; exact q_up_ne _ _ (by omega)
    · rw [q_up_ne _ _ (by omega), hP1 443 (by omega)]
    · rw [q_up_ne _ _ (by omega), q_up_ne _ _ (by omega), hbl c j c1]
    · have hdl := D_bk_lt (by omega) hd
      rw [q_up_ne _ _ (by omega), q_up_ne _ _ (by omega), blk_in _ _ _ (by rw [e10]; exact hd), hX1 _ (by omega)]
    · rw [xv_up_ne _ _ (by omega), xv_up_same _ _ _ (by omega)]
    · rw [xv_up_same _ _ _ (by omega)]
  · obtain ⟨ha1, hba, -⟩ := hS.2 x (by omega) a (by unfold sl; rw [if_pos (by omega)]; exact hP)
    have ha2 : a + 220 ≤ n := hba.2.2.2.2.2.2.2.2.2.2.1
    have hsa := hba.1
    refine r_aaload (pc' := 9) (v := .ref (g.1 + a)) dX6_push_8 rfl (by first | assumption | rfl) (by decide) (by omega) (by omega) (by omega) (by first | decide | omega) (Int.toNat_natCast _) (by rw [hP]; rfl) ?_
    refine r_astore_n (i := 2) (pc' := 10) dX6_push_9 rfl rfl rfl (.s1 (.s1 .nil rfl rfl rfl) rfl rfl rfl) ?_
    refine r_aload_n (i := 2) (pc' := 11) dX6_push_10 rfl rfl (.tail _ (.tail _ (.head _))) ?_
    refine r_ifnonnull (t := 32) dX6_push_11 (by decide) ?_
    refine r_aload_n (i := 2) (pc' := 33) dX6_push_32 rfl rfl (.tail _ (.tail _ (.head _))) ?_
    refine r_aload_n (i := 1) (pc' := 34) dX6_push_33 rfl rfl (.tail _ (.head _)) ?_
    refine r_V1gv (ci := 1) (pc' := 37) dX6_push_34 rfl lX6_20 rfl (by decide) (Nat.le_of_ble_eq_true rfl) (by first | assumption | rfl) (by omega) (tX1_copyFrom hba hb hO (Or.inr (by omega))) (fun n34 P34 X34 Y34 e34 le34 => ?_)
    obtain ⟨rfl, rfl, rfl, rfl⟩ := e34
    have hbl : ∀ c j, ¬ (a ≤ c ∧ c < a + 220) → q_blk X a b (D_bk (xv X b 10).toNat) c j = X c j := fun c j hc => blk_out _ _ _ (fun q => by have := D_bk_lt (by omega) q.2; omega)
    have e1 : xv (q_blk X a b (D_bk (xv X b 10).toNat)) 442 1 = (x : Int) := (congrArg Int32.toInt (hbl 442 1 (by omega))).trans hx1
    have e2 : xv (q_blk X a b (D_bk (xv X b 10).toNat)) 442 2 = xv X 442 2 := congrArg Int32.toInt (hbl 442 2 (by omega))
    refine r_aload_n (i := 0) (pc' := 38) dX6_push_37 rfl rfl (.head _) ?_
    refine r_aload_n (i := 0) (pc' := 39) dX6_push_38 rfl rfl (.head _) ?_
    refine r_getI (pc' := 42) dX6_push_39 rfl fX6_15 rfl (by first | assumption | rfl) (by omega) ?_
    rw [e1]
    refine r_iconst (pc' := 43) dX6_push_42 rfl ?_
    refine r_iadd (pc' := 44) dX6_push_43 rfl ?_
    refine r_bipush (pc' := 46) dX6_push_44 rfl (by decide) ?_
    refine r_irem (pc' := 47) dX6_push_46 rfl (by first | omega | exact xv_in _ _ _) (by first | omega | exact xv_in _ _ _) (by omega) ?_
    rw [Int.tmod_eq_emod_of_nonneg (by omega)]
    refine r_putI (pc' := 50) dX6_push_47 rfl fX6_15 rfl (by first | assumption | rfl) (by omega) rfl rfl ?_
    refine r_aload_n (i := 0) (pc' := 51) dX6_push_50 rfl rfl (.head _) ?_
    refine r_bipush (pc' := 53) dX6_push_51 rfl (by decide) ?_
    refine r_aload_n (i := 0) (pc' := 54) dX6_push_53 rfl rfl (.head _) ?_
    refine r_getI (pc' := 57) dX6_push_54 rfl fX6_24 rfl (by first | assumption | rfl) (by omega) ?_
    rw [xv_up_ne _ _ (by omega), e2]
    refine r_iconst (pc' := 58) dX6_push_57 rfl ?_
    refine r_iadd (pc' := 59) dX6_push_58 rfl ?_
    refine r_min (pc' := 62) dX6_push_59 rfl lX6_27 (by decide) (Nat.le_of_ble_eq_true rfl) (by first | omega | exact xv_in _ _ _) (by first | omega | exact xv_in _ _ _) ?_
    refine r_putI (pc' := 65) dX6_push_62 rfl fX6_24 rfl (by first | assumption | rfl) (by omega) rfl rfl ?_
    refine r_return dX6_push_65 rfl ?_
    refine ⟨rfl, a, hP, ⟨ha1, ha2⟩, hS, Nat.le_refl _, fun _ _ _ => rfl, fun _ _ => rfl, fun _ _ => rfl, fun c j c1 c2 c3 => ?_, fun d j hd => ?_, ?_, ?_⟩
    · rw [q_up_ne _ _ (by omega), q_up_ne _ _ (by omega), hbl c j c2]
    · have hdl := D_bk_lt (by omega) hd
      rw [q_up_ne _ _ (by omega), q_up_ne _ _ (by omega), blk_in _ _ _ hd]
    · rw [xv_up_ne _ _ (by omega), xv_up_same _ _ _ (by omega)]
    · rw [xv_up_same _ _ _ (by omega)]
set_option maxHeartbeats 4000000 in
set_option maxRecDepth 100000 in
theorem tX6_pop {l : Launch} {g : q_G} {n : Nat} {P : q_P} {X : q_X} {Y : q_Y} {x : Nat} (h0 : P 442 0 = some 443) (hn9 : 481 ≤ n) (hx : x < 8) (hx1 : xv X 442 1 = (x : Int)) (hz : 0 ≤ xv X 442 2 ∧ xv X 442 2 ≤ 8) (hsm : 1 ≤ xv X 442 2 → ∃ a, P 443 (((x : Int) + 7) % 8).toNat = some a) : q_Met l g mX6_pop 0 [.ref (g.1 + 442)] n P X Y (q_gr g (fun r' n' P' X' Y' => n' = n ∧ P' = P ∧ Y' = Y ∧ (if xv X 442 2 < 1 then X' = X ∧ r' = none else X' = q_up (q_up X 442 2 (zi (xv X 442 2 - 1))) 442 1 (zi (((x : Int) + 7) % 8)) ∧ r' = P 443 (((x : Int) + 7) % 8).toNat))) := by
  refine q_enter (L := [(0, .ref (g.1 + 442))]) (by decide) (Nat.le_of_ble_eq_true rfl) rfl ?_
  refine r_aload_n (i := 0) (pc' := 1) dX6_pop_0 rfl rfl (.head _) ?_
  refine r_getI (pc' := 4) dX6_pop_1 rfl fX6_24 rfl (by first | assumption | rfl) (by omega) ?_
  refine r_iconst (pc' := 5) dX6_pop_4 rfl ?_
  refine r_icmp_ge (t := 10) (f := 8) dX6_pop_5 (by decide) rfl (by first | omega | exact xv_in _ _ _) (by first | omega | exact xv_in _ _ _) (fun h5 => ?_) (fun h5 => ?_)
  · obtain ⟨a, hP⟩ := hsm (by omega)
    refine r_aload_n (i := 0) (pc' := 11) dX6_pop_10 rfl rfl (.head _) ?_
    refine r_dup (pc' := 12) dX6_pop_11 rfl rfl ?_
    refine r_getI (pc' := 15) dX6_pop_12 rfl fX6_24 rfl (by first | assumption | rfl) (by omega) ?_
    refine r_iconst (pc' := 16) dX6_pop_15 rfl ?_
    refine r_isub (pc' := 17) dX6_pop_16 rfl ?_
    refine r_putI (pc' := 20) dX6_pop_17 rfl fX6_24 rfl (by first | assumption | rfl) (by omega) rfl rfl ?_
    refine r_aload_n (i := 0) (pc' := 21) dX6_pop_20 rfl rfl (.head _) ?_
    refine r_aload_n (i := 0) (pc' := 22) dX6_pop_21 rfl rfl (.head _) ?_
    refine r_getI (pc' := 25) dX6_pop_22 rfl fX6_15 rfl (by first | assumption | rfl) (by omega) ?_
    rw [xv_up_ne _ _ (by omega), hx1]
    refine r_bipush (pc' := 27) dX6_pop_25 rfl (by decide) ?_
    refine r_iadd (pc' := 28) dX6_pop_27 rfl ?_
    refine r_iconst (pc' := 29) dX6_pop_28 rfl ?_
    refine r_isub (pc' := 30) dX6_pop_29 rfl ?_
    refine r_bipush (pc' := 32) dX6_pop_30 rfl (by decide) ?_
    refine r_irem (pc' := 33) dX6_pop_32 rfl (by first | omega | exact xv_in _ _ _) (by first | omega | exact xv_in _ _ _) (by omega) ?_
    rw [Int.tmod_eq_emod_of_nonneg (by omega), show ((x : Int) + 8 - 1) % 8 = ((x : Int) + 7) % 8 by omega]
    refine r_putI (pc' := 36) dX6_pop_33 rfl fX6_15 rfl (by first | assumption | rfl) (by omega) rfl rfl ?_
    refine r_aload_n (i := 0) (pc' := 37) dX6_pop_36 rfl rfl (.head _) ?_
    refine r_getR (pc' := 40) dX6_pop_37 rfl fX6_11 rfl (by first | assumption | rfl) (by omega) (by assumption) ?_
    refine r_aload_n (i := 0) (pc' := 41) dX6_pop_40 rfl rfl (.head _) ?_
    refine r_getI (pc' := 44) dX6_pop_41 rfl fX6_15 rfl (by first | assumption | rfl) (by omega) ?_
    rw [xv_up_same _ _ _ (by omega)]
    refine r_aaload (pc' := 45) (v := .ref (g.1 + a)) dX6_pop_44 rfl (by first | assumption | rfl) (by decide) (by omega) (by omega) (by omega) (by first | decide | omega) rfl (by rw [hP]; rfl) ?_
    refine r_areturn (o := some (g.1 + a)) dX6_pop_45 rfl ?_
    exact ⟨some a, rfl, rfl, rfl, rfl, by rw [if_neg (by omega)]; exact ⟨rfl, hP.symm⟩⟩
  · refine r_null (pc' := 9) dX6_pop_8 rfl ?_
    refine r_areturn (o := none) dX6_pop_9 rfl ?_
    exact ⟨none, rfl, rfl, rfl, rfl, by rw [if_pos (by omega)]; exact ⟨rfl, rfl⟩⟩
