/-! texts are read, there and here -/
theorem q_Met.mono {l : Launch} {g : q_G} {y : q_M} {d : Nat} {As : List Value} {n : Nat} {P : q_P} {X : q_X} {Y : q_Y} {K K' : q_K} (hk : ∀ v N P' X' Y', K v N P' X' Y' → K' v N P' X' Y') (h : q_Met l g y d As n P X Y K) : q_Met l g y d As n P X Y K' := by
  obtain ⟨v, N, P', X', Y', h1, h2⟩ := h
  exact ⟨v, N, P', X', Y', hk _ _ _ _ _ h1, h2⟩
/-- at, faultPlace, number alone are changed -/
def vO (X X' : q_X) : Prop := ∀ a j, ¬ (a = 467 ∧ (j = 5 ∨ j = 6 ∨ j = 7)) → X' a j = X a j
theorem vO.rfl {X : q_X} : vO X X := fun _ _ _ => Eq.refl _
theorem vO.trans {X X' X2 : q_X} (h : vO X X') (h2 : vO X' X2) : vO X X2 := fun a j a1 => (h2 a j a1).trans (h a j a1)
theorem vO.up {X X' : q_X} (h : vO X X') {j : Nat} {v : Int32} (hj : j = 5 ∨ j = 6 ∨ j = 7) : vO X (q_up X' 467 j v) := fun a q a1 => by rw [q_up_ne _ _ (by omega)]; exact h a q a1
theorem vO.v {X X' : q_X} (h : vO X X') {a : Nat} (ha : a ≠ 467) : xv X' a = xv X a := by funext j; simp only [xv]; rw [h a j (by omega)]
theorem vO.v4 {X X' : q_X} (h : vO X X') : xv X' 467 4 = xv X 467 4 := by simp only [xv]; rw [h 467 4 (by omega)]
/-- row NOW, too -/
def uO (X X' : q_X) : Prop := ∀ a j, ¬ (a = 467 ∧ (j = 5 ∨ j = 6 ∨ j = 7)) → ¬ (a = 468 ∧ j < 3740) → X' a j = X a j
theorem uO.rfl {X : q_X} : uO X X := fun _ _ _ _ => Eq.refl _
theorem uO.trans {X X' X2 : q_X} (h : uO X X') (h2 : uO X' X2) : uO X X2 := fun a j a1 a2 => (h2 a j a1 a2).trans (h a j a1 a2)
theorem vO.u {X X' : q_X} (h : vO X X') : uO X X' := fun a j a1 _ => h a j a1
theorem uO.up {X X' : q_X} (h : uO X X') {j : Nat} {v : Int32} (hj : j < 3740) : uO X (q_up X' 468 j v) := fun a q a1 a2 => by rw [q_up_ne _ _ (by omega)]; exact h a q a1 a2
theorem uO.x {X X' : q_X} (h : uO X X') {j : Nat} {v : Int32} (hj : j = 5 ∨ j = 6 ∨ j = 7) : uO X (q_up X' 467 j v) := fun a q a1 a2 => by rw [q_up_ne _ _ (by omega)]; exact h a q a1 a2
theorem rd_cg {C C' : q_X} (h5 : xv C' 445 = xv C 445) (h6 : xv C' 446 = xv C 446) (a : Int) : rd C' a = rd C a := by unfold rd b_at; rw [h5, h6]
/-- no fault till now -/
def tR (C X : q_X) : Prop := rOk C ∧ xv C 444 2 = -1 ∧ xv X 467 6 = -1 ∧ xv X 467 5 = xv C 444 1 ∧ tS C X (xv C 445 1)
/-- a fault -/
def tF (C X : q_X) : Prop := xv C 444 2 ≠ -1 ∧ xv X 467 6 = xv C 444 2
theorem tS.cg {C C' X X' : q_X} {m : Int} (h : tS C X m) (h5 : xv C' 445 = xv C 445) (h6 : xv C' 446 = xv C 446) (h4 : xv X' 467 4 = xv X 467 4) (h7 : xv X' 470 = xv X 470) : tS C' X' m := by
  unfold tS at h ⊢; rw [h5, h6, h4, h7]; exact h
theorem tR.cg {C C' X : q_X} (h : tR C X) (h4 : xv C' 444 = xv C 444) (h5 : xv C' 445 = xv C 445) (h6 : xv C' 446 = xv C 446) : tR C' X := by
  obtain ⟨a1, a2, a3, a4, a5⟩ := h
  exact ⟨a1.of h4 h5, by rw [h4]; exact a2, a3, by rw [h4]; exact a4, by rw [h5]; exact a5.cg h5 h6 (Eq.refl _) (Eq.refl _)⟩
theorem tR.x {C X X' : q_X} (h : tR C X) (h7 : xv X' 467 = xv X 467) (h0 : xv X' 470 = xv X 470) : tR C X' := by
  obtain ⟨a1, a2, a3, a4, a5⟩ := h
  exact ⟨a1, a2, by rw [h7]; exact a3, by rw [h7]; exact a4, a5.cg (Eq.refl _) (Eq.refl _) (by rw [h7]) h0⟩
theorem tR.up {C X : q_X} (h : tR C X) (j : Nat) (v : Int32) : tR C (q_up X 468 j v) := h.x (xv_up_row _ _ _ (by omega)) (xv_up_row _ _ _ (by omega))
theorem tF.x {C X X' : q_X} (h : tF C X) (h7 : xv X' 467 = xv X 467) : tF C X' := by unfold tF at h ⊢; rw [h7]; exact h
theorem tF.cg {C C' X : q_X} (h : tF C X) (h4 : xv C' 444 2 = xv C 444 2) : tF C' X := by unfold tF at h ⊢; rw [h4]; exact h
theorem tF.exp {C X : q_X} (h : tF C X) (c : Int) : tF (rd_exp C c) X := h.cg (by unfold rd_exp; rw [if_neg h.1])
theorem tF.num {C X : q_X} (h : tF C X) (lo hi : Int) : tF (rd_numX C lo hi) X := h.cg (by unfold rd_numX; rw [if_neg h.1])
theorem tF.N {C X : q_X} (h : tF C X) (lo hi : Int) : tF (rdN C lo hi) X := (h.num lo hi).exp 44
theorem tF.skip {C X : q_X} (h : tF C X) : tF (rd_skip C) X := h.cg (by unfold rd_skip; rw [if_neg h.1])
theorem tF.up {C X : q_X} (h : tF C X) {a : Nat} (ha : a ≠ 444) (j : Nat) (v : Int32) : tF (q_up C a j v) X := h.cg (by rw [xv_up_ne _ _ (by omega)])
theorem tR.h {C X : q_X} (h : tR C X) : mRd X (xv X 467 5) = rd C (xv C 444 1) := by
  have a1 := h.1
  unfold rOk at a1
  rw [h.2.2.2.1, h.2.2.2.2.r (by omega)]
theorem tR.a {C X : q_X} (h : tR C X) : 0 ≤ xv X 467 5 ∧ xv X 467 5 ≤ 500 ∧ xv X 467 4 ≤ 500 ∧ 0 ≤ xv X 467 4 := by
  have a1 := h.1
  unfold rOk at a1
  have a4 := h.2.2.2.1
  have a5 := h.2.2.2.2.2.2.1
  omega
theorem tR.skip {C X : q_X} (h : tR C X) (hl : xv C 444 1 < xv C 445 1) : tR (rd_skip C) (q_up X 467 5 (zi (xv X 467 5 + 1))) := by
  obtain ⟨a1, a2, a3, a4, a5⟩ := h
  have b1 := a1
  unfold rOk at b1
  have e : rd_skip C = q_up C 444 1 (zi (xv C 444 1 + 1)) := by unfold rd_skip; rw [if_pos a2]
  refine ⟨a1.skip hl, ?_, ?_, ?_, ?_⟩
  · rw [e, xv_up_ne _ _ (by omega)]; exact a2
  · rw [xv_up_ne _ _ (by omega)]; exact a3
  · rw [e, xv_up_same _ _ _ (by omega), xv_up_same _ _ _ (by omega), a4]
  · rw [rd_skip_o (by omega)]
    exact a5.cg (rd_skip_o (by omega)) (rd_skip_o (by omega)) (xv_up_ne _ _ (by omega)) (xv_up_row _ _ _ (by omega))
theorem tR.fail {C X : q_X} (h : tR C X) {z : Int} (hz : 0 ≤ z ∧ z ≤ 500) : tF (rd_fail C z) (q_up X 467 6 (zi z)) := by
  unfold tF
  rw [rd_fail_eq h.2.1, xv_up_same _ _ _ (by omega), xv_up_same _ _ _ (by omega)]
  exact ⟨by omega, (Eq.refl _)⟩
theorem tR.exp1 {C X : q_X} {c : Int} (h : tR C X) (hc : c ≠ -1) (e : mRd X (xv X 467 5) = c) : tR (rd_exp C c) (q_up X 467 5 (zi (xv X 467 5 + 1))) := by
  rw [h.h] at e
  have hl := rd_lt (X := C) (a := xv C 444 1) (by rw [e]; exact hc)
  have q := h.skip hl.1
  have e2 : rd_exp C c = rd_skip C := by unfold rd_exp rd_skip; rw [if_pos h.2.1, if_pos e, if_pos h.2.1]
  rw [e2]; exact q
theorem tR.exp0 {C X : q_X} {c : Int} (h : tR C X) (e : ¬ mRd X (xv X 467 5) = c) : tF (rd_exp C c) (q_up X 467 6 (zi (xv X 467 5))) := by
  rw [h.h] at e
  have ha := h.a
  have q := h.fail (z := xv X 467 5) (by omega)
  have e2 : rd_exp C c = rd_fail C (xv X 467 5) := by unfold rd_exp rd_fail; rw [if_pos h.2.1, if_neg e, if_pos h.2.1, h.2.2.2.1]
  rw [e2]; exact q
set_option maxHeartbeats 4000000 in
set_option maxRecDepth 100000 in
theorem tT_takes {l : Launch} {g : q_G} {n : Nat} {P : q_P} {X : q_X} {Y : q_Y} (hm : isMod n P) {C : q_X} (hR : tR C X) {c : Int} (hc : q_in c) (hc1 : c ≠ -1) : q_Met l g mX12_takes 1 [.ref (g.1 + 467), .int (zi c)] n P X Y (q_gi (fun r' n' P' X' Y' => n' = n ∧ P' = P ∧ Y' = Y ∧ ((r' = 1 ∧ vO X X' ∧ tR (rd_exp C c) X') ∨ (r' = 0 ∧ vO X X' ∧ tF (rd_exp C c) X')))) := by
  have ha := hR.a
  refine q_Met.mono (fun v N P' X' Y' h => ?_) (tX12_takes (l := l) (g := g) (n := n) (P := P) (X := X) (Y := Y) hm (by omega) (by omega) hc)
  obtain ⟨r, e1, e2, e3, e4, e5⟩ := h
  refine ⟨r, e1, e2, e3, e4, ?_⟩
  split at e5
  · rename_i q
    rw [e5.1, e5.2]
    exact Or.inl ⟨(Eq.refl _), vO.rfl.up (by omega), hR.exp1 hc1 q⟩
  · rename_i q
    rw [e5.1, e5.2]
    exact Or.inr ⟨(Eq.refl _), vO.rfl.up (by omega), hR.exp0 q⟩
set_option maxHeartbeats 4000000 in
set_option maxRecDepth 100000 in
theorem lX12_readNumber {l : Launch} {g : q_G} {n : Nat} {P : q_P} {Y : q_Y} (hm : isMod n P) {C X0 : q_X} {lo hi a0 : Int} (ha0 : 0 ≤ a0 ∧ a0 ≤ 500) (hS : tS C X0 (xv C 445 1)) {K : q_K} (kk : ∀ X, vO X0 X → xv X 467 6 = xv X0 467 6 → xv X 467 5 = (p_dig (rd C) 6 a0 0).1 → xv X 467 7 = (p_dig (rd C) 6 a0 0).2 → q_Tr l g mX12_readNumber 1 K 63 [(0, .ref (g.1 + 467)), (1, .int (zi lo)), (2, .int (zi hi)), (3, .int (zi a0))] [] n P X Y) : ∀ (k : Nat) (a v : Int) (X : q_X), a - a0 = 6 - k → k ≤ 6 → vO X0 X → xv X 467 6 = xv X0 467 6 → xv X 467 5 = a → xv X 467 7 = v → p_dig (rd C) k a v = (p_dig (rd C) 6 a0 0) → (0 ≤ v ∧ v < 10 ^ (6 - k)) → q_Tr l g mX12_readNumber 1 K 10 [(0, .ref (g.1 + 467)), (1, .int (zi lo)), (2, .int (zi hi)), (3, .int (zi a0))] [] n P X Y := by
  obtain ⟨m0, m2, m3, m8, m9, m14, m15, m16, m17, m18, m20, m22, m25, hnm9⟩ := id hm
  have hs0 := hS.1
  have hs4 := hS.2.2.1
  intro k
  induction k with
  | zero =>
    intro a v X ha hk ho h6 h5 h7 hp hv
    have h4 := ho.v4
    have hS2 : tS C X (xv C 445 1) := hS.cg (Eq.refl _) (Eq.refl _) h4 (ho.v (by omega))
    have hh : mRd X (xv X 467 5) = rd C a := by rw [h5]; exact hS2.r (by omega)
    have kk := kk X ho h6
    rw [← hp] at kk
    have kk := kk h5 h7
    refine r_aload_n (i := 0) (pc' := 11) dX12_readNumber_10 rfl rfl (.head _) ?_
    refine r_V0p (ci := 12) (pc' := 14) dX12_readNumber_11 rfl lX12_85 rfl (by decide) (Nat.le_of_ble_eq_true rfl) (by first | assumption | rfl) (by omega) (tX12_here hm (by omega) (by omega)) ?_
    rw [hh]
    refine r_S1p (pc' := 17) dX12_readNumber_14 rfl lX12_96 (by decide) (Nat.le_of_ble_eq_true rfl) (tX12_isFigure (rd_in _ _)) ?_
    refine r_bif_eq (t := 63) (f := 20) dX12_readNumber_17 (by decide) rfl (fun h17 => ?_) (fun h17 => ?_)
    · exact kk
    · refine r_aload_n (i := 0) (pc' := 21) dX12_readNumber_20 rfl rfl (.head _) ?_
      refine r_getI (pc' := 24) dX12_readNumber_21 rfl fX12_82 rfl (by first | assumption | rfl) (by omega) ?_
      rw [h5]
      refine r_iload_n (i := 3) (pc' := 25) dX12_readNumber_24 rfl rfl (.tail _ (.tail _ (.tail _ (.head _)))) ?_
      refine r_isub (pc' := 26) dX12_readNumber_25 rfl ?_
      refine r_bipush (pc' := 28) dX12_readNumber_26 rfl (by decide) ?_
      refine r_icmp_ge (t := 63) (f := 31) dX12_readNumber_28 (by decide) rfl (by first | omega | exact xv_in _ _ _) (by first | omega | exact xv_in _ _ _) (fun h28 => ?_) (fun h28 => ?_)
      · exact kk
      · exfalso; omega
  | succ k ih =>
    intro a v X ha hk ho h6 h5 h7 hp hv
    have h4 := ho.v4
    have hS2 : tS C X (xv C 445 1) := hS.cg (Eq.refl _) (Eq.refl _) h4 (ho.v (by omega))
    have hh : mRd X (xv X 467 5) = rd C a := by rw [h5]; exact hS2.r (by omega)
    have hq : (10 : Int) ^ (6 - k) = 10 * 10 ^ (6 - (k + 1)) := by rw [show 6 - k = (6 - (k + 1)) + 1 by omega, Int.pow_succ]; omega
    have hm6 : (10 : Int) ^ (6 - (k + 1)) ≤ 10 ^ 5 := by
      have : k = 0 ∨ k = 1 ∨ k = 2 ∨ k = 3 ∨ k = 4 ∨ k = 5 := by omega
      rcases this with e | e | e | e | e | e <;> subst e <;> decide
    rw [p_dig] at hp
    refine r_aload_n (i := 0) (pc' := 11) dX12_readNumber_10 rfl rfl (.head _) ?_
    refine r_V0p (ci := 12) (pc' := 14) dX12_readNumber_11 rfl lX12_85 rfl (by decide) (Nat.le_of_ble_eq_true rfl) (by first | assumption | rfl) (by omega) (tX12_here hm (by omega) (by omega)) ?_
    rw [hh]
    refine r_S1p (pc' := 17) dX12_readNumber_14 rfl lX12_96 (by decide) (Nat.le_of_ble_eq_true rfl) (tX12_isFigure (rd_in _ _)) ?_
    refine r_bif_eq (t := 63) (f := 20) dX12_readNumber_17 (by decide) rfl (fun h17 => ?_) (fun h17 => ?_)
    · rw [if_neg (by omega)] at hp
      have kk := kk X ho h6
      rw [← hp] at kk
      exact kk h5 h7
    · refine r_aload_n (i := 0) (pc' := 21) dX12_readNumber_20 rfl rfl (.head _) ?_
      refine r_getI (pc' := 24) dX12_readNumber_21 rfl fX12_82 rfl (by first | assumption | rfl) (by omega) ?_
      rw [h5]
      refine r_iload_n (i := 3) (pc' := 25) dX12_readNumber_24 rfl rfl (.tail _ (.tail _ (.tail _ (.head _)))) ?_
      refine r_isub (pc' := 26) dX12_readNumber_25 rfl ?_
      refine r_bipush (pc' := 28) dX12_readNumber_26 rfl (by decide) ?_
      refine r_icmp_ge (t := 63) (f := 31) dX12_readNumber_28 (by decide) rfl (by first | omega | exact xv_in _ _ _) (by first | omega | exact xv_in _ _ _) (fun h28 => ?_) (fun h28 => ?_)
      · exfalso; omega
      · refine r_aload_n (i := 0) (pc' := 32) dX12_readNumber_31 rfl rfl (.head _) ?_
        refine r_bipush (pc' := 34) dX12_readNumber_32 rfl (by decide) ?_
        refine r_aload_n (i := 0) (pc' := 35) dX12_readNumber_34 rfl rfl (.head _) ?_
        refine r_getI (pc' := 38) dX12_readNumber_35 rfl fX12_93 rfl (by first | assumption | rfl) (by omega) ?_
        rw [h7]
        refine r_imul (pc' := 39) dX12_readNumber_38 rfl ?_
        refine r_aload_n (i := 0) (pc' := 40) dX12_readNumber_39 rfl rfl (.head _) ?_
        refine r_V0p (ci := 12) (pc' := 43) dX12_readNumber_40 rfl lX12_85 rfl (by decide) (Nat.le_of_ble_eq_true rfl) (by first | assumption | rfl) (by omega) (tX12_here hm (by omega) (by omega)) ?_
        rw [hh]
        refine r_iadd (pc' := 44) dX12_readNumber_43 rfl ?_
        refine r_bipush (pc' := 46) dX12_readNumber_44 rfl (by decide) ?_
        refine r_isub (pc' := 47) dX12_readNumber_46 rfl ?_
        refine r_putI (pc' := 50) dX12_readNumber_47 rfl fX12_93 rfl (by first | assumption | rfl) (by omega) rfl rfl ?_
        refine r_aload_n (i := 0) (pc' := 51) dX12_readNumber_50 rfl rfl (.head _) ?_
        refine r_dup (pc' := 52) dX12_readNumber_51 rfl rfl ?_
        refine r_getI (pc' := 55) dX12_readNumber_52 rfl fX12_82 rfl (by first | assumption | rfl) (by omega) ?_
        rw [xv_up_ne _ _ (by omega), h5]
        refine r_iconst (pc' := 56) dX12_readNumber_55 rfl ?_
        refine r_iadd (pc' := 57) dX12_readNumber_56 rfl ?_
        refine r_putI (pc' := 60) dX12_readNumber_57 rfl fX12_82 rfl (by first | assumption | rfl) (by omega) rfl rfl ?_
        refine r_goto (t := 10) dX12_readNumber_60 (by decide) ?_
        rw [if_pos (by omega)] at hp
        refine ih (a + 1) (v * 10 + rd C a - 48) _ (by omega) (by omega) ((ho.up (by omega)).up (by omega)) ?_ ?_ ?_ hp (by omega)
        · rw [xv_up_ne _ _ (by omega), xv_up_ne _ _ (by omega)]; exact h6
        · rw [xv_up_same _ _ _ (by omega)]
        · rw [xv_up_ne _ _ (by omega), xv_up_same _ _ _ (by omega)]; omega
theorem rn_at {C X : q_X} (h : tR C X) : xv C 444 1 ≤ (p_dig (rd C) 6 (xv C 444 1) 0).1 ∧ (p_dig (rd C) 6 (xv C 444 1) 0).1 ≤ xv C 445 1 ∧ 0 ≤ (p_dig (rd C) 6 (xv C 444 1) 0).2 ∧ (p_dig (rd C) 6 (xv C 444 1) 0).2 ≤ 999999 := by
  have h1 := p_dig_6 (rd C) (xv C 444 1)
  have h2 := p_dig_le (t := rd C) (s := xv C 445 1) (fun a ha => (rd_lt (X := C) (a := a) (by unfold isDig at ha; omega)).1) 6 (xv C 444 1) 0 h.1.2.1
  omega
theorem rn_ok {C X X' : q_X} {lo hi : Int} (h : tR C X) (ho : vO X X') (h5 : xv X' 467 5 = (p_dig (rd C) 6 (xv C 444 1) 0).1) (h6 : xv X' 467 6 = xv X 467 6) (h7 : xv X' 467 7 = (p_dig (rd C) 6 (xv C 444 1) 0).2) (hb : ¬ ((p_dig (rd C) 6 (xv C 444 1) 0).1 = xv C 444 1 ∨ isDig (rd C (p_dig (rd C) 6 (xv C 444 1) 0).1))) (hg : lo ≤ (p_dig (rd C) 6 (xv C 444 1) 0).2 ∧ (p_dig (rd C) 6 (xv C 444 1) 0).2 ≤ hi) : tR (rd_numX C lo hi) X' ∧ xv X' 467 7 = rd_numV C lo hi ∧ lo ≤ rd_numV C lo hi ∧ rd_numV C lo hi ≤ hi := by
  have hat := rn_at h
  obtain ⟨a1, a2, a3, a4, a5⟩ := id h
  have b1 := a1
  unfold rOk at b1
  have eX : rd_numX C lo hi = q_up C 444 1 (zi (p_dig (rd C) 6 (xv C 444 1) 0).1) := by unfold rd_numX; rw [if_pos a2, if_neg hb, if_pos hg]
  have eV : rd_numV C lo hi = (p_dig (rd C) 6 (xv C 444 1) 0).2 := by unfold rd_numV; rw [if_pos ⟨a2, hb, hg⟩]
  refine ⟨⟨a1.num lo hi, ?_, by rw [h6]; exact a3, ?_, ?_⟩, by rw [eV, h7], by rw [eV]; exact hg.1, by rw [eV]; exact hg.2⟩
  · rw [eX, xv_up_ne _ _ (by omega)]; exact a2
  · rw [eX, h5, xv_up_same _ _ _ (by omega)]
  · rw [rd_num_o (by omega)]
    exact a5.cg (rd_num_o (by omega)) (rd_num_o (by omega)) ho.v4 (ho.v (by omega))
theorem rn_no {C X X' : q_X} {lo hi : Int} (h : tR C X) (hb : ¬ ((p_dig (rd C) 6 (xv C 444 1) 0).1 = xv C 444 1 ∨ isDig (rd C (p_dig (rd C) 6 (xv C 444 1) 0).1))) (hg : ¬ (lo ≤ (p_dig (rd C) 6 (xv C 444 1) 0).2 ∧ (p_dig (rd C) 6 (xv C 444 1) 0).2 ≤ hi)) : tF (rd_numX C lo hi) (q_up X' 467 6 (zi (xv C 444 1))) := by
  obtain ⟨a1, a2, a3, a4, a5⟩ := id h
  unfold rOk at a1
  have eX : rd_numX C lo hi = q_up (q_up C 444 1 (zi (p_dig (rd C) 6 (xv C 444 1) 0).1)) 444 2 (zi (xv C 444 1)) := by unfold rd_numX; rw [if_pos a2, if_neg hb, if_neg hg]
  unfold tF
  rw [eX, xv_up_same _ _ _ (by omega), xv_up_same _ _ _ (by omega)]
  exact ⟨by omega, (Eq.refl _)⟩
theorem rn_bad {C X X' : q_X} {lo hi : Int} (h : tR C X) (hb : (p_dig (rd C) 6 (xv C 444 1) 0).1 = xv C 444 1 ∨ isDig (rd C (p_dig (rd C) 6 (xv C 444 1) 0).1)) : tF (rd_numX C lo hi) (q_up X' 467 6 (zi (p_dig (rd C) 6 (xv C 444 1) 0).1)) := by
  have hat := rn_at h
  obtain ⟨a1, a2, a3, a4, a5⟩ := id h
  unfold rOk at a1
  have eX : rd_numX C lo hi = q_up (q_up C 444 1 (zi (p_dig (rd C) 6 (xv C 444 1) 0).1)) 444 2 (zi (p_dig (rd C) 6 (xv C 444 1) 0).1) := by unfold rd_numX; rw [if_pos a2, if_pos hb]
  unfold tF
  rw [eX, xv_up_same _ _ _ (by omega), xv_up_same _ _ _ (by omega)]
  exact ⟨by omega, (Eq.refl _)⟩
set_option maxHeartbeats 4000000 in
set_option maxRecDepth 100000 in
theorem tX12_readNumber {l : Launch} {g : q_G} {n : Nat} {P : q_P} {X : q_X} {Y : q_Y} (hm : isMod n P) {C : q_X} (hR : tR C X) {lo hi : Int} (hlo : q_in lo) (hhi : q_in hi) : q_Met l g mX12_readNumber 1 [.ref (g.1 + 467), .int (zi lo), .int (zi hi)] n P X Y (q_gi (fun r' n' P' X' Y' => n' = n ∧ P' = P ∧ Y' = Y ∧ ((r' = 1 ∧ vO X X' ∧ tR (rd_numX C lo hi) X' ∧ xv X' 467 7 = rd_numV C lo hi ∧ lo ≤ rd_numV C lo hi ∧ rd_numV C lo hi ≤ hi) ∨ (r' = 0 ∧ vO X X' ∧ tF (rd_numX C lo hi) X')))) := by
  obtain ⟨m0, m2, m3, m8, m9, m14, m15, m16, m17, m18, m20, m22, m25, hnm9⟩ := id hm
  have hra := hR.a
  refine q_enter (L := [(0, .ref (g.1 + 467)), (1, .int (zi lo)), (2, .int (zi hi))]) (by decide) (Nat.le_of_ble_eq_true rfl) rfl ?_
  refine r_aload_n (i := 0) (pc' := 1) dX12_readNumber_0 rfl rfl (.head _) ?_
  refine r_getI (pc' := 4) dX12_readNumber_1 rfl fX12_82 rfl (by first | assumption | rfl) (by omega) ?_
  rw [hR.2.2.2.1]
  refine r_istore_n (i := 3) (pc' := 5) dX12_readNumber_4 rfl rfl rfl (.s1 (.s1 (.s1 .nil rfl rfl rfl) rfl rfl rfl) rfl rfl rfl) ?_
  refine r_aload_n (i := 0) (pc' := 6) dX12_readNumber_5 rfl rfl (.head _) ?_
  refine r_iconst (pc' := 7) dX12_readNumber_6 rfl ?_
  refine r_putI (pc' := 10) dX12_readNumber_7 rfl fX12_93 rfl (by first | assumption | rfl) (by omega) rfl rfl ?_
  have hat := rn_at hR
  have h02 := hR.1
  unfold rOk at h02
  refine lX12_readNumber (X0 := X) (C := C) hm (by omega) hR.2.2.2.2 (fun X' ho h6 h5 h7 => ?_) 6 (xv C 444 1) 0 _ (by omega) (by omega) (vO.rfl.up (by omega)) (xv_up_ne _ _ (by omega)) (by rw [xv_up_ne _ _ (by omega)]; exact hR.2.2.2.1) (by rw [xv_up_same _ _ _ (by omega)]) (Eq.refl _) (by omega)
  have ha4 := ho.v4
  have hS2 : tS C X' (xv C 445 1) := hR.2.2.2.2.cg (Eq.refl _) (Eq.refl _) ha4 (ho.v (by omega))
  have hs4 := hS2.2.2.1
  have hs0 := hS2.1
  have hh : mRd X' (xv X' 467 5) = rd C (p_dig (rd C) 6 (xv C 444 1) 0).1 := by rw [h5]; exact hS2.r (by omega)
  refine r_aload_n (i := 0) (pc' := 64) dX12_readNumber_63 rfl rfl (.head _) ?_
  refine r_getI (pc' := 67) dX12_readNumber_64 rfl fX12_82 rfl (by first | assumption | rfl) (by omega) ?_
  rw [h5]
  refine r_iload_n (i := 3) (pc' := 68) dX12_readNumber_67 rfl rfl (.tail _ (.tail _ (.tail _ (.head _)))) ?_
  refine r_icmp_eq (t := 81) (f := 71) dX12_readNumber_68 (by decide) rfl (by first | omega | exact xv_in _ _ _) (by first | omega | exact xv_in _ _ _) (fun h68 => ?_) (fun h68 => ?_)
  · refine r_aload_n (i := 0) (pc' := 82) dX12_readNumber_81 rfl rfl (.head _) ?_
    refine r_aload_n (i := 0) (pc' := 83) dX12_readNumber_82 rfl rfl (.head _) ?_
    refine r_getI (pc' := 86) dX12_readNumber_83 rfl fX12_82 rfl (by first | assumption | rfl) (by omega) ?_
    rw [h5]
    refine r_V1gi (ci := 12) (pc' := 89) dX12_readNumber_86 rfl lX12_89 rfl (by decide) (Nat.le_of_ble_eq_true rfl) (by first | assumption | rfl) (by omega) (tX12_fails hm) (fun r86 n86 P86 X86 Y86 e86 le86 => ?_)
    obtain ⟨h1v, h2v, h3v, h4v, hr86⟩ := e86
    subst h1v h2v h3v h4v hr86
    refine r_zreturn dX12_readNumber_89 rfl (by first | decide | (split <;> omega) | omega) ?_
    refine ⟨_, (Eq.refl _), (Eq.refl _), (Eq.refl _), (Eq.refl _), ?_⟩
    first
      | (have hb : ¬ ((p_dig (rd C) 6 (xv C 444 1) 0).1 = xv C 444 1 ∨ isDig (rd C (p_dig (rd C) 6 (xv C 444 1) 0).1)) := by omega
         have hg : lo ≤ (p_dig (rd C) 6 (xv C 444 1) 0).2 ∧ (p_dig (rd C) 6 (xv C 444 1) 0).2 ≤ hi := by omega
         exact Or.inl ⟨(Eq.refl _), ho, rn_ok hR ho h5 h6 h7 hb hg⟩)
      | (have hb : ¬ ((p_dig (rd C) 6 (xv C 444 1) 0).1 = xv C 444 1 ∨ isDig (rd C (p_dig (rd C) 6 (xv C 444 1) 0).1)) := by omega
         have hg : ¬ (lo ≤ (p_dig (rd C) 6 (xv C 444 1) 0).2 ∧ (p_dig (rd C) 6 (xv C 444 1) 0).2 ≤ hi) := by omega
         exact Or.inr ⟨(Eq.refl _), ho.up (by omega), rn_no hR hb hg⟩)
      | (have hb : (p_dig (rd C) 6 (xv C 444 1) 0).1 = xv C 444 1 ∨ isDig (rd C (p_dig (rd C) 6 (xv C 444 1) 0).1) := by omega
         exact Or.inr ⟨(Eq.refl _), ho.up (by omega), rn_bad hR hb⟩)
  · refine r_aload_n (i := 0) (pc' := 72) dX12_readNumber_71 rfl rfl (.head _) ?_
    refine r_V0p (ci := 12) (pc' := 75) dX12_readNumber_72 rfl lX12_85 rfl (by decide) (Nat.le_of_ble_eq_true rfl) (by first | assumption | rfl) (by omega) (tX12_here hm (by omega) (by omega)) ?_
    rw [hh]
    refine r_S1p (pc' := 78) dX12_readNumber_75 rfl lX12_96 (by decide) (Nat.le_of_ble_eq_true rfl) (tX12_isFigure (rd_in _ _)) ?_
    refine r_bif_eq (t := 90) (f := 81) dX12_readNumber_78 (by decide) rfl (fun h78 => ?_) (fun h78 => ?_)
    · refine r_aload_n (i := 0) (pc' := 91) dX12_readNumber_90 rfl rfl (.head _) ?_
      refine r_getI (pc' := 94) dX12_readNumber_91 rfl fX12_93 rfl (by first | assumption | rfl) (by omega) ?_
      rw [h7]
      refine r_i2l (pc' := 95) dX12_readNumber_94 rfl rfl ?_
      refine r_iload_n (i := 1) (pc' := 96) dX12_readNumber_95 rfl rfl (.tail _ (.head _)) ?_
      refine r_i2l (pc' := 97) dX12_readNumber_96 rfl rfl ?_
      refine r_iload_n (i := 2) (pc' := 98) dX12_readNumber_97 rfl rfl (.tail _ (.tail _ (.head _))) ?_
      refine r_i2l (pc' := 99) dX12_readNumber_98 rfl rfl ?_
      refine r_S3p (pc' := 102) dX12_readNumber_99 rfl lX12_68 (by decide) (Nat.le_of_ble_eq_true rfl) (tX12_isIn (by first | exact li_z (by omega) | exact li_z (xv_in _ _ _) | rfl) (by first | exact li_z (by omega) | exact li_z (xv_in _ _ _) | rfl) (by first | exact li_z (by omega) | exact li_z (xv_in _ _ _) | rfl)) ?_
      try simp only [i64_0, i64_1, i64_2, i64_3, i64_4, i64_5, i64_6, i64_7, i64_10, i64_19, i64_40, i64_100, i64_364, i64_9999, i64_99999, i64_999999, i64_m999999]
      refine r_bif_ne (t := 113) (f := 105) dX12_readNumber_102 (by decide) rfl (fun h102 => ?_) (fun h102 => ?_)
      · refine r_iconst (pc' := 114) dX12_readNumber_113 rfl ?_
        refine r_goto (t := 118) dX12_readNumber_114 (by decide) ?_
        refine r_zreturn dX12_readNumber_118 rfl (by first | decide | (split <;> omega) | omega) ?_
        refine ⟨_, (Eq.refl _), (Eq.refl _), (Eq.refl _), (Eq.refl _), ?_⟩
        first
          | (have hb : ¬ ((p_dig (rd C) 6 (xv C 444 1) 0).1 = xv C 444 1 ∨ isDig (rd C (p_dig (rd C) 6 (xv C 444 1) 0).1)) := by omega
             have hg : lo ≤ (p_dig (rd C) 6 (xv C 444 1) 0).2 ∧ (p_dig (rd C) 6 (xv C 444 1) 0).2 ≤ hi := by omega
             exact Or.inl ⟨(Eq.refl _), ho, rn_ok hR ho h5 h6 h7 hb hg⟩)
          | (have hb : ¬ ((p_dig (rd C) 6 (xv C 444 1) 0).1 = xv C 444 1 ∨ isDig (rd C (p_dig (rd C) 6 (xv C 444 1) 0).1)) := by omega
             have hg : ¬ (lo ≤ (p_dig (rd C) 6 (xv C 444 1) 0).2 ∧ (p_dig (rd C) 6 (xv C 444 1) 0).2 ≤ hi) := by omega
             exact Or.inr ⟨(Eq.refl _), ho.up (by omega), rn_no hR hb hg⟩)
          | (have hb : (p_dig (rd C) 6 (xv C 444 1) 0).1 = xv C 444 1 ∨ isDig (rd C (p_dig (rd C) 6 (xv C 444 1) 0).1) := by omega
             exact Or.inr ⟨(Eq.refl _), ho.up (by omega), rn_bad hR hb⟩)
      · refine r_aload_n (i := 0) (pc' := 106) dX12_readNumber_105 rfl rfl (.head _) ?_
        refine r_iload_n (i := 3) (pc' := 107) dX12_readNumber_106 rfl rfl (.tail _ (.tail _ (.tail _ (.head _)))) ?_
        refine r_V1gi (ci := 12) (pc' := 110) dX12_readNumber_107 rfl lX12_89 rfl (by decide) (Nat.le_of_ble_eq_true rfl) (by first | assumption | rfl) (by omega) (tX12_fails hm) (fun r107 n107 P107 X107 Y107 e107 le107 => ?_)
        obtain ⟨h1v, h2v, h3v, h4v, hr107⟩ := e107
        subst h1v h2v h3v h4v hr107
        refine r_if_eq (t := 117) (f := 113) dX12_readNumber_110 (by decide) rfl (by first | omega | exact xv_in _ _ _) (fun h110 => ?_) (fun h110 => ?_)
        · refine r_iconst (pc' := 118) dX12_readNumber_117 rfl ?_
          refine r_zreturn dX12_readNumber_118 rfl (by first | decide | (split <;> omega) | omega) ?_
          refine ⟨_, (Eq.refl _), (Eq.refl _), (Eq.refl _), (Eq.refl _), ?_⟩
          first
            | (have hb : ¬ ((p_dig (rd C) 6 (xv C 444 1) 0).1 = xv C 444 1 ∨ isDig (rd C (p_dig (rd C) 6 (xv C 444 1) 0).1)) := by omega
               have hg : lo ≤ (p_dig (rd C) 6 (xv C 444 1) 0).2 ∧ (p_dig (rd C) 6 (xv C 444 1) 0).2 ≤ hi := by omega
               exact Or.inl ⟨(Eq.refl _), ho, rn_ok hR ho h5 h6 h7 hb hg⟩)
            | (have hb : ¬ ((p_dig (rd C) 6 (xv C 444 1) 0).1 = xv C 444 1 ∨ isDig (rd C (p_dig (rd C) 6 (xv C 444 1) 0).1)) := by omega
               have hg : ¬ (lo ≤ (p_dig (rd C) 6 (xv C 444 1) 0).2 ∧ (p_dig (rd C) 6 (xv C 444 1) 0).2 ≤ hi) := by omega
               exact Or.inr ⟨(Eq.refl _), ho.up (by omega), rn_no hR hb hg⟩)
            | (have hb : (p_dig (rd C) 6 (xv C 444 1) 0).1 = xv C 444 1 ∨ isDig (rd C (p_dig (rd C) 6 (xv C 444 1) 0).1) := by omega
               exact Or.inr ⟨(Eq.refl _), ho.up (by omega), rn_bad hR hb⟩)
        · exfalso; omega
    · refine r_aload_n (i := 0) (pc' := 82) dX12_readNumber_81 rfl rfl (.head _) ?_
      refine r_aload_n (i := 0) (pc' := 83) dX12_readNumber_82 rfl rfl (.head _) ?_
      refine r_getI (pc' := 86) dX12_readNumber_83 rfl fX12_82 rfl (by first | assumption | rfl) (by omega) ?_
      rw [h5]
      refine r_V1gi (ci := 12) (pc' := 89) dX12_readNumber_86 rfl lX12_89 rfl (by decide) (Nat.le_of_ble_eq_true rfl) (by first | assumption | rfl) (by omega) (tX12_fails hm) (fun r86 n86 P86 X86 Y86 e86 le86 => ?_)
      obtain ⟨h1v, h2v, h3v, h4v, hr86⟩ := e86
      subst h1v h2v h3v h4v hr86
      refine r_zreturn dX12_readNumber_89 rfl (by first | decide | (split <;> omega) | omega) ?_
      refine ⟨_, (Eq.refl _), (Eq.refl _), (Eq.refl _), (Eq.refl _), ?_⟩
      first
        | (have hb : ¬ ((p_dig (rd C) 6 (xv C 444 1) 0).1 = xv C 444 1 ∨ isDig (rd C (p_dig (rd C) 6 (xv C 444 1) 0).1)) := by omega
           have hg : lo ≤ (p_dig (rd C) 6 (xv C 444 1) 0).2 ∧ (p_dig (rd C) 6 (xv C 444 1) 0).2 ≤ hi := by omega
           exact Or.inl ⟨(Eq.refl _), ho, rn_ok hR ho h5 h6 h7 hb hg⟩)
        | (have hb : ¬ ((p_dig (rd C) 6 (xv C 444 1) 0).1 = xv C 444 1 ∨ isDig (rd C (p_dig (rd C) 6 (xv C 444 1) 0).1)) := by omega
           have hg : ¬ (lo ≤ (p_dig (rd C) 6 (xv C 444 1) 0).2 ∧ (p_dig (rd C) 6 (xv C 444 1) 0).2 ≤ hi) := by omega
           exact Or.inr ⟨(Eq.refl _), ho.up (by omega), rn_no hR hb hg⟩)
        | (have hb : (p_dig (rd C) 6 (xv C 444 1) 0).1 = xv C 444 1 ∨ isDig (rd C (p_dig (rd C) 6 (xv C 444 1) 0).1) := by omega
           exact Or.inr ⟨(Eq.refl _), ho.up (by omega), rn_bad hR hb⟩)
