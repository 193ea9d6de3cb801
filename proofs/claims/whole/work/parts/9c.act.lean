/-! acts are read -/
def rA (X X' : q_X) : Prop := ∀ a j, a ≠ 479 → ¬ (a = 467 ∧ (j = 5 ∨ j = 6 ∨ j = 7 ∨ j = 23)) → X' a j = X a j
theorem rA.rfl {X : q_X} : rA X X := fun _ _ _ _ => Eq.refl _
theorem rA.trans {X X' X2 : q_X} (h : rA X X') (h2 : rA X' X2) : rA X X2 := fun a j a1 a2 => (h2 a j a1 a2).trans (h a j a1 a2)
theorem vO.ra {X X' : q_X} (h : vO X X') : rA X X' := fun a j _ h2 => h a j (by omega)
theorem rA.u {X X' : q_X} (h : rA X X') (j : Nat) (v : Int32) : rA X (q_up X' 479 j v) := fun a q a1 a2 => by rw [q_up_ne _ _ (by omega)]; exact h a q a1 a2
theorem rA.x {X X' : q_X} (h : rA X X') {j : Nat} {v : Int32} (hj : j = 5 ∨ j = 6 ∨ j = 7 ∨ j = 23) : rA X (q_up X' 467 j v) := fun a q a1 a2 => by rw [q_up_ne _ _ (by omega)]; exact h a q a1 a2
def aC (D X : q_X) (q : Nat) : Prop := xv X 479 (3 * q) = xv D 450 q ∧ (¬ xv D 450 q = 121 → xv X 479 (3 * q + 1) = xv D 451 q) ∧ (xv D 450 q = 116 → xv X 479 (3 * q + 2) = xv D 452 q) ∧ (xv D 450 q = 120 ∨ xv D 450 q = 116 ∨ xv D 450 q = 100 ∨ xv D 450 q = 121) ∧ (0 ≤ xv D 451 q ∧ xv D 451 q ≤ 999999) ∧ (0 ≤ xv D 452 q ∧ xv D 452 q ≤ 999999)
def actsR (D X : q_X) (i : Nat) : Prop := xv D 449 0 = (i : Int) ∧ xv X 467 23 = (i : Int) ∧ i ≤ 20 ∧ ∀ q, q < i → aC D X q
theorem act_step {D A E X X' : q_X} {i : Nat} {c v1 v2 : Int} (h : actsR D X i) (hi : i < 20) (hc : c = 120 ∨ c = 116 ∨ c = 100 ∨ c = 121) (b1 : 0 ≤ v1 ∧ v1 ≤ 999999) (b2 : 0 ≤ v2 ∧ v2 ≤ 999999) (e9 : xv A 449 = xv D 449) (e0 : ∀ q, xv A 450 q = if q = i then c else xv D 450 q) (e1 : ∀ q, xv A 451 q = if q = i then v1 else xv D 451 q) (e2 : ∀ q, xv A 452 q = if q = i then v2 else xv D 452 q) (eE : E = q_up (rd_exp A 59) 449 0 (zi (xv (rd_exp A 59) 449 0 + 1))) (k23 : xv X' 467 23 = (i : Int) + 1) (k0 : xv X' 479 (3 * i) = c) (k1 : ¬ c = 121 → xv X' 479 (3 * i + 1) = v1) (k2 : c = 116 → xv X' 479 (3 * i + 2) = v2) (ko : ∀ j, j < 3 * i → xv X' 479 j = xv X 479 j) : actsR E X' (i + 1) := by
  obtain ⟨h1, h2, h3, h4⟩ := h
  have c9 : xv (rd_exp A 59) 449 0 = (i : Int) := by rw [rd_exp_o (by omega), e9, h1]
  have er : ∀ a, a ≠ 444 → a ≠ 449 → xv E a = xv A a := fun a q1 q2 => by rw [eE, xv_up_row _ _ _ q2, rd_exp_o q1]
  refine ⟨by rw [eE, xv_up_same _ _ _ (by rw [c9]; omega), c9]; omega, by rw [k23]; omega, by omega, fun q hq => ?_⟩
  unfold aC
  rw [er 450 (by omega) (by omega), er 451 (by omega) (by omega), er 452 (by omega) (by omega), e0, e1, e2]
  by_cases e : q = i
  · subst e
    rw [if_pos rfl, if_pos rfl, if_pos rfl]
    exact ⟨k0, k1, k2, hc, b1, b2⟩
  · rw [if_neg e, if_neg e, if_neg e, ko _ (by omega), ko _ (by omega), ko _ (by omega)]
    exact h4 q (by omega)
theorem acOne_eq (D : q_X) (i : Nat) : acOne D i = q_up (rd_exp (acAct D i) 59) 449 0 (zi (xv (rd_exp (acAct D i) 59) 449 0 + 1)) := rfl
theorem ac0_f (D : q_X) {i : Nat} {c : Int} (hc : rd D (xv D 444 1) = c) (hq : q_in c) : (∀ a, a ≠ 450 → a ≠ 451 → a ≠ 452 → xv (ac0 D i) a = xv D a) ∧ (∀ q, xv (ac0 D i) 450 q = if q = i then c else xv D 450 q) ∧ (∀ q, xv (ac0 D i) 451 q = if q = i then 0 else xv D 451 q) ∧ (∀ q, xv (ac0 D i) 452 q = if q = i then 0 else xv D 452 q) := by
  unfold ac0
  rw [hc]
  refine ⟨fun a h1 h2 h3 => by rw [xv_up_row _ _ _ h3, xv_up_row _ _ _ h2, xv_up_row _ _ _ h1], fun q => ?_, fun q => ?_, fun q => ?_⟩
  · rw [xv_up_ne _ _ (by omega), xv_up_ne _ _ (by omega)]
    by_cases e : q = i
    · subst e; rw [xv_up_same _ _ _ hq, if_pos rfl]
    · rw [xv_up_ne _ _ (by omega), if_neg e]
  · rw [xv_up_ne _ _ (by omega)]
    by_cases e : q = i
    · subst e; rw [xv_up_same _ _ _ (by omega), if_pos rfl]
    · rw [xv_up_ne _ _ (by omega), xv_up_ne _ _ (by omega), if_neg e]
  · by_cases e : q = i
    · subst e; rw [xv_up_same _ _ _ (by omega), if_pos rfl]
    · rw [xv_up_ne _ _ (by omega), xv_up_ne _ _ (by omega), xv_up_ne _ _ (by omega), if_neg e]
theorem aa_x {D : q_X} {i : Nat} (h : rd D (xv D 444 1) = 100 ∨ rd D (xv D 444 1) = 120) : acAct D i = ac1 (rd_skip (ac0 D i)) i := by unfold acAct; rw [if_pos h]
theorem aa_t {D : q_X} {i : Nat} (h : rd D (xv D 444 1) = 116) : acAct D i = ac3 (ac2 (rd_skip (ac0 D i)) i) i := by unfold acAct; rw [h, if_neg (by omega), if_pos rfl]
theorem aa_y {D : q_X} {i : Nat} (h : rd D (xv D 444 1) = 121) : acAct D i = rd_skip (ac0 D i) := by unfold acAct; rw [h, if_neg (by omega), if_neg (by omega), if_pos rfl]
theorem aa_n {D : q_X} {i : Nat} (h1 : ¬ rd D (xv D 444 1) = 100) (h2 : ¬ rd D (xv D 444 1) = 120) (h3 : ¬ rd D (xv D 444 1) = 116) (h4 : ¬ rd D (xv D 444 1) = 121) : acAct D i = rd_fail (ac0 D i) (xv (ac0 D i) 444 1) := by
  unfold acAct; rw [if_neg (by omega), if_neg h3, if_neg h4]
set_option maxHeartbeats 4000000 in
set_option maxRecDepth 100000 in
theorem zX12_readAct {l : Launch} {g : q_G} {n : Nat} {P : q_P} {Y : q_Y} {X X0 : q_X} (hm : isMod n P) {D A : q_X} {i : Nat} {c v1 v2 : Int} (hR : tR A X) (ho : rA X0 X) (h : actsR D X0 i) (hi : i < 20) (hc : c = 120 ∨ c = 116 ∨ c = 100 ∨ c = 121) (b1 : 0 ≤ v1 ∧ v1 ≤ 999999) (b2 : 0 ≤ v2 ∧ v2 ≤ 999999) (e9 : xv A 449 = xv D 449) (e0 : ∀ q, xv A 450 q = if q = i then c else xv D 450 q) (e1 : ∀ q, xv A 451 q = if q = i then v1 else xv D 451 q) (e2 : ∀ q, xv A 452 q = if q = i then v2 else xv D 452 q) (k23 : xv X 467 23 = (i : Int)) (k0 : xv X 479 (3 * i) = c) (k1 : ¬ c = 121 → xv X 479 (3 * i + 1) = v1) (k2 : c = 116 → xv X 479 (3 * i + 2) = v2) (ko : ∀ j, j < 3 * i → xv X 479 j = xv X0 479 j) : q_Tr l g mX12_readAct 2 (q_gi (fun r' n' P' X' Y' => n' = n ∧ P' = P ∧ Y' = Y ∧ ((r' = 1 ∧ rA X0 X' ∧ tR (q_up (rd_exp A 59) 449 0 (zi (xv (rd_exp A 59) 449 0 + 1))) X' ∧ actsR (q_up (rd_exp A 59) 449 0 (zi (xv (rd_exp A 59) 449 0 + 1))) X' (i + 1)) ∨ (r' = 0 ∧ rA X0 X' ∧ tF (q_up (rd_exp A 59) 449 0 (zi (xv (rd_exp A 59) 449 0 + 1))) X')))) 140 [(0, .ref (g.1 + 467))] [] n P X Y := by
  obtain ⟨m0, m2, m3, m8, m9, m14, m15, m16, m17, m18, m20, m22, m25, hnm9⟩ := id hm
  refine r_aload_n (i := 0) (pc' := 141) dX12_readAct_140 rfl rfl (.head _) ?_
  refine r_dup (pc' := 142) dX12_readAct_141 rfl rfl ?_
  refine r_getI (pc' := 145) dX12_readAct_142 rfl fX12_366 rfl (by first | assumption | rfl) (by omega) ?_
  rw [k23]
  refine r_iconst (pc' := 146) dX12_readAct_145 rfl ?_
  refine r_iadd (pc' := 147) dX12_readAct_146 rfl ?_
  refine r_putI (pc' := 150) dX12_readAct_147 rfl fX12_366 rfl (by first | assumption | rfl) (by omega) rfl rfl ?_
  have hR2 : tR A (q_up X 467 23 (zi ((i : Int) + 1))) := by
    obtain ⟨a1, a2, a3, a4, a5⟩ := hR
    exact ⟨a1, a2, by rw [xv_up_ne _ _ (by omega)]; exact a3, by rw [xv_up_ne _ _ (by omega)]; exact a4, a5.cg rfl rfl (xv_up_ne _ _ (by omega)) (xv_up_row _ _ _ (by omega))⟩
  have ho2 : rA X0 (q_up X 467 23 (zi ((i : Int) + 1))) := ho.x (by omega)
  have hk23 : xv (q_up X 467 23 (zi ((i : Int) + 1))) 467 23 = (i : Int) + 1 := xv_up_same _ _ _ (by omega)
  have hk79 : xv (q_up X 467 23 (zi ((i : Int) + 1))) 479 = xv X 479 := xv_up_row _ _ _ (by omega)
  generalize q_up X 467 23 (zi ((i : Int) + 1)) = X2 at hR2 ho2 hk23 hk79 ⊢
  refine r_aload_n (i := 0) (pc' := 151) dX12_readAct_150 rfl rfl (.head _) ?_
  refine r_bipush (pc' := 153) dX12_readAct_151 rfl (by decide) ?_
  refine r_V1gi (ci := 12) (pc' := 156) dX12_readAct_153 rfl lX12_103 rfl (by decide) (Nat.le_of_ble_eq_true rfl) (by first | assumption | rfl) (by omega) (tT_takes (C := A) hm hR2 (by omega) (by omega)) (fun r153 n153 P153 X153 Y153 e153 le153 => ?_)
  obtain ⟨h1v, h2v, h3v, hq153⟩ := e153
  subst h1v h2v h3v
  rcases hq153 with ⟨hz153, ho153, ht153⟩ | ⟨hz153, ho153, hf153⟩
  · subst hz153
    refine r_zreturn dX12_readAct_156 rfl (by first | decide | (split <;> omega) | omega) ?_
    have h79 : xv X153 479 = xv X 479 := (ho153.v (by omega)).trans hk79
    have h23 : xv X153 467 23 = (i : Int) + 1 := by rw [← hk23]; simp only [xv]; rw [ho153 _ _ (by omega)]
    exact ⟨_, rfl, rfl, rfl, rfl, Or.inl ⟨rfl, ho2.trans ho153.ra, ht153.cg (xv_up_row _ _ _ (by omega)) (xv_up_row _ _ _ (by omega)) (xv_up_row _ _ _ (by omega)), act_step h hi hc b1 b2 e9 e0 e1 e2 rfl h23 (by rw [h79]; exact k0) (fun q => by rw [h79]; exact k1 q) (fun q => by rw [h79]; exact k2 q) (fun j hj => by rw [h79]; exact ko j hj)⟩⟩
  · subst hz153
    refine r_zreturn dX12_readAct_156 rfl (by first | decide | (split <;> omega) | omega) ?_
    exact ⟨_, rfl, rfl, rfl, rfl, Or.inr ⟨rfl, ho2.trans ho153.ra, hf153.up (by omega) _ _⟩⟩
