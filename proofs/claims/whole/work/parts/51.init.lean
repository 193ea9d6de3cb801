/-! constructors -/
def nAg (c : Nat) (P P' : q_P) (X X' : q_X) (Y Y' : q_Y) : Prop := ∀ a, a < c → P' a = P a ∧ X' a = X a ∧ Y' a = Y a
theorem nAg.rfl {c : Nat} {P : q_P} {X : q_X} {Y : q_Y} : nAg c P P X X Y Y := fun _ _ => ⟨Eq.refl _, Eq.refl _, Eq.refl _⟩
theorem nAg.trans {c c' : Nat} {P P' P2 : q_P} {X X' X2 : q_X} {Y Y' Y2 : q_Y} (h : nAg c P P' X X' Y Y') (h2 : nAg c' P' P2 X' X2 Y' Y2) (hc : c ≤ c') : nAg c P P2 X X2 Y Y2 := fun a ha => ⟨(h2 a (by omega)).1.trans (h a ha).1, (h2 a (by omega)).2.1.trans (h a ha).2.1, (h2 a (by omega)).2.2.trans (h a ha).2.2⟩
theorem nAg.clr {c i : Nat} {P P' : q_P} {X X' : q_X} {Y Y' : q_Y} (h : nAg c P P' X X' Y Y') (hi : c ≤ i) : nAg c P (q_clr P' i none) X (q_clr X' i 0) Y (q_clr Y' i 0) := fun a ha => by
  obtain ⟨h1, h2, h3⟩ := h a ha
  refine ⟨?_, ?_, ?_⟩
  · rw [← h1]; funext j; exact q_clr_ne _ _ (by omega)
  · rw [← h2]; funext j; exact q_clr_ne _ _ (by omega)
  · rw [← h3]; funext j; exact q_clr_ne _ _ (by omega)
theorem nAg.upP {c i j : Nat} {v : Option Nat} {P P' : q_P} {X X' : q_X} {Y Y' : q_Y} (h : nAg c P P' X X' Y Y') (hi : c ≤ i) : nAg c P (q_up P' i j v) X X' Y Y' := fun a ha => by
  obtain ⟨h1, h2, h3⟩ := h a ha
  refine ⟨?_, h2, h3⟩
  rw [← h1]; funext q; exact q_up_ne _ _ (by omega)
theorem nAg.upX {c i j : Nat} {v : Int32} {P P' : q_P} {X X' : q_X} {Y Y' : q_Y} (h : nAg c P P' X X' Y Y') (hi : c ≤ i) : nAg c P P' X (q_up X' i j v) Y Y' := fun a ha => by
  obtain ⟨h1, h2, h3⟩ := h a ha
  refine ⟨h1, ?_, h3⟩
  rw [← h2]; funext q; exact q_up_ne _ _ (by omega)
set_option maxHeartbeats 4000000 in
set_option maxRecDepth 100000 in
theorem tX4_init {l : Launch} {g : q_G} {n : Nat} {P : q_P} {X : q_X} {Y : q_Y} {o : Nat} (hs : q_sh o = (4, 10) ∧ q_sh (o + 1) = (20, 10) ∧ q_sh (o + 2) = (20, 10) ∧ q_sh (o + 3) = (20, 10) ∧ q_sh (o + 4) = (20, 10)) (hn : n = o + 1) : q_Met l g mX4_init 1 [.ref (g.1 + o)] n P X Y (q_gv (fun n' P' X' Y' => n' = o + 5 ∧ nAg o P P' X X' Y Y' ∧ (P' o 6 = some (o + 1) ∧ P' o 7 = some (o + 2) ∧ P' o 8 = some (o + 3) ∧ P' o 9 = some (o + 4)) ∧ X' o = X o ∧ X' (o + 1) = (fun _ => 0) ∧ X' (o + 2) = (fun _ => 0) ∧ X' (o + 3) = (fun _ => 0) ∧ X' (o + 4) = (fun _ => 0))) := by
  obtain ⟨hs0, hs1, hs2, hs3, hs4⟩ := id hs
  subst hn
  refine q_enter (L := [(0, .ref (g.1 + o))]) (by decide) (Nat.le_of_ble_eq_true rfl) rfl ?_
  refine r_aload_n (i := 0) (pc' := 1) dX4_init_0 rfl rfl (.head _) ?_
  refine r_objInit (pc' := 4) dX4_init_1 rfl lX4_3 o_inst o_code (by decide) (Nat.le_of_ble_eq_true rfl) ?_
  refine r_aload_n (i := 0) (pc' := 5) dX4_init_4 rfl rfl (.head _) ?_
  refine r_bipush (pc' := 7) dX4_init_5 rfl (by decide) ?_
  refine r_newi (pc' := 9) dX4_init_7 rfl a_int hs1 rfl (by decide) ?_
  refine r_putRF (pc' := 12) dX4_init_9 rfl fX4_11 rfl rfl rfl (by first | assumption | rfl) (by omega) rfl rfl ?_
  refine r_aload_n (i := 0) (pc' := 13) dX4_init_12 rfl rfl (.head _) ?_
  refine r_bipush (pc' := 15) dX4_init_13 rfl (by decide) ?_
  refine r_newi (pc' := 17) dX4_init_15 rfl a_int hs2 rfl (by decide) ?_
  refine r_putRF (pc' := 20) dX4_init_17 rfl fX4_15 rfl rfl rfl (by first | assumption | rfl) (by omega) rfl rfl ?_
  refine r_aload_n (i := 0) (pc' := 21) dX4_init_20 rfl rfl (.head _) ?_
  refine r_bipush (pc' := 23) dX4_init_21 rfl (by decide) ?_
  refine r_newi (pc' := 25) dX4_init_23 rfl a_int hs3 rfl (by decide) ?_
  refine r_putRF (pc' := 28) dX4_init_25 rfl fX4_18 rfl rfl rfl (by first | assumption | rfl) (by omega) rfl rfl ?_
  refine r_aload_n (i := 0) (pc' := 29) dX4_init_28 rfl rfl (.head _) ?_
  refine r_bipush (pc' := 31) dX4_init_29 rfl (by decide) ?_
  refine r_newi (pc' := 33) dX4_init_31 rfl a_int hs4 rfl (by decide) ?_
  refine r_putRF (pc' := 36) dX4_init_33 rfl fX4_21 rfl rfl rfl (by first | assumption | rfl) (by omega) rfl rfl ?_
  refine r_return dX4_init_36 rfl ?_
  refine ⟨rfl, rfl, ((((((((nAg.rfl.clr (by omega)).upP (by omega)).clr (by omega)).upP (by omega)).clr (by omega)).upP (by omega)).clr (by omega)).upP (by omega)), ⟨?_, ?_, ?_, ?_⟩, ?_, ?_, ?_, ?_, ?_⟩
  · first | rfl | (simp (disch := omega) only [q_up_ne, q_up_same, q_clr_ne, q_clr_same]; done) | (simp [q_up, q_clr]; done)
  · first | rfl | (simp (disch := omega) only [q_up_ne, q_up_same, q_clr_ne, q_clr_same]; done) | (simp [q_up, q_clr]; done)
  · first | rfl | (simp (disch := omega) only [q_up_ne, q_up_same, q_clr_ne, q_clr_same]; done) | (simp [q_up, q_clr]; done)
  · first | rfl | (simp (disch := omega) only [q_up_ne, q_up_same, q_clr_ne, q_clr_same]; done) | (simp [q_up, q_clr]; done)
  · funext j; first | rfl | (simp (disch := omega) only [q_up_ne, q_up_same, q_clr_ne, q_clr_same]; done) | (simp [q_up, q_clr]; done)
  · funext j; first | rfl | (simp (disch := omega) only [q_up_ne, q_up_same, q_clr_ne, q_clr_same]; done) | (simp [q_up, q_clr]; done)
  · funext j; first | rfl | (simp (disch := omega) only [q_up_ne, q_up_same, q_clr_ne, q_clr_same]; done) | (simp [q_up, q_clr]; done)
  · funext j; first | rfl | (simp (disch := omega) only [q_up_ne, q_up_same, q_clr_ne, q_clr_same]; done) | (simp [q_up, q_clr]; done)
  · funext j; first | rfl | (simp (disch := omega) only [q_up_ne, q_up_same, q_clr_ne, q_clr_same]; done) | (simp [q_up, q_clr]; done)
set_option maxHeartbeats 4000000 in
set_option maxRecDepth 100000 in
theorem tX8_init {l : Launch} {g : q_G} {n : Nat} {P : q_P} {X : q_X} {Y : q_Y} {o : Nat} (hs : q_sh o = (8, 6) ∧ q_sh (o + 1) = (20, 24) ∧ q_sh (o + 2) = (20, 24) ∧ q_sh (o + 3) = (20, 24) ∧ q_sh (o + 4) = (22, 24) ∧ q_sh (o + 5) = (22, 24)) (hn : n = o + 1) : q_Met l g mX8_init 1 [.ref (g.1 + o)] n P X Y (q_gv (fun n' P' X' Y' => n' = o + 6 ∧ nAg o P P' X X' Y Y' ∧ (P' o 1 = some (o + 1) ∧ P' o 2 = some (o + 2) ∧ P' o 3 = some (o + 3) ∧ P' o 4 = some (o + 4) ∧ P' o 5 = some (o + 5)) ∧ X' o = X o ∧ X' (o + 1) = (fun _ => 0) ∧ X' (o + 2) = (fun _ => 0) ∧ X' (o + 3) = (fun _ => 0) ∧ X' (o + 4) = (fun _ => 0) ∧ X' (o + 5) = (fun _ => 0))) := by
  obtain ⟨hs0, hs1, hs2, hs3, hs4, hs5⟩ := id hs
  subst hn
  refine q_enter (L := [(0, .ref (g.1 + o))]) (by decide) (Nat.le_of_ble_eq_true rfl) rfl ?_
  refine r_aload_n (i := 0) (pc' := 1) dX8_init_0 rfl rfl (.head _) ?_
  refine r_objInit (pc' := 4) dX8_init_1 rfl lX8_3 o_inst o_code (by decide) (Nat.le_of_ble_eq_true rfl) ?_
  refine r_aload_n (i := 0) (pc' := 5) dX8_init_4 rfl rfl (.head _) ?_
  refine r_bipush (pc' := 7) dX8_init_5 rfl (by decide) ?_
  refine r_newi (pc' := 9) dX8_init_7 rfl a_int hs1 rfl (by decide) ?_
  refine r_putRF (pc' := 12) dX8_init_9 rfl fX8_11 rfl rfl rfl (by first | assumption | rfl) (by omega) rfl rfl ?_
  refine r_aload_n (i := 0) (pc' := 13) dX8_init_12 rfl rfl (.head _) ?_
  refine r_bipush (pc' := 15) dX8_init_13 rfl (by decide) ?_
  refine r_newi (pc' := 17) dX8_init_15 rfl a_int hs2 rfl (by decide) ?_
  refine r_putRF (pc' := 20) dX8_init_17 rfl fX8_15 rfl rfl rfl (by first | assumption | rfl) (by omega) rfl rfl ?_
  refine r_aload_n (i := 0) (pc' := 21) dX8_init_20 rfl rfl (.head _) ?_
  refine r_bipush (pc' := 23) dX8_init_21 rfl (by decide) ?_
  refine r_newi (pc' := 25) dX8_init_23 rfl a_int hs3 rfl (by decide) ?_
  refine r_putRF (pc' := 28) dX8_init_25 rfl fX8_18 rfl rfl rfl (by first | assumption | rfl) (by omega) rfl rfl ?_
  refine r_aload_n (i := 0) (pc' := 29) dX8_init_28 rfl rfl (.head _) ?_
  refine r_bipush (pc' := 31) dX8_init_29 rfl (by decide) ?_
  refine r_newz (pc' := 33) dX8_init_31 rfl a_boolean hs4 rfl (by decide) ?_
  refine r_putRF (pc' := 36) dX8_init_33 rfl fX8_21 rfl rfl rfl (by first | assumption | rfl) (by omega) rfl rfl ?_
  refine r_aload_n (i := 0) (pc' := 37) dX8_init_36 rfl rfl (.head _) ?_
  refine r_bipush (pc' := 39) dX8_init_37 rfl (by decide) ?_
  refine r_newz (pc' := 41) dX8_init_39 rfl a_boolean hs5 rfl (by decide) ?_
  refine r_putRF (pc' := 44) dX8_init_41 rfl fX8_25 rfl rfl rfl (by first | assumption | rfl) (by omega) rfl rfl ?_
  refine r_return dX8_init_44 rfl ?_
  refine ⟨rfl, rfl, ((((((((((nAg.rfl.clr (by omega)).upP (by omega)).clr (by omega)).upP (by omega)).clr (by omega)).upP (by omega)).clr (by omega)).upP (by omega)).clr (by omega)).upP (by omega)), ⟨?_, ?_, ?_, ?_, ?_⟩, ?_, ?_, ?_, ?_, ?_, ?_⟩
  · first | rfl | (simp (disch := omega) only [q_up_ne, q_up_same, q_clr_ne, q_clr_same]; done) | (simp [q_up, q_clr]; done)
  · first | rfl | (simp (disch := omega) only [q_up_ne, q_up_same, q_clr_ne, q_clr_same]; done) | (simp [q_up, q_clr]; done)
  · first | rfl | (simp (disch := omega) only [q_up_ne, q_up_same, q_clr_ne, q_clr_same]; done) | (simp [q_up, q_clr]; done)
  · first | rfl | (simp (disch := omega) only [q_up_ne, q_up_same, q_clr_ne, q_clr_same]; done) | (simp [q_up, q_clr]; done)
  · first | rfl | (simp (disch := omega) only [q_up_ne, q_up_same, q_clr_ne, q_clr_same]; done) | (simp [q_up, q_clr]; done)
  · funext j; first | rfl | (simp (disch := omega) only [q_up_ne, q_up_same, q_clr_ne, q_clr_same]; done) | (simp [q_up, q_clr]; done)
  · funext j; first | rfl | (simp (disch := omega) only [q_up_ne, q_up_same, q_clr_ne, q_clr_same]; done) | (simp [q_up, q_clr]; done)
  · funext j; first | rfl | (simp (disch := omega) only [q_up_ne, q_up_same, q_clr_ne, q_clr_same]; done) | (simp [q_up, q_clr]; done)
  · funext j; first | rfl | (simp (disch := omega) only [q_up_ne, q_up_same, q_clr_ne, q_clr_same]; done) | (simp [q_up, q_clr]; done)
  · funext j; first | rfl | (simp (disch := omega) only [q_up_ne, q_up_same, q_clr_ne, q_clr_same]; done) | (simp [q_up, q_clr]; done)
  · funext j; first | rfl | (simp (disch := omega) only [q_up_ne, q_up_same, q_clr_ne, q_clr_same]; done) | (simp [q_up, q_clr]; done)
set_option maxHeartbeats 4000000 in
set_option maxRecDepth 100000 in
theorem tX7_init {l : Launch} {g : q_G} {n : Nat} {P : q_P} {X : q_X} {Y : q_Y} {o : Nat} (hs : q_sh o = (7, 5) ∧ q_sh (o + 1) = (20, 12) ∧ q_sh (o + 2) = (20, 12) ∧ q_sh (o + 3) = (20, 12) ∧ q_sh (o + 4) = (20, 12)) (hn : n = o + 1) : q_Met l g mX7_init 1 [.ref (g.1 + o)] n P X Y (q_gv (fun n' P' X' Y' => n' = o + 5 ∧ nAg o P P' X X' Y Y' ∧ (P' o 1 = some (o + 1) ∧ P' o 2 = some (o + 2) ∧ P' o 3 = some (o + 3) ∧ P' o 4 = some (o + 4)) ∧ X' o = X o ∧ X' (o + 1) = (fun _ => 0) ∧ X' (o + 2) = (fun _ => 0) ∧ X' (o + 3) = (fun _ => 0) ∧ X' (o + 4) = (fun _ => 0))) := by
  obtain ⟨hs0, hs1, hs2, hs3, hs4⟩ := id hs
  subst hn
  refine q_enter (L := [(0, .ref (g.1 + o))]) (by decide) (Nat.le_of_ble_eq_true rfl) rfl ?_
  refine r_aload_n (i := 0) (pc' := 1) dX7_init_0 rfl rfl (.head _) ?_
  refine r_objInit (pc' := 4) dX7_init_1 rfl lX7_3 o_inst o_code (by decide) (Nat.le_of_ble_eq_true rfl) ?_
  refine r_aload_n (i := 0) (pc' := 5) dX7_init_4 rfl rfl (.head _) ?_
  refine r_bipush (pc' := 7) dX7_init_5 rfl (by decide) ?_
  refine r_newi (pc' := 9) dX7_init_7 rfl a_int hs1 rfl (by decide) ?_
  refine r_putRF (pc' := 12) dX7_init_9 rfl fX7_11 rfl rfl rfl (by first | assumption | rfl) (by omega) rfl rfl ?_
  refine r_aload_n (i := 0) (pc' := 13) dX7_init_12 rfl rfl (.head _) ?_
  refine r_bipush (pc' := 15) dX7_init_13 rfl (by decide) ?_
  refine r_newi (pc' := 17) dX7_init_15 rfl a_int hs2 rfl (by decide) ?_
  refine r_putRF (pc' := 20) dX7_init_17 rfl fX7_15 rfl rfl rfl (by first | assumption | rfl) (by omega) rfl rfl ?_
  refine r_aload_n (i := 0) (pc' := 21) dX7_init_20 rfl rfl (.head _) ?_
  refine r_bipush (pc' := 23) dX7_init_21 rfl (by decide) ?_
  refine r_newi (pc' := 25) dX7_init_23 rfl a_int hs3 rfl (by decide) ?_
  refine r_putRF (pc' := 28) dX7_init_25 rfl fX7_18 rfl rfl rfl (by first | assumption | rfl) (by omega) rfl rfl ?_
  refine r_aload_n (i := 0) (pc' := 29) dX7_init_28 rfl rfl (.head _) ?_
  refine r_bipush (pc' := 31) dX7_init_29 rfl (by decide) ?_
  refine r_newi (pc' := 33) dX7_init_31 rfl a_int hs4 rfl (by decide) ?_
  refine r_putRF (pc' := 36) dX7_init_33 rfl fX7_21 rfl rfl rfl (by first | assumption | rfl) (by omega) rfl rfl ?_
  refine r_return dX7_init_36 rfl ?_
  refine ⟨rfl, rfl, ((((((((nAg.rfl.clr (by omega)).upP (by omega)).clr (by omega)).upP (by omega)).clr (by omega)).upP (by omega)).clr (by omega)).upP (by omega)), ⟨?_, ?_, ?_, ?_⟩, ?_, ?_, ?_, ?_, ?_⟩
  · first | rfl | (simp (disch := omega) only [q_up_ne, q_up_same, q_clr_ne, q_clr_same]; done) | (simp [q_up, q_clr]; done)
  · first | rfl | (simp (disch := omega) only [q_up_ne, q_up_same, q_clr_ne, q_clr_same]; done) | (simp [q_up, q_clr]; done)
  · first | rfl | (simp (disch := omega) only [q_up_ne, q_up_same, q_clr_ne, q_clr_same]; done) | (simp [q_up, q_clr]; done)
  · first | rfl | (simp (disch := omega) only [q_up_ne, q_up_same, q_clr_ne, q_clr_same]; done) | (simp [q_up, q_clr]; done)
  · funext j; first | rfl | (simp (disch := omega) only [q_up_ne, q_up_same, q_clr_ne, q_clr_same]; done) | (simp [q_up, q_clr]; done)
  · funext j; first | rfl | (simp (disch := omega) only [q_up_ne, q_up_same, q_clr_ne, q_clr_same]; done) | (simp [q_up, q_clr]; done)
  · funext j; first | rfl | (simp (disch := omega) only [q_up_ne, q_up_same, q_clr_ne, q_clr_same]; done) | (simp [q_up, q_clr]; done)
  · funext j; first | rfl | (simp (disch := omega) only [q_up_ne, q_up_same, q_clr_ne, q_clr_same]; done) | (simp [q_up, q_clr]; done)
  · funext j; first | rfl | (simp (disch := omega) only [q_up_ne, q_up_same, q_clr_ne, q_clr_same]; done) | (simp [q_up, q_clr]; done)
set_option maxHeartbeats 4000000 in
set_option maxRecDepth 100000 in
theorem tX5_init {l : Launch} {g : q_G} {n : Nat} {P : q_P} {X : q_X} {Y : q_Y} {o : Nat} (hs : q_sh o = (5, 6) ∧ q_sh (o + 1) = (20, 80) ∧ q_sh (o + 2) = (20, 21) ∧ q_sh (o + 3) = (20, 6) ∧ q_sh (o + 4) = (21, 21)) (hn : n = o + 1) : q_Met l g mX5_init 1 [.ref (g.1 + o)] n P X Y (q_gv (fun n' P' X' Y' => n' = o + 5 ∧ nAg o P P' X X' Y Y' ∧ (P' o 1 = some (o + 1) ∧ P' o 2 = some (o + 2) ∧ P' o 4 = some (o + 3) ∧ P' o 5 = some (o + 4)) ∧ X' o = X o ∧ X' (o + 1) = (fun _ => 0) ∧ X' (o + 2) = (fun _ => 0) ∧ X' (o + 3) = (fun _ => 0) ∧ X' (o + 4) = (fun _ => 0))) := by
  obtain ⟨hs0, hs1, hs2, hs3, hs4⟩ := id hs
  subst hn
  refine q_enter (L := [(0, .ref (g.1 + o))]) (by decide) (Nat.le_of_ble_eq_true rfl) rfl ?_
  refine r_aload_n (i := 0) (pc' := 1) dX5_init_0 rfl rfl (.head _) ?_
  refine r_objInit (pc' := 4) dX5_init_1 rfl lX5_5 o_inst o_code (by decide) (Nat.le_of_ble_eq_true rfl) ?_
  refine r_aload_n (i := 0) (pc' := 5) dX5_init_4 rfl rfl (.head _) ?_
  refine r_bipush (pc' := 7) dX5_init_5 rfl (by decide) ?_
  refine r_newi (pc' := 9) dX5_init_7 rfl a_int hs1 rfl (by decide) ?_
  refine r_putRF (pc' := 12) dX5_init_9 rfl fX5_11 rfl rfl rfl (by first | assumption | rfl) (by omega) rfl rfl ?_
  refine r_aload_n (i := 0) (pc' := 13) dX5_init_12 rfl rfl (.head _) ?_
  refine r_bipush (pc' := 15) dX5_init_13 rfl (by decide) ?_
  refine r_newi (pc' := 17) dX5_init_15 rfl a_int hs2 rfl (by decide) ?_
  refine r_putRF (pc' := 20) dX5_init_17 rfl fX5_15 rfl rfl rfl (by first | assumption | rfl) (by omega) rfl rfl ?_
  refine r_aload_n (i := 0) (pc' := 21) dX5_init_20 rfl rfl (.head _) ?_
  refine r_bipush (pc' := 23) dX5_init_21 rfl (by decide) ?_
  refine r_newi (pc' := 25) dX5_init_23 rfl a_int hs3 rfl (by decide) ?_
  refine r_putRF (pc' := 28) dX5_init_25 rfl fX5_18 rfl rfl rfl (by first | assumption | rfl) (by omega) rfl rfl ?_
  refine r_aload_n (i := 0) (pc' := 29) dX5_init_28 rfl rfl (.head _) ?_
  refine r_bipush (pc' := 31) dX5_init_29 rfl (by decide) ?_
  refine r_newl (pc' := 33) dX5_init_31 rfl a_long hs4 rfl (by decide) ?_
  refine r_putRF (pc' := 36) dX5_init_33 rfl fX5_21 rfl rfl rfl (by first | assumption | rfl) (by omega) rfl rfl ?_
  refine r_return dX5_init_36 rfl ?_
  refine ⟨rfl, rfl, ((((((((nAg.rfl.clr (by omega)).upP (by omega)).clr (by omega)).upP (by omega)).clr (by omega)).upP (by omega)).clr (by omega)).upP (by omega)), ⟨?_, ?_, ?_, ?_⟩, ?_, ?_, ?_, ?_, ?_⟩
  · first | rfl | (simp (disch := omega) only [q_up_ne, q_up_same, q_clr_ne, q_clr_same]; done) | (simp [q_up, q_clr]; done)
  · first | rfl | (simp (disch := omega) only [q_up_ne, q_up_same, q_clr_ne, q_clr_same]; done) | (simp [q_up, q_clr]; done)
  · first | rfl | (simp (disch := omega) only [q_up_ne, q_up_same, q_clr_ne, q_clr_same]; done) | (simp [q_up, q_clr]; done)
  · first | rfl | (simp (disch := omega) only [q_up_ne, q_up_same, q_clr_ne, q_clr_same]; done) | (simp [q_up, q_clr]; done)
  · funext j; first | rfl | (simp (disch := omega) only [q_up_ne, q_up_same, q_clr_ne, q_clr_same]; done) | (simp [q_up, q_clr]; done)
  · funext j; first | rfl | (simp (disch := omega) only [q_up_ne, q_up_same, q_clr_ne, q_clr_same]; done) | (simp [q_up, q_clr]; done)
  · funext j; first | rfl | (simp (disch := omega) only [q_up_ne, q_up_same, q_clr_ne, q_clr_same]; done) | (simp [q_up, q_clr]; done)
  · funext j; first | rfl | (simp (disch := omega) only [q_up_ne, q_up_same, q_clr_ne, q_clr_same]; done) | (simp [q_up, q_clr]; done)
  · funext j; first | rfl | (simp (disch := omega) only [q_up_ne, q_up_same, q_clr_ne, q_clr_same]; done) | (simp [q_up, q_clr]; done)
set_option maxHeartbeats 4000000 in
set_option maxRecDepth 100000 in
theorem tX6_init {l : Launch} {g : q_G} {n : Nat} {P : q_P} {X : q_X} {Y : q_Y} {o : Nat} (hs : q_sh o = (6, 3) ∧ q_sh (o + 1) = (25, 8)) (hn : n = o + 1) : q_Met l g mX6_init 1 [.ref (g.1 + o)] n P X Y (q_gv (fun n' P' X' Y' => n' = o + 2 ∧ nAg o P P' X X' Y Y' ∧ (P' o 0 = some (o + 1)) ∧ X' o = X o ∧ X' (o + 1) = (fun _ => 0))) := by
  obtain ⟨hs0, hs1⟩ := id hs
  subst hn
  refine q_enter (L := [(0, .ref (g.1 + o))]) (by decide) (Nat.le_of_ble_eq_true rfl) rfl ?_
  refine r_aload_n (i := 0) (pc' := 1) dX6_init_0 rfl rfl (.head _) ?_
  refine r_objInit (pc' := 4) dX6_init_1 rfl lX6_1 o_inst o_code (by decide) (Nat.le_of_ble_eq_true rfl) ?_
  refine r_aload_n (i := 0) (pc' := 5) dX6_init_4 rfl rfl (.head _) ?_
  refine r_bipush (pc' := 7) dX6_init_5 rfl (by decide) ?_
  refine r_newB (pc' := 10) dX6_init_7 rfl kX6_9 hs1 rfl (by decide) ?_
  refine r_putRF (pc' := 13) dX6_init_10 rfl fX6_11 rfl rfl rfl (by first | assumption | rfl) (by omega) rfl rfl ?_
  refine r_return dX6_init_13 rfl ?_
  refine ⟨rfl, rfl, ((nAg.rfl.clr (by omega)).upP (by omega)), ?_, ?_, ?_⟩
  · first | rfl | (simp (disch := omega) only [q_up_ne, q_up_same, q_clr_ne, q_clr_same]; done) | (simp [q_up, q_clr]; done)
  · funext j; first | rfl | (simp (disch := omega) only [q_up_ne, q_up_same, q_clr_ne, q_clr_same]; done) | (simp [q_up, q_clr]; done)
  · funext j; first | rfl | (simp (disch := omega) only [q_up_ne, q_up_same, q_clr_ne, q_clr_same]; done) | (simp [q_up, q_clr]; done)
set_option maxHeartbeats 4000000 in
set_option maxRecDepth 100000 in
theorem tX0_init {l : Launch} {g : q_G} {n : Nat} {P : q_P} {X : q_X} {Y : q_Y} {o : Nat} (hs : q_sh o = (0, 4) ∧ q_sh (o + 1) = (20, 20) ∧ q_sh (o + 2) = (20, 20) ∧ q_sh (o + 3) = (20, 20)) (hn : n = o + 1) : q_Met l g mX0_init 1 [.ref (g.1 + o)] n P X Y (q_gv (fun n' P' X' Y' => n' = o + 4 ∧ nAg o P P' X X' Y Y' ∧ (P' o 1 = some (o + 1) ∧ P' o 2 = some (o + 2) ∧ P' o 3 = some (o + 3)) ∧ X' o = X o ∧ X' (o + 1) = (fun _ => 0) ∧ X' (o + 2) = (fun _ => 0) ∧ X' (o + 3) = (fun _ => 0))) := by
  obtain ⟨hs0, hs1, hs2, hs3⟩ := id hs
  subst hn
  refine q_enter (L := [(0, .ref (g.1 + o))]) (by decide) (Nat.le_of_ble_eq_true rfl) rfl ?_
  refine r_aload_n (i := 0) (pc' := 1) dX0_init_0 rfl rfl (.head _) ?_
  refine r_objInit (pc' := 4) dX0_init_1 rfl lX0_3 o_inst o_code (by decide) (Nat.le_of_ble_eq_true rfl) ?_
  refine r_aload_n (i := 0) (pc' := 5) dX0_init_4 rfl rfl (.head _) ?_
  refine r_bipush (pc' := 7) dX0_init_5 rfl (by decide) ?_
  refine r_newi (pc' := 9) dX0_init_7 rfl a_int hs1 rfl (by decide) ?_
  refine r_putRF (pc' := 12) dX0_init_9 rfl fX0_11 rfl rfl rfl (by first | assumption | rfl) (by omega) rfl rfl ?_
  refine r_aload_n (i := 0) (pc' := 13) dX0_init_12 rfl rfl (.head _) ?_
  refine r_bipush (pc' := 15) dX0_init_13 rfl (by decide) ?_
  refine r_newi (pc' := 17) dX0_init_15 rfl a_int hs2 rfl (by decide) ?_
  refine r_putRF (pc' := 20) dX0_init_17 rfl fX0_15 rfl rfl rfl (by first | assumption | rfl) (by omega) rfl rfl ?_
  refine r_aload_n (i := 0) (pc' := 21) dX0_init_20 rfl rfl (.head _) ?_
  refine r_bipush (pc' := 23) dX0_init_21 rfl (by decide) ?_
  refine r_newi (pc' := 25) dX0_init_23 rfl a_int hs3 rfl (by decide) ?_
  refine r_putRF (pc' := 28) dX0_init_25 rfl fX0_18 rfl rfl rfl (by first | assumption | rfl) (by omega) rfl rfl ?_
  refine r_return dX0_init_28 rfl ?_
  refine ⟨rfl, rfl, ((((((nAg.rfl.clr (by omega)).upP (by omega)).clr (by omega)).upP (by omega)).clr (by omega)).upP (by omega)), ⟨?_, ?_, ?_⟩, ?_, ?_, ?_, ?_⟩
  · first | rfl | (simp (disch := omega) only [q_up_ne, q_up_same, q_clr_ne, q_clr_same]; done) | (simp [q_up, q_clr]; done)
  · first | rfl | (simp (disch := omega) only [q_up_ne, q_up_same, q_clr_ne, q_clr_same]; done) | (simp [q_up, q_clr]; done)
  · first | rfl | (simp (disch := omega) only [q_up_ne, q_up_same, q_clr_ne, q_clr_same]; done) | (simp [q_up, q_clr]; done)
  · funext j; first | rfl | (simp (disch := omega) only [q_up_ne, q_up_same, q_clr_ne, q_clr_same]; done) | (simp [q_up, q_clr]; done)
  · funext j; first | rfl | (simp (disch := omega) only [q_up_ne, q_up_same, q_clr_ne, q_clr_same]; done) | (simp [q_up, q_clr]; done)
  · funext j; first | rfl | (simp (disch := omega) only [q_up_ne, q_up_same, q_clr_ne, q_clr_same]; done) | (simp [q_up, q_clr]; done)
  · funext j; first | rfl | (simp (disch := omega) only [q_up_ne, q_up_same, q_clr_ne, q_clr_same]; done) | (simp [q_up, q_clr]; done)
set_option maxHeartbeats 4000000 in
set_option maxRecDepth 100000 in
theorem tX10_init {l : Launch} {g : q_G} {n : Nat} {P : q_P} {X : q_X} {Y : q_Y} {o : Nat} (hs : q_sh o = (10, 6) ∧ q_sh (o + 1) = (20, 40) ∧ q_sh (o + 2) = (20, 40) ∧ q_sh (o + 3) = (20, 40) ∧ q_sh (o + 4) = (22, 40) ∧ q_sh (o + 5) = (20, 40)) (hn : n = o + 1) : q_Met l g mX10_init 1 [.ref (g.1 + o)] n P X Y (q_gv (fun n' P' X' Y' => n' = o + 6 ∧ nAg o P P' X X' Y Y' ∧ (P' o 0 = some (o + 1) ∧ P' o 1 = some (o + 2) ∧ P' o 2 = some (o + 3) ∧ P' o 3 = some (o + 4) ∧ P' o 4 = some (o + 5)) ∧ X' o = X o ∧ X' (o + 1) = (fun _ => 0) ∧ X' (o + 2) = (fun _ => 0) ∧ X' (o + 3) = (fun _ => 0) ∧ X' (o + 4) = (fun _ => 0) ∧ X' (o + 5) = (fun _ => 0))) := by
  obtain ⟨hs0, hs1, hs2, hs3, hs4, hs5⟩ := id hs
  subst hn
  refine q_enter (L := [(0, .ref (g.1 + o))]) (by decide) (Nat.le_of_ble_eq_true rfl) rfl ?_
  refine r_aload_n (i := 0) (pc' := 1) dX10_init_0 rfl rfl (.head _) ?_
  refine r_objInit (pc' := 4) dX10_init_1 rfl lX10_3 o_inst o_code (by decide) (Nat.le_of_ble_eq_true rfl) ?_
  refine r_aload_n (i := 0) (pc' := 5) dX10_init_4 rfl rfl (.head _) ?_
  refine r_bipush (pc' := 7) dX10_init_5 rfl (by decide) ?_
  refine r_newi (pc' := 9) dX10_init_7 rfl a_int hs1 rfl (by decide) ?_
  refine r_putRF (pc' := 12) dX10_init_9 rfl fX10_9 rfl rfl rfl (by first | assumption | rfl) (by omega) rfl rfl ?_
  refine r_aload_n (i := 0) (pc' := 13) dX10_init_12 rfl rfl (.head _) ?_
  refine r_bipush (pc' := 15) dX10_init_13 rfl (by decide) ?_
  refine r_newi (pc' := 17) dX10_init_15 rfl a_int hs2 rfl (by decide) ?_
  refine r_putRF (pc' := 20) dX10_init_17 rfl fX10_15 rfl rfl rfl (by first | assumption | rfl) (by omega) rfl rfl ?_
  refine r_aload_n (i := 0) (pc' := 21) dX10_init_20 rfl rfl (.head _) ?_
  refine r_bipush (pc' := 23) dX10_init_21 rfl (by decide) ?_
  refine r_newi (pc' := 25) dX10_init_23 rfl a_int hs3 rfl (by decide) ?_
  refine r_putRF (pc' := 28) dX10_init_25 rfl fX10_18 rfl rfl rfl (by first | assumption | rfl) (by omega) rfl rfl ?_
  refine r_aload_n (i := 0) (pc' := 29) dX10_init_28 rfl rfl (.head _) ?_
  refine r_bipush (pc' := 31) dX10_init_29 rfl (by decide) ?_
  refine r_newz (pc' := 33) dX10_init_31 rfl a_boolean hs4 rfl (by decide) ?_
  refine r_putRF (pc' := 36) dX10_init_33 rfl fX10_21 rfl rfl rfl (by first | assumption | rfl) (by omega) rfl rfl ?_
  refine r_aload_n (i := 0) (pc' := 37) dX10_init_36 rfl rfl (.head _) ?_
  refine r_bipush (pc' := 39) dX10_init_37 rfl (by decide) ?_
  refine r_newi (pc' := 41) dX10_init_39 rfl a_int hs5 rfl (by decide) ?_
  refine r_putRF (pc' := 44) dX10_init_41 rfl fX10_25 rfl rfl rfl (by first | assumption | rfl) (by omega) rfl rfl ?_
  refine r_return dX10_init_44 rfl ?_
  refine ⟨rfl, rfl, ((((((((((nAg.rfl.clr (by omega)).upP (by omega)).clr (by omega)).upP (by omega)).clr (by omega)).upP (by omega)).clr (by omega)).upP (by omega)).clr (by omega)).upP (by omega)), ⟨?_, ?_, ?_, ?_, ?_⟩, ?_, ?_, ?_, ?_, ?_, ?_⟩
  · first | rfl | (simp (disch := omega) only [q_up_ne, q_up_same, q_clr_ne, q_clr_same]; done) | (simp [q_up, q_clr]; done)
  · first | rfl | (simp (disch := omega) only [q_up_ne, q_up_same, q_clr_ne, q_clr_same]; done) | (simp [q_up, q_clr]; done)
  · first | rfl | (simp (disch := omega) only [q_up_ne, q_up_same, q_clr_ne, q_clr_same]; done) | (simp [q_up, q_clr]; done)
  · first | rfl | (simp (disch := omega) only [q_up_ne, q_up_same, q_clr_ne, q_clr_same]; done) | (simp [q_up, q_clr]; done)
  · first | rfl | (simp (disch := omega) only [q_up_ne, q_up_same, q_clr_ne, q_clr_same]; done) | (simp [q_up, q_clr]; done)
  · funext j; first | rfl | (simp (disch := omega) only [q_up_ne, q_up_same, q_clr_ne, q_clr_same]; done) | (simp [q_up, q_clr]; done)
  · funext j; first | rfl | (simp (disch := omega) only [q_up_ne, q_up_same, q_clr_ne, q_clr_same]; done) | (simp [q_up, q_clr]; done)
  · funext j; first | rfl | (simp (disch := omega) only [q_up_ne, q_up_same, q_clr_ne, q_clr_same]; done) | (simp [q_up, q_clr]; done)
  · funext j; first | rfl | (simp (disch := omega) only [q_up_ne, q_up_same, q_clr_ne, q_clr_same]; done) | (simp [q_up, q_clr]; done)
  · funext j; first | rfl | (simp (disch := omega) only [q_up_ne, q_up_same, q_clr_ne, q_clr_same]; done) | (simp [q_up, q_clr]; done)
  · funext j; first | rfl | (simp (disch := omega) only [q_up_ne, q_up_same, q_clr_ne, q_clr_same]; done) | (simp [q_up, q_clr]; done)
set_option maxHeartbeats 4000000 in
set_option maxRecDepth 100000 in
theorem tX3_init {l : Launch} {g : q_G} {n : Nat} {P : q_P} {X : q_X} {Y : q_Y} {o : Nat} (hs : q_sh o = (3, 13) ∧ q_sh (o + 1) = (20, 10) ∧ q_sh (o + 2) = (20, 10) ∧ q_sh (o + 3) = (20, 10) ∧ q_sh (o + 4) = (20, 10) ∧ q_sh (o + 5) = (20, 10) ∧ q_sh (o + 6) = (20, 10) ∧ q_sh (o + 7) = (20, 10)) (hn : n = o + 1) : q_Met l g mX3_init 1 [.ref (g.1 + o)] n P X Y (q_gv (fun n' P' X' Y' => n' = o + 8 ∧ nAg o P P' X X' Y Y' ∧ (P' o 0 = some (o + 1) ∧ P' o 1 = some (o + 2) ∧ P' o 2 = some (o + 3) ∧ P' o 3 = some (o + 4) ∧ P' o 4 = some (o + 5) ∧ P' o 5 = some (o + 6) ∧ P' o 6 = some (o + 7)) ∧ X' o = X o ∧ X' (o + 1) = (fun _ => 0) ∧ X' (o + 2) = (fun _ => 0) ∧ X' (o + 3) = (fun _ => 0) ∧ X' (o + 4) = (fun _ => 0) ∧ X' (o + 5) = (fun _ => 0) ∧ X' (o + 6) = (fun _ => 0) ∧ X' (o + 7) = (fun _ => 0))) := by
  obtain ⟨hs0, hs1, hs2, hs3, hs4, hs5, hs6, hs7⟩ := id hs
  subst hn
  refine q_enter (L := [(0, .ref (g.1 + o))]) (by decide) (Nat.le_of_ble_eq_true rfl) rfl ?_
  refine r_aload_n (i := 0) (pc' := 1) dX3_init_0 rfl rfl (.head _) ?_
  refine r_objInit (pc' := 4) dX3_init_1 rfl lX3_1 o_inst o_code (by decide) (Nat.le_of_ble_eq_true rfl) ?_
  refine r_aload_n (i := 0) (pc' := 5) dX3_init_4 rfl rfl (.head _) ?_
  refine r_bipush (pc' := 7) dX3_init_5 rfl (by decide) ?_
  refine r_newi (pc' := 9) dX3_init_7 rfl a_int hs1 rfl (by decide) ?_
  refine r_putRF (pc' := 12) dX3_init_9 rfl fX3_9 rfl rfl rfl (by first | assumption | rfl) (by omega) rfl rfl ?_
  refine r_aload_n (i := 0) (pc' := 13) dX3_init_12 rfl rfl (.head _) ?_
  refine r_bipush (pc' := 15) dX3_init_13 rfl (by decide) ?_
  refine r_newi (pc' := 17) dX3_init_15 rfl a_int hs2 rfl (by decide) ?_
  refine r_putRF (pc' := 20) dX3_init_17 rfl fX3_13 rfl rfl rfl (by first | assumption | rfl) (by omega) rfl rfl ?_
  refine r_aload_n (i := 0) (pc' := 21) dX3_init_20 rfl rfl (.head _) ?_
  refine r_bipush (pc' := 23) dX3_init_21 rfl (by decide) ?_
  refine r_newi (pc' := 25) dX3_init_23 rfl a_int hs3 rfl (by decide) ?_
  refine r_putRF (pc' := 28) dX3_init_25 rfl fX3_16 rfl rfl rfl (by first | assumption | rfl) (by omega) rfl rfl ?_
  refine r_aload_n (i := 0) (pc' := 29) dX3_init_28 rfl rfl (.head _) ?_
  refine r_bipush (pc' := 31) dX3_init_29 rfl (by decide) ?_
  refine r_newi (pc' := 33) dX3_init_31 rfl a_int hs4 rfl (by decide) ?_
  refine r_putRF (pc' := 36) dX3_init_33 rfl fX3_19 rfl rfl rfl (by first | assumption | rfl) (by omega) rfl rfl ?_
  refine r_aload_n (i := 0) (pc' := 37) dX3_init_36 rfl rfl (.head _) ?_
  refine r_bipush (pc' := 39) dX3_init_37 rfl (by decide) ?_
  refine r_newi (pc' := 41) dX3_init_39 rfl a_int hs5 rfl (by decide) ?_
  refine r_putRF (pc' := 44) dX3_init_41 rfl fX3_22 rfl rfl rfl (by first | assumption | rfl) (by omega) rfl rfl ?_
  refine r_aload_n (i := 0) (pc' := 45) dX3_init_44 rfl rfl (.head _) ?_
  refine r_bipush (pc' := 47) dX3_init_45 rfl (by decide) ?_
  refine r_newi (pc' := 49) dX3_init_47 rfl a_int hs6 rfl (by decide) ?_
  refine r_putRF (pc' := 52) dX3_init_49 rfl fX3_25 rfl rfl rfl (by first | assumption | rfl) (by omega) rfl rfl ?_
  refine r_aload_n (i := 0) (pc' := 53) dX3_init_52 rfl rfl (.head _) ?_
  refine r_bipush (pc' := 55) dX3_init_53 rfl (by decide) ?_
  refine r_newi (pc' := 57) dX3_init_55 rfl a_int hs7 rfl (by decide) ?_
  refine r_putRF (pc' := 60) dX3_init_57 rfl fX3_28 rfl rfl rfl (by first | assumption | rfl) (by omega) rfl rfl ?_
  refine r_return dX3_init_60 rfl ?_
  refine ⟨rfl, rfl, ((((((((((((((nAg.rfl.clr (by omega)).upP (by omega)).clr (by omega)).upP (by omega)).clr (by omega)).upP (by omega)).clr (by omega)).upP (by omega)).clr (by omega)).upP (by omega)).clr (by omega)).upP (by omega)).clr (by omega)).upP (by omega)), ⟨?_, ?_, ?_, ?_, ?_, ?_, ?_⟩, ?_, ?_, ?_, ?_, ?_, ?_, ?_, ?_⟩
  · first | rfl | (simp (disch := omega) only [q_up_ne, q_up_same, q_clr_ne, q_clr_same]; done) | (simp [q_up, q_clr]; done)
  · first | rfl | (simp (disch := omega) only [q_up_ne, q_up_same, q_clr_ne, q_clr_same]; done) | (simp [q_up, q_clr]; done)
  · first | rfl | (simp (disch := omega) only [q_up_ne, q_up_same, q_clr_ne, q_clr_same]; done) | (simp [q_up, q_clr]; done)
  · first | rfl | (simp (disch := omega) only [q_up_ne, q_up_same, q_clr_ne, q_clr_same]; done) | (simp [q_up, q_clr]; done)
  · first | rfl | (simp (disch := omega) only [q_up_ne, q_up_same, q_clr_ne, q_clr_same]; done) | (simp [q_up, q_clr]; done)
  · first | rfl | (simp (disch := omega) only [q_up_ne, q_up_same, q_clr_ne, q_clr_same]; done) | (simp [q_up, q_clr]; done)
  · first | rfl | (simp (disch := omega) only [q_up_ne, q_up_same, q_clr_ne, q_clr_same]; done) | (simp [q_up, q_clr]; done)
  · funext j; first | rfl | (simp (disch := omega) only [q_up_ne, q_up_same, q_clr_ne, q_clr_same]; done) | (simp [q_up, q_clr]; done)
  · funext j; first | rfl | (simp (disch := omega) only [q_up_ne, q_up_same, q_clr_ne, q_clr_same]; done) | (simp [q_up, q_clr]; done)
  · funext j; first | rfl | (simp (disch := omega) only [q_up_ne, q_up_same, q_clr_ne, q_clr_same]; done) | (simp [q_up, q_clr]; done)
  · funext j; first | rfl | (simp (disch := omega) only [q_up_ne, q_up_same, q_clr_ne, q_clr_same]; done) | (simp [q_up, q_clr]; done)
  · funext j; first | rfl | (simp (disch := omega) only [q_up_ne, q_up_same, q_clr_ne, q_clr_same]; done) | (simp [q_up, q_clr]; done)
  · funext j; first | rfl | (simp (disch := omega) only [q_up_ne, q_up_same, q_clr_ne, q_clr_same]; done) | (simp [q_up, q_clr]; done)
  · funext j; first | rfl | (simp (disch := omega) only [q_up_ne, q_up_same, q_clr_ne, q_clr_same]; done) | (simp [q_up, q_clr]; done)
  · funext j; first | rfl | (simp (disch := omega) only [q_up_ne, q_up_same, q_clr_ne, q_clr_same]; done) | (simp [q_up, q_clr]; done)
set_option maxHeartbeats 4000000 in
set_option maxRecDepth 100000 in
theorem tX2_init {l : Launch} {g : q_G} {n : Nat} {P : q_P} {X : q_X} {Y : q_Y} {o N : Nat} (hs : q_sh o = (2, 2) ∧ q_sh (o + 1) = (20, N)) (hN : N ≤ 500) (hn : n = o + 1) : q_Met l g mX2_init 1 [.ref (g.1 + o), .int (zi (N : Int))] n P X Y (q_gv (fun n' P' X' Y' => n' = o + 2 ∧ nAg o P P' X X' Y Y' ∧ P' o 0 = some (o + 1) ∧ X' o = X o ∧ X' (o + 1) = (fun _ => 0))) := by
  obtain ⟨hs0, hs1⟩ := id hs
  subst hn
  refine q_enter (L := [(0, .ref (g.1 + o)), (1, .int (zi (N : Int)))]) (by decide) (Nat.le_of_ble_eq_true rfl) rfl ?_
  refine r_aload_n (i := 0) (pc' := 1) dX2_init_0 rfl rfl (.head _) ?_
  refine r_objInit (pc' := 4) dX2_init_1 rfl lX2_3 o_inst o_code (by decide) (Nat.le_of_ble_eq_true rfl) ?_
  refine r_aload_n (i := 0) (pc' := 5) dX2_init_4 rfl rfl (.head _) ?_
  refine r_iconst (pc' := 6) dX2_init_5 rfl ?_
  refine r_iload_n (i := 1) (pc' := 7) dX2_init_6 rfl rfl (.tail _ (.head _)) ?_
  refine r_max (pc' := 10) dX2_init_7 rfl lX2_9 (by decide) (Nat.le_of_ble_eq_true rfl) (by first | omega | exact xv_in _ _ _) (by first | omega | exact xv_in _ _ _) ?_
  rw [show max 0 (N : Int) = (N : Int) by omega]
  refine r_newi (pc' := 12) dX2_init_10 rfl a_int hs1 rfl (by omega) ?_
  refine r_putRF (pc' := 15) dX2_init_12 rfl fX2_15 rfl rfl rfl (by first | assumption | rfl) (by omega) rfl rfl ?_
  refine r_return dX2_init_15 rfl ?_
  refine ⟨rfl, rfl, ((nAg.rfl.clr (by omega)).upP (by omega)), ?_, ?_, ?_⟩
  · first | rfl | (simp (disch := omega) only [q_up_ne, q_up_same, q_clr_ne, q_clr_same]; done) | (simp [q_up, q_clr]; done)
  · funext j; first | rfl | (simp (disch := omega) only [q_up_ne, q_up_same, q_clr_ne, q_clr_same]; done) | (simp [q_up, q_clr]; done)
  · funext j; first | rfl | (simp (disch := omega) only [q_up_ne, q_up_same, q_clr_ne, q_clr_same]; done) | (simp [q_up, q_clr]; done)
