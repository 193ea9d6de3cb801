theorem xv_raw {X X' : q_X} {a : Nat} (h : xv X' a = xv X a) : X' a = X a := by
  funext j
  have := congrFun h j
  exact Int32.toInt_inj.mp this
theorem bAcg {C C' : q_X} {d : Nat} (h : bA C d) (e : ∀ q, q < 220 → xv C' (d + q) = xv C (d + q)) : bA C' d := by
  have hs : bS C C' d := fun q hq _ => xv_raw (e q hq)
  exact hs.a h
theorem bA_lim {C : q_X} {d y : Nat} {v : Int} (hA : bA C d) (hy : y < 20) (hv : 0 ≤ v ∧ v ≤ 999999) : bA (q_up C (d + 1) y (zi v)) d := by
  obtain ⟨hO, hL, hF⟩ := hA
  obtain ⟨o0, o1, o2, o3, o4, o5, o6, o10, oc, op0, opz, opi, om0, omi, olim⟩ := id hO
  have er : ∀ a, a ≠ d + 1 → xv (q_up C (d + 1) y (zi v)) a = xv C a := fun a ha => xv_up_row _ _ _ ha
  have ez := er d (by omega)
  refine ⟨?_, fun k hk hs => ?_, bF_mk hF (er _ (by omega)) (er _ (by omega))⟩
  · unfold bOk
    rw [ez, er (d + 4) (by omega), er (d + 5) (by omega), er (d + 6) (by omega), er (d + 7) (by omega), er (d + 8) (by omega), er (d + 9) (by omega), er (d + 10) (by omega), er (d + 11) (by omega), er (d + 12) (by omega), er (d + 13) (by omega), er (d + 14) (by omega)]
    refine ⟨o0, o1, o2, o3, o4, o5, o6, o10, fun k hk => cOk_ag (fun q hq => er _ (by unfold con; omega)) (oc k hk), op0, opz, opi, om0, omi, fun j hj => ?_⟩
    by_cases e : j = y
    · subst e; rw [xv_up_same _ _ _ (by omega)]; exact hv
    · rw [xv_up_ne _ _ (by omega)]; exact olim j hj
  · rw [ez] at hk ⊢
    rw [er _ (by unfold con; omega)] at hs ⊢
    exact hL k hk hs
theorem bA_f2 {C : q_X} {d : Nat} {v : Int} (hA : bA C d) (hv : 0 ≤ v ∧ v ≤ 364) : bA (q_up C d 2 (zi v)) d := by
  obtain ⟨hO, hL, hF⟩ := hA
  obtain ⟨o0, o1, o2, o3, o4, o5, o6, o10, oc, op0, opz, opi, om0, omi, olim⟩ := id hO
  have er : ∀ a, a ≠ d → xv (q_up C d 2 (zi v)) a = xv C a := fun a ha => xv_up_row _ _ _ ha
  have en : ∀ i, i ≠ 2 → xv (q_up C d 2 (zi v)) d i = xv C d i := fun i hi => xv_up_ne _ _ (by omega)
  have ej : xv (q_up C d 2 (zi v)) d 2 = v := xv_up_same _ _ _ (by omega)
  refine ⟨?_, fun k hk hs => ?_, bF_mk hF (er _ (by omega)) (er _ (by omega))⟩
  · unfold bOk
    rw [en 0 (by omega), en 1 (by omega), ej, en 3 (by omega), en 4 (by omega), en 5 (by omega), en 6 (by omega), en 10 (by omega), er (d + 1) (by omega), er (d + 4) (by omega), er (d + 5) (by omega), er (d + 6) (by omega), er (d + 7) (by omega), er (d + 8) (by omega), er (d + 9) (by omega), er (d + 10) (by omega), er (d + 11) (by omega), er (d + 12) (by omega), er (d + 13) (by omega), er (d + 14) (by omega)]
    exact ⟨o0, o1, hv, o3, o4, o5, o6, o10, fun k hk => cOk_ag (fun q hq => er _ (by unfold con; omega)) (oc k hk), op0, opz, opi, om0, omi, olim⟩
  · rw [en 10 (by omega)] at hk
    rw [en 0 (by omega)]
    rw [er _ (by unfold con; omega)] at hs ⊢
    exact hL k hk hs
theorem bA_f3 {C : q_X} {d : Nat} {v : Int} (hA : bA C d) (hv : 0 ≤ v ∧ v ≤ 364) : bA (q_up C d 3 (zi v)) d := by
  obtain ⟨hO, hL, hF⟩ := hA
  obtain ⟨o0, o1, o2, o3, o4, o5, o6, o10, oc, op0, opz, opi, om0, omi, olim⟩ := id hO
  have er : ∀ a, a ≠ d → xv (q_up C d 3 (zi v)) a = xv C a := fun a ha => xv_up_row _ _ _ ha
  have en : ∀ i, i ≠ 3 → xv (q_up C d 3 (zi v)) d i = xv C d i := fun i hi => xv_up_ne _ _ (by omega)
  have ej : xv (q_up C d 3 (zi v)) d 3 = v := xv_up_same _ _ _ (by omega)
  refine ⟨?_, fun k hk hs => ?_, bF_mk hF (er _ (by omega)) (er _ (by omega))⟩
  · unfold bOk
    rw [en 0 (by omega), en 1 (by omega), en 2 (by omega), ej, en 4 (by omega), en 5 (by omega), en 6 (by omega), en 10 (by omega), er (d + 1) (by omega), er (d + 4) (by omega), er (d + 5) (by omega), er (d + 6) (by omega), er (d + 7) (by omega), er (d + 8) (by omega), er (d + 9) (by omega), er (d + 10) (by omega), er (d + 11) (by omega), er (d + 12) (by omega), er (d + 13) (by omega), er (d + 14) (by omega)]
    exact ⟨o0, o1, o2, hv, o4, o5, o6, o10, fun k hk => cOk_ag (fun q hq => er _ (by unfold con; omega)) (oc k hk), op0, opz, opi, om0, omi, olim⟩
  · rw [en 10 (by omega)] at hk
    rw [en 0 (by omega)]
    rw [er _ (by unfold con; omega)] at hs ⊢
    exact hL k hk hs
theorem bA_f4 {C : q_X} {d : Nat} {v : Int} (hA : bA C d) (hv : 0 ≤ v ∧ v ≤ 364) : bA (q_up C d 4 (zi v)) d := by
  obtain ⟨hO, hL, hF⟩ := hA
  obtain ⟨o0, o1, o2, o3, o4, o5, o6, o10, oc, op0, opz, opi, om0, omi, olim⟩ := id hO
  have er : ∀ a, a ≠ d → xv (q_up C d 4 (zi v)) a = xv C a := fun a ha => xv_up_row _ _ _ ha
  have en : ∀ i, i ≠ 4 → xv (q_up C d 4 (zi v)) d i = xv C d i := fun i hi => xv_up_ne _ _ (by omega)
  have ej : xv (q_up C d 4 (zi v)) d 4 = v := xv_up_same _ _ _ (by omega)
  refine ⟨?_, fun k hk hs => ?_, bF_mk hF (er _ (by omega)) (er _ (by omega))⟩
  · unfold bOk
    rw [en 0 (by omega), en 1 (by omega), en 2 (by omega), en 3 (by omega), ej, en 5 (by omega), en 6 (by omega), en 10 (by omega), er (d + 1) (by omega), er (d + 4) (by omega), er (d + 5) (by omega), er (d + 6) (by omega), er (d + 7) (by omega), er (d + 8) (by omega), er (d + 9) (by omega), er (d + 10) (by omega), er (d + 11) (by omega), er (d + 12) (by omega), er (d + 13) (by omega), er (d + 14) (by omega)]
    exact ⟨o0, o1, o2, o3, hv, o5, o6, o10, fun k hk => cOk_ag (fun q hq => er _ (by unfold con; omega)) (oc k hk), op0, opz, opi, om0, omi, olim⟩
  · rw [en 10 (by omega)] at hk
    rw [en 0 (by omega)]
    rw [er _ (by unfold con; omega)] at hs ⊢
    exact hL k hk hs
theorem bA_f5 {C : q_X} {d : Nat} {v : Int} (hA : bA C d) (hv : 1 ≤ v ∧ v ≤ 40) : bA (q_up C d 5 (zi v)) d := by
  obtain ⟨hO, hL, hF⟩ := hA
  obtain ⟨o0, o1, o2, o3, o4, o5, o6, o10, oc, op0, opz, opi, om0, omi, olim⟩ := id hO
  have er : ∀ a, a ≠ d → xv (q_up C d 5 (zi v)) a = xv C a := fun a ha => xv_up_row _ _ _ ha
  have en : ∀ i, i ≠ 5 → xv (q_up C d 5 (zi v)) d i = xv C d i := fun i hi => xv_up_ne _ _ (by omega)
  have ej : xv (q_up C d 5 (zi v)) d 5 = v := xv_up_same _ _ _ (by omega)
  refine ⟨?_, fun k hk hs => ?_, bF_mk hF (er _ (by omega)) (er _ (by omega))⟩
  · unfold bOk
    rw [en 0 (by omega), en 1 (by omega), en 2 (by omega), en 3 (by omega), en 4 (by omega), ej, en 6 (by omega), en 10 (by omega), er (d + 1) (by omega), er (d + 4) (by omega), er (d + 5) (by omega), er (d + 6) (by omega), er (d + 7) (by omega), er (d + 8) (by omega), er (d + 9) (by omega), er (d + 10) (by omega), er (d + 11) (by omega), er (d + 12) (by omega), er (d + 13) (by omega), er (d + 14) (by omega)]
    exact ⟨o0, o1, o2, o3, o4, hv, o6, o10, fun k hk => cOk_ag (fun q hq => er _ (by unfold con; omega)) (oc k hk), op0, opz, opi, om0, omi, olim⟩
  · rw [en 10 (by omega)] at hk
    rw [en 0 (by omega)]
    rw [er _ (by unfold con; omega)] at hs ⊢
    exact hL k hk hs
theorem bA_f6 {C : q_X} {d : Nat} {v : Int} (hA : bA C d) (hv : 0 ≤ v ∧ v ≤ 9999) : bA (q_up C d 6 (zi v)) d := by
  obtain ⟨hO, hL, hF⟩ := hA
  obtain ⟨o0, o1, o2, o3, o4, o5, o6, o10, oc, op0, opz, opi, om0, omi, olim⟩ := id hO
  have er : ∀ a, a ≠ d → xv (q_up C d 6 (zi v)) a = xv C a := fun a ha => xv_up_row _ _ _ ha
  have en : ∀ i, i ≠ 6 → xv (q_up C d 6 (zi v)) d i = xv C d i := fun i hi => xv_up_ne _ _ (by omega)
  have ej : xv (q_up C d 6 (zi v)) d 6 = v := xv_up_same _ _ _ (by omega)
  refine ⟨?_, fun k hk hs => ?_, bF_mk hF (er _ (by omega)) (er _ (by omega))⟩
  · unfold bOk
    rw [en 0 (by omega), en 1 (by omega), en 2 (by omega), en 3 (by omega), en 4 (by omega), en 5 (by omega), ej, en 10 (by omega), er (d + 1) (by omega), er (d + 4) (by omega), er (d + 5) (by omega), er (d + 6) (by omega), er (d + 7) (by omega), er (d + 8) (by omega), er (d + 9) (by omega), er (d + 10) (by omega), er (d + 11) (by omega), er (d + 12) (by omega), er (d + 13) (by omega), er (d + 14) (by omega)]
    exact ⟨o0, o1, o2, o3, o4, o5, hv, o10, fun k hk => cOk_ag (fun q hq => er _ (by unfold con; omega)) (oc k hk), op0, opz, opi, om0, omi, olim⟩
  · rw [en 10 (by omega)] at hk
    rw [en 0 (by omega)]
    rw [er _ (by unfold con; omega)] at hs ⊢
    exact hL k hk hs
theorem bA_rdLim {C : q_X} {d : Nat} (hd : d + 220 ≤ 441) (hA : bA C d) : bA (rdLim C d) d := by
  have b1 : 0 ≤ rd_numV C 0 19 ∧ rd_numV C 0 19 ≤ 19 := rd_numV_b (by omega)
  have b2 : 0 ≤ rd_numV (rdN C 0 19) 0 999999 ∧ rd_numV (rdN C 0 19) 0 999999 ≤ 999999 := rd_numV_b (by omega)
  refine bAcg (bA_lim (y := (rd_numV C 0 19).toNat) hA (by omega) b2) (fun q hq => ?_)
  unfold rdLim
  exact xv_ru (by rw [rd_num_o (by omega), rdN_o (by omega)])
theorem bA_rdDays {C : q_X} {d : Nat} (hd : d + 220 ≤ 441) (hA : bA C d) : bA (rdDays C d) d := by
  have h1 : bA (rdDa1 C d) d := bAcg (bA_f2 hA (rd_numV_b (X := C) (lo := 0) (by omega))) (fun q hq => xv_ru (rdN_o (by omega)))
  have h2 : bA (rdDa2 (rdDa1 C d) d) d := bAcg (bA_f3 h1 (rd_numV_b (X := rdDa1 C d) (lo := 0) (by omega))) (fun q hq => xv_ru (rdN_o (by omega)))
  exact bAcg (bA_f4 h2 (rd_numV_b (X := rdDa2 (rdDa1 C d) d) (lo := 0) (by omega))) (fun q hq => xv_ru (rd_num_o (by omega)))
theorem bA_rdLea {C : q_X} {d : Nat} (hd : d + 220 ≤ 441) (hA : bA C d) : bA (rdLea C d) d := bAcg (bA_f6 hA (rd_numV_b (X := C) (lo := 0) (by omega))) (fun q hq => xv_ru (rd_num_o (by omega)))
theorem bA_rdCnt {C : q_X} {d : Nat} (hd : d + 220 ≤ 441) (hA : bA C d) (h1 : 1 ≤ rd_numV C 1 40) : bA (rdCnt C d) d := bAcg (bA_f5 hA ⟨h1, (rd_numV_b (X := C) (lo := 1) (by omega)).2⟩) (fun q hq => xv_ru (rd_num_o (by omega)))
theorem it_l {C : q_X} {d : Nat} (h : rd C (xv C 444 1) = 108) : rdItem C d = rdLim (rd_skip C) d := by
  unfold rdItem; rw [h, if_neg (by omega), if_pos rfl]
theorem it_d {C : q_X} {d : Nat} (h : rd C (xv C 444 1) = 100) : rdItem C d = rdDays (rd_skip C) d := by
  unfold rdItem; rw [h, if_neg (by omega), if_neg (by omega), if_pos rfl]
theorem it_c {C : q_X} {d : Nat} (h : rd C (xv C 444 1) = 99) : rdItem C d = rdCnt (rd_skip C) d := by
  unfold rdItem; rw [h, if_neg (by omega), if_neg (by omega), if_neg (by omega), if_pos rfl]
theorem it_m {C : q_X} {d : Nat} (h : rd C (xv C 444 1) = 109) : rdItem C d = rdLea (rd_skip C) d := by
  unfold rdItem; rw [h, if_neg (by omega), if_neg (by omega), if_neg (by omega), if_neg (by omega), if_pos rfl]
theorem it_p {C : q_X} {d : Nat} (h : rd C (xv C 444 1) = 112) (h40 : xv C d 10 < 40) : rdItem C d = rdCon (rd_skip C) d := by
  unfold rdItem; rw [h, if_neg (by omega), if_neg (by omega), if_neg (by omega), if_neg (by omega), if_neg (by omega), if_pos rfl]
theorem it_p4 {C : q_X} {d : Nat} (h : rd C (xv C 444 1) = 112) (h40 : ¬ xv C d 10 < 40) : rdItem C d = rd_fail C (xv C 444 1) := by
  unfold rdItem; rw [if_pos ⟨h, by omega⟩]
theorem it_n {C : q_X} {d : Nat} (h1 : ¬ rd C (xv C 444 1) = 108) (h2 : ¬ rd C (xv C 444 1) = 100) (h3 : ¬ rd C (xv C 444 1) = 99) (h4 : ¬ rd C (xv C 444 1) = 109) (h5 : ¬ rd C (xv C 444 1) = 112) : rdItem C d = rd_fail C (xv C 444 1) := by
  unfold rdItem; rw [if_neg (fun q => h5 q.1), if_neg h1, if_neg h2, if_neg h3, if_neg h4, if_neg h5]
