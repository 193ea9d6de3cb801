/-! a contract is read: there -/
def pyB (C : q_X) (d q : Nat) : Int := rd_numV (rd_exp (rdPays (rd8 C d) d (rdc C d) q) 58) (xv (rdPays (rd8 C d) d (rdc C d) q) d 6) 99999
def pyR (C : q_X) (d q : Nat) : Int := rd_numV (rdN (rd_exp (rdPays (rd8 C d) d (rdc C d) q) 58) (xv (rdPays (rd8 C d) d (rdc C d) q) d 6) 99999) 0 99999
theorem pyB_b (C : q_X) (d q : Nat) : 0 ≤ pyB C d q ∧ pyB C d q ≤ 99999 := rd_numV_b (by omega)
theorem pyR_b (C : q_X) (d q : Nat) : 0 ≤ pyR C d q ∧ pyR C d q ≤ 99999 := rd_numV_b (by omega)
theorem rdPays_s (C : q_X) (d i : Nat) : rdPays (rd8 C d) d (rdc C d) (i + 1) = c_put (rd_numX (rdN (rd_exp (rdPays (rd8 C d) d (rdc C d) i) 58) (xv (rdPays (rd8 C d) d (rdc C d) i) d 6) 99999) 0 99999) (rdc C d) (i : Int) (pyB C d i) (pyR C d i) := rfl
theorem rdPays_at {C : q_X} {d : Nat} (hc : rdc C d + 5 ≤ 441) (j : Nat) : ∀ i : Nat, i ≤ 10 → xv (rdPays (rd8 C d) d (rdc C d) i) (rdc C d + 1) j = (if j < i then pyB C d j else xv (rd8 C d) (rdc C d + 1) j) ∧ xv (rdPays (rd8 C d) d (rdc C d) i) (rdc C d + 2) j = (if j < i then pyR C d j else xv (rd8 C d) (rdc C d + 2) j)
  | 0, _ => by rw [rdPays, if_neg (by omega), if_neg (by omega)]; exact ⟨rfl, rfl⟩
  | i + 1, hi => by
    obtain ⟨q1, q2⟩ := rdPays_at hc j i (by omega)
    have b1 := pyB_b C d i
    have b2 := pyR_b C d i
    rw [rdPays_s, c_put, if_pos (by omega), Int.toNat_natCast]
    by_cases e : j = i
    · subst e
      rw [if_pos (by omega), if_pos (by omega), xv_up_ne _ _ (by omega), xv_up_same _ _ _ (by omega), xv_up_same _ _ _ (by omega)]
      exact ⟨rfl, rfl⟩
    · rw [xv_up_ne _ _ (by omega), xv_up_ne _ _ (by omega), xv_up_ne _ _ (by omega), xv_up_ne _ _ (by omega), rd_num_o (by omega), rdN_o (by omega), rd_exp_o (by omega), rd_num_o (by omega), rdN_o (by omega), rd_exp_o (by omega), q1, q2]
      by_cases g : j < i
      · rw [if_pos g, if_pos g, if_pos (by omega), if_pos (by omega)]; exact ⟨rfl, rfl⟩
      · rw [if_neg g, if_neg g, if_neg (by omega), if_neg (by omega)]; exact ⟨rfl, rfl⟩
abbrev conOk (C : q_X) (d : Nat) : Prop := xv C d 0 ≤ rdf C d ∧ rdf C d ≤ 19 ∧ 1 ≤ rdy C d ∧ rdy C d ≤ min 6 (20 - rdf C d) ∧ 0 ≤ rdv C d ∧ rdv C d ≤ min 4 (20 - rdf C d - rdy C d)
abbrev conX (C : q_X) (d : Nat) : q_X := rdPays (rd8 C d) d (rdc C d) (rdy C d).toNat
theorem conX_o {C : q_X} {d a : Nat} (h1 : a ≠ 444) (h2 : a ≠ d) (h3 : a < rdc C d ∨ rdc C d + 4 < a) : xv (conX C d) a = xv C a := by
  rw [rdPays_o (by omega), rd8_o ⟨h1, h2, h3⟩]
theorem conX_d {C : q_X} {d : Nat} (hd : d + 220 ≤ 441) (hz : 0 ≤ xv C d 10 ∧ xv C d 10 < 40) (j : Nat) : xv (conX C d) d j = if j = 10 then xv C d 10 + 1 else xv C d j := by
  have hc : rdc C d = d + 20 + 5 * (xv C d 10).toNat := rfl
  rw [rdPays_o (by omega), rd8, c_spread_o _ _ _ _ (by omega), rd7, c_start_o _ _ _ _ _ _ (by omega), rd6]
  by_cases e : j = 10
  · subst e; rw [if_pos rfl, xv_up_same _ _ _ (by omega)]
  · rw [if_neg e, xv_up_ne _ _ (by omega), rd5_o (by omega)]
theorem conX_n {C : q_X} {d : Nat} (hd : d + 220 ≤ 441) (hz : 0 ≤ xv C d 10 ∧ xv C d 10 < 40) (h0 : 0 ≤ xv C d 0) (h : conOk C d) : NC (conX C d) (rdc C d) (rdf C d) (rdy C d) (rdv C d) (rds C d) (rdb C d) (pyB C d) (pyR C d) := by
  have hc : rdc C d = d + 20 + 5 * (xv C d 10).toNat := rfl
  obtain ⟨f1, f2, y1, y2, v1, v2⟩ := h
  have bb : 0 ≤ rdb C d ∧ rdb C d ≤ 99999 := rd_numV_b (by omega)
  have sb : 0 ≤ rds C d ∧ rds C d ≤ 100 := rd_numV_b (by omega)
  have s0 := c_start_c (rd6 C d) (rdc C d) (f := rdf C d) (y := rdy C d) (v := rdv C d) (s := rds C d) (by omega) (by omega) (by omega) (by omega)
  rw [← rd7] at s0
  have s3 : ∀ q j, 1 ≤ q → q ≤ 4 → j < 10 → xv (rd7 C d) (rdc C d + q) j = 0 := fun q j h1 h2 hj => by rw [rd7, c_start_z _ _ _ _ _ _ ⟨h1, h2⟩ hj]
  have hl : c_last (rd7 C d) (rdc C d) - rdf C d + 1 = rdy C d + rdv C d := by unfold c_last; rw [s0.1, s0.2.1, s0.2.2.1]; omega
  have hsp := c_spread_at (X := rd7 C d) (c := rdc C d) (row := 0) (y := rdf C d) (b := rdb C d) (by rw [s0.1]; omega) (by omega) bb (fun j hj => by rw [s3 3 j (by omega) (by omega) hj]; omega) (by rw [s3 4 0 (by omega) (by omega) (by omega)]; omega)
  rw [hl, ← rd8] at hsp
  have hcc : ∀ j, xv (conX C d) (rdc C d) j = xv (rd7 C d) (rdc C d) j := fun j => by rw [rdPays_o (by omega), rd8, c_spread_o _ _ _ _ (by omega)]
  refine ⟨⟨by rw [hcc]; exact s0.1, by rw [hcc]; exact s0.2.1, by rw [hcc]; exact s0.2.2.1, by rw [hcc]; exact s0.2.2.2.1, by rw [hcc]; exact s0.2.2.2.2.1, by rw [hcc]; exact s0.2.2.2.2.2⟩, fun j hj => ?_, fun j hj => ?_⟩
  · have q := rdPays_at (C := C) (d := d) (by omega) j (rdy C d).toNat (by omega)
    rw [if_pos (by omega), if_pos (by omega)] at q
    exact q
  · rw [rdPays_o (by omega), rdPays_o (by omega), hsp.1 j hj, hsp.2 j, s3 3 j (by omega) (by omega) hj, s3 4 j (by omega) (by omega) hj, if_pos (by omega), Nat.sub_zero]
    exact ⟨by omega, by omega⟩
theorem bA_con {C : q_X} {d : Nat} (hd : d + 220 ≤ 441) (hA : bA C d) (h40 : xv C d 10 < 40) (h : conOk C d) : bA (conX C d) d := by
  obtain ⟨hO, hv, hF⟩ := hA
  obtain ⟨o0, o1, o2, o3, o4, o5, o6, o10, oc, op0, opz, opi, om0, omi, olim⟩ := id hO
  have hc : rdc C d = d + 20 + 5 * (xv C d 10).toNat := rfl
  have hcon : con d (xv C d 10).toNat = rdc C d := rfl
  obtain ⟨f1, f2, y1, y2, v1, v2⟩ := id h
  have bb : 0 ≤ rdb C d ∧ rdb C d ≤ 99999 := rd_numV_b (by omega)
  have sb : 0 ≤ rds C d ∧ rds C d ≤ 100 := rd_numV_b (by omega)
  have zb := fun j => conX_d (C := C) hd (by omega) j
  have rA := fun a h1 h2 h3 => conX_o (C := C) (d := d) (a := a) h1 h2 h3
  have hn := conX_n hd (by omega) (by omega) h
  have hcn : cOk (conX C d) (rdc C d) := by
    refine cOk_new (Xs := rd6 C d) (f := rdf C d) (y := rdy C d) (v := rdv C d) (s := rds C d) (bonus := rdb C d) (by omega) (by omega) (by omega) (by omega) (by omega) sb bb (fun j hj => ?_) (fun j hj => ?_) (fun j hj => ?_) (fun j hj => ?_)
    · rw [rdPays_o (by omega), rd8, c_spread_o _ _ _ _ (by omega), ← rd7]
    · rw [rdPays_o (by omega), ← rd7, ← rd8]
    · rw [rdPays_o (by omega), ← rd7, ← rd8]
    · have q := rdPays_at (C := C) (d := d) (by omega) j (rdy C d).toNat (by omega)
      have b1 := pyB_b C d j
      have b2 := pyR_b C d j
      have e1 : xv (rd8 C d) (rdc C d + 1) j = 0 := by rw [rd8, c_spread_o _ _ _ _ (by omega), rd7, c_start_z _ _ _ _ _ _ (by omega) hj]
      have e2 : xv (rd8 C d) (rdc C d + 2) j = 0 := by rw [rd8, c_spread_o _ _ _ _ (by omega), rd7, c_start_z _ _ _ _ _ _ (by omega) hj]
      rw [e1, e2] at q
      rw [q.1, q.2]
      refine ⟨?_, ?_, ?_, ?_, fun q => ?_⟩
      · split <;> omega
      · split <;> omega
      · split <;> omega
      · split <;> omega
      · rw [if_neg (by omega), if_neg (by omega)]; exact ⟨rfl, rfl⟩
  have hck : ∀ k : Nat, (k : Int) < xv C d 10 → ∀ q, q ≤ 4 → xv (conX C d) (con d k + q) = xv C (con d k + q) := fun k hk q hq => rA _ (by unfold con; omega) (by unfold con; omega) (by unfold con; omega)
  refine ⟨?_, fun k hk hs => ?_, bF_mk hF (rA _ (by omega) (by omega) (by omega)) (rA _ (by omega) (by omega) (by omega))⟩
  · unfold bOk
    rw [zb, zb, zb, zb, zb, zb, zb, zb, if_neg (by omega), if_neg (by omega), if_neg (by omega), if_neg (by omega), if_neg (by omega), if_neg (by omega), if_neg (by omega), if_pos rfl, rA (d + 1) (by omega) (by omega) (by omega), rA (d + 4) (by omega) (by omega) (by omega), rA (d + 5) (by omega) (by omega) (by omega), rA (d + 6) (by omega) (by omega) (by omega), rA (d + 7) (by omega) (by omega) (by omega), rA (d + 8) (by omega) (by omega) (by omega), rA (d + 9) (by omega) (by omega) (by omega), rA (d + 10) (by omega) (by omega) (by omega), rA (d + 11) (by omega) (by omega) (by omega), rA (d + 12) (by omega) (by omega) (by omega), rA (d + 13) (by omega) (by omega) (by omega), rA (d + 14) (by omega) (by omega) (by omega)]
    refine ⟨o0, o1, o2, o3, o4, o5, o6, by omega, fun k hk => ?_, op0, opz, fun j hj => ?_, om0, omi, olim⟩
    · by_cases e : k = (xv C d 10).toNat
      · subst e; rw [hcon]; exact hcn
      · exact cOk_ag (fun q hq => hck k (by omega) q hq) (oc k (by omega))
    · have := opi j hj; omega
  · rw [zb, if_pos rfl] at hk
    rw [zb, if_neg (by omega)]
    by_cases e : k = (xv C d 10).toNat
    · subst e
      rw [hcon, hn.1.1, hn.1.2.1]; omega
    · have e0 := hck k (by omega) 0 (by omega)
      rw [Nat.add_zero] at e0
      rw [e0] at hs ⊢
      exact hv k (by omega) hs
theorem RB_con {C : q_X} {d : Nat} {R R' : Nat → Int} (hd : d + 220 ≤ 441) (hO : bOk C d) (hT : xv C (d + 15) 0 ≤ 80) (hB : RB C d R) (h40 : xv C d 10 < 40) (h : conOk C d)
    (e : ∀ j, j < 3740 → j ≠ 7 → (j < 130 + 86 * (xv C d 10).toNat ∨ 130 + 86 * (xv C d 10).toNat + 86 ≤ j) → R' j = R j) (e7 : R' 7 = xv C d 10 + 1)
    (en : NR (fun j => R' (130 + 86 * (xv C d 10).toNat + j)) (rdf C d) (rdy C d) (rdv C d) (rds C d) (rdb C d) (pyB C d) (pyR C d)) : RB (conX C d) d R' := by
  obtain ⟨o0, o1, o2, o3, o4, o5, o6, o10, oc, op0, opz, opi, om0, omi, olim⟩ := id hO
  obtain ⟨⟨h1, h2⟩, h3, h4, h5, h6, h7⟩ := hB
  have hc : rdc C d = d + 20 + 5 * (xv C d 10).toNat := rfl
  have zb := fun j => conX_d (C := C) hd (by omega) j
  have rA := fun a h1 h2 h3 => conX_o (C := C) (d := d) (a := a) h1 h2 h3
  have hn := conX_n hd (by omega) (by omega) h
  have hyy : rdy C d ≤ 10 := by omega
  refine ⟨⟨fun j hj => ?_, ?_⟩, fun y hy => ?_, fun k hk => ?_, ?_, ?_, ?_⟩
  · rw [e j (by omega) (by omega) (by omega), zb, if_neg (by omega)]; exact h1 j hj
  · rw [e7, zb, if_pos rfl]
  · rw [e _ (by omega) (by omega) (by omega), e _ (by omega) (by omega) (by omega), rA _ (by omega) (by omega) (by omega), rA _ (by omega) (by omega) (by omega)]; exact h3 y hy
  · rw [zb, if_pos rfl] at hk
    by_cases ek : k = (xv C d 10).toNat
    · subst ek
      exact RC_new hn en hyy
    · have hk2 : (k : Int) < xv C d 10 := by omega
      have hag : cAg C (conX C d) (con d k) := fun q hq => rA _ (by unfold con; omega) (by unfold con; omega) (by unfold con; omega)
      refine ⟨fun j hj => ?_, fun y hy => ?_⟩
      · dsimp only; rw [e _ (by omega) (by omega) (by omega), hag.z]; exact (h4 k hk2).1 j hj
      · dsimp only; rw [e _ (by omega) (by omega) (by omega), e _ (by omega) (by omega) (by omega), e _ (by omega) (by omega) (by omega), e _ (by omega) (by omega) (by omega), c_base_ag hag, c_roster_ag hag, c_parts_ag hag, c_given_ag hag]; exact (h4 k hk2).2 y hy
  · unfold RM
    rw [rA (d + 10) (by omega) (by omega) (by omega), rA (d + 11) (by omega) (by omega) (by omega), rA (d + 12) (by omega) (by omega) (by omega), rA (d + 13) (by omega) (by omega) (by omega), rA (d + 14) (by omega) (by omega) (by omega)]
    refine ⟨by rw [e _ (by omega) (by omega) (by omega)]; exact h5.1, fun i hi => ?_⟩
    rw [e _ (by omega) (by omega) (by omega), e _ (by omega) (by omega) (by omega), e _ (by omega) (by omega) (by omega), e _ (by omega) (by omega) (by omega)]; exact h5.2 i hi
  · unfold RP
    rw [rA (d + 4) (by omega) (by omega) (by omega), rA (d + 5) (by omega) (by omega) (by omega), rA (d + 6) (by omega) (by omega) (by omega), rA (d + 7) (by omega) (by omega) (by omega), rA (d + 8) (by omega) (by omega) (by omega), rA (d + 9) (by omega) (by omega) (by omega)]
    refine ⟨by rw [e _ (by omega) (by omega) (by omega)]; exact h6.1, fun i hi => ?_⟩
    rw [e _ (by omega) (by omega) (by omega), e _ (by omega) (by omega) (by omega), e _ (by omega) (by omega) (by omega), e _ (by omega) (by omega) (by omega), e _ (by omega) (by omega) (by omega)]; exact h6.2 i hi
  · unfold RF
    rw [rA (d + 15) (by omega) (by omega) (by omega), rA (d + 16) (by omega) (by omega) (by omega)]
    refine ⟨by rw [e _ (by omega) (by omega) (by omega)]; exact h7.1, by rw [e _ (by omega) (by omega) (by omega), e _ (by omega) (by omega) (by omega)]; exact h7.2.1, fun i hi => ?_⟩
    rw [e _ (by omega) (by omega) (by omega)]; exact h7.2.2 i hi
