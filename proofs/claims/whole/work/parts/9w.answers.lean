/-! answers: the class and the reference say the same -/
theorem pair_ans {l : Launch} {g : q_G} {mc mr : q_M} {dc dr : Nat} {As : List Value} {n : Nat} {P : q_P} {X : q_X} {Y : q_Y} {b d x : Nat} (hS : JS n P X b d x) (hV : JV P X X b x) {Q Q2 : Int → Prop}
    (hc : q_Met l g mc dc (.ref (g.1 + 0) :: As) n P X Y (q_gi (fun r n' P' X' Y' => n' = n ∧ P' = P ∧ tOL b X X' ∧ Q r)))
    (hr : ∀ X' Y', RB X b (xv X' 468) → (∀ a, 466 < a → X' a = X a) → q_Met l g mr dr (.ref (g.1 + 467) :: As) n P X' Y' (q_gi (fun r n2 P2 X2 Y2 => n2 = n ∧ P2 = P ∧ aOut X' X2 ∧ Q2 r)))
    (hQ : ∀ r r2, Q r → Q2 r2 → zi r2 = zi r) : q_Met l g mc dc (.ref (g.1 + 0) :: As) n P X Y (q_gi (fun r n' P' X' Y' => q_Met l g mr dr (.ref (g.1 + 467) :: As) n' P' X' Y' (q_gi (fun r2 n2 P2 X2 _ => zi r2 = zi r ∧ J n2 P2 X2)))) := by
  refine q_Met.mono (fun v N P' X' Y' h => ?_) hc
  obtain ⟨r, e1, rfl, rfl, e4, e5⟩ := h
  refine ⟨r, e1, ?_⟩
  have e6 : ∀ a, 466 < a → X' a = X a := fun a ha => e4 a (by omega) (by have := hS.b; omega)
  refine q_Met.mono (fun v2 N2 P2 X2 Y2 h2 => ?_) (hr X' Y' (by rw [xr (e6 468 (by omega))]; exact hV.1.2) e6)
  obtain ⟨r2, f1, rfl, rfl, f4, f5⟩ := h2
  exact ⟨r2, f1, hQ r r2 e5 f5, J_ans hS hV e4 f4⟩
section AN
variable {l : Launch} {g : q_G} {m : q_M} {dp : Nat} {As : List Value} {n : Nat} {P : q_P} {X : q_X} {Y : q_Y} {w : Int} {b : Nat}
theorem qpv_c (h : q_Met l g m dp As n P X Y (q_pv (.int (zi w)) n P X Y)) : q_Met l g m dp As n P X Y (q_gi (fun r n' P' X' Y' => n' = n ∧ P' = P ∧ tOL b X X' ∧ zi r = zi w)) := by
  refine q_Met.mono (fun v N P' X' Y' h => ?_) h
  obtain ⟨h1, rfl, rfl, rfl, rfl⟩ := h
  exact ⟨w, h1, rfl, rfl, tOL.rfl, rfl⟩
theorem qit_c (h : q_Met l g m dp As n P X Y (q_it w n P X Y)) : q_Met l g m dp As n P X Y (q_gi (fun r n' P' X' Y' => n' = n ∧ P' = P ∧ tOL b X X' ∧ zi r = zi w)) := by
  refine q_Met.mono (fun v N P' X' Y' h => ?_) h
  obtain ⟨r, h1, rfl, rfl, rfl, h5, h6⟩ := h
  exact ⟨r, h1, rfl, rfl, h5.ol, h6⟩
theorem qgi_c {Q : Int → Prop} (h : q_Met l g m dp As n P X Y (q_gi (fun r' n' P' X' Y' => n' = n ∧ P' = P ∧ Y' = Y ∧ tOut X X' ∧ Q r'))) : q_Met l g m dp As n P X Y (q_gi (fun r n' P' X' Y' => n' = n ∧ P' = P ∧ tOL b X X' ∧ Q r)) := by
  refine q_Met.mono (fun v N P' X' Y' h => ?_) h
  obtain ⟨r, h1, rfl, rfl, rfl, h5, h6⟩ := h
  exact ⟨r, h1, rfl, rfl, h5.ol, h6⟩
theorem qip_c {Q : Int → Prop} (h : q_Met l g m dp As n P X Y (q_ip Q n P X Y)) : q_Met l g m dp As n P X Y (q_gi (fun r n' P' X' Y' => n' = n ∧ P' = P ∧ tOL b X X' ∧ Q r)) := by
  refine q_Met.mono (fun v N P' X' Y' h => ?_) h
  obtain ⟨r, h1, rfl, rfl, rfl, rfl, h6⟩ := h
  exact ⟨r, h1, rfl, rfl, tOL.rfl, h6⟩
theorem qpv_r (h : q_Met l g m dp As n P X Y (q_pv (.int (zi w)) n P X Y)) : q_Met l g m dp As n P X Y (q_gi (fun r n' P' X' Y' => n' = n ∧ P' = P ∧ aOut X X' ∧ zi r = zi w)) := by
  refine q_Met.mono (fun v N P' X' Y' h => ?_) h
  obtain ⟨h1, rfl, rfl, rfl, rfl⟩ := h
  exact ⟨w, h1, rfl, rfl, aOut.rfl, rfl⟩
theorem qh_r {Q : Int → Prop} (h : q_Met l g m dp As n P X Y (q_gi (fun r' n' P' X' Y' => n' = n ∧ P' = P ∧ Y' = Y ∧ hOut X X' ∧ Q r'))) : q_Met l g m dp As n P X Y (q_gi (fun r n' P' X' Y' => n' = n ∧ P' = P ∧ aOut X X' ∧ Q r)) := by
  refine q_Met.mono (fun v N P' X' Y' h => ?_) h
  obtain ⟨r, h1, rfl, rfl, rfl, h5, h6⟩ := h
  exact ⟨r, h1, rfl, rfl, h5.a, h6⟩
theorem qa_r {Q : Int → Prop} (h : q_Met l g m dp As n P X Y (q_gi (fun r' n' P' X' Y' => n' = n ∧ P' = P ∧ Y' = Y ∧ aOut X X' ∧ Q r'))) : q_Met l g m dp As n P X Y (q_gi (fun r n' P' X' Y' => n' = n ∧ P' = P ∧ aOut X X' ∧ Q r)) := by
  refine q_Met.mono (fun v N P' X' Y' h => ?_) h
  obtain ⟨r, h1, rfl, rfl, rfl, h5, h6⟩ := h
  exact ⟨r, h1, rfl, rfl, h5, h6⟩
end AN
theorem j_is {l : Launch} {g : q_G} {n : Nat} {P : q_P} {X : q_X} {Y : q_Y} (hJ : J n P X) {a1 : Int} (h1 : q_in a1) : q_Met l g mX11_is 1 [.ref (g.1 + 0), .int (zi a1)] n P X Y (q_gi (fun r n' P' X' Y' => q_Met l g mX12_is 3 [.ref (g.1 + 467), .int (zi a1)] n' P' X' Y' (q_gi (fun r2 n2 P2 X2 _ => zi r2 = zi r ∧ J n2 P2 X2)))) := by
  obtain ⟨b, d, x, hS, hV⟩ := hJ
  obtain ⟨s1, s2, s3, s4, s5, s6, s7, s8, s9, s10, s11, s12⟩ := id hS
  have vA := hV.1.1
  exact pair_ans hS hV (qpv_c (tX11_is s1 s2 vA.1 s7 h1)) (fun X' Y' hR e => qpv_r (tX12_is s12 hR vA.1 (by rw [xr (e 467 (by omega))]; exact hV.2.1.1.1) (by rw [xr (e 467 (by omega))]; exact hV.2.2.1.2.2.1) h1)) (fun _ _ h h2 => h2.trans h.symm)
theorem j_limit {l : Launch} {g : q_G} {n : Nat} {P : q_P} {X : q_X} {Y : q_Y} (hJ : J n P X) {a1 : Int} (h1 : q_in a1) : q_Met l g mX11_limit 1 [.ref (g.1 + 0), .int (zi a1)] n P X Y (q_gi (fun r n' P' X' Y' => q_Met l g mX12_limit 2 [.ref (g.1 + 467), .int (zi a1)] n' P' X' Y' (q_gi (fun r2 n2 P2 X2 _ => zi r2 = zi r ∧ J n2 P2 X2)))) := by
  obtain ⟨b, d, x, hS, hV⟩ := hJ
  obtain ⟨s1, s2, s3, s4, s5, s6, s7, s8, s9, s10, s11, s12⟩ := id hS
  have vA := hV.1.1
  exact pair_ans hS hV (qpv_c (tX11_limit s1 s2 vA.1 h1)) (fun X' Y' hR e => qpv_r (tX12_limit s12 hR vA.1 h1)) (fun _ _ h h2 => h2.trans h.symm)
theorem j_dead {l : Launch} {g : q_G} {n : Nat} {P : q_P} {X : q_X} {Y : q_Y} (hJ : J n P X) {a1 : Int} (h1 : q_in a1) : q_Met l g mX11_dead 1 [.ref (g.1 + 0), .int (zi a1)] n P X Y (q_gi (fun r n' P' X' Y' => q_Met l g mX12_dead 2 [.ref (g.1 + 467), .int (zi a1)] n' P' X' Y' (q_gi (fun r2 n2 P2 X2 _ => zi r2 = zi r ∧ J n2 P2 X2)))) := by
  obtain ⟨b, d, x, hS, hV⟩ := hJ
  obtain ⟨s1, s2, s3, s4, s5, s6, s7, s8, s9, s10, s11, s12⟩ := id hS
  have vA := hV.1.1
  exact pair_ans hS hV (qpv_c (tX11_dead s1 s2 vA.1 h1)) (fun X' Y' hR e => qpv_r (tX12_dead s12 hR vA.1 h1)) (fun _ _ h h2 => h2.trans h.symm)
theorem j_contract {l : Launch} {g : q_G} {n : Nat} {P : q_P} {X : q_X} {Y : q_Y} (hJ : J n P X) {a1 a2 : Int} (h1 : q_in a1) (h2 : q_in a2) : q_Met l g mX11_contract 5 [.ref (g.1 + 0), .int (zi a1), .int (zi a2)] n P X Y (q_gi (fun r n' P' X' Y' => q_Met l g mX12_contract 5 [.ref (g.1 + 467), .int (zi a1), .int (zi a2)] n' P' X' Y' (q_gi (fun r2 n2 P2 X2 _ => zi r2 = zi r ∧ J n2 P2 X2)))) := by
  obtain ⟨b, d, x, hS, hV⟩ := hJ
  obtain ⟨s1, s2, s3, s4, s5, s6, s7, s8, s9, s10, s11, s12⟩ := id hS
  have vA := hV.1.1
  exact pair_ans hS hV (qit_c (tX11_contract s1 s2 vA.1 (Or.inl hS.b.1) s8 h1 h2)) (fun X' Y' hR e => qh_r (tX12_contract s12 hR vA.1 h1 h2 vA.2.1)) (fun _ _ h h2 => (congrArg zi h2).trans h.symm)
theorem j_pay {l : Launch} {g : q_G} {n : Nat} {P : q_P} {X : q_X} {Y : q_Y} (hJ : J n P X) {a1 a2 a3 : Int} (h1 : q_in a1) (h2 : q_in a2) (h3 : q_in a3) : q_Met l g mX11_pay 3 [.ref (g.1 + 0), .int (zi a1), .int (zi a2), .int (zi a3)] n P X Y (q_gi (fun r n' P' X' Y' => q_Met l g mX12_pay 3 [.ref (g.1 + 467), .int (zi a1), .int (zi a2), .int (zi a3)] n' P' X' Y' (q_gi (fun r2 n2 P2 X2 _ => zi r2 = zi r ∧ J n2 P2 X2)))) := by
  obtain ⟨b, d, x, hS, hV⟩ := hJ
  obtain ⟨s1, s2, s3, s4, s5, s6, s7, s8, s9, s10, s11, s12⟩ := id hS
  have vA := hV.1.1
  exact pair_ans hS hV (qpv_c (tX11_pay s1 s2 vA.1 h1 h2 h3)) (fun X' Y' hR e => qpv_r (tX12_pay s12 hR vA.1 h1 h2 h3)) (fun _ _ h h2 => h2.trans h.symm)
theorem j_now {l : Launch} {g : q_G} {n : Nat} {P : q_P} {X : q_X} {Y : q_Y} (hJ : J n P X) {a1 : Int} (h1 : q_in a1) : q_Met l g mX11_now 4 [.ref (g.1 + 0), .int (zi a1)] n P X Y (q_gi (fun r n' P' X' Y' => q_Met l g mX12_now 7 [.ref (g.1 + 467), .int (zi a1)] n' P' X' Y' (q_gi (fun r2 n2 P2 X2 _ => zi r2 = zi r ∧ J n2 P2 X2)))) := by
  obtain ⟨b, d, x, hS, hV⟩ := hJ
  obtain ⟨s1, s2, s3, s4, s5, s6, s7, s8, s9, s10, s11, s12⟩ := id hS
  have vA := hV.1.1
  exact pair_ans hS hV (qit_c (tX11_now s1 s2 vA.1 (Or.inl hS.b.1) s8 h1)) (fun X' Y' hR e => qh_r (tX12_now s12 hR vA.1 h1)) (fun _ _ h h2 => (congrArg zi h2).trans h.symm)
theorem j_would {l : Launch} {g : q_G} {n : Nat} {P : q_P} {X : q_X} {Y : q_Y} (hJ : J n P X) {a1 a2 : Int} (h1 : q_in a1) (h2 : q_in a2) : q_Met l g mX11_would 5 [.ref (g.1 + 0), .int (zi a1), .int (zi a2)] n P X Y (q_gi (fun r n' P' X' Y' => q_Met l g mX12_would 7 [.ref (g.1 + 467), .int (zi a1), .int (zi a2)] n' P' X' Y' (q_gi (fun r2 n2 P2 X2 _ => zi r2 = zi r ∧ J n2 P2 X2)))) := by
  obtain ⟨b, d, x, hS, hV⟩ := hJ
  obtain ⟨s1, s2, s3, s4, s5, s6, s7, s8, s9, s10, s11, s12⟩ := id hS
  have vA := hV.1.1
  exact pair_ans hS hV (qit_c (tX11_would s1 s2 vA.1 (Or.inl hS.b.1) s8 h1 h2)) (fun X' Y' hR e => qh_r (tX12_would s12 hR vA.1 h1 h2)) (fun _ _ h h2 => (congrArg zi h2).trans h.symm)
theorem j_set {l : Launch} {g : q_G} {n : Nat} {P : q_P} {X : q_X} {Y : q_Y} (hJ : J n P X) {a1 a2 : Int} (h1 : q_in a1) (h2 : q_in a2) : q_Met l g mX11_set 6 [.ref (g.1 + 0), .int (zi a1), .int (zi a2)] n P X Y (q_gi (fun r n' P' X' Y' => q_Met l g mX12_set 7 [.ref (g.1 + 467), .int (zi a1), .int (zi a2)] n' P' X' Y' (q_gi (fun r2 n2 P2 X2 _ => zi r2 = zi r ∧ J n2 P2 X2)))) := by
  obtain ⟨b, d, x, hS, hV⟩ := hJ
  obtain ⟨s1, s2, s3, s4, s5, s6, s7, s8, s9, s10, s11, s12⟩ := id hS
  have vA := hV.1.1
  exact pair_ans hS hV (qit_c (tX11_set s1 s2 vA.1 (Or.inl hS.b.1) s8 s9 h1 h2)) (fun X' Y' hR e => qa_r (tX12_set s12 hR vA.1 h1 h2)) (fun _ _ h h2 => (congrArg zi h2).trans h.symm)
theorem j_turned {l : Launch} {g : q_G} {n : Nat} {P : q_P} {X : q_X} {Y : q_Y} (hJ : J n P X) {a1 a2 : Int} (h1 : q_in a1) (h2 : q_in a2) : q_Met l g mX11_turned 4 [.ref (g.1 + 0), .int (zi a1), .int (zi a2)] n P X Y (q_gi (fun r n' P' X' Y' => q_Met l g mX12_turned 6 [.ref (g.1 + 467), .int (zi a1), .int (zi a2)] n' P' X' Y' (q_gi (fun r2 n2 P2 X2 _ => zi r2 = zi r ∧ J n2 P2 X2)))) := by
  obtain ⟨b, d, x, hS, hV⟩ := hJ
  obtain ⟨s1, s2, s3, s4, s5, s6, s7, s8, s9, s10, s11, s12⟩ := id hS
  have vA := hV.1.1
  exact pair_ans hS hV (qit_c (tX11_turned s1 s2 vA.1 (Or.inl hS.b.1) s8 h1 h2)) (fun X' Y' hR e => qh_r (tX12_turned s12 hR vA.1 h1 h2)) (fun _ _ h h2 => (congrArg zi h2).trans h.symm)
theorem j_ahead {l : Launch} {g : q_G} {n : Nat} {P : q_P} {X : q_X} {Y : q_Y} (hJ : J n P X) {a1 : Int} (h1 : q_in a1) : q_Met l g mX11_ahead 4 [.ref (g.1 + 0), .int (zi a1)] n P X Y (q_gi (fun r n' P' X' Y' => q_Met l g mX12_ahead 3 [.ref (g.1 + 467), .int (zi a1)] n' P' X' Y' (q_gi (fun r2 n2 P2 X2 _ => zi r2 = zi r ∧ J n2 P2 X2)))) := by
  obtain ⟨b, d, x, hS, hV⟩ := hJ
  obtain ⟨s1, s2, s3, s4, s5, s6, s7, s8, s9, s10, s11, s12⟩ := id hS
  have vA := hV.1.1
  exact pair_ans hS hV (qpv_c (tX11_ahead s1 s2 vA.1 h1)) (fun X' Y' hR e => qpv_r (tX12_ahead s12 hR vA.1 h1)) (fun _ _ h h2 => h2.trans h.symm)
theorem j_bestDay {l : Launch} {g : q_G} {n : Nat} {P : q_P} {X : q_X} {Y : q_Y} (hJ : J n P X) {a1 : Int} (h1 : q_in a1) : q_Met l g mX11_bestDay 4 [.ref (g.1 + 0), .int (zi a1)] n P X Y (q_gi (fun r n' P' X' Y' => q_Met l g mX12_bestDay 4 [.ref (g.1 + 467), .int (zi a1)] n' P' X' Y' (q_gi (fun r2 n2 P2 X2 _ => zi r2 = zi r ∧ J n2 P2 X2)))) := by
  obtain ⟨b, d, x, hS, hV⟩ := hJ
  obtain ⟨s1, s2, s3, s4, s5, s6, s7, s8, s9, s10, s11, s12⟩ := id hS
  have vA := hV.1.1
  exact pair_ans hS hV (qpv_c (tX11_bestDay s1 s2 vA.1 h1)) (fun X' Y' hR e => qpv_r (tX12_bestDay s12 hR vA.1 h1)) (fun _ _ h h2 => h2.trans h.symm)
theorem j_coins {l : Launch} {g : q_G} {n : Nat} {P : q_P} {X : q_X} {Y : q_Y} (hJ : J n P X) {a1 a2 : Int} (h1 : q_in a1) (h2 : q_in a2) : q_Met l g mX11_coins 2 [.ref (g.1 + 0), .int (zi a1), .int (zi a2)] n P X Y (q_gi (fun r n' P' X' Y' => q_Met l g mX12_coins 3 [.ref (g.1 + 467), .int (zi a1), .int (zi a2)] n' P' X' Y' (q_gi (fun r2 n2 P2 X2 _ => zi r2 = zi r ∧ J n2 P2 X2)))) := by
  obtain ⟨b, d, x, hS, hV⟩ := hJ
  obtain ⟨s1, s2, s3, s4, s5, s6, s7, s8, s9, s10, s11, s12⟩ := id hS
  have vA := hV.1.1
  exact pair_ans hS hV (qpv_c (tX11_coins s1 s2 vA.1 h1 h2)) (fun X' Y' hR e => qpv_r (tX12_coins s12 hR vA.1 h1 h2)) (fun _ _ h h2 => h2.trans h.symm)
theorem j_freeYear {l : Launch} {g : q_G} {n : Nat} {P : q_P} {X : q_X} {Y : q_Y} (hJ : J n P X) {a1 : Int} (h1 : q_in a1) : q_Met l g mX11_freeYear 3 [.ref (g.1 + 0), .int (zi a1)] n P X Y (q_gi (fun r n' P' X' Y' => q_Met l g mX12_freeYear 3 [.ref (g.1 + 467), .int (zi a1)] n' P' X' Y' (q_gi (fun r2 n2 P2 X2 _ => zi r2 = zi r ∧ J n2 P2 X2)))) := by
  obtain ⟨b, d, x, hS, hV⟩ := hJ
  obtain ⟨s1, s2, s3, s4, s5, s6, s7, s8, s9, s10, s11, s12⟩ := id hS
  have vA := hV.1.1
  exact pair_ans hS hV (qpv_c (tX11_freeYear s1 s2 vA.1 h1)) (fun X' Y' hR e => qpv_r (tX12_freeYear s12 hR vA.1 h1)) (fun _ _ h h2 => h2.trans h.symm)
theorem j_allTurned {l : Launch} {g : q_G} {n : Nat} {P : q_P} {X : q_X} {Y : q_Y} (hJ : J n P X) : q_Met l g mX11_allTurned 4 [.ref (g.1 + 0)] n P X Y (q_gi (fun r n' P' X' Y' => q_Met l g mX12_allTurned 7 [.ref (g.1 + 467)] n' P' X' Y' (q_gi (fun r2 n2 P2 X2 _ => zi r2 = zi r ∧ J n2 P2 X2)))) := by
  obtain ⟨b, d, x, hS, hV⟩ := hJ
  obtain ⟨s1, s2, s3, s4, s5, s6, s7, s8, s9, s10, s11, s12⟩ := id hS
  have vA := hV.1.1
  exact pair_ans hS hV (qgi_c (tX11_allTurned s1 s2 vA.1 (Or.inl hS.b.1) s8)) (fun X' Y' hR e => qh_r (tX12_allTurned s12 hR vA.1)) (fun _ _ h h2 => (congrArg zi h2).trans (congrArg zi h).symm)
theorem j_ranked {l : Launch} {g : q_G} {n : Nat} {P : q_P} {X : q_X} {Y : q_Y} (hJ : J n P X) {a1 : Int} (h1 : q_in a1) : q_Met l g mX11_ranked 4 [.ref (g.1 + 0), .int (zi a1)] n P X Y (q_gi (fun r n' P' X' Y' => q_Met l g mX12_ranked 4 [.ref (g.1 + 467), .int (zi a1)] n' P' X' Y' (q_gi (fun r2 n2 P2 X2 _ => zi r2 = zi r ∧ J n2 P2 X2)))) := by
  obtain ⟨b, d, x, hS, hV⟩ := hJ
  obtain ⟨s1, s2, s3, s4, s5, s6, s7, s8, s9, s10, s11, s12⟩ := id hS
  have vA := hV.1.1
  exact pair_ans hS hV (qit_c (tX11_ranked s1 s2 vA.1 (Or.inl hS.b.1) s8 h1)) (fun X' Y' hR e => qpv_r (tX12_ranked s12 hR vA.1 h1)) (fun _ _ h h2 => h2.trans h.symm)
theorem j_fit {l : Launch} {g : q_G} {n : Nat} {P : q_P} {X : q_X} {Y : q_Y} (hJ : J n P X) {a1 a2 : Int} (h1 : q_in a1) (h2 : q_in a2) : q_Met l g mX11_fit 6 [.ref (g.1 + 0), .int (zi a1), .int (zi a2)] n P X Y (q_gi (fun r n' P' X' Y' => q_Met l g mX12_fit 7 [.ref (g.1 + 467), .int (zi a1), .int (zi a2)] n' P' X' Y' (q_gi (fun r2 n2 P2 X2 _ => zi r2 = zi r ∧ J n2 P2 X2)))) := by
  obtain ⟨b, d, x, hS, hV⟩ := hJ
  obtain ⟨s1, s2, s3, s4, s5, s6, s7, s8, s9, s10, s11, s12⟩ := id hS
  have vA := hV.1.1
  exact pair_ans hS hV (qit_c (tX11_fit s1 s2 vA.1 (Or.inl hS.b.1) s8 s9 h1 h2)) (fun X' Y' hR e => qa_r (tX12_fit s12 hR vA.1 h1 h2)) (fun _ _ h h2 => (congrArg zi h2).trans h.symm)
theorem j_piece {l : Launch} {g : q_G} {n : Nat} {P : q_P} {X : q_X} {Y : q_Y} (hJ : J n P X) {a1 a2 a3 : Int} (h1 : q_in a1) (h2 : q_in a2) (h3 : q_in a3) : q_Met l g mX11_piece 3 [.ref (g.1 + 0), .int (zi a1), .int (zi a2), .int (zi a3)] n P X Y (q_gi (fun r n' P' X' Y' => q_Met l g mX12_piece 4 [.ref (g.1 + 467), .int (zi a1), .int (zi a2), .int (zi a3)] n' P' X' Y' (q_gi (fun r2 n2 P2 X2 _ => zi r2 = zi r ∧ J n2 P2 X2)))) := by
  obtain ⟨b, d, x, hS, hV⟩ := hJ
  obtain ⟨s1, s2, s3, s4, s5, s6, s7, s8, s9, s10, s11, s12⟩ := id hS
  have vA := hV.1.1
  exact pair_ans hS hV (qpv_c (tX11_piece s1 s2 vA.1 h1 h2 h3)) (fun X' Y' hR e => qpv_r (tX12_piece s12 hR vA.1 h1 h2 h3)) (fun _ _ h h2 => h2.trans h.symm)
theorem j_lastDay {l : Launch} {g : q_G} {n : Nat} {P : q_P} {X : q_X} {Y : q_Y} (hJ : J n P X) {a1 a2 : Int} (h1 : q_in a1) (h2 : q_in a2) : q_Met l g mX11_lastDay 6 [.ref (g.1 + 0), .int (zi a1), .int (zi a2)] n P X Y (q_gi (fun r n' P' X' Y' => q_Met l g mX12_lastDay 7 [.ref (g.1 + 467), .int (zi a1), .int (zi a2)] n' P' X' Y' (q_gi (fun r2 n2 P2 X2 _ => zi r2 = zi r ∧ J n2 P2 X2)))) := by
  obtain ⟨b, d, x, hS, hV⟩ := hJ
  obtain ⟨s1, s2, s3, s4, s5, s6, s7, s8, s9, s10, s11, s12⟩ := id hS
  have vA := hV.1.1
  exact pair_ans hS hV (qit_c (tX11_lastDay s1 s2 vA.1 (Or.inl hS.b.1) s8 h1 h2)) (fun X' Y' hR e => qh_r (tX12_lastDay s12 hR vA.1 h1 h2)) (fun _ _ h h2 => (congrArg zi h2).trans h.symm)
theorem j_cash {l : Launch} {g : q_G} {n : Nat} {P : q_P} {X : q_X} {Y : q_Y} (hJ : J n P X) {a1 a2 : Int} (h1 : q_in a1) (h2 : q_in a2) : q_Met l g mX11_cash 3 [.ref (g.1 + 0), .int (zi a1), .int (zi a2)] n P X Y (q_gi (fun r n' P' X' Y' => q_Met l g mX12_cash 4 [.ref (g.1 + 467), .int (zi a1), .int (zi a2)] n' P' X' Y' (q_gi (fun r2 n2 P2 X2 _ => zi r2 = zi r ∧ J n2 P2 X2)))) := by
  obtain ⟨b, d, x, hS, hV⟩ := hJ
  obtain ⟨s1, s2, s3, s4, s5, s6, s7, s8, s9, s10, s11, s12⟩ := id hS
  have vA := hV.1.1
  exact pair_ans hS hV (qpv_c (tX11_cash s1 s2 vA.1 h1 h2)) (fun X' Y' hR e => qpv_r (tX12_cash s12 hR vA.1 h1 h2)) (fun _ _ h h2 => h2.trans h.symm)
theorem j_allCash {l : Launch} {g : q_G} {n : Nat} {P : q_P} {X : q_X} {Y : q_Y} (hJ : J n P X) {a1 : Int} (h1 : q_in a1) : q_Met l g mX11_allCash 4 [.ref (g.1 + 0), .int (zi a1)] n P X Y (q_gi (fun r n' P' X' Y' => q_Met l g mX12_allCash 4 [.ref (g.1 + 467), .int (zi a1)] n' P' X' Y' (q_gi (fun r2 n2 P2 X2 _ => zi r2 = zi r ∧ J n2 P2 X2)))) := by
  obtain ⟨b, d, x, hS, hV⟩ := hJ
  obtain ⟨s1, s2, s3, s4, s5, s6, s7, s8, s9, s10, s11, s12⟩ := id hS
  have vA := hV.1.1
  exact pair_ans hS hV (qpv_c (tX11_allCash s1 s2 vA.1 h1)) (fun X' Y' hR e => qpv_r (tX12_allCash s12 hR vA.1 h1)) (fun _ _ h h2 => h2.trans h.symm)
theorem j_tag {l : Launch} {g : q_G} {n : Nat} {P : q_P} {X : q_X} {Y : q_Y} (hJ : J n P X) {a1 : Int} (h1 : q_in a1) : q_Met l g mX11_tag 4 [.ref (g.1 + 0), .int (zi a1)] n P X Y (q_gi (fun r n' P' X' Y' => q_Met l g mX12_tag 4 [.ref (g.1 + 467), .int (zi a1)] n' P' X' Y' (q_gi (fun r2 n2 P2 X2 _ => zi r2 = zi r ∧ J n2 P2 X2)))) := by
  obtain ⟨b, d, x, hS, hV⟩ := hJ
  obtain ⟨s1, s2, s3, s4, s5, s6, s7, s8, s9, s10, s11, s12⟩ := id hS
  have vA := hV.1.1
  exact pair_ans hS hV (qit_c (tX11_tag s1 s2 vA.1 (Or.inl hS.b.1) s8 h1)) (fun X' Y' hR e => qpv_r (tX12_tag s12 hR vA.1 h1)) (fun _ _ h h2 => h2.trans h.symm)
theorem j_share {l : Launch} {g : q_G} {n : Nat} {P : q_P} {X : q_X} {Y : q_Y} (hJ : J n P X) {a1 : Int} (h1 : q_in a1) : q_Met l g mX11_share 1 [.ref (g.1 + 0), .int (zi a1)] n P X Y (q_gi (fun r n' P' X' Y' => q_Met l g mX12_share 2 [.ref (g.1 + 467), .int (zi a1)] n' P' X' Y' (q_gi (fun r2 n2 P2 X2 _ => zi r2 = zi r ∧ J n2 P2 X2)))) := by
  obtain ⟨b, d, x, hS, hV⟩ := hJ
  obtain ⟨s1, s2, s3, s4, s5, s6, s7, s8, s9, s10, s11, s12⟩ := id hS
  have vA := hV.1.1
  exact pair_ans hS hV (qpv_c (tX11_share s1 s2 vA.1 h1)) (fun X' Y' hR e => qpv_r (tX12_share s12 hR vA.1 h1)) (fun _ _ h h2 => h2.trans h.symm)
theorem j_offer {l : Launch} {g : q_G} {n : Nat} {P : q_P} {X : q_X} {Y : q_Y} (hJ : J n P X) {a1 a2 : Int} (h1 : q_in a1) (h2 : q_in a2) : q_Met l g mX11_offer 3 [.ref (g.1 + 0), .int (zi a1), .int (zi a2)] n P X Y (q_gi (fun r n' P' X' Y' => q_Met l g mX12_offer 2 [.ref (g.1 + 467), .int (zi a1), .int (zi a2)] n' P' X' Y' (q_gi (fun r2 n2 P2 X2 _ => zi r2 = zi r ∧ J n2 P2 X2)))) := by
  obtain ⟨b, d, x, hS, hV⟩ := hJ
  obtain ⟨s1, s2, s3, s4, s5, s6, s7, s8, s9, s10, s11, s12⟩ := id hS
  have vA := hV.1.1
  exact pair_ans hS hV (qpv_c (tX11_offer s1 s2 vA.1 h1 h2)) (fun X' Y' hR e => qpv_r (tX12_offer s12 hR vA.1 h1 h2)) (fun _ _ h h2 => h2.trans h.symm)
theorem j_buys {l : Launch} {g : q_G} {n : Nat} {P : q_P} {X : q_X} {Y : q_Y} (hJ : J n P X) {a1 : Int} (h1 : q_in a1) : q_Met l g mX11_buys 4 [.ref (g.1 + 0), .int (zi a1)] n P X Y (q_gi (fun r n' P' X' Y' => q_Met l g mX12_buys 7 [.ref (g.1 + 467), .int (zi a1)] n' P' X' Y' (q_gi (fun r2 n2 P2 X2 _ => zi r2 = zi r ∧ J n2 P2 X2)))) := by
  obtain ⟨b, d, x, hS, hV⟩ := hJ
  obtain ⟨s1, s2, s3, s4, s5, s6, s7, s8, s9, s10, s11, s12⟩ := id hS
  have vA := hV.1.1
  exact pair_ans hS hV (qit_c (tX11_buys s1 s2 vA.1 (Or.inl hS.b.1) s8 s9 h1)) (fun X' Y' hR e => qh_r (tX12_buys s12 hR vA.1 h1)) (fun _ _ h h2 => (congrArg zi h2).trans h.symm)
theorem j_promised {l : Launch} {g : q_G} {n : Nat} {P : q_P} {X : q_X} {Y : q_Y} (hJ : J n P X) {a1 a2 : Int} (h1 : q_in a1) (h2 : q_in a2) : q_Met l g mX11_promised 1 [.ref (g.1 + 0), .int (zi a1), .int (zi a2)] n P X Y (q_gi (fun r n' P' X' Y' => q_Met l g mX12_promised 2 [.ref (g.1 + 467), .int (zi a1), .int (zi a2)] n' P' X' Y' (q_gi (fun r2 n2 P2 X2 _ => zi r2 = zi r ∧ J n2 P2 X2)))) := by
  obtain ⟨b, d, x, hS, hV⟩ := hJ
  obtain ⟨s1, s2, s3, s4, s5, s6, s7, s8, s9, s10, s11, s12⟩ := id hS
  have vA := hV.1.1
  exact pair_ans hS hV (qpv_c (tX11_promised s1 s2 vA.1 h1 h2)) (fun X' Y' hR e => qpv_r (tX12_promised s12 hR vA.1 h1 h2)) (fun _ _ h h2 => h2.trans h.symm)
theorem j_floor {l : Launch} {g : q_G} {n : Nat} {P : q_P} {X : q_X} {Y : q_Y} (hJ : J n P X) {a1 a2 : Int} (h1 : q_in a1) (h2 : q_in a2) : q_Met l g mX11_floor 4 [.ref (g.1 + 0), .int (zi a1), .int (zi a2)] n P X Y (q_gi (fun r n' P' X' Y' => q_Met l g mX12_floor 5 [.ref (g.1 + 467), .int (zi a1), .int (zi a2)] n' P' X' Y' (q_gi (fun r2 n2 P2 X2 _ => zi r2 = zi r ∧ J n2 P2 X2)))) := by
  obtain ⟨b, d, x, hS, hV⟩ := hJ
  obtain ⟨s1, s2, s3, s4, s5, s6, s7, s8, s9, s10, s11, s12⟩ := id hS
  have vA := hV.1.1
  exact pair_ans hS hV (qpv_c (tX11_floor s1 s2 vA.1 h1 h2)) (fun X' Y' hR e => qpv_r (tX12_floor s12 hR vA.1 h1 h2)) (fun _ _ h h2 => h2.trans h.symm)
theorem j_over {l : Launch} {g : q_G} {n : Nat} {P : q_P} {X : q_X} {Y : q_Y} (hJ : J n P X) {a1 : Int} (h1 : q_in a1) : q_Met l g mX11_over 4 [.ref (g.1 + 0), .int (zi a1)] n P X Y (q_gi (fun r n' P' X' Y' => q_Met l g mX12_over 4 [.ref (g.1 + 467), .int (zi a1)] n' P' X' Y' (q_gi (fun r2 n2 P2 X2 _ => zi r2 = zi r ∧ J n2 P2 X2)))) := by
  obtain ⟨b, d, x, hS, hV⟩ := hJ
  obtain ⟨s1, s2, s3, s4, s5, s6, s7, s8, s9, s10, s11, s12⟩ := id hS
  have vA := hV.1.1
  exact pair_ans hS hV (qpv_c (tX11_over s1 s2 vA.1 h1)) (fun X' Y' hR e => qpv_r (tX12_over s12 hR vA.1 h1)) (fun _ _ h h2 => h2.trans h.symm)
theorem j_fault {l : Launch} {g : q_G} {n : Nat} {P : q_P} {X : q_X} {Y : q_Y} (hJ : J n P X) : q_Met l g mX11_fault 0 [.ref (g.1 + 0)] n P X Y (q_gi (fun r n' P' X' Y' => q_Met l g mX12_fault 0 [.ref (g.1 + 467)] n' P' X' Y' (q_gi (fun r2 n2 P2 X2 _ => zi r2 = zi r ∧ J n2 P2 X2)))) := by
  obtain ⟨b, d, x, hS, hV⟩ := hJ
  obtain ⟨s1, s2, s3, s4, s5, s6, s7, s8, s9, s10, s11, s12⟩ := id hS
  have vA := hV.1.1
  exact pair_ans hS hV (qpv_c (tX11_fault s1 s2 vA.1)) (fun X' Y' hR e => qpv_r (w := xv X 467 6) (by rw [← xr (e 467 (by omega))]; exact tX12_fault s12)) (fun _ _ h h2 => h2.trans ((congrArg zi hV.2.2.2.1.1).trans h.symm))
theorem j_ended {l : Launch} {g : q_G} {n : Nat} {P : q_P} {X : q_X} {Y : q_Y} (hJ : J n P X) : q_Met l g mX11_ended 0 [.ref (g.1 + 0)] n P X Y (q_gi (fun r n' P' X' Y' => q_Met l g mX12_ended 0 [.ref (g.1 + 467)] n' P' X' Y' (q_gi (fun r2 n2 P2 X2 _ => zi r2 = zi r ∧ J n2 P2 X2)))) := by
  obtain ⟨b, d, x, hS, hV⟩ := hJ
  obtain ⟨s1, s2, s3, s4, s5, s6, s7, s8, s9, s10, s11, s12⟩ := id hS
  have vA := hV.1.1
  exact pair_ans hS hV (qpv_c (tX11_ended s1 s2 vA.1)) (fun X' Y' hR e => qpv_r (w := xv X 467 24) (by rw [← xr (e 467 (by omega))]; exact tX12_ended s12)) (fun _ _ h h2 => h2.trans ((congrArg zi hV.2.2.2.1.2.1).trans h.symm))
theorem j_why {l : Launch} {g : q_G} {n : Nat} {P : q_P} {X : q_X} {Y : q_Y} (hJ : J n P X) : q_Met l g mX11_why 0 [.ref (g.1 + 0)] n P X Y (q_gi (fun r n' P' X' Y' => q_Met l g mX12_why 0 [.ref (g.1 + 467)] n' P' X' Y' (q_gi (fun r2 n2 P2 X2 _ => zi r2 = zi r ∧ J n2 P2 X2)))) := by
  obtain ⟨b, d, x, hS, hV⟩ := hJ
  obtain ⟨s1, s2, s3, s4, s5, s6, s7, s8, s9, s10, s11, s12⟩ := id hS
  have vA := hV.1.1
  exact pair_ans hS hV (qpv_c (tX11_why s1 s2 vA.1)) (fun X' Y' hR e => qpv_r (w := xv X 467 19) (by rw [← xr (e 467 (by omega))]; exact tX12_why s12)) (fun _ _ h h2 => h2.trans ((congrArg zi hV.2.2.2.1.2.2).trans h.symm))
theorem j_octet {l : Launch} {g : q_G} {n : Nat} {P : q_P} {X : q_X} {Y : q_Y} (hJ : J n P X) {a1 : Int} (h1 : q_in a1) : q_Met l g mX11_octet 1 [.ref (g.1 + 0), .int (zi a1)] n P X Y (q_gi (fun r n' P' X' Y' => q_Met l g mX12_octet 1 [.ref (g.1 + 467), .int (zi a1)] n' P' X' Y' (q_gi (fun r2 n2 P2 X2 _ => zi r2 = zi r ∧ J n2 P2 X2)))) := by
  obtain ⟨b, d, x, hS, hV⟩ := hJ
  obtain ⟨s1, s2, s3, s4, s5, s6, s7, s8, s9, s10, s11, s12⟩ := id hS
  have vA := hV.1.1
  refine pair_ans hS hV (qpv_c (tX11_octet s1 s2 vA.1 s11 h1)) (fun X' Y' hR e => qpv_r (w := b_at X 447 256 a1) ?_) (fun _ _ h h2 => h2.trans h.symm)
  have q := tX12_octet (l := l) (g := g) (n := n) (P := P) (X := X') (Y := Y') s12 (by rw [xr (e 467 (by omega)), hV.2.2.2.2.2.2.1]; exact hV.2.2.2.2.1) h1
  obtain ⟨w1, w2, w3, w4⟩ := hV.2.2.2.2
  have e1 : (if 0 ≤ a1 ∧ a1 < xv X' 467 26 then xv X' 480 a1.toNat else -1) = b_at X 447 256 a1 := by
    rw [xr (e 467 (by omega)), xr (e 480 (by omega)), w3]
    unfold b_at
    by_cases z : 0 ≤ a1 ∧ a1 < xv X 447 1
    · rw [if_pos z, if_pos (by omega), w4 _ (by omega)]
    · rw [if_neg z, if_neg (by omega)]
  rw [e1] at q; exact q
theorem j_counted {l : Launch} {g : q_G} {n : Nat} {P : q_P} {X : q_X} {Y : q_Y} (hJ : J n P X) {a1 : Int} (h1 : q_in a1) : q_Met l g mX11_counted 4 [.ref (g.1 + 0), .int (zi a1)] n P X Y (q_gi (fun r n' P' X' Y' => q_Met l g mX12_counted 5 [.ref (g.1 + 467), .int (zi a1)] n' P' X' Y' (q_gi (fun r2 n2 P2 X2 _ => zi r2 = zi r ∧ J n2 P2 X2)))) := by
  obtain ⟨b, d, x, hS, hV⟩ := hJ
  obtain ⟨s1, s2, s3, s4, s5, s6, s7, s8, s9, s10, s11, s12⟩ := id hS
  have vA := hV.1.1
  refine pair_ans hS hV (qgi_c (tX11_counted s1 s2 vA.1 (Or.inl hS.b.1) s8 h1)) (fun X' Y' hR e => qh_r (tX12_counted s12 hR vA.1 h1)) (fun r r2 h h2 => ?_)
  by_cases z0 : a1 = 0
  · rw [if_pos z0] at h h2; rw [cntP.u h h2]
  · rw [if_neg z0] at h h2
    by_cases z1 : a1 = 1
    · rw [if_pos z1] at h h2; rw [h, h2]
    · rw [if_neg z1] at h h2; rw [h, h2]
theorem j_dearest {l : Launch} {g : q_G} {n : Nat} {P : q_P} {X : q_X} {Y : q_Y} (hJ : J n P X) {a1 : Int} (h1 : q_in a1) : q_Met l g mX11_dearest 3 [.ref (g.1 + 0), .int (zi a1)] n P X Y (q_gi (fun r n' P' X' Y' => q_Met l g mX12_dearest 4 [.ref (g.1 + 467), .int (zi a1)] n' P' X' Y' (q_gi (fun r2 n2 P2 X2 _ => zi r2 = zi r ∧ J n2 P2 X2)))) := by
  obtain ⟨b, d, x, hS, hV⟩ := hJ
  obtain ⟨s1, s2, s3, s4, s5, s6, s7, s8, s9, s10, s11, s12⟩ := id hS
  have vA := hV.1.1
  refine pair_ans hS hV (qip_c (tX11_dearest s1 s2 vA.1 h1)) (fun X' Y' hR e => qpv_r (tX12_dearest s12 hR vA.1 h1)) (fun r r2 h h2 => ?_)
  by_cases z : 0 ≤ a1 ∧ a1 < 20
  · rw [if_pos z] at h
    obtain ⟨m, hm⟩ := h
    rw [h2, dr_eq vA.1 z hm]
  · rw [if_neg z] at h
    rw [h2, h]; unfold f_dearest; rw [if_pos z]
theorem j_says {l : Launch} {g : q_G} {n : Nat} {P : q_P} {X : q_X} {Y : q_Y} (hJ : J n P X) {a1 : Int} (h1 : q_in a1) : q_Met l g mX11_says 7 [.ref (g.1 + 0), .int (zi a1)] n P X Y (q_gl (fun r n' P' X' Y' => q_Met l g mX12_says 8 [.ref (g.1 + 467), .int (zi a1)] n' P' X' Y' (q_gl (fun r2 n2 P2 X2 _ => r2 = r ∧ J n2 P2 X2)))) := by
  obtain ⟨b, d, x, hS, hV⟩ := hJ
  obtain ⟨s1, s2, s3, s4, s5, s6, s7, s8, s9, s10, s11, s12⟩ := id hS
  have vA := hV.1.1
  refine q_Met.mono (fun v N P' X' Y' h => ?_) (tX11_says s1 s2 vA.1 (Or.inl hS.b.1) s8 vA.2.2 h1)
  obtain ⟨r, e1, rfl, rfl, e4, e5⟩ := h
  refine ⟨r, e1, ?_⟩
  have e : ∀ a, 466 < a → X' a = X a := fun a ha => e4 a (by omega) (by have := hS.b; omega)
  have hR : RB X b (xv X' 468) := by rw [xr (e 468 (by omega))]; exact hV.1.2
  refine q_Met.mono (fun v2 N2 P2 X2 Y2 h2 => ?_) (tX12_says s12 hR vA.1 h1 vA.2.1 vA.2.2)
  obtain ⟨r2, f1, rfl, rfl, f4, f5⟩ := h2
  exact ⟨r2, f1, f5.trans e5.symm, J_ans hS hV e4 f4.a⟩
