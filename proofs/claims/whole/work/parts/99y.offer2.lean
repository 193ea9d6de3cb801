theorem tFm1 {D X : q_X} {o i : Nat} (ho : o + 1 ≠ 444) (h : tF (rdN D 1 9999) X) : tF (mk1 D o i) X := h.up ho _ _
theorem tFm2n {D X : q_X} {o i : Nat} (ho : o + 2 ≠ 444) (h : tF (rdN D 1 6) X) : tF (mk2 D o i) X := h.up ho _ _
theorem tFm2 {D X : q_X} {o i : Nat} (ho : o + 2 ≠ 444) (h : tF D X) : tF (mk2 D o i) X := tFm2n ho (h.N _ _)
theorem tFm3n {D X : q_X} {o i : Nat} (ho : o + 3 ≠ 444) (h : tF (rdN D 0 99999) X) : tF (mk3 D o i) X := h.up ho _ _
theorem tFm3 {D X : q_X} {o i : Nat} (ho : o + 3 ≠ 444) (h : tF D X) : tF (mk3 D o i) X := tFm3n ho (h.N _ _)
theorem tFm4n {D X : q_X} {o i : Nat} {lp : Int} (ho : o + 4 ≠ 444) (h : tF (rd_numX D lp 99999) X) : tF (mk4 D o i lp) X := h.up ho _ _
theorem tFm4 {D X : q_X} {o i : Nat} {lp : Int} (ho : o + 4 ≠ 444) (h : tF D X) : tF (mk4 D o i lp) X := tFm4n ho (h.num _ _)
theorem tFm5 {D X : q_X} {o : Nat} {v : Int32} (ho : o ≠ 444) (h : tF D X) : tF (q_up (rd_exp D 59) o 0 v) X := (h.exp 59).up ho _ _
theorem tN {D X : q_X} {lo hi : Int} (h : tR (rd_exp (rd_numX D lo hi) 44) X) : tR (rdN D lo hi) X := h
theorem tFN {D X : q_X} {lo hi : Int} (h : tF (rd_exp (rd_numX D lo hi) 44) X) : tF (rdN D lo hi) X := h
/-- an offer is there and here -/
theorem RB_off {D D4 E X Xf : q_X} {d i : Nat} {v1 v2 v3 v4 : Int} (hd : d + 220 ≤ 441) (hA : bA D d) (hB : RB D d (xv X 468)) (hi : xv D (d + 10) 0 = (i : Int)) (h12 : i < 12)
    (b1 : 1 ≤ v1 ∧ v1 ≤ 9999) (b2 : 1 ≤ v2 ∧ v2 ≤ 6) (b3 : 0 ≤ v3 ∧ v3 ≤ 99999) (b4 : 0 ≤ v4 ∧ v4 ≤ 99999)
    (ea : ∀ a, a ≠ 444 → a ≠ d + 10 + 1 → a ≠ d + 10 + 2 → a ≠ d + 10 + 3 → a ≠ d + 10 + 4 → xv D4 a = xv D a)
    (e1 : ∀ j, xv D4 (d + 10 + 1) j = if j = i then v1 else xv D (d + 10 + 1) j) (e2 : ∀ j, xv D4 (d + 10 + 2) j = if j = i then v2 else xv D (d + 10 + 2) j) (e3 : ∀ j, xv D4 (d + 10 + 3) j = if j = i then v3 else xv D (d + 10 + 3) j) (e4 : ∀ j, xv D4 (d + 10 + 4) j = if j = i then v4 else xv D (d + 10 + 4) j)
    (eE : E = q_up (rd_exp D4 59) (d + 10) 0 (zi (xv (rd_exp D4 59) (d + 10) 0 + 1)))
    (hv : ∀ j, xv Xf 468 j = if j = 3570 then (i : Int) + 1 else if j = 3572 + 4 * i + 3 then v4 else if j = 3572 + 4 * i + 2 then v3 else if j = 3572 + 4 * i + 1 then v2 else if j = 3572 + 4 * i then v1 else xv X 468 j) : RB E d (xv Xf 468) ∧ bA E d ∧ xv E (d + 10) 0 = (i : Int) + 1 ∧ (∀ a, a ≠ 444 → (a < d + 10 ∨ d + 14 < a) → xv E a = xv D a) := by
  obtain ⟨o0, o1, o2, o3, o4, o5, o6, o10, oc, op0, opz, opi, om0, omi, olim⟩ := id hA.1
  have c0 : xv (rd_exp D4 59) (d + 10) 0 = (i : Int) := by rw [rd_exp_o (by omega), ea _ (by omega) (by omega) (by omega) (by omega) (by omega), hi]
  have E0 : xv E (d + 10) 0 = (i : Int) + 1 := by rw [eE, xv_up_same _ _ _ (by rw [c0]; omega), c0]
  have Er : ∀ a, a ≠ 444 → a ≠ d + 10 → xv E a = xv D4 a := fun a h1 h2 => by rw [eE, xv_up_row _ _ _ h2, rd_exp_o h1]
  have Eo : ∀ a, a ≠ 444 → (a < d + 10 ∨ d + 14 < a) → xv E a = xv D a := fun a h1 h2 => by rw [Er a h1 (by omega), ea a h1 (by omega) (by omega) (by omega) (by omega)]
  have E1 := fun j => (congrFun (Er (d + 10 + 1) (by omega) (by omega)) j).trans (e1 j)
  have E2 := fun j => (congrFun (Er (d + 10 + 2) (by omega) (by omega)) j).trans (e2 j)
  have E3 := fun j => (congrFun (Er (d + 10 + 3) (by omega) (by omega)) j).trans (e3 j)
  have E4 := fun j => (congrFun (Er (d + 10 + 4) (by omega) (by omega)) j).trans (e4 j)
  have hm := hB.2.2.2.1
  have EC : ∀ q, q < 220 → (q < 10 ∨ 14 < q) → xv E (d + q) = xv D (d + q) := fun q h1 h2 => Eo _ (by omega) (by omega)
  refine ⟨hB.fm hA.1 hA.2.2.1.2 EC (fun j j1 j2 j3 => ?_) ⟨?_, fun q hq => ?_⟩, bA_fm hA EC (by rw [E0]; omega) (fun q hq => ?_), E0, Eo⟩
  · rw [hv, if_neg j2, if_neg (by omega), if_neg (by omega), if_neg (by omega), if_neg (by omega)]
  · rw [hv, if_pos rfl, E0]
  · rw [E0] at hq
    rw [show d + 11 = d + 10 + 1 by omega, show d + 12 = d + 10 + 2 by omega, show d + 13 = d + 10 + 3 by omega, show d + 14 = d + 10 + 4 by omega, E1, E2, E3, E4]
    by_cases e : q = i
    · subst e
      rw [if_pos rfl, if_pos rfl, if_pos rfl, if_pos rfl]
      refine ⟨?_, ?_, ?_, ?_⟩
      · rw [hv, if_neg (by omega), if_neg (by omega), if_neg (by omega), if_neg (by omega), if_pos rfl]
      · rw [hv, if_neg (by omega), if_neg (by omega), if_neg (by omega), if_pos rfl]
      · rw [hv, if_neg (by omega), if_neg (by omega), if_pos rfl]
      · rw [hv, if_neg (by omega), if_pos rfl]
    · rw [if_neg e, if_neg e, if_neg e, if_neg e]
      have := hm.2 q (by omega)
      have hx : ∀ t, t < 4 → xv Xf 468 (3572 + 4 * q + t) = xv X 468 (3572 + 4 * q + t) := fun t ht => by
        rw [hv, if_neg (by omega), if_neg (by omega), if_neg (by omega), if_neg (by omega), if_neg (by omega)]
      have hx0 := hx 0 (by omega)
      rw [Nat.add_zero] at hx0
      rw [hx0, hx 1 (by omega), hx 2 (by omega), hx 3 (by omega)]
      exact this
  · rw [E0] at hq
    rw [show d + 11 = d + 10 + 1 by omega, show d + 12 = d + 10 + 2 by omega, show d + 13 = d + 10 + 3 by omega, show d + 14 = d + 10 + 4 by omega, E1, E2, E3, E4]
    by_cases e : q = i
    · subst e
      rw [if_pos rfl, if_pos rfl, if_pos rfl, if_pos rfl]; omega
    · rw [if_neg e, if_neg e, if_neg e, if_neg e]
      exact omi q (by omega)
