def q_clr {α : Type} (X : Nat → Nat → α) (i : Nat) (v : α) : Nat → Nat → α := fun a b => if a = i then v else X a b
theorem q_clr_same {α : Type} (X : Nat → Nat → α) (i j : Nat) (v : α) : q_clr X i v i j = v := by simp [q_clr]
theorem q_clr_ne {α : Type} (X : Nat → Nat → α) {i a j : Nat} (v : α) (h : ¬ a = i) : q_clr X i v a j = X a j := by simp [q_clr, h]
theorem xv_clr_ne (X : q_X) {i a j : Nat} (v : Int32) (h : ¬ a = i) : xv (q_clr X i v) a j = xv X a j := by rw [xv, q_clr_ne _ _ h]; rfl
theorem xv_clr_same (X : q_X) (i j : Nat) : xv (q_clr X i 0) i j = 0 := by rw [xv, q_clr_same]; rfl
def q_okty : FieldType → Bool
  | .int => true
  | .boolean => true
  | .object _ => true
  | .array _ => true
  | _ => false
theorem q_dfv {g : q_G} {P : q_P} {X : q_X} {i ci j : Nat} (h : q_okty (q_ty ci j) = true) : defaultValue (q_ty ci j) = q_fv g (q_clr P i none) (q_clr X i 0) i ci j := by
  simp only [q_fv, q_fi, q_clr_same, q_rf, Option.map_none, va_rf]
  revert h
  cases q_ty ci j <;> simp [q_okty, defaultValue]
/-- own's pool entry idx names class ci, which can be made -/
def q_LN (own : String) (idx ci N : Nat) : Prop := ∃ (C : String) (T : u_T), q_Cl ci C T N ∧ Cond.classLink own idx C ∈ q_tb ∧ Cond.instantiable C N ∈ q_tb ∧ Cond.initialized C ∈ q_tb ∧ ∀ j, j < N → q_okty (q_ty ci j) = true
theorem q_H.push {g : q_G} {n : Nat} {P P' : q_P} {X X' : q_X} {Y Y' : q_Y} {H H1 : Heap} (h : q_H g n P X Y H) (hs : H1.size = H.size + 1) (ho : ∀ q, q < H.size → H1[q]? = H[q]?)
    (ha : va_at g.2.1 vwCl (g.1 + n, q_cell g P' X' Y' n) H1) (hc : ∀ j, j ≠ n → q_cell g P X Y j = q_cell g P' X' Y' j) : q_H g (n + 1) P' X' Y' H1 := by
  have hz := h.1
  refine ⟨by omega, fun j hj => ?_, fun q hq => (ho q (by omega)).trans (h.2.2 q hq)⟩
  by_cases e : j = n
  · subst e; exact ha
  · rw [← hc j e]
    exact (h.2.1 j (by omega)).kept (ho _ (by simp only; omega))
section QN
variable {l : Launch} {g : q_G} {y : q_M} {d : Nat} {K : q_K} {pc pc' idx : Nat} {L : List (Nat × Value)} {S : List Value} {n : Nat} {P : q_P} {X : q_X} {Y : q_Y}
theorem q_grow {S' : List Value} {P' : q_P} {X' : q_X} {Y' : q_Y} (h : ∀ (p : Program) (e : Env) (R : Room) (s : State) (m : MethodId) (args : Array Value) (below : List Frame) (meth : Method) (c : Code) (H : Heap) (locs : List Loc) (ls : Array Slot) (cells slots : Nat) (Q : State → Prop) (N ns : Nat), q_C g y d N ns p R s m args meth c → q_H g n P X Y H → lv_has ls y.2.2.1 L → cells + 1 ≤ R.cells → slots + (q_sh n).2 ≤ R.slots →
      (∀ H1 : Heap, q_H g (n + 1) P' X' Y' H1 → W p l e R s m args below meth c H1 locs (cells + 1) (slots + (q_sh n).2) Q (F0 m pc' ls S')) → W p l e R s m args below meth c H locs cells slots Q (F0 m pc ls S)) (k : q_Tr l g y d K pc' L S' (n + 1) P' X' Y') : q_Tr l g y d K pc L S n P X Y := by
  obtain ⟨v, N, P1, X1, Y1, hK, hN, hr⟩ := k
  refine ⟨v, N, P1, X1, Y1, hK, by omega, fun p e R s m args below meth c H locs ls ns hc hn hH hlo hL => ?_⟩
  have rc := hc.2.2.2.2.2.2.2.2.1
  have m1 := q_sl_mono hN
  have m2 := q_sl_mono hn
  have m3 : q_sl (n + 1) = q_sl n + (q_sh n).2 := rfl
  refine h p e R s m args below meth c H locs ls _ _ _ N ns hc hH hL (by omega) (by omega) fun H1 hH1 => ?_
  have c1 : n - ns + 1 = n + 1 - ns := by omega
  have c2 : q_sl n - q_sl ns + (q_sh n).2 = q_sl (n + 1) - q_sl ns := by omega
  rw [c1, c2]
  exact hr p e R s m args below meth c H1 locs ls ns hc (by omega) hH1 hlo hL
theorem r_new {ci N : Nat} (hd : decode y.2.1 pc = .ok (.new idx, 3)) (hp : pc + 3 = pc') (hlk : q_LN y.1.cls idx ci N) (hs : q_sh n = (ci, N)) (kk : q_Tr l g y d K pc' L (.ref (g.1 + n) :: S) (n + 1) (q_clr P n none) (q_clr X n 0) (q_clr Y n 0)) : q_Tr l g y d K pc L S n P X Y := by
  subst hp
  obtain ⟨C, T, hC, w1, w2, w3, hok⟩ := hlk
  refine q_grow (fun p e R s m args below meth c H locs ls cells slots Q N0 ns hc hH hl hce hsl w => ?_) kk
  rw [hs] at hsl w
  have hts := hc.2.2.2.2.2.1
  have hKn := (q_Tof hc).1 ci _ hC.1
  refine W.newcK hc.1 hc.2.1 hc.2.2.2.2.1 (hts _ w1) (hts _ w2) (hts _ w3) rfl hd hce hsl hKn.2.1 rfl fun H1 kC hkC e1 z1 o1 => ?_
  rw [hH.1] at e1 ⊢
  refine w H1 (hH.push (by rw [z1]) o1 ?_ (fun j hj => q_cell_congr (fun b => (q_clr_ne _ _ hj).symm) (fun b => (q_clr_ne _ _ hj).symm) (fun b => (q_clr_ne _ _ hj).symm)))
  rw [q_cell_o hs hC.2.1]
  exact ⟨_, hC.1, (u_born (q_ty ci) hts hC.2.2.1 hKn hkC e1 hC.2.2.2.1).to (fun j hj => by rw [q_V hj]; exact q_dfv (hok j hj))⟩
theorem q_arrc {g : q_G} {s : State} {k : Nat} {ty : FieldType} {cA : ClassId} (hT : va_K g.2.1 vwCl (q_tys g) s) (t0 : Nat) (ht : (q_tys g)[t0]? = some (g.2.2.1 k, ty)) (hty : ∀ C, ty ≠ .object C) (hf : s.vm.findClass ("[" ++ ty.toString) = some cA) : cA = g.2.2.1 k := by
  have h := (hT.2 t0 _ ht).2
  have h2 : s.vm.findClass ("[" ++ ty.toString) = some (g.2.2.1 k) := by
    cases ty with
    | object C => exact absurd rfl (hty C)
    | _ => exact h
  exact Option.some.inj (hf.symm.trans h2)
theorem q_newa {at' : ArrayType} {k N t0 : Nat} {z : Int} (hd : decode y.2.1 pc = .ok (.newarray at', 2)) (hp : pc + 2 = pc') (hw : Cond.arrayClass (newarray.typeOf at') ∈ q_tb) (ht : (q_tys g)[t0]? = some (g.2.2.1 k, newarray.typeOf at')) (hty : ∀ C, newarray.typeOf at' ≠ .object C) (hb : N * componentBytes (newarray.typeOf at') ≤ 536870912) (hs : q_sh n = (k, N)) (hz : z = (N : Int)) (hN : N ≤ 2147483647)
    (hcell : q_cell g (q_clr P n none) (q_clr X n 0) (q_clr Y n 0) n = .inl (g.2.2.1 k, N, .inl (fun _ => 0)) ∧ defaultValue (newarray.typeOf at') = .int 0 ∨ q_cell g (q_clr P n none) (q_clr X n 0) (q_clr Y n 0) n = .inl (g.2.2.1 k, N, .inr (.inl (fun _ => 0))) ∧ defaultValue (newarray.typeOf at') = .long 0)
    (kk : q_Tr l g y d K pc' L (.ref (g.1 + n) :: S) (n + 1) (q_clr P n none) (q_clr X n 0) (q_clr Y n 0)) : q_Tr l g y d K pc L (.int (zi z) :: S) n P X Y := by
  subst hp; subst hz
  refine q_grow (fun p e R s m args below meth c H locs ls cells slots Q N0 ns hc hH hl hce hsl w => ?_) kk
  rw [hs] at hsl w
  have hts := hc.2.2.2.2.2.1
  refine va_newaK hc.1 hc.2.1 (hts _ hw) rfl hd (N := N) rfl (by rw [zi_lt0 (by omega)]; omega) (by rw [zi_nat (by omega)]; omega) hb hce hsl rfl fun H1 cA e1 z1 o1 hAr hNm => ?_
  have hcA : cA = g.2.2.1 k := q_arrc (q_Tof hc) t0 ht hty hNm
  subst hcA
  rw [hH.1] at e1 ⊢
  refine w H1 (hH.push (by rw [z1]) o1 ?_ (fun j hj => q_cell_congr (fun b => (q_clr_ne _ _ hj).symm) (fun b => (q_clr_ne _ _ hj).symm) (fun b => (q_clr_ne _ _ hj).symm)))
  rcases hcell with ⟨h1, h2⟩ | ⟨h1, h2⟩
  · rw [h1]; rw [h2] at e1; exact e1
  · rw [h1]; rw [h2] at e1; exact e1
theorem r_newi {N : Nat} {z : Int} (hd : decode y.2.1 pc = .ok (.newarray .int, 2)) (hp : pc + 2 = pc') (hw : Cond.arrayClass .int ∈ q_tb) (hs : q_sh n = (20, N)) (hz : z = (N : Int)) (hN : N ≤ 100000) (kk : q_Tr l g y d K pc' L (.ref (g.1 + n) :: S) (n + 1) (q_clr P n none) (q_clr X n 0) (q_clr Y n 0)) : q_Tr l g y d K pc L (.int (zi z) :: S) n P X Y :=
  q_newa (k := 20) (t0 := 0) hd hp hw rfl (fun C h => by cases h) (by simp [newarray.typeOf, componentBytes]; omega) hs hz (by omega) (Or.inl ⟨by rw [q_cell_i hs (Or.inl rfl), show q_clr X n 0 n = (fun _ => 0) from funext fun b => q_clr_same _ _ _ _], rfl⟩) kk
theorem r_newz {N : Nat} {z : Int} (hd : decode y.2.1 pc = .ok (.newarray .boolean, 2)) (hp : pc + 2 = pc') (hw : Cond.arrayClass .boolean ∈ q_tb) (hs : q_sh n = (22, N)) (hz : z = (N : Int)) (hN : N ≤ 100000) (kk : q_Tr l g y d K pc' L (.ref (g.1 + n) :: S) (n + 1) (q_clr P n none) (q_clr X n 0) (q_clr Y n 0)) : q_Tr l g y d K pc L (.int (zi z) :: S) n P X Y :=
  q_newa (k := 22) (t0 := 2) hd hp hw rfl (fun C h => by cases h) (by simp [newarray.typeOf, componentBytes]; omega) hs hz (by omega) (Or.inl ⟨by rw [q_cell_i hs (Or.inr (Or.inl rfl)), show q_clr X n 0 n = (fun _ => 0) from funext fun b => q_clr_same _ _ _ _], rfl⟩) kk
theorem r_newb {N : Nat} {z : Int} (hd : decode y.2.1 pc = .ok (.newarray .byte, 2)) (hp : pc + 2 = pc') (hw : Cond.arrayClass .byte ∈ q_tb) (hs : q_sh n = (23, N)) (hz : z = (N : Int)) (hN : N ≤ 100000) (kk : q_Tr l g y d K pc' L (.ref (g.1 + n) :: S) (n + 1) (q_clr P n none) (q_clr X n 0) (q_clr Y n 0)) : q_Tr l g y d K pc L (.int (zi z) :: S) n P X Y :=
  q_newa (k := 23) (t0 := 3) hd hp hw rfl (fun C h => by cases h) (by simp [newarray.typeOf, componentBytes]; omega) hs hz (by omega) (Or.inl ⟨by rw [q_cell_i hs (Or.inr (Or.inr rfl)), show q_clr X n 0 n = (fun _ => 0) from funext fun b => q_clr_same _ _ _ _], rfl⟩) kk
theorem r_newl {N : Nat} {z : Int} (hd : decode y.2.1 pc = .ok (.newarray .long, 2)) (hp : pc + 2 = pc') (hw : Cond.arrayClass .long ∈ q_tb) (hs : q_sh n = (21, N)) (hz : z = (N : Int)) (hN : N ≤ 100000) (kk : q_Tr l g y d K pc' L (.ref (g.1 + n) :: S) (n + 1) (q_clr P n none) (q_clr X n 0) (q_clr Y n 0)) : q_Tr l g y d K pc L (.int (zi z) :: S) n P X Y :=
  q_newa (k := 21) (t0 := 1) hd hp hw rfl (fun C h => by cases h) (by simp [newarray.typeOf, componentBytes]; omega) hs hz (by omega) (Or.inr ⟨by rw [q_cell_l hs, show q_clr Y n 0 n = (fun _ => 0) from funext fun b => q_clr_same _ _ _ _], rfl⟩) kk
theorem q_newq {k N t0 : Nat} {z : Int} {C : String} (hd : decode y.2.1 pc = .ok (.anewarray idx, 3)) (hp : pc + 3 = pc') (hw : Cond.classLink y.1.cls idx C ∈ q_tb) (hk : k = 24 ∨ k = 25) (ht : (q_tys g)[t0]? = some (g.2.2.1 k, .object C)) (hao : ∀ s, q_T g s → va_AO C s) (hs : q_sh n = (k, N)) (hz : z = (N : Int)) (hN : N ≤ 100000)
    (kk : q_Tr l g y d K pc' L (.ref (g.1 + n) :: S) (n + 1) (q_clr P n none) (q_clr X n 0) (q_clr Y n 0)) : q_Tr l g y d K pc L (.int (zi z) :: S) n P X Y := by
  subst hp; subst hz
  refine q_grow (fun p e R s m args below meth c H locs ls cells slots Q N0 ns hc hH hl hce hsl w => ?_) kk
  rw [hs] at hsl w
  have hts := hc.2.2.2.2.2.1
  have hzn : (zi (N : Int)).toNatClampNeg = N := by rw [zi_nat (by omega)]; omega
  refine W.anew hc.1 hc.2.1 hc.2.2.2.2.1 (hts _ hw) (va_AO.use (hao s hc.2.2.2.2.2.2.2.2.2.2)) rfl hd rfl (by rw [zi_lt0 (by omega)]; omega) (by rw [hzn]; omega) hce (by rw [hzn]; exact hsl) fun cA kA comp f1 f2 f3 f4 => ?_
  obtain ⟨kA', comp', k1, k2, k3, k4⟩ := ((q_Tof hc).2 t0 _ ht).2
  have hcA : cA = g.2.2.1 k := Option.some.inj (f1.symm.trans k4)
  subst hcA
  rw [hzn]
  have hz := hH.1
  show W p l e R s m args below meth c _ locs _ _ Q (F0 m (pc + 3) ls (.ref H.size :: S))
  rw [hz]
  refine w _ (hH.push (by simp) (fun q hq => by rw [Array.getElem?_push, if_neg (Nat.ne_of_lt hq)]) ?_ (fun j hj => q_cell_congr (fun b => (q_clr_ne _ _ hj).symm) (fun b => (q_clr_ne _ _ hj).symm) (fun b => (q_clr_ne _ _ hj).symm)))
  rw [q_cell_r hs hk]
  show _ = some (vp_cell _ _)
  rw [vp_cell_q, ← hz, Array.getElem?_push_size]
  have := arrV_new (g.2.2.1 k) N .null
  rw [this]
  congr 2
  funext j
  simp [q_clr_same, q_rf, va_rf]
theorem r_newC {N : Nat} {z : Int} (hd : decode y.2.1 pc = .ok (.anewarray idx, 3)) (hp : pc + 3 = pc') (hw : Cond.classLink y.1.cls idx RX4 ∈ q_tb) (hs : q_sh n = (24, N)) (hz : z = (N : Int)) (hN : N ≤ 100000) (kk : q_Tr l g y d K pc' L (.ref (g.1 + n) :: S) (n + 1) (q_clr P n none) (q_clr X n 0) (q_clr Y n 0)) : q_Tr l g y d K pc L (.int (zi z) :: S) n P X Y :=
  q_newq (k := 24) (t0 := 4) hd hp hw (Or.inl rfl) rfl (fun s h => h.2.2.1) hs hz hN kk
theorem r_newB {N : Nat} {z : Int} (hd : decode y.2.1 pc = .ok (.anewarray idx, 3)) (hp : pc + 3 = pc') (hw : Cond.classLink y.1.cls idx RX1 ∈ q_tb) (hs : q_sh n = (25, N)) (hz : z = (N : Int)) (hN : N ≤ 100000) (kk : q_Tr l g y d K pc' L (.ref (g.1 + n) :: S) (n + 1) (q_clr P n none) (q_clr X n 0) (q_clr Y n 0)) : q_Tr l g y d K pc L (.int (zi z) :: S) n P X Y :=
  q_newq (k := 25) (t0 := 5) hd hp hw (Or.inr rfl) rfl (fun s h => h.2.2.2.1) hs hz hN kk
theorem q_updV_upR {g : q_G} {P : q_P} {a j o : Nat} : updV (fun q => va_rf (q_rf g (P a q))) j (.ref (g.1 + o)) = fun q => va_rf (q_rf g (q_up P a j (some o) a q)) := by
  funext q
  by_cases h : q = j
  · subst h; simp [updV, q_up_same, q_rf, va_rf]
  · simp only [updV, if_neg h]; rw [q_up_ne _ _ (fun e => h e.2)]
theorem q_aast {a k N t0 jn o ci N0 : Nat} {j : Int} {r : vw_C} (hd : decode y.2.1 pc = .ok (.aastore, 1)) (hp : pc + 1 = pc') (hs : q_sh a = (k, N)) (hk : k = 24 ∨ k = 25) (ht : (q_tys g)[t0]? = some (g.2.2.1 k, .object r.1)) (hr : vwCl[ci]? = some r) (ha : a < n) (h0 : 0 ≤ j) (h1 : j < N) (hN : N ≤ 2147483647) (hj : j.toNat = jn) (hso : q_sh o = (ci, N0)) (ho : o < n) (kk : q_Tr l g y d K pc' L S n (q_up P a jn (some o)) X Y) : q_Tr l g y d K pc L (.ref (g.1 + o) :: .int (zi j) :: .ref (g.1 + a) :: S) n P X Y := by
  subst hp; subst hj
  refine q_chg (fun p e R s m args below meth c H locs ls cells slots Q N1 ns hc hH hlo hl w => ?_) kk
  have hci : ci < 13 := (List.getElem?_eq_some_iff.mp hr).1
  have hat := hH.2.1 a ha
  rw [q_cell_r hs hk] at hat
  have hov := hH.2.1 o ho
  rw [q_cell_o hso hci] at hov
  obtain ⟨r', hr', cellV, g1, g2, g3, -⟩ := hov
  have hcls := ((q_Tof hc).1 ci r hr).2
  obtain ⟨kA, comp, k1, k2, k3, -⟩ := ((q_Tof hc).2 t0 _ ht).2
  have hcomp : comp = g.2.1.1 ci := Option.some.inj (k3.symm.trans hcls.1)
  subst hcomp
  obtain ⟨kC, hkC, -⟩ := id hcls.2
  have hq : q_in j := by omega
  have hjn : j.toNat < N := by omega
  refine W.aast hc.1 hc.2.1 hat (fun q h => by cases h) (fun h => by cases h) k1 k2 rfl hkC ⟨fun hh => by rw [zi_lt0 hq] at hh; omega, by rw [zi_nat hq]; exact Nat.lt_of_lt_of_eq hjn (arrV_size _ _ _).symm⟩ g1 (fun q h => by rw [g3] at h; cases h) (by rw [g2]; exact hkC) (by rw [g2]; exact va_assign hcls) rfl rfl hd fun H1 e1 z1 oq => ?_
  refine w H1 _ (hH.set z1 oq ?_ (fun q hq => q_cell_congr (fun b => (q_up_ne _ _ (fun e => hq e.1)).symm) (fun _ => rfl) (fun _ => rfl))) (q_locs hlo)
  rw [q_cell_r hs hk]
  show H1[_]? = some (vp_cell _ _)
  rw [e1, vp_cell_q, vp_cell_q, arrV_store, zi_nat hq, q_updV_upR]
theorem r_aastC {a N jn o N0 : Nat} {j : Int} (hd : decode y.2.1 pc = .ok (.aastore, 1)) (hp : pc + 1 = pc') (hs : q_sh a = (24, N)) (ha : a < n) (h0 : 0 ≤ j) (h1 : j < N) (hN : N ≤ 2147483647) (hj : j.toNat = jn) (hso : q_sh o = (4, N0)) (ho : o < n) (kk : q_Tr l g y d K pc' L S n (q_up P a jn (some o)) X Y) : q_Tr l g y d K pc L (.ref (g.1 + o) :: .int (zi j) :: .ref (g.1 + a) :: S) n P X Y :=
  q_aast (t0 := 4) (r := (RX4, TX4, 10)) hd hp hs (Or.inl rfl) rfl rfl ha h0 h1 hN hj hso ho kk
theorem r_aastB {a N jn o N0 : Nat} {j : Int} (hd : decode y.2.1 pc = .ok (.aastore, 1)) (hp : pc + 1 = pc') (hs : q_sh a = (25, N)) (ha : a < n) (h0 : 0 ≤ j) (h1 : j < N) (hN : N ≤ 2147483647) (hj : j.toNat = jn) (hso : q_sh o = (1, N0)) (ho : o < n) (kk : q_Tr l g y d K pc' L S n (q_up P a jn (some o)) X Y) : q_Tr l g y d K pc L (.ref (g.1 + o) :: .int (zi j) :: .ref (g.1 + a) :: S) n P X Y :=
  q_aast (t0 := 5) (r := (RX1, TX1, 14)) hd hp hs (Or.inr rfl) rfl rfl ha h0 h1 hN hj hso ho kk
end QN
