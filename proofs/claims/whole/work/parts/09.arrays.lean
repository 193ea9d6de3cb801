section QA
variable {l : Launch} {g : q_G} {y : q_M} {d : Nat} {K : q_K} {pc pc' : Nat} {L L' : List (Nat × Value)} {S S' : List Value} {n : Nat} {P P' : q_P} {X X' : q_X} {Y Y' : q_Y}
theorem q_one {g : q_G} {H : Heap} {a : Nat} {e : va_E} (h : va_at g.2.1 vwCl (a, e) H) : va_P g.2.1 vwCl [(a, e)] H := fun k q hq => by
  cases k with
  | zero => cases hq; exact h
  | succ k => simp at hq
theorem q_Tof {g : q_G} {y : q_M} {d N ns : Nat} {p : Program} {R : Room} {s : State} {m : MethodId} {args : Array Value} {meth : Method} {c : Code} (h : q_C g y d N ns p R s m args meth c) : va_K g.2.1 vwCl (q_tys g) s := h.2.2.2.2.2.2.2.2.2.2.1
theorem r_iaload {a N jn : Nat} {j : Int} (hd : decode y.2.1 pc = .ok (.iaload, 1)) (hp : pc + 1 = pc') (hs : q_sh a = (20, N)) (ha : a < n) (h0 : 0 ≤ j) (h1 : j < N) (hN : N ≤ 2147483647) (hj : j.toNat = jn) (kk : q_Tr l g y d K pc' L (.int (zi (xv X a jn)) :: S) n P X Y) : q_Tr l g y d K pc L (.int (zi j) :: .ref (g.1 + a) :: S) n P X Y := by
  subst hp; subst hj
  refine q_same (fun p e R s m args below meth c H locs ls cells slots Q N0 ns hc hH hl w => ?_) kk
  have hat := hH.2.1 a ha
  rw [q_cell_i hs (Or.inl rfl)] at hat
  refine va_iald hc.1 hc.2.1 (q_Tof hc) (q_one hat) 0 0 rfl rfl (zi_in h0 h1 hN) hd ?_
  rw [zi_nat (by omega), ← zi_xv X a]
  exact w
theorem r_zaload {a N jn : Nat} {j : Int} (hd : decode y.2.1 pc = .ok (.baload, 1)) (hp : pc + 1 = pc') (hs : q_sh a = (22, N)) (ha : a < n) (h0 : 0 ≤ j) (h1 : j < N) (hN : N ≤ 2147483647) (hj : j.toNat = jn) (kk : q_Tr l g y d K pc' L (.int (zi (xv X a jn)) :: S) n P X Y) : q_Tr l g y d K pc L (.int (zi j) :: .ref (g.1 + a) :: S) n P X Y := by
  subst hp; subst hj
  refine q_same (fun p e R s m args below meth c H locs ls cells slots Q N0 ns hc hH hl w => ?_) kk
  have hat := hH.2.1 a ha
  rw [q_cell_i hs (Or.inr (Or.inl rfl))] at hat
  refine va_zald hc.1 hc.2.1 (q_Tof hc) (q_one hat) 0 2 rfl rfl (zi_in h0 h1 hN) hd ?_
  rw [zi_nat (by omega), ← zi_xv X a]
  exact w
theorem r_baload {a N jn : Nat} {j : Int} (hd : decode y.2.1 pc = .ok (.baload, 1)) (hp : pc + 1 = pc') (hs : q_sh a = (23, N)) (ha : a < n) (h0 : 0 ≤ j) (h1 : j < N) (hN : N ≤ 2147483647) (hj : j.toNat = jn) (kk : q_Tr l g y d K pc' L (.int (zi (xv X a jn)) :: S) n P X Y) : q_Tr l g y d K pc L (.int (zi j) :: .ref (g.1 + a) :: S) n P X Y := by
  subst hp; subst hj
  refine q_same (fun p e R s m args below meth c H locs ls cells slots Q N0 ns hc hH hl w => ?_) kk
  have hat := hH.2.1 a ha
  rw [q_cell_i hs (Or.inr (Or.inr rfl))] at hat
  refine va_bald hc.1 hc.2.1 (q_Tof hc) (q_one hat) 0 3 rfl rfl (zi_in h0 h1 hN) hd ?_
  rw [zi_nat (by omega), ← zi_xv X a]
  exact w
theorem r_laload {a N jn : Nat} {j : Int} (hd : decode y.2.1 pc = .ok (.laload, 1)) (hp : pc + 1 = pc') (hs : q_sh a = (21, N)) (ha : a < n) (h0 : 0 ≤ j) (h1 : j < N) (hN : N ≤ 2147483647) (hj : j.toNat = jn) (kk : q_Tr l g y d K pc' L (.long (Y a jn) :: S) n P X Y) : q_Tr l g y d K pc L (.int (zi j) :: .ref (g.1 + a) :: S) n P X Y := by
  subst hp; subst hj
  refine q_same (fun p e R s m args below meth c H locs ls cells slots Q N0 ns hc hH hl w => ?_) kk
  have hat := hH.2.1 a ha
  rw [q_cell_l hs] at hat
  refine va_lald hc.1 hc.2.1 (q_Tof hc) (q_one hat) 0 1 rfl rfl (zi_in h0 h1 hN) hd ?_
  rw [zi_nat (by omega)]
  exact w
theorem r_aaload {a k N jn : Nat} {j : Int} {v : Value} (hd : decode y.2.1 pc = .ok (.aaload, 1)) (hp : pc + 1 = pc') (hs : q_sh a = (k, N)) (hk : k = 24 ∨ k = 25) (ha : a < n) (h0 : 0 ≤ j) (h1 : j < N) (hN : N ≤ 2147483647) (hj : j.toNat = jn) (hv : va_rf (q_rf g (P a jn)) = v) (kk : q_Tr l g y d K pc' L (v :: S) n P X Y) : q_Tr l g y d K pc L (.int (zi j) :: .ref (g.1 + a) :: S) n P X Y := by
  subst hp; subst hj; subst hv
  refine q_same (fun p e R s m args below meth c H locs ls cells slots Q N0 ns hc hH hl w => ?_) kk
  have hat := hH.2.1 a ha
  rw [q_cell_r hs hk] at hat
  have w' : W p l e R s m args below meth c H locs cells slots Q (F0 m (pc + 1) ls (va_rf ((fun j => q_rf g (P a j)) (zi j).toNatClampNeg) :: S)) := by
    rw [zi_nat (by omega)]; exact w
  rcases hk with rfl | rfl
  · exact va_aldq hc.1 hc.2.1 (q_Tof hc) (q_one hat) 0 4 rfl rfl (zi_in h0 h1 hN) hd w'
  · exact va_aldq hc.1 hc.2.1 (q_Tof hc) (q_one hat) 0 5 rfl rfl (zi_in h0 h1 hN) hd w'
theorem r_alen {a N : Nat} (hd : decode y.2.1 pc = .ok (.arraylength, 1)) (hp : pc + 1 = pc') (hs : q_sh a = (20, N)) (ha : a < n) (kk : q_Tr l g y d K pc' L (.int (zi N) :: S) n P X Y) : q_Tr l g y d K pc L (.ref (g.1 + a) :: S) n P X Y := by
  subst hp
  refine q_same (fun p e R s m args below meth c H locs ls cells slots Q N0 ns hc hH hl w => ?_) kk
  have hat := hH.2.1 a ha
  rw [q_cell_i hs (Or.inl rfl)] at hat
  exact va_alen hc.1 hc.2.1 (q_Tof hc) (q_one hat) 0 0 rfl rfl (v := zi N) (by show Int32.ofNat N = Int32.ofInt (N : Int); exact (Int32.ofInt_eq_ofNat (n := N)).symm) hd w
-- the script
theorem r_sld {b jn : Nat} {j : Int} (hd : decode y.2.1 pc = .ok (.iaload, 1)) (hp : pc + 1 = pc') (hb : g.2.2.2.2.1 = b) (h0 : 0 ≤ j) (h1 : j < g.2.2.2.2.2.1) (hN : g.2.2.2.2.2.1 ≤ 2147483647) (hj : j.toNat = jn) (kk : q_Tr l g y d K pc' L (.int (zi (g.2.2.2.2.2.2 jn).toInt) :: S) n P X Y) : q_Tr l g y d K pc L (.int (zi j) :: .ref b :: S) n P X Y := by
  subst hp; subst hj; subst hb
  refine q_same (fun p e R s m args below meth c H locs ls cells slots Q N0 ns hc hH hl w => ?_) kk
  obtain ⟨-, -, -, -, ⟨scr, e1, e2, e3, e4, e5⟩, e6, -⟩ := hc.2.2.2.2.2.2.2.2.2.2
  have hlt : j.toNat < g.2.2.2.2.2.1 := by omega
  refine W.iald (v := .int (g.2.2.2.2.2.2 j.toNat)) hc.1 hc.2.1 (by rw [hH.2.2 _ e6]; exact e1) e2 e3 (by rw [e4]; exact zi_in h0 h1 hN) (by rw [zi_nat (by omega)]; exact e5 _ hlt) rfl rfl hd ?_
  rw [zi_of] at w
  exact w
theorem r_slen {b : Nat} (hd : decode y.2.1 pc = .ok (.arraylength, 1)) (hp : pc + 1 = pc') (hb : g.2.2.2.2.1 = b) (kk : q_Tr l g y d K pc' L (.int (zi g.2.2.2.2.2.1) :: S) n P X Y) : q_Tr l g y d K pc L (.ref b :: S) n P X Y := by
  subst hp; subst hb
  refine q_same (fun p e R s m args below meth c H locs ls cells slots Q N0 ns hc hH hl w => ?_) kk
  obtain ⟨-, -, -, -, ⟨scr, e1, e2, e3, e4, e5⟩, e6, -⟩ := hc.2.2.2.2.2.2.2.2.2.2
  exact W.alen (n := zi g.2.2.2.2.2.1) hc.1 hc.2.1 (by rw [hH.2.2 _ e6]; exact e1) e2 (by rw [e4]; exact (Int32.ofInt_eq_ofNat).symm) rfl rfl hd w
-- stores
theorem q_updV_up {X : q_X} {a j : Nat} {x : Int32} : updV (fun q => Value.int (X a q)) j (.int x) = fun q => Value.int (q_up X a j x a q) := by
  funext q
  by_cases h : q = j <;> simp [updV, q_up, h]
theorem r_iastore {a N jn : Nat} {j z : Int} (hd : decode y.2.1 pc = .ok (.iastore, 1)) (hp : pc + 1 = pc') (hs : q_sh a = (20, N)) (ha : a < n) (h0 : 0 ≤ j) (h1 : j < N) (hN : N ≤ 2147483647) (hj : j.toNat = jn) (kk : q_Tr l g y d K pc' L S n P (q_up X a jn (zi z)) Y) : q_Tr l g y d K pc L (.int (zi z) :: .int (zi j) :: .ref (g.1 + a) :: S) n P X Y := by
  subst hp; subst hj
  refine q_chg (fun p e R s m args below meth c H locs ls cells slots Q N0 ns hc hH hlo hl w => ?_) kk
  have hat := hH.2.1 a ha
  rw [q_cell_i hs (Or.inl rfl)] at hat
  refine W.iast hc.1 hc.2.1 hat (((q_Tof hc).2 0 _ rfl).1 N (fun q => .int (X a q))) (fun q => by cases q) (by show ¬ (_ ∨ (arrV _ _ _).slots.size ≤ _); rw [arrV_size]; exact zi_in h0 h1 hN) rfl rfl hd fun H1 e1 z1 oq => ?_
  refine w H1 _ (hH.set z1 oq ?_ (fun q hq => q_cell_congr (fun _ => rfl) (fun b => (q_up_ne _ _ (fun e => hq e.1)).symm) (fun _ => rfl))) (q_locs hlo)
  rw [q_cell_i hs (Or.inl rfl)]
  show H1[_]? = some (vp_cell _ _)
  rw [e1, vp_cell_i, vp_cell_i, arrV_store, zi_nat (by omega), q_updV_up]
theorem q_narZ {z : Int} (h : z = 0 ∨ z = 1) : narrow .boolean (.int (zi z)) = .int (zi z) := by rcases h with rfl | rfl <;> rfl
theorem r_zastore {a N jn : Nat} {j z : Int} (hd : decode y.2.1 pc = .ok (.bastore, 1)) (hp : pc + 1 = pc') (hs : q_sh a = (22, N)) (ha : a < n) (h0 : 0 ≤ j) (h1 : j < N) (hN : N ≤ 2147483647) (hj : j.toNat = jn) (hz : z = 0 ∨ z = 1) (kk : q_Tr l g y d K pc' L S n P (q_up X a jn (zi z)) Y) : q_Tr l g y d K pc L (.int (zi z) :: .int (zi j) :: .ref (g.1 + a) :: S) n P X Y := by
  subst hp; subst hj
  refine q_chg (fun p e R s m args below meth c H locs ls cells slots Q N0 ns hc hH hlo hl w => ?_) kk
  have hat := hH.2.1 a ha
  rw [q_cell_i hs (Or.inr (Or.inl rfl))] at hat
  refine W.zast hc.1 hc.2.1 hat (((q_Tof hc).2 2 _ rfl).1 N (fun q => .int (X a q))) (fun q => by cases q) (by show ¬ (_ ∨ (arrV _ _ _).slots.size ≤ _); rw [arrV_size]; exact zi_in h0 h1 hN) rfl rfl hd fun H1 e1 z1 oq => ?_
  refine w H1 _ (hH.set z1 oq ?_ (fun q hq => q_cell_congr (fun _ => rfl) (fun b => (q_up_ne _ _ (fun e => hq e.1)).symm) (fun _ => rfl))) (q_locs hlo)
  rw [q_cell_i hs (Or.inr (Or.inl rfl))]
  show H1[_]? = some (vp_cell _ _)
  rw [e1, q_narZ hz, vp_cell_i, vp_cell_i, arrV_store, zi_nat (by omega), q_updV_up]
theorem r_bastore {a N jn : Nat} {j z : Int} (hd : decode y.2.1 pc = .ok (.bastore, 1)) (hp : pc + 1 = pc') (hs : q_sh a = (23, N)) (ha : a < n) (h0 : 0 ≤ j) (h1 : j < N) (hN : N ≤ 2147483647) (hj : j.toNat = jn) (hz : narrow .byte (.int (zi z)) = .int (zi z)) (kk : q_Tr l g y d K pc' L S n P (q_up X a jn (zi z)) Y) : q_Tr l g y d K pc L (.int (zi z) :: .int (zi j) :: .ref (g.1 + a) :: S) n P X Y := by
  subst hp; subst hj
  refine q_chg (fun p e R s m args below meth c H locs ls cells slots Q N0 ns hc hH hlo hl w => ?_) kk
  have hat := hH.2.1 a ha
  rw [q_cell_i hs (Or.inr (Or.inr rfl))] at hat
  refine W.bast hc.1 hc.2.1 hat (((q_Tof hc).2 3 _ rfl).1 N (fun q => .int (X a q))) (fun q => by cases q) (by show ¬ (_ ∨ (arrV _ _ _).slots.size ≤ _); rw [arrV_size]; exact zi_in h0 h1 hN) rfl rfl hd fun H1 e1 z1 oq => ?_
  refine w H1 _ (hH.set z1 oq ?_ (fun q hq => q_cell_congr (fun _ => rfl) (fun b => (q_up_ne _ _ (fun e => hq e.1)).symm) (fun _ => rfl))) (q_locs hlo)
  rw [q_cell_i hs (Or.inr (Or.inr rfl))]
  show H1[_]? = some (vp_cell _ _)
  rw [e1, hz, vp_cell_i, vp_cell_i, arrV_store, zi_nat (by omega), q_updV_up]
theorem q_updV_upL {Y : q_Y} {a j : Nat} {x : Int64} : updV (fun q => Value.long (Y a q)) j (.long x) = fun q => Value.long (q_up Y a j x a q) := by
  funext q
  by_cases h : q = j <;> simp [updV, q_up, h]
theorem r_lastore {a N jn : Nat} {j : Int} {x : Int64} (hd : decode y.2.1 pc = .ok (.lastore, 1)) (hp : pc + 1 = pc') (hs : q_sh a = (21, N)) (ha : a < n) (h0 : 0 ≤ j) (h1 : j < N) (hN : N ≤ 2147483647) (hj : j.toNat = jn) (kk : q_Tr l g y d K pc' L S n P X (q_up Y a jn x)) : q_Tr l g y d K pc L (.long x :: .int (zi j) :: .ref (g.1 + a) :: S) n P X Y := by
  subst hp; subst hj
  refine q_chg (fun p e R s m args below meth c H locs ls cells slots Q N0 ns hc hH hlo hl w => ?_) kk
  have hat := hH.2.1 a ha
  rw [q_cell_l hs] at hat
  refine W.last hc.1 hc.2.1 hat (((q_Tof hc).2 1 _ rfl).1 N (fun q => .long (Y a q))) (fun q => by cases q) (by show ¬ (_ ∨ (arrV _ _ _).slots.size ≤ _); rw [arrV_size]; exact zi_in h0 h1 hN) rfl rfl hd fun H1 e1 z1 oq => ?_
  refine w H1 _ (hH.set z1 oq ?_ (fun q hq => q_cell_congr (fun _ => rfl) (fun _ => rfl) (fun b => (q_up_ne _ _ (fun e => hq e.1)).symm))) (q_locs hlo)
  rw [q_cell_l hs]
  show H1[_]? = some (vp_cell _ _)
  rw [e1, vp_cell_l, vp_cell_l, arrV_store, zi_nat (by omega), q_updV_upL]
-- returns
theorem r_ireturn {z : Int} (hd : decode y.2.1 pc = .ok (.ireturn, 1)) (hr : y.2.2.2 = some .int) (hK : K (some (.int (zi z))) n P X Y) : q_Tr l g y d K pc L [.int (zi z)] n P X Y :=
  ⟨_, n, P, X, Y, hK, Nat.le_refl _, fun p e R s m args below meth c H locs ls ns hc hn hH hlo hl => W.iret hc.1 hc.2.1 (hc.2.2.1.trans hr) (fun t ht _ => ⟨rfl, by rw [ht]; exact hH, by rw [ht, hc.2.2.2.2.2.2.2.2.2.1, hH.1]; omega⟩) hlo hd hc.2.2.2.2.2.2.1⟩
theorem r_zreturn {z : Int} (hd : decode y.2.1 pc = .ok (.ireturn, 1)) (hr : y.2.2.2 = some .boolean) (hz : z = 0 ∨ z = 1) (hK : K (some (.int (zi z))) n P X Y) : q_Tr l g y d K pc L [.int (zi z)] n P X Y :=
  ⟨_, n, P, X, Y, hK, Nat.le_refl _, fun p e R s m args below meth c H locs ls ns hc hn hH hlo hl => W.zret hc.1 hc.2.1 (hc.2.2.1.trans hr) (q_narZ hz) (fun t ht _ => ⟨rfl, by rw [ht]; exact hH, by rw [ht, hc.2.2.2.2.2.2.2.2.2.1, hH.1]; omega⟩) hlo hd hc.2.2.2.2.2.2.1⟩
theorem r_lreturn {x : Int64} (hd : decode y.2.1 pc = .ok (.lreturn, 1)) (hr : y.2.2.2 = some .long) (hK : K (some (.long x)) n P X Y) : q_Tr l g y d K pc L [.long x] n P X Y :=
  ⟨_, n, P, X, Y, hK, Nat.le_refl _, fun p e R s m args below meth c H locs ls ns hc hn hH hlo hl => W.lret hc.1 hc.2.1 (hc.2.2.1.trans hr) (fun t ht _ => ⟨rfl, by rw [ht]; exact hH, by rw [ht, hc.2.2.2.2.2.2.2.2.2.1, hH.1]; omega⟩) hlo hd hc.2.2.2.2.2.2.1⟩
theorem r_return (hd : decode y.2.1 pc = .ok (.return_, 1)) (hr : y.2.2.2 = none) (hK : K none n P X Y) : q_Tr l g y d K pc L [] n P X Y :=
  ⟨_, n, P, X, Y, hK, Nat.le_refl _, fun p e R s m args below meth c H locs ls ns hc hn hH hlo hl => W.vret hc.1 hc.2.1 (hc.2.2.1.trans hr) (fun t ht _ => ⟨rfl, by rw [ht]; exact hH, by rw [ht, hc.2.2.2.2.2.2.2.2.2.1, hH.1]; omega⟩) hlo hd hc.2.2.2.2.2.2.1⟩
theorem r_areturn {o : Option Nat} {C : String} (hd : decode y.2.1 pc = .ok (.areturn, 1)) (hr : y.2.2.2 = some (.object C)) (hK : K (some (va_rf o)) n P X Y) : q_Tr l g y d K pc L [va_rf o] n P X Y :=
  ⟨_, n, P, X, Y, hK, Nat.le_refl _, fun p e R s m args below meth c H locs ls ns hc hn hH hlo hl => W.aret hc.1 hc.2.1 (hc.2.2.1.trans hr) (Or.inl ⟨_, rfl⟩) (by cases o with | none => exact Or.inl rfl | some a => exact Or.inr ⟨a, rfl⟩) (fun t ht _ => ⟨rfl, by rw [ht]; exact hH, by rw [ht, hc.2.2.2.2.2.2.2.2.2.1, hH.1]; omega⟩) hlo hd hc.2.2.2.2.2.2.1⟩
end QA
