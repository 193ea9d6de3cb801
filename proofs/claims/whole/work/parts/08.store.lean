def q_Cl (ci : Nat) (C : String) (T : u_T) (N : Nat) : Prop := vwCl[ci]? = some (C, T, N) ∧ ci < 13 ∧ (∀ w ∈ u_ws C T N, w ∈ q_tb) ∧ (∀ k, k < N → parseFieldDescriptor (T k).2.2.1 = some (q_ty ci k)) ∧ (∀ a, a < N → ∀ b, b < N → a ≠ b → (T a).2.1 ≠ (T b).2.1) ∧ ∀ k, k < N → (T k).1 = C
/-- pool entry idx of class own is the k-th field of class ci; whether it is final -/
def q_F (own : String) (idx ci k N : Nat) (fin : Bool) : Prop := ∃ (C : String) (T : u_T), q_Cl ci C T N ∧ k < N ∧ Cond.fieldLink own idx C (T k).2.1 (T k).2.2.1 ∈ q_tb ∧ (T k).2.2.2 = fin
theorem q_V {g : q_G} {P : q_P} {X : q_X} {i ci N j : Nat} (h : j < N) : vp_V (q_fs g P X i ci N) j = q_fv g P X i ci j := by simp [vp_V, q_fs, h]
theorem q_fs_at {g : q_G} {P : q_P} {X : q_X} {i ci N k : Nat} (h : k < N) : (q_fs g P X i ci N)[k]? = some (q_fv g P X i ci k) := by simp [q_fs, h]
section QS
variable {l : Launch} {g : q_G} {y : q_M} {d : Nat} {K : q_K} {pc pc' : Nat} {L L' : List (Nat × Value)} {S S' : List Value} {n : Nat} {P P' : q_P} {X X' : q_X} {Y Y' : q_Y}
theorem q_chg (h : ∀ (p : Program) (e : Env) (R : Room) (s : State) (m : MethodId) (args : Array Value) (below : List Frame) (meth : Method) (c : Code) (H : Heap) (locs : List Loc) (ls : Array Slot) (cells slots : Nat) (Q : State → Prop) (N ns : Nat), q_C g y d N ns p R s m args meth c → q_H g n P X Y H → (∀ q ∈ locs, g.1 ≤ q.base) → lv_has ls y.2.2.1 L →
      (∀ (H1 : Heap) (locs1 : List Loc), q_H g n P' X' Y' H1 → (∀ q ∈ locs1, g.1 ≤ q.base) → W p l e R s m args below meth c H1 locs1 cells slots Q (F0 m pc' ls S')) → W p l e R s m args below meth c H locs cells slots Q (F0 m pc ls S)) (k : q_Tr l g y d K pc' L S' n P' X' Y') : q_Tr l g y d K pc L S n P X Y := by
  obtain ⟨v, N, P1, X1, Y1, hK, hN, hr⟩ := k
  exact ⟨v, N, P1, X1, Y1, hK, hN, fun p e R s m args below meth c H locs ls ns hc hn hH hl hL => h p e R s m args below meth c H locs ls _ _ _ N ns hc hH hl hL fun H1 locs1 hH1 hl1 => hr p e R s m args below meth c H1 locs1 ls ns hc hn hH1 hl1 hL⟩
theorem q_locs {g : q_G} {locs : List Loc} {i k : Nat} (h : ∀ q ∈ locs, g.1 ≤ q.base) : ∀ q ∈ locs ++ [(⟨g.1 + i, k⟩ : Loc)], g.1 ≤ q.base := fun q hq => by
  rcases List.mem_append.mp hq with h1 | h1
  · exact h q h1
  · rw [List.mem_singleton.mp h1]; exact Nat.le_add_right _ _
theorem q_get {i ci k N idx : Nat} {fin : Bool} {v : Value} (hd : decode y.2.1 pc = .ok (.getfield idx, 3)) (hp : pc + 3 = pc') (hF : q_F y.1.cls idx ci k N fin) (hs : q_sh i = (ci, N)) (hi : i < n) (hv : q_fv g P X i ci k = v) (kk : q_Tr l g y d K pc' L (v :: S) n P X Y) : q_Tr l g y d K pc L (.ref (g.1 + i) :: S) n P X Y := by
  subst hp
  obtain ⟨C, T, hC, hk, hw, -⟩ := hF
  refine q_same (fun p e R s m args below meth c H locs ls cells slots Q N ns hc hH hl w => ?_) kk
  have hat := hH.2.1 i hi
  rw [q_cell_o hs hC.2.1] at hat
  refine va_get (ws := [(g.1 + i, .inr (ci, q_fs g P X i ci _))]) hc.1 hc.2.1 hc.2.2.2.2.2.1 hC.2.2.1 hc.2.2.2.2.1 hc.2.2.2.2.2.2.2.2.2.2.1 (fun k q hq => ?_) 0 rfl hC.1 k hk (hc.2.2.2.2.2.1 _ hw) (fun x hx => by rw [hC.2.2.2.2.2 k hk] at hx; exact hx) (v := v) (by rw [q_fs_at hk, hv]) hd w
  cases k with
  | zero => cases hq; exact hat
  | succ k => simp at hq
theorem r_getI {i ci k N idx : Nat} {fin : Bool} (hd : decode y.2.1 pc = .ok (.getfield idx, 3)) (hp : pc + 3 = pc') (hF : q_F y.1.cls idx ci k N fin) (hf : q_fi ci k = true) (hs : q_sh i = (ci, N)) (hi : i < n) (kk : q_Tr l g y d K pc' L (.int (zi (xv X i k)) :: S) n P X Y) : q_Tr l g y d K pc L (.ref (g.1 + i) :: S) n P X Y :=
  q_get hd hp hF hs hi (by rw [q_fv, if_pos hf, zi_xv]) kk
theorem r_getR {i ci k N idx o : Nat} {fin : Bool} (hd : decode y.2.1 pc = .ok (.getfield idx, 3)) (hp : pc + 3 = pc') (hF : q_F y.1.cls idx ci k N fin) (hf : q_fi ci k = false) (hs : q_sh i = (ci, N)) (hi : i < n) (ho : P i k = some o) (kk : q_Tr l g y d K pc' L (.ref (g.1 + o) :: S) n P X Y) : q_Tr l g y d K pc L (.ref (g.1 + i) :: S) n P X Y :=
  q_get hd hp hF hs hi (by rw [q_fv, if_neg (by rw [hf]; decide), ho]; rfl) kk
/-- a field is put -/
theorem q_put {i ci k N idx : Nat} {v : Value} (hd : decode y.2.1 pc = .ok (.putfield idx, 3)) (hp : pc + 3 = pc') (hF : q_F y.1.cls idx ci k N false) (hs : q_sh i = (ci, N)) (hi : i < n) (hnw : narrow (q_ty ci k) v = v) (hft : fits (q_ty ci k) v = true)
    (hv : q_fv g P' X' i ci k = v) (ho : ∀ j, j ≠ k → q_fv g P' X' i ci j = q_fv g P X i ci j) (hc' : ∀ j, j ≠ i → q_cell g P X Y j = q_cell g P' X' Y j) (kk : q_Tr l g y d K pc' L S n P' X' Y) : q_Tr l g y d K pc L (v :: .ref (g.1 + i) :: S) n P X Y := by
  subst hp
  obtain ⟨C, T, hC, hk, hw, hfin⟩ := hF
  refine q_chg (fun p e R s m args below meth c H locs ls cells slots Q N0 ns hc hH hlo hl w => ?_) kk
  have hts := hc.2.2.2.2.2.1
  have hKv : va_K g.2.1 vwCl (q_tys g) s := hc.2.2.2.2.2.2.2.2.2.2.1
  have hap := va_apart (own := y.1.cls) hts hC.2.2.1 (q_ty ci) hC.2.2.2.1 hC.2.2.2.2.1 hKv hC.1
  have hat := hH.2.1 i hi
  rw [q_cell_o hs hC.2.1] at hat
  obtain ⟨r, h1, cell, q1, q2, q3, q4⟩ := hat
  have hr : r = (C, T, N) := Option.some.inj (h1.symm.trans hC.1)
  subst hr
  obtain ⟨hS, hfc, kC, hkC, hkind⟩ := hKv.1 ci _ hC.1
  obtain ⟨cf, kf, fi, f, hfi, hsl⟩ := hS k hk
  have hlay := hts _ (hC.2.2.1 _ (u_in_lay hk))
  unfold u_lay at hlay
  rw [if_neg (by rw [hfin]; decide)] at hlay
  have hst := (u_facts hfc hkC (u_lays hts hC.2.2.1 hk) hfi).1
  have h6 := u_store hfc hkC hkind hlay hfi (hC.2.2.2.1 k hk) hnw hft
  refine W.putK hc.1 hc.2.1 (f := f) ⟨hc.2.2.2.2.1, hts _ hw, ⟨_, _, _, by rw [hC.2.2.2.2.2 k hk] at hfi; exact hfi⟩, hst⟩ (by rw [q2]; exact h6) q1 q3 (by rw [hsl]; exact k2_hasslot (q4 k hk)) rfl rfl hd fun H' e1 e2 e3 => ?_
  rw [hsl] at e1 ⊢
  refine w H' _ (hH.set e2 e3 ?_ hc') (q_locs hlo)
  rw [q_cell_o hs hC.2.1]
  refine ⟨_, hC.1, t_OB.to (V := updV (vp_V (q_fs g P X i ci N)) k v) ⟨_, e1, q2, q3, t_set q4 hap hk v⟩ (fun j hj => ?_)⟩
  rw [q_V hj]
  by_cases e : j = k
  · subst e; rw [hv]; simp [updV]
  · rw [ho j e]; simp only [updV, if_neg e]; exact q_V hj
theorem q_putF {i ci k N idx : Nat} {v : Value} (hd : decode y.2.1 pc = .ok (.putfield idx, 3)) (hp : pc + 3 = pc') (hF : q_F y.1.cls idx ci k N true) (hin : y.1.name = "<init>") (hown : (vwCl[ci]?.map (·.1)) = some y.1.cls) (hs : q_sh i = (ci, N)) (hi : i < n) (hnw : narrow (q_ty ci k) v = v) (hft : fits (q_ty ci k) v = true)
    (hv : q_fv g P' X' i ci k = v) (ho : ∀ j, j ≠ k → q_fv g P' X' i ci j = q_fv g P X i ci j) (hc' : ∀ j, j ≠ i → q_cell g P X Y j = q_cell g P' X' Y j) (kk : q_Tr l g y d K pc' L S n P' X' Y) : q_Tr l g y d K pc L (v :: .ref (g.1 + i) :: S) n P X Y := by
  subst hp
  obtain ⟨C, T, hC, hk, hw, hfin⟩ := hF
  refine q_chg (fun p e R s m args below meth c H locs ls cells slots Q N0 ns hc hH hlo hl w => ?_) kk
  have hts := hc.2.2.2.2.2.1
  have hKv : va_K g.2.1 vwCl (q_tys g) s := hc.2.2.2.2.2.2.2.2.2.2.1
  have hap := va_apart (own := y.1.cls) hts hC.2.2.1 (q_ty ci) hC.2.2.2.1 hC.2.2.2.2.1 hKv hC.1
  have hat := hH.2.1 i hi
  rw [q_cell_o hs hC.2.1] at hat
  obtain ⟨r, h1, cell, q1, q2, q3, q4⟩ := hat
  have hr : r = (C, T, N) := Option.some.inj (h1.symm.trans hC.1)
  subst hr
  obtain ⟨hS, hfc, kC, hkC, hkind⟩ := hKv.1 ci _ hC.1
  obtain ⟨cf, kf, fi, f, hfi, hsl⟩ := hS k hk
  have hlay := hts _ (hC.2.2.1 _ (u_in_lay hk))
  unfold u_lay at hlay
  rw [if_pos hfin] at hlay
  have hst := (u_facts hfc hkC (u_lays hts hC.2.2.1 hk) hfi).1
  have hCo : C = y.1.cls := by rw [hC.1] at hown; exact Option.some.inj hown
  have hcf : m.cls = cf := by
    obtain ⟨_, _, c', _, _, _, -, -, hf', -, -, -, hown2, -⟩ := Cond.laysFinal_spec hlay
    have e1 : c' = cf := by have := hfi.symm.trans hf'; simp at this; exact this.1.symm
    rw [hC.2.2.2.2.2 k hk, hCo] at hown2
    rw [← e1]; exact Option.some.inj (hc.2.2.2.2.1.symm.trans hown2)
  have h6 := u_fits hfc hkC hkind (Or.inr hlay) hfi (hC.2.2.2.1 k hk) hnw hft
  refine W.putFinK hc.1 hc.2.1 hc.2.2.2.2.1 (hts _ hw) (by rw [hC.2.2.2.2.2 k hk] at hfi; exact hfi) hst hcf (hc.2.2.2.2.2.2.2.1.trans hin) (by rw [q2]; exact h6) q1 q3 (by rw [hsl]; exact k2_hasslot (q4 k hk)) rfl rfl hd fun H' e1 e2 e3 => ?_
  rw [hsl] at e1 ⊢
  refine w H' _ (hH.set e2 e3 ?_ hc') (q_locs hlo)
  rw [q_cell_o hs hC.2.1]
  refine ⟨_, hC.1, t_OB.to (V := updV (vp_V (q_fs g P X i ci N)) k v) ⟨_, e1, q2, q3, t_set q4 hap hk v⟩ (fun j hj => ?_)⟩
  rw [q_V hj]
  by_cases e : j = k
  · subst e; rw [hv]; simp [updV]
  · rw [ho j e]; simp only [updV, if_neg e]; exact q_V hj
theorem q_fv_up {g : q_G} {P : q_P} {X : q_X} {i ci k : Nat} {x : Int32} (hf : q_fi ci k = true) : q_fv g P (q_up X i k x) i ci k = .int x := by rw [q_fv, if_pos hf, q_up_same]
theorem q_fv_upo {g : q_G} {P : q_P} {X : q_X} {i ci k j : Nat} {x : Int32} (h : j ≠ k) : q_fv g P (q_up X i k x) i ci j = q_fv g P X i ci j := by rw [q_fv, q_fv, q_up_ne _ _ (fun e => h e.2)]
theorem q_fv_upr {g : q_G} {P : q_P} {X : q_X} {i ci k : Nat} {x : Option Nat} (hf : q_fi ci k = false) : q_fv g (q_up P i k x) X i ci k = va_rf (q_rf g x) := by rw [q_fv, if_neg (by rw [hf]; decide), q_up_same]
theorem q_fv_upro {g : q_G} {P : q_P} {X : q_X} {i ci k j : Nat} {x : Option Nat} (h : j ≠ k) : q_fv g (q_up P i k x) X i ci j = q_fv g P X i ci j := by rw [q_fv, q_fv, q_up_ne _ _ (fun e => h e.2)]
theorem r_putI {i ci k N idx : Nat} {z : Int} (hd : decode y.2.1 pc = .ok (.putfield idx, 3)) (hp : pc + 3 = pc') (hF : q_F y.1.cls idx ci k N false) (hf : q_fi ci k = true) (hs : q_sh i = (ci, N)) (hi : i < n) (hnw : narrow (q_ty ci k) (.int (zi z)) = .int (zi z)) (hft : fits (q_ty ci k) (.int (zi z)) = true)
    (kk : q_Tr l g y d K pc' L S n P (q_up X i k (zi z)) Y) : q_Tr l g y d K pc L (.int (zi z) :: .ref (g.1 + i) :: S) n P X Y :=
  q_put hd hp hF hs hi hnw hft (q_fv_up hf) (fun _ h => q_fv_upo h) (fun j hj => q_cell_congr (fun _ => rfl) (fun b => (q_up_ne _ _ (fun e => hj e.1)).symm) (fun _ => rfl)) kk
theorem r_putR {i ci k N idx o : Nat} (hd : decode y.2.1 pc = .ok (.putfield idx, 3)) (hp : pc + 3 = pc') (hF : q_F y.1.cls idx ci k N false) (hf : q_fi ci k = false) (hs : q_sh i = (ci, N)) (hi : i < n) (hnw : narrow (q_ty ci k) (.ref (g.1 + o)) = .ref (g.1 + o)) (hft : fits (q_ty ci k) (.ref (g.1 + o)) = true)
    (kk : q_Tr l g y d K pc' L S n (q_up P i k (some o)) X Y) : q_Tr l g y d K pc L (.ref (g.1 + o) :: .ref (g.1 + i) :: S) n P X Y :=
  q_put hd hp hF hs hi hnw hft (q_fv_upr hf) (fun _ h => q_fv_upro h) (fun j hj => q_cell_congr (fun b => (q_up_ne _ _ (fun e => hj e.1)).symm) (fun _ => rfl) (fun _ => rfl)) kk
theorem r_putRF {i ci k N idx o : Nat} (hd : decode y.2.1 pc = .ok (.putfield idx, 3)) (hp : pc + 3 = pc') (hF : q_F y.1.cls idx ci k N true) (hin : y.1.name = "<init>") (hown : (vwCl[ci]?.map (·.1)) = some y.1.cls) (hf : q_fi ci k = false) (hs : q_sh i = (ci, N)) (hi : i < n) (hnw : narrow (q_ty ci k) (.ref (g.1 + o)) = .ref (g.1 + o)) (hft : fits (q_ty ci k) (.ref (g.1 + o)) = true)
    (kk : q_Tr l g y d K pc' L S n (q_up P i k (some o)) X Y) : q_Tr l g y d K pc L (.ref (g.1 + o) :: .ref (g.1 + i) :: S) n P X Y :=
  q_putF hd hp hF hin hown hs hi hnw hft (q_fv_upr hf) (fun _ h => q_fv_upro h) (fun j hj => q_cell_congr (fun b => (q_up_ne _ _ (fun e => hj e.1)).symm) (fun _ => rfl) (fun _ => rfl)) kk
end QS
