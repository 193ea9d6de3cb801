/-! THE STORE: where each object and each array lies is known ahead (everything is made in one order); 'q_sh i': the kind (a class's number in vwCl; 20 int, 21 long, 22 boolean, 23 byte, 24 contracts, 25 books) and how many slots the i-th cell behind the law's start has. -/
def q_bk (j : Nat) : Nat × Nat := if j < 20 then ([(1, 14), (20, 20), (20, 20), (24, 40), (8, 6), (20, 24), (20, 24), (20, 24), (22, 24), (22, 24), (7, 5), (20, 12), (20, 12), (20, 12), (20, 12), (5, 6), (20, 80), (20, 21), (20, 6), (21, 21)] : List (Nat × Nat)).getD j (0, 0) else if (j - 20) % 5 = 0 then (4, 10) else (20, 10)
def q_tp (j : Nat) : Nat × Nat := ([(25, 2), (6, 3), (25, 8), (9, 3), (2, 2), (20, 500), (2, 2), (20, 256), (0, 4), (20, 20), (20, 20), (20, 20), (10, 6), (20, 40), (20, 40), (20, 40), (22, 40), (20, 40), (3, 13), (20, 10), (20, 10), (20, 10), (20, 10), (20, 10), (20, 10), (20, 10), (12, 27), (20, 44880), (22, 2), (23, 500), (20, 80), (20, 80), (21, 6), (21, 80), (20, 40), (20, 40), (22, 40), (20, 10), (20, 60), (23, 300)] : List (Nat × Nat)).getD j (0, 0)
def q_sh (i : Nat) : Nat × Nat := if i = 0 then (11, 12) else if i < 441 then q_bk ((i - 1) % 220) else if i < 481 then q_tp (i - 441) else q_bk ((i - 481) % 220)
def q_sl : Nat → Nat
  | 0 => 0
  | n + 1 => q_sl n + (q_sh n).2
theorem q_sl_mono {a b : Nat} (h : a ≤ b) : q_sl a ≤ q_sl b := by
  induction h with
  | refl => exact Nat.le_refl _
  | step _ ih => exact Nat.le_trans ih (Nat.le_add_right _ _)
def q_ty (ci j : Nat) : FieldType := match ci with
  | 0 => tyX0 j
  | 1 => tyX1 j
  | 2 => tyX2 j
  | 3 => tyX3 j
  | 4 => tyX4 j
  | 5 => tyX5 j
  | 6 => tyX6 j
  | 7 => tyX7 j
  | 8 => tyX8 j
  | 9 => tyX9 j
  | 10 => tyX10 j
  | 11 => tyX11 j
  | _ => tyX12 j
/-- an int field (or a boolean one) -/
def q_fi (ci j : Nat) : Bool := match q_ty ci j with
  | .int => true
  | .boolean => true
  | _ => false
/-- base, classes, array classes by kind, the law's own heap, the script -/
abbrev q_G : Type := Nat × va_G × (Nat → ClassId) × Heap × Nat × Nat × (Nat → Int32)
def q_rf (g : q_G) (r : Option Nat) : Option Nat := r.map (g.1 + ·)
def q_fv (g : q_G) (P : q_P) (X : q_X) (i ci j : Nat) : Value := if q_fi ci j = true then .int (X i j) else va_rf (q_rf g (P i j))
def q_fs (g : q_G) (P : q_P) (X : q_X) (i ci N : Nat) : List Value := (List.range N).map (q_fv g P X i ci)
def q_cell (g : q_G) (P : q_P) (X : q_X) (Y : q_Y) (i : Nat) : va_E :=
  if (q_sh i).1 < 13 then .inr ((q_sh i).1, q_fs g P X i (q_sh i).1 (q_sh i).2)
  else if (q_sh i).1 = 21 then .inl (g.2.2.1 21, (q_sh i).2, .inr (.inl (Y i)))
  else if 24 ≤ (q_sh i).1 then .inl (g.2.2.1 (q_sh i).1, (q_sh i).2, .inr (.inr (.inr (.inr (fun j => q_rf g (P i j))))))
  else .inl (g.2.2.1 (q_sh i).1, (q_sh i).2, .inl (X i))
theorem q_cell_o {g : q_G} {P : q_P} {X : q_X} {Y : q_Y} {i ci N : Nat} (h : q_sh i = (ci, N)) (hc : ci < 13) : q_cell g P X Y i = .inr (ci, q_fs g P X i ci N) := by simp [q_cell, h, hc]
theorem q_cell_i {g : q_G} {P : q_P} {X : q_X} {Y : q_Y} {i k N : Nat} (h : q_sh i = (k, N)) (hc : k = 20 ∨ k = 22 ∨ k = 23) : q_cell g P X Y i = .inl (g.2.2.1 k, N, .inl (X i)) := by rcases hc with rfl | rfl | rfl <;> simp [q_cell, h]
theorem q_cell_l {g : q_G} {P : q_P} {X : q_X} {Y : q_Y} {i N : Nat} (h : q_sh i = (21, N)) : q_cell g P X Y i = .inl (g.2.2.1 21, N, .inr (.inl (Y i))) := by simp [q_cell, h]
theorem q_cell_r {g : q_G} {P : q_P} {X : q_X} {Y : q_Y} {i k N : Nat} (h : q_sh i = (k, N)) (hc : k = 24 ∨ k = 25) : q_cell g P X Y i = .inl (g.2.2.1 k, N, .inr (.inr (.inr (.inr (fun j => q_rf g (P i j)))))) := by rcases hc with rfl | rfl <;> simp [q_cell, h]
/-- a change of one cell's contents leaves the others' -/
theorem q_cell_congr {g : q_G} {P P' : q_P} {X X' : q_X} {Y Y' : q_Y} {i : Nat} (hP : ∀ j, P i j = P' i j) (hX : ∀ j, X i j = X' i j) (hY : ∀ j, Y i j = Y' i j) : q_cell g P X Y i = q_cell g P' X' Y' i := by
  have e1 : P i = P' i := funext hP
  have e2 : X i = X' i := funext hX
  have e3 : Y i = Y' i := funext hY
  have e4 : ∀ ci j, q_fv g P X i ci j = q_fv g P' X' i ci j := fun ci j => by simp only [q_fv, e1, e2]
  have e5 : ∀ ci N, q_fs g P X i ci N = q_fs g P' X' i ci N := fun ci N => by simp only [q_fs, funext (e4 ci)]
  simp only [q_cell, e1, e2, e3, e5]
def q_H (g : q_G) (n : Nat) (P : q_P) (X : q_X) (Y : q_Y) (H : Heap) : Prop :=
  H.size = g.1 + n ∧ (∀ i, i < n → va_at g.2.1 vwCl (g.1 + i, q_cell g P X Y i) H) ∧ ∀ q, q < g.1 → H[q]? = g.2.2.2.1[q]?
theorem q_H.set {g : q_G} {n : Nat} {P P' : q_P} {X X' : q_X} {Y Y' : q_Y} {H H1 : Heap} {i : Nat} (h : q_H g n P X Y H) (hs : H1.size = H.size) (ho : ∀ q, q ≠ g.1 + i → H1[q]? = H[q]?)
    (ha : va_at g.2.1 vwCl (g.1 + i, q_cell g P' X' Y' i) H1) (hc : ∀ j, j ≠ i → q_cell g P X Y j = q_cell g P' X' Y' j) : q_H g n P' X' Y' H1 := by
  refine ⟨hs.trans h.1, fun j hj => ?_, fun q hq => (ho q (by omega)).trans (h.2.2 q hq)⟩
  by_cases e : j = i
  · subst e; exact ha
  · rw [← hc j e]
    exact (h.2.1 j hj).kept (ho _ (by simp only; omega))
def q_tys (g : q_G) : List (ClassId × FieldType) := [(g.2.2.1 20, .int), (g.2.2.1 21, .long), (g.2.2.1 22, .boolean), (g.2.2.1 23, .byte), (g.2.2.1 24, .object RX4), (g.2.2.1 25, .object RX1)]
/-- the tables' words that hold at every state behind (the rest: q_T) -/
def q_tb : List Cond := lw_tbl.filter goodWord
def q_nest : List Cond := lw_tbl.filter (fun w => match w with | .methodLinkNest _ _ _ _ => true | _ => false)
/-- what is known of the one String constant (its address: number 100 among the array classes, its bytes' 101), of String's and Preconditions' statics -/
def q_S (g : q_G) (s : State) : Prop := vk_R "DeadCap$Formula" 86 "hxsybn" (g.2.2.1 100) s ∧ vk_S 1 [6] [[104, 120, 115, 121, 98, 110]] (fun _ => g.2.2.1 100) (fun _ => g.2.2.1 101) (fun q => g.1 ≤ q) s g.2.2.2.1 ∧ va_Z "java/lang/String" "COMPACT_STRINGS" "Z" (.int 1) (fun q => g.1 ≤ q) s g.2.2.2.1 ∧ va_Zq "jdk/internal/util/Preconditions" "SIOOBE_FORMATTER" "Ljava/util/function/BiFunction;" (fun q => g.1 ≤ q) s g.2.2.2.1
theorem q_S.warm {g : q_G} {s U : State} (hW : s.WarmedH U.vm) (h : q_S g s) : q_S g U := ⟨h.1.warm hW, h.2.1.moved hW.alike, h.2.2.1.moved hW.alike, h.2.2.2.moved hW.alike⟩
theorem q_S.same {g : q_G} {s U : State} (hW : s.vm = U.vm) (h : q_S g s) : q_S g U := by
  have ha : s.vm.Alike U.vm := by rw [hW]; exact Vm.Alike.refl _
  exact ⟨h.1.same hW.symm, h.2.1.moved ha, h.2.2.1.moved ha, h.2.2.2.moved ha⟩
def q_T (g : q_G) (s : State) : Prop := va_K g.2.1 vwCl (q_tys g) s ∧ (∀ w ∈ q_nest, va_Nw w s) ∧ va_AO RX4 s ∧ va_AO RX1 s ∧ va_X g.2.2.2.2.1 g.2.2.2.2.2.1 g.2.2.2.2.2.2 s g.2.2.2.1 ∧ g.2.2.2.2.1 < g.1 ∧ q_S g s
theorem q_nest_w {w : Cond} (h : w ∈ q_nest) : ∃ a i x b, w = .methodLinkNest a i x b := by
  have := (List.mem_filter.mp h).2
  cases w <;> first | exact ⟨_, _, _, _, rfl⟩ | simp at this
theorem q_T.warm {g : q_G} {s U : State} (hW : s.WarmedH U.vm) (h : q_T g s) : q_T g U := by
  obtain ⟨h1, h2, h3, h4, h5, h6, h7⟩ := h
  refine ⟨h1.moved hW.alike, fun w hw => ?_, h3.moved hW.alike, h4.moved hW.alike, h5.moved hW.alike, h6, h7.warm hW⟩
  obtain ⟨a, i, x, b, rfl⟩ := q_nest_w hw
  exact va_Nw.warmM hW (h2 _ hw)
theorem q_T.same {g : q_G} {s U : State} (hW : s.vm = U.vm) (h : q_T g s) : q_T g U := by
  have ha : s.vm.Alike U.vm := by rw [hW]; exact Vm.Alike.refl _
  obtain ⟨h1, h2, h3, h4, h5, h6, h7⟩ := h
  refine ⟨h1.moved ha, fun w hw => ?_, h3.moved ha, h4.moved ha, h5.moved ha, h6, h7.same hW⟩
  obtain ⟨a, i, x, b, rfl⟩ := q_nest_w hw
  exact (h2 _ hw).same rfl hW
/-- a method: its name, its code, its locals, what it returns -/
abbrev q_M : Type := MethodName × ByteArray × Nat × Option FieldType
def q_Q (g : q_G) (v : Option Value) (N : Nat) (P : q_P) (X : q_X) (Y : q_Y) : Array Value → State → Outcome → State → Prop := fun _ st o t => o = .returned v ∧ q_H g N P X Y t.heap ∧ st.heap.size ≤ t.heap.size
/-- what stays as it is while a method runs -/
def q_C (g : q_G) (y : q_M) (d N ns : Nat) (p : Program) (R : Room) (s : State) (m : MethodId) (args : Array Value) (meth : Method) (c : Code) : Prop :=
  p.tables.exec = Jvm.exec ∧ c.code = y.2.1 ∧ meth.sig.returnType = y.2.2.2 ∧ c.maxLocals = y.2.2.1 ∧ s.vm.findClass y.1.cls = some m.cls ∧ (∀ w ∈ q_tb, w.before args s = true) ∧ meth.locks = false ∧ meth.name = y.1.name ∧
  (d ≤ R.frames ∧ 40 * d ≤ R.locals ∧ N - ns ≤ R.cells ∧ q_sl N - q_sl ns ≤ R.slots) ∧ s.heap.size = g.1 + ns ∧ q_T g s
/-- from pc, with locals L and stack S, over the store (n, P, X, Y), method y returns v with the store (N, P', X', Y') -/
def q_Run (l : Launch) (g : q_G) (y : q_M) (d pc : Nat) (L : List (Nat × Value)) (S : List Value) (n : Nat) (P : q_P) (X : q_X) (Y : q_Y) (v : Option Value) (N : Nat) (P' : q_P) (X' : q_X) (Y' : q_Y) : Prop :=
  n ≤ N ∧ ∀ (p : Program) (e : Env) (R : Room) (s : State) (m : MethodId) (args : Array Value) (below : List Frame) (meth : Method) (c : Code) (H : Heap) (locs : List Loc) (ls : Array Slot) (ns : Nat),
    q_C g y d N ns p R s m args meth c → ns ≤ n → q_H g n P X Y H → (∀ q ∈ locs, g.1 ≤ q.base) → lv_has ls y.2.2.1 L →
    W p l e R s m args below meth c H locs (n - ns) (q_sl n - q_sl ns) (MQ below (q_Q g v N P' X' Y') args s (N - ns) (q_sl N - q_sl ns) (fun q => g.1 ≤ q)) (F0 m pc ls S)
abbrev q_K : Type := Option Value → Nat → q_P → q_X → q_Y → Prop
def q_Tr (l : Launch) (g : q_G) (y : q_M) (d : Nat) (K : q_K) (pc : Nat) (L : List (Nat × Value)) (S : List Value) (n : Nat) (P : q_P) (X : q_X) (Y : q_Y) : Prop :=
  ∃ v N P' X' Y', K v N P' X' Y' ∧ q_Run l g y d pc L S n P X Y v N P' X' Y'
def q_rm (d n N : Nat) : Room := { frames := d, cells := N - n, slots := q_sl N - q_sl n, locals := 40 * d }
def q_ws (y : q_M) : List Cond := .code y.1 y.2.1 y.2.2.1 y.2.2.2 :: q_tb
def q_Pc (g : q_G) (As : List Value) (n : Nat) (P : q_P) (X : q_X) (Y : q_Y) : Array Value → State → Prop := fun a U => a = As.toArray ∧ q_T g U ∧ q_H g n P X Y U.heap
def q_Met (l : Launch) (g : q_G) (y : q_M) (d : Nat) (As : List Value) (n : Nat) (P : q_P) (X : q_X) (Y : q_Y) (K : q_K) : Prop :=
  ∃ v N P' X' Y', K v N P' X' Y' ∧ n ≤ N ∧ Met l y.1 (q_ws y) (q_rm d n N) (q_Pc g As n P X Y) (q_Q g v N P' X' Y') (N - n) (q_sl N - q_sl n) (fun q => g.1 ≤ q)
theorem q_blind {g : q_G} {As : List Value} {n : Nat} {P : q_P} {X : q_X} {Y : q_Y} : FrameBlind (q_Pc g As n P X Y) := fun a U f mk h => ⟨h.1, q_T.same (s := U) (U := U.calling f mk a) rfl h.2.1, h.2.2⟩
/-- a method's body gives its contract -/
theorem q_enter {l : Launch} {g : q_G} {y : q_M} {d : Nat} {As : List Value} {L : List (Nat × Value)} {n : Nat} {P : q_P} {X : q_X} {Y : q_Y} {K : q_K} (hy : plainName y.1.cls = true) (hl : (lg_sl As).length ≤ y.2.2.1) (hL : lv_args 0 As = L)
    (h : q_Tr l g y d K 0 L [] n P X Y) : q_Met l g y d As n P X Y K := by
  obtain ⟨v, N, P', X', Y', hK, hN, hrun⟩ := h
  refine ⟨v, N, P', X', Y', hK, hN, ?_⟩
  refine Met.ofW (cc := y.2.1) (maxL := y.2.2.1) (ret := y.2.2.2) hy rfl ?_
  intro p e s m args below meth c s₁ B hml hv
  obtain ⟨rfl, hT, hH⟩ := hv
  have hts := atoms_spec (ws := q_ws y) B.pre
  have hn : meth.name = y.1.name := (name_of_methodNamed B.named B.method).1
  have hc : q_C g y d N n p (headSpec (q_ws y) (q_rm d n N)).room s m As.toArray meth c := ⟨B.exec, B.bytes, B.returns, hml, findClass_of_methodNamed B.named, fun w hw => hts w (List.mem_cons_of_mem _ hw), B.notSynchronized, hn, ⟨Nat.le_refl _, Nat.le_refl _, Nat.le_refl _, Nat.le_refl _⟩, hH.1, hT⟩
  have hle := lv_entry As (n := y.2.2.1) hl
  rw [hL] at hle
  rw [lg_entry_eq]
  have := hrun p e _ s m As.toArray below meth c s.heap [] _ n hc (Nat.le_refl _) hH (fun q hq => by cases hq) hle
  rw [Nat.sub_self, Nat.sub_self] at this
  exact this
