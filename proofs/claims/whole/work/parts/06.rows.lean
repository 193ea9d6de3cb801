section QR
variable {l : Launch} {g : q_G} {y : q_M} {d : Nat} {K : q_K} {pc pc' : Nat} {L L' : List (Nat × Value)} {S S' : List Value} {n : Nat} {P : q_P} {X : q_X} {Y : q_Y}
/-- an instruction that moves neither the store nor the locals -/
theorem q_same (h : ∀ (p : Program) (e : Env) (R : Room) (s : State) (m : MethodId) (args : Array Value) (below : List Frame) (meth : Method) (c : Code) (H : Heap) (locs : List Loc) (ls : Array Slot) (cells slots : Nat) (Q : State → Prop) (N ns : Nat), q_C g y d N ns p R s m args meth c → q_H g n P X Y H → lv_has ls y.2.2.1 L →
      W p l e R s m args below meth c H locs cells slots Q (F0 m pc' ls S') → W p l e R s m args below meth c H locs cells slots Q (F0 m pc ls S)) (k : q_Tr l g y d K pc' L S' n P X Y) : q_Tr l g y d K pc L S n P X Y := by
  obtain ⟨v, N, P', X', Y', hK, hN, hr⟩ := k
  exact ⟨v, N, P', X', Y', hK, hN, fun p e R s m args below meth c H locs ls ns hc hn hH hl hL => h p e R s m args below meth c H locs ls _ _ _ N ns hc hH hL (hr p e R s m args below meth c H locs ls ns hc hn hH hl hL)⟩
/-- a store into the locals -/
def q_Upd (L : List (Nat × Value)) (i : Nat) (v : Value) (L' : List (Nat × Value)) : Prop := ∀ q ∈ L', q = (i, v) ∨ (q ∈ L ∧ q.1 ≠ i ∧ ¬ (q.1 + 1 = i ∧ q.2.category = 2) ∧ ¬ (v.category = 2 ∧ q.1 = i + 1))
theorem q_Upd.nil {i : Nat} {v : Value} : q_Upd [] i v [(i, v)] := fun q hq => Or.inl (List.mem_singleton.mp hq)
theorem q_Upd.no {L : List (Nat × Value)} {i : Nat} {v : Value} : q_Upd L i v [(i, v)] := fun q hq => Or.inl (List.mem_singleton.mp hq)
theorem q_Upd.drop {L L' : List (Nat × Value)} {i : Nat} {v : Value} {w : Nat × Value} (h : q_Upd L i v L') : q_Upd (w :: L) i v L' := fun q hq => (h q hq).imp id fun ⟨a, b⟩ => ⟨List.mem_cons_of_mem _ a, b⟩
/-- an entry of one slot stays, at a store of one slot -/
theorem q_Upd.s1 {L L' : List (Nat × Value)} {i j : Nat} {v w : Value} (h : q_Upd L i v L') (hj : Nat.beq j i = false) (hw : w.category = 1) (hv : v.category = 1) : q_Upd ((j, w) :: L) i v ((j, w) :: L') := fun q hq => by
  rcases List.mem_cons.mp hq with rfl | hq
  · exact Or.inr ⟨List.mem_cons_self, fun e => Nat.ne_of_beq_eq_false hj e, fun e => by rw [hw] at e; omega, fun e => by rw [hv] at e; omega⟩
  · exact (h q hq).imp id fun ⟨a, b⟩ => ⟨List.mem_cons_of_mem _ a, b⟩
/-- any entry stays that is apart -/
theorem q_Upd.s2 {L L' : List (Nat × Value)} {i j : Nat} {v w : Value} (h : q_Upd L i v L') (hj : Nat.beq j i = false) (hj2 : Nat.beq (j + 1) i = false ∨ w.category = 1) (hj3 : Nat.beq j (i + 1) = false ∨ v.category = 1) : q_Upd ((j, w) :: L) i v ((j, w) :: L') := fun q hq => by
  rcases List.mem_cons.mp hq with rfl | hq
  · refine Or.inr ⟨List.mem_cons_self, fun e => Nat.ne_of_beq_eq_false hj e, fun e => ?_, fun e => ?_⟩
    · rcases hj2 with h2 | h2
      · exact Nat.ne_of_beq_eq_false h2 e.1
      · rw [h2] at e; omega
    · rcases hj3 with h2 | h2
      · exact Nat.ne_of_beq_eq_false h2 e.2
      · rw [h2] at e; omega
  · exact (h q hq).imp id fun ⟨a, b⟩ => ⟨List.mem_cons_of_mem _ a, b⟩
theorem q_Upd.has1 {ls : Array Slot} {nL i : Nat} {v : Value} (h : q_Upd L i v L') {lv : List (Nat × Value)} (hl : (i, v) :: L.filter (fun q => !(q.1 == i) && !(q.1 + 1 == i && q.2.category == 2)) = lv) (hh : lv_has ls nL lv) : lv_has ls nL L' := by
  refine ⟨hh.1, hh.2.1, fun q hq => hh.2.2 q ?_⟩
  rw [← hl]
  rcases h q hq with rfl | ⟨h1, h2, h3, -⟩
  · exact List.mem_cons_self
  · refine List.mem_cons_of_mem _ (List.mem_filter.mpr ⟨h1, ?_⟩)
    simp only [Bool.and_eq_true, Bool.not_eq_true', beq_eq_false_iff_ne, ne_eq, Bool.and_eq_false_iff]
    refine ⟨h2, ?_⟩
    by_cases e : q.1 + 1 = i
    · exact Or.inr fun e2 => h3 ⟨e, e2⟩
    · exact Or.inl e
theorem q_Upd.has2 {ls : Array Slot} {nL i : Nat} {v : Value} (h : q_Upd L i v L') (hv : v.category = 2) {lv : List (Nat × Value)} (hl : (i, v) :: L.filter (fun q => !(q.1 == i) && (!(q.1 == i + 1) && !(q.1 + 1 == i && q.2.category == 2))) = lv) (hh : lv_has ls nL lv) : lv_has ls nL L' := by
  refine ⟨hh.1, hh.2.1, fun q hq => hh.2.2 q ?_⟩
  rw [← hl]
  rcases h q hq with rfl | ⟨h1, h2, h3, h4⟩
  · exact List.mem_cons_self
  · refine List.mem_cons_of_mem _ (List.mem_filter.mpr ⟨h1, ?_⟩)
    simp only [Bool.and_eq_true, Bool.not_eq_true', beq_eq_false_iff_ne, ne_eq, Bool.and_eq_false_iff]
    refine ⟨h2, fun e => h4 ⟨hv, e⟩, ?_⟩
    by_cases e : q.1 + 1 = i
    · exact Or.inr fun e2 => h3 ⟨e, e2⟩
    · exact Or.inl e
theorem q_store (h : ∀ (p : Program) (e : Env) (R : Room) (s : State) (m : MethodId) (args : Array Value) (below : List Frame) (meth : Method) (c : Code) (H : Heap) (locs : List Loc) (ls : Array Slot) (cells slots : Nat) (Q : State → Prop) (N ns : Nat), q_C g y d N ns p R s m args meth c → q_H g n P X Y H → lv_has ls y.2.2.1 L →
      (∀ ls', lv_has ls' y.2.2.1 L' → W p l e R s m args below meth c H locs cells slots Q (F0 m pc' ls' S')) → W p l e R s m args below meth c H locs cells slots Q (F0 m pc ls S)) (k : q_Tr l g y d K pc' L' S' n P X Y) : q_Tr l g y d K pc L S n P X Y := by
  obtain ⟨v, N, P', X', Y', hK, hN, hr⟩ := k
  exact ⟨v, N, P', X', Y', hK, hN, fun p e R s m args below meth c H locs ls ns hc hn hH hl hL => h p e R s m args below meth c H locs ls _ _ _ N ns hc hH hL fun ls' hL' => hr p e R s m args below meth c H locs ls' ns hc hn hH hl hL'⟩
theorem q_atl {ls : Array Slot} {nL i : Nat} {v : Value} (h : lv_has ls nL L) (hm : (i, v) ∈ L) : ls[i]? = some (.val v) := h.2.2 _ hm
-- constants
theorem r_iconst {z : Int} (hd : decode y.2.1 pc = .ok (.iconst z, 1)) (hp : pc + 1 = pc') (k : q_Tr l g y d K pc' L (.int (zi z) :: S) n P X Y) : q_Tr l g y d K pc L S n P X Y := by
  subst hp; exact q_same (fun _ _ _ _ _ _ _ _ _ _ _ _ _ _ _ _ _ hc _ _ w => lv_iconst hc.1 hc.2.1 hd rfl w) k
theorem q_i8 {z : Int} (h : -128 ≤ z ∧ z < 128) : (Int8.ofInt z).toInt32 = zi z := by
  rw [← Int32.toInt_inj, Int8.toInt_toInt32, zi_toInt (by omega), Int8.toInt_ofInt_of_le (by omega) (by omega)]
theorem q_i16 {z : Int} (h : -32768 ≤ z ∧ z < 32768) : (Int16.ofInt z).toInt32 = zi z := by
  rw [← Int32.toInt_inj, Int16.toInt_toInt32, zi_toInt (by omega), Int16.toInt_ofInt_of_le (by omega) (by omega)]
theorem r_bipush {z : Int} (hd : decode y.2.1 pc = .ok (.bipush z, 2)) (hp : pc + 2 = pc') (hz : -128 ≤ z ∧ z < 128) (k : q_Tr l g y d K pc' L (.int (zi z) :: S) n P X Y) : q_Tr l g y d K pc L S n P X Y := by
  subst hp; exact q_same (fun _ _ _ _ _ _ _ _ _ _ _ _ _ _ _ _ _ hc _ _ w => lv_bipush hc.1 hc.2.1 hd (q_i8 hz) w) k
theorem r_sipush {z : Int} (hd : decode y.2.1 pc = .ok (.sipush z, 3)) (hp : pc + 3 = pc') (hz : -32768 ≤ z ∧ z < 32768) (k : q_Tr l g y d K pc' L (.int (zi z) :: S) n P X Y) : q_Tr l g y d K pc L S n P X Y := by
  subst hp; exact q_same (fun _ _ _ _ _ _ _ _ _ _ _ _ _ _ _ _ _ hc _ _ w => lv_sipush hc.1 hc.2.1 hd (q_i16 hz) w) k
theorem r_ldc {z : Int} {i : Nat} (hd : decode y.2.1 pc = .ok (.ldc i, 2)) (hp : pc + 2 = pc') (hw : Cond.constant y.1.cls i (zi z) ∈ q_tb) (k : q_Tr l g y d K pc' L (.int (zi z) :: S) n P X Y) : q_Tr l g y d K pc L S n P X Y := by
  subst hp; exact q_same (fun _ _ _ _ _ _ _ _ _ _ _ _ _ _ _ _ _ hc _ _ w => lv_ldc hc.1 hc.2.1 hc.2.2.2.2.1 (hc.2.2.2.2.2.1 _ hw) hd w) k
theorem r_ldcw {z : Int} {i : Nat} (hd : decode y.2.1 pc = .ok (.ldc_w i, 3)) (hp : pc + 3 = pc') (hw : Cond.constant y.1.cls i (zi z) ∈ q_tb) (k : q_Tr l g y d K pc' L (.int (zi z) :: S) n P X Y) : q_Tr l g y d K pc L S n P X Y := by
  subst hp; exact q_same (fun _ _ _ _ _ _ _ _ _ _ _ _ _ _ _ _ _ hc _ _ w => lv_ldcw hc.1 hc.2.1 hc.2.2.2.2.1 (hc.2.2.2.2.2.1 _ hw) hd w) k
theorem r_ldc2 {z : Int64} {i : Nat} (hd : decode y.2.1 pc = .ok (.ldc2_w i, 3)) (hp : pc + 3 = pc') (hw : Cond.constantLong y.1.cls i z ∈ q_tb) (k : q_Tr l g y d K pc' L (.long z :: S) n P X Y) : q_Tr l g y d K pc L S n P X Y := by
  subst hp; exact q_same (fun _ _ _ _ _ _ _ _ _ _ _ _ _ _ _ _ _ hc _ _ w => lv_ldc2 hc.1 hc.2.1 hc.2.2.2.2.1 (hc.2.2.2.2.2.1 _ hw) hd w) k
theorem r_lconst {k0 : Fin 2} {z : Int64} (hd : decode y.2.1 pc = .ok (.lconst k0, 1)) (hp : pc + 1 = pc') (hz : Int64.ofNat (k0 : Nat) = z) (k : q_Tr l g y d K pc' L (.long z :: S) n P X Y) : q_Tr l g y d K pc L S n P X Y := by
  subst hp; exact q_same (fun _ _ _ _ _ _ _ _ _ _ _ _ _ _ _ _ _ hc _ _ w => lv_lconst hc.1 hc.2.1 hd hz w) k
theorem r_null (hd : decode y.2.1 pc = .ok (.aconst_null, 1)) (hp : pc + 1 = pc') (k : q_Tr l g y d K pc' L (.null :: S) n P X Y) : q_Tr l g y d K pc L S n P X Y := by
  subst hp; exact q_same (fun _ _ _ _ _ _ _ _ _ _ _ _ _ _ _ _ _ hc _ _ w => lv_null hc.1 hc.2.1 hd w) k
-- locals
theorem r_iload_n {k0 : Fin 4} {i : Nat} {x : Int32} (hd : decode y.2.1 pc = .ok (.iload_n k0, 1)) (hp : pc + 1 = pc') (hi : (k0 : Nat) = i) (hm : (i, Value.int x) ∈ L) (k : q_Tr l g y d K pc' L (.int x :: S) n P X Y) : q_Tr l g y d K pc L S n P X Y := by
  subst hp; exact q_same (fun _ _ _ _ _ _ _ _ _ _ _ _ _ _ _ _ _ hc _ hl w => lv_iload_n hc.1 hc.2.1 hd hi (q_atl hl hm) w) k
theorem r_iload {i : Nat} {x : Int32} (hd : decode y.2.1 pc = .ok (.iload i, 2)) (hp : pc + 2 = pc') (hm : (i, Value.int x) ∈ L) (k : q_Tr l g y d K pc' L (.int x :: S) n P X Y) : q_Tr l g y d K pc L S n P X Y := by
  subst hp; exact q_same (fun _ _ _ _ _ _ _ _ _ _ _ _ _ _ _ _ _ hc _ hl w => lv_iload hc.1 hc.2.1 hd (q_atl hl hm) w) k
theorem r_lload_n {k0 : Fin 4} {i : Nat} {x : Int64} (hd : decode y.2.1 pc = .ok (.lload_n k0, 1)) (hp : pc + 1 = pc') (hi : (k0 : Nat) = i) (hm : (i, Value.long x) ∈ L) (k : q_Tr l g y d K pc' L (.long x :: S) n P X Y) : q_Tr l g y d K pc L S n P X Y := by
  subst hp; exact q_same (fun _ _ _ _ _ _ _ _ _ _ _ _ _ _ _ _ _ hc _ hl w => lv_lload_n hc.1 hc.2.1 hd hi (q_atl hl hm) w) k
theorem r_lload {i : Nat} {x : Int64} (hd : decode y.2.1 pc = .ok (.lload i, 2)) (hp : pc + 2 = pc') (hm : (i, Value.long x) ∈ L) (k : q_Tr l g y d K pc' L (.long x :: S) n P X Y) : q_Tr l g y d K pc L S n P X Y := by
  subst hp; exact q_same (fun _ _ _ _ _ _ _ _ _ _ _ _ _ _ _ _ _ hc _ hl w => lv_lload hc.1 hc.2.1 hd (q_atl hl hm) w) k
theorem r_aload_n {k0 : Fin 4} {i : Nat} {x : Nat} (hd : decode y.2.1 pc = .ok (.aload_n k0, 1)) (hp : pc + 1 = pc') (hi : (k0 : Nat) = i) (hm : (i, Value.ref x) ∈ L) (k : q_Tr l g y d K pc' L (.ref x :: S) n P X Y) : q_Tr l g y d K pc L S n P X Y := by
  subst hp; exact q_same (fun _ _ _ _ _ _ _ _ _ _ _ _ _ _ _ _ _ hc _ hl w => lv_aload_n hc.1 hc.2.1 hd hi (q_atl hl hm) w) k
theorem r_aload {i : Nat} {x : Nat} (hd : decode y.2.1 pc = .ok (.aload i, 2)) (hp : pc + 2 = pc') (hm : (i, Value.ref x) ∈ L) (k : q_Tr l g y d K pc' L (.ref x :: S) n P X Y) : q_Tr l g y d K pc L S n P X Y := by
  subst hp; exact q_same (fun _ _ _ _ _ _ _ _ _ _ _ _ _ _ _ _ _ hc _ hl w => lv_aload hc.1 hc.2.1 hd (q_atl hl hm) w) k
theorem r_aloadN_n {k0 : Fin 4} {i : Nat} (hd : decode y.2.1 pc = .ok (.aload_n k0, 1)) (hp : pc + 1 = pc') (hi : (k0 : Nat) = i) (hm : (i, Value.null) ∈ L) (k : q_Tr l g y d K pc' L (.null :: S) n P X Y) : q_Tr l g y d K pc L S n P X Y := by
  subst hp; exact q_same (fun _ _ _ _ _ _ _ _ _ _ _ _ _ _ _ _ _ hc _ hl w => lv_aload_nN hc.1 hc.2.1 hd hi (q_atl hl hm) w) k
theorem r_aloadN {i : Nat} (hd : decode y.2.1 pc = .ok (.aload i, 2)) (hp : pc + 2 = pc') (hm : (i, Value.null) ∈ L) (k : q_Tr l g y d K pc' L (.null :: S) n P X Y) : q_Tr l g y d K pc L S n P X Y := by
  subst hp; exact q_same (fun _ _ _ _ _ _ _ _ _ _ _ _ _ _ _ _ _ hc _ hl w => lv_aloadN hc.1 hc.2.1 hd (q_atl hl hm) w) k
theorem r_istore_n {k0 : Fin 4} {i : Nat} {x : Int32} (hd : decode y.2.1 pc = .ok (.istore_n k0, 1)) (hp : pc + 1 = pc') (hi : (k0 : Nat) = i) (hn : Nat.ble (i + 1) y.2.2.1 = true) (hu : q_Upd L i (.int x) L') (k : q_Tr l g y d K pc' L' S n P X Y) : q_Tr l g y d K pc L (.int x :: S) n P X Y := by
  subst hp; exact q_store (fun _ _ _ _ _ _ _ _ _ _ _ _ _ _ _ _ _ hc _ hl w => lv_istore_n hc.1 hc.2.1 hd hi hl (Nat.le_of_ble_eq_true hn) rfl fun ls' h' => w ls' (hu.has1 rfl h')) k
theorem r_istore {i : Nat} {x : Int32} (hd : decode y.2.1 pc = .ok (.istore i, 2)) (hp : pc + 2 = pc') (hn : Nat.ble (i + 1) y.2.2.1 = true) (hu : q_Upd L i (.int x) L') (k : q_Tr l g y d K pc' L' S n P X Y) : q_Tr l g y d K pc L (.int x :: S) n P X Y := by
  subst hp; exact q_store (fun _ _ _ _ _ _ _ _ _ _ _ _ _ _ _ _ _ hc _ hl w => lv_istore hc.1 hc.2.1 hd hl (Nat.le_of_ble_eq_true hn) rfl fun ls' h' => w ls' (hu.has1 rfl h')) k
theorem r_lstore_n {k0 : Fin 4} {i : Nat} {x : Int64} (hd : decode y.2.1 pc = .ok (.lstore_n k0, 1)) (hp : pc + 1 = pc') (hi : (k0 : Nat) = i) (hn : Nat.ble (i + 2) y.2.2.1 = true) (hu : q_Upd L i (.long x) L') (k : q_Tr l g y d K pc' L' S n P X Y) : q_Tr l g y d K pc L (.long x :: S) n P X Y := by
  subst hp; exact q_store (fun _ _ _ _ _ _ _ _ _ _ _ _ _ _ _ _ _ hc _ hl w => lv_lstore_n hc.1 hc.2.1 hd hi hl (Nat.le_of_ble_eq_true hn) rfl fun ls' h' => w ls' (hu.has2 rfl rfl h')) k
theorem r_lstore {i : Nat} {x : Int64} (hd : decode y.2.1 pc = .ok (.lstore i, 2)) (hp : pc + 2 = pc') (hn : Nat.ble (i + 2) y.2.2.1 = true) (hu : q_Upd L i (.long x) L') (k : q_Tr l g y d K pc' L' S n P X Y) : q_Tr l g y d K pc L (.long x :: S) n P X Y := by
  subst hp; exact q_store (fun _ _ _ _ _ _ _ _ _ _ _ _ _ _ _ _ _ hc _ hl w => lv_lstore hc.1 hc.2.1 hd hl (Nat.le_of_ble_eq_true hn) rfl fun ls' h' => w ls' (hu.has2 rfl rfl h')) k
theorem r_astore_n {k0 : Fin 4} {i : Nat} {x : Nat} (hd : decode y.2.1 pc = .ok (.astore_n k0, 1)) (hp : pc + 1 = pc') (hi : (k0 : Nat) = i) (hn : Nat.ble (i + 1) y.2.2.1 = true) (hu : q_Upd L i (.ref x) L') (k : q_Tr l g y d K pc' L' S n P X Y) : q_Tr l g y d K pc L (.ref x :: S) n P X Y := by
  subst hp; exact q_store (fun _ _ _ _ _ _ _ _ _ _ _ _ _ _ _ _ _ hc _ hl w => lv_astore_n hc.1 hc.2.1 hd hi hl (Nat.le_of_ble_eq_true hn) rfl fun ls' h' => w ls' (hu.has1 rfl h')) k
theorem r_astore {i : Nat} {x : Nat} (hd : decode y.2.1 pc = .ok (.astore i, 2)) (hp : pc + 2 = pc') (hn : Nat.ble (i + 1) y.2.2.1 = true) (hu : q_Upd L i (.ref x) L') (k : q_Tr l g y d K pc' L' S n P X Y) : q_Tr l g y d K pc L (.ref x :: S) n P X Y := by
  subst hp; exact q_store (fun _ _ _ _ _ _ _ _ _ _ _ _ _ _ _ _ _ hc _ hl w => lv_astore hc.1 hc.2.1 hd hl (Nat.le_of_ble_eq_true hn) rfl fun ls' h' => w ls' (hu.has1 rfl h')) k
theorem r_astoreN_n {k0 : Fin 4} {i : Nat} (hd : decode y.2.1 pc = .ok (.astore_n k0, 1)) (hp : pc + 1 = pc') (hi : (k0 : Nat) = i) (hn : Nat.ble (i + 1) y.2.2.1 = true) (hu : q_Upd L i .null L') (k : q_Tr l g y d K pc' L' S n P X Y) : q_Tr l g y d K pc L (.null :: S) n P X Y := by
  subst hp; exact q_store (fun _ _ _ _ _ _ _ _ _ _ _ _ _ _ _ _ _ hc _ hl w => lv_astore_nN hc.1 hc.2.1 hd hi hl (Nat.le_of_ble_eq_true hn) rfl fun ls' h' => w ls' (hu.has1 rfl h')) k
theorem r_astoreN {i : Nat} (hd : decode y.2.1 pc = .ok (.astore i, 2)) (hp : pc + 2 = pc') (hn : Nat.ble (i + 1) y.2.2.1 = true) (hu : q_Upd L i .null L') (k : q_Tr l g y d K pc' L' S n P X Y) : q_Tr l g y d K pc L (.null :: S) n P X Y := by
  subst hp; exact q_store (fun _ _ _ _ _ _ _ _ _ _ _ _ _ _ _ _ _ hc _ hl w => lv_astoreN hc.1 hc.2.1 hd hl (Nat.le_of_ble_eq_true hn) rfl fun ls' h' => w ls' (hu.has1 rfl h')) k
theorem r_iinc {i : Nat} {z a : Int} (hd : decode y.2.1 pc = .ok (.iinc i z, 3)) (hp : pc + 3 = pc') (hn : Nat.ble (i + 1) y.2.2.1 = true) (hm : (i, Value.int (zi a)) ∈ L) (hu : q_Upd L i (.int (zi (a + z))) L') (k : q_Tr l g y d K pc' L' S n P X Y) : q_Tr l g y d K pc L S n P X Y := by
  subst hp
  obtain ⟨k0, hk0⟩ := List.getElem?_of_mem hm
  exact q_store (fun _ _ _ _ _ _ _ _ _ _ _ _ _ _ _ _ _ hc _ hl w => lv_iinc hc.1 hc.2.1 hd hl (k := k0) hk0 (zi_add a z) (Nat.le_of_ble_eq_true hn) rfl fun ls' h' => w ls' (hu.has1 rfl h')) k
-- stack
theorem r_dup {v : Value} (hd : decode y.2.1 pc = .ok (.dup, 1)) (hp : pc + 1 = pc') (hv : v.category = 1) (k : q_Tr l g y d K pc' L (v :: v :: S) n P X Y) : q_Tr l g y d K pc L (v :: S) n P X Y := by
  subst hp; exact q_same (fun _ _ _ _ _ _ _ _ _ _ _ _ _ _ _ _ _ hc _ _ w => lv_dup hc.1 hc.2.1 hd hv w) k
theorem r_dup2 {v u : Value} (hd : decode y.2.1 pc = .ok (.dup2, 1)) (hp : pc + 1 = pc') (hv : v.category = 1) (hu : u.category = 1) (k : q_Tr l g y d K pc' L (v :: u :: v :: u :: S) n P X Y) : q_Tr l g y d K pc L (v :: u :: S) n P X Y := by
  subst hp; exact q_same (fun _ _ _ _ _ _ _ _ _ _ _ _ _ _ _ _ _ hc _ _ w => lv_dup2_11 hc.1 hc.2.1 hd hv hu w) k
theorem r_pop {v : Value} (hd : decode y.2.1 pc = .ok (.pop, 1)) (hp : pc + 1 = pc') (hv : v.category = 1) (k : q_Tr l g y d K pc' L S n P X Y) : q_Tr l g y d K pc L (v :: S) n P X Y := by
  subst hp; exact q_same (fun _ _ _ _ _ _ _ _ _ _ _ _ _ _ _ _ _ hc _ _ w => lv_pop hc.1 hc.2.1 hd hv w) k
-- arithmetic
theorem r_iadd {a b : Int} (hd : decode y.2.1 pc = .ok (.iadd, 1)) (hp : pc + 1 = pc') (k : q_Tr l g y d K pc' L (.int (zi (a + b)) :: S) n P X Y) : q_Tr l g y d K pc L (.int (zi b) :: .int (zi a) :: S) n P X Y := by
  subst hp; exact q_same (fun _ _ _ _ _ _ _ _ _ _ _ _ _ _ _ _ _ hc _ _ w => lv_iadd hc.1 hc.2.1 hd (by rw [zi_add]; exact w)) k
theorem r_isub {a b : Int} (hd : decode y.2.1 pc = .ok (.isub, 1)) (hp : pc + 1 = pc') (k : q_Tr l g y d K pc' L (.int (zi (a - b)) :: S) n P X Y) : q_Tr l g y d K pc L (.int (zi b) :: .int (zi a) :: S) n P X Y := by
  subst hp; exact q_same (fun _ _ _ _ _ _ _ _ _ _ _ _ _ _ _ _ _ hc _ _ w => lv_isub hc.1 hc.2.1 hd (by rw [zi_sub]; exact w)) k
theorem r_imul {a b : Int} (hd : decode y.2.1 pc = .ok (.imul, 1)) (hp : pc + 1 = pc') (k : q_Tr l g y d K pc' L (.int (zi (a * b)) :: S) n P X Y) : q_Tr l g y d K pc L (.int (zi b) :: .int (zi a) :: S) n P X Y := by
  subst hp; exact q_same (fun _ _ _ _ _ _ _ _ _ _ _ _ _ _ _ _ _ hc _ _ w => lv_imul hc.1 hc.2.1 hd (by rw [zi_mul]; exact w)) k
theorem r_ineg {a : Int} (hd : decode y.2.1 pc = .ok (.ineg, 1)) (hp : pc + 1 = pc') (k : q_Tr l g y d K pc' L (.int (zi (-a)) :: S) n P X Y) : q_Tr l g y d K pc L (.int (zi a) :: S) n P X Y := by
  subst hp; exact q_same (fun _ _ _ _ _ _ _ _ _ _ _ _ _ _ _ _ _ hc _ _ w => lv_ineg hc.1 hc.2.1 hd (by rw [zi_neg]; exact w)) k
theorem q_ne0 {b : Int} (hb : q_in b) (h0 : ¬ b = 0) : ¬ zi b = 0 := fun e => h0 ((zi_eq hb (show q_in 0 by omega)).mp e)
theorem r_idiv {a b : Int} (hd : decode y.2.1 pc = .ok (.idiv, 1)) (hp : pc + 1 = pc') (ha : q_in a) (hb : q_in b) (h0 : ¬ b = 0) (k : q_Tr l g y d K pc' L (.int (zi (a.tdiv b)) :: S) n P X Y) : q_Tr l g y d K pc L (.int (zi b) :: .int (zi a) :: S) n P X Y := by
  subst hp; exact q_same (fun _ _ _ _ _ _ _ _ _ _ _ _ _ _ _ _ _ hc _ _ w => lv_idiv hc.1 hc.2.1 hd (q_ne0 hb h0) (by rw [zi_div ha hb]; exact w)) k
theorem r_irem {a b : Int} (hd : decode y.2.1 pc = .ok (.irem, 1)) (hp : pc + 1 = pc') (ha : q_in a) (hb : q_in b) (h0 : ¬ b = 0) (k : q_Tr l g y d K pc' L (.int (zi (a.tmod b)) :: S) n P X Y) : q_Tr l g y d K pc L (.int (zi b) :: .int (zi a) :: S) n P X Y := by
  subst hp; exact q_same (fun _ _ _ _ _ _ _ _ _ _ _ _ _ _ _ _ _ hc _ _ w => lv_irem hc.1 hc.2.1 hd (q_ne0 hb h0) (by rw [zi_div ha hb, zi_mul, zi_sub, show a - a.tdiv b * b = a.tmod b by rw [Int.tmod_def, Int.mul_comm]]; exact w)) k
-- raw: any int operation whose answer is known by an equation
theorem r_iand {a b : Int32} {z : Int} (hd : decode y.2.1 pc = .ok (.iand, 1)) (hp : pc + 1 = pc') (h : a &&& b = zi z) (k : q_Tr l g y d K pc' L (.int (zi z) :: S) n P X Y) : q_Tr l g y d K pc L (.int b :: .int a :: S) n P X Y := by
  subst hp; exact q_same (fun _ _ _ _ _ _ _ _ _ _ _ _ _ _ _ _ _ hc _ _ w => lv_iand hc.1 hc.2.1 hd (by rw [h]; exact w)) k
theorem r_ior {a b : Int32} {z : Int} (hd : decode y.2.1 pc = .ok (.ior, 1)) (hp : pc + 1 = pc') (h : a ||| b = zi z) (k : q_Tr l g y d K pc' L (.int (zi z) :: S) n P X Y) : q_Tr l g y d K pc L (.int b :: .int a :: S) n P X Y := by
  subst hp; exact q_same (fun _ _ _ _ _ _ _ _ _ _ _ _ _ _ _ _ _ hc _ _ w => lv_ior hc.1 hc.2.1 hd (by rw [h]; exact w)) k
theorem r_ishl {a b : Int32} {z : Int} (hd : decode y.2.1 pc = .ok (.ishl, 1)) (hp : pc + 1 = pc') (h : a <<< (b &&& 31) = zi z) (k : q_Tr l g y d K pc' L (.int (zi z) :: S) n P X Y) : q_Tr l g y d K pc L (.int b :: .int a :: S) n P X Y := by
  subst hp; exact q_same (fun _ _ _ _ _ _ _ _ _ _ _ _ _ _ _ _ _ hc _ _ w => lv_ishl hc.1 hc.2.1 hd (by rw [h]; exact w)) k
theorem r_ishr {a b : Int32} {z : Int} (hd : decode y.2.1 pc = .ok (.ishr, 1)) (hp : pc + 1 = pc') (h : a >>> (b &&& 31) = zi z) (k : q_Tr l g y d K pc' L (.int (zi z) :: S) n P X Y) : q_Tr l g y d K pc L (.int b :: .int a :: S) n P X Y := by
  subst hp; exact q_same (fun _ _ _ _ _ _ _ _ _ _ _ _ _ _ _ _ _ hc _ _ w => lv_ishr hc.1 hc.2.1 hd (by rw [h]; exact w)) k
theorem r_iushr {a b : Int32} {z : Int} (hd : decode y.2.1 pc = .ok (.iushr, 1)) (hp : pc + 1 = pc') (h : (a.toUInt32 >>> (b.toUInt32 &&& Int32.toUInt32 31)).toInt32 = zi z) (k : q_Tr l g y d K pc' L (.int (zi z) :: S) n P X Y) : q_Tr l g y d K pc L (.int b :: .int a :: S) n P X Y := by
  subst hp; exact q_same (fun _ _ _ _ _ _ _ _ _ _ _ _ _ _ _ _ _ hc _ _ w => lv_iushr hc.1 hc.2.1 hd h w) k
theorem r_i2b {a : Int32} {z : Int} (hd : decode y.2.1 pc = .ok (.i2b, 1)) (hp : pc + 1 = pc') (h : a.toInt8.toInt32 = zi z) (k : q_Tr l g y d K pc' L (.int (zi z) :: S) n P X Y) : q_Tr l g y d K pc L (.int a :: S) n P X Y := by
  subst hp; exact q_same (fun _ _ _ _ _ _ _ _ _ _ _ _ _ _ _ _ _ hc _ _ w => lv_i2b hc.1 hc.2.1 hd h w) k
theorem r_i2l {a : Int32} {x : Int64} (hd : decode y.2.1 pc = .ok (.i2l, 1)) (hp : pc + 1 = pc') (h : a.toInt64 = x) (k : q_Tr l g y d K pc' L (.long x :: S) n P X Y) : q_Tr l g y d K pc L (.int a :: S) n P X Y := by
  subst hp; exact q_same (fun _ _ _ _ _ _ _ _ _ _ _ _ _ _ _ _ _ hc _ _ w => lv_i2l hc.1 hc.2.1 hd h w) k
theorem r_l2i {x : Int64} {z : Int} (hd : decode y.2.1 pc = .ok (.l2i, 1)) (hp : pc + 1 = pc') (h : x.toInt32 = zi z) (k : q_Tr l g y d K pc' L (.int (zi z) :: S) n P X Y) : q_Tr l g y d K pc L (.long x :: S) n P X Y := by
  subst hp; exact q_same (fun _ _ _ _ _ _ _ _ _ _ _ _ _ _ _ _ _ hc _ _ w => lv_l2i hc.1 hc.2.1 hd h w) k
theorem r_ladd {a b : Int64} (hd : decode y.2.1 pc = .ok (.ladd, 1)) (hp : pc + 1 = pc') (k : q_Tr l g y d K pc' L (.long (a + b) :: S) n P X Y) : q_Tr l g y d K pc L (.long b :: .long a :: S) n P X Y := by
  subst hp; exact q_same (fun _ _ _ _ _ _ _ _ _ _ _ _ _ _ _ _ _ hc _ _ w => lv_ladd hc.1 hc.2.1 hd w) k
theorem r_lsub {a b : Int64} (hd : decode y.2.1 pc = .ok (.lsub, 1)) (hp : pc + 1 = pc') (k : q_Tr l g y d K pc' L (.long (a - b) :: S) n P X Y) : q_Tr l g y d K pc L (.long b :: .long a :: S) n P X Y := by
  subst hp; exact q_same (fun _ _ _ _ _ _ _ _ _ _ _ _ _ _ _ _ _ hc _ _ w => lv_lsub hc.1 hc.2.1 hd w) k
theorem r_lmul {a b : Int64} (hd : decode y.2.1 pc = .ok (.lmul, 1)) (hp : pc + 1 = pc') (k : q_Tr l g y d K pc' L (.long (a * b) :: S) n P X Y) : q_Tr l g y d K pc L (.long b :: .long a :: S) n P X Y := by
  subst hp; exact q_same (fun _ _ _ _ _ _ _ _ _ _ _ _ _ _ _ _ _ hc _ _ w => lv_lmul hc.1 hc.2.1 hd w) k
theorem r_ldiv {a b : Int64} (hd : decode y.2.1 pc = .ok (.ldiv, 1)) (hp : pc + 1 = pc') (h0 : ¬ b = 0) (k : q_Tr l g y d K pc' L (.long (a / b) :: S) n P X Y) : q_Tr l g y d K pc L (.long b :: .long a :: S) n P X Y := by
  subst hp; exact q_same (fun _ _ _ _ _ _ _ _ _ _ _ _ _ _ _ _ _ hc _ _ w => lv_ldiv hc.1 hc.2.1 hd h0 w) k
theorem r_land {a b : Int64} (hd : decode y.2.1 pc = .ok (.land, 1)) (hp : pc + 1 = pc') (k : q_Tr l g y d K pc' L (.long (a &&& b) :: S) n P X Y) : q_Tr l g y d K pc L (.long b :: .long a :: S) n P X Y := by
  subst hp; exact q_same (fun _ _ _ _ _ _ _ _ _ _ _ _ _ _ _ _ _ hc _ _ w => lv_land hc.1 hc.2.1 hd w) k
theorem r_lor {a b : Int64} (hd : decode y.2.1 pc = .ok (.lor, 1)) (hp : pc + 1 = pc') (k : q_Tr l g y d K pc' L (.long (a ||| b) :: S) n P X Y) : q_Tr l g y d K pc L (.long b :: .long a :: S) n P X Y := by
  subst hp; exact q_same (fun _ _ _ _ _ _ _ _ _ _ _ _ _ _ _ _ _ hc _ _ w => lv_lor hc.1 hc.2.1 hd w) k
theorem r_lshl {a x : Int64} {b : Int32} (hd : decode y.2.1 pc = .ok (.lshl, 1)) (hp : pc + 1 = pc') (h : a <<< (b.toInt64 &&& 63) = x) (k : q_Tr l g y d K pc' L (.long x :: S) n P X Y) : q_Tr l g y d K pc L (.int b :: .long a :: S) n P X Y := by
  subst hp; exact q_same (fun _ _ _ _ _ _ _ _ _ _ _ _ _ _ _ _ _ hc _ _ w => lv_lshl hc.1 hc.2.1 hd h w) k
theorem r_lshr {a x : Int64} {b : Int32} (hd : decode y.2.1 pc = .ok (.lshr, 1)) (hp : pc + 1 = pc') (h : a >>> (b.toInt64 &&& 63) = x) (k : q_Tr l g y d K pc' L (.long x :: S) n P X Y) : q_Tr l g y d K pc L (.int b :: .long a :: S) n P X Y := by
  subst hp; exact q_same (fun _ _ _ _ _ _ _ _ _ _ _ _ _ _ _ _ _ hc _ _ w => lv_lshr hc.1 hc.2.1 hd h w) k
theorem r_lcmp {a b : Int64} (hd : decode y.2.1 pc = .ok (.lcmp, 1)) (hp : pc + 1 = pc') (k : q_Tr l g y d K pc' L (.int (lg_cmp a b) :: S) n P X Y) : q_Tr l g y d K pc L (.long b :: .long a :: S) n P X Y := by
  subst hp; exact q_same (fun _ _ _ _ _ _ _ _ _ _ _ _ _ _ _ _ _ hc _ _ w => W.lcmp hc.1 hc.2.1 hd w) k
end QR
