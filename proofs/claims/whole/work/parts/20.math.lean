/-! Math.max, Math.min -/
section QM
variable {l : Launch} {g : q_G} {y : q_M} {d : Nat} {K : q_K} {pc pc' idx : Nat} {L : List (Nat × Value)} {S S' : List Value} {n : Nat} {P : q_P} {X : q_X} {Y : q_Y}
theorem q_sameR (h : ∀ (p : Program) (e : Env) (R : Room) (s : State) (m : MethodId) (args : Array Value) (below : List Frame) (meth : Method) (c : Code) (H : Heap) (locs : List Loc) (ls : Array Slot) (cells slots : Nat) (Q : State → Prop) (N ns : Nat), q_C g y d N ns p R s m args meth c → q_H g n P X Y H → lv_has ls y.2.2.1 L → cells ≤ R.cells → slots ≤ R.slots →
      W p l e R s m args below meth c H locs cells slots Q (F0 m pc' ls S') → W p l e R s m args below meth c H locs cells slots Q (F0 m pc ls S)) (k : q_Tr l g y d K pc' L S' n P X Y) : q_Tr l g y d K pc L S n P X Y := by
  obtain ⟨v, N, P', X', Y', hK, hN, hr⟩ := k
  refine ⟨v, N, P', X', Y', hK, hN, fun p e R s m args below meth c H locs ls ns hc hn hH hl hL => h p e R s m args below meth c H locs ls _ _ _ N ns hc hH hL ?_ ?_ (hr p e R s m args below meth c H locs ls ns hc hn hH hl hL)⟩
  · have rc := hc.2.2.2.2.2.2.2.2.1
    omega
  · have rc := hc.2.2.2.2.2.2.2.2.1
    have m1 := q_sl_mono hN
    omega
theorem m_maxc : Cond.code Lib.Math.max.name Lib.Math.max.code 2 (some .int) ∈ q_tb := okJ9_max_7cf53.1
theorem m_minc : Cond.code Lib.Math.min.name Lib.Math.min.code 2 (some .int) ∈ q_tb := okJ9_min_7cf53.1
theorem r_max {a b : Int} (hd : decode y.2.1 pc = .ok (.invokestatic idx, 3)) (hp : pc + 3 = pc') (hlk : q_LS y.1.cls idx mJ9_max_7cf53 2) (hdc : 0 + 1 ≤ d) (hcat : (S.map fun v => v.category).sum ≤ 8) (ha : q_in a) (hb : q_in b) (kk : q_Tr l g y d K pc' L (.int (zi (max a b)) :: S) n P X Y) : q_Tr l g y d K pc L (.int (zi b) :: .int (zi a) :: S) n P X Y := by
  subst hp
  refine q_sameR (fun p e R s m args below meth c H locs ls cells slots Q N ns hc hH hl h1 h2 w => ?_) kk
  have hts := hc.2.2.2.2.2.1
  have rc := hc.2.2.2.2.2.2.2.2.1
  refine va_mmax hc.1 hc.2.1 (hc.2.2.2.1.trans hl.1.symm) hc.2.2.2.2.1 (hts _ hlk.2.1) (hts _ hlk.2.2) (hts _ hlk.1.2.1) (hts _ m_maxc) (by omega) (by omega) h1 h2 hd ?_
  have : (if zi a < zi b then zi b else zi a) = zi (max a b) := by
    by_cases h : a < b
    · rw [if_pos ((zi_lt ha hb).mpr h)]; congr 1; omega
    · rw [if_neg (fun q => h ((zi_lt ha hb).mp q))]; congr 1; omega
  rw [this]; exact w
theorem r_min {a b : Int} (hd : decode y.2.1 pc = .ok (.invokestatic idx, 3)) (hp : pc + 3 = pc') (hlk : q_LS y.1.cls idx mJ9_min_7cf53 2) (hdc : 0 + 1 ≤ d) (hcat : (S.map fun v => v.category).sum ≤ 8) (ha : q_in a) (hb : q_in b) (kk : q_Tr l g y d K pc' L (.int (zi (min a b)) :: S) n P X Y) : q_Tr l g y d K pc L (.int (zi b) :: .int (zi a) :: S) n P X Y := by
  subst hp
  refine q_sameR (fun p e R s m args below meth c H locs ls cells slots Q N ns hc hH hl h1 h2 w => ?_) kk
  have hts := hc.2.2.2.2.2.1
  have rc := hc.2.2.2.2.2.2.2.2.1
  refine va_mmin hc.1 hc.2.1 (hc.2.2.2.1.trans hl.1.symm) hc.2.2.2.2.1 (hts _ hlk.2.1) (hts _ hlk.2.2) (hts _ hlk.1.2.1) (hts _ m_minc) (by omega) (by omega) h1 h2 hd ?_
  have : (if zi b < zi a then zi b else zi a) = zi (min a b) := by
    by_cases h : b < a
    · rw [if_pos ((zi_lt hb ha).mpr h)]; congr 1; omega
    · rw [if_neg (fun q => h ((zi_lt hb ha).mp q))]; congr 1; omega
  rw [this]; exact w
theorem r_minL {a b : Int64} (hd : decode y.2.1 pc = .ok (.invokestatic idx, 3)) (hp : pc + 3 = pc') (hlk : q_LS y.1.cls idx mJ9_min_f86c9 2) (hdc : 0 + 1 ≤ d) (hcat : (S.map fun v => v.category).sum ≤ 8) (kk : q_Tr l g y d K pc' L (.long (if b < a then b else a) :: S) n P X Y) : q_Tr l g y d K pc L (.long b :: .long a :: S) n P X Y := by
  subst hp
  refine q_sameR (fun p e R s m args below meth c H locs ls cells slots Q N ns hc hH hl h1 h2 w => ?_) kk
  have hts := hc.2.2.2.2.2.1
  have rc := hc.2.2.2.2.2.2.2.2.1
  exact va_mmin_long hc.1 hc.2.1 (hc.2.2.2.1.trans hl.1.symm) hc.2.2.2.2.1 (hts _ hlk.2.1) (hts _ hlk.2.2) (hts _ hlk.1.2.1) (hts _ hlk.1.1) (by omega) (by omega) h1 h2 hd w
theorem r_bif_eq {C : Prop} {hC : Decidable C} {off : Int} {t f : Nat} (hd : decode y.2.1 pc = .ok (.ifCond .eq off, 3)) (ht : (pc : Int) + off = (t : Int)) (hf : pc + 3 = f) (kt : ¬ C → q_Tr l g y d K t L S n P X Y) (kf : C → q_Tr l g y d K f L S n P X Y) : q_Tr l g y d K pc L (.int (zi (@ite Int C hC 1 0)) :: S) n P X Y := by
  by_cases h : C
  · rw [if_pos h]
    exact r_if_eq hd ht hf (by omega) (fun e => absurd e (by decide)) (fun _ => kf h)
  · rw [if_neg h]
    exact r_if_eq hd ht hf (by omega) (fun _ => kt h) (fun e => absurd rfl e)
theorem r_bif_ne {C : Prop} {hC : Decidable C} {off : Int} {t f : Nat} (hd : decode y.2.1 pc = .ok (.ifCond .ne off, 3)) (ht : (pc : Int) + off = (t : Int)) (hf : pc + 3 = f) (kt : C → q_Tr l g y d K t L S n P X Y) (kf : ¬ C → q_Tr l g y d K f L S n P X Y) : q_Tr l g y d K pc L (.int (zi (@ite Int C hC 1 0)) :: S) n P X Y := by
  by_cases h : C
  · rw [if_pos h]
    exact r_if_ne hd ht hf (by omega) (fun _ => kt h) (fun e => absurd e (by decide))
  · rw [if_neg h]
    exact r_if_ne hd ht hf (by omega) (fun e => absurd rfl e) (fun _ => kf h)
/-- fewer locals -/
def q_Sub (L L' : List (Nat × Value)) : Prop := ∀ q ∈ L', q ∈ L
theorem q_Sub.nil {L : List (Nat × Value)} : q_Sub L [] := fun q h => by cases h
theorem q_Sub.kp {L L' : List (Nat × Value)} {a : Nat × Value} (h : q_Sub L L') : q_Sub (a :: L) (a :: L') := fun q hq => by
  rcases List.mem_cons.mp hq with rfl | hq
  · exact List.mem_cons_self
  · exact List.mem_cons_of_mem _ (h q hq)
theorem q_Sub.dr {L L' : List (Nat × Value)} {a : Nat × Value} (h : q_Sub L L') : q_Sub (a :: L) L' := fun q hq => List.mem_cons_of_mem _ (h q hq)
theorem r_sub {L' : List (Nat × Value)} (h : q_Sub L L') (k : q_Tr l g y d K pc L' S n P X Y) : q_Tr l g y d K pc L S n P X Y :=
  q_store (fun _ _ _ _ _ _ _ _ _ _ _ ls _ _ _ _ _ _ _ hl w => w ls ⟨hl.1, hl.2.1, fun q hq => hl.2.2 q (h q hq)⟩) k
def q_Keep (L : List (Nat × Value)) (i : Nat) (v : Value) (L' : List (Nat × Value)) : Prop := ∀ q ∈ L', q ∈ L ∧ q.1 ≠ i ∧ ¬ (q.1 + 1 = i ∧ q.2.category = 2) ∧ ¬ (v.category = 2 ∧ q.1 = i + 1)
theorem q_Keep.nil {i : Nat} {v : Value} : q_Keep [] i v [] := fun q hq => by cases hq
theorem q_Keep.drop {L L' : List (Nat × Value)} {i : Nat} {v : Value} {w : Nat × Value} (h : q_Keep L i v L') : q_Keep (w :: L) i v L' := fun q hq => ⟨List.mem_cons_of_mem _ (h q hq).1, (h q hq).2⟩
theorem q_Keep.s1 {L L' : List (Nat × Value)} {i j : Nat} {v w : Value} (h : q_Keep L i v L') (hj : Nat.beq j i = false) (hw : w.category = 1) (hv : v.category = 1) : q_Keep ((j, w) :: L) i v ((j, w) :: L') := fun q hq => by
  rcases List.mem_cons.mp hq with rfl | hq
  · exact ⟨List.mem_cons_self, fun e => Nat.ne_of_beq_eq_false hj e, fun e => by rw [hw] at e; omega, fun e => by rw [hv] at e; omega⟩
  · exact ⟨List.mem_cons_of_mem _ (h q hq).1, (h q hq).2⟩
theorem q_Keep.s2 {L L' : List (Nat × Value)} {i j : Nat} {v w : Value} (h : q_Keep L i v L') (hj : Nat.beq j i = false) (hj2 : Nat.beq (j + 1) i = false ∨ w.category = 1) (hj3 : Nat.beq j (i + 1) = false ∨ v.category = 1) : q_Keep ((j, w) :: L) i v ((j, w) :: L') := fun q hq => by
  rcases List.mem_cons.mp hq with rfl | hq
  · refine ⟨List.mem_cons_self, fun e => Nat.ne_of_beq_eq_false hj e, fun e => ?_, fun e => ?_⟩
    · rcases hj2 with h2 | h2
      · exact Nat.ne_of_beq_eq_false h2 e.1
      · rw [h2] at e; omega
    · rcases hj3 with h2 | h2
      · exact Nat.ne_of_beq_eq_false h2 e.2
      · rw [h2] at e; omega
  · exact ⟨List.mem_cons_of_mem _ (h q hq).1, (h q hq).2⟩
theorem q_Upd.here {L L' : List (Nat × Value)} {i : Nat} {v w : Value} (h : q_Keep L i v L') : q_Upd ((i, w) :: L) i v ((i, v) :: L') := fun q hq => by
  rcases List.mem_cons.mp hq with rfl | hq
  · exact Or.inl rfl
  · exact Or.inr ⟨List.mem_cons_of_mem _ (h q hq).1, (h q hq).2⟩
theorem q_copyW {k t0 a a0 N : Nat} {ty : FieldType} (hd : decode y.2.1 pc = .ok (.invokestatic idx, 3)) (hp : pc + 3 = pc') (hl1 : Cond.methodLink y.1.cls idx arraycopyName ∈ q_tb) (hl2 : Cond.native arraycopyName ∈ q_tb) (hl3 : Cond.static arraycopyName ∈ q_tb) (hl4 : Cond.initialized "java/lang/System" ∈ q_tb) (hdc : 1 ≤ d) (hcat : (S.map fun v => v.category).sum ≤ 8)
    (hk : k = 20 ∨ k = 22 ∨ k = 23) (ht : (q_tys g)[t0]? = some (g.2.2.1 k, ty)) (hprim : refKind ty = false) (hs0 : q_sh a0 = (k, N)) (hs1 : q_sh a = (k, N)) (h0 : a0 < n) (h1 : a < n) (hN : N ≤ 2147483647) (hfit : ∀ i, i < N → fits ty (.int (X a0 i)) = true)
    (kk : q_Tr l g y d K pc' L S n P (fun i j => if i = a ∧ j < N then X a0 j else X i j) Y) : q_Tr l g y d K pc L (.int (zi N) :: .int (zi 0) :: .ref (g.1 + a) :: .int (zi 0) :: .ref (g.1 + a0) :: S) n P X Y := by
  subst hp
  refine q_chg (fun p e R s m args below meth c H locs ls cells slots Q N1 ns hc hH hlo hl w => ?_) kk
  have hts := hc.2.2.2.2.2.1
  have rc := hc.2.2.2.2.2.2.2.2.1
  have hat0 := hH.2.1 a0 h0
  rw [q_cell_i hs0 hk] at hat0
  have hat1 := hH.2.1 a h1
  rw [q_cell_i hs1 hk] at hat1
  have z0 : (zi 0).toNatClampNeg = 0 := zi_nat (by omega)
  have zN : (zi (N : Int)).toNatClampNeg = N := by rw [zi_nat (by omega)]; omega
  have i0 : (zi 0).toInt = 0 := zi_toInt (by omega)
  have iN : (zi (N : Int)).toInt = (N : Int) := zi_toInt (by omega)
  intro T hT Z
  have hc0 : H[g.1 + a0]? = some (vp_cell (g.2.2.1 k) (N, .inl (X a0))) := hat0
  have hc1 : H[g.1 + a]? = some (vp_cell (g.2.2.1 k) (N, .inl (X a))) := hat1
  obtain ⟨-, k0, hk0, cm0, hkk0⟩ := ((q_Tof hc).2 t0 _ ht).1 N (fun j => .int (X a0 j))
  obtain ⟨-, k1, hk1, cm1, hkk1⟩ := ((q_Tof hc).2 t0 _ ht).1 N (fun j => .int (X a j))
  obtain ⟨vm', Z', step⟩ := Z.arraycopy hc.1 hc.2.2.2.2.1 (hts _ hl1) (hts _ hl2) (hts _ hl3) (hts _ hl4) (src := g.1 + a0) (dst := g.1 + a) (cs := vp_cell (g.2.2.1 k) (N, .inl (X a0))) (cd := vp_cell (g.2.2.1 k) (N, .inl (X a))) (srcPos := zi 0) (destPos := zi 0) (n := zi N) (by rw [hT]; exact hc0) (by rw [hT]; exact hc1)
    (fun _ h => by cases h) (fun _ h => by cases h) (fun h => by cases h) (fun h => by cases h) hk0 hk1 hkk0 hkk1 (by simp [hprim]) (by rw [zi_lt0 (by omega)]; omega) (by rw [zi_lt0 (by omega)]; omega) (by rw [zi_lt0 (by omega)]; omega)
    (by rw [i0, iN]; show ¬ _ > ((arrV _ N (fun j => .int (X a0 j))).slots.size : Int); rw [arrV_size]; omega)
    (by rw [i0, iN]; show ¬ _ > ((arrV _ N (fun j => .int (X a j))).slots.size : Int); rw [arrV_size]; omega)
    (fun vm₁ _ i hi => by
      rw [zN] at hi
      have e : (vp_cell (g.2.2.1 k) (N, .inl (X a0))).slots.getD ((zi 0).toNatClampNeg + i) .null = .int (X a0 i) := by
        show (arrV _ N (fun j => .int (X a0 j))).slots.getD _ _ = _
        rw [z0, Nat.zero_add, Array.getD_eq_getD_getElem?, arrV_read _ _ hi]
        rfl
      exact ⟨by rw [e]; exact hfit i hi, by rw [e]; exact trivial⟩)
    (g := F0 m pc ls (.int (zi N) :: .int (zi 0) :: .ref (g.1 + a) :: .int (zi 0) :: .ref (g.1 + a0) :: S)) rfl (by rw [hc.2.2.2.1]; exact hl.1) (rest := S) rfl (by rw [hc.2.1]; exact hd) (by omega) (by
      have hw : nativeFrameWords "java/lang/System" "arraycopy" 5 + 11 ≤ 32 := Nat.le_of_ble_eq_true rfl
      show 2 * 0 + _ + _ ≤ _; omega)
  have e1 : copied (vp_cell (g.2.2.1 k) (N, .inl (X a0))) (vp_cell (g.2.2.1 k) (N, .inl (X a))) (zi 0) (zi 0) (zi N) = vp_cell (g.2.2.1 k) (N, .inl (va_cpy (X a0) (X a) (zi 0).toNatClampNeg (zi 0).toNatClampNeg (zi (N : Int)).toNatClampNeg)) := va_copied (fun z => .int z) _ _ (X a0) (X a) (by rw [z0, zN]; omega)
  rw [e1, z0, zN] at Z' step
  have hlt : g.1 + a < H.size := (Array.getElem?_eq_some_iff.mp hc1).1
  have hheap : ((T.setVm vm').setCell (g.1 + a) (vp_cell (g.2.2.1 k) (N, .inl (va_cpy (X a0) (X a) 0 0 N)))).heap = H.setIfInBounds (g.1 + a) (vp_cell (g.2.2.1 k) (N, .inl (va_cpy (X a0) (X a) 0 0 N))) := by rw [← hT]; rfl
  obtain ⟨t, a1, b1⟩ := w _ _ (hH.set (i := a) (P' := P) (X' := fun i j => if i = a ∧ j < N then X a0 j else X i j) (Y' := Y) (by simp) (fun q hq => by simp [Array.getElem?_setIfInBounds, Ne.symm hq]) (by
      rw [q_cell_i hs1 hk]
      show (H.setIfInBounds (g.1 + a) _)[g.1 + a]? = some _
      have e2 : va_cpy (X a0) (X a) 0 0 N = fun j => if a = a ∧ j < N then X a0 j else X a j := by
        funext j
        by_cases h : j < N <;> simp [va_cpy, h]
      rw [e2]
      simp [Array.getElem?_setIfInBounds, hlt]) (fun j hj => q_cell_congr (fun _ => rfl) (fun b => by simp [hj]) (fun _ => rfl))) (fun q hq => by
      rcases List.mem_append.mp hq with h | h
      · exact hlo q h
      · obtain ⟨z, -, hz⟩ := List.mem_map.mp h
        rw [← hz]
        exact Nat.le_add_right _ _) _ hheap Z'
  exact ⟨t, step t a1, b1⟩
end QM
