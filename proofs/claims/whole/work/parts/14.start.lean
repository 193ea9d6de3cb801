theorem rT1 {w : Cond} (i : Nat) (h : tables_1_1[i]? = some w) : w ∈ lw_tbl := by
  have h := List.mem_of_getElem? h
  exact List.mem_append_right _ (List.mem_append_left _ h)
theorem rT2 {w : Cond} (i : Nat) (h : tables_1_2[i]? = some w) : w ∈ lw_tbl := by
  have h := List.mem_of_getElem? h
  exact List.mem_append_right _ (List.mem_append_right _ (List.mem_append_left _ h))
theorem rT3 {w : Cond} (i : Nat) (h : tables_1_3[i]? = some w) : w ∈ lw_tbl := by
  have h := List.mem_of_getElem? h
  exact List.mem_append_right _ (List.mem_append_right _ (List.mem_append_right _ (List.mem_append_left _ h)))
theorem rT4 {w : Cond} (i : Nat) (h : tables_1_4[i]? = some w) : w ∈ lw_tbl := by
  have h := List.mem_of_getElem? h
  exact List.mem_append_right _ (List.mem_append_right _ (List.mem_append_right _ (List.mem_append_right _ (List.mem_append_left _ h))))
theorem rT5 {w : Cond} (i : Nat) (h : tables_1_5[i]? = some w) : w ∈ lw_tbl := by
  have h := List.mem_of_getElem? h
  exact List.mem_append_right _ (List.mem_append_right _ (List.mem_append_right _ (List.mem_append_right _ (List.mem_append_right _ (List.mem_append_left _ h)))))
theorem rT6 {w : Cond} (i : Nat) (h : tables_1_6[i]? = some w) : w ∈ lw_tbl := by
  have h := List.mem_of_getElem? h
  exact List.mem_append_right _ (List.mem_append_right _ (List.mem_append_right _ (List.mem_append_right _ (List.mem_append_right _ (List.mem_append_right _ (List.mem_append_left _ h))))))
theorem rT7 {w : Cond} (i : Nat) (h : tables_1_7[i]? = some w) : w ∈ lw_tbl := by
  have h := List.mem_of_getElem? h
  exact List.mem_append_right _ (List.mem_append_right _ (List.mem_append_right _ (List.mem_append_right _ (List.mem_append_right _ (List.mem_append_right _ (List.mem_append_right _ (List.mem_append_left _ h)))))))
theorem rT8 {w : Cond} (i : Nat) (h : tables_1_8[i]? = some w) : w ∈ lw_tbl := by
  have h := List.mem_of_getElem? h
  exact List.mem_append_right _ (List.mem_append_right _ (List.mem_append_right _ (List.mem_append_right _ (List.mem_append_right _ (List.mem_append_right _ (List.mem_append_right _ (List.mem_append_right _ h)))))))
set_option maxRecDepth 20000 in
theorem iX0 : Cond.instantiable RX0 4 ∈ q_tb := qT2 78 rfl rfl
set_option maxRecDepth 20000 in
theorem iX1 : Cond.instantiable RX1 14 ∈ q_tb := qT1 30 rfl rfl
set_option maxRecDepth 20000 in
theorem iX2 : Cond.instantiable RX2 2 ∈ q_tb := qT2 44 rfl rfl
set_option maxRecDepth 20000 in
theorem iX3 : Cond.instantiable RX3 13 ∈ q_tb := qT2 132 rfl rfl
set_option maxRecDepth 20000 in
theorem iX4 : Cond.instantiable RX4 10 ∈ q_tb := qT1 136 rfl rfl
set_option maxRecDepth 20000 in
theorem iX5 : Cond.instantiable RX5 6 ∈ q_tb := qT1 109 rfl rfl
set_option maxRecDepth 20000 in
theorem iX6 : Cond.instantiable RX6 3 ∈ q_tb := qT2 20 rfl rfl
set_option maxRecDepth 20000 in
theorem iX7 : Cond.instantiable RX7 5 ∈ q_tb := qT1 78 rfl rfl
set_option maxRecDepth 20000 in
theorem iX8 : Cond.instantiable RX8 6 ∈ q_tb := qT1 38 rfl rfl
set_option maxRecDepth 20000 in
theorem iX9 : Cond.instantiable RX9 3 ∈ q_tb := qT2 38 rfl rfl
set_option maxRecDepth 20000 in
theorem iX10 : Cond.instantiable RX10 6 ∈ q_tb := qT2 101 rfl rfl
set_option maxRecDepth 20000 in
theorem iX11 : Cond.instantiable RX11 12 ∈ q_tb := qT1 22 rfl rfl
set_option maxRecDepth 20000 in
theorem iX12 : Cond.instantiable RX12 27 ∈ q_tb := qT6 84 rfl rfl
set_option maxHeartbeats 4000000 in
set_option maxRecDepth 100000 in
theorem q_start {s : State} {b L : Nat} {xs : Nat → Int32} (hts : ∀ w ∈ lw_tbl, w.before #[Value.ref b] s = true) (hX : va_X b L xs s s.heap) (hbl : b < s.heap.size) (hgv : (Jvm.Cond.and given_1 narrow_1).before #[Value.ref b] s = true) : ∃ g : q_G, g.1 = s.heap.size ∧ g.2.2.2.1 = s.heap ∧ g.2.2.2.2.1 = b ∧ g.2.2.2.2.2.1 = L ∧ g.2.2.2.2.2.2 = xs ∧ q_T g s := by
  have htb : ∀ w ∈ q_tb, w.before #[Value.ref b] s = true := fun w hw => hts w (List.mem_filter.mp hw).1
  have hcl : ∀ k : Nat, ∃ z : ClassId × (Nat → Nat), ∀ q : vw_C, vwCl[k]? = some q → u_Kn s q.1 q.2.1 q.2.2 z.1 z.2 := fun k => match k with
    | 0 => by
      obtain ⟨cC, iS, h⟩ := u_known (C := RX0) (T := TX0) (N := 4) (n := 4) htb q_inX0 (htb _ iX0)
      exact ⟨(cC, iS), fun q hq => by cases hq; exact h⟩
    | 1 => by
      obtain ⟨cC, iS, h⟩ := u_known (C := RX1) (T := TX1) (N := 14) (n := 14) htb q_inX1 (htb _ iX1)
      exact ⟨(cC, iS), fun q hq => by cases hq; exact h⟩
    | 2 => by
      obtain ⟨cC, iS, h⟩ := u_known (C := RX2) (T := TX2) (N := 2) (n := 2) htb q_inX2 (htb _ iX2)
      exact ⟨(cC, iS), fun q hq => by cases hq; exact h⟩
    | 3 => by
      obtain ⟨cC, iS, h⟩ := u_known (C := RX3) (T := TX3) (N := 13) (n := 13) htb q_inX3 (htb _ iX3)
      exact ⟨(cC, iS), fun q hq => by cases hq; exact h⟩
    | 4 => by
      obtain ⟨cC, iS, h⟩ := u_known (C := RX4) (T := TX4) (N := 10) (n := 10) htb q_inX4 (htb _ iX4)
      exact ⟨(cC, iS), fun q hq => by cases hq; exact h⟩
    | 5 => by
      obtain ⟨cC, iS, h⟩ := u_known (C := RX5) (T := TX5) (N := 6) (n := 6) htb q_inX5 (htb _ iX5)
      exact ⟨(cC, iS), fun q hq => by cases hq; exact h⟩
    | 6 => by
      obtain ⟨cC, iS, h⟩ := u_known (C := RX6) (T := TX6) (N := 3) (n := 3) htb q_inX6 (htb _ iX6)
      exact ⟨(cC, iS), fun q hq => by cases hq; exact h⟩
    | 7 => by
      obtain ⟨cC, iS, h⟩ := u_known (C := RX7) (T := TX7) (N := 5) (n := 5) htb q_inX7 (htb _ iX7)
      exact ⟨(cC, iS), fun q hq => by cases hq; exact h⟩
    | 8 => by
      obtain ⟨cC, iS, h⟩ := u_known (C := RX8) (T := TX8) (N := 6) (n := 6) htb q_inX8 (htb _ iX8)
      exact ⟨(cC, iS), fun q hq => by cases hq; exact h⟩
    | 9 => by
      obtain ⟨cC, iS, h⟩ := u_known (C := RX9) (T := TX9) (N := 3) (n := 3) htb q_inX9 (htb _ iX9)
      exact ⟨(cC, iS), fun q hq => by cases hq; exact h⟩
    | 10 => by
      obtain ⟨cC, iS, h⟩ := u_known (C := RX10) (T := TX10) (N := 6) (n := 6) htb q_inX10 (htb _ iX10)
      exact ⟨(cC, iS), fun q hq => by cases hq; exact h⟩
    | 11 => by
      obtain ⟨cC, iS, h⟩ := u_known (C := RX11) (T := TX11) (N := 12) (n := 12) htb q_inX11 (htb _ iX11)
      exact ⟨(cC, iS), fun q hq => by cases hq; exact h⟩
    | 12 => by
      obtain ⟨cC, iS, h⟩ := u_known (C := RX12) (T := TX12) (N := 27) (n := 27) htb q_inX12 (htb _ iX12)
      exact ⟨(cC, iS), fun q hq => by cases hq; exact h⟩
    | k + 13 => ⟨(0, fun _ => 0), fun q hq => by simp [vwCl] at hq⟩
  obtain ⟨f, hf⟩ := Classical.axiomOfChoice hcl
  obtain ⟨c20, k20, m20, a20, b20, d20⟩ := Cond.arrayClass_spec (htb _ a_int)
  obtain ⟨c21, k21, m21, a21, b21, d21⟩ := Cond.arrayClass_spec (htb _ a_long)
  obtain ⟨c22, k22, m22, a22, b22, d22⟩ := Cond.arrayClass_spec (htb _ a_boolean)
  obtain ⟨c23, k23, m23, a23, b23, d23⟩ := Cond.arrayClass_spec (htb _ a_byte)
  have hao4 := hts (Cond.arrayOver (.object RX4)) (rT1 36 rfl)
  have hao1 := hts (Cond.arrayOver (.object RX1)) (rT2 18 rfl)
  obtain ⟨m24, c24, k24, a24, -, b24, d24, e24⟩ := Cond.arrayOver_spec hao4
  obtain ⟨m25, c25, k25, a25, -, b25, d25, e25⟩ := Cond.arrayOver_spec hao1
  have hs := flat_of_before _ hgv
  have hA : ∀ a : Nat, a < s.heap.size → ¬ (fun q => s.heap.size ≤ q) a := fun a h => Nat.not_le.mpr h
  obtain ⟨adK, adV, hS, hev⟩ := vk_Sof (args := #[Value.ref b]) (s := s) (N := 1) (tm := fun _ => .string "DeadCap$Formula" 86) (len := [6]) (byt := [[104, 120, 115, 121, 98, 110]]) (A := fun q => s.heap.size ≤ q)
    (fun i hi => by rw [show i = 0 by omega]; decide) (fun i _ => hs _ (by decide +kernel)) (fun i _ => hs _ (by decide +kernel)) (fun i _ => hs _ (by decide +kernel)) (fun i hi => by rw [show i = 0 by omega]; exact hs _ (by decide +kernel))
    (fun i hi j hj => by
      rw [show i = 0 by omega] at hj ⊢
      have : j = 0 ∨ j = 1 ∨ j = 2 ∨ j = 3 ∨ j = 4 ∨ j = 5 := by
        have : ([6] : List Nat).getD 0 0 = 6 := rfl
        omega
      rcases this with e | e | e | e | e | e <;> subst e <;> exact hs _ (by decide +kernel)) (fun i j hi hj h => absurd (show i = j by omega) h) hA
  have hS0 : vk_S 1 [6] [[104, 120, 115, 121, 98, 110]] (fun _ => adK 0) (fun _ => adV 0) (fun q => s.heap.size ≤ q) s s.heap := ⟨fun i hi => by
    have := hS.1 0 (by omega)
    rw [show i = 0 by omega]
    exact this, fun i j hi hj _ => by omega⟩
  have hR0 : vk_R "DeadCap$Formula" 86 "hxsybn" (adK 0) s := by
    refine vk_R.of (A := #[Value.ref b]) (hts _ (rT3 155 rfl)) (hev 0 (by omega))
  have hZ1 : va_Z "java/lang/String" "COMPACT_STRINGS" "Z" (.int 1) (fun q => s.heap.size ≤ q) s s.heap := va_Zof (args := #[Value.ref b]) (hts _ (rT3 165 rfl)) (hts _ (rT1 16 rfl)) (va_eqt (hs _ (by decide +kernel))) hA
  have hZ2 : va_Zq "jdk/internal/util/Preconditions" "SIOOBE_FORMATTER" "Ljava/util/function/BiFunction;" (fun q => s.heap.size ≤ q) s s.heap := va_Zqof (args := #[Value.ref b]) (hts _ (rT3 173 rfl)) (hts _ (rT1 18 rfl)) (hs _ (by decide +kernel)) hA
  refine ⟨(s.heap.size, (fun k => (f k).1, fun k => (f k).2), fun k => if k = 20 then c20 else if k = 21 then c21 else if k = 22 then c22 else if k = 23 then c23 else if k = 24 then c24 else if k = 25 then c25 else if k = 100 then adK 0 else adV 0, s.heap, b, L, xs), rfl, rfl, rfl, rfl, rfl, ?_⟩
  refine ⟨⟨fun c q hq => hf c q hq, fun k q hq => ?_⟩, fun w hw => ?_, va_AO.of hao4, va_AO.of hao1, hX, hbl, hR0, hS0, hZ1, hZ2⟩
  · match k, hq with
    | 0, hq => cases hq; exact ⟨fun n z => ⟨fun k h => (by cases h), k20, b20, m20, d20⟩, a20⟩
    | 1, hq => cases hq; exact ⟨fun n z => ⟨fun k h => (by cases h), k21, b21, m21, d21⟩, a21⟩
    | 2, hq => cases hq; exact ⟨fun n z => ⟨fun k h => (by cases h), k22, b22, m22, d22⟩, a22⟩
    | 3, hq => cases hq; exact ⟨fun n z => ⟨fun k h => (by cases h), k23, b23, m23, d23⟩, a23⟩
    | 4, hq => cases hq; exact ⟨fun n z => ⟨fun k h => (by cases h), k24, b24, m24, d24⟩, k24, m24, b24, d24, a24, e24⟩
    | 5, hq => cases hq; exact ⟨fun n z => ⟨fun k h => (by cases h), k25, b25, m25, d25⟩, k25, m25, b25, d25, a25, e25⟩
    | k + 6, hq => simp [q_tys] at hq
  · have hwm := (List.mem_filter.mp hw).1
    obtain ⟨a1, i1, x1, b1, rfl⟩ := q_nest_w hw
    exact va_Nw.of rfl (hts _ hwm)
/-- what is wanted of the law: it answers true, with no more cells than the store has -/
def K1 : q_K := fun v N _ _ _ => v = some (.int (zi 1)) ∧ N ≤ 2681
theorem q_sl_all : q_sl 2681 ≤ 7302250 := by decide +kernel
def lw_Q (_ : Array Value) (s : State) (o : Outcome) (t : State) : Prop := o = .returned (some (.int 1)) ∧ Framed s o t [] 600000 7302250
def lw_Z (below : List Frame) (a : Array Value) (s : State) : State → Prop := fun t => ∃ o, t.status = .running ∧ Ended t below o ∧ lw_Q a s o t
/-- the law's entry, out of its walk over the store -/
theorem whole_open {p : Program} {e : Env} {s : State} {m : MethodId} {below : List Frame} {meth : Method} {c : Code} (l : Launch) {b L : Nat} {xs : Nat → Int32}
    (hx : p.tables.exec = Jvm.exec) (hb : c.code = code) (hr : meth.sig.returnType = ret) (hml : c.maxLocals = 4) (hown : s.vm.findClass RL = some m.cls) (hts : ∀ w ∈ lw_tbl, w.before #[Value.ref b] s = true) (hX : va_X b L xs s s.heap) (hbl : b < s.heap.size) (hlocks : meth.locks = false) (hname : meth.name = "law") (hgv : (Jvm.Cond.and given_1 narrow_1).before #[Value.ref b] s = true)
    (hlaw : ∀ g : q_G, g.2.2.2.2.1 = b → g.2.2.2.2.2.1 = L → g.2.2.2.2.2.2 = xs → q_Tr l g mL_law 11 K1 0 [(0, .ref b)] [] 0 (fun _ _ => none) (fun _ _ => 0) (fun _ _ => 0)) :
    W p l e room_1 s m #[Value.ref b] below meth c s.heap [] 0 0 (lw_Z below #[Value.ref b] s) (entryFrame m ([Value.ref b] : List Value).toArray 4) := by
  obtain ⟨g, e1, e2, e3, e4, e5, hT⟩ := q_start hts hX hbl hgv
  obtain ⟨v, N, P', X', Y', ⟨hv, hN⟩, -, hrun⟩ := hlaw g e3 e4 e5
  have hsl := Nat.le_trans (q_sl_mono hN) q_sl_all
  have hc : q_C g mL_law 11 N 0 p room_1 s m #[.ref b] meth c := ⟨hx, hb, hr, hml, hown, fun w hw => hts w (List.mem_filter.mp hw).1, hlocks, hname, ⟨by decide, by decide, by show N - 0 ≤ 600000; omega, by show q_sl N - q_sl 0 ≤ 7302250; omega⟩, by rw [e1]; rfl, hT⟩
  have hH : q_H g 0 (fun _ _ => none) (fun _ _ => 0) (fun _ _ => 0) s.heap := ⟨by rw [e1]; rfl, fun i hi => by omega, fun q hq => by rw [e2]⟩
  have hl := lv_entry [.ref b] (n := 4) (Nat.le_of_ble_eq_true rfl)
  rw [lg_entry_eq]
  have w := hrun p e room_1 s m #[.ref b] below meth c s.heap [] _ 0 hc (Nat.le_refl _) hH (fun q hq => by cases hq) hl
  intro T hT' Z
  obtain ⟨t, st, o, h1, h2, ⟨ho, hh, hsz⟩, L', hF, hL'⟩ := w T hT' Z
  rw [hv] at ho
  refine ⟨t, st, o, h1, h2, ho, hF.1, hF.2.1, hF.2.2.weaken (fun y hy hlt => ?_) (by omega) (by omega)⟩
  have := hL' y hy
  rw [e1] at this
  exact absurd hlt (Nat.not_lt.mpr this)
