/-! Math.max, Math.min -/
section QM
variable {l : Launch} {g : q_G} {y : q_M} {d : Nat} {K : q_K} {pc pc' idx : Nat} {L : List (Nat × Value)} {S S' : List Value} {n : Nat} {P : q_P} {X : q_X} {Y : q_Y}
theorem q_sameR (h : ∀ (p : Program) (e : Env) (R : Room) (s : State) (m : MethodId) (args : Array Value) (below : List Frame) (meth : Method) (c : Code) (H : Heap) (locs : List Loc) (ls : Array Slot) (cells slots : Nat) (Q : State → Prop) (N ns : Nat), q_C g y d N ns p R s m args meth c → q_H g n P X Y H → lv_has ls y.2.2.1 L → cells ≤ R.cells → slots ≤ R.slots →
      W p l e R s m args below meth c H locs cells slots Q (F0 m pc' ls S') → W p l e R s m args below meth c H locs cells slots Q (F0 m pc ls S)) (k : q_Tr l g y d K pc' L S' n P X Y) : q_Tr l g y d K pc L S n P X Y := by
  obtain ⟨v, N, P', X', Y', hK, hN, hr⟩ := k
  refine ⟨v, N, P', X', Y', hK, hN, fun p e R s m args below meth c H locs ls ns hc hn hH hl hL => h p e R s m args below meth c H locs ls _ _ _ N ns hc hH hL ?_ ?_ (hr p e R s m args below meth c H locs ls ns hc hn hH hl hL)⟩
  · have rc := hc.2.2.2.2.2.2.2.2.1
    omega
  · have rc := hc.2.2.2.2.2.2.2.2.1
    have m1 := q_sl_mono hN
    omega
theorem m_maxc : Cond.code Lib.Math.max.name Lib.Math.max.code 2 (some .int) ∈ q_tb := okJ9_max_7cf53.1
theorem m_minc : Cond.code Lib.Math.min.name Lib.Math.min.code 2 (some .int) ∈ q_tb := okJ9_min_7cf53.1
theorem r_max {a b : Int} (hd : decode y.2.1 pc = .ok (.invokestatic idx, 3)) (hp : pc + 3 = pc') (hlk : q_LS y.1.cls idx mJ9_max_7cf53 2) (hdc : 0 + 1 ≤ d) (hcat : (S.map fun v => v.category).sum ≤ 8) (ha : q_in a) (hb : q_in b) (kk : q_Tr l g y d K pc' L (.int (zi (max a b)) :: S) n P X Y) : q_Tr l g y d K pc L (.int (zi b) :: .int (zi a) :: S) n P X Y := by
  subst hp
  refine q_sameR (fun p e R s m args below meth c H locs ls cells slots Q N ns hc hH hl h1 h2 w => ?_) kk
  have hts := hc.2.2.2.2.2.1
  have rc := hc.2.2.2.2.2.2.2.2.1
  refine va_mmax hc.1 hc.2.1 (hc.2.2.2.1.trans hl.1.symm) hc.2.2.2.2.1 (hts _ hlk.2.1) (hts _ hlk.2.2) (hts _ hlk.1.2.1) (hts _ m_maxc) (by omega) (by omega) h1 h2 hd ?_
  have : (if zi a < zi b then zi b else zi a) = zi (max a b) := by
    by_cases h : a < b
    · rw [if_pos ((zi_lt ha hb).mpr h)]; congr 1; omega
    · rw [if_neg (fun q => h ((zi_lt ha hb).mp q))]; congr 1; omega
  rw [this]; exact w
theorem r_min {a b : Int} (hd : decode y.2.1 pc = .ok (.invokestatic idx, 3)) (hp : pc + 3 = pc') (hlk : q_LS y.1.cls idx mJ9_min_7cf53 2) (hdc : 0 + 1 ≤ d) (hcat : (S.map fun v => v.category).sum ≤ 8) (ha : q_in a) (hb : q_in b) (kk : q_Tr l g y d K pc' L (.int (zi (min a b)) :: S) n P X Y) : q_Tr l g y d K pc L (.int (zi b) :: .int (zi a) :: S) n P X Y := by
  subst hp
  refine q_sameR (fun p e R s m args below meth c H locs ls cells slots Q N ns hc hH hl h1 h2 w => ?_) kk
  have hts := hc.2.2.2.2.2.1
  have rc := hc.2.2.2.2.2.2.2.2.1
  refine va_mmin hc.1 hc.2.1 (hc.2.2.2.1.trans hl.1.symm) hc.2.2.2.2.1 (hts _ hlk.2.1) (hts _ hlk.2.2) (hts _ hlk.1.2.1) (hts _ m_minc) (by omega) (by omega) h1 h2 hd ?_
  have : (if zi b < zi a then zi b else zi a) = zi (min a b) := by
    by_cases h : b < a
    · rw [if_pos ((zi_lt hb ha).mpr h)]; congr 1; omega
    · rw [if_neg (fun q => h ((zi_lt hb ha).mp q))]; congr 1; omega
  rw [this]; exact w
theorem r_minL {a b : Int64} (hd : decode y.2.1 pc = .ok (.invokestatic idx, 3)) (hp : pc + 3 = pc') (hlk : q_LS y.1.cls idx mJ9_min_f86c9 2) (hdc : 0 + 1 ≤ d) (hcat : (S.map fun v => v.category).sum ≤ 8) (kk : q_Tr l g y d K pc' L (.long (if b < a then b else a) :: S) n P X Y) : q_Tr l g y d K pc L (.long b :: .long a :: S) n P X Y := by
  subst hp
  refine q_sameR (fun p e R s m args below meth c H locs ls cells slots Q N ns hc hH hl h1 h2 w => ?_) kk
  have hts := hc.2.2.2.2.2.1
  have rc := hc.2.2.2.2.2.2.2.2.1
  exact va_mmin_long hc.1 hc.2.1 (hc.2.2.2.1.trans hl.1.symm) hc.2.2.2.2.1 (hts _ hlk.2.1) (hts _ hlk.2.2) (hts _ hlk.1.2.1) (hts _ hlk.1.1) (by omega) (by omega) h1 h2 hd w
end QM
