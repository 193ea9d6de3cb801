/-! String.charAt of the one constant -/
def ltr (j : Nat) : Int := ([104, 120, 115, 121, 98, 110] : List Int).getD j 0
def bltr (j : Nat) : Int32 := ([[104, 120, 115, 121, 98, 110]] : List (List Int32)).getD 0 [] |>.getD j 0
theorem bltr_eq {j : Nat} (h : j < 6) : bltr j = zi (ltr j) := by
  have : j = 0 ∨ j = 1 ∨ j = 2 ∨ j = 3 ∨ j = 4 ∨ j = 5 := by omega
  rcases this with e | e | e | e | e | e <;> subst e <;> rfl
theorem ltr_b {j : Nat} (h : j < 6) : 0 ≤ ltr j ∧ ltr j < 128 := by
  have : j = 0 ∨ j = 1 ∨ j = 2 ∨ j = 3 ∨ j = 4 ∨ j = 5 := by omega
  rcases this with e | e | e | e | e | e <;> subst e <;> decide
theorem ltr_c {j : Nat} (h : j < 6) : ((zi (ltr j)).toUInt32 % 65536).toInt32 = zi (ltr j) ∧ narrow .char (.int (zi (ltr j))) = .int (zi (ltr j)) := by
  have : j = 0 ∨ j = 1 ∨ j = 2 ∨ j = 3 ∨ j = 4 ∨ j = 5 := by omega
  rcases this with e | e | e | e | e | e <;> subst e <;> exact ⟨rfl, rfl⟩
set_option maxRecDepth 20000 in
theorem fl_38 : Cond.fieldLink "java/lang/String" 38 "java/lang/String" "COMPACT_STRINGS" "Z" ∈ q_tb := (qT3 164 rfl rfl)
set_option maxRecDepth 20000 in
theorem fl_1053 : Cond.fieldLink "java/lang/String" 1053 "jdk/internal/util/Preconditions" "SIOOBE_FORMATTER" "Ljava/util/function/BiFunction;" ∈ q_tb := (qT3 172 rfl rfl)
set_option maxRecDepth 20000 in
theorem fl_15 : Cond.fieldLink "java/lang/String" 15 "java/lang/String" "coder" "B" ∈ q_tb := (qT8 231 rfl rfl)
set_option maxRecDepth 20000 in
theorem fl_9 : Cond.fieldLink "java/lang/String" 9 "java/lang/String" "value" "[B" ∈ q_tb := (qT8 232 rfl rfl)
section QJ
variable {l : Launch} {g : q_G} {y yc : q_M} {d dc : Nat} {K Kc : q_K} {pc pc' idx na : Nat} {L : List (Nat × Value)} {S rest As : List Value} {n : Nat} {P : q_P} {X : q_X} {Y : q_Y}
theorem q_Sof {N ns : Nat} {p : Program} {R : Room} {s : State} {m : MethodId} {args : Array Value} {meth : Method} {c : Code} (hc : q_C g y d N ns p R s m args meth c) : q_S g s := hc.2.2.2.2.2.2.2.2.2.2.2.2.2.2.2.2
theorem r_ldcS (hcl : y.1.cls = "DeadCap$Formula") (hd : decode y.2.1 pc = .ok (.ldc 86, 2)) (hp : pc + 2 = pc') (kk : q_Tr l g y d K pc' L (.ref (g.2.2.1 100) :: S) n P X Y) : q_Tr l g y d K pc L S n P X Y := by
  subst hp
  refine q_same (fun p e R s m args below meth c H locs ls cells slots Q N0 ns hc hH hl w => ?_) kk
  exact va_ldcS hc.1 hc.2.1 (by rw [← hcl]; exact hc.2.2.2.2.1) (q_Sof hc).1 hd w
theorem r_gcs (hcl : y.1.cls = "java/lang/String") (hd : decode y.2.1 pc = .ok (.getstatic 38, 3)) (hp : pc + 3 = pc') (kk : q_Tr l g y d K pc' L (.int (zi 1) :: S) n P X Y) : q_Tr l g y d K pc L S n P X Y := by
  subst hp
  refine q_same (fun p e R s m args below meth c H locs ls cells slots Q N0 ns hc hH hl w => ?_) kk
  obtain ⟨cf, kf, fi, f, a, cell, h1, h2, h3, h4, h5, h6, h7, h8⟩ := (q_Sof hc).2.2.1
  exact W.gets hc.1 hc.2.1 (by rw [← hcl]; exact hc.2.2.2.2.1) (hc.2.2.2.2.2.1 _ fl_38) h1 h2 h3 h4 (by rw [hH.2.2 a (Nat.not_le.mp h8)]; exact h5) (fun e => by rw [e] at h6; cases h6) h7 rfl hd w
/-- null or a reference -/
def q_nr (v : Value) : Prop := v = .null ∨ ∃ t : Nat, v = .ref t
theorem q_Tr.run {w : Option Value} (h : q_Tr l g y d (fun v' N' P' X' Y' => v' = w ∧ N' = n ∧ P' = P ∧ X' = X ∧ Y' = Y) pc L S n P X Y) : q_Run l g y d pc L S n P X Y w n P X Y := by
  obtain ⟨v, N, P', X', Y', ⟨rfl, rfl, rfl, rfl, rfl⟩, h⟩ := h
  exact h
theorem r_gsf (hcl : y.1.cls = "java/lang/String") (hd : decode y.2.1 pc = .ok (.getstatic 1053, 3)) (hp : pc + 3 = pc') {w : Option Value} {N : Nat} {P' : q_P} {X' : q_X} {Y' : q_Y} (hK : K w N P' X' Y') (kk : ∀ v, q_nr v → q_Run l g y d pc' L (v :: S) n P X Y w N P' X' Y') : q_Tr l g y d K pc L S n P X Y := by
  subst hp
  refine ⟨w, N, P', X', Y', hK, (kk .null (Or.inl rfl)).1, fun p e R s m args below meth c H locs ls ns hc hn hH hlo hl => ?_⟩
  rcases (q_Sof hc).2.2.2 with hZ | ⟨t, hZ⟩
  · obtain ⟨cf, kf, fi, f, a, cell, h1, h2, h3, h4, h5, h6, h7, h8⟩ := hZ
    exact W.gets hc.1 hc.2.1 (by rw [← hcl]; exact hc.2.2.2.2.1) (hc.2.2.2.2.2.1 _ fl_1053) h1 h2 h3 h4 (by rw [hH.2.2 a (Nat.not_le.mp h8)]; exact h5) (fun e => by rw [e] at h6; cases h6) h7 rfl hd ((kk .null (Or.inl rfl)).2 p e R s m args below meth c H locs ls ns hc hn hH hlo hl)
  · obtain ⟨cf, kf, fi, f, a, cell, h1, h2, h3, h4, h5, h6, h7, h8⟩ := hZ
    exact W.gets hc.1 hc.2.1 (by rw [← hcl]; exact hc.2.2.2.2.1) (hc.2.2.2.2.2.1 _ fl_1053) h1 h2 h3 h4 (by rw [hH.2.2 a (Nat.not_le.mp h8)]; exact h5) (fun e => by rw [e] at h6; cases h6) h7 rfl hd ((kk (.ref t) (Or.inr ⟨t, rfl⟩)).2 p e R s m args below meth c H locs ls ns hc hn hH hlo hl)
theorem r_scod (hcl : y.1.cls = "java/lang/String") (hd : decode y.2.1 pc = .ok (.getfield 15, 3)) (hp : pc + 3 = pc') (kk : q_Tr l g y d K pc' L (.int (zi 0) :: S) n P X Y) : q_Tr l g y d K pc L (.ref (g.2.2.1 100) :: S) n P X Y := by
  subst hp
  refine q_same (fun p e R s m args below meth c H locs ls cells slots Q N0 ns hc hH hl w => ?_) kk
  obtain ⟨cf, k, fi, f, cell, h1, h2, h3, h4, h5, h6⟩ := ((q_Sof hc).2.1.1 0 (by omega)).2.1
  exact W.getf hc.1 hc.2.1 (by rw [← hcl]; exact hc.2.2.2.2.1) (hc.2.2.2.2.2.1 _ fl_15) h1 h2 (by rw [hH.2.2 _ (Nat.not_le.mp h6)]; exact h3) h4 (v := .int 0) h5 rfl rfl hd w
theorem r_sval (hcl : y.1.cls = "java/lang/String") (hd : decode y.2.1 pc = .ok (.getfield 9, 3)) (hp : pc + 3 = pc') (kk : q_Tr l g y d K pc' L (.ref (g.2.2.1 101) :: S) n P X Y) : q_Tr l g y d K pc L (.ref (g.2.2.1 100) :: S) n P X Y := by
  subst hp
  refine q_same (fun p e R s m args below meth c H locs ls cells slots Q N0 ns hc hH hl w => ?_) kk
  obtain ⟨cf, k, fi, f, cell, h1, h2, h3, h4, h5, h6⟩ := ((q_Sof hc).2.1.1 0 (by omega)).2.2.1
  exact W.getf hc.1 hc.2.1 (by rw [← hcl]; exact hc.2.2.2.2.1) (hc.2.2.2.2.2.1 _ fl_9) h1 h2 (by rw [hH.2.2 _ (Nat.not_le.mp h6)]; exact h3) h4 (v := .ref (g.2.2.1 101)) h5 rfl rfl hd w
theorem r_stl (hd : decode y.2.1 pc = .ok (.arraylength, 1)) (hp : pc + 1 = pc') (kk : q_Tr l g y d K pc' L (.int (zi 6) :: S) n P X Y) : q_Tr l g y d K pc L (.ref (g.2.2.1 101) :: S) n P X Y := by
  subst hp
  refine q_same (fun p e R s m args below meth c H locs ls cells slots Q N0 ns hc hH hl w => ?_) kk
  obtain ⟨cell, h1, h2, h3, h4, h5, h6, h7⟩ := ((q_Sof hc).2.1.1 0 (by omega)).2.2.2
  exact W.alen (n := zi 6) hc.1 hc.2.1 (by rw [hH.2.2 _ (Nat.not_le.mp h7)]; exact h1) h2 h5 rfl rfl hd w
theorem r_stb {j : Nat} (hj : j < 6) (hd : decode y.2.1 pc = .ok (.baload, 1)) (hp : pc + 1 = pc') (kk : q_Tr l g y d K pc' L (.int (zi (ltr j)) :: S) n P X Y) : q_Tr l g y d K pc L (.int (zi (j : Int)) :: .ref (g.2.2.1 101) :: S) n P X Y := by
  subst hp
  refine q_same (fun p e R s m args below meth c H locs ls cells slots Q N0 ns hc hH hl w => ?_) kk
  obtain ⟨cell, h1, h2, h3, h4, h5, h6, h7⟩ := ((q_Sof hc).2.1.1 0 (by omega)).2.2.2
  have e6 : ([6] : List Nat).getD 0 0 = 6 := rfl
  rw [e6] at h4
  have hjn : (zi (j : Int)).toNatClampNeg = j := by rw [zi_nat (by omega)]; omega
  rw [← bltr_eq hj] at w
  exact W.bald (v := .int (bltr j)) hc.1 hc.2.1 (by rw [hH.2.2 _ (Nat.not_le.mp h7)]; exact h1) h2 h3 (by
    intro q
    rcases q with q | q
    · rw [zi_lt0 (by omega)] at q; omega
    · rw [hjn] at q; omega) (by rw [hjn]; exact h6 j (by rw [e6]; exact hj)) rfl rfl hd w
theorem r_i2c {x v : Int32} (hd : decode y.2.1 pc = .ok (.i2c, 1)) (hp : pc + 1 = pc') (hv : (x.toUInt32 % 65536).toInt32 = v) (kk : q_Tr l g y d K pc' L (.int v :: S) n P X Y) : q_Tr l g y d K pc L (.int x :: S) n P X Y := by
  subst hp
  refine q_same (fun p e R s m args below meth c H locs ls cells slots Q N0 ns hc hH hl w => ?_) kk
  exact lv_i2c hc.1 hc.2.1 hd hv w
theorem r_creturn {z : Int} (hd : decode y.2.1 pc = .ok (.ireturn, 1)) (hr : y.2.2.2 = some .char) (hz : narrow .char (.int (zi z)) = .int (zi z)) (hK : K (some (.int (zi z))) n P X Y) : q_Tr l g y d K pc L [.int (zi z)] n P X Y :=
  ⟨_, n, P, X, Y, hK, Nat.le_refl _, fun p e R s m args below meth c H locs ls ns hc hn hH hlo hl => W.zret hc.1 hc.2.1 (hc.2.2.1.trans hr) hz (fun t ht _ => ⟨rfl, by rw [ht]; exact hH, by rw [ht, hc.2.2.2.2.2.2.2.2.2.1, hH.1]; omega⟩) hlo hd hc.2.2.2.2.2.2.1⟩
theorem q_callStr (hd : decode y.2.1 pc = .ok (.invokevirtual idx, 3)) (hlk : q_LV y.1.cls idx yc na) (hcl : yc.1.cls = "java/lang/String") (hna : As.length = na) (hdc : dc + 1 ≤ d) (hcat : (rest.map fun v => v.category).sum ≤ 8) (hS : S = As.reverse ++ .ref (g.2.2.1 100) :: rest)
    (hm : q_Met l g yc dc (.ref (g.2.2.1 100) :: As) n P X Y Kc) (kk : ∀ v n' P' X' Y', Kc v n' P' X' Y' → n ≤ n' → q_Tr l g y d K (pc + 3) L (v.toList ++ rest) n' P' X' Y') : q_Tr l g y d K pc L S n P X Y := by
  subst hS
  refine q_back hm (fun p e R s m args below meth c H locs ls cells slots N ns N1 Qc hc hH hl hMet hf => ?_) kk
  have hts := hc.2.2.2.2.2.1
  obtain ⟨hok, hl1, hl2, hl3⟩ := hlk
  obtain ⟨cell, x1, x2, x3, x4⟩ := ((q_Sof hc).2.1.1 0 (by omega)).1
  exact va_runV (As := As) (rest := rest) ⟨hc.1, hc.2.1, hc.2.2.2.1, hc.2.2.2.2.1, hts⟩ hMet ⟨q_cb hc hok hl1 hdc, hts _ hl2, hts _ hl3⟩ ⟨q_blind, ⟨cell, by rw [hH.2.2 _ (Nat.not_le.mp x4)]; exact x1, x2, by rw [hcl]; exact x3⟩, fun U hU hW => ⟨rfl, hc.2.2.2.2.2.2.2.2.2.2.warm hW, by rw [hU]; exact hH⟩⟩ rfl hna hl.1 rfl (lv_room hcat) hd hf
end QJ
set_option maxHeartbeats 4000000 in
set_option maxRecDepth 100000 in
theorem tJ3_checkIndex {l : Launch} {g : q_G} {n : Nat} {P : q_P} {X : q_X} {Y : q_Y} {i m : Int} {v : Value} (hv : q_nr v) (hi : 0 ≤ i ∧ i < m) (hm : q_in m) : q_Met l g mJ3_checkIndex_8e157 0 [.int (zi i), .int (zi m), v] n P X Y (q_pv (.int (zi i)) n P X Y) := by
  rcases hv with rfl | ⟨t, rfl⟩
  · refine q_enter (L := [(0, .int (zi i)), (1, .int (zi m)), (2, .null)]) (by decide) (Nat.le_of_ble_eq_true rfl) rfl ?_
    refine r_iload_n (i := 0) (pc' := 1) dJ3_checkIndex_8e157_0 rfl rfl (.head _) ?_
    refine r_if_lt (t := 9) (f := 4) dJ3_checkIndex_8e157_1 (by decide) rfl (by first | omega | exact xv_in _ _ _) (fun h1 => ?_) (fun h1 => ?_)
    · exfalso; omega
    · refine r_iload_n (i := 0) (pc' := 5) dJ3_checkIndex_8e157_4 rfl rfl (.head _) ?_
      refine r_iload_n (i := 1) (pc' := 6) dJ3_checkIndex_8e157_5 rfl rfl (.tail _ (.head _)) ?_
      refine r_icmp_lt (t := 16) (f := 9) dJ3_checkIndex_8e157_6 (by decide) rfl (by first | omega | exact xv_in _ _ _) (by first | omega | exact xv_in _ _ _) (fun h6 => ?_) (fun h6 => ?_)
      · refine r_iload_n (i := 0) (pc' := 17) dJ3_checkIndex_8e157_16 rfl rfl (.head _) ?_
        refine r_ireturn dJ3_checkIndex_8e157_17 rfl ?_
        exact ⟨rfl, rfl, rfl, rfl, rfl⟩
      · exfalso; omega
  · refine q_enter (L := [(0, .int (zi i)), (1, .int (zi m)), (2, .ref t)]) (by decide) (Nat.le_of_ble_eq_true rfl) rfl ?_
    refine r_iload_n (i := 0) (pc' := 1) dJ3_checkIndex_8e157_0 rfl rfl (.head _) ?_
    refine r_if_lt (t := 9) (f := 4) dJ3_checkIndex_8e157_1 (by decide) rfl (by first | omega | exact xv_in _ _ _) (fun h1 => ?_) (fun h1 => ?_)
    · exfalso; omega
    · refine r_iload_n (i := 0) (pc' := 5) dJ3_checkIndex_8e157_4 rfl rfl (.head _) ?_
      refine r_iload_n (i := 1) (pc' := 6) dJ3_checkIndex_8e157_5 rfl rfl (.tail _ (.head _)) ?_
      refine r_icmp_lt (t := 16) (f := 9) dJ3_checkIndex_8e157_6 (by decide) rfl (by first | omega | exact xv_in _ _ _) (by first | omega | exact xv_in _ _ _) (fun h6 => ?_) (fun h6 => ?_)
      · refine r_iload_n (i := 0) (pc' := 17) dJ3_checkIndex_8e157_16 rfl rfl (.head _) ?_
        refine r_ireturn dJ3_checkIndex_8e157_17 rfl ?_
        exact ⟨rfl, rfl, rfl, rfl, rfl⟩
      · exfalso; omega
set_option maxHeartbeats 4000000 in
set_option maxRecDepth 100000 in
theorem tJ0_checkIndex {l : Launch} {g : q_G} {n : Nat} {P : q_P} {X : q_X} {Y : q_Y} {i m : Int} (hi : 0 ≤ i ∧ i < m) (hm : q_in m) : q_Met l g mJ0_checkIndex_df160 1 [.int (zi i), .int (zi m)] n P X Y (q_gv (fun n' P' X' Y' => n' = n ∧ P' = P ∧ Y' = Y ∧ X' = X)) := by
  refine q_enter (L := [(0, .int (zi i)), (1, .int (zi m))]) (by decide) (Nat.le_of_ble_eq_true rfl) rfl ?_
  refine r_iload_n (i := 0) (pc' := 1) dJ0_checkIndex_df160_0 rfl rfl (.head _) ?_
  refine r_iload_n (i := 1) (pc' := 2) dJ0_checkIndex_df160_1 rfl rfl (.tail _ (.head _)) ?_
  refine r_gsf (pc' := 5) (w := none) (N := n) (P' := P) (X' := X) (Y' := Y) rfl dJ0_checkIndex_df160_2 rfl ⟨rfl, rfl, rfl, rfl, rfl⟩ (fun v hv => q_Tr.run ?_)
  refine q_callS (As := [.int (zi i), .int (zi m), v]) (rest := []) dJ0_checkIndex_df160_5 lJ0_1059 rfl (by decide) (Nat.le_of_ble_eq_true rfl) rfl (tJ3_checkIndex hv hi hm) (fun v n' P' X' Y' h _ => ?_)
  obtain ⟨rfl, rfl, rfl, rfl, rfl⟩ := h
  refine r_pop (pc' := 9) dJ0_checkIndex_df160_8 rfl rfl ?_
  refine r_return dJ0_checkIndex_df160_9 rfl ?_
  exact ⟨rfl, rfl, rfl, rfl, rfl⟩
set_option maxHeartbeats 4000000 in
set_option maxRecDepth 100000 in
theorem tJ1_charAt {l : Launch} {g : q_G} {n : Nat} {P : q_P} {X : q_X} {Y : q_Y} {j : Nat} (hj : j < 6) : q_Met l g mJ1_charAt_3b067 2 [.ref (g.2.2.1 101), .int (zi (j : Int))] n P X Y (q_pv (.int (zi (ltr j))) n P X Y) := by
  refine q_enter (L := [(0, .ref (g.2.2.1 101)), (1, .int (zi (j : Int)))]) (by decide) (Nat.le_of_ble_eq_true rfl) rfl ?_
  refine r_iload_n (i := 1) (pc' := 1) dJ1_charAt_3b067_0 rfl rfl (.tail _ (.head _)) ?_
  refine r_aload_n (i := 0) (pc' := 2) dJ1_charAt_3b067_1 rfl rfl (.head _) ?_
  refine r_stl (pc' := 3) dJ1_charAt_3b067_2 rfl ?_
  refine q_callS (As := [.int (zi (j : Int)), .int (zi 6)]) (rest := []) dJ1_charAt_3b067_3 lJ1_9 rfl (by decide) (Nat.le_of_ble_eq_true rfl) rfl (tJ0_checkIndex (by omega) (by omega)) (fun v n' P' X' Y' h _ => ?_)
  obtain ⟨rfl, rfl, rfl, rfl, rfl⟩ := h
  refine r_aload_n (i := 0) (pc' := 7) dJ1_charAt_3b067_6 rfl rfl (.head _) ?_
  refine r_iload_n (i := 1) (pc' := 8) dJ1_charAt_3b067_7 rfl rfl (.tail _ (.head _)) ?_
  refine r_stb (pc' := 9) hj dJ1_charAt_3b067_8 rfl ?_
  refine r_sipush (pc' := 12) dJ1_charAt_3b067_9 rfl (by decide) ?_
  have hb := ltr_b hj
  refine r_iand (pc' := 13) (z := ltr j) dJ1_charAt_3b067_12 rfl (by rw [zi_and255]; congr 1; omega) ?_
  refine r_i2c (pc' := 14) dJ1_charAt_3b067_13 rfl (ltr_c hj).1 ?_
  refine r_creturn dJ1_charAt_3b067_14 rfl (ltr_c hj).2 ?_
  exact ⟨rfl, rfl, rfl, rfl, rfl⟩
set_option maxHeartbeats 4000000 in
set_option maxRecDepth 100000 in
theorem tJ0_isLatin1 {l : Launch} {g : q_G} {n : Nat} {P : q_P} {X : q_X} {Y : q_Y} : q_Met l g mJ0_isLatin1_aae02 0 [.ref (g.2.2.1 100)] n P X Y (q_pv (.int (zi 1)) n P X Y) := by
  refine q_enter (L := [(0, .ref (g.2.2.1 100))]) (by decide) (Nat.le_of_ble_eq_true rfl) rfl ?_
  refine r_gcs (pc' := 3) rfl dJ0_isLatin1_aae02_0 rfl ?_
  refine r_if_eq (t := 17) (f := 6) dJ0_isLatin1_aae02_3 (by decide) rfl (by omega) (fun h => ?_) (fun h => ?_)
  · exfalso; omega
  refine r_aload_n (i := 0) (pc' := 7) dJ0_isLatin1_aae02_6 rfl rfl (.head _) ?_
  refine r_scod (pc' := 10) rfl dJ0_isLatin1_aae02_7 rfl ?_
  refine r_if_ne (t := 17) (f := 13) dJ0_isLatin1_aae02_10 (by decide) rfl (by omega) (fun h => ?_) (fun h => ?_)
  · exfalso; omega
  refine r_iconst (pc' := 14) dJ0_isLatin1_aae02_13 rfl ?_
  refine r_goto (t := 18) dJ0_isLatin1_aae02_14 (by decide) ?_
  refine r_zreturn dJ0_isLatin1_aae02_18 rfl (by decide) ?_
  exact ⟨rfl, rfl, rfl, rfl, rfl⟩
set_option maxHeartbeats 4000000 in
set_option maxRecDepth 100000 in
theorem tJ0_charAt {l : Launch} {g : q_G} {n : Nat} {P : q_P} {X : q_X} {Y : q_Y} {j : Nat} (hj : j < 6) : q_Met l g mJ0_charAt_5068e 3 [.ref (g.2.2.1 100), .int (zi (j : Int))] n P X Y (q_pv (.int (zi (ltr j))) n P X Y) := by
  refine q_enter (L := [(0, .ref (g.2.2.1 100)), (1, .int (zi (j : Int)))]) (by decide) (Nat.le_of_ble_eq_true rfl) rfl ?_
  refine r_aload_n (i := 0) (pc' := 1) dJ0_charAt_5068e_0 rfl rfl (.head _) ?_
  refine q_callStr (As := []) (rest := []) dJ0_charAt_5068e_1 lJ0_492 rfl rfl (by decide) (Nat.le_of_ble_eq_true rfl) rfl tJ0_isLatin1 (fun v n' P' X' Y' h _ => ?_)
  obtain ⟨rfl, rfl, rfl, rfl, rfl⟩ := h
  refine r_if_eq (t := 16) (f := 7) dJ0_charAt_5068e_4 (by decide) rfl (by omega) (fun h => ?_) (fun h => ?_)
  · exfalso; omega
  refine r_aload_n (i := 0) (pc' := 8) dJ0_charAt_5068e_7 rfl rfl (.head _) ?_
  refine r_sval (pc' := 11) rfl dJ0_charAt_5068e_8 rfl ?_
  refine r_iload_n (i := 1) (pc' := 12) dJ0_charAt_5068e_11 rfl rfl (.tail _ (.head _)) ?_
  refine q_callS (As := [.ref (g.2.2.1 101), .int (zi (j : Int))]) (rest := []) dJ0_charAt_5068e_12 lJ0_495 rfl (by decide) (Nat.le_of_ble_eq_true rfl) rfl (tJ1_charAt hj) (fun v n' P' X' Y' h _ => ?_)
  obtain ⟨rfl, rfl, rfl, rfl, rfl⟩ := h
  refine r_creturn dJ0_charAt_5068e_15 rfl (ltr_c hj).2 ?_
  exact ⟨rfl, rfl, rfl, rfl, rfl⟩
def f_plc (c : Int) : Int := if c = 104 then 0 else if c = 120 then 1 else if c = 115 then 2 else if c = 121 then 3 else if c = 98 then 4 else if c = 110 then 5 else -1
set_option maxHeartbeats 4000000 in
set_option maxRecDepth 100000 in
theorem pl6 {l : Launch} {g : q_G} {n : Nat} {P : q_P} {X : q_X} {Y : q_Y} {c : Int} (hc : q_in c) (k0 : ¬ c = 104) (k1 : ¬ c = 120) (k2 : ¬ c = 115) (k3 : ¬ c = 121) (k4 : ¬ c = 98) (k5 : ¬ c = 110) : q_Tr l g mX5_placeOf 4 (q_pv (.int (zi (f_plc c))) n P X Y) 2 [(0, .int (zi c)), (1, .int (zi 6))] [] n P X Y := by
  refine r_iload_n (i := 1) (pc' := 3) dX5_placeOf_2 rfl rfl (.tail _ (.head _)) ?_
  refine r_bipush (pc' := 5) dX5_placeOf_3 rfl (by decide) ?_
  refine r_icmp_ge (t := 26) (f := 8) dX5_placeOf_5 (by decide) rfl (by first | omega | assumption) (by first | omega | assumption) (fun h5 => ?_) (fun h5 => ?_)
  · refine r_iconst (pc' := 27) dX5_placeOf_26 rfl ?_
    refine r_ireturn dX5_placeOf_27 rfl ?_
    refine ⟨?_, rfl, rfl, rfl, rfl⟩
    unfold f_plc
    rw [if_neg k0, if_neg k1, if_neg k2, if_neg k3, if_neg k4, if_neg k5]
  · exfalso; omega
set_option maxHeartbeats 4000000 in
set_option maxRecDepth 100000 in
theorem pl5 {l : Launch} {g : q_G} {n : Nat} {P : q_P} {X : q_X} {Y : q_Y} {c : Int} (hc : q_in c) (k0 : ¬ c = 104) (k1 : ¬ c = 120) (k2 : ¬ c = 115) (k3 : ¬ c = 121) (k4 : ¬ c = 98) : q_Tr l g mX5_placeOf 4 (q_pv (.int (zi (f_plc c))) n P X Y) 2 [(0, .int (zi c)), (1, .int (zi 5))] [] n P X Y := by
  refine r_iload_n (i := 1) (pc' := 3) dX5_placeOf_2 rfl rfl (.tail _ (.head _)) ?_
  refine r_bipush (pc' := 5) dX5_placeOf_3 rfl (by decide) ?_
  refine r_icmp_ge (t := 26) (f := 8) dX5_placeOf_5 (by decide) rfl (by first | omega | assumption) (by first | omega | assumption) (fun h5 => ?_) (fun h5 => ?_)
  · exfalso; omega
  · refine r_ldcS (pc' := 10) rfl dX5_placeOf_8 rfl ?_
    refine r_iload_n (i := 1) (pc' := 11) dX5_placeOf_10 rfl rfl (.tail _ (.head _)) ?_
    refine q_callStr (As := [.int (zi 5)]) (rest := []) dX5_placeOf_11 lX5_88 rfl rfl (by decide) (Nat.le_of_ble_eq_true rfl) rfl (tJ0_charAt (j := 5) (by decide)) (fun v n' P' X' Y' h _ => ?_)
    obtain ⟨rfl, rfl, rfl, rfl, rfl⟩ := h
    change q_Tr _ _ _ _ _ _ _ (.int (zi 110) :: _) _ _ _ _
    refine r_iload_n (i := 0) (pc' := 15) dX5_placeOf_14 rfl rfl (.head _) ?_
    refine r_icmp_ne (t := 20) (f := 18) dX5_placeOf_15 (by decide) rfl (by first | omega | assumption) (by first | omega | assumption) (fun h15 => ?_) (fun h15 => ?_)
    · refine r_iinc (pc' := 23) dX5_placeOf_20 rfl rfl (.tail _ (.head _)) (.s1 (.here .nil) rfl rfl rfl) ?_
      refine r_goto (t := 2) dX5_placeOf_23 (by decide) ?_
      rw [show ((5 : Int) + 1) = 6 from by decide]
      exact pl6 hc k0 k1 k2 k3 k4 (fun q => h15 (by omega))
    · refine r_iload_n (i := 1) (pc' := 19) dX5_placeOf_18 rfl rfl (.tail _ (.head _)) ?_
      refine r_ireturn dX5_placeOf_19 rfl ?_
      refine ⟨?_, rfl, rfl, rfl, rfl⟩
      unfold f_plc
      rw [if_neg k0, if_neg k1, if_neg k2, if_neg k3, if_neg k4, if_pos (by omega)]
set_option maxHeartbeats 4000000 in
set_option maxRecDepth 100000 in
theorem pl4 {l : Launch} {g : q_G} {n : Nat} {P : q_P} {X : q_X} {Y : q_Y} {c : Int} (hc : q_in c) (k0 : ¬ c = 104) (k1 : ¬ c = 120) (k2 : ¬ c = 115) (k3 : ¬ c = 121) : q_Tr l g mX5_placeOf 4 (q_pv (.int (zi (f_plc c))) n P X Y) 2 [(0, .int (zi c)), (1, .int (zi 4))] [] n P X Y := by
  refine r_iload_n (i := 1) (pc' := 3) dX5_placeOf_2 rfl rfl (.tail _ (.head _)) ?_
  refine r_bipush (pc' := 5) dX5_placeOf_3 rfl (by decide) ?_
  refine r_icmp_ge (t := 26) (f := 8) dX5_placeOf_5 (by decide) rfl (by first | omega | assumption) (by first | omega | assumption) (fun h5 => ?_) (fun h5 => ?_)
  · exfalso; omega
  · refine r_ldcS (pc' := 10) rfl dX5_placeOf_8 rfl ?_
    refine r_iload_n (i := 1) (pc' := 11) dX5_placeOf_10 rfl rfl (.tail _ (.head _)) ?_
    refine q_callStr (As := [.int (zi 4)]) (rest := []) dX5_placeOf_11 lX5_88 rfl rfl (by decide) (Nat.le_of_ble_eq_true rfl) rfl (tJ0_charAt (j := 4) (by decide)) (fun v n' P' X' Y' h _ => ?_)
    obtain ⟨rfl, rfl, rfl, rfl, rfl⟩ := h
    change q_Tr _ _ _ _ _ _ _ (.int (zi 98) :: _) _ _ _ _
    refine r_iload_n (i := 0) (pc' := 15) dX5_placeOf_14 rfl rfl (.head _) ?_
    refine r_icmp_ne (t := 20) (f := 18) dX5_placeOf_15 (by decide) rfl (by first | omega | assumption) (by first | omega | assumption) (fun h15 => ?_) (fun h15 => ?_)
    · refine r_iinc (pc' := 23) dX5_placeOf_20 rfl rfl (.tail _ (.head _)) (.s1 (.here .nil) rfl rfl rfl) ?_
      refine r_goto (t := 2) dX5_placeOf_23 (by decide) ?_
      rw [show ((4 : Int) + 1) = 5 from by decide]
      exact pl5 hc k0 k1 k2 k3 (fun q => h15 (by omega))
    · refine r_iload_n (i := 1) (pc' := 19) dX5_placeOf_18 rfl rfl (.tail _ (.head _)) ?_
      refine r_ireturn dX5_placeOf_19 rfl ?_
      refine ⟨?_, rfl, rfl, rfl, rfl⟩
      unfold f_plc
      rw [if_neg k0, if_neg k1, if_neg k2, if_neg k3, if_pos (by omega)]
set_option maxHeartbeats 4000000 in
set_option maxRecDepth 100000 in
theorem pl3 {l : Launch} {g : q_G} {n : Nat} {P : q_P} {X : q_X} {Y : q_Y} {c : Int} (hc : q_in c) (k0 : ¬ c = 104) (k1 : ¬ c = 120) (k2 : ¬ c = 115) : q_Tr l g mX5_placeOf 4 (q_pv (.int (zi (f_plc c))) n P X Y) 2 [(0, .int (zi c)), (1, .int (zi 3))] [] n P X Y := by
  refine r_iload_n (i := 1) (pc' := 3) dX5_placeOf_2 rfl rfl (.tail _ (.head _)) ?_
  refine r_bipush (pc' := 5) dX5_placeOf_3 rfl (by decide) ?_
  refine r_icmp_ge (t := 26) (f := 8) dX5_placeOf_5 (by decide) rfl (by first | omega | assumption) (by first | omega | assumption) (fun h5 => ?_) (fun h5 => ?_)
  · exfalso; omega
  · refine r_ldcS (pc' := 10) rfl dX5_placeOf_8 rfl ?_
    refine r_iload_n (i := 1) (pc' := 11) dX5_placeOf_10 rfl rfl (.tail _ (.head _)) ?_
    refine q_callStr (As := [.int (zi 3)]) (rest := []) dX5_placeOf_11 lX5_88 rfl rfl (by decide) (Nat.le_of_ble_eq_true rfl) rfl (tJ0_charAt (j := 3) (by decide)) (fun v n' P' X' Y' h _ => ?_)
    obtain ⟨rfl, rfl, rfl, rfl, rfl⟩ := h
    change q_Tr _ _ _ _ _ _ _ (.int (zi 121) :: _) _ _ _ _
    refine r_iload_n (i := 0) (pc' := 15) dX5_placeOf_14 rfl rfl (.head _) ?_
    refine r_icmp_ne (t := 20) (f := 18) dX5_placeOf_15 (by decide) rfl (by first | omega | assumption) (by first | omega | assumption) (fun h15 => ?_) (fun h15 => ?_)
    · refine r_iinc (pc' := 23) dX5_placeOf_20 rfl rfl (.tail _ (.head _)) (.s1 (.here .nil) rfl rfl rfl) ?_
      refine r_goto (t := 2) dX5_placeOf_23 (by decide) ?_
      rw [show ((3 : Int) + 1) = 4 from by decide]
      exact pl4 hc k0 k1 k2 (fun q => h15 (by omega))
    · refine r_iload_n (i := 1) (pc' := 19) dX5_placeOf_18 rfl rfl (.tail _ (.head _)) ?_
      refine r_ireturn dX5_placeOf_19 rfl ?_
      refine ⟨?_, rfl, rfl, rfl, rfl⟩
      unfold f_plc
      rw [if_neg k0, if_neg k1, if_neg k2, if_pos (by omega)]
set_option maxHeartbeats 4000000 in
set_option maxRecDepth 100000 in
theorem pl2 {l : Launch} {g : q_G} {n : Nat} {P : q_P} {X : q_X} {Y : q_Y} {c : Int} (hc : q_in c) (k0 : ¬ c = 104) (k1 : ¬ c = 120) : q_Tr l g mX5_placeOf 4 (q_pv (.int (zi (f_plc c))) n P X Y) 2 [(0, .int (zi c)), (1, .int (zi 2))] [] n P X Y := by
  refine r_iload_n (i := 1) (pc' := 3) dX5_placeOf_2 rfl rfl (.tail _ (.head _)) ?_
  refine r_bipush (pc' := 5) dX5_placeOf_3 rfl (by decide) ?_
  refine r_icmp_ge (t := 26) (f := 8) dX5_placeOf_5 (by decide) rfl (by first | omega | assumption) (by first | omega | assumption) (fun h5 => ?_) (fun h5 => ?_)
  · exfalso; omega
  · refine r_ldcS (pc' := 10) rfl dX5_placeOf_8 rfl ?_
    refine r_iload_n (i := 1) (pc' := 11) dX5_placeOf_10 rfl rfl (.tail _ (.head _)) ?_
    refine q_callStr (As := [.int (zi 2)]) (rest := []) dX5_placeOf_11 lX5_88 rfl rfl (by decide) (Nat.le_of_ble_eq_true rfl) rfl (tJ0_charAt (j := 2) (by decide)) (fun v n' P' X' Y' h _ => ?_)
    obtain ⟨rfl, rfl, rfl, rfl, rfl⟩ := h
    change q_Tr _ _ _ _ _ _ _ (.int (zi 115) :: _) _ _ _ _
    refine r_iload_n (i := 0) (pc' := 15) dX5_placeOf_14 rfl rfl (.head _) ?_
    refine r_icmp_ne (t := 20) (f := 18) dX5_placeOf_15 (by decide) rfl (by first | omega | assumption) (by first | omega | assumption) (fun h15 => ?_) (fun h15 => ?_)
    · refine r_iinc (pc' := 23) dX5_placeOf_20 rfl rfl (.tail _ (.head _)) (.s1 (.here .nil) rfl rfl rfl) ?_
      refine r_goto (t := 2) dX5_placeOf_23 (by decide) ?_
      rw [show ((2 : Int) + 1) = 3 from by decide]
      exact pl3 hc k0 k1 (fun q => h15 (by omega))
    · refine r_iload_n (i := 1) (pc' := 19) dX5_placeOf_18 rfl rfl (.tail _ (.head _)) ?_
      refine r_ireturn dX5_placeOf_19 rfl ?_
      refine ⟨?_, rfl, rfl, rfl, rfl⟩
      unfold f_plc
      rw [if_neg k0, if_neg k1, if_pos (by omega)]
set_option maxHeartbeats 4000000 in
set_option maxRecDepth 100000 in
theorem pl1 {l : Launch} {g : q_G} {n : Nat} {P : q_P} {X : q_X} {Y : q_Y} {c : Int} (hc : q_in c) (k0 : ¬ c = 104) : q_Tr l g mX5_placeOf 4 (q_pv (.int (zi (f_plc c))) n P X Y) 2 [(0, .int (zi c)), (1, .int (zi 1))] [] n P X Y := by
  refine r_iload_n (i := 1) (pc' := 3) dX5_placeOf_2 rfl rfl (.tail _ (.head _)) ?_
  refine r_bipush (pc' := 5) dX5_placeOf_3 rfl (by decide) ?_
  refine r_icmp_ge (t := 26) (f := 8) dX5_placeOf_5 (by decide) rfl (by first | omega | assumption) (by first | omega | assumption) (fun h5 => ?_) (fun h5 => ?_)
  · exfalso; omega
  · refine r_ldcS (pc' := 10) rfl dX5_placeOf_8 rfl ?_
    refine r_iload_n (i := 1) (pc' := 11) dX5_placeOf_10 rfl rfl (.tail _ (.head _)) ?_
    refine q_callStr (As := [.int (zi 1)]) (rest := []) dX5_placeOf_11 lX5_88 rfl rfl (by decide) (Nat.le_of_ble_eq_true rfl) rfl (tJ0_charAt (j := 1) (by decide)) (fun v n' P' X' Y' h _ => ?_)
    obtain ⟨rfl, rfl, rfl, rfl, rfl⟩ := h
    change q_Tr _ _ _ _ _ _ _ (.int (zi 120) :: _) _ _ _ _
    refine r_iload_n (i := 0) (pc' := 15) dX5_placeOf_14 rfl rfl (.head _) ?_
    refine r_icmp_ne (t := 20) (f := 18) dX5_placeOf_15 (by decide) rfl (by first | omega | assumption) (by first | omega | assumption) (fun h15 => ?_) (fun h15 => ?_)
    · refine r_iinc (pc' := 23) dX5_placeOf_20 rfl rfl (.tail _ (.head _)) (.s1 (.here .nil) rfl rfl rfl) ?_
      refine r_goto (t := 2) dX5_placeOf_23 (by decide) ?_
      rw [show ((1 : Int) + 1) = 2 from by decide]
      exact pl2 hc k0 (fun q => h15 (by omega))
    · refine r_iload_n (i := 1) (pc' := 19) dX5_placeOf_18 rfl rfl (.tail _ (.head _)) ?_
      refine r_ireturn dX5_placeOf_19 rfl ?_
      refine ⟨?_, rfl, rfl, rfl, rfl⟩
      unfold f_plc
      rw [if_neg k0, if_pos (by omega)]
set_option maxHeartbeats 4000000 in
set_option maxRecDepth 100000 in
theorem pl0 {l : Launch} {g : q_G} {n : Nat} {P : q_P} {X : q_X} {Y : q_Y} {c : Int} (hc : q_in c)  : q_Tr l g mX5_placeOf 4 (q_pv (.int (zi (f_plc c))) n P X Y) 2 [(0, .int (zi c)), (1, .int (zi 0))] [] n P X Y := by
  refine r_iload_n (i := 1) (pc' := 3) dX5_placeOf_2 rfl rfl (.tail _ (.head _)) ?_
  refine r_bipush (pc' := 5) dX5_placeOf_3 rfl (by decide) ?_
  refine r_icmp_ge (t := 26) (f := 8) dX5_placeOf_5 (by decide) rfl (by first | omega | assumption) (by first | omega | assumption) (fun h5 => ?_) (fun h5 => ?_)
  · exfalso; omega
  · refine r_ldcS (pc' := 10) rfl dX5_placeOf_8 rfl ?_
    refine r_iload_n (i := 1) (pc' := 11) dX5_placeOf_10 rfl rfl (.tail _ (.head _)) ?_
    refine q_callStr (As := [.int (zi 0)]) (rest := []) dX5_placeOf_11 lX5_88 rfl rfl (by decide) (Nat.le_of_ble_eq_true rfl) rfl (tJ0_charAt (j := 0) (by decide)) (fun v n' P' X' Y' h _ => ?_)
    obtain ⟨rfl, rfl, rfl, rfl, rfl⟩ := h
    change q_Tr _ _ _ _ _ _ _ (.int (zi 104) :: _) _ _ _ _
    refine r_iload_n (i := 0) (pc' := 15) dX5_placeOf_14 rfl rfl (.head _) ?_
    refine r_icmp_ne (t := 20) (f := 18) dX5_placeOf_15 (by decide) rfl (by first | omega | assumption) (by first | omega | assumption) (fun h15 => ?_) (fun h15 => ?_)
    · refine r_iinc (pc' := 23) dX5_placeOf_20 rfl rfl (.tail _ (.head _)) (.s1 (.here .nil) rfl rfl rfl) ?_
      refine r_goto (t := 2) dX5_placeOf_23 (by decide) ?_
      rw [show ((0 : Int) + 1) = 1 from by decide]
      exact pl1 hc (fun q => h15 (by omega))
    · refine r_iload_n (i := 1) (pc' := 19) dX5_placeOf_18 rfl rfl (.tail _ (.head _)) ?_
      refine r_ireturn dX5_placeOf_19 rfl ?_
      refine ⟨?_, rfl, rfl, rfl, rfl⟩
      unfold f_plc
      rw [if_pos (by omega)]
set_option maxHeartbeats 4000000 in
set_option maxRecDepth 100000 in
theorem tX5_placeOf {l : Launch} {g : q_G} {n : Nat} {P : q_P} {X : q_X} {Y : q_Y} {c : Int} (hc : q_in c) : q_Met l g mX5_placeOf 4 [.int (zi c)] n P X Y (q_pv (.int (zi (f_plc c))) n P X Y) := by
  refine q_enter (L := [(0, .int (zi c))]) (by decide) (Nat.le_of_ble_eq_true rfl) rfl ?_
  refine r_iconst (pc' := 1) dX5_placeOf_0 rfl ?_
  refine r_istore_n (i := 1) (pc' := 2) dX5_placeOf_1 rfl rfl rfl (.s1 .nil rfl rfl rfl) ?_
  exact pl0 hc
