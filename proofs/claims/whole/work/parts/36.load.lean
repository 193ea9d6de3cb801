theorem zi_nz_add (z a : Int) : zi (nz z + a) = zi (z + a) := by rw [← zi_add, zi_nz, zi_add]
theorem q_sum_snoc (f : Nat → Int) (k : Nat) : q_sum f 0 (k + 1) = q_sum f 0 k + f k := by rw [q_sum_add, q_sum_1, Nat.zero_add]
theorem q_sum_nn {f : Nat → Int} : ∀ (k a : Nat), (∀ i, a ≤ i → i < a + k → 0 ≤ f i) → 0 ≤ q_sum f a k
  | 0, _, _ => by simp [q_sum]
  | k + 1, a, h => by
    have h1 := h a (by omega) (by omega)
    have h2 := q_sum_nn k (a + 1) (fun i h3 h4 => h i (by omega) (by omega))
    rw [q_sum]; omega
theorem q_sum_le {f : Nat → Int} : ∀ (k a j : Nat), (∀ i, a ≤ i → i < a + k → 0 ≤ f i) → a ≤ j → j < a + k → f j ≤ q_sum f a k
  | 0, _, _, _, _, _ => by omega
  | k + 1, a, j, h, h1, h2 => by
    have h0 := h a (by omega) (by omega)
    have hr := q_sum_nn k (a + 1) (fun i h3 h4 => h i (by omega) (by omega))
    rw [q_sum]
    by_cases e : j = a
    · rw [e]; omega
    · have := q_sum_le k (a + 1) j (fun i h3 h4 => h i (by omega) (by omega)) (by omega) (by omega)
      omega
theorem q_sum_ub {f : Nat → Int} {B : Int} : ∀ (k a : Nat), (∀ i, a ≤ i → i < a + k → f i ≤ B) → q_sum f a k ≤ k * B
  | 0, _, _ => by simp [q_sum]
  | k + 1, a, h => by
    have h1 := h a (by omega) (by omega)
    have h2 := q_sum_ub k (a + 1) (fun i h3 h4 => h i (by omega) (by omega))
    rw [q_sum]
    have : ((k + 1 : Nat) : Int) * B = k * B + B := by rw [Int.natCast_add, Int.add_mul]; simp
    omega
theorem c_parts_b {X : q_X} {c : Nat} (h : cOk X c) (y : Int) : 0 ≤ c_parts X c y ∧ c_parts X c y ≤ 2099979 := by
  unfold c_parts; split
  · have hj := h.2.2.2.2.1
    have h1 := hj (y - xv X c 0).toNat (by omega)
    have h2 := q_sum_le (f := xv X (c + 3)) 10 0 (y - xv X c 0).toNat (fun i _ hi => (hj i (by omega)).2.2.2.2.1) (by omega) (by omega)
    have h3 := q_sum_nn (f := xv X (c + 1)) 10 0 (fun i _ hi => (hj i (by omega)).1)
    have h4 := h.2.2.2.2.2.1
    have h5 := h.2.1
    omega
  · omega
theorem c_roster_b {X : q_X} {c : Nat} (h : cOk X c) (y : Int) : 0 ≤ c_roster X c y ∧ c_roster X c y ≤ 99999 := by
  unfold c_roster; split
  · have := h.2.2.2.2.1 (y - xv X c 0).toNat (by omega); omega
  · omega
theorem c_hit_b {X : q_X} {c : Nat} (h : cOk X c) (y : Int) : 0 ≤ c_hit X c y ∧ c_hit X c y ≤ 2299977 ∧ c_parts X c y ≤ c_hit X c y := by
  have h1 := c_base_b h y
  have h2 := c_roster_b h y
  have h3 := c_parts_b h y
  unfold c_hit; omega
/-- what is promised to contract k, likely, for the year that is now -/
def t_lik (X : q_X) (b : Nat) (k : Int) (m : Nat) : Int := q_sum (fun j => if ¬ xv X (b + 8) j = 0 ∧ xv X (b + 5) j = k ∧ xv X (b + 6) j = xv X b 0 then xv X (b + 7) j else 0) 0 m
def t_lp (X : q_X) (b m : Nat) : q_X := fun a q => if a = 456 ∧ q < 40 then zi (xv X 456 q + t_lik X b q m) else X a q
theorem t_lp_0 (X : q_X) (b : Nat) : t_lp X b 0 = X := by
  funext a q; simp only [t_lp, t_lik, q_sum]; split
  · rename_i h; rw [h.1, Int.add_zero, zi_xv]
  · rfl
theorem t_lp_o (X : q_X) (b m : Nat) {a : Nat} (h : a ≠ 456) : xv (t_lp X b m) a = xv X a := by funext q; simp only [xv, t_lp]; rw [if_neg (by omega)]
theorem t_lp_y (X : q_X) (b m : Nat) {k : Nat} (hk : k < 40) (h : ¬ xv X (b + 8) m = 0 ∧ xv X (b + 5) m = (k : Int) ∧ xv X (b + 6) m = xv X b 0) : q_up (t_lp X b m) 456 k (zi (xv (t_lp X b m) 456 k + xv X (b + 7) m)) = t_lp X b (m + 1) := by
  funext a q
  by_cases e : a = 456 ∧ q = k
  · rw [e.1, e.2, q_up_same]
    have e1 : xv (t_lp X b m) 456 k = nz (xv X 456 k + t_lik X b k m) := by simp only [xv, t_lp]; rw [if_pos ⟨trivial, hk⟩]; rfl
    rw [e1, zi_nz_add]
    simp only [t_lp]
    rw [if_pos ⟨trivial, hk⟩]
    congr 1
    simp only [t_lik, q_sum_snoc]
    rw [if_pos h]; omega
  · rw [q_up_ne _ _ e]
    simp only [t_lp]
    by_cases e2 : a = 456 ∧ q < 40
    · rw [if_pos e2, if_pos e2]
      congr 1
      simp only [t_lik, q_sum_snoc]
      rw [if_neg (by omega)]; omega
    · rw [if_neg e2, if_neg e2]
theorem t_lp_n (X : q_X) (b m : Nat) (h : ¬ (¬ xv X (b + 8) m = 0 ∧ xv X (b + 6) m = xv X b 0)) : t_lp X b m = t_lp X b (m + 1) := by
  funext a q
  simp only [t_lp]
  split
  · congr 1
    simp only [t_lik, q_sum_snoc]
    rw [if_neg (by omega)]; omega
  · rfl
set_option maxHeartbeats 4000000 in
set_option maxRecDepth 100000 in
theorem lX10_loadPromises {l : Launch} {g : q_G} {n : Nat} {P : q_P} {X : q_X} {Y : q_Y} {b : Nat} (hb : isBk n P b) (hO : bOk X b) (ht : isTal n P) (hap : bApart b) : ∀ (w i : Nat), i + w = (xv X (b + 4) 0).toNat → q_Tr l g mX10_loadPromises 0 (q_gv (fun n' P' X' Y' => n' = n ∧ P' = P ∧ Y' = Y ∧ X' = t_lp X b (xv X (b + 4) 0).toNat)) 2 [(0, .ref (g.1 + 453)), (1, .ref (g.1 + (b + 4))), (2, .int (zi (xv X b 0))), (3, .int (zi (i : Int)))] [] n P (t_lp X b i) Y := by
  obtain ⟨b0, b1, b2, b3, q7, q8, q9, q11, q12, q13, hn, hpro, hmar, hfor, hcs⟩ := id hb
  obtain ⟨o0, o1, o2, o3, o4, o5, o6, o10, oc, op0, opz, opi, om0, omi, olim⟩ := id hO
  obtain ⟨t0, t1, t2, t3, t4, hnt⟩ := id ht
  obtain ⟨c0, c1, c2, c3, c4, c5, v1, v2, v3, v4, v5, hnp⟩ := isBk.pro hpro
  have hapx := id hap
  unfold bApart at hapx
  have hrow : ∀ i d, d < 220 → xv (t_lp X b i) (b + d) = xv X (b + d) := fun i d hd => t_lp_o X b i (by omega)
  intro w
  induction w with
  | zero =>
    intro i hk
    refine r_iload_n (i := 3) (pc' := 3) dX10_loadPromises_2 rfl rfl (.tail _ (.tail _ (.tail _ (.head _)))) ?_
    refine r_aload_n (i := 1) (pc' := 4) dX10_loadPromises_3 rfl rfl (.tail _ (.head _)) ?_
    refine r_getI (pc' := 7) dX10_loadPromises_4 rfl fX10_65 rfl (by first | assumption | rfl) (by omega) ?_
    rw [hrow i 4 (by omega)]
    refine r_icmp_ge (t := 71) (f := 10) dX10_loadPromises_7 (by decide) rfl (by first | omega | exact xv_in _ _ _) (by first | omega | exact xv_in _ _ _) (fun h7 => ?_) (fun h7 => ?_)
    · refine r_return dX10_loadPromises_71 rfl ?_
      exact ⟨rfl, rfl, rfl, rfl, by rw [show i = (xv X (b + 4) 0).toNat by omega]⟩
    · exfalso; omega
  | succ w ih =>
    intro i hk
    have hpi := opi i (by omega)
    refine r_iload_n (i := 3) (pc' := 3) dX10_loadPromises_2 rfl rfl (.tail _ (.tail _ (.tail _ (.head _)))) ?_
    refine r_aload_n (i := 1) (pc' := 4) dX10_loadPromises_3 rfl rfl (.tail _ (.head _)) ?_
    refine r_getI (pc' := 7) dX10_loadPromises_4 rfl fX10_65 rfl (by first | assumption | rfl) (by omega) ?_
    rw [hrow i 4 (by omega)]
    refine r_icmp_ge (t := 71) (f := 10) dX10_loadPromises_7 (by decide) rfl (by first | omega | exact xv_in _ _ _) (by first | omega | exact xv_in _ _ _) (fun h7 => ?_) (fun h7 => ?_)
    · exfalso; omega
    · refine r_aload_n (i := 1) (pc' := 11) dX10_loadPromises_10 rfl rfl (.tail _ (.head _)) ?_
      refine r_getR (pc' := 14) dX10_loadPromises_11 rfl fX10_68 rfl (by first | assumption | rfl) (by omega) (by assumption) ?_
      refine r_iload_n (i := 3) (pc' := 15) dX10_loadPromises_14 rfl rfl (.tail _ (.tail _ (.tail _ (.head _)))) ?_
      refine r_iaload (pc' := 16) dX10_loadPromises_15 rfl (by first | assumption | rfl) (by omega) (by omega) (by omega) (by first | decide | omega) (Int.toNat_natCast _) ?_
      rw [hrow i 5 (by omega)]
      refine r_istore (pc' := 18) dX10_loadPromises_16 rfl rfl (.s1 (.s1 (.s1 (.s1 .nil rfl rfl rfl) rfl rfl rfl) rfl rfl rfl) rfl rfl rfl) ?_
      refine r_aload_n (i := 1) (pc' := 19) dX10_loadPromises_18 rfl rfl (.tail _ (.head _)) ?_
      refine r_getR (pc' := 22) dX10_loadPromises_19 rfl fX10_71 rfl (by first | assumption | rfl) (by omega) (by assumption) ?_
      refine r_iload_n (i := 3) (pc' := 23) dX10_loadPromises_22 rfl rfl (.tail _ (.tail _ (.tail _ (.head _)))) ?_
      refine r_zaload (pc' := 24) dX10_loadPromises_23 rfl (by first | assumption | rfl) (by omega) (by omega) (by omega) (by first | decide | omega) (Int.toNat_natCast _) ?_
      rw [hrow i 8 (by omega)]
      refine r_if_eq (t := 65) (f := 27) dX10_loadPromises_24 (by decide) rfl (by first | omega | exact xv_in _ _ _) (fun h24 => ?_) (fun h24 => ?_)
      · refine r_iinc (pc' := 68) dX10_loadPromises_65 rfl rfl (.tail _ (.tail _ (.tail _ (.head _)))) (.s1 (.s1 (.s1 (.here (.s1 .nil rfl rfl rfl)) rfl rfl rfl) rfl rfl rfl) rfl rfl rfl) ?_
        refine r_goto (t := 2) dX10_loadPromises_68 (by decide) ?_
        refine r_sub (.kp (.kp (.kp (.kp (.dr .nil))))) ?_
        first
          | (refine r_eqX (t_lp_y X b i (k := (xv X (b + 5) i).toNat) (by omega) ⟨by omega, by omega, by omega⟩) ?_
             exact ih (i + 1) (by omega))
          | (refine r_eqX (t_lp_n X b i (by omega)) ?_
             exact ih (i + 1) (by omega))
      · refine r_aload_n (i := 1) (pc' := 28) dX10_loadPromises_27 rfl rfl (.tail _ (.head _)) ?_
        refine r_getR (pc' := 31) dX10_loadPromises_28 rfl fX10_73 rfl (by first | assumption | rfl) (by omega) (by assumption) ?_
        refine r_iload_n (i := 3) (pc' := 32) dX10_loadPromises_31 rfl rfl (.tail _ (.tail _ (.tail _ (.head _)))) ?_
        refine r_iaload (pc' := 33) dX10_loadPromises_32 rfl (by first | assumption | rfl) (by omega) (by omega) (by omega) (by first | decide | omega) (Int.toNat_natCast _) ?_
        rw [hrow i 6 (by omega)]
        refine r_iload_n (i := 2) (pc' := 34) dX10_loadPromises_33 rfl rfl (.tail _ (.tail _ (.head _))) ?_
        refine r_icmp_ne (t := 65) (f := 37) dX10_loadPromises_34 (by decide) rfl (by first | omega | exact xv_in _ _ _) (by first | omega | exact xv_in _ _ _) (fun h34 => ?_) (fun h34 => ?_)
        · refine r_iinc (pc' := 68) dX10_loadPromises_65 rfl rfl (.tail _ (.tail _ (.tail _ (.head _)))) (.s1 (.s1 (.s1 (.here (.s1 .nil rfl rfl rfl)) rfl rfl rfl) rfl rfl rfl) rfl rfl rfl) ?_
          refine r_goto (t := 2) dX10_loadPromises_68 (by decide) ?_
          refine r_sub (.kp (.kp (.kp (.kp (.dr .nil))))) ?_
          first
            | (refine r_eqX (t_lp_y X b i (k := (xv X (b + 5) i).toNat) (by omega) ⟨by omega, by omega, by omega⟩) ?_
               exact ih (i + 1) (by omega))
            | (refine r_eqX (t_lp_n X b i (by omega)) ?_
               exact ih (i + 1) (by omega))
        · refine r_iload (pc' := 39) dX10_loadPromises_37 rfl (.tail _ (.tail _ (.tail _ (.tail _ (.head _))))) ?_
          refine r_if_lt (t := 65) (f := 42) dX10_loadPromises_39 (by decide) rfl (by first | omega | exact xv_in _ _ _) (fun h39 => ?_) (fun h39 => ?_)
          · exfalso; omega
          · refine r_iload (pc' := 44) dX10_loadPromises_42 rfl (.tail _ (.tail _ (.tail _ (.tail _ (.head _))))) ?_
            refine r_bipush (pc' := 46) dX10_loadPromises_44 rfl (by decide) ?_
            refine r_icmp_ge (t := 65) (f := 49) dX10_loadPromises_46 (by decide) rfl (by first | omega | exact xv_in _ _ _) (by first | omega | exact xv_in _ _ _) (fun h46 => ?_) (fun h46 => ?_)
            · exfalso; omega
            · refine r_aload_n (i := 0) (pc' := 50) dX10_loadPromises_49 rfl rfl (.head _) ?_
              refine r_getR (pc' := 53) dX10_loadPromises_50 rfl fX10_18 rfl (by first | assumption | rfl) (by omega) (by assumption) ?_
              refine r_iload (pc' := 55) dX10_loadPromises_53 rfl (.tail _ (.tail _ (.tail _ (.tail _ (.head _))))) ?_
              refine r_dup2 (pc' := 56) dX10_loadPromises_55 rfl rfl rfl ?_
              refine r_iaload (pc' := 57) dX10_loadPromises_56 rfl (by first | assumption | rfl) (by omega) (by omega) (by omega) (by first | decide | omega) rfl ?_
              refine r_aload_n (i := 1) (pc' := 58) dX10_loadPromises_57 rfl rfl (.tail _ (.head _)) ?_
              refine r_getR (pc' := 61) dX10_loadPromises_58 rfl fX10_75 rfl (by first | assumption | rfl) (by omega) (by assumption) ?_
              refine r_iload_n (i := 3) (pc' := 62) dX10_loadPromises_61 rfl rfl (.tail _ (.tail _ (.tail _ (.head _)))) ?_
              refine r_iaload (pc' := 63) dX10_loadPromises_62 rfl (by first | assumption | rfl) (by omega) (by omega) (by omega) (by first | decide | omega) (Int.toNat_natCast _) ?_
              rw [hrow i 7 (by omega)]
              refine r_iadd (pc' := 64) dX10_loadPromises_63 rfl ?_
              refine r_iastore (pc' := 65) dX10_loadPromises_64 rfl (by first | assumption | rfl) (by omega) (by omega) (by omega) (by first | decide | omega) rfl ?_
              refine r_iinc (pc' := 68) dX10_loadPromises_65 rfl rfl (.tail _ (.tail _ (.tail _ (.head _)))) (.s1 (.s1 (.s1 (.here (.s1 .nil rfl rfl rfl)) rfl rfl rfl) rfl rfl rfl) rfl rfl rfl) ?_
              refine r_goto (t := 2) dX10_loadPromises_68 (by decide) ?_
              refine r_sub (.kp (.kp (.kp (.kp (.dr .nil))))) ?_
              first
                | (refine r_eqX (t_lp_y X b i (k := (xv X (b + 5) i).toNat) (by omega) ⟨by omega, by omega, by omega⟩) ?_
                   exact ih (i + 1) (by omega))
                | (refine r_eqX (t_lp_n X b i (by omega)) ?_
                   exact ih (i + 1) (by omega))
set_option maxHeartbeats 4000000 in
set_option maxRecDepth 100000 in
theorem tX10_loadPromises {l : Launch} {g : q_G} {n : Nat} {P : q_P} {X : q_X} {Y : q_Y} {b : Nat} (hb : isBk n P b) (hO : bOk X b) (ht : isTal n P) (hap : bApart b) : q_Met l g mX10_loadPromises 0 [.ref (g.1 + 453), .ref (g.1 + (b + 4)), .int (zi (xv X b 0))] n P X Y (q_gv (fun n' P' X' Y' => n' = n ∧ P' = P ∧ Y' = Y ∧ X' = t_lp X b (xv X (b + 4) 0).toNat)) := by
  obtain ⟨b0, b1, b2, b3, q7, q8, q9, q11, q12, q13, hn, hpro, hmar, hfor, hcs⟩ := id hb
  obtain ⟨o0, o1, o2, o3, o4, o5, o6, o10, oc, op0, opz, opi, om0, omi, olim⟩ := id hO
  obtain ⟨t0, t1, t2, t3, t4, hnt⟩ := id ht
  obtain ⟨c0, c1, c2, c3, c4, c5, v1, v2, v3, v4, v5, hnp⟩ := isBk.pro hpro
  have hapx := id hap
  unfold bApart at hapx
  refine q_enter (L := [(0, .ref (g.1 + 453)), (1, .ref (g.1 + (b + 4))), (2, .int (zi (xv X b 0)))]) (by decide) (Nat.le_of_ble_eq_true rfl) rfl ?_
  refine r_iconst (pc' := 1) dX10_loadPromises_0 rfl ?_
  refine r_istore_n (i := 3) (pc' := 2) dX10_loadPromises_1 rfl rfl rfl (.s1 (.s1 (.s1 .nil rfl rfl rfl) rfl rfl rfl) rfl rfl rfl) ?_
  refine r_eqX (t_lp_0 X b).symm ?_
  exact lX10_loadPromises hb hO ht hap (xv X (b + 4) 0).toNat 0 (by omega)
/-! load -/
def tld (X : q_X) (b : Nat) : Nat → q_X
  | 0 => q_up X 453 5 (zi 0)
  | k + 1 => if xv X (con b k) 4 = 0 then q_up (q_up (q_up (q_up (q_up (q_up (tld X b k) 454 k (zi (c_hit X (con b k) (xv X b 0)))) 455 k (zi (c_parts X (con b k) (xv X b 0)))) 456 k (zi 0)) 457 k (zi 0)) 458 (xv (tld X b k) 453 5).toNat (zi k)) 453 5 (zi (xv (tld X b k) 453 5 + 1))
    else q_up (q_up (q_up (q_up (tld X b k) 454 k (zi (c_hit X (con b k) (xv X b 0)))) 455 k (zi (c_parts X (con b k) (xv X b 0)))) 456 k (zi 0)) 457 k (zi 0)
theorem tld_o (X : q_X) (b : Nat) {a : Nat} (h : a < 453 ∨ 458 < a) : ∀ k, tld X b k a = X a
  | 0 => by funext q; rw [tld, q_up_ne _ _ (by omega)]
  | k + 1 => by
    have ih := tld_o X b h k
    funext q
    rw [tld]
    split
    · rw [q_up_ne _ _ (by omega), q_up_ne _ _ (by omega), q_up_ne _ _ (by omega), q_up_ne _ _ (by omega), q_up_ne _ _ (by omega), q_up_ne _ _ (by omega), ih]
    · rw [q_up_ne _ _ (by omega), q_up_ne _ _ (by omega), q_up_ne _ _ (by omega), q_up_ne _ _ (by omega), ih]
def tldI (X X' : q_X) (b k : Nat) : Prop := (0 ≤ xv X' 453 5 ∧ xv X' 453 5 ≤ k) ∧ (∀ i, i < k → xv X' 454 i = c_hit X (con b i) (xv X b 0) ∧ xv X' 455 i = c_parts X (con b i) (xv X b 0) ∧ xv X' 456 i = 0 ∧ xv X' 457 i = 0) ∧ (∀ F : Int → Int, q_sum (fun j => F (xv X' 458 j)) 0 (xv X' 453 5).toNat = q_sum (fun i => if xv X (con b i) 4 = 0 then F i else 0) 0 k) ∧ ∀ i : Nat, (i : Int) < xv X' 453 5 → 0 ≤ xv X' 458 i ∧ xv X' 458 i < k
theorem tld_inv {X : q_X} {b : Nat} (hc : ∀ k : Nat, (k : Int) < xv X b 10 → cOk X (con b k)) : ∀ k : Nat, (k : Int) ≤ xv X b 10 → k ≤ 40 → tldI X (tld X b k) b k
  | 0, _, _ => by
    have e : xv (tld X b 0) 453 5 = 0 := by rw [tld, xv_up_same _ _ _ (by omega)]
    refine ⟨by rw [e]; omega, fun i hi => by omega, fun F => by rw [e]; rfl, fun i hi => by rw [e] at hi; omega⟩
  | k + 1, hk, h40 => by
    obtain ⟨h1, h2, h3, h4⟩ := tld_inv hc k (by omega) (by omega)
    have hh := c_hit_b (hc k (by omega)) (xv X b 0)
    have hp := c_parts_b (hc k (by omega)) (xv X b 0)
    generalize hX : tld X b k = X1 at *
    rw [tld, hX]
    split
    · rename_i ho
      have e5 : ∀ (A : q_X) (v : Int), q_in v → xv (q_up A 453 5 (zi v)) 453 5 = v := fun A v hv => xv_up_same _ _ _ hv
      refine ⟨?_, fun i hi => ?_, fun F => ?_, fun i hi => ?_⟩
      · rw [e5 _ _ (by omega)]; omega
      · by_cases e : i = k
        · subst e
          refine ⟨?_, ?_, ?_, ?_⟩
          · simp (disch := omega) only [xv_up_ne]; exact xv_up_same _ _ _ (by omega)
          · simp (disch := omega) only [xv_up_ne]; exact xv_up_same _ _ _ (by omega)
          · simp (disch := omega) only [xv_up_ne]; exact xv_up_same _ _ _ (by omega)
          · simp (disch := omega) only [xv_up_ne]; exact xv_up_same _ _ _ (by omega)
        · simp (disch := omega) only [xv_up_ne]; exact h2 i (by omega)
      · rw [e5 _ _ (by omega), show (xv X1 453 5 + 1).toNat = (xv X1 453 5).toNat + 1 by omega, q_sum_snoc, q_sum_snoc, if_pos ho]
        have e6 : xv (q_up (q_up (q_up (q_up (q_up (q_up X1 454 k (zi (c_hit X (con b k) (xv X b 0)))) 455 k (zi (c_parts X (con b k) (xv X b 0)))) 456 k (zi 0)) 457 k (zi 0)) 458 (xv X1 453 5).toNat (zi k)) 453 5 (zi (xv X1 453 5 + 1))) 458 (xv X1 453 5).toNat = (k : Int) := by
          rw [xv_up_ne _ _ (by omega)]; exact xv_up_same _ _ _ (by omega)
        rw [e6, ← h3 F]
        congr 1
        exact q_sum_congr _ _ (fun i _ hi => by simp (disch := omega) only [xv_up_ne])
      · rw [e5 _ _ (by omega)] at hi
        by_cases e : i = (xv X1 453 5).toNat
        · rw [e, xv_up_ne _ _ (by omega), xv_up_same _ _ _ (by omega)]; omega
        · simp (disch := omega) only [xv_up_ne]
          have := h4 i (by omega)
          omega
    · rename_i ho
      have e5 : xv (q_up (q_up (q_up (q_up X1 454 k (zi (c_hit X (con b k) (xv X b 0)))) 455 k (zi (c_parts X (con b k) (xv X b 0)))) 456 k (zi 0)) 457 k (zi 0)) 453 5 = xv X1 453 5 := by simp (disch := omega) only [xv_up_ne]
      refine ⟨?_, fun i hi => ?_, fun F => ?_, fun i hi => ?_⟩
      · rw [e5]; omega
      · by_cases e : i = k
        · subst e
          refine ⟨?_, ?_, ?_, ?_⟩
          · simp (disch := omega) only [xv_up_ne]; exact xv_up_same _ _ _ (by omega)
          · simp (disch := omega) only [xv_up_ne]; exact xv_up_same _ _ _ (by omega)
          · simp (disch := omega) only [xv_up_ne]; exact xv_up_same _ _ _ (by omega)
          · exact xv_up_same _ _ _ (by omega)
        · simp (disch := omega) only [xv_up_ne]; exact h2 i (by omega)
      · rw [e5, q_sum_snoc, if_neg ho, Int.add_zero, ← h3 F]
        exact q_sum_congr _ _ (fun i _ hi => by simp (disch := omega) only [xv_up_ne])
      · rw [e5] at hi
        simp (disch := omega) only [xv_up_ne]
        have := h4 i hi
        omega
/-- the tally is loaded with the books b -/
def TL (X : q_X) (b : Nat) : Prop := tOk X ∧ (∀ k : Nat, (k : Int) < xv X b 10 → xv X 454 k = c_hit X (con b k) (xv X b 0) ∧ xv X 455 k = c_parts X (con b k) (xv X b 0) ∧ xv X 456 k = t_lik X b k (xv X (b + 4) 0).toNat ∧ xv X 457 k = 0) ∧ (∀ F : Int → Int, q_sum (fun j => F (xv X 458 j)) 0 (xv X 453 5).toNat = q_sum (fun i => if xv X (con b i) 4 = 0 then F i else 0) 0 (xv X b 10).toNat) ∧ ∀ p q : Nat, p < q → (q : Int) < xv X 453 5 → ¬ t_ahead X (xv X 458 q) (xv X 458 p)
def tOut (X X' : q_X) : Prop := ∀ a, a < 453 ∨ 466 < a → X' a = X a
theorem tOut.b {X X' : q_X} {b : Nat} (h : tOut X X') (hb : bApart b) : ∀ d, d < 220 → xv X' (b + d) = xv X (b + d) := fun d hd => by
  unfold bApart at hb
  funext q; simp only [xv, h (b + d) (by omega)]
theorem tOut.ag {X X' : q_X} {b : Nat} (h : tOut X X') (hb : bApart b) : bAg X X' b := fun d hd _ => h.b hb d hd
theorem tOut.trans {X X' X2 : q_X} (h : tOut X X') (h2 : tOut X' X2) : tOut X X2 := fun a ha => (h2 a ha).trans (h a ha)
