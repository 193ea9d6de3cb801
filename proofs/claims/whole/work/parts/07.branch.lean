section QB
variable {l : Launch} {g : q_G} {y : q_M} {d : Nat} {K : q_K} {pc pc' : Nat} {L L' : List (Nat × Value)} {S S' : List Value} {n : Nat} {P : q_P} {X : q_X} {Y : q_Y}
theorem q_br {C : Prop} {t f : Nat} (h : ∀ (p : Program) (e : Env) (R : Room) (s : State) (m : MethodId) (args : Array Value) (below : List Frame) (meth : Method) (c : Code) (H : Heap) (locs : List Loc) (ls : Array Slot) (cells slots : Nat) (Q : State → Prop) (N ns : Nat), q_C g y d N ns p R s m args meth c → lv_has ls y.2.2.1 L →
      (C → W p l e R s m args below meth c H locs cells slots Q (F0 m t ls S')) → (¬ C → W p l e R s m args below meth c H locs cells slots Q (F0 m f ls S')) → W p l e R s m args below meth c H locs cells slots Q (F0 m pc ls S))
    (kt : C → q_Tr l g y d K t L S' n P X Y) (kf : ¬ C → q_Tr l g y d K f L S' n P X Y) : q_Tr l g y d K pc L S n P X Y := by
  by_cases hC : C
  · exact q_same (fun p e R s m args below meth c H locs ls cells slots Q N ns hc _ hl w => h p e R s m args below meth c H locs ls cells slots Q N ns hc hl (fun _ => w) (fun h => absurd hC h)) (kt hC)
  · exact q_same (fun p e R s m args below meth c H locs ls cells slots Q N ns hc _ hl w => h p e R s m args below meth c H locs ls cells slots Q N ns hc hl (fun h => absurd h hC) (fun _ => w)) (kf hC)
theorem r_icmp_eq {a b : Int} {off : Int} {t f : Nat} (hd : decode y.2.1 pc = .ok (.if_icmp .eq off, 3)) (ht : (pc : Int) + off = (t : Int)) (hf : pc + 3 = f) (ha : q_in a) (hb : q_in b) (kt : a = b → q_Tr l g y d K t L S n P X Y) (kf : ¬ a = b → q_Tr l g y d K f L S n P X Y) : q_Tr l g y d K pc L (.int (zi b) :: .int (zi a) :: S) n P X Y := by
  subst hf
  have hi := zi_eq ha hb
  refine q_br (C := a = b) (t := t) (f := pc + 3) (fun p e R s m args below meth c H locs ls cells slots Q N ns hc hl w1 w2 => ?_) kt (fun h => kf (by omega))
  exact lv_icmp_eq hc.1 hc.2.1 hd ht (fun h => w1 (hi.mp h)) (fun h => w2 (fun q => h (hi.mpr q)))
theorem r_if_eq {a : Int} {off : Int} {t f : Nat} (hd : decode y.2.1 pc = .ok (.ifCond .eq off, 3)) (ht : (pc : Int) + off = (t : Int)) (hf : pc + 3 = f) (ha : q_in a) (kt : a = 0 → q_Tr l g y d K t L S n P X Y) (kf : ¬ a = 0 → q_Tr l g y d K f L S n P X Y) : q_Tr l g y d K pc L (.int (zi a) :: S) n P X Y := by
  subst hf
  have hb : q_in 0 := by omega
  have hi := zi_eq ha hb
  refine q_br (C := a = 0) (t := t) (f := pc + 3) (fun p e R s m args below meth c H locs ls cells slots Q N ns hc hl w1 w2 => ?_) kt (fun h => kf (by omega))
  exact lv_if_eq hc.1 hc.2.1 hd ht (fun h => w1 (hi.mp h)) (fun h => w2 (fun q => h (hi.mpr q)))
theorem r_raw_icmp_eq {a b : Int32} {off : Int} {t f : Nat} (hd : decode y.2.1 pc = .ok (.if_icmp .eq off, 3)) (ht : (pc : Int) + off = (t : Int)) (hf : pc + 3 = f) (kt : a = b → q_Tr l g y d K t L S n P X Y) (kf : ¬ (a = b) → q_Tr l g y d K f L S n P X Y) : q_Tr l g y d K pc L (.int b :: .int a :: S) n P X Y := by
  subst hf
  exact q_br (C := a = b) (t := t) (f := pc + 3) (fun p e R s m args below meth c H locs ls cells slots Q N ns hc hl w1 w2 => lv_icmp_eq hc.1 hc.2.1 hd ht w1 w2) kt kf
theorem r_raw_if_eq {a : Int32} {off : Int} {t f : Nat} (hd : decode y.2.1 pc = .ok (.ifCond .eq off, 3)) (ht : (pc : Int) + off = (t : Int)) (hf : pc + 3 = f) (kt : a = 0 → q_Tr l g y d K t L S n P X Y) (kf : ¬ (a = 0) → q_Tr l g y d K f L S n P X Y) : q_Tr l g y d K pc L (.int a :: S) n P X Y := by
  subst hf
  exact q_br (C := a = 0) (t := t) (f := pc + 3) (fun p e R s m args below meth c H locs ls cells slots Q N ns hc hl w1 w2 => lv_if_eq hc.1 hc.2.1 hd ht w1 w2) kt kf
theorem r_icmp_ne {a b : Int} {off : Int} {t f : Nat} (hd : decode y.2.1 pc = .ok (.if_icmp .ne off, 3)) (ht : (pc : Int) + off = (t : Int)) (hf : pc + 3 = f) (ha : q_in a) (hb : q_in b) (kt : ¬ a = b → q_Tr l g y d K t L S n P X Y) (kf : a = b → q_Tr l g y d K f L S n P X Y) : q_Tr l g y d K pc L (.int (zi b) :: .int (zi a) :: S) n P X Y := by
  subst hf
  have hi := not_congr (zi_eq ha hb)
  refine q_br (C := ¬ a = b) (t := t) (f := pc + 3) (fun p e R s m args below meth c H locs ls cells slots Q N ns hc hl w1 w2 => ?_) kt (fun h => kf (by omega))
  exact lv_icmp_ne hc.1 hc.2.1 hd ht (fun h => w1 (hi.mp h)) (fun h => w2 (fun q => (hi.mpr q) h))
theorem r_if_ne {a : Int} {off : Int} {t f : Nat} (hd : decode y.2.1 pc = .ok (.ifCond .ne off, 3)) (ht : (pc : Int) + off = (t : Int)) (hf : pc + 3 = f) (ha : q_in a) (kt : ¬ a = 0 → q_Tr l g y d K t L S n P X Y) (kf : a = 0 → q_Tr l g y d K f L S n P X Y) : q_Tr l g y d K pc L (.int (zi a) :: S) n P X Y := by
  subst hf
  have hb : q_in 0 := by omega
  have hi := not_congr (zi_eq ha hb)
  refine q_br (C := ¬ a = 0) (t := t) (f := pc + 3) (fun p e R s m args below meth c H locs ls cells slots Q N ns hc hl w1 w2 => ?_) kt (fun h => kf (by omega))
  exact lv_if_ne hc.1 hc.2.1 hd ht (fun h => w1 (hi.mp h)) (fun h => w2 (fun q => (hi.mpr q) h))
theorem r_raw_icmp_ne {a b : Int32} {off : Int} {t f : Nat} (hd : decode y.2.1 pc = .ok (.if_icmp .ne off, 3)) (ht : (pc : Int) + off = (t : Int)) (hf : pc + 3 = f) (kt : ¬ a = b → q_Tr l g y d K t L S n P X Y) (kf : ¬ (¬ a = b) → q_Tr l g y d K f L S n P X Y) : q_Tr l g y d K pc L (.int b :: .int a :: S) n P X Y := by
  subst hf
  exact q_br (C := ¬ a = b) (t := t) (f := pc + 3) (fun p e R s m args below meth c H locs ls cells slots Q N ns hc hl w1 w2 => lv_icmp_ne hc.1 hc.2.1 hd ht w1 (fun h => w2 (fun q => q h))) kt kf
theorem r_raw_if_ne {a : Int32} {off : Int} {t f : Nat} (hd : decode y.2.1 pc = .ok (.ifCond .ne off, 3)) (ht : (pc : Int) + off = (t : Int)) (hf : pc + 3 = f) (kt : ¬ a = 0 → q_Tr l g y d K t L S n P X Y) (kf : ¬ (¬ a = 0) → q_Tr l g y d K f L S n P X Y) : q_Tr l g y d K pc L (.int a :: S) n P X Y := by
  subst hf
  exact q_br (C := ¬ a = 0) (t := t) (f := pc + 3) (fun p e R s m args below meth c H locs ls cells slots Q N ns hc hl w1 w2 => lv_if_ne hc.1 hc.2.1 hd ht w1 (fun h => w2 (fun q => q h))) kt kf
theorem r_icmp_lt {a b : Int} {off : Int} {t f : Nat} (hd : decode y.2.1 pc = .ok (.if_icmp .lt off, 3)) (ht : (pc : Int) + off = (t : Int)) (hf : pc + 3 = f) (ha : q_in a) (hb : q_in b) (kt : a < b → q_Tr l g y d K t L S n P X Y) (kf : b ≤ a → q_Tr l g y d K f L S n P X Y) : q_Tr l g y d K pc L (.int (zi b) :: .int (zi a) :: S) n P X Y := by
  subst hf
  have hi := zi_lt ha hb
  refine q_br (C := a < b) (t := t) (f := pc + 3) (fun p e R s m args below meth c H locs ls cells slots Q N ns hc hl w1 w2 => ?_) kt (fun h => kf (by omega))
  exact lv_icmp_lt hc.1 hc.2.1 hd ht (fun h => w1 (hi.mp h)) (fun h => w2 (fun q => h (hi.mpr q)))
theorem r_if_lt {a : Int} {off : Int} {t f : Nat} (hd : decode y.2.1 pc = .ok (.ifCond .lt off, 3)) (ht : (pc : Int) + off = (t : Int)) (hf : pc + 3 = f) (ha : q_in a) (kt : a < 0 → q_Tr l g y d K t L S n P X Y) (kf : 0 ≤ a → q_Tr l g y d K f L S n P X Y) : q_Tr l g y d K pc L (.int (zi a) :: S) n P X Y := by
  subst hf
  have hb : q_in 0 := by omega
  have hi := zi_lt ha hb
  refine q_br (C := a < 0) (t := t) (f := pc + 3) (fun p e R s m args below meth c H locs ls cells slots Q N ns hc hl w1 w2 => ?_) kt (fun h => kf (by omega))
  exact lv_if_lt hc.1 hc.2.1 hd ht (fun h => w1 (hi.mp h)) (fun h => w2 (fun q => h (hi.mpr q)))
theorem r_raw_icmp_lt {a b : Int32} {off : Int} {t f : Nat} (hd : decode y.2.1 pc = .ok (.if_icmp .lt off, 3)) (ht : (pc : Int) + off = (t : Int)) (hf : pc + 3 = f) (kt : a < b → q_Tr l g y d K t L S n P X Y) (kf : ¬ (a < b) → q_Tr l g y d K f L S n P X Y) : q_Tr l g y d K pc L (.int b :: .int a :: S) n P X Y := by
  subst hf
  exact q_br (C := a < b) (t := t) (f := pc + 3) (fun p e R s m args below meth c H locs ls cells slots Q N ns hc hl w1 w2 => lv_icmp_lt hc.1 hc.2.1 hd ht w1 w2) kt kf
theorem r_raw_if_lt {a : Int32} {off : Int} {t f : Nat} (hd : decode y.2.1 pc = .ok (.ifCond .lt off, 3)) (ht : (pc : Int) + off = (t : Int)) (hf : pc + 3 = f) (kt : a < 0 → q_Tr l g y d K t L S n P X Y) (kf : ¬ (a < 0) → q_Tr l g y d K f L S n P X Y) : q_Tr l g y d K pc L (.int a :: S) n P X Y := by
  subst hf
  exact q_br (C := a < 0) (t := t) (f := pc + 3) (fun p e R s m args below meth c H locs ls cells slots Q N ns hc hl w1 w2 => lv_if_lt hc.1 hc.2.1 hd ht w1 w2) kt kf
theorem r_icmp_ge {a b : Int} {off : Int} {t f : Nat} (hd : decode y.2.1 pc = .ok (.if_icmp .ge off, 3)) (ht : (pc : Int) + off = (t : Int)) (hf : pc + 3 = f) (ha : q_in a) (hb : q_in b) (kt : b ≤ a → q_Tr l g y d K t L S n P X Y) (kf : a < b → q_Tr l g y d K f L S n P X Y) : q_Tr l g y d K pc L (.int (zi b) :: .int (zi a) :: S) n P X Y := by
  subst hf
  have hi := zi_le hb ha
  refine q_br (C := b ≤ a) (t := t) (f := pc + 3) (fun p e R s m args below meth c H locs ls cells slots Q N ns hc hl w1 w2 => ?_) kt (fun h => kf (by omega))
  exact lv_icmp_ge hc.1 hc.2.1 hd ht (fun h => w1 (hi.mp h)) (fun h => w2 (fun q => h (hi.mpr q)))
theorem r_if_ge {a : Int} {off : Int} {t f : Nat} (hd : decode y.2.1 pc = .ok (.ifCond .ge off, 3)) (ht : (pc : Int) + off = (t : Int)) (hf : pc + 3 = f) (ha : q_in a) (kt : 0 ≤ a → q_Tr l g y d K t L S n P X Y) (kf : a < 0 → q_Tr l g y d K f L S n P X Y) : q_Tr l g y d K pc L (.int (zi a) :: S) n P X Y := by
  subst hf
  have hb : q_in 0 := by omega
  have hi := zi_le hb ha
  refine q_br (C := 0 ≤ a) (t := t) (f := pc + 3) (fun p e R s m args below meth c H locs ls cells slots Q N ns hc hl w1 w2 => ?_) kt (fun h => kf (by omega))
  exact lv_if_ge hc.1 hc.2.1 hd ht (fun h => w1 (hi.mp h)) (fun h => w2 (fun q => h (hi.mpr q)))
theorem r_raw_icmp_ge {a b : Int32} {off : Int} {t f : Nat} (hd : decode y.2.1 pc = .ok (.if_icmp .ge off, 3)) (ht : (pc : Int) + off = (t : Int)) (hf : pc + 3 = f) (kt : a ≥ b → q_Tr l g y d K t L S n P X Y) (kf : ¬ (a ≥ b) → q_Tr l g y d K f L S n P X Y) : q_Tr l g y d K pc L (.int b :: .int a :: S) n P X Y := by
  subst hf
  exact q_br (C := a ≥ b) (t := t) (f := pc + 3) (fun p e R s m args below meth c H locs ls cells slots Q N ns hc hl w1 w2 => lv_icmp_ge hc.1 hc.2.1 hd ht w1 w2) kt kf
theorem r_raw_if_ge {a : Int32} {off : Int} {t f : Nat} (hd : decode y.2.1 pc = .ok (.ifCond .ge off, 3)) (ht : (pc : Int) + off = (t : Int)) (hf : pc + 3 = f) (kt : a ≥ 0 → q_Tr l g y d K t L S n P X Y) (kf : ¬ (a ≥ 0) → q_Tr l g y d K f L S n P X Y) : q_Tr l g y d K pc L (.int a :: S) n P X Y := by
  subst hf
  exact q_br (C := a ≥ 0) (t := t) (f := pc + 3) (fun p e R s m args below meth c H locs ls cells slots Q N ns hc hl w1 w2 => lv_if_ge hc.1 hc.2.1 hd ht w1 w2) kt kf
theorem r_icmp_gt {a b : Int} {off : Int} {t f : Nat} (hd : decode y.2.1 pc = .ok (.if_icmp .gt off, 3)) (ht : (pc : Int) + off = (t : Int)) (hf : pc + 3 = f) (ha : q_in a) (hb : q_in b) (kt : b < a → q_Tr l g y d K t L S n P X Y) (kf : a ≤ b → q_Tr l g y d K f L S n P X Y) : q_Tr l g y d K pc L (.int (zi b) :: .int (zi a) :: S) n P X Y := by
  subst hf
  have hi := zi_lt hb ha
  refine q_br (C := b < a) (t := t) (f := pc + 3) (fun p e R s m args below meth c H locs ls cells slots Q N ns hc hl w1 w2 => ?_) kt (fun h => kf (by omega))
  exact lv_icmp_gt hc.1 hc.2.1 hd ht (fun h => w1 (hi.mp h)) (fun h => w2 (fun q => h (hi.mpr q)))
theorem r_if_gt {a : Int} {off : Int} {t f : Nat} (hd : decode y.2.1 pc = .ok (.ifCond .gt off, 3)) (ht : (pc : Int) + off = (t : Int)) (hf : pc + 3 = f) (ha : q_in a) (kt : 0 < a → q_Tr l g y d K t L S n P X Y) (kf : a ≤ 0 → q_Tr l g y d K f L S n P X Y) : q_Tr l g y d K pc L (.int (zi a) :: S) n P X Y := by
  subst hf
  have hb : q_in 0 := by omega
  have hi := zi_lt hb ha
  refine q_br (C := 0 < a) (t := t) (f := pc + 3) (fun p e R s m args below meth c H locs ls cells slots Q N ns hc hl w1 w2 => ?_) kt (fun h => kf (by omega))
  exact lv_if_gt hc.1 hc.2.1 hd ht (fun h => w1 (hi.mp h)) (fun h => w2 (fun q => h (hi.mpr q)))
theorem r_raw_icmp_gt {a b : Int32} {off : Int} {t f : Nat} (hd : decode y.2.1 pc = .ok (.if_icmp .gt off, 3)) (ht : (pc : Int) + off = (t : Int)) (hf : pc + 3 = f) (kt : a > b → q_Tr l g y d K t L S n P X Y) (kf : ¬ (a > b) → q_Tr l g y d K f L S n P X Y) : q_Tr l g y d K pc L (.int b :: .int a :: S) n P X Y := by
  subst hf
  exact q_br (C := a > b) (t := t) (f := pc + 3) (fun p e R s m args below meth c H locs ls cells slots Q N ns hc hl w1 w2 => lv_icmp_gt hc.1 hc.2.1 hd ht w1 w2) kt kf
theorem r_raw_if_gt {a : Int32} {off : Int} {t f : Nat} (hd : decode y.2.1 pc = .ok (.ifCond .gt off, 3)) (ht : (pc : Int) + off = (t : Int)) (hf : pc + 3 = f) (kt : a > 0 → q_Tr l g y d K t L S n P X Y) (kf : ¬ (a > 0) → q_Tr l g y d K f L S n P X Y) : q_Tr l g y d K pc L (.int a :: S) n P X Y := by
  subst hf
  exact q_br (C := a > 0) (t := t) (f := pc + 3) (fun p e R s m args below meth c H locs ls cells slots Q N ns hc hl w1 w2 => lv_if_gt hc.1 hc.2.1 hd ht w1 w2) kt kf
theorem r_icmp_le {a b : Int} {off : Int} {t f : Nat} (hd : decode y.2.1 pc = .ok (.if_icmp .le off, 3)) (ht : (pc : Int) + off = (t : Int)) (hf : pc + 3 = f) (ha : q_in a) (hb : q_in b) (kt : a ≤ b → q_Tr l g y d K t L S n P X Y) (kf : b < a → q_Tr l g y d K f L S n P X Y) : q_Tr l g y d K pc L (.int (zi b) :: .int (zi a) :: S) n P X Y := by
  subst hf
  have hi := zi_le ha hb
  refine q_br (C := a ≤ b) (t := t) (f := pc + 3) (fun p e R s m args below meth c H locs ls cells slots Q N ns hc hl w1 w2 => ?_) kt (fun h => kf (by omega))
  exact lv_icmp_le hc.1 hc.2.1 hd ht (fun h => w1 (hi.mp h)) (fun h => w2 (fun q => h (hi.mpr q)))
theorem r_if_le {a : Int} {off : Int} {t f : Nat} (hd : decode y.2.1 pc = .ok (.ifCond .le off, 3)) (ht : (pc : Int) + off = (t : Int)) (hf : pc + 3 = f) (ha : q_in a) (kt : a ≤ 0 → q_Tr l g y d K t L S n P X Y) (kf : 0 < a → q_Tr l g y d K f L S n P X Y) : q_Tr l g y d K pc L (.int (zi a) :: S) n P X Y := by
  subst hf
  have hb : q_in 0 := by omega
  have hi := zi_le ha hb
  refine q_br (C := a ≤ 0) (t := t) (f := pc + 3) (fun p e R s m args below meth c H locs ls cells slots Q N ns hc hl w1 w2 => ?_) kt (fun h => kf (by omega))
  exact lv_if_le hc.1 hc.2.1 hd ht (fun h => w1 (hi.mp h)) (fun h => w2 (fun q => h (hi.mpr q)))
theorem r_raw_icmp_le {a b : Int32} {off : Int} {t f : Nat} (hd : decode y.2.1 pc = .ok (.if_icmp .le off, 3)) (ht : (pc : Int) + off = (t : Int)) (hf : pc + 3 = f) (kt : a ≤ b → q_Tr l g y d K t L S n P X Y) (kf : ¬ (a ≤ b) → q_Tr l g y d K f L S n P X Y) : q_Tr l g y d K pc L (.int b :: .int a :: S) n P X Y := by
  subst hf
  exact q_br (C := a ≤ b) (t := t) (f := pc + 3) (fun p e R s m args below meth c H locs ls cells slots Q N ns hc hl w1 w2 => lv_icmp_le hc.1 hc.2.1 hd ht w1 w2) kt kf
theorem r_raw_if_le {a : Int32} {off : Int} {t f : Nat} (hd : decode y.2.1 pc = .ok (.ifCond .le off, 3)) (ht : (pc : Int) + off = (t : Int)) (hf : pc + 3 = f) (kt : a ≤ 0 → q_Tr l g y d K t L S n P X Y) (kf : ¬ (a ≤ 0) → q_Tr l g y d K f L S n P X Y) : q_Tr l g y d K pc L (.int a :: S) n P X Y := by
  subst hf
  exact q_br (C := a ≤ 0) (t := t) (f := pc + 3) (fun p e R s m args below meth c H locs ls cells slots Q N ns hc hl w1 w2 => lv_if_le hc.1 hc.2.1 hd ht w1 w2) kt kf
theorem r_goto {off : Int} {t : Nat} (hd : decode y.2.1 pc = .ok (.goto off, 3)) (ht : (pc : Int) + off = (t : Int)) (k : q_Tr l g y d K t L S n P X Y) : q_Tr l g y d K pc L S n P X Y :=
  q_same (fun _ _ _ _ _ _ _ _ _ _ _ _ _ _ _ _ _ hc _ _ w => lv_goto hc.1 hc.2.1 hd ht w) k
theorem r_ifnull {x : Nat} {off : Int} (hd : decode y.2.1 pc = .ok (.ifnull off, 3)) (hp : pc + 3 = pc') (k : q_Tr l g y d K pc' L S n P X Y) : q_Tr l g y d K pc L (.ref x :: S) n P X Y := by
  subst hp; exact q_same (fun _ _ _ _ _ _ _ _ _ _ _ _ _ _ _ _ _ hc _ _ w => lv_ifnull hc.1 hc.2.1 hd w) k
theorem r_ifnullN {off : Int} {t : Nat} (hd : decode y.2.1 pc = .ok (.ifnull off, 3)) (ht : (pc : Int) + off = (t : Int)) (k : q_Tr l g y d K t L S n P X Y) : q_Tr l g y d K pc L (.null :: S) n P X Y :=
  q_same (fun _ _ _ _ _ _ _ _ _ _ _ _ _ _ _ _ _ hc _ _ w => lv_ifnullN hc.1 hc.2.1 hd ht w) k
theorem r_ifnonnull {x : Nat} {off : Int} {t : Nat} (hd : decode y.2.1 pc = .ok (.ifnonnull off, 3)) (ht : (pc : Int) + off = (t : Int)) (k : q_Tr l g y d K t L S n P X Y) : q_Tr l g y d K pc L (.ref x :: S) n P X Y :=
  q_same (fun _ _ _ _ _ _ _ _ _ _ _ _ _ _ _ _ _ hc _ _ w => lv_ifnonnull hc.1 hc.2.1 hd ht w) k
theorem r_ifnonnullN {off : Int} (hd : decode y.2.1 pc = .ok (.ifnonnull off, 3)) (hp : pc + 3 = pc') (k : q_Tr l g y d K pc' L S n P X Y) : q_Tr l g y d K pc L (.null :: S) n P X Y := by
  subst hp; exact q_same (fun _ _ _ _ _ _ _ _ _ _ _ _ _ _ _ _ _ hc _ _ w => lv_ifnonnullN hc.1 hc.2.1 hd w) k
theorem r_tout {a dflt lo hi : Int} {offs : Array Int} {len t : Nat} (hd : decode y.2.1 pc = .ok (.tableswitch dflt lo hi offs, len)) (ha : q_in a) (h : a < lo ∨ hi < a) (ht : (pc : Int) + dflt = (t : Int)) (k : q_Tr l g y d K t L S n P X Y) : q_Tr l g y d K pc L (.int (zi a) :: S) n P X Y :=
  q_same (fun _ _ _ _ _ _ _ _ _ _ _ _ _ _ _ _ _ hc _ _ w => lv_tableOut hc.1 hc.2.1 hd (by rw [zi_toInt ha]; exact h) ht w) k
theorem r_tin {a dflt lo hi off : Int} {offs : Array Int} {len t : Nat} (hd : decode y.2.1 pc = .ok (.tableswitch dflt lo hi offs, len)) (ha : q_in a) (h1 : ¬ a < lo) (h2 : ¬ hi < a) (ho : offs[(a - lo).toNat]? = some off) (ht : (pc : Int) + off = (t : Int)) (k : q_Tr l g y d K t L S n P X Y) : q_Tr l g y d K pc L (.int (zi a) :: S) n P X Y :=
  q_same (fun _ _ _ _ _ _ _ _ _ _ _ _ _ _ _ _ _ hc _ _ w => lv_tableIn hc.1 hc.2.1 hd (by rw [zi_toInt ha]; exact h1) (by rw [zi_toInt ha]; exact h2) (by rw [zi_toInt ha]; exact ho) ht w) k
theorem r_look {a dflt off : Int} {ps : Array (Int × Int)} {len t : Nat} (hd : decode y.2.1 pc = .ok (.lookupswitch dflt ps, len)) (hp : (ps.toList.zip (ps.toList.drop 1)).all (fun (a, next) => a.1 < next.1) = true) (ha : q_in a) (ho : Op.lookupswitch.offset ps.toList dflt a = off) (ht : (pc : Int) + off = (t : Int)) (k : q_Tr l g y d K t L S n P X Y) : q_Tr l g y d K pc L (.int (zi a) :: S) n P X Y :=
  q_same (fun _ _ _ _ _ _ _ _ _ _ _ _ _ _ _ _ _ hc _ _ w => lv_lookup hc.1 hc.2.1 hd hp (by rw [zi_toInt ha]; exact ho) ht w) k
end QB
