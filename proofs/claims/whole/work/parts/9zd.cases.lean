theorem J.n {n : Nat} {P : q_P} {X : q_X} (h : J n P X) : 481 ≤ n ∧ n ≤ 2681 := by
  obtain ⟨b, d, x, hS, _⟩ := h
  exact hS.M.n
theorem lg_cmp_self (a : Int64) : lg_cmp a a = 0 := by
  rw [lg_cmp_z, if_neg (by simp), if_pos rfl]; rfl
set_option maxHeartbeats 4000000 in
set_option maxRecDepth 100000 in
theorem cL_feed {l : Launch} {g : q_G} {n : Nat} {P : q_P} {X : q_X} {Y : q_Y} {K : q_K} {i : Nat} (hL : g.2.2.2.2.2.1 ≤ 3072) (hi : (i : Int) ≤ (g.2.2.2.2.2.1 : Int) - 6) (hJ : J n P X) (kk : ∀ n P X Y, J n P X → q_Tr l g mL_law 11 K 1710 [(0, .ref g.2.2.2.2.1), (1, .ref (g.1 + 0)), (2, .ref (g.1 + 467)), (3, .int (zi (i : Int)))] [] n P X Y) : q_Tr l g mL_law 11 K 268 [(0, .ref g.2.2.2.2.1), (1, .ref (g.1 + 0)), (2, .ref (g.1 + 467)), (3, .int (zi (i : Int)))] [] n P X Y := by
  have hn := hJ.n
  refine r_aload_n (i := 1) (pc' := 269) dL_law_268 rfl rfl (.tail _ (.head _)) ?_
  refine r_aload_n (i := 0) (pc' := 270) dL_law_269 rfl rfl (.head _) ?_
  refine r_iload_n (i := 3) (pc' := 271) dL_law_270 rfl rfl (.tail _ (.tail _ (.tail _ (.head _)))) ?_
  refine r_iconst (pc' := 272) dL_law_271 rfl ?_
  refine r_iadd (pc' := 273) dL_law_272 rfl ?_
  refine r_sld (pc' := 274) dL_law_273 rfl rfl (by omega) (by omega) (by omega) rfl ?_
  refine r_aload_n (i := 0) (pc' := 275) dL_law_274 rfl rfl (.head _) ?_
  refine r_iload_n (i := 3) (pc' := 276) dL_law_275 rfl rfl (.tail _ (.tail _ (.tail _ (.head _)))) ?_
  refine r_iconst (pc' := 277) dL_law_276 rfl ?_
  refine r_iadd (pc' := 278) dL_law_277 rfl ?_
  refine r_sld (pc' := 279) dL_law_278 rfl rfl (by omega) (by omega) (by omega) rfl ?_
  refine r_aload_n (i := 0) (pc' := 280) dL_law_279 rfl rfl (.head _) ?_
  refine r_iload_n (i := 3) (pc' := 281) dL_law_280 rfl rfl (.tail _ (.tail _ (.tail _ (.head _)))) ?_
  refine r_iconst (pc' := 282) dL_law_281 rfl ?_
  refine r_iadd (pc' := 283) dL_law_282 rfl ?_
  refine r_sld (pc' := 284) dL_law_283 rfl rfl (by omega) (by omega) (by omega) rfl ?_
  refine r_aload_n (i := 0) (pc' := 285) dL_law_284 rfl rfl (.head _) ?_
  refine r_iload_n (i := 3) (pc' := 286) dL_law_285 rfl rfl (.tail _ (.tail _ (.tail _ (.head _)))) ?_
  refine r_iconst (pc' := 287) dL_law_286 rfl ?_
  refine r_iadd (pc' := 288) dL_law_287 rfl ?_
  refine r_sld (pc' := 289) dL_law_288 rfl rfl (by omega) (by omega) (by omega) rfl ?_
  refine r_aload_n (i := 0) (pc' := 290) dL_law_289 rfl rfl (.head _) ?_
  refine r_iload_n (i := 3) (pc' := 291) dL_law_290 rfl rfl (.tail _ (.tail _ (.tail _ (.head _)))) ?_
  refine r_iconst (pc' := 292) dL_law_291 rfl ?_
  refine r_iadd (pc' := 293) dL_law_292 rfl ?_
  refine r_sld (pc' := 294) dL_law_293 rfl rfl (by omega) (by omega) (by omega) rfl ?_
  refine r_V5gi (ci := 11) (pc' := 297) dL_law_294 rfl lL_13 rfl (by decide) (Nat.le_of_ble_eq_true rfl) (by first | assumption | rfl) (by omega) (j_feed hJ) (fun r294 n294 P294 X294 Y294 e294 le294 => ?_)
  refine r_aload_n (i := 2) (pc' := 298) dL_law_297 rfl rfl (.tail _ (.tail _ (.head _))) ?_
  refine r_aload_n (i := 0) (pc' := 299) dL_law_298 rfl rfl (.head _) ?_
  refine r_iload_n (i := 3) (pc' := 300) dL_law_299 rfl rfl (.tail _ (.tail _ (.tail _ (.head _)))) ?_
  refine r_iconst (pc' := 301) dL_law_300 rfl ?_
  refine r_iadd (pc' := 302) dL_law_301 rfl ?_
  refine r_sld (pc' := 303) dL_law_302 rfl rfl (by omega) (by omega) (by omega) rfl ?_
  refine r_aload_n (i := 0) (pc' := 304) dL_law_303 rfl rfl (.head _) ?_
  refine r_iload_n (i := 3) (pc' := 305) dL_law_304 rfl rfl (.tail _ (.tail _ (.tail _ (.head _)))) ?_
  refine r_iconst (pc' := 306) dL_law_305 rfl ?_
  refine r_iadd (pc' := 307) dL_law_306 rfl ?_
  refine r_sld (pc' := 308) dL_law_307 rfl rfl (by omega) (by omega) (by omega) rfl ?_
  refine r_aload_n (i := 0) (pc' := 309) dL_law_308 rfl rfl (.head _) ?_
  refine r_iload_n (i := 3) (pc' := 310) dL_law_309 rfl rfl (.tail _ (.tail _ (.tail _ (.head _)))) ?_
  refine r_iconst (pc' := 311) dL_law_310 rfl ?_
  refine r_iadd (pc' := 312) dL_law_311 rfl ?_
  refine r_sld (pc' := 313) dL_law_312 rfl rfl (by omega) (by omega) (by omega) rfl ?_
  refine r_aload_n (i := 0) (pc' := 314) dL_law_313 rfl rfl (.head _) ?_
  refine r_iload_n (i := 3) (pc' := 315) dL_law_314 rfl rfl (.tail _ (.tail _ (.tail _ (.head _)))) ?_
  refine r_iconst (pc' := 316) dL_law_315 rfl ?_
  refine r_iadd (pc' := 317) dL_law_316 rfl ?_
  refine r_sld (pc' := 318) dL_law_317 rfl rfl (by omega) (by omega) (by omega) rfl ?_
  refine r_aload_n (i := 0) (pc' := 319) dL_law_318 rfl rfl (.head _) ?_
  refine r_iload_n (i := 3) (pc' := 320) dL_law_319 rfl rfl (.tail _ (.tail _ (.tail _ (.head _)))) ?_
  refine r_iconst (pc' := 321) dL_law_320 rfl ?_
  refine r_iadd (pc' := 322) dL_law_321 rfl ?_
  refine r_sld (pc' := 323) dL_law_322 rfl rfl (by omega) (by omega) (by omega) rfl ?_
  refine r_V5gi (ci := 12) (pc' := 326) dL_law_323 rfl lL_17 rfl (by decide) (Nat.le_of_ble_eq_true rfl) (by first | assumption | rfl) (by omega) e294 (fun r323 n323 P323 X323 Y323 e323 le323 => ?_)
  obtain ⟨hz, hJ2⟩ := e323
  refine r_raw_icmp_eq (t := 1710) (f := 329) dL_law_326 (by decide) rfl (fun h326 => ?_) (fun h326 => ?_)
  · exact kk _ _ _ _ hJ2
  · exact absurd hz.symm h326
set_option maxHeartbeats 4000000 in
set_option maxRecDepth 100000 in
theorem cL_end {l : Launch} {g : q_G} {n : Nat} {P : q_P} {X : q_X} {Y : q_Y} {K : q_K} {i : Nat} (hL : g.2.2.2.2.2.1 ≤ 3072) (hi : (i : Int) ≤ (g.2.2.2.2.2.1 : Int) - 6) (hJ : J n P X) (kk : ∀ n P X Y, J n P X → q_Tr l g mL_law 11 K 1710 [(0, .ref g.2.2.2.2.1), (1, .ref (g.1 + 0)), (2, .ref (g.1 + 467)), (3, .int (zi (i : Int)))] [] n P X Y) : q_Tr l g mL_law 11 K 331 [(0, .ref g.2.2.2.2.1), (1, .ref (g.1 + 0)), (2, .ref (g.1 + 467)), (3, .int (zi (i : Int)))] [] n P X Y := by
  have hn := hJ.n
  refine r_aload_n (i := 1) (pc' := 332) dL_law_331 rfl rfl (.tail _ (.head _)) ?_
  refine r_aload_n (i := 0) (pc' := 333) dL_law_332 rfl rfl (.head _) ?_
  refine r_iload_n (i := 3) (pc' := 334) dL_law_333 rfl rfl (.tail _ (.tail _ (.tail _ (.head _)))) ?_
  refine r_iconst (pc' := 335) dL_law_334 rfl ?_
  refine r_iadd (pc' := 336) dL_law_335 rfl ?_
  refine r_sld (pc' := 337) dL_law_336 rfl rfl (by omega) (by omega) (by omega) rfl ?_
  refine r_V1gi (ci := 11) (pc' := 340) dL_law_337 rfl lL_18 rfl (by decide) (Nat.le_of_ble_eq_true rfl) (by first | assumption | rfl) (by omega) (j_end hJ (q_in_of _)) (fun r337 n337 P337 X337 Y337 e337 le337 => ?_)
  refine r_aload_n (i := 2) (pc' := 341) dL_law_340 rfl rfl (.tail _ (.tail _ (.head _))) ?_
  refine r_aload_n (i := 0) (pc' := 342) dL_law_341 rfl rfl (.head _) ?_
  refine r_iload_n (i := 3) (pc' := 343) dL_law_342 rfl rfl (.tail _ (.tail _ (.tail _ (.head _)))) ?_
  refine r_iconst (pc' := 344) dL_law_343 rfl ?_
  refine r_iadd (pc' := 345) dL_law_344 rfl ?_
  refine r_sld (pc' := 346) dL_law_345 rfl rfl (by omega) (by omega) (by omega) rfl ?_
  refine r_V1gi (ci := 12) (pc' := 349) dL_law_346 rfl lL_22 rfl (by decide) (Nat.le_of_ble_eq_true rfl) (by first | assumption | rfl) (by omega) e337 (fun r346 n346 P346 X346 Y346 e346 le346 => ?_)
  obtain ⟨hz, hJ2⟩ := e346
  refine r_raw_icmp_eq (t := 1710) (f := 352) dL_law_349 (by decide) rfl (fun h349 => ?_) (fun h349 => ?_)
  · exact kk _ _ _ _ hJ2
  · exact absurd hz.symm h349
set_option maxHeartbeats 4000000 in
set_option maxRecDepth 100000 in
theorem cL_text {l : Launch} {g : q_G} {n : Nat} {P : q_P} {X : q_X} {Y : q_Y} {K : q_K} {i : Nat} (hL : g.2.2.2.2.2.1 ≤ 3072) (hi : (i : Int) ≤ (g.2.2.2.2.2.1 : Int) - 6) (hJ : J n P X) (kk : ∀ n P X Y, J n P X → q_Tr l g mL_law 11 K 1710 [(0, .ref g.2.2.2.2.1), (1, .ref (g.1 + 0)), (2, .ref (g.1 + 467)), (3, .int (zi (i : Int)))] [] n P X Y) : q_Tr l g mL_law 11 K 354 [(0, .ref g.2.2.2.2.1), (1, .ref (g.1 + 0)), (2, .ref (g.1 + 467)), (3, .int (zi (i : Int)))] [] n P X Y := by
  have hn := hJ.n
  refine r_aload_n (i := 1) (pc' := 355) dL_law_354 rfl rfl (.tail _ (.head _)) ?_
  refine r_V0gi (ci := 11) (pc' := 358) dL_law_355 rfl lL_23 rfl (by decide) (Nat.le_of_ble_eq_true rfl) (by first | assumption | rfl) (by omega) (j_text hJ) (fun r355 n355 P355 X355 Y355 e355 le355 => ?_)
  refine r_aload_n (i := 2) (pc' := 359) dL_law_358 rfl rfl (.tail _ (.tail _ (.head _))) ?_
  refine r_V0gi (ci := 12) (pc' := 362) dL_law_359 rfl lL_27 rfl (by decide) (Nat.le_of_ble_eq_true rfl) (by first | assumption | rfl) (by omega) e355 (fun r359 n359 P359 X359 Y359 e359 le359 => ?_)
  obtain ⟨hz, hJ2⟩ := e359
  refine r_raw_icmp_eq (t := 1710) (f := 365) dL_law_362 (by decide) rfl (fun h362 => ?_) (fun h362 => ?_)
  · exact kk _ _ _ _ hJ2
  · exact absurd hz.symm h362
set_option maxHeartbeats 4000000 in
set_option maxRecDepth 100000 in
theorem cL_policy {l : Launch} {g : q_G} {n : Nat} {P : q_P} {X : q_X} {Y : q_Y} {K : q_K} {i : Nat} (hL : g.2.2.2.2.2.1 ≤ 3072) (hi : (i : Int) ≤ (g.2.2.2.2.2.1 : Int) - 6) (hJ : J n P X) (kk : ∀ n P X Y, J n P X → q_Tr l g mL_law 11 K 1710 [(0, .ref g.2.2.2.2.1), (1, .ref (g.1 + 0)), (2, .ref (g.1 + 467)), (3, .int (zi (i : Int)))] [] n P X Y) : q_Tr l g mL_law 11 K 367 [(0, .ref g.2.2.2.2.1), (1, .ref (g.1 + 0)), (2, .ref (g.1 + 467)), (3, .int (zi (i : Int)))] [] n P X Y := by
  have hn := hJ.n
  refine r_aload_n (i := 1) (pc' := 368) dL_law_367 rfl rfl (.tail _ (.head _)) ?_
  refine r_V0gi (ci := 11) (pc' := 371) dL_law_368 rfl lL_28 rfl (by decide) (Nat.le_of_ble_eq_true rfl) (by first | assumption | rfl) (by omega) (j_policy hJ) (fun r368 n368 P368 X368 Y368 e368 le368 => ?_)
  refine r_aload_n (i := 2) (pc' := 372) dL_law_371 rfl rfl (.tail _ (.tail _ (.head _))) ?_
  refine r_V0gi (ci := 12) (pc' := 375) dL_law_372 rfl lL_31 rfl (by decide) (Nat.le_of_ble_eq_true rfl) (by first | assumption | rfl) (by omega) e368 (fun r372 n372 P372 X372 Y372 e372 le372 => ?_)
  obtain ⟨hz, hJ2⟩ := e372
  refine r_raw_icmp_eq (t := 1710) (f := 378) dL_law_375 (by decide) rfl (fun h375 => ?_) (fun h375 => ?_)
  · exact kk _ _ _ _ hJ2
  · exact absurd hz.symm h375
set_option maxHeartbeats 4000000 in
set_option maxRecDepth 100000 in
theorem cL_market {l : Launch} {g : q_G} {n : Nat} {P : q_P} {X : q_X} {Y : q_Y} {K : q_K} {i : Nat} (hL : g.2.2.2.2.2.1 ≤ 3072) (hi : (i : Int) ≤ (g.2.2.2.2.2.1 : Int) - 6) (hJ : J n P X) (kk : ∀ n P X Y, J n P X → q_Tr l g mL_law 11 K 1710 [(0, .ref g.2.2.2.2.1), (1, .ref (g.1 + 0)), (2, .ref (g.1 + 467)), (3, .int (zi (i : Int)))] [] n P X Y) : q_Tr l g mL_law 11 K 380 [(0, .ref g.2.2.2.2.1), (1, .ref (g.1 + 0)), (2, .ref (g.1 + 467)), (3, .int (zi (i : Int)))] [] n P X Y := by
  have hn := hJ.n
  refine r_aload_n (i := 1) (pc' := 381) dL_law_380 rfl rfl (.tail _ (.head _)) ?_
  refine r_V0gi (ci := 11) (pc' := 384) dL_law_381 rfl lL_32 rfl (by decide) (Nat.le_of_ble_eq_true rfl) (by first | assumption | rfl) (by omega) (j_market hJ) (fun r381 n381 P381 X381 Y381 e381 le381 => ?_)
  refine r_aload_n (i := 2) (pc' := 385) dL_law_384 rfl rfl (.tail _ (.tail _ (.head _))) ?_
  refine r_V0gi (ci := 12) (pc' := 388) dL_law_385 rfl lL_35 rfl (by decide) (Nat.le_of_ble_eq_true rfl) (by first | assumption | rfl) (by omega) e381 (fun r385 n385 P385 X385 Y385 e385 le385 => ?_)
  obtain ⟨hz, hJ2⟩ := e385
  refine r_raw_icmp_eq (t := 1710) (f := 391) dL_law_388 (by decide) rfl (fun h388 => ?_) (fun h388 => ?_)
  · exact kk _ _ _ _ hJ2
  · exact absurd hz.symm h388
set_option maxHeartbeats 4000000 in
set_option maxRecDepth 100000 in
theorem cL_acts {l : Launch} {g : q_G} {n : Nat} {P : q_P} {X : q_X} {Y : q_Y} {K : q_K} {i : Nat} (hL : g.2.2.2.2.2.1 ≤ 3072) (hi : (i : Int) ≤ (g.2.2.2.2.2.1 : Int) - 6) (hJ : J n P X) (kk : ∀ n P X Y, J n P X → q_Tr l g mL_law 11 K 1710 [(0, .ref g.2.2.2.2.1), (1, .ref (g.1 + 0)), (2, .ref (g.1 + 467)), (3, .int (zi (i : Int)))] [] n P X Y) : q_Tr l g mL_law 11 K 393 [(0, .ref g.2.2.2.2.1), (1, .ref (g.1 + 0)), (2, .ref (g.1 + 467)), (3, .int (zi (i : Int)))] [] n P X Y := by
  have hn := hJ.n
  refine r_aload_n (i := 1) (pc' := 394) dL_law_393 rfl rfl (.tail _ (.head _)) ?_
  refine r_V0gi (ci := 11) (pc' := 397) dL_law_394 rfl lL_36 rfl (by decide) (Nat.le_of_ble_eq_true rfl) (by first | assumption | rfl) (by omega) (j_acts hJ) (fun r394 n394 P394 X394 Y394 e394 le394 => ?_)
  refine r_aload_n (i := 2) (pc' := 398) dL_law_397 rfl rfl (.tail _ (.tail _ (.head _))) ?_
  refine r_V0gi (ci := 12) (pc' := 401) dL_law_398 rfl lL_39 rfl (by decide) (Nat.le_of_ble_eq_true rfl) (by first | assumption | rfl) (by omega) e394 (fun r398 n398 P398 X398 Y398 e398 le398 => ?_)
  obtain ⟨hz, hJ2⟩ := e398
  refine r_raw_icmp_eq (t := 1710) (f := 404) dL_law_401 (by decide) rfl (fun h401 => ?_) (fun h401 => ?_)
  · exact kk _ _ _ _ hJ2
  · exact absurd hz.symm h401
set_option maxHeartbeats 4000000 in
set_option maxRecDepth 100000 in
theorem cL_fault {l : Launch} {g : q_G} {n : Nat} {P : q_P} {X : q_X} {Y : q_Y} {K : q_K} {i : Nat} (hL : g.2.2.2.2.2.1 ≤ 3072) (hi : (i : Int) ≤ (g.2.2.2.2.2.1 : Int) - 6) (hJ : J n P X) (kk : ∀ n P X Y, J n P X → q_Tr l g mL_law 11 K 1710 [(0, .ref g.2.2.2.2.1), (1, .ref (g.1 + 0)), (2, .ref (g.1 + 467)), (3, .int (zi (i : Int)))] [] n P X Y) : q_Tr l g mL_law 11 K 406 [(0, .ref g.2.2.2.2.1), (1, .ref (g.1 + 0)), (2, .ref (g.1 + 467)), (3, .int (zi (i : Int)))] [] n P X Y := by
  have hn := hJ.n
  refine r_aload_n (i := 1) (pc' := 407) dL_law_406 rfl rfl (.tail _ (.head _)) ?_
  refine r_V0gi (ci := 11) (pc' := 410) dL_law_407 rfl lL_40 rfl (by decide) (Nat.le_of_ble_eq_true rfl) (by first | assumption | rfl) (by omega) (j_fault hJ) (fun r407 n407 P407 X407 Y407 e407 le407 => ?_)
  refine r_aload_n (i := 2) (pc' := 411) dL_law_410 rfl rfl (.tail _ (.tail _ (.head _))) ?_
  refine r_V0gi (ci := 12) (pc' := 414) dL_law_411 rfl lL_43 rfl (by decide) (Nat.le_of_ble_eq_true rfl) (by first | assumption | rfl) (by omega) e407 (fun r411 n411 P411 X411 Y411 e411 le411 => ?_)
  obtain ⟨hz, hJ2⟩ := e411
  refine r_raw_icmp_eq (t := 1710) (f := 417) dL_law_414 (by decide) rfl (fun h414 => ?_) (fun h414 => ?_)
  · exact kk _ _ _ _ hJ2
  · exact absurd hz.symm h414
set_option maxHeartbeats 4000000 in
set_option maxRecDepth 100000 in
theorem cL_ended {l : Launch} {g : q_G} {n : Nat} {P : q_P} {X : q_X} {Y : q_Y} {K : q_K} {i : Nat} (hL : g.2.2.2.2.2.1 ≤ 3072) (hi : (i : Int) ≤ (g.2.2.2.2.2.1 : Int) - 6) (hJ : J n P X) (kk : ∀ n P X Y, J n P X → q_Tr l g mL_law 11 K 1710 [(0, .ref g.2.2.2.2.1), (1, .ref (g.1 + 0)), (2, .ref (g.1 + 467)), (3, .int (zi (i : Int)))] [] n P X Y) : q_Tr l g mL_law 11 K 419 [(0, .ref g.2.2.2.2.1), (1, .ref (g.1 + 0)), (2, .ref (g.1 + 467)), (3, .int (zi (i : Int)))] [] n P X Y := by
  have hn := hJ.n
  refine r_aload_n (i := 1) (pc' := 420) dL_law_419 rfl rfl (.tail _ (.head _)) ?_
  refine r_V0gi (ci := 11) (pc' := 423) dL_law_420 rfl lL_44 rfl (by decide) (Nat.le_of_ble_eq_true rfl) (by first | assumption | rfl) (by omega) (j_ended hJ) (fun r420 n420 P420 X420 Y420 e420 le420 => ?_)
  refine r_aload_n (i := 2) (pc' := 424) dL_law_423 rfl rfl (.tail _ (.tail _ (.head _))) ?_
  refine r_V0gi (ci := 12) (pc' := 427) dL_law_424 rfl lL_47 rfl (by decide) (Nat.le_of_ble_eq_true rfl) (by first | assumption | rfl) (by omega) e420 (fun r424 n424 P424 X424 Y424 e424 le424 => ?_)
  obtain ⟨hz, hJ2⟩ := e424
  refine r_raw_icmp_eq (t := 1710) (f := 430) dL_law_427 (by decide) rfl (fun h427 => ?_) (fun h427 => ?_)
  · exact kk _ _ _ _ hJ2
  · exact absurd hz.symm h427
set_option maxHeartbeats 4000000 in
set_option maxRecDepth 100000 in
theorem cL_why {l : Launch} {g : q_G} {n : Nat} {P : q_P} {X : q_X} {Y : q_Y} {K : q_K} {i : Nat} (hL : g.2.2.2.2.2.1 ≤ 3072) (hi : (i : Int) ≤ (g.2.2.2.2.2.1 : Int) - 6) (hJ : J n P X) (kk : ∀ n P X Y, J n P X → q_Tr l g mL_law 11 K 1710 [(0, .ref g.2.2.2.2.1), (1, .ref (g.1 + 0)), (2, .ref (g.1 + 467)), (3, .int (zi (i : Int)))] [] n P X Y) : q_Tr l g mL_law 11 K 432 [(0, .ref g.2.2.2.2.1), (1, .ref (g.1 + 0)), (2, .ref (g.1 + 467)), (3, .int (zi (i : Int)))] [] n P X Y := by
  have hn := hJ.n
  refine r_aload_n (i := 1) (pc' := 433) dL_law_432 rfl rfl (.tail _ (.head _)) ?_
  refine r_V0gi (ci := 11) (pc' := 436) dL_law_433 rfl lL_48 rfl (by decide) (Nat.le_of_ble_eq_true rfl) (by first | assumption | rfl) (by omega) (j_why hJ) (fun r433 n433 P433 X433 Y433 e433 le433 => ?_)
  refine r_aload_n (i := 2) (pc' := 437) dL_law_436 rfl rfl (.tail _ (.tail _ (.head _))) ?_
  refine r_V0gi (ci := 12) (pc' := 440) dL_law_437 rfl lL_51 rfl (by decide) (Nat.le_of_ble_eq_true rfl) (by first | assumption | rfl) (by omega) e433 (fun r437 n437 P437 X437 Y437 e437 le437 => ?_)
  obtain ⟨hz, hJ2⟩ := e437
  refine r_raw_icmp_eq (t := 1710) (f := 443) dL_law_440 (by decide) rfl (fun h440 => ?_) (fun h440 => ?_)
  · exact kk _ _ _ _ hJ2
  · exact absurd hz.symm h440
set_option maxHeartbeats 4000000 in
set_option maxRecDepth 100000 in
theorem cL_is {l : Launch} {g : q_G} {n : Nat} {P : q_P} {X : q_X} {Y : q_Y} {K : q_K} {i : Nat} (hL : g.2.2.2.2.2.1 ≤ 3072) (hi : (i : Int) ≤ (g.2.2.2.2.2.1 : Int) - 6) (hJ : J n P X) (kk : ∀ n P X Y, J n P X → q_Tr l g mL_law 11 K 1710 [(0, .ref g.2.2.2.2.1), (1, .ref (g.1 + 0)), (2, .ref (g.1 + 467)), (3, .int (zi (i : Int)))] [] n P X Y) : q_Tr l g mL_law 11 K 445 [(0, .ref g.2.2.2.2.1), (1, .ref (g.1 + 0)), (2, .ref (g.1 + 467)), (3, .int (zi (i : Int)))] [] n P X Y := by
  have hn := hJ.n
  refine r_aload_n (i := 1) (pc' := 446) dL_law_445 rfl rfl (.tail _ (.head _)) ?_
  refine r_aload_n (i := 0) (pc' := 447) dL_law_446 rfl rfl (.head _) ?_
  refine r_iload_n (i := 3) (pc' := 448) dL_law_447 rfl rfl (.tail _ (.tail _ (.tail _ (.head _)))) ?_
  refine r_iconst (pc' := 449) dL_law_448 rfl ?_
  refine r_iadd (pc' := 450) dL_law_449 rfl ?_
  refine r_sld (pc' := 451) dL_law_450 rfl rfl (by omega) (by omega) (by omega) rfl ?_
  refine r_V1gi (ci := 11) (pc' := 454) dL_law_451 rfl lL_52 rfl (by decide) (Nat.le_of_ble_eq_true rfl) (by first | assumption | rfl) (by omega) (j_is hJ (q_in_of _)) (fun r451 n451 P451 X451 Y451 e451 le451 => ?_)
  refine r_aload_n (i := 2) (pc' := 455) dL_law_454 rfl rfl (.tail _ (.tail _ (.head _))) ?_
  refine r_aload_n (i := 0) (pc' := 456) dL_law_455 rfl rfl (.head _) ?_
  refine r_iload_n (i := 3) (pc' := 457) dL_law_456 rfl rfl (.tail _ (.tail _ (.tail _ (.head _)))) ?_
  refine r_iconst (pc' := 458) dL_law_457 rfl ?_
  refine r_iadd (pc' := 459) dL_law_458 rfl ?_
  refine r_sld (pc' := 460) dL_law_459 rfl rfl (by omega) (by omega) (by omega) rfl ?_
  refine r_V1gi (ci := 12) (pc' := 463) dL_law_460 rfl lL_55 rfl (by decide) (Nat.le_of_ble_eq_true rfl) (by first | assumption | rfl) (by omega) e451 (fun r460 n460 P460 X460 Y460 e460 le460 => ?_)
  obtain ⟨hz, hJ2⟩ := e460
  refine r_raw_icmp_eq (t := 1710) (f := 466) dL_law_463 (by decide) rfl (fun h463 => ?_) (fun h463 => ?_)
  · exact kk _ _ _ _ hJ2
  · exact absurd hz.symm h463
set_option maxHeartbeats 4000000 in
set_option maxRecDepth 100000 in
theorem cL_limit {l : Launch} {g : q_G} {n : Nat} {P : q_P} {X : q_X} {Y : q_Y} {K : q_K} {i : Nat} (hL : g.2.2.2.2.2.1 ≤ 3072) (hi : (i : Int) ≤ (g.2.2.2.2.2.1 : Int) - 6) (hJ : J n P X) (kk : ∀ n P X Y, J n P X → q_Tr l g mL_law 11 K 1710 [(0, .ref g.2.2.2.2.1), (1, .ref (g.1 + 0)), (2, .ref (g.1 + 467)), (3, .int (zi (i : Int)))] [] n P X Y) : q_Tr l g mL_law 11 K 468 [(0, .ref g.2.2.2.2.1), (1, .ref (g.1 + 0)), (2, .ref (g.1 + 467)), (3, .int (zi (i : Int)))] [] n P X Y := by
  have hn := hJ.n
  refine r_aload_n (i := 1) (pc' := 469) dL_law_468 rfl rfl (.tail _ (.head _)) ?_
  refine r_aload_n (i := 0) (pc' := 470) dL_law_469 rfl rfl (.head _) ?_
  refine r_iload_n (i := 3) (pc' := 471) dL_law_470 rfl rfl (.tail _ (.tail _ (.tail _ (.head _)))) ?_
  refine r_iconst (pc' := 472) dL_law_471 rfl ?_
  refine r_iadd (pc' := 473) dL_law_472 rfl ?_
  refine r_sld (pc' := 474) dL_law_473 rfl rfl (by omega) (by omega) (by omega) rfl ?_
  refine r_V1gi (ci := 11) (pc' := 477) dL_law_474 rfl lL_56 rfl (by decide) (Nat.le_of_ble_eq_true rfl) (by first | assumption | rfl) (by omega) (j_limit hJ (q_in_of _)) (fun r474 n474 P474 X474 Y474 e474 le474 => ?_)
  refine r_aload_n (i := 2) (pc' := 478) dL_law_477 rfl rfl (.tail _ (.tail _ (.head _))) ?_
  refine r_aload_n (i := 0) (pc' := 479) dL_law_478 rfl rfl (.head _) ?_
  refine r_iload_n (i := 3) (pc' := 480) dL_law_479 rfl rfl (.tail _ (.tail _ (.tail _ (.head _)))) ?_
  refine r_iconst (pc' := 481) dL_law_480 rfl ?_
  refine r_iadd (pc' := 482) dL_law_481 rfl ?_
  refine r_sld (pc' := 483) dL_law_482 rfl rfl (by omega) (by omega) (by omega) rfl ?_
  refine r_V1gi (ci := 12) (pc' := 486) dL_law_483 rfl lL_59 rfl (by decide) (Nat.le_of_ble_eq_true rfl) (by first | assumption | rfl) (by omega) e474 (fun r483 n483 P483 X483 Y483 e483 le483 => ?_)
  obtain ⟨hz, hJ2⟩ := e483
  refine r_raw_icmp_eq (t := 1710) (f := 489) dL_law_486 (by decide) rfl (fun h486 => ?_) (fun h486 => ?_)
  · exact kk _ _ _ _ hJ2
  · exact absurd hz.symm h486
set_option maxHeartbeats 4000000 in
set_option maxRecDepth 100000 in
theorem cL_dead {l : Launch} {g : q_G} {n : Nat} {P : q_P} {X : q_X} {Y : q_Y} {K : q_K} {i : Nat} (hL : g.2.2.2.2.2.1 ≤ 3072) (hi : (i : Int) ≤ (g.2.2.2.2.2.1 : Int) - 6) (hJ : J n P X) (kk : ∀ n P X Y, J n P X → q_Tr l g mL_law 11 K 1710 [(0, .ref g.2.2.2.2.1), (1, .ref (g.1 + 0)), (2, .ref (g.1 + 467)), (3, .int (zi (i : Int)))] [] n P X Y) : q_Tr l g mL_law 11 K 491 [(0, .ref g.2.2.2.2.1), (1, .ref (g.1 + 0)), (2, .ref (g.1 + 467)), (3, .int (zi (i : Int)))] [] n P X Y := by
  have hn := hJ.n
  refine r_aload_n (i := 1) (pc' := 492) dL_law_491 rfl rfl (.tail _ (.head _)) ?_
  refine r_aload_n (i := 0) (pc' := 493) dL_law_492 rfl rfl (.head _) ?_
  refine r_iload_n (i := 3) (pc' := 494) dL_law_493 rfl rfl (.tail _ (.tail _ (.tail _ (.head _)))) ?_
  refine r_iconst (pc' := 495) dL_law_494 rfl ?_
  refine r_iadd (pc' := 496) dL_law_495 rfl ?_
  refine r_sld (pc' := 497) dL_law_496 rfl rfl (by omega) (by omega) (by omega) rfl ?_
  refine r_V1gi (ci := 11) (pc' := 500) dL_law_497 rfl lL_60 rfl (by decide) (Nat.le_of_ble_eq_true rfl) (by first | assumption | rfl) (by omega) (j_dead hJ (q_in_of _)) (fun r497 n497 P497 X497 Y497 e497 le497 => ?_)
  refine r_aload_n (i := 2) (pc' := 501) dL_law_500 rfl rfl (.tail _ (.tail _ (.head _))) ?_
  refine r_aload_n (i := 0) (pc' := 502) dL_law_501 rfl rfl (.head _) ?_
  refine r_iload_n (i := 3) (pc' := 503) dL_law_502 rfl rfl (.tail _ (.tail _ (.tail _ (.head _)))) ?_
  refine r_iconst (pc' := 504) dL_law_503 rfl ?_
  refine r_iadd (pc' := 505) dL_law_504 rfl ?_
  refine r_sld (pc' := 506) dL_law_505 rfl rfl (by omega) (by omega) (by omega) rfl ?_
  refine r_V1gi (ci := 12) (pc' := 509) dL_law_506 rfl lL_63 rfl (by decide) (Nat.le_of_ble_eq_true rfl) (by first | assumption | rfl) (by omega) e497 (fun r506 n506 P506 X506 Y506 e506 le506 => ?_)
  obtain ⟨hz, hJ2⟩ := e506
  refine r_raw_icmp_eq (t := 1710) (f := 512) dL_law_509 (by decide) rfl (fun h509 => ?_) (fun h509 => ?_)
  · exact kk _ _ _ _ hJ2
  · exact absurd hz.symm h509
set_option maxHeartbeats 4000000 in
set_option maxRecDepth 100000 in
theorem cL_contract {l : Launch} {g : q_G} {n : Nat} {P : q_P} {X : q_X} {Y : q_Y} {K : q_K} {i : Nat} (hL : g.2.2.2.2.2.1 ≤ 3072) (hi : (i : Int) ≤ (g.2.2.2.2.2.1 : Int) - 6) (hJ : J n P X) (kk : ∀ n P X Y, J n P X → q_Tr l g mL_law 11 K 1710 [(0, .ref g.2.2.2.2.1), (1, .ref (g.1 + 0)), (2, .ref (g.1 + 467)), (3, .int (zi (i : Int)))] [] n P X Y) : q_Tr l g mL_law 11 K 514 [(0, .ref g.2.2.2.2.1), (1, .ref (g.1 + 0)), (2, .ref (g.1 + 467)), (3, .int (zi (i : Int)))] [] n P X Y := by
  have hn := hJ.n
  refine r_aload_n (i := 1) (pc' := 515) dL_law_514 rfl rfl (.tail _ (.head _)) ?_
  refine r_aload_n (i := 0) (pc' := 516) dL_law_515 rfl rfl (.head _) ?_
  refine r_iload_n (i := 3) (pc' := 517) dL_law_516 rfl rfl (.tail _ (.tail _ (.tail _ (.head _)))) ?_
  refine r_iconst (pc' := 518) dL_law_517 rfl ?_
  refine r_iadd (pc' := 519) dL_law_518 rfl ?_
  refine r_sld (pc' := 520) dL_law_519 rfl rfl (by omega) (by omega) (by omega) rfl ?_
  refine r_aload_n (i := 0) (pc' := 521) dL_law_520 rfl rfl (.head _) ?_
  refine r_iload_n (i := 3) (pc' := 522) dL_law_521 rfl rfl (.tail _ (.tail _ (.tail _ (.head _)))) ?_
  refine r_iconst (pc' := 523) dL_law_522 rfl ?_
  refine r_iadd (pc' := 524) dL_law_523 rfl ?_
  refine r_sld (pc' := 525) dL_law_524 rfl rfl (by omega) (by omega) (by omega) rfl ?_
  refine r_V2gi (ci := 11) (pc' := 528) dL_law_525 rfl lL_64 rfl (by decide) (Nat.le_of_ble_eq_true rfl) (by first | assumption | rfl) (by omega) (j_contract hJ (q_in_of _) (q_in_of _)) (fun r525 n525 P525 X525 Y525 e525 le525 => ?_)
  refine r_aload_n (i := 2) (pc' := 529) dL_law_528 rfl rfl (.tail _ (.tail _ (.head _))) ?_
  refine r_aload_n (i := 0) (pc' := 530) dL_law_529 rfl rfl (.head _) ?_
  refine r_iload_n (i := 3) (pc' := 531) dL_law_530 rfl rfl (.tail _ (.tail _ (.tail _ (.head _)))) ?_
  refine r_iconst (pc' := 532) dL_law_531 rfl ?_
  refine r_iadd (pc' := 533) dL_law_532 rfl ?_
  refine r_sld (pc' := 534) dL_law_533 rfl rfl (by omega) (by omega) (by omega) rfl ?_
  refine r_aload_n (i := 0) (pc' := 535) dL_law_534 rfl rfl (.head _) ?_
  refine r_iload_n (i := 3) (pc' := 536) dL_law_535 rfl rfl (.tail _ (.tail _ (.tail _ (.head _)))) ?_
  refine r_iconst (pc' := 537) dL_law_536 rfl ?_
  refine r_iadd (pc' := 538) dL_law_537 rfl ?_
  refine r_sld (pc' := 539) dL_law_538 rfl rfl (by omega) (by omega) (by omega) rfl ?_
  refine r_V2gi (ci := 12) (pc' := 542) dL_law_539 rfl lL_68 rfl (by decide) (Nat.le_of_ble_eq_true rfl) (by first | assumption | rfl) (by omega) e525 (fun r539 n539 P539 X539 Y539 e539 le539 => ?_)
  obtain ⟨hz, hJ2⟩ := e539
  refine r_raw_icmp_eq (t := 1710) (f := 545) dL_law_542 (by decide) rfl (fun h542 => ?_) (fun h542 => ?_)
  · exact kk _ _ _ _ hJ2
  · exact absurd hz.symm h542
set_option maxHeartbeats 4000000 in
set_option maxRecDepth 100000 in
theorem cL_pay {l : Launch} {g : q_G} {n : Nat} {P : q_P} {X : q_X} {Y : q_Y} {K : q_K} {i : Nat} (hL : g.2.2.2.2.2.1 ≤ 3072) (hi : (i : Int) ≤ (g.2.2.2.2.2.1 : Int) - 6) (hJ : J n P X) (kk : ∀ n P X Y, J n P X → q_Tr l g mL_law 11 K 1710 [(0, .ref g.2.2.2.2.1), (1, .ref (g.1 + 0)), (2, .ref (g.1 + 467)), (3, .int (zi (i : Int)))] [] n P X Y) : q_Tr l g mL_law 11 K 547 [(0, .ref g.2.2.2.2.1), (1, .ref (g.1 + 0)), (2, .ref (g.1 + 467)), (3, .int (zi (i : Int)))] [] n P X Y := by
  have hn := hJ.n
  refine r_aload_n (i := 1) (pc' := 548) dL_law_547 rfl rfl (.tail _ (.head _)) ?_
  refine r_aload_n (i := 0) (pc' := 549) dL_law_548 rfl rfl (.head _) ?_
  refine r_iload_n (i := 3) (pc' := 550) dL_law_549 rfl rfl (.tail _ (.tail _ (.tail _ (.head _)))) ?_
  refine r_iconst (pc' := 551) dL_law_550 rfl ?_
  refine r_iadd (pc' := 552) dL_law_551 rfl ?_
  refine r_sld (pc' := 553) dL_law_552 rfl rfl (by omega) (by omega) (by omega) rfl ?_
  refine r_aload_n (i := 0) (pc' := 554) dL_law_553 rfl rfl (.head _) ?_
  refine r_iload_n (i := 3) (pc' := 555) dL_law_554 rfl rfl (.tail _ (.tail _ (.tail _ (.head _)))) ?_
  refine r_iconst (pc' := 556) dL_law_555 rfl ?_
  refine r_iadd (pc' := 557) dL_law_556 rfl ?_
  refine r_sld (pc' := 558) dL_law_557 rfl rfl (by omega) (by omega) (by omega) rfl ?_
  refine r_aload_n (i := 0) (pc' := 559) dL_law_558 rfl rfl (.head _) ?_
  refine r_iload_n (i := 3) (pc' := 560) dL_law_559 rfl rfl (.tail _ (.tail _ (.tail _ (.head _)))) ?_
  refine r_iconst (pc' := 561) dL_law_560 rfl ?_
  refine r_iadd (pc' := 562) dL_law_561 rfl ?_
  refine r_sld (pc' := 563) dL_law_562 rfl rfl (by omega) (by omega) (by omega) rfl ?_
  refine r_V3gi (ci := 11) (pc' := 566) dL_law_563 rfl lL_69 rfl (by decide) (Nat.le_of_ble_eq_true rfl) (by first | assumption | rfl) (by omega) (j_pay hJ (q_in_of _) (q_in_of _) (q_in_of _)) (fun r563 n563 P563 X563 Y563 e563 le563 => ?_)
  refine r_aload_n (i := 2) (pc' := 567) dL_law_566 rfl rfl (.tail _ (.tail _ (.head _))) ?_
  refine r_aload_n (i := 0) (pc' := 568) dL_law_567 rfl rfl (.head _) ?_
  refine r_iload_n (i := 3) (pc' := 569) dL_law_568 rfl rfl (.tail _ (.tail _ (.tail _ (.head _)))) ?_
  refine r_iconst (pc' := 570) dL_law_569 rfl ?_
  refine r_iadd (pc' := 571) dL_law_570 rfl ?_
  refine r_sld (pc' := 572) dL_law_571 rfl rfl (by omega) (by omega) (by omega) rfl ?_
  refine r_aload_n (i := 0) (pc' := 573) dL_law_572 rfl rfl (.head _) ?_
  refine r_iload_n (i := 3) (pc' := 574) dL_law_573 rfl rfl (.tail _ (.tail _ (.tail _ (.head _)))) ?_
  refine r_iconst (pc' := 575) dL_law_574 rfl ?_
  refine r_iadd (pc' := 576) dL_law_575 rfl ?_
  refine r_sld (pc' := 577) dL_law_576 rfl rfl (by omega) (by omega) (by omega) rfl ?_
  refine r_aload_n (i := 0) (pc' := 578) dL_law_577 rfl rfl (.head _) ?_
  refine r_iload_n (i := 3) (pc' := 579) dL_law_578 rfl rfl (.tail _ (.tail _ (.tail _ (.head _)))) ?_
  refine r_iconst (pc' := 580) dL_law_579 rfl ?_
  refine r_iadd (pc' := 581) dL_law_580 rfl ?_
  refine r_sld (pc' := 582) dL_law_581 rfl rfl (by omega) (by omega) (by omega) rfl ?_
  refine r_V3gi (ci := 12) (pc' := 585) dL_law_582 rfl lL_73 rfl (by decide) (Nat.le_of_ble_eq_true rfl) (by first | assumption | rfl) (by omega) e563 (fun r582 n582 P582 X582 Y582 e582 le582 => ?_)
  obtain ⟨hz, hJ2⟩ := e582
  refine r_raw_icmp_eq (t := 1710) (f := 588) dL_law_585 (by decide) rfl (fun h585 => ?_) (fun h585 => ?_)
  · exact kk _ _ _ _ hJ2
  · exact absurd hz.symm h585
set_option maxHeartbeats 4000000 in
set_option maxRecDepth 100000 in
theorem cL_now {l : Launch} {g : q_G} {n : Nat} {P : q_P} {X : q_X} {Y : q_Y} {K : q_K} {i : Nat} (hL : g.2.2.2.2.2.1 ≤ 3072) (hi : (i : Int) ≤ (g.2.2.2.2.2.1 : Int) - 6) (hJ : J n P X) (kk : ∀ n P X Y, J n P X → q_Tr l g mL_law 11 K 1710 [(0, .ref g.2.2.2.2.1), (1, .ref (g.1 + 0)), (2, .ref (g.1 + 467)), (3, .int (zi (i : Int)))] [] n P X Y) : q_Tr l g mL_law 11 K 590 [(0, .ref g.2.2.2.2.1), (1, .ref (g.1 + 0)), (2, .ref (g.1 + 467)), (3, .int (zi (i : Int)))] [] n P X Y := by
  have hn := hJ.n
  refine r_aload_n (i := 1) (pc' := 591) dL_law_590 rfl rfl (.tail _ (.head _)) ?_
  refine r_aload_n (i := 0) (pc' := 592) dL_law_591 rfl rfl (.head _) ?_
  refine r_iload_n (i := 3) (pc' := 593) dL_law_592 rfl rfl (.tail _ (.tail _ (.tail _ (.head _)))) ?_
  refine r_iconst (pc' := 594) dL_law_593 rfl ?_
  refine r_iadd (pc' := 595) dL_law_594 rfl ?_
  refine r_sld (pc' := 596) dL_law_595 rfl rfl (by omega) (by omega) (by omega) rfl ?_
  refine r_V1gi (ci := 11) (pc' := 599) dL_law_596 rfl lL_74 rfl (by decide) (Nat.le_of_ble_eq_true rfl) (by first | assumption | rfl) (by omega) (j_now hJ (q_in_of _)) (fun r596 n596 P596 X596 Y596 e596 le596 => ?_)
  refine r_aload_n (i := 2) (pc' := 600) dL_law_599 rfl rfl (.tail _ (.tail _ (.head _))) ?_
  refine r_aload_n (i := 0) (pc' := 601) dL_law_600 rfl rfl (.head _) ?_
  refine r_iload_n (i := 3) (pc' := 602) dL_law_601 rfl rfl (.tail _ (.tail _ (.tail _ (.head _)))) ?_
  refine r_iconst (pc' := 603) dL_law_602 rfl ?_
  refine r_iadd (pc' := 604) dL_law_603 rfl ?_
  refine r_sld (pc' := 605) dL_law_604 rfl rfl (by omega) (by omega) (by omega) rfl ?_
  refine r_V1gi (ci := 12) (pc' := 608) dL_law_605 rfl lL_77 rfl (by decide) (Nat.le_of_ble_eq_true rfl) (by first | assumption | rfl) (by omega) e596 (fun r605 n605 P605 X605 Y605 e605 le605 => ?_)
  obtain ⟨hz, hJ2⟩ := e605
  refine r_raw_icmp_eq (t := 1710) (f := 611) dL_law_608 (by decide) rfl (fun h608 => ?_) (fun h608 => ?_)
  · exact kk _ _ _ _ hJ2
  · exact absurd hz.symm h608
set_option maxHeartbeats 4000000 in
set_option maxRecDepth 100000 in
theorem cL_would {l : Launch} {g : q_G} {n : Nat} {P : q_P} {X : q_X} {Y : q_Y} {K : q_K} {i : Nat} (hL : g.2.2.2.2.2.1 ≤ 3072) (hi : (i : Int) ≤ (g.2.2.2.2.2.1 : Int) - 6) (hJ : J n P X) (kk : ∀ n P X Y, J n P X → q_Tr l g mL_law 11 K 1710 [(0, .ref g.2.2.2.2.1), (1, .ref (g.1 + 0)), (2, .ref (g.1 + 467)), (3, .int (zi (i : Int)))] [] n P X Y) : q_Tr l g mL_law 11 K 613 [(0, .ref g.2.2.2.2.1), (1, .ref (g.1 + 0)), (2, .ref (g.1 + 467)), (3, .int (zi (i : Int)))] [] n P X Y := by
  have hn := hJ.n
  refine r_aload_n (i := 1) (pc' := 614) dL_law_613 rfl rfl (.tail _ (.head _)) ?_
  refine r_aload_n (i := 0) (pc' := 615) dL_law_614 rfl rfl (.head _) ?_
  refine r_iload_n (i := 3) (pc' := 616) dL_law_615 rfl rfl (.tail _ (.tail _ (.tail _ (.head _)))) ?_
  refine r_iconst (pc' := 617) dL_law_616 rfl ?_
  refine r_iadd (pc' := 618) dL_law_617 rfl ?_
  refine r_sld (pc' := 619) dL_law_618 rfl rfl (by omega) (by omega) (by omega) rfl ?_
  refine r_aload_n (i := 0) (pc' := 620) dL_law_619 rfl rfl (.head _) ?_
  refine r_iload_n (i := 3) (pc' := 621) dL_law_620 rfl rfl (.tail _ (.tail _ (.tail _ (.head _)))) ?_
  refine r_iconst (pc' := 622) dL_law_621 rfl ?_
  refine r_iadd (pc' := 623) dL_law_622 rfl ?_
  refine r_sld (pc' := 624) dL_law_623 rfl rfl (by omega) (by omega) (by omega) rfl ?_
  refine r_V2gi (ci := 11) (pc' := 627) dL_law_624 rfl lL_78 rfl (by decide) (Nat.le_of_ble_eq_true rfl) (by first | assumption | rfl) (by omega) (j_would hJ (q_in_of _) (q_in_of _)) (fun r624 n624 P624 X624 Y624 e624 le624 => ?_)
  refine r_aload_n (i := 2) (pc' := 628) dL_law_627 rfl rfl (.tail _ (.tail _ (.head _))) ?_
  refine r_aload_n (i := 0) (pc' := 629) dL_law_628 rfl rfl (.head _) ?_
  refine r_iload_n (i := 3) (pc' := 630) dL_law_629 rfl rfl (.tail _ (.tail _ (.tail _ (.head _)))) ?_
  refine r_iconst (pc' := 631) dL_law_630 rfl ?_
  refine r_iadd (pc' := 632) dL_law_631 rfl ?_
  refine r_sld (pc' := 633) dL_law_632 rfl rfl (by omega) (by omega) (by omega) rfl ?_
  refine r_aload_n (i := 0) (pc' := 634) dL_law_633 rfl rfl (.head _) ?_
  refine r_iload_n (i := 3) (pc' := 635) dL_law_634 rfl rfl (.tail _ (.tail _ (.tail _ (.head _)))) ?_
  refine r_iconst (pc' := 636) dL_law_635 rfl ?_
  refine r_iadd (pc' := 637) dL_law_636 rfl ?_
  refine r_sld (pc' := 638) dL_law_637 rfl rfl (by omega) (by omega) (by omega) rfl ?_
  refine r_V2gi (ci := 12) (pc' := 641) dL_law_638 rfl lL_81 rfl (by decide) (Nat.le_of_ble_eq_true rfl) (by first | assumption | rfl) (by omega) e624 (fun r638 n638 P638 X638 Y638 e638 le638 => ?_)
  obtain ⟨hz, hJ2⟩ := e638
  refine r_raw_icmp_eq (t := 1710) (f := 644) dL_law_641 (by decide) rfl (fun h641 => ?_) (fun h641 => ?_)
  · exact kk _ _ _ _ hJ2
  · exact absurd hz.symm h641
set_option maxHeartbeats 4000000 in
set_option maxRecDepth 100000 in
theorem cL_cut {l : Launch} {g : q_G} {n : Nat} {P : q_P} {X : q_X} {Y : q_Y} {K : q_K} {i : Nat} (hL : g.2.2.2.2.2.1 ≤ 3072) (hi : (i : Int) ≤ (g.2.2.2.2.2.1 : Int) - 6) (hJ : J n P X) (kk : ∀ n P X Y, J n P X → q_Tr l g mL_law 11 K 1710 [(0, .ref g.2.2.2.2.1), (1, .ref (g.1 + 0)), (2, .ref (g.1 + 467)), (3, .int (zi (i : Int)))] [] n P X Y) : q_Tr l g mL_law 11 K 646 [(0, .ref g.2.2.2.2.1), (1, .ref (g.1 + 0)), (2, .ref (g.1 + 467)), (3, .int (zi (i : Int)))] [] n P X Y := by
  have hn := hJ.n
  refine r_aload_n (i := 1) (pc' := 647) dL_law_646 rfl rfl (.tail _ (.head _)) ?_
  refine r_aload_n (i := 0) (pc' := 648) dL_law_647 rfl rfl (.head _) ?_
  refine r_iload_n (i := 3) (pc' := 649) dL_law_648 rfl rfl (.tail _ (.tail _ (.tail _ (.head _)))) ?_
  refine r_iconst (pc' := 650) dL_law_649 rfl ?_
  refine r_iadd (pc' := 651) dL_law_650 rfl ?_
  refine r_sld (pc' := 652) dL_law_651 rfl rfl (by omega) (by omega) (by omega) rfl ?_
  refine r_V1gi (ci := 11) (pc' := 655) dL_law_652 rfl lL_82 rfl (by decide) (Nat.le_of_ble_eq_true rfl) (by first | assumption | rfl) (by omega) (j_cut hJ (q_in_of _)) (fun r652 n652 P652 X652 Y652 e652 le652 => ?_)
  refine r_aload_n (i := 2) (pc' := 656) dL_law_655 rfl rfl (.tail _ (.tail _ (.head _))) ?_
  refine r_aload_n (i := 0) (pc' := 657) dL_law_656 rfl rfl (.head _) ?_
  refine r_iload_n (i := 3) (pc' := 658) dL_law_657 rfl rfl (.tail _ (.tail _ (.tail _ (.head _)))) ?_
  refine r_iconst (pc' := 659) dL_law_658 rfl ?_
  refine r_iadd (pc' := 660) dL_law_659 rfl ?_
  refine r_sld (pc' := 661) dL_law_660 rfl rfl (by omega) (by omega) (by omega) rfl ?_
  refine r_V1gi (ci := 12) (pc' := 664) dL_law_661 rfl lL_85 rfl (by decide) (Nat.le_of_ble_eq_true rfl) (by first | assumption | rfl) (by omega) e652 (fun r661 n661 P661 X661 Y661 e661 le661 => ?_)
  obtain ⟨hz, hJ2⟩ := e661
  refine r_raw_icmp_eq (t := 1710) (f := 667) dL_law_664 (by decide) rfl (fun h664 => ?_) (fun h664 => ?_)
  · exact kk _ _ _ _ hJ2
  · exact absurd hz.symm h664
set_option maxHeartbeats 4000000 in
set_option maxRecDepth 100000 in
theorem cL_trade {l : Launch} {g : q_G} {n : Nat} {P : q_P} {X : q_X} {Y : q_Y} {K : q_K} {i : Nat} (hL : g.2.2.2.2.2.1 ≤ 3072) (hi : (i : Int) ≤ (g.2.2.2.2.2.1 : Int) - 6) (hJ : J n P X) (kk : ∀ n P X Y, J n P X → q_Tr l g mL_law 11 K 1710 [(0, .ref g.2.2.2.2.1), (1, .ref (g.1 + 0)), (2, .ref (g.1 + 467)), (3, .int (zi (i : Int)))] [] n P X Y) : q_Tr l g mL_law 11 K 669 [(0, .ref g.2.2.2.2.1), (1, .ref (g.1 + 0)), (2, .ref (g.1 + 467)), (3, .int (zi (i : Int)))] [] n P X Y := by
  have hn := hJ.n
  refine r_aload_n (i := 1) (pc' := 670) dL_law_669 rfl rfl (.tail _ (.head _)) ?_
  refine r_aload_n (i := 0) (pc' := 671) dL_law_670 rfl rfl (.head _) ?_
  refine r_iload_n (i := 3) (pc' := 672) dL_law_671 rfl rfl (.tail _ (.tail _ (.tail _ (.head _)))) ?_
  refine r_iconst (pc' := 673) dL_law_672 rfl ?_
  refine r_iadd (pc' := 674) dL_law_673 rfl ?_
  refine r_sld (pc' := 675) dL_law_674 rfl rfl (by omega) (by omega) (by omega) rfl ?_
  refine r_V1gi (ci := 11) (pc' := 678) dL_law_675 rfl lL_86 rfl (by decide) (Nat.le_of_ble_eq_true rfl) (by first | assumption | rfl) (by omega) (j_trade hJ (q_in_of _)) (fun r675 n675 P675 X675 Y675 e675 le675 => ?_)
  refine r_aload_n (i := 2) (pc' := 679) dL_law_678 rfl rfl (.tail _ (.tail _ (.head _))) ?_
  refine r_aload_n (i := 0) (pc' := 680) dL_law_679 rfl rfl (.head _) ?_
  refine r_iload_n (i := 3) (pc' := 681) dL_law_680 rfl rfl (.tail _ (.tail _ (.tail _ (.head _)))) ?_
  refine r_iconst (pc' := 682) dL_law_681 rfl ?_
  refine r_iadd (pc' := 683) dL_law_682 rfl ?_
  refine r_sld (pc' := 684) dL_law_683 rfl rfl (by omega) (by omega) (by omega) rfl ?_
  refine r_V1gi (ci := 12) (pc' := 687) dL_law_684 rfl lL_89 rfl (by decide) (Nat.le_of_ble_eq_true rfl) (by first | assumption | rfl) (by omega) e675 (fun r684 n684 P684 X684 Y684 e684 le684 => ?_)
  obtain ⟨hz, hJ2⟩ := e684
  refine r_raw_icmp_eq (t := 1710) (f := 690) dL_law_687 (by decide) rfl (fun h687 => ?_) (fun h687 => ?_)
  · exact kk _ _ _ _ hJ2
  · exact absurd hz.symm h687
set_option maxHeartbeats 4000000 in
set_option maxRecDepth 100000 in
theorem cL_sign {l : Launch} {g : q_G} {n : Nat} {P : q_P} {X : q_X} {Y : q_Y} {K : q_K} {i : Nat} (hL : g.2.2.2.2.2.1 ≤ 3072) (hi : (i : Int) ≤ (g.2.2.2.2.2.1 : Int) - 6) (hJ : J n P X) (kk : ∀ n P X Y, J n P X → q_Tr l g mL_law 11 K 1710 [(0, .ref g.2.2.2.2.1), (1, .ref (g.1 + 0)), (2, .ref (g.1 + 467)), (3, .int (zi (i : Int)))] [] n P X Y) : q_Tr l g mL_law 11 K 692 [(0, .ref g.2.2.2.2.1), (1, .ref (g.1 + 0)), (2, .ref (g.1 + 467)), (3, .int (zi (i : Int)))] [] n P X Y := by
  have hn := hJ.n
  refine r_aload_n (i := 1) (pc' := 693) dL_law_692 rfl rfl (.tail _ (.head _)) ?_
  refine r_aload_n (i := 0) (pc' := 694) dL_law_693 rfl rfl (.head _) ?_
  refine r_iload_n (i := 3) (pc' := 695) dL_law_694 rfl rfl (.tail _ (.tail _ (.tail _ (.head _)))) ?_
  refine r_iconst (pc' := 696) dL_law_695 rfl ?_
  refine r_iadd (pc' := 697) dL_law_696 rfl ?_
  refine r_sld (pc' := 698) dL_law_697 rfl rfl (by omega) (by omega) (by omega) rfl ?_
  refine r_V1gi (ci := 11) (pc' := 701) dL_law_698 rfl lL_90 rfl (by decide) (Nat.le_of_ble_eq_true rfl) (by first | assumption | rfl) (by omega) (j_sign hJ (q_in_of _)) (fun r698 n698 P698 X698 Y698 e698 le698 => ?_)
  refine r_aload_n (i := 2) (pc' := 702) dL_law_701 rfl rfl (.tail _ (.tail _ (.head _))) ?_
  refine r_aload_n (i := 0) (pc' := 703) dL_law_702 rfl rfl (.head _) ?_
  refine r_iload_n (i := 3) (pc' := 704) dL_law_703 rfl rfl (.tail _ (.tail _ (.tail _ (.head _)))) ?_
  refine r_iconst (pc' := 705) dL_law_704 rfl ?_
  refine r_iadd (pc' := 706) dL_law_705 rfl ?_
  refine r_sld (pc' := 707) dL_law_706 rfl rfl (by omega) (by omega) (by omega) rfl ?_
  refine r_V1gi (ci := 12) (pc' := 710) dL_law_707 rfl lL_93 rfl (by decide) (Nat.le_of_ble_eq_true rfl) (by first | assumption | rfl) (by omega) e698 (fun r707 n707 P707 X707 Y707 e707 le707 => ?_)
  obtain ⟨hz, hJ2⟩ := e707
  refine r_raw_icmp_eq (t := 1710) (f := 713) dL_law_710 (by decide) rfl (fun h710 => ?_) (fun h710 => ?_)
  · exact kk _ _ _ _ hJ2
  · exact absurd hz.symm h710
set_option maxHeartbeats 4000000 in
set_option maxRecDepth 100000 in
theorem cL_promise {l : Launch} {g : q_G} {n : Nat} {P : q_P} {X : q_X} {Y : q_Y} {K : q_K} {i : Nat} (hL : g.2.2.2.2.2.1 ≤ 3072) (hi : (i : Int) ≤ (g.2.2.2.2.2.1 : Int) - 6) (hJ : J n P X) (kk : ∀ n P X Y, J n P X → q_Tr l g mL_law 11 K 1710 [(0, .ref g.2.2.2.2.1), (1, .ref (g.1 + 0)), (2, .ref (g.1 + 467)), (3, .int (zi (i : Int)))] [] n P X Y) : q_Tr l g mL_law 11 K 715 [(0, .ref g.2.2.2.2.1), (1, .ref (g.1 + 0)), (2, .ref (g.1 + 467)), (3, .int (zi (i : Int)))] [] n P X Y := by
  have hn := hJ.n
  refine r_aload_n (i := 1) (pc' := 716) dL_law_715 rfl rfl (.tail _ (.head _)) ?_
  refine r_aload_n (i := 0) (pc' := 717) dL_law_716 rfl rfl (.head _) ?_
  refine r_iload_n (i := 3) (pc' := 718) dL_law_717 rfl rfl (.tail _ (.tail _ (.tail _ (.head _)))) ?_
  refine r_iconst (pc' := 719) dL_law_718 rfl ?_
  refine r_iadd (pc' := 720) dL_law_719 rfl ?_
  refine r_sld (pc' := 721) dL_law_720 rfl rfl (by omega) (by omega) (by omega) rfl ?_
  refine r_aload_n (i := 0) (pc' := 722) dL_law_721 rfl rfl (.head _) ?_
  refine r_iload_n (i := 3) (pc' := 723) dL_law_722 rfl rfl (.tail _ (.tail _ (.tail _ (.head _)))) ?_
  refine r_iconst (pc' := 724) dL_law_723 rfl ?_
  refine r_iadd (pc' := 725) dL_law_724 rfl ?_
  refine r_sld (pc' := 726) dL_law_725 rfl rfl (by omega) (by omega) (by omega) rfl ?_
  refine r_aload_n (i := 0) (pc' := 727) dL_law_726 rfl rfl (.head _) ?_
  refine r_iload_n (i := 3) (pc' := 728) dL_law_727 rfl rfl (.tail _ (.tail _ (.tail _ (.head _)))) ?_
  refine r_iconst (pc' := 729) dL_law_728 rfl ?_
  refine r_iadd (pc' := 730) dL_law_729 rfl ?_
  refine r_sld (pc' := 731) dL_law_730 rfl rfl (by omega) (by omega) (by omega) rfl ?_
  refine r_aload_n (i := 0) (pc' := 732) dL_law_731 rfl rfl (.head _) ?_
  refine r_iload_n (i := 3) (pc' := 733) dL_law_732 rfl rfl (.tail _ (.tail _ (.tail _ (.head _)))) ?_
  refine r_iconst (pc' := 734) dL_law_733 rfl ?_
  refine r_iadd (pc' := 735) dL_law_734 rfl ?_
  refine r_sld (pc' := 736) dL_law_735 rfl rfl (by omega) (by omega) (by omega) rfl ?_
  by_cases h0 : zi (g.2.2.2.2.2.2 ((i : Int) + 4).toNat).toInt = 0
  · refine r_raw_if_eq (t := 743) (f := 739) dL_law_736 (by decide) rfl (fun h736 => ?_) (fun h736 => ?_)
    · refine r_iconst (pc' := 744) dL_law_743 rfl ?_
      refine r_V4gi (ci := 11) (pc' := 747) dL_law_744 rfl lL_94 rfl (by decide) (Nat.le_of_ble_eq_true rfl) (by first | assumption | rfl) (by omega) (j_promise hJ (q_in_of _) (q_in_of _) (q_in_of _) (Or.inl rfl)) (fun r744 n744 P744 X744 Y744 e744 le744 => ?_)
      refine r_aload_n (i := 2) (pc' := 748) dL_law_747 rfl rfl (.tail _ (.tail _ (.head _))) ?_
      refine r_aload_n (i := 0) (pc' := 749) dL_law_748 rfl rfl (.head _) ?_
      refine r_iload_n (i := 3) (pc' := 750) dL_law_749 rfl rfl (.tail _ (.tail _ (.tail _ (.head _)))) ?_
      refine r_iconst (pc' := 751) dL_law_750 rfl ?_
      refine r_iadd (pc' := 752) dL_law_751 rfl ?_
      refine r_sld (pc' := 753) dL_law_752 rfl rfl (by omega) (by omega) (by omega) rfl ?_
      refine r_aload_n (i := 0) (pc' := 754) dL_law_753 rfl rfl (.head _) ?_
      refine r_iload_n (i := 3) (pc' := 755) dL_law_754 rfl rfl (.tail _ (.tail _ (.tail _ (.head _)))) ?_
      refine r_iconst (pc' := 756) dL_law_755 rfl ?_
      refine r_iadd (pc' := 757) dL_law_756 rfl ?_
      refine r_sld (pc' := 758) dL_law_757 rfl rfl (by omega) (by omega) (by omega) rfl ?_
      refine r_aload_n (i := 0) (pc' := 759) dL_law_758 rfl rfl (.head _) ?_
      refine r_iload_n (i := 3) (pc' := 760) dL_law_759 rfl rfl (.tail _ (.tail _ (.tail _ (.head _)))) ?_
      refine r_iconst (pc' := 761) dL_law_760 rfl ?_
      refine r_iadd (pc' := 762) dL_law_761 rfl ?_
      refine r_sld (pc' := 763) dL_law_762 rfl rfl (by omega) (by omega) (by omega) rfl ?_
      refine r_aload_n (i := 0) (pc' := 764) dL_law_763 rfl rfl (.head _) ?_
      refine r_iload_n (i := 3) (pc' := 765) dL_law_764 rfl rfl (.tail _ (.tail _ (.tail _ (.head _)))) ?_
      refine r_iconst (pc' := 766) dL_law_765 rfl ?_
      refine r_iadd (pc' := 767) dL_law_766 rfl ?_
      refine r_sld (pc' := 768) dL_law_767 rfl rfl (by omega) (by omega) (by omega) rfl ?_
      refine r_raw_if_eq (t := 775) (f := 771) dL_law_768 (by decide) rfl (fun h768 => ?_) (fun h768 => ?_)
      · refine r_iconst (pc' := 776) dL_law_775 rfl ?_
        refine r_V4gi (ci := 12) (pc' := 779) dL_law_776 rfl lL_98 rfl (by decide) (Nat.le_of_ble_eq_true rfl) (by first | assumption | rfl) (by omega) e744 (fun r776 n776 P776 X776 Y776 e776 le776 => ?_)
        obtain ⟨hz, hJ2⟩ := e776
        refine r_raw_icmp_eq (t := 1710) (f := 782) dL_law_779 (by decide) rfl (fun h779 => ?_) (fun h779 => ?_)
        · exact kk _ _ _ _ hJ2
        · first | (exact absurd hz.symm h779) | (exact absurd h0 h736) | (exact absurd h0 h768) | (exact absurd h736 h0) | (exact absurd h768 h0)
      · first | (exact absurd hz.symm h779) | (exact absurd h0 h736) | (exact absurd h0 h768) | (exact absurd h736 h0) | (exact absurd h768 h0)
    · first | (exact absurd hz.symm h779) | (exact absurd h0 h736) | (exact absurd h0 h768) | (exact absurd h736 h0) | (exact absurd h768 h0)
  · refine r_raw_if_eq (t := 743) (f := 739) dL_law_736 (by decide) rfl (fun h736 => ?_) (fun h736 => ?_)
    · first | (exact absurd hz.symm h779) | (exact absurd h0 h736) | (exact absurd h0 h768) | (exact absurd h736 h0) | (exact absurd h768 h0)
    · refine r_iconst (pc' := 740) dL_law_739 rfl ?_
      refine r_goto (t := 744) dL_law_740 (by decide) ?_
      refine r_V4gi (ci := 11) (pc' := 747) dL_law_744 rfl lL_94 rfl (by decide) (Nat.le_of_ble_eq_true rfl) (by first | assumption | rfl) (by omega) (j_promise hJ (q_in_of _) (q_in_of _) (q_in_of _) (Or.inr rfl)) (fun r744 n744 P744 X744 Y744 e744 le744 => ?_)
      refine r_aload_n (i := 2) (pc' := 748) dL_law_747 rfl rfl (.tail _ (.tail _ (.head _))) ?_
      refine r_aload_n (i := 0) (pc' := 749) dL_law_748 rfl rfl (.head _) ?_
      refine r_iload_n (i := 3) (pc' := 750) dL_law_749 rfl rfl (.tail _ (.tail _ (.tail _ (.head _)))) ?_
      refine r_iconst (pc' := 751) dL_law_750 rfl ?_
      refine r_iadd (pc' := 752) dL_law_751 rfl ?_
      refine r_sld (pc' := 753) dL_law_752 rfl rfl (by omega) (by omega) (by omega) rfl ?_
      refine r_aload_n (i := 0) (pc' := 754) dL_law_753 rfl rfl (.head _) ?_
      refine r_iload_n (i := 3) (pc' := 755) dL_law_754 rfl rfl (.tail _ (.tail _ (.tail _ (.head _)))) ?_
      refine r_iconst (pc' := 756) dL_law_755 rfl ?_
      refine r_iadd (pc' := 757) dL_law_756 rfl ?_
      refine r_sld (pc' := 758) dL_law_757 rfl rfl (by omega) (by omega) (by omega) rfl ?_
      refine r_aload_n (i := 0) (pc' := 759) dL_law_758 rfl rfl (.head _) ?_
      refine r_iload_n (i := 3) (pc' := 760) dL_law_759 rfl rfl (.tail _ (.tail _ (.tail _ (.head _)))) ?_
      refine r_iconst (pc' := 761) dL_law_760 rfl ?_
      refine r_iadd (pc' := 762) dL_law_761 rfl ?_
      refine r_sld (pc' := 763) dL_law_762 rfl rfl (by omega) (by omega) (by omega) rfl ?_
      refine r_aload_n (i := 0) (pc' := 764) dL_law_763 rfl rfl (.head _) ?_
      refine r_iload_n (i := 3) (pc' := 765) dL_law_764 rfl rfl (.tail _ (.tail _ (.tail _ (.head _)))) ?_
      refine r_iconst (pc' := 766) dL_law_765 rfl ?_
      refine r_iadd (pc' := 767) dL_law_766 rfl ?_
      refine r_sld (pc' := 768) dL_law_767 rfl rfl (by omega) (by omega) (by omega) rfl ?_
      refine r_raw_if_eq (t := 775) (f := 771) dL_law_768 (by decide) rfl (fun h768 => ?_) (fun h768 => ?_)
      · first | (exact absurd hz.symm h779) | (exact absurd h0 h736) | (exact absurd h0 h768) | (exact absurd h736 h0) | (exact absurd h768 h0)
      · refine r_iconst (pc' := 772) dL_law_771 rfl ?_
        refine r_goto (t := 776) dL_law_772 (by decide) ?_
        refine r_V4gi (ci := 12) (pc' := 779) dL_law_776 rfl lL_98 rfl (by decide) (Nat.le_of_ble_eq_true rfl) (by first | assumption | rfl) (by omega) e744 (fun r776 n776 P776 X776 Y776 e776 le776 => ?_)
        obtain ⟨hz, hJ2⟩ := e776
        refine r_raw_icmp_eq (t := 1710) (f := 782) dL_law_779 (by decide) rfl (fun h779 => ?_) (fun h779 => ?_)
        · exact kk _ _ _ _ hJ2
        · first | (exact absurd hz.symm h779) | (exact absurd h0 h736) | (exact absurd h0 h768) | (exact absurd h736 h0) | (exact absurd h768 h0)
set_option maxHeartbeats 4000000 in
set_option maxRecDepth 100000 in
theorem cL_earn {l : Launch} {g : q_G} {n : Nat} {P : q_P} {X : q_X} {Y : q_Y} {K : q_K} {i : Nat} (hL : g.2.2.2.2.2.1 ≤ 3072) (hi : (i : Int) ≤ (g.2.2.2.2.2.1 : Int) - 6) (hJ : J n P X) (kk : ∀ n P X Y, J n P X → q_Tr l g mL_law 11 K 1710 [(0, .ref g.2.2.2.2.1), (1, .ref (g.1 + 0)), (2, .ref (g.1 + 467)), (3, .int (zi (i : Int)))] [] n P X Y) : q_Tr l g mL_law 11 K 784 [(0, .ref g.2.2.2.2.1), (1, .ref (g.1 + 0)), (2, .ref (g.1 + 467)), (3, .int (zi (i : Int)))] [] n P X Y := by
  have hn := hJ.n
  refine r_aload_n (i := 1) (pc' := 785) dL_law_784 rfl rfl (.tail _ (.head _)) ?_
  refine r_aload_n (i := 0) (pc' := 786) dL_law_785 rfl rfl (.head _) ?_
  refine r_iload_n (i := 3) (pc' := 787) dL_law_786 rfl rfl (.tail _ (.tail _ (.tail _ (.head _)))) ?_
  refine r_iconst (pc' := 788) dL_law_787 rfl ?_
  refine r_iadd (pc' := 789) dL_law_788 rfl ?_
  refine r_sld (pc' := 790) dL_law_789 rfl rfl (by omega) (by omega) (by omega) rfl ?_
  refine r_V1gi (ci := 11) (pc' := 793) dL_law_790 rfl lL_99 rfl (by decide) (Nat.le_of_ble_eq_true rfl) (by first | assumption | rfl) (by omega) (j_earn hJ (q_in_of _)) (fun r790 n790 P790 X790 Y790 e790 le790 => ?_)
  refine r_aload_n (i := 2) (pc' := 794) dL_law_793 rfl rfl (.tail _ (.tail _ (.head _))) ?_
  refine r_aload_n (i := 0) (pc' := 795) dL_law_794 rfl rfl (.head _) ?_
  refine r_iload_n (i := 3) (pc' := 796) dL_law_795 rfl rfl (.tail _ (.tail _ (.tail _ (.head _)))) ?_
  refine r_iconst (pc' := 797) dL_law_796 rfl ?_
  refine r_iadd (pc' := 798) dL_law_797 rfl ?_
  refine r_sld (pc' := 799) dL_law_798 rfl rfl (by omega) (by omega) (by omega) rfl ?_
  refine r_V1gi (ci := 12) (pc' := 802) dL_law_799 rfl lL_102 rfl (by decide) (Nat.le_of_ble_eq_true rfl) (by first | assumption | rfl) (by omega) e790 (fun r799 n799 P799 X799 Y799 e799 le799 => ?_)
  obtain ⟨hz, hJ2⟩ := e799
  refine r_raw_icmp_eq (t := 1710) (f := 805) dL_law_802 (by decide) rfl (fun h802 => ?_) (fun h802 => ?_)
  · exact kk _ _ _ _ hJ2
  · exact absurd hz.symm h802
set_option maxHeartbeats 4000000 in
set_option maxRecDepth 100000 in
theorem cL_turn {l : Launch} {g : q_G} {n : Nat} {P : q_P} {X : q_X} {Y : q_Y} {K : q_K} {i : Nat} (hL : g.2.2.2.2.2.1 ≤ 3072) (hi : (i : Int) ≤ (g.2.2.2.2.2.1 : Int) - 6) (hJ : J n P X) (kk : ∀ n P X Y, J n P X → q_Tr l g mL_law 11 K 1710 [(0, .ref g.2.2.2.2.1), (1, .ref (g.1 + 0)), (2, .ref (g.1 + 467)), (3, .int (zi (i : Int)))] [] n P X Y) : q_Tr l g mL_law 11 K 807 [(0, .ref g.2.2.2.2.1), (1, .ref (g.1 + 0)), (2, .ref (g.1 + 467)), (3, .int (zi (i : Int)))] [] n P X Y := by
  have hn := hJ.n
  refine r_aload_n (i := 1) (pc' := 808) dL_law_807 rfl rfl (.tail _ (.head _)) ?_
  refine r_aload_n (i := 0) (pc' := 809) dL_law_808 rfl rfl (.head _) ?_
  refine r_iload_n (i := 3) (pc' := 810) dL_law_809 rfl rfl (.tail _ (.tail _ (.tail _ (.head _)))) ?_
  refine r_iconst (pc' := 811) dL_law_810 rfl ?_
  refine r_iadd (pc' := 812) dL_law_811 rfl ?_
  refine r_sld (pc' := 813) dL_law_812 rfl rfl (by omega) (by omega) (by omega) rfl ?_
  refine r_aload_n (i := 0) (pc' := 814) dL_law_813 rfl rfl (.head _) ?_
  refine r_iload_n (i := 3) (pc' := 815) dL_law_814 rfl rfl (.tail _ (.tail _ (.tail _ (.head _)))) ?_
  refine r_iconst (pc' := 816) dL_law_815 rfl ?_
  refine r_iadd (pc' := 817) dL_law_816 rfl ?_
  refine r_sld (pc' := 818) dL_law_817 rfl rfl (by omega) (by omega) (by omega) rfl ?_
  refine r_V2gi (ci := 11) (pc' := 821) dL_law_818 rfl lL_103 rfl (by decide) (Nat.le_of_ble_eq_true rfl) (by first | assumption | rfl) (by omega) (j_turn hJ (q_in_of _) (q_in_of _)) (fun r818 n818 P818 X818 Y818 e818 le818 => ?_)
  refine r_aload_n (i := 2) (pc' := 822) dL_law_821 rfl rfl (.tail _ (.tail _ (.head _))) ?_
  refine r_aload_n (i := 0) (pc' := 823) dL_law_822 rfl rfl (.head _) ?_
  refine r_iload_n (i := 3) (pc' := 824) dL_law_823 rfl rfl (.tail _ (.tail _ (.tail _ (.head _)))) ?_
  refine r_iconst (pc' := 825) dL_law_824 rfl ?_
  refine r_iadd (pc' := 826) dL_law_825 rfl ?_
  refine r_sld (pc' := 827) dL_law_826 rfl rfl (by omega) (by omega) (by omega) rfl ?_
  refine r_aload_n (i := 0) (pc' := 828) dL_law_827 rfl rfl (.head _) ?_
  refine r_iload_n (i := 3) (pc' := 829) dL_law_828 rfl rfl (.tail _ (.tail _ (.tail _ (.head _)))) ?_
  refine r_iconst (pc' := 830) dL_law_829 rfl ?_
  refine r_iadd (pc' := 831) dL_law_830 rfl ?_
  refine r_sld (pc' := 832) dL_law_831 rfl rfl (by omega) (by omega) (by omega) rfl ?_
  refine r_V2gi (ci := 12) (pc' := 835) dL_law_832 rfl lL_106 rfl (by decide) (Nat.le_of_ble_eq_true rfl) (by first | assumption | rfl) (by omega) e818 (fun r832 n832 P832 X832 Y832 e832 le832 => ?_)
  obtain ⟨hz, hJ2⟩ := e832
  refine r_raw_icmp_eq (t := 1710) (f := 838) dL_law_835 (by decide) rfl (fun h835 => ?_) (fun h835 => ?_)
  · exact kk _ _ _ _ hJ2
  · exact absurd hz.symm h835
set_option maxHeartbeats 4000000 in
set_option maxRecDepth 100000 in
theorem cL_longer {l : Launch} {g : q_G} {n : Nat} {P : q_P} {X : q_X} {Y : q_Y} {K : q_K} {i : Nat} (hL : g.2.2.2.2.2.1 ≤ 3072) (hi : (i : Int) ≤ (g.2.2.2.2.2.1 : Int) - 6) (hJ : J n P X) (kk : ∀ n P X Y, J n P X → q_Tr l g mL_law 11 K 1710 [(0, .ref g.2.2.2.2.1), (1, .ref (g.1 + 0)), (2, .ref (g.1 + 467)), (3, .int (zi (i : Int)))] [] n P X Y) : q_Tr l g mL_law 11 K 840 [(0, .ref g.2.2.2.2.1), (1, .ref (g.1 + 0)), (2, .ref (g.1 + 467)), (3, .int (zi (i : Int)))] [] n P X Y := by
  have hn := hJ.n
  refine r_aload_n (i := 1) (pc' := 841) dL_law_840 rfl rfl (.tail _ (.head _)) ?_
  refine r_aload_n (i := 0) (pc' := 842) dL_law_841 rfl rfl (.head _) ?_
  refine r_iload_n (i := 3) (pc' := 843) dL_law_842 rfl rfl (.tail _ (.tail _ (.tail _ (.head _)))) ?_
  refine r_iconst (pc' := 844) dL_law_843 rfl ?_
  refine r_iadd (pc' := 845) dL_law_844 rfl ?_
  refine r_sld (pc' := 846) dL_law_845 rfl rfl (by omega) (by omega) (by omega) rfl ?_
  refine r_aload_n (i := 0) (pc' := 847) dL_law_846 rfl rfl (.head _) ?_
  refine r_iload_n (i := 3) (pc' := 848) dL_law_847 rfl rfl (.tail _ (.tail _ (.tail _ (.head _)))) ?_
  refine r_iconst (pc' := 849) dL_law_848 rfl ?_
  refine r_iadd (pc' := 850) dL_law_849 rfl ?_
  refine r_sld (pc' := 851) dL_law_850 rfl rfl (by omega) (by omega) (by omega) rfl ?_
  refine r_aload_n (i := 0) (pc' := 852) dL_law_851 rfl rfl (.head _) ?_
  refine r_iload_n (i := 3) (pc' := 853) dL_law_852 rfl rfl (.tail _ (.tail _ (.tail _ (.head _)))) ?_
  refine r_iconst (pc' := 854) dL_law_853 rfl ?_
  refine r_iadd (pc' := 855) dL_law_854 rfl ?_
  refine r_sld (pc' := 856) dL_law_855 rfl rfl (by omega) (by omega) (by omega) rfl ?_
  refine r_aload_n (i := 0) (pc' := 857) dL_law_856 rfl rfl (.head _) ?_
  refine r_iload_n (i := 3) (pc' := 858) dL_law_857 rfl rfl (.tail _ (.tail _ (.tail _ (.head _)))) ?_
  refine r_iconst (pc' := 859) dL_law_858 rfl ?_
  refine r_iadd (pc' := 860) dL_law_859 rfl ?_
  refine r_sld (pc' := 861) dL_law_860 rfl rfl (by omega) (by omega) (by omega) rfl ?_
  refine r_V4gi (ci := 11) (pc' := 864) dL_law_861 rfl lL_107 rfl (by decide) (Nat.le_of_ble_eq_true rfl) (by first | assumption | rfl) (by omega) (j_longer hJ (q_in_of _) (q_in_of _) (q_in_of _) (q_in_of _)) (fun r861 n861 P861 X861 Y861 e861 le861 => ?_)
  refine r_aload_n (i := 2) (pc' := 865) dL_law_864 rfl rfl (.tail _ (.tail _ (.head _))) ?_
  refine r_aload_n (i := 0) (pc' := 866) dL_law_865 rfl rfl (.head _) ?_
  refine r_iload_n (i := 3) (pc' := 867) dL_law_866 rfl rfl (.tail _ (.tail _ (.tail _ (.head _)))) ?_
  refine r_iconst (pc' := 868) dL_law_867 rfl ?_
  refine r_iadd (pc' := 869) dL_law_868 rfl ?_
  refine r_sld (pc' := 870) dL_law_869 rfl rfl (by omega) (by omega) (by omega) rfl ?_
  refine r_aload_n (i := 0) (pc' := 871) dL_law_870 rfl rfl (.head _) ?_
  refine r_iload_n (i := 3) (pc' := 872) dL_law_871 rfl rfl (.tail _ (.tail _ (.tail _ (.head _)))) ?_
  refine r_iconst (pc' := 873) dL_law_872 rfl ?_
  refine r_iadd (pc' := 874) dL_law_873 rfl ?_
  refine r_sld (pc' := 875) dL_law_874 rfl rfl (by omega) (by omega) (by omega) rfl ?_
  refine r_aload_n (i := 0) (pc' := 876) dL_law_875 rfl rfl (.head _) ?_
  refine r_iload_n (i := 3) (pc' := 877) dL_law_876 rfl rfl (.tail _ (.tail _ (.tail _ (.head _)))) ?_
  refine r_iconst (pc' := 878) dL_law_877 rfl ?_
  refine r_iadd (pc' := 879) dL_law_878 rfl ?_
  refine r_sld (pc' := 880) dL_law_879 rfl rfl (by omega) (by omega) (by omega) rfl ?_
  refine r_aload_n (i := 0) (pc' := 881) dL_law_880 rfl rfl (.head _) ?_
  refine r_iload_n (i := 3) (pc' := 882) dL_law_881 rfl rfl (.tail _ (.tail _ (.tail _ (.head _)))) ?_
  refine r_iconst (pc' := 883) dL_law_882 rfl ?_
  refine r_iadd (pc' := 884) dL_law_883 rfl ?_
  refine r_sld (pc' := 885) dL_law_884 rfl rfl (by omega) (by omega) (by omega) rfl ?_
  refine r_V4gi (ci := 12) (pc' := 888) dL_law_885 rfl lL_111 rfl (by decide) (Nat.le_of_ble_eq_true rfl) (by first | assumption | rfl) (by omega) e861 (fun r885 n885 P885 X885 Y885 e885 le885 => ?_)
  obtain ⟨hz, hJ2⟩ := e885
  refine r_raw_icmp_eq (t := 1710) (f := 891) dL_law_888 (by decide) rfl (fun h888 => ?_) (fun h888 => ?_)
  · exact kk _ _ _ _ hJ2
  · exact absurd hz.symm h888
set_option maxHeartbeats 4000000 in
set_option maxRecDepth 100000 in
theorem cL_lower {l : Launch} {g : q_G} {n : Nat} {P : q_P} {X : q_X} {Y : q_Y} {K : q_K} {i : Nat} (hL : g.2.2.2.2.2.1 ≤ 3072) (hi : (i : Int) ≤ (g.2.2.2.2.2.1 : Int) - 6) (hJ : J n P X) (kk : ∀ n P X Y, J n P X → q_Tr l g mL_law 11 K 1710 [(0, .ref g.2.2.2.2.1), (1, .ref (g.1 + 0)), (2, .ref (g.1 + 467)), (3, .int (zi (i : Int)))] [] n P X Y) : q_Tr l g mL_law 11 K 893 [(0, .ref g.2.2.2.2.1), (1, .ref (g.1 + 0)), (2, .ref (g.1 + 467)), (3, .int (zi (i : Int)))] [] n P X Y := by
  have hn := hJ.n
  refine r_aload_n (i := 1) (pc' := 894) dL_law_893 rfl rfl (.tail _ (.head _)) ?_
  refine r_aload_n (i := 0) (pc' := 895) dL_law_894 rfl rfl (.head _) ?_
  refine r_iload_n (i := 3) (pc' := 896) dL_law_895 rfl rfl (.tail _ (.tail _ (.tail _ (.head _)))) ?_
  refine r_iconst (pc' := 897) dL_law_896 rfl ?_
  refine r_iadd (pc' := 898) dL_law_897 rfl ?_
  refine r_sld (pc' := 899) dL_law_898 rfl rfl (by omega) (by omega) (by omega) rfl ?_
  refine r_aload_n (i := 0) (pc' := 900) dL_law_899 rfl rfl (.head _) ?_
  refine r_iload_n (i := 3) (pc' := 901) dL_law_900 rfl rfl (.tail _ (.tail _ (.tail _ (.head _)))) ?_
  refine r_iconst (pc' := 902) dL_law_901 rfl ?_
  refine r_iadd (pc' := 903) dL_law_902 rfl ?_
  refine r_sld (pc' := 904) dL_law_903 rfl rfl (by omega) (by omega) (by omega) rfl ?_
  refine r_V2gi (ci := 11) (pc' := 907) dL_law_904 rfl lL_112 rfl (by decide) (Nat.le_of_ble_eq_true rfl) (by first | assumption | rfl) (by omega) (j_lower hJ (q_in_of _) (q_in_of _)) (fun r904 n904 P904 X904 Y904 e904 le904 => ?_)
  refine r_aload_n (i := 2) (pc' := 908) dL_law_907 rfl rfl (.tail _ (.tail _ (.head _))) ?_
  refine r_aload_n (i := 0) (pc' := 909) dL_law_908 rfl rfl (.head _) ?_
  refine r_iload_n (i := 3) (pc' := 910) dL_law_909 rfl rfl (.tail _ (.tail _ (.tail _ (.head _)))) ?_
  refine r_iconst (pc' := 911) dL_law_910 rfl ?_
  refine r_iadd (pc' := 912) dL_law_911 rfl ?_
  refine r_sld (pc' := 913) dL_law_912 rfl rfl (by omega) (by omega) (by omega) rfl ?_
  refine r_aload_n (i := 0) (pc' := 914) dL_law_913 rfl rfl (.head _) ?_
  refine r_iload_n (i := 3) (pc' := 915) dL_law_914 rfl rfl (.tail _ (.tail _ (.tail _ (.head _)))) ?_
  refine r_iconst (pc' := 916) dL_law_915 rfl ?_
  refine r_iadd (pc' := 917) dL_law_916 rfl ?_
  refine r_sld (pc' := 918) dL_law_917 rfl rfl (by omega) (by omega) (by omega) rfl ?_
  refine r_V2gi (ci := 12) (pc' := 921) dL_law_918 rfl lL_115 rfl (by decide) (Nat.le_of_ble_eq_true rfl) (by first | assumption | rfl) (by omega) e904 (fun r918 n918 P918 X918 Y918 e918 le918 => ?_)
  obtain ⟨hz, hJ2⟩ := e918
  refine r_raw_icmp_eq (t := 1710) (f := 924) dL_law_921 (by decide) rfl (fun h921 => ?_) (fun h921 => ?_)
  · exact kk _ _ _ _ hJ2
  · exact absurd hz.symm h921
set_option maxHeartbeats 4000000 in
set_option maxRecDepth 100000 in
theorem cL_days {l : Launch} {g : q_G} {n : Nat} {P : q_P} {X : q_X} {Y : q_Y} {K : q_K} {i : Nat} (hL : g.2.2.2.2.2.1 ≤ 3072) (hi : (i : Int) ≤ (g.2.2.2.2.2.1 : Int) - 6) (hJ : J n P X) (kk : ∀ n P X Y, J n P X → q_Tr l g mL_law 11 K 1710 [(0, .ref g.2.2.2.2.1), (1, .ref (g.1 + 0)), (2, .ref (g.1 + 467)), (3, .int (zi (i : Int)))] [] n P X Y) : q_Tr l g mL_law 11 K 926 [(0, .ref g.2.2.2.2.1), (1, .ref (g.1 + 0)), (2, .ref (g.1 + 467)), (3, .int (zi (i : Int)))] [] n P X Y := by
  have hn := hJ.n
  refine r_aload_n (i := 1) (pc' := 927) dL_law_926 rfl rfl (.tail _ (.head _)) ?_
  refine r_aload_n (i := 0) (pc' := 928) dL_law_927 rfl rfl (.head _) ?_
  refine r_iload_n (i := 3) (pc' := 929) dL_law_928 rfl rfl (.tail _ (.tail _ (.tail _ (.head _)))) ?_
  refine r_iconst (pc' := 930) dL_law_929 rfl ?_
  refine r_iadd (pc' := 931) dL_law_930 rfl ?_
  refine r_sld (pc' := 932) dL_law_931 rfl rfl (by omega) (by omega) (by omega) rfl ?_
  refine r_V1gi (ci := 11) (pc' := 935) dL_law_932 rfl lL_116 rfl (by decide) (Nat.le_of_ble_eq_true rfl) (by first | assumption | rfl) (by omega) (j_days hJ (q_in_of _)) (fun r932 n932 P932 X932 Y932 e932 le932 => ?_)
  refine r_aload_n (i := 2) (pc' := 936) dL_law_935 rfl rfl (.tail _ (.tail _ (.head _))) ?_
  refine r_aload_n (i := 0) (pc' := 937) dL_law_936 rfl rfl (.head _) ?_
  refine r_iload_n (i := 3) (pc' := 938) dL_law_937 rfl rfl (.tail _ (.tail _ (.tail _ (.head _)))) ?_
  refine r_iconst (pc' := 939) dL_law_938 rfl ?_
  refine r_iadd (pc' := 940) dL_law_939 rfl ?_
  refine r_sld (pc' := 941) dL_law_940 rfl rfl (by omega) (by omega) (by omega) rfl ?_
  refine r_V1gi (ci := 12) (pc' := 944) dL_law_941 rfl lL_119 rfl (by decide) (Nat.le_of_ble_eq_true rfl) (by first | assumption | rfl) (by omega) e932 (fun r941 n941 P941 X941 Y941 e941 le941 => ?_)
  obtain ⟨hz, hJ2⟩ := e941
  refine r_raw_icmp_eq (t := 1710) (f := 947) dL_law_944 (by decide) rfl (fun h944 => ?_) (fun h944 => ?_)
  · exact kk _ _ _ _ hJ2
  · exact absurd hz.symm h944
set_option maxHeartbeats 4000000 in
set_option maxRecDepth 100000 in
theorem cL_year {l : Launch} {g : q_G} {n : Nat} {P : q_P} {X : q_X} {Y : q_Y} {K : q_K} {i : Nat} (hL : g.2.2.2.2.2.1 ≤ 3072) (hi : (i : Int) ≤ (g.2.2.2.2.2.1 : Int) - 6) (hJ : J n P X) (kk : ∀ n P X Y, J n P X → q_Tr l g mL_law 11 K 1710 [(0, .ref g.2.2.2.2.1), (1, .ref (g.1 + 0)), (2, .ref (g.1 + 467)), (3, .int (zi (i : Int)))] [] n P X Y) : q_Tr l g mL_law 11 K 949 [(0, .ref g.2.2.2.2.1), (1, .ref (g.1 + 0)), (2, .ref (g.1 + 467)), (3, .int (zi (i : Int)))] [] n P X Y := by
  have hn := hJ.n
  refine r_aload_n (i := 1) (pc' := 950) dL_law_949 rfl rfl (.tail _ (.head _)) ?_
  refine r_V0gi (ci := 11) (pc' := 953) dL_law_950 rfl lL_120 rfl (by decide) (Nat.le_of_ble_eq_true rfl) (by first | assumption | rfl) (by omega) (j_year hJ) (fun r950 n950 P950 X950 Y950 e950 le950 => ?_)
  refine r_aload_n (i := 2) (pc' := 954) dL_law_953 rfl rfl (.tail _ (.tail _ (.head _))) ?_
  refine r_V0gi (ci := 12) (pc' := 957) dL_law_954 rfl lL_123 rfl (by decide) (Nat.le_of_ble_eq_true rfl) (by first | assumption | rfl) (by omega) e950 (fun r954 n954 P954 X954 Y954 e954 le954 => ?_)
  obtain ⟨hz, hJ2⟩ := e954
  refine r_raw_icmp_eq (t := 1710) (f := 960) dL_law_957 (by decide) rfl (fun h957 => ?_) (fun h957 => ?_)
  · exact kk _ _ _ _ hJ2
  · exact absurd hz.symm h957
set_option maxHeartbeats 4000000 in
set_option maxRecDepth 100000 in
theorem cL_says {l : Launch} {g : q_G} {n : Nat} {P : q_P} {X : q_X} {Y : q_Y} {K : q_K} {i : Nat} (hL : g.2.2.2.2.2.1 ≤ 3072) (hi : (i : Int) ≤ (g.2.2.2.2.2.1 : Int) - 6) (hJ : J n P X) (kk : ∀ n P X Y, J n P X → q_Tr l g mL_law 11 K 1710 [(0, .ref g.2.2.2.2.1), (1, .ref (g.1 + 0)), (2, .ref (g.1 + 467)), (3, .int (zi (i : Int)))] [] n P X Y) : q_Tr l g mL_law 11 K 962 [(0, .ref g.2.2.2.2.1), (1, .ref (g.1 + 0)), (2, .ref (g.1 + 467)), (3, .int (zi (i : Int)))] [] n P X Y := by
  have hn := hJ.n
  refine r_aload_n (i := 1) (pc' := 963) dL_law_962 rfl rfl (.tail _ (.head _)) ?_
  refine r_aload_n (i := 0) (pc' := 964) dL_law_963 rfl rfl (.head _) ?_
  refine r_iload_n (i := 3) (pc' := 965) dL_law_964 rfl rfl (.tail _ (.tail _ (.tail _ (.head _)))) ?_
  refine r_iconst (pc' := 966) dL_law_965 rfl ?_
  refine r_iadd (pc' := 967) dL_law_966 rfl ?_
  refine r_sld (pc' := 968) dL_law_967 rfl rfl (by omega) (by omega) (by omega) rfl ?_
  refine r_V1gl (ci := 11) (pc' := 971) dL_law_968 rfl lL_124 rfl (by decide) (Nat.le_of_ble_eq_true rfl) (by first | assumption | rfl) (by omega) (j_says hJ (q_in_of _)) (fun r968 n968 P968 X968 Y968 e968 le968 => ?_)
  refine r_aload_n (i := 2) (pc' := 972) dL_law_971 rfl rfl (.tail _ (.tail _ (.head _))) ?_
  refine r_aload_n (i := 0) (pc' := 973) dL_law_972 rfl rfl (.head _) ?_
  refine r_iload_n (i := 3) (pc' := 974) dL_law_973 rfl rfl (.tail _ (.tail _ (.tail _ (.head _)))) ?_
  refine r_iconst (pc' := 975) dL_law_974 rfl ?_
  refine r_iadd (pc' := 976) dL_law_975 rfl ?_
  refine r_sld (pc' := 977) dL_law_976 rfl rfl (by omega) (by omega) (by omega) rfl ?_
  refine r_V1gl (ci := 12) (pc' := 980) dL_law_977 rfl lL_128 rfl (by decide) (Nat.le_of_ble_eq_true rfl) (by first | assumption | rfl) (by omega) e968 (fun r977 n977 P977 X977 Y977 e977 le977 => ?_)
  obtain ⟨hz, hJ2⟩ := e977
  refine r_lcmp (pc' := 981) dL_law_980 rfl ?_
  refine r_raw_if_eq (t := 1710) (f := 984) dL_law_981 (by decide) rfl (fun h981 => ?_) (fun h981 => ?_)
  · exact kk _ _ _ _ hJ2
  · exact absurd (by rw [hz]; exact lg_cmp_self _) h981
set_option maxHeartbeats 4000000 in
set_option maxRecDepth 100000 in
theorem cL_byPolicy {l : Launch} {g : q_G} {n : Nat} {P : q_P} {X : q_X} {Y : q_Y} {K : q_K} {i : Nat} (hL : g.2.2.2.2.2.1 ≤ 3072) (hi : (i : Int) ≤ (g.2.2.2.2.2.1 : Int) - 6) (hJ : J n P X) (kk : ∀ n P X Y, J n P X → q_Tr l g mL_law 11 K 1710 [(0, .ref g.2.2.2.2.1), (1, .ref (g.1 + 0)), (2, .ref (g.1 + 467)), (3, .int (zi (i : Int)))] [] n P X Y) : q_Tr l g mL_law 11 K 986 [(0, .ref g.2.2.2.2.1), (1, .ref (g.1 + 0)), (2, .ref (g.1 + 467)), (3, .int (zi (i : Int)))] [] n P X Y := by
  have hn := hJ.n
  refine r_aload_n (i := 1) (pc' := 987) dL_law_986 rfl rfl (.tail _ (.head _)) ?_
  refine r_aload_n (i := 0) (pc' := 988) dL_law_987 rfl rfl (.head _) ?_
  refine r_iload_n (i := 3) (pc' := 989) dL_law_988 rfl rfl (.tail _ (.tail _ (.tail _ (.head _)))) ?_
  refine r_iconst (pc' := 990) dL_law_989 rfl ?_
  refine r_iadd (pc' := 991) dL_law_990 rfl ?_
  refine r_sld (pc' := 992) dL_law_991 rfl rfl (by omega) (by omega) (by omega) rfl ?_
  refine r_V1gi (ci := 11) (pc' := 995) dL_law_992 rfl lL_129 rfl (by decide) (Nat.le_of_ble_eq_true rfl) (by first | assumption | rfl) (by omega) (j_byPolicy hJ (q_in_of _)) (fun r992 n992 P992 X992 Y992 e992 le992 => ?_)
  refine r_aload_n (i := 2) (pc' := 996) dL_law_995 rfl rfl (.tail _ (.tail _ (.head _))) ?_
  refine r_aload_n (i := 0) (pc' := 997) dL_law_996 rfl rfl (.head _) ?_
  refine r_iload_n (i := 3) (pc' := 998) dL_law_997 rfl rfl (.tail _ (.tail _ (.tail _ (.head _)))) ?_
  refine r_iconst (pc' := 999) dL_law_998 rfl ?_
  refine r_iadd (pc' := 1000) dL_law_999 rfl ?_
  refine r_sld (pc' := 1001) dL_law_1000 rfl rfl (by omega) (by omega) (by omega) rfl ?_
  refine r_V1gi (ci := 12) (pc' := 1004) dL_law_1001 rfl lL_132 rfl (by decide) (Nat.le_of_ble_eq_true rfl) (by first | assumption | rfl) (by omega) e992 (fun r1001 n1001 P1001 X1001 Y1001 e1001 le1001 => ?_)
  obtain ⟨hz, hJ2⟩ := e1001
  refine r_raw_icmp_eq (t := 1710) (f := 1007) dL_law_1004 (by decide) rfl (fun h1004 => ?_) (fun h1004 => ?_)
  · exact kk _ _ _ _ hJ2
  · exact absurd hz.symm h1004
set_option maxHeartbeats 4000000 in
set_option maxRecDepth 100000 in
theorem cL_set {l : Launch} {g : q_G} {n : Nat} {P : q_P} {X : q_X} {Y : q_Y} {K : q_K} {i : Nat} (hL : g.2.2.2.2.2.1 ≤ 3072) (hi : (i : Int) ≤ (g.2.2.2.2.2.1 : Int) - 6) (hJ : J n P X) (kk : ∀ n P X Y, J n P X → q_Tr l g mL_law 11 K 1710 [(0, .ref g.2.2.2.2.1), (1, .ref (g.1 + 0)), (2, .ref (g.1 + 467)), (3, .int (zi (i : Int)))] [] n P X Y) : q_Tr l g mL_law 11 K 1009 [(0, .ref g.2.2.2.2.1), (1, .ref (g.1 + 0)), (2, .ref (g.1 + 467)), (3, .int (zi (i : Int)))] [] n P X Y := by
  have hn := hJ.n
  refine r_aload_n (i := 1) (pc' := 1010) dL_law_1009 rfl rfl (.tail _ (.head _)) ?_
  refine r_aload_n (i := 0) (pc' := 1011) dL_law_1010 rfl rfl (.head _) ?_
  refine r_iload_n (i := 3) (pc' := 1012) dL_law_1011 rfl rfl (.tail _ (.tail _ (.tail _ (.head _)))) ?_
  refine r_iconst (pc' := 1013) dL_law_1012 rfl ?_
  refine r_iadd (pc' := 1014) dL_law_1013 rfl ?_
  refine r_sld (pc' := 1015) dL_law_1014 rfl rfl (by omega) (by omega) (by omega) rfl ?_
  refine r_aload_n (i := 0) (pc' := 1016) dL_law_1015 rfl rfl (.head _) ?_
  refine r_iload_n (i := 3) (pc' := 1017) dL_law_1016 rfl rfl (.tail _ (.tail _ (.tail _ (.head _)))) ?_
  refine r_iconst (pc' := 1018) dL_law_1017 rfl ?_
  refine r_iadd (pc' := 1019) dL_law_1018 rfl ?_
  refine r_sld (pc' := 1020) dL_law_1019 rfl rfl (by omega) (by omega) (by omega) rfl ?_
  refine r_V2gi (ci := 11) (pc' := 1023) dL_law_1020 rfl lL_133 rfl (by decide) (Nat.le_of_ble_eq_true rfl) (by first | assumption | rfl) (by omega) (j_set hJ (q_in_of _) (q_in_of _)) (fun r1020 n1020 P1020 X1020 Y1020 e1020 le1020 => ?_)
  refine r_aload_n (i := 2) (pc' := 1024) dL_law_1023 rfl rfl (.tail _ (.tail _ (.head _))) ?_
  refine r_aload_n (i := 0) (pc' := 1025) dL_law_1024 rfl rfl (.head _) ?_
  refine r_iload_n (i := 3) (pc' := 1026) dL_law_1025 rfl rfl (.tail _ (.tail _ (.tail _ (.head _)))) ?_
  refine r_iconst (pc' := 1027) dL_law_1026 rfl ?_
  refine r_iadd (pc' := 1028) dL_law_1027 rfl ?_
  refine r_sld (pc' := 1029) dL_law_1028 rfl rfl (by omega) (by omega) (by omega) rfl ?_
  refine r_aload_n (i := 0) (pc' := 1030) dL_law_1029 rfl rfl (.head _) ?_
  refine r_iload_n (i := 3) (pc' := 1031) dL_law_1030 rfl rfl (.tail _ (.tail _ (.tail _ (.head _)))) ?_
  refine r_iconst (pc' := 1032) dL_law_1031 rfl ?_
  refine r_iadd (pc' := 1033) dL_law_1032 rfl ?_
  refine r_sld (pc' := 1034) dL_law_1033 rfl rfl (by omega) (by omega) (by omega) rfl ?_
  refine r_V2gi (ci := 12) (pc' := 1037) dL_law_1034 rfl lL_136 rfl (by decide) (Nat.le_of_ble_eq_true rfl) (by first | assumption | rfl) (by omega) e1020 (fun r1034 n1034 P1034 X1034 Y1034 e1034 le1034 => ?_)
  obtain ⟨hz, hJ2⟩ := e1034
  refine r_raw_icmp_eq (t := 1710) (f := 1040) dL_law_1037 (by decide) rfl (fun h1037 => ?_) (fun h1037 => ?_)
  · exact kk _ _ _ _ hJ2
  · exact absurd hz.symm h1037
set_option maxHeartbeats 4000000 in
set_option maxRecDepth 100000 in
theorem cL_turned {l : Launch} {g : q_G} {n : Nat} {P : q_P} {X : q_X} {Y : q_Y} {K : q_K} {i : Nat} (hL : g.2.2.2.2.2.1 ≤ 3072) (hi : (i : Int) ≤ (g.2.2.2.2.2.1 : Int) - 6) (hJ : J n P X) (kk : ∀ n P X Y, J n P X → q_Tr l g mL_law 11 K 1710 [(0, .ref g.2.2.2.2.1), (1, .ref (g.1 + 0)), (2, .ref (g.1 + 467)), (3, .int (zi (i : Int)))] [] n P X Y) : q_Tr l g mL_law 11 K 1042 [(0, .ref g.2.2.2.2.1), (1, .ref (g.1 + 0)), (2, .ref (g.1 + 467)), (3, .int (zi (i : Int)))] [] n P X Y := by
  have hn := hJ.n
  refine r_aload_n (i := 1) (pc' := 1043) dL_law_1042 rfl rfl (.tail _ (.head _)) ?_
  refine r_aload_n (i := 0) (pc' := 1044) dL_law_1043 rfl rfl (.head _) ?_
  refine r_iload_n (i := 3) (pc' := 1045) dL_law_1044 rfl rfl (.tail _ (.tail _ (.tail _ (.head _)))) ?_
  refine r_iconst (pc' := 1046) dL_law_1045 rfl ?_
  refine r_iadd (pc' := 1047) dL_law_1046 rfl ?_
  refine r_sld (pc' := 1048) dL_law_1047 rfl rfl (by omega) (by omega) (by omega) rfl ?_
  refine r_aload_n (i := 0) (pc' := 1049) dL_law_1048 rfl rfl (.head _) ?_
  refine r_iload_n (i := 3) (pc' := 1050) dL_law_1049 rfl rfl (.tail _ (.tail _ (.tail _ (.head _)))) ?_
  refine r_iconst (pc' := 1051) dL_law_1050 rfl ?_
  refine r_iadd (pc' := 1052) dL_law_1051 rfl ?_
  refine r_sld (pc' := 1053) dL_law_1052 rfl rfl (by omega) (by omega) (by omega) rfl ?_
  refine r_V2gi (ci := 11) (pc' := 1056) dL_law_1053 rfl lL_137 rfl (by decide) (Nat.le_of_ble_eq_true rfl) (by first | assumption | rfl) (by omega) (j_turned hJ (q_in_of _) (q_in_of _)) (fun r1053 n1053 P1053 X1053 Y1053 e1053 le1053 => ?_)
  refine r_aload_n (i := 2) (pc' := 1057) dL_law_1056 rfl rfl (.tail _ (.tail _ (.head _))) ?_
  refine r_aload_n (i := 0) (pc' := 1058) dL_law_1057 rfl rfl (.head _) ?_
  refine r_iload_n (i := 3) (pc' := 1059) dL_law_1058 rfl rfl (.tail _ (.tail _ (.tail _ (.head _)))) ?_
  refine r_iconst (pc' := 1060) dL_law_1059 rfl ?_
  refine r_iadd (pc' := 1061) dL_law_1060 rfl ?_
  refine r_sld (pc' := 1062) dL_law_1061 rfl rfl (by omega) (by omega) (by omega) rfl ?_
  refine r_aload_n (i := 0) (pc' := 1063) dL_law_1062 rfl rfl (.head _) ?_
  refine r_iload_n (i := 3) (pc' := 1064) dL_law_1063 rfl rfl (.tail _ (.tail _ (.tail _ (.head _)))) ?_
  refine r_iconst (pc' := 1065) dL_law_1064 rfl ?_
  refine r_iadd (pc' := 1066) dL_law_1065 rfl ?_
  refine r_sld (pc' := 1067) dL_law_1066 rfl rfl (by omega) (by omega) (by omega) rfl ?_
  refine r_V2gi (ci := 12) (pc' := 1070) dL_law_1067 rfl lL_140 rfl (by decide) (Nat.le_of_ble_eq_true rfl) (by first | assumption | rfl) (by omega) e1053 (fun r1067 n1067 P1067 X1067 Y1067 e1067 le1067 => ?_)
  obtain ⟨hz, hJ2⟩ := e1067
  refine r_raw_icmp_eq (t := 1710) (f := 1073) dL_law_1070 (by decide) rfl (fun h1070 => ?_) (fun h1070 => ?_)
  · exact kk _ _ _ _ hJ2
  · exact absurd hz.symm h1070
set_option maxHeartbeats 4000000 in
set_option maxRecDepth 100000 in
theorem cL_ahead {l : Launch} {g : q_G} {n : Nat} {P : q_P} {X : q_X} {Y : q_Y} {K : q_K} {i : Nat} (hL : g.2.2.2.2.2.1 ≤ 3072) (hi : (i : Int) ≤ (g.2.2.2.2.2.1 : Int) - 6) (hJ : J n P X) (kk : ∀ n P X Y, J n P X → q_Tr l g mL_law 11 K 1710 [(0, .ref g.2.2.2.2.1), (1, .ref (g.1 + 0)), (2, .ref (g.1 + 467)), (3, .int (zi (i : Int)))] [] n P X Y) : q_Tr l g mL_law 11 K 1075 [(0, .ref g.2.2.2.2.1), (1, .ref (g.1 + 0)), (2, .ref (g.1 + 467)), (3, .int (zi (i : Int)))] [] n P X Y := by
  have hn := hJ.n
  refine r_aload_n (i := 1) (pc' := 1076) dL_law_1075 rfl rfl (.tail _ (.head _)) ?_
  refine r_aload_n (i := 0) (pc' := 1077) dL_law_1076 rfl rfl (.head _) ?_
  refine r_iload_n (i := 3) (pc' := 1078) dL_law_1077 rfl rfl (.tail _ (.tail _ (.tail _ (.head _)))) ?_
  refine r_iconst (pc' := 1079) dL_law_1078 rfl ?_
  refine r_iadd (pc' := 1080) dL_law_1079 rfl ?_
  refine r_sld (pc' := 1081) dL_law_1080 rfl rfl (by omega) (by omega) (by omega) rfl ?_
  refine r_V1gi (ci := 11) (pc' := 1084) dL_law_1081 rfl lL_141 rfl (by decide) (Nat.le_of_ble_eq_true rfl) (by first | assumption | rfl) (by omega) (j_ahead hJ (q_in_of _)) (fun r1081 n1081 P1081 X1081 Y1081 e1081 le1081 => ?_)
  refine r_aload_n (i := 2) (pc' := 1085) dL_law_1084 rfl rfl (.tail _ (.tail _ (.head _))) ?_
  refine r_aload_n (i := 0) (pc' := 1086) dL_law_1085 rfl rfl (.head _) ?_
  refine r_iload_n (i := 3) (pc' := 1087) dL_law_1086 rfl rfl (.tail _ (.tail _ (.tail _ (.head _)))) ?_
  refine r_iconst (pc' := 1088) dL_law_1087 rfl ?_
  refine r_iadd (pc' := 1089) dL_law_1088 rfl ?_
  refine r_sld (pc' := 1090) dL_law_1089 rfl rfl (by omega) (by omega) (by omega) rfl ?_
  refine r_V1gi (ci := 12) (pc' := 1093) dL_law_1090 rfl lL_144 rfl (by decide) (Nat.le_of_ble_eq_true rfl) (by first | assumption | rfl) (by omega) e1081 (fun r1090 n1090 P1090 X1090 Y1090 e1090 le1090 => ?_)
  obtain ⟨hz, hJ2⟩ := e1090
  refine r_raw_icmp_eq (t := 1710) (f := 1096) dL_law_1093 (by decide) rfl (fun h1093 => ?_) (fun h1093 => ?_)
  · exact kk _ _ _ _ hJ2
  · exact absurd hz.symm h1093
set_option maxHeartbeats 4000000 in
set_option maxRecDepth 100000 in
theorem cL_bestDay {l : Launch} {g : q_G} {n : Nat} {P : q_P} {X : q_X} {Y : q_Y} {K : q_K} {i : Nat} (hL : g.2.2.2.2.2.1 ≤ 3072) (hi : (i : Int) ≤ (g.2.2.2.2.2.1 : Int) - 6) (hJ : J n P X) (kk : ∀ n P X Y, J n P X → q_Tr l g mL_law 11 K 1710 [(0, .ref g.2.2.2.2.1), (1, .ref (g.1 + 0)), (2, .ref (g.1 + 467)), (3, .int (zi (i : Int)))] [] n P X Y) : q_Tr l g mL_law 11 K 1098 [(0, .ref g.2.2.2.2.1), (1, .ref (g.1 + 0)), (2, .ref (g.1 + 467)), (3, .int (zi (i : Int)))] [] n P X Y := by
  have hn := hJ.n
  refine r_aload_n (i := 1) (pc' := 1099) dL_law_1098 rfl rfl (.tail _ (.head _)) ?_
  refine r_aload_n (i := 0) (pc' := 1100) dL_law_1099 rfl rfl (.head _) ?_
  refine r_iload_n (i := 3) (pc' := 1101) dL_law_1100 rfl rfl (.tail _ (.tail _ (.tail _ (.head _)))) ?_
  refine r_iconst (pc' := 1102) dL_law_1101 rfl ?_
  refine r_iadd (pc' := 1103) dL_law_1102 rfl ?_
  refine r_sld (pc' := 1104) dL_law_1103 rfl rfl (by omega) (by omega) (by omega) rfl ?_
  refine r_V1gi (ci := 11) (pc' := 1107) dL_law_1104 rfl lL_145 rfl (by decide) (Nat.le_of_ble_eq_true rfl) (by first | assumption | rfl) (by omega) (j_bestDay hJ (q_in_of _)) (fun r1104 n1104 P1104 X1104 Y1104 e1104 le1104 => ?_)
  refine r_aload_n (i := 2) (pc' := 1108) dL_law_1107 rfl rfl (.tail _ (.tail _ (.head _))) ?_
  refine r_aload_n (i := 0) (pc' := 1109) dL_law_1108 rfl rfl (.head _) ?_
  refine r_iload_n (i := 3) (pc' := 1110) dL_law_1109 rfl rfl (.tail _ (.tail _ (.tail _ (.head _)))) ?_
  refine r_iconst (pc' := 1111) dL_law_1110 rfl ?_
  refine r_iadd (pc' := 1112) dL_law_1111 rfl ?_
  refine r_sld (pc' := 1113) dL_law_1112 rfl rfl (by omega) (by omega) (by omega) rfl ?_
  refine r_V1gi (ci := 12) (pc' := 1116) dL_law_1113 rfl lL_148 rfl (by decide) (Nat.le_of_ble_eq_true rfl) (by first | assumption | rfl) (by omega) e1104 (fun r1113 n1113 P1113 X1113 Y1113 e1113 le1113 => ?_)
  obtain ⟨hz, hJ2⟩ := e1113
  refine r_raw_icmp_eq (t := 1710) (f := 1119) dL_law_1116 (by decide) rfl (fun h1116 => ?_) (fun h1116 => ?_)
  · exact kk _ _ _ _ hJ2
  · exact absurd hz.symm h1116
set_option maxHeartbeats 4000000 in
set_option maxRecDepth 100000 in
theorem cL_coins {l : Launch} {g : q_G} {n : Nat} {P : q_P} {X : q_X} {Y : q_Y} {K : q_K} {i : Nat} (hL : g.2.2.2.2.2.1 ≤ 3072) (hi : (i : Int) ≤ (g.2.2.2.2.2.1 : Int) - 6) (hJ : J n P X) (kk : ∀ n P X Y, J n P X → q_Tr l g mL_law 11 K 1710 [(0, .ref g.2.2.2.2.1), (1, .ref (g.1 + 0)), (2, .ref (g.1 + 467)), (3, .int (zi (i : Int)))] [] n P X Y) : q_Tr l g mL_law 11 K 1121 [(0, .ref g.2.2.2.2.1), (1, .ref (g.1 + 0)), (2, .ref (g.1 + 467)), (3, .int (zi (i : Int)))] [] n P X Y := by
  have hn := hJ.n
  refine r_aload_n (i := 1) (pc' := 1122) dL_law_1121 rfl rfl (.tail _ (.head _)) ?_
  refine r_aload_n (i := 0) (pc' := 1123) dL_law_1122 rfl rfl (.head _) ?_
  refine r_iload_n (i := 3) (pc' := 1124) dL_law_1123 rfl rfl (.tail _ (.tail _ (.tail _ (.head _)))) ?_
  refine r_iconst (pc' := 1125) dL_law_1124 rfl ?_
  refine r_iadd (pc' := 1126) dL_law_1125 rfl ?_
  refine r_sld (pc' := 1127) dL_law_1126 rfl rfl (by omega) (by omega) (by omega) rfl ?_
  refine r_aload_n (i := 0) (pc' := 1128) dL_law_1127 rfl rfl (.head _) ?_
  refine r_iload_n (i := 3) (pc' := 1129) dL_law_1128 rfl rfl (.tail _ (.tail _ (.tail _ (.head _)))) ?_
  refine r_iconst (pc' := 1130) dL_law_1129 rfl ?_
  refine r_iadd (pc' := 1131) dL_law_1130 rfl ?_
  refine r_sld (pc' := 1132) dL_law_1131 rfl rfl (by omega) (by omega) (by omega) rfl ?_
  refine r_V2gi (ci := 11) (pc' := 1135) dL_law_1132 rfl lL_149 rfl (by decide) (Nat.le_of_ble_eq_true rfl) (by first | assumption | rfl) (by omega) (j_coins hJ (q_in_of _) (q_in_of _)) (fun r1132 n1132 P1132 X1132 Y1132 e1132 le1132 => ?_)
  refine r_aload_n (i := 2) (pc' := 1136) dL_law_1135 rfl rfl (.tail _ (.tail _ (.head _))) ?_
  refine r_aload_n (i := 0) (pc' := 1137) dL_law_1136 rfl rfl (.head _) ?_
  refine r_iload_n (i := 3) (pc' := 1138) dL_law_1137 rfl rfl (.tail _ (.tail _ (.tail _ (.head _)))) ?_
  refine r_iconst (pc' := 1139) dL_law_1138 rfl ?_
  refine r_iadd (pc' := 1140) dL_law_1139 rfl ?_
  refine r_sld (pc' := 1141) dL_law_1140 rfl rfl (by omega) (by omega) (by omega) rfl ?_
  refine r_aload_n (i := 0) (pc' := 1142) dL_law_1141 rfl rfl (.head _) ?_
  refine r_iload_n (i := 3) (pc' := 1143) dL_law_1142 rfl rfl (.tail _ (.tail _ (.tail _ (.head _)))) ?_
  refine r_iconst (pc' := 1144) dL_law_1143 rfl ?_
  refine r_iadd (pc' := 1145) dL_law_1144 rfl ?_
  refine r_sld (pc' := 1146) dL_law_1145 rfl rfl (by omega) (by omega) (by omega) rfl ?_
  refine r_V2gi (ci := 12) (pc' := 1149) dL_law_1146 rfl lL_152 rfl (by decide) (Nat.le_of_ble_eq_true rfl) (by first | assumption | rfl) (by omega) e1132 (fun r1146 n1146 P1146 X1146 Y1146 e1146 le1146 => ?_)
  obtain ⟨hz, hJ2⟩ := e1146
  refine r_raw_icmp_eq (t := 1710) (f := 1152) dL_law_1149 (by decide) rfl (fun h1149 => ?_) (fun h1149 => ?_)
  · exact kk _ _ _ _ hJ2
  · exact absurd hz.symm h1149
set_option maxHeartbeats 4000000 in
set_option maxRecDepth 100000 in
theorem cL_freeYear {l : Launch} {g : q_G} {n : Nat} {P : q_P} {X : q_X} {Y : q_Y} {K : q_K} {i : Nat} (hL : g.2.2.2.2.2.1 ≤ 3072) (hi : (i : Int) ≤ (g.2.2.2.2.2.1 : Int) - 6) (hJ : J n P X) (kk : ∀ n P X Y, J n P X → q_Tr l g mL_law 11 K 1710 [(0, .ref g.2.2.2.2.1), (1, .ref (g.1 + 0)), (2, .ref (g.1 + 467)), (3, .int (zi (i : Int)))] [] n P X Y) : q_Tr l g mL_law 11 K 1154 [(0, .ref g.2.2.2.2.1), (1, .ref (g.1 + 0)), (2, .ref (g.1 + 467)), (3, .int (zi (i : Int)))] [] n P X Y := by
  have hn := hJ.n
  refine r_aload_n (i := 1) (pc' := 1155) dL_law_1154 rfl rfl (.tail _ (.head _)) ?_
  refine r_aload_n (i := 0) (pc' := 1156) dL_law_1155 rfl rfl (.head _) ?_
  refine r_iload_n (i := 3) (pc' := 1157) dL_law_1156 rfl rfl (.tail _ (.tail _ (.tail _ (.head _)))) ?_
  refine r_iconst (pc' := 1158) dL_law_1157 rfl ?_
  refine r_iadd (pc' := 1159) dL_law_1158 rfl ?_
  refine r_sld (pc' := 1160) dL_law_1159 rfl rfl (by omega) (by omega) (by omega) rfl ?_
  refine r_V1gi (ci := 11) (pc' := 1163) dL_law_1160 rfl lL_153 rfl (by decide) (Nat.le_of_ble_eq_true rfl) (by first | assumption | rfl) (by omega) (j_freeYear hJ (q_in_of _)) (fun r1160 n1160 P1160 X1160 Y1160 e1160 le1160 => ?_)
  refine r_aload_n (i := 2) (pc' := 1164) dL_law_1163 rfl rfl (.tail _ (.tail _ (.head _))) ?_
  refine r_aload_n (i := 0) (pc' := 1165) dL_law_1164 rfl rfl (.head _) ?_
  refine r_iload_n (i := 3) (pc' := 1166) dL_law_1165 rfl rfl (.tail _ (.tail _ (.tail _ (.head _)))) ?_
  refine r_iconst (pc' := 1167) dL_law_1166 rfl ?_
  refine r_iadd (pc' := 1168) dL_law_1167 rfl ?_
  refine r_sld (pc' := 1169) dL_law_1168 rfl rfl (by omega) (by omega) (by omega) rfl ?_
  refine r_V1gi (ci := 12) (pc' := 1172) dL_law_1169 rfl lL_156 rfl (by decide) (Nat.le_of_ble_eq_true rfl) (by first | assumption | rfl) (by omega) e1160 (fun r1169 n1169 P1169 X1169 Y1169 e1169 le1169 => ?_)
  obtain ⟨hz, hJ2⟩ := e1169
  refine r_raw_icmp_eq (t := 1710) (f := 1175) dL_law_1172 (by decide) rfl (fun h1172 => ?_) (fun h1172 => ?_)
  · exact kk _ _ _ _ hJ2
  · exact absurd hz.symm h1172
set_option maxHeartbeats 4000000 in
set_option maxRecDepth 100000 in
theorem cL_allTurned {l : Launch} {g : q_G} {n : Nat} {P : q_P} {X : q_X} {Y : q_Y} {K : q_K} {i : Nat} (hL : g.2.2.2.2.2.1 ≤ 3072) (hi : (i : Int) ≤ (g.2.2.2.2.2.1 : Int) - 6) (hJ : J n P X) (kk : ∀ n P X Y, J n P X → q_Tr l g mL_law 11 K 1710 [(0, .ref g.2.2.2.2.1), (1, .ref (g.1 + 0)), (2, .ref (g.1 + 467)), (3, .int (zi (i : Int)))] [] n P X Y) : q_Tr l g mL_law 11 K 1177 [(0, .ref g.2.2.2.2.1), (1, .ref (g.1 + 0)), (2, .ref (g.1 + 467)), (3, .int (zi (i : Int)))] [] n P X Y := by
  have hn := hJ.n
  refine r_aload_n (i := 1) (pc' := 1178) dL_law_1177 rfl rfl (.tail _ (.head _)) ?_
  refine r_V0gi (ci := 11) (pc' := 1181) dL_law_1178 rfl lL_157 rfl (by decide) (Nat.le_of_ble_eq_true rfl) (by first | assumption | rfl) (by omega) (j_allTurned hJ) (fun r1178 n1178 P1178 X1178 Y1178 e1178 le1178 => ?_)
  refine r_aload_n (i := 2) (pc' := 1182) dL_law_1181 rfl rfl (.tail _ (.tail _ (.head _))) ?_
  refine r_V0gi (ci := 12) (pc' := 1185) dL_law_1182 rfl lL_160 rfl (by decide) (Nat.le_of_ble_eq_true rfl) (by first | assumption | rfl) (by omega) e1178 (fun r1182 n1182 P1182 X1182 Y1182 e1182 le1182 => ?_)
  obtain ⟨hz, hJ2⟩ := e1182
  refine r_raw_icmp_eq (t := 1710) (f := 1188) dL_law_1185 (by decide) rfl (fun h1185 => ?_) (fun h1185 => ?_)
  · exact kk _ _ _ _ hJ2
  · exact absurd hz.symm h1185
set_option maxHeartbeats 4000000 in
set_option maxRecDepth 100000 in
theorem cL_ranked {l : Launch} {g : q_G} {n : Nat} {P : q_P} {X : q_X} {Y : q_Y} {K : q_K} {i : Nat} (hL : g.2.2.2.2.2.1 ≤ 3072) (hi : (i : Int) ≤ (g.2.2.2.2.2.1 : Int) - 6) (hJ : J n P X) (kk : ∀ n P X Y, J n P X → q_Tr l g mL_law 11 K 1710 [(0, .ref g.2.2.2.2.1), (1, .ref (g.1 + 0)), (2, .ref (g.1 + 467)), (3, .int (zi (i : Int)))] [] n P X Y) : q_Tr l g mL_law 11 K 1190 [(0, .ref g.2.2.2.2.1), (1, .ref (g.1 + 0)), (2, .ref (g.1 + 467)), (3, .int (zi (i : Int)))] [] n P X Y := by
  have hn := hJ.n
  refine r_aload_n (i := 1) (pc' := 1191) dL_law_1190 rfl rfl (.tail _ (.head _)) ?_
  refine r_aload_n (i := 0) (pc' := 1192) dL_law_1191 rfl rfl (.head _) ?_
  refine r_iload_n (i := 3) (pc' := 1193) dL_law_1192 rfl rfl (.tail _ (.tail _ (.tail _ (.head _)))) ?_
  refine r_iconst (pc' := 1194) dL_law_1193 rfl ?_
  refine r_iadd (pc' := 1195) dL_law_1194 rfl ?_
  refine r_sld (pc' := 1196) dL_law_1195 rfl rfl (by omega) (by omega) (by omega) rfl ?_
  refine r_V1gi (ci := 11) (pc' := 1199) dL_law_1196 rfl lL_161 rfl (by decide) (Nat.le_of_ble_eq_true rfl) (by first | assumption | rfl) (by omega) (j_ranked hJ (q_in_of _)) (fun r1196 n1196 P1196 X1196 Y1196 e1196 le1196 => ?_)
  refine r_aload_n (i := 2) (pc' := 1200) dL_law_1199 rfl rfl (.tail _ (.tail _ (.head _))) ?_
  refine r_aload_n (i := 0) (pc' := 1201) dL_law_1200 rfl rfl (.head _) ?_
  refine r_iload_n (i := 3) (pc' := 1202) dL_law_1201 rfl rfl (.tail _ (.tail _ (.tail _ (.head _)))) ?_
  refine r_iconst (pc' := 1203) dL_law_1202 rfl ?_
  refine r_iadd (pc' := 1204) dL_law_1203 rfl ?_
  refine r_sld (pc' := 1205) dL_law_1204 rfl rfl (by omega) (by omega) (by omega) rfl ?_
  refine r_V1gi (ci := 12) (pc' := 1208) dL_law_1205 rfl lL_164 rfl (by decide) (Nat.le_of_ble_eq_true rfl) (by first | assumption | rfl) (by omega) e1196 (fun r1205 n1205 P1205 X1205 Y1205 e1205 le1205 => ?_)
  obtain ⟨hz, hJ2⟩ := e1205
  refine r_raw_icmp_eq (t := 1710) (f := 1211) dL_law_1208 (by decide) rfl (fun h1208 => ?_) (fun h1208 => ?_)
  · exact kk _ _ _ _ hJ2
  · exact absurd hz.symm h1208
set_option maxHeartbeats 4000000 in
set_option maxRecDepth 100000 in
theorem cL_fit {l : Launch} {g : q_G} {n : Nat} {P : q_P} {X : q_X} {Y : q_Y} {K : q_K} {i : Nat} (hL : g.2.2.2.2.2.1 ≤ 3072) (hi : (i : Int) ≤ (g.2.2.2.2.2.1 : Int) - 6) (hJ : J n P X) (kk : ∀ n P X Y, J n P X → q_Tr l g mL_law 11 K 1710 [(0, .ref g.2.2.2.2.1), (1, .ref (g.1 + 0)), (2, .ref (g.1 + 467)), (3, .int (zi (i : Int)))] [] n P X Y) : q_Tr l g mL_law 11 K 1213 [(0, .ref g.2.2.2.2.1), (1, .ref (g.1 + 0)), (2, .ref (g.1 + 467)), (3, .int (zi (i : Int)))] [] n P X Y := by
  have hn := hJ.n
  refine r_aload_n (i := 1) (pc' := 1214) dL_law_1213 rfl rfl (.tail _ (.head _)) ?_
  refine r_aload_n (i := 0) (pc' := 1215) dL_law_1214 rfl rfl (.head _) ?_
  refine r_iload_n (i := 3) (pc' := 1216) dL_law_1215 rfl rfl (.tail _ (.tail _ (.tail _ (.head _)))) ?_
  refine r_iconst (pc' := 1217) dL_law_1216 rfl ?_
  refine r_iadd (pc' := 1218) dL_law_1217 rfl ?_
  refine r_sld (pc' := 1219) dL_law_1218 rfl rfl (by omega) (by omega) (by omega) rfl ?_
  refine r_aload_n (i := 0) (pc' := 1220) dL_law_1219 rfl rfl (.head _) ?_
  refine r_iload_n (i := 3) (pc' := 1221) dL_law_1220 rfl rfl (.tail _ (.tail _ (.tail _ (.head _)))) ?_
  refine r_iconst (pc' := 1222) dL_law_1221 rfl ?_
  refine r_iadd (pc' := 1223) dL_law_1222 rfl ?_
  refine r_sld (pc' := 1224) dL_law_1223 rfl rfl (by omega) (by omega) (by omega) rfl ?_
  refine r_V2gi (ci := 11) (pc' := 1227) dL_law_1224 rfl lL_165 rfl (by decide) (Nat.le_of_ble_eq_true rfl) (by first | assumption | rfl) (by omega) (j_fit hJ (q_in_of _) (q_in_of _)) (fun r1224 n1224 P1224 X1224 Y1224 e1224 le1224 => ?_)
  refine r_aload_n (i := 2) (pc' := 1228) dL_law_1227 rfl rfl (.tail _ (.tail _ (.head _))) ?_
  refine r_aload_n (i := 0) (pc' := 1229) dL_law_1228 rfl rfl (.head _) ?_
  refine r_iload_n (i := 3) (pc' := 1230) dL_law_1229 rfl rfl (.tail _ (.tail _ (.tail _ (.head _)))) ?_
  refine r_iconst (pc' := 1231) dL_law_1230 rfl ?_
  refine r_iadd (pc' := 1232) dL_law_1231 rfl ?_
  refine r_sld (pc' := 1233) dL_law_1232 rfl rfl (by omega) (by omega) (by omega) rfl ?_
  refine r_aload_n (i := 0) (pc' := 1234) dL_law_1233 rfl rfl (.head _) ?_
  refine r_iload_n (i := 3) (pc' := 1235) dL_law_1234 rfl rfl (.tail _ (.tail _ (.tail _ (.head _)))) ?_
  refine r_iconst (pc' := 1236) dL_law_1235 rfl ?_
  refine r_iadd (pc' := 1237) dL_law_1236 rfl ?_
  refine r_sld (pc' := 1238) dL_law_1237 rfl rfl (by omega) (by omega) (by omega) rfl ?_
  refine r_V2gi (ci := 12) (pc' := 1241) dL_law_1238 rfl lL_168 rfl (by decide) (Nat.le_of_ble_eq_true rfl) (by first | assumption | rfl) (by omega) e1224 (fun r1238 n1238 P1238 X1238 Y1238 e1238 le1238 => ?_)
  obtain ⟨hz, hJ2⟩ := e1238
  refine r_raw_icmp_eq (t := 1710) (f := 1244) dL_law_1241 (by decide) rfl (fun h1241 => ?_) (fun h1241 => ?_)
  · exact kk _ _ _ _ hJ2
  · exact absurd hz.symm h1241
set_option maxHeartbeats 4000000 in
set_option maxRecDepth 100000 in
theorem cL_piece {l : Launch} {g : q_G} {n : Nat} {P : q_P} {X : q_X} {Y : q_Y} {K : q_K} {i : Nat} (hL : g.2.2.2.2.2.1 ≤ 3072) (hi : (i : Int) ≤ (g.2.2.2.2.2.1 : Int) - 6) (hJ : J n P X) (kk : ∀ n P X Y, J n P X → q_Tr l g mL_law 11 K 1710 [(0, .ref g.2.2.2.2.1), (1, .ref (g.1 + 0)), (2, .ref (g.1 + 467)), (3, .int (zi (i : Int)))] [] n P X Y) : q_Tr l g mL_law 11 K 1246 [(0, .ref g.2.2.2.2.1), (1, .ref (g.1 + 0)), (2, .ref (g.1 + 467)), (3, .int (zi (i : Int)))] [] n P X Y := by
  have hn := hJ.n
  refine r_aload_n (i := 1) (pc' := 1247) dL_law_1246 rfl rfl (.tail _ (.head _)) ?_
  refine r_aload_n (i := 0) (pc' := 1248) dL_law_1247 rfl rfl (.head _) ?_
  refine r_iload_n (i := 3) (pc' := 1249) dL_law_1248 rfl rfl (.tail _ (.tail _ (.tail _ (.head _)))) ?_
  refine r_iconst (pc' := 1250) dL_law_1249 rfl ?_
  refine r_iadd (pc' := 1251) dL_law_1250 rfl ?_
  refine r_sld (pc' := 1252) dL_law_1251 rfl rfl (by omega) (by omega) (by omega) rfl ?_
  refine r_aload_n (i := 0) (pc' := 1253) dL_law_1252 rfl rfl (.head _) ?_
  refine r_iload_n (i := 3) (pc' := 1254) dL_law_1253 rfl rfl (.tail _ (.tail _ (.tail _ (.head _)))) ?_
  refine r_iconst (pc' := 1255) dL_law_1254 rfl ?_
  refine r_iadd (pc' := 1256) dL_law_1255 rfl ?_
  refine r_sld (pc' := 1257) dL_law_1256 rfl rfl (by omega) (by omega) (by omega) rfl ?_
  refine r_aload_n (i := 0) (pc' := 1258) dL_law_1257 rfl rfl (.head _) ?_
  refine r_iload_n (i := 3) (pc' := 1259) dL_law_1258 rfl rfl (.tail _ (.tail _ (.tail _ (.head _)))) ?_
  refine r_iconst (pc' := 1260) dL_law_1259 rfl ?_
  refine r_iadd (pc' := 1261) dL_law_1260 rfl ?_
  refine r_sld (pc' := 1262) dL_law_1261 rfl rfl (by omega) (by omega) (by omega) rfl ?_
  refine r_V3gi (ci := 11) (pc' := 1265) dL_law_1262 rfl lL_169 rfl (by decide) (Nat.le_of_ble_eq_true rfl) (by first | assumption | rfl) (by omega) (j_piece hJ (q_in_of _) (q_in_of _) (q_in_of _)) (fun r1262 n1262 P1262 X1262 Y1262 e1262 le1262 => ?_)
  refine r_aload_n (i := 2) (pc' := 1266) dL_law_1265 rfl rfl (.tail _ (.tail _ (.head _))) ?_
  refine r_aload_n (i := 0) (pc' := 1267) dL_law_1266 rfl rfl (.head _) ?_
  refine r_iload_n (i := 3) (pc' := 1268) dL_law_1267 rfl rfl (.tail _ (.tail _ (.tail _ (.head _)))) ?_
  refine r_iconst (pc' := 1269) dL_law_1268 rfl ?_
  refine r_iadd (pc' := 1270) dL_law_1269 rfl ?_
  refine r_sld (pc' := 1271) dL_law_1270 rfl rfl (by omega) (by omega) (by omega) rfl ?_
  refine r_aload_n (i := 0) (pc' := 1272) dL_law_1271 rfl rfl (.head _) ?_
  refine r_iload_n (i := 3) (pc' := 1273) dL_law_1272 rfl rfl (.tail _ (.tail _ (.tail _ (.head _)))) ?_
  refine r_iconst (pc' := 1274) dL_law_1273 rfl ?_
  refine r_iadd (pc' := 1275) dL_law_1274 rfl ?_
  refine r_sld (pc' := 1276) dL_law_1275 rfl rfl (by omega) (by omega) (by omega) rfl ?_
  refine r_aload_n (i := 0) (pc' := 1277) dL_law_1276 rfl rfl (.head _) ?_
  refine r_iload_n (i := 3) (pc' := 1278) dL_law_1277 rfl rfl (.tail _ (.tail _ (.tail _ (.head _)))) ?_
  refine r_iconst (pc' := 1279) dL_law_1278 rfl ?_
  refine r_iadd (pc' := 1280) dL_law_1279 rfl ?_
  refine r_sld (pc' := 1281) dL_law_1280 rfl rfl (by omega) (by omega) (by omega) rfl ?_
  refine r_V3gi (ci := 12) (pc' := 1284) dL_law_1281 rfl lL_172 rfl (by decide) (Nat.le_of_ble_eq_true rfl) (by first | assumption | rfl) (by omega) e1262 (fun r1281 n1281 P1281 X1281 Y1281 e1281 le1281 => ?_)
  obtain ⟨hz, hJ2⟩ := e1281
  refine r_raw_icmp_eq (t := 1710) (f := 1287) dL_law_1284 (by decide) rfl (fun h1284 => ?_) (fun h1284 => ?_)
  · exact kk _ _ _ _ hJ2
  · exact absurd hz.symm h1284
set_option maxHeartbeats 4000000 in
set_option maxRecDepth 100000 in
theorem cL_lastDay {l : Launch} {g : q_G} {n : Nat} {P : q_P} {X : q_X} {Y : q_Y} {K : q_K} {i : Nat} (hL : g.2.2.2.2.2.1 ≤ 3072) (hi : (i : Int) ≤ (g.2.2.2.2.2.1 : Int) - 6) (hJ : J n P X) (kk : ∀ n P X Y, J n P X → q_Tr l g mL_law 11 K 1710 [(0, .ref g.2.2.2.2.1), (1, .ref (g.1 + 0)), (2, .ref (g.1 + 467)), (3, .int (zi (i : Int)))] [] n P X Y) : q_Tr l g mL_law 11 K 1289 [(0, .ref g.2.2.2.2.1), (1, .ref (g.1 + 0)), (2, .ref (g.1 + 467)), (3, .int (zi (i : Int)))] [] n P X Y := by
  have hn := hJ.n
  refine r_aload_n (i := 1) (pc' := 1290) dL_law_1289 rfl rfl (.tail _ (.head _)) ?_
  refine r_aload_n (i := 0) (pc' := 1291) dL_law_1290 rfl rfl (.head _) ?_
  refine r_iload_n (i := 3) (pc' := 1292) dL_law_1291 rfl rfl (.tail _ (.tail _ (.tail _ (.head _)))) ?_
  refine r_iconst (pc' := 1293) dL_law_1292 rfl ?_
  refine r_iadd (pc' := 1294) dL_law_1293 rfl ?_
  refine r_sld (pc' := 1295) dL_law_1294 rfl rfl (by omega) (by omega) (by omega) rfl ?_
  refine r_aload_n (i := 0) (pc' := 1296) dL_law_1295 rfl rfl (.head _) ?_
  refine r_iload_n (i := 3) (pc' := 1297) dL_law_1296 rfl rfl (.tail _ (.tail _ (.tail _ (.head _)))) ?_
  refine r_iconst (pc' := 1298) dL_law_1297 rfl ?_
  refine r_iadd (pc' := 1299) dL_law_1298 rfl ?_
  refine r_sld (pc' := 1300) dL_law_1299 rfl rfl (by omega) (by omega) (by omega) rfl ?_
  refine r_V2gi (ci := 11) (pc' := 1303) dL_law_1300 rfl lL_173 rfl (by decide) (Nat.le_of_ble_eq_true rfl) (by first | assumption | rfl) (by omega) (j_lastDay hJ (q_in_of _) (q_in_of _)) (fun r1300 n1300 P1300 X1300 Y1300 e1300 le1300 => ?_)
  refine r_aload_n (i := 2) (pc' := 1304) dL_law_1303 rfl rfl (.tail _ (.tail _ (.head _))) ?_
  refine r_aload_n (i := 0) (pc' := 1305) dL_law_1304 rfl rfl (.head _) ?_
  refine r_iload_n (i := 3) (pc' := 1306) dL_law_1305 rfl rfl (.tail _ (.tail _ (.tail _ (.head _)))) ?_
  refine r_iconst (pc' := 1307) dL_law_1306 rfl ?_
  refine r_iadd (pc' := 1308) dL_law_1307 rfl ?_
  refine r_sld (pc' := 1309) dL_law_1308 rfl rfl (by omega) (by omega) (by omega) rfl ?_
  refine r_aload_n (i := 0) (pc' := 1310) dL_law_1309 rfl rfl (.head _) ?_
  refine r_iload_n (i := 3) (pc' := 1311) dL_law_1310 rfl rfl (.tail _ (.tail _ (.tail _ (.head _)))) ?_
  refine r_iconst (pc' := 1312) dL_law_1311 rfl ?_
  refine r_iadd (pc' := 1313) dL_law_1312 rfl ?_
  refine r_sld (pc' := 1314) dL_law_1313 rfl rfl (by omega) (by omega) (by omega) rfl ?_
  refine r_V2gi (ci := 12) (pc' := 1317) dL_law_1314 rfl lL_176 rfl (by decide) (Nat.le_of_ble_eq_true rfl) (by first | assumption | rfl) (by omega) e1300 (fun r1314 n1314 P1314 X1314 Y1314 e1314 le1314 => ?_)
  obtain ⟨hz, hJ2⟩ := e1314
  refine r_raw_icmp_eq (t := 1710) (f := 1320) dL_law_1317 (by decide) rfl (fun h1317 => ?_) (fun h1317 => ?_)
  · exact kk _ _ _ _ hJ2
  · exact absurd hz.symm h1317
set_option maxHeartbeats 4000000 in
set_option maxRecDepth 100000 in
theorem cL_cash {l : Launch} {g : q_G} {n : Nat} {P : q_P} {X : q_X} {Y : q_Y} {K : q_K} {i : Nat} (hL : g.2.2.2.2.2.1 ≤ 3072) (hi : (i : Int) ≤ (g.2.2.2.2.2.1 : Int) - 6) (hJ : J n P X) (kk : ∀ n P X Y, J n P X → q_Tr l g mL_law 11 K 1710 [(0, .ref g.2.2.2.2.1), (1, .ref (g.1 + 0)), (2, .ref (g.1 + 467)), (3, .int (zi (i : Int)))] [] n P X Y) : q_Tr l g mL_law 11 K 1322 [(0, .ref g.2.2.2.2.1), (1, .ref (g.1 + 0)), (2, .ref (g.1 + 467)), (3, .int (zi (i : Int)))] [] n P X Y := by
  have hn := hJ.n
  refine r_aload_n (i := 1) (pc' := 1323) dL_law_1322 rfl rfl (.tail _ (.head _)) ?_
  refine r_aload_n (i := 0) (pc' := 1324) dL_law_1323 rfl rfl (.head _) ?_
  refine r_iload_n (i := 3) (pc' := 1325) dL_law_1324 rfl rfl (.tail _ (.tail _ (.tail _ (.head _)))) ?_
  refine r_iconst (pc' := 1326) dL_law_1325 rfl ?_
  refine r_iadd (pc' := 1327) dL_law_1326 rfl ?_
  refine r_sld (pc' := 1328) dL_law_1327 rfl rfl (by omega) (by omega) (by omega) rfl ?_
  refine r_aload_n (i := 0) (pc' := 1329) dL_law_1328 rfl rfl (.head _) ?_
  refine r_iload_n (i := 3) (pc' := 1330) dL_law_1329 rfl rfl (.tail _ (.tail _ (.tail _ (.head _)))) ?_
  refine r_iconst (pc' := 1331) dL_law_1330 rfl ?_
  refine r_iadd (pc' := 1332) dL_law_1331 rfl ?_
  refine r_sld (pc' := 1333) dL_law_1332 rfl rfl (by omega) (by omega) (by omega) rfl ?_
  refine r_V2gi (ci := 11) (pc' := 1336) dL_law_1333 rfl lL_177 rfl (by decide) (Nat.le_of_ble_eq_true rfl) (by first | assumption | rfl) (by omega) (j_cash hJ (q_in_of _) (q_in_of _)) (fun r1333 n1333 P1333 X1333 Y1333 e1333 le1333 => ?_)
  refine r_aload_n (i := 2) (pc' := 1337) dL_law_1336 rfl rfl (.tail _ (.tail _ (.head _))) ?_
  refine r_aload_n (i := 0) (pc' := 1338) dL_law_1337 rfl rfl (.head _) ?_
  refine r_iload_n (i := 3) (pc' := 1339) dL_law_1338 rfl rfl (.tail _ (.tail _ (.tail _ (.head _)))) ?_
  refine r_iconst (pc' := 1340) dL_law_1339 rfl ?_
  refine r_iadd (pc' := 1341) dL_law_1340 rfl ?_
  refine r_sld (pc' := 1342) dL_law_1341 rfl rfl (by omega) (by omega) (by omega) rfl ?_
  refine r_aload_n (i := 0) (pc' := 1343) dL_law_1342 rfl rfl (.head _) ?_
  refine r_iload_n (i := 3) (pc' := 1344) dL_law_1343 rfl rfl (.tail _ (.tail _ (.tail _ (.head _)))) ?_
  refine r_iconst (pc' := 1345) dL_law_1344 rfl ?_
  refine r_iadd (pc' := 1346) dL_law_1345 rfl ?_
  refine r_sld (pc' := 1347) dL_law_1346 rfl rfl (by omega) (by omega) (by omega) rfl ?_
  refine r_V2gi (ci := 12) (pc' := 1350) dL_law_1347 rfl lL_180 rfl (by decide) (Nat.le_of_ble_eq_true rfl) (by first | assumption | rfl) (by omega) e1333 (fun r1347 n1347 P1347 X1347 Y1347 e1347 le1347 => ?_)
  obtain ⟨hz, hJ2⟩ := e1347
  refine r_raw_icmp_eq (t := 1710) (f := 1353) dL_law_1350 (by decide) rfl (fun h1350 => ?_) (fun h1350 => ?_)
  · exact kk _ _ _ _ hJ2
  · exact absurd hz.symm h1350
set_option maxHeartbeats 4000000 in
set_option maxRecDepth 100000 in
theorem cL_allCash {l : Launch} {g : q_G} {n : Nat} {P : q_P} {X : q_X} {Y : q_Y} {K : q_K} {i : Nat} (hL : g.2.2.2.2.2.1 ≤ 3072) (hi : (i : Int) ≤ (g.2.2.2.2.2.1 : Int) - 6) (hJ : J n P X) (kk : ∀ n P X Y, J n P X → q_Tr l g mL_law 11 K 1710 [(0, .ref g.2.2.2.2.1), (1, .ref (g.1 + 0)), (2, .ref (g.1 + 467)), (3, .int (zi (i : Int)))] [] n P X Y) : q_Tr l g mL_law 11 K 1355 [(0, .ref g.2.2.2.2.1), (1, .ref (g.1 + 0)), (2, .ref (g.1 + 467)), (3, .int (zi (i : Int)))] [] n P X Y := by
  have hn := hJ.n
  refine r_aload_n (i := 1) (pc' := 1356) dL_law_1355 rfl rfl (.tail _ (.head _)) ?_
  refine r_aload_n (i := 0) (pc' := 1357) dL_law_1356 rfl rfl (.head _) ?_
  refine r_iload_n (i := 3) (pc' := 1358) dL_law_1357 rfl rfl (.tail _ (.tail _ (.tail _ (.head _)))) ?_
  refine r_iconst (pc' := 1359) dL_law_1358 rfl ?_
  refine r_iadd (pc' := 1360) dL_law_1359 rfl ?_
  refine r_sld (pc' := 1361) dL_law_1360 rfl rfl (by omega) (by omega) (by omega) rfl ?_
  refine r_V1gi (ci := 11) (pc' := 1364) dL_law_1361 rfl lL_181 rfl (by decide) (Nat.le_of_ble_eq_true rfl) (by first | assumption | rfl) (by omega) (j_allCash hJ (q_in_of _)) (fun r1361 n1361 P1361 X1361 Y1361 e1361 le1361 => ?_)
  refine r_aload_n (i := 2) (pc' := 1365) dL_law_1364 rfl rfl (.tail _ (.tail _ (.head _))) ?_
  refine r_aload_n (i := 0) (pc' := 1366) dL_law_1365 rfl rfl (.head _) ?_
  refine r_iload_n (i := 3) (pc' := 1367) dL_law_1366 rfl rfl (.tail _ (.tail _ (.tail _ (.head _)))) ?_
  refine r_iconst (pc' := 1368) dL_law_1367 rfl ?_
  refine r_iadd (pc' := 1369) dL_law_1368 rfl ?_
  refine r_sld (pc' := 1370) dL_law_1369 rfl rfl (by omega) (by omega) (by omega) rfl ?_
  refine r_V1gi (ci := 12) (pc' := 1373) dL_law_1370 rfl lL_184 rfl (by decide) (Nat.le_of_ble_eq_true rfl) (by first | assumption | rfl) (by omega) e1361 (fun r1370 n1370 P1370 X1370 Y1370 e1370 le1370 => ?_)
  obtain ⟨hz, hJ2⟩ := e1370
  refine r_raw_icmp_eq (t := 1710) (f := 1376) dL_law_1373 (by decide) rfl (fun h1373 => ?_) (fun h1373 => ?_)
  · exact kk _ _ _ _ hJ2
  · exact absurd hz.symm h1373
set_option maxHeartbeats 4000000 in
set_option maxRecDepth 100000 in
theorem cL_tag {l : Launch} {g : q_G} {n : Nat} {P : q_P} {X : q_X} {Y : q_Y} {K : q_K} {i : Nat} (hL : g.2.2.2.2.2.1 ≤ 3072) (hi : (i : Int) ≤ (g.2.2.2.2.2.1 : Int) - 6) (hJ : J n P X) (kk : ∀ n P X Y, J n P X → q_Tr l g mL_law 11 K 1710 [(0, .ref g.2.2.2.2.1), (1, .ref (g.1 + 0)), (2, .ref (g.1 + 467)), (3, .int (zi (i : Int)))] [] n P X Y) : q_Tr l g mL_law 11 K 1378 [(0, .ref g.2.2.2.2.1), (1, .ref (g.1 + 0)), (2, .ref (g.1 + 467)), (3, .int (zi (i : Int)))] [] n P X Y := by
  have hn := hJ.n
  refine r_aload_n (i := 1) (pc' := 1379) dL_law_1378 rfl rfl (.tail _ (.head _)) ?_
  refine r_aload_n (i := 0) (pc' := 1380) dL_law_1379 rfl rfl (.head _) ?_
  refine r_iload_n (i := 3) (pc' := 1381) dL_law_1380 rfl rfl (.tail _ (.tail _ (.tail _ (.head _)))) ?_
  refine r_iconst (pc' := 1382) dL_law_1381 rfl ?_
  refine r_iadd (pc' := 1383) dL_law_1382 rfl ?_
  refine r_sld (pc' := 1384) dL_law_1383 rfl rfl (by omega) (by omega) (by omega) rfl ?_
  refine r_V1gi (ci := 11) (pc' := 1387) dL_law_1384 rfl lL_185 rfl (by decide) (Nat.le_of_ble_eq_true rfl) (by first | assumption | rfl) (by omega) (j_tag hJ (q_in_of _)) (fun r1384 n1384 P1384 X1384 Y1384 e1384 le1384 => ?_)
  refine r_aload_n (i := 2) (pc' := 1388) dL_law_1387 rfl rfl (.tail _ (.tail _ (.head _))) ?_
  refine r_aload_n (i := 0) (pc' := 1389) dL_law_1388 rfl rfl (.head _) ?_
  refine r_iload_n (i := 3) (pc' := 1390) dL_law_1389 rfl rfl (.tail _ (.tail _ (.tail _ (.head _)))) ?_
  refine r_iconst (pc' := 1391) dL_law_1390 rfl ?_
  refine r_iadd (pc' := 1392) dL_law_1391 rfl ?_
  refine r_sld (pc' := 1393) dL_law_1392 rfl rfl (by omega) (by omega) (by omega) rfl ?_
  refine r_V1gi (ci := 12) (pc' := 1396) dL_law_1393 rfl lL_188 rfl (by decide) (Nat.le_of_ble_eq_true rfl) (by first | assumption | rfl) (by omega) e1384 (fun r1393 n1393 P1393 X1393 Y1393 e1393 le1393 => ?_)
  obtain ⟨hz, hJ2⟩ := e1393
  refine r_raw_icmp_eq (t := 1710) (f := 1399) dL_law_1396 (by decide) rfl (fun h1396 => ?_) (fun h1396 => ?_)
  · exact kk _ _ _ _ hJ2
  · exact absurd hz.symm h1396
set_option maxHeartbeats 4000000 in
set_option maxRecDepth 100000 in
theorem cL_counted {l : Launch} {g : q_G} {n : Nat} {P : q_P} {X : q_X} {Y : q_Y} {K : q_K} {i : Nat} (hL : g.2.2.2.2.2.1 ≤ 3072) (hi : (i : Int) ≤ (g.2.2.2.2.2.1 : Int) - 6) (hJ : J n P X) (kk : ∀ n P X Y, J n P X → q_Tr l g mL_law 11 K 1710 [(0, .ref g.2.2.2.2.1), (1, .ref (g.1 + 0)), (2, .ref (g.1 + 467)), (3, .int (zi (i : Int)))] [] n P X Y) : q_Tr l g mL_law 11 K 1401 [(0, .ref g.2.2.2.2.1), (1, .ref (g.1 + 0)), (2, .ref (g.1 + 467)), (3, .int (zi (i : Int)))] [] n P X Y := by
  have hn := hJ.n
  refine r_aload_n (i := 1) (pc' := 1402) dL_law_1401 rfl rfl (.tail _ (.head _)) ?_
  refine r_aload_n (i := 0) (pc' := 1403) dL_law_1402 rfl rfl (.head _) ?_
  refine r_iload_n (i := 3) (pc' := 1404) dL_law_1403 rfl rfl (.tail _ (.tail _ (.tail _ (.head _)))) ?_
  refine r_iconst (pc' := 1405) dL_law_1404 rfl ?_
  refine r_iadd (pc' := 1406) dL_law_1405 rfl ?_
  refine r_sld (pc' := 1407) dL_law_1406 rfl rfl (by omega) (by omega) (by omega) rfl ?_
  refine r_V1gi (ci := 11) (pc' := 1410) dL_law_1407 rfl lL_189 rfl (by decide) (Nat.le_of_ble_eq_true rfl) (by first | assumption | rfl) (by omega) (j_counted hJ (q_in_of _)) (fun r1407 n1407 P1407 X1407 Y1407 e1407 le1407 => ?_)
  refine r_aload_n (i := 2) (pc' := 1411) dL_law_1410 rfl rfl (.tail _ (.tail _ (.head _))) ?_
  refine r_aload_n (i := 0) (pc' := 1412) dL_law_1411 rfl rfl (.head _) ?_
  refine r_iload_n (i := 3) (pc' := 1413) dL_law_1412 rfl rfl (.tail _ (.tail _ (.tail _ (.head _)))) ?_
  refine r_iconst (pc' := 1414) dL_law_1413 rfl ?_
  refine r_iadd (pc' := 1415) dL_law_1414 rfl ?_
  refine r_sld (pc' := 1416) dL_law_1415 rfl rfl (by omega) (by omega) (by omega) rfl ?_
  refine r_V1gi (ci := 12) (pc' := 1419) dL_law_1416 rfl lL_192 rfl (by decide) (Nat.le_of_ble_eq_true rfl) (by first | assumption | rfl) (by omega) e1407 (fun r1416 n1416 P1416 X1416 Y1416 e1416 le1416 => ?_)
  obtain ⟨hz, hJ2⟩ := e1416
  refine r_raw_icmp_eq (t := 1710) (f := 1422) dL_law_1419 (by decide) rfl (fun h1419 => ?_) (fun h1419 => ?_)
  · exact kk _ _ _ _ hJ2
  · exact absurd hz.symm h1419
set_option maxHeartbeats 4000000 in
set_option maxRecDepth 100000 in
theorem cL_share {l : Launch} {g : q_G} {n : Nat} {P : q_P} {X : q_X} {Y : q_Y} {K : q_K} {i : Nat} (hL : g.2.2.2.2.2.1 ≤ 3072) (hi : (i : Int) ≤ (g.2.2.2.2.2.1 : Int) - 6) (hJ : J n P X) (kk : ∀ n P X Y, J n P X → q_Tr l g mL_law 11 K 1710 [(0, .ref g.2.2.2.2.1), (1, .ref (g.1 + 0)), (2, .ref (g.1 + 467)), (3, .int (zi (i : Int)))] [] n P X Y) : q_Tr l g mL_law 11 K 1424 [(0, .ref g.2.2.2.2.1), (1, .ref (g.1 + 0)), (2, .ref (g.1 + 467)), (3, .int (zi (i : Int)))] [] n P X Y := by
  have hn := hJ.n
  refine r_aload_n (i := 1) (pc' := 1425) dL_law_1424 rfl rfl (.tail _ (.head _)) ?_
  refine r_aload_n (i := 0) (pc' := 1426) dL_law_1425 rfl rfl (.head _) ?_
  refine r_iload_n (i := 3) (pc' := 1427) dL_law_1426 rfl rfl (.tail _ (.tail _ (.tail _ (.head _)))) ?_
  refine r_iconst (pc' := 1428) dL_law_1427 rfl ?_
  refine r_iadd (pc' := 1429) dL_law_1428 rfl ?_
  refine r_sld (pc' := 1430) dL_law_1429 rfl rfl (by omega) (by omega) (by omega) rfl ?_
  refine r_V1gi (ci := 11) (pc' := 1433) dL_law_1430 rfl lL_193 rfl (by decide) (Nat.le_of_ble_eq_true rfl) (by first | assumption | rfl) (by omega) (j_share hJ (q_in_of _)) (fun r1430 n1430 P1430 X1430 Y1430 e1430 le1430 => ?_)
  refine r_aload_n (i := 2) (pc' := 1434) dL_law_1433 rfl rfl (.tail _ (.tail _ (.head _))) ?_
  refine r_aload_n (i := 0) (pc' := 1435) dL_law_1434 rfl rfl (.head _) ?_
  refine r_iload_n (i := 3) (pc' := 1436) dL_law_1435 rfl rfl (.tail _ (.tail _ (.tail _ (.head _)))) ?_
  refine r_iconst (pc' := 1437) dL_law_1436 rfl ?_
  refine r_iadd (pc' := 1438) dL_law_1437 rfl ?_
  refine r_sld (pc' := 1439) dL_law_1438 rfl rfl (by omega) (by omega) (by omega) rfl ?_
  refine r_V1gi (ci := 12) (pc' := 1442) dL_law_1439 rfl lL_196 rfl (by decide) (Nat.le_of_ble_eq_true rfl) (by first | assumption | rfl) (by omega) e1430 (fun r1439 n1439 P1439 X1439 Y1439 e1439 le1439 => ?_)
  obtain ⟨hz, hJ2⟩ := e1439
  refine r_raw_icmp_eq (t := 1710) (f := 1445) dL_law_1442 (by decide) rfl (fun h1442 => ?_) (fun h1442 => ?_)
  · exact kk _ _ _ _ hJ2
  · exact absurd hz.symm h1442
set_option maxHeartbeats 4000000 in
set_option maxRecDepth 100000 in
theorem cL_dearest {l : Launch} {g : q_G} {n : Nat} {P : q_P} {X : q_X} {Y : q_Y} {K : q_K} {i : Nat} (hL : g.2.2.2.2.2.1 ≤ 3072) (hi : (i : Int) ≤ (g.2.2.2.2.2.1 : Int) - 6) (hJ : J n P X) (kk : ∀ n P X Y, J n P X → q_Tr l g mL_law 11 K 1710 [(0, .ref g.2.2.2.2.1), (1, .ref (g.1 + 0)), (2, .ref (g.1 + 467)), (3, .int (zi (i : Int)))] [] n P X Y) : q_Tr l g mL_law 11 K 1447 [(0, .ref g.2.2.2.2.1), (1, .ref (g.1 + 0)), (2, .ref (g.1 + 467)), (3, .int (zi (i : Int)))] [] n P X Y := by
  have hn := hJ.n
  refine r_aload_n (i := 1) (pc' := 1448) dL_law_1447 rfl rfl (.tail _ (.head _)) ?_
  refine r_aload_n (i := 0) (pc' := 1449) dL_law_1448 rfl rfl (.head _) ?_
  refine r_iload_n (i := 3) (pc' := 1450) dL_law_1449 rfl rfl (.tail _ (.tail _ (.tail _ (.head _)))) ?_
  refine r_iconst (pc' := 1451) dL_law_1450 rfl ?_
  refine r_iadd (pc' := 1452) dL_law_1451 rfl ?_
  refine r_sld (pc' := 1453) dL_law_1452 rfl rfl (by omega) (by omega) (by omega) rfl ?_
  refine r_V1gi (ci := 11) (pc' := 1456) dL_law_1453 rfl lL_197 rfl (by decide) (Nat.le_of_ble_eq_true rfl) (by first | assumption | rfl) (by omega) (j_dearest hJ (q_in_of _)) (fun r1453 n1453 P1453 X1453 Y1453 e1453 le1453 => ?_)
  refine r_aload_n (i := 2) (pc' := 1457) dL_law_1456 rfl rfl (.tail _ (.tail _ (.head _))) ?_
  refine r_aload_n (i := 0) (pc' := 1458) dL_law_1457 rfl rfl (.head _) ?_
  refine r_iload_n (i := 3) (pc' := 1459) dL_law_1458 rfl rfl (.tail _ (.tail _ (.tail _ (.head _)))) ?_
  refine r_iconst (pc' := 1460) dL_law_1459 rfl ?_
  refine r_iadd (pc' := 1461) dL_law_1460 rfl ?_
  refine r_sld (pc' := 1462) dL_law_1461 rfl rfl (by omega) (by omega) (by omega) rfl ?_
  refine r_V1gi (ci := 12) (pc' := 1465) dL_law_1462 rfl lL_200 rfl (by decide) (Nat.le_of_ble_eq_true rfl) (by first | assumption | rfl) (by omega) e1453 (fun r1462 n1462 P1462 X1462 Y1462 e1462 le1462 => ?_)
  obtain ⟨hz, hJ2⟩ := e1462
  refine r_raw_icmp_eq (t := 1710) (f := 1468) dL_law_1465 (by decide) rfl (fun h1465 => ?_) (fun h1465 => ?_)
  · exact kk _ _ _ _ hJ2
  · exact absurd hz.symm h1465
set_option maxHeartbeats 4000000 in
set_option maxRecDepth 100000 in
theorem cL_offer {l : Launch} {g : q_G} {n : Nat} {P : q_P} {X : q_X} {Y : q_Y} {K : q_K} {i : Nat} (hL : g.2.2.2.2.2.1 ≤ 3072) (hi : (i : Int) ≤ (g.2.2.2.2.2.1 : Int) - 6) (hJ : J n P X) (kk : ∀ n P X Y, J n P X → q_Tr l g mL_law 11 K 1710 [(0, .ref g.2.2.2.2.1), (1, .ref (g.1 + 0)), (2, .ref (g.1 + 467)), (3, .int (zi (i : Int)))] [] n P X Y) : q_Tr l g mL_law 11 K 1470 [(0, .ref g.2.2.2.2.1), (1, .ref (g.1 + 0)), (2, .ref (g.1 + 467)), (3, .int (zi (i : Int)))] [] n P X Y := by
  have hn := hJ.n
  refine r_aload_n (i := 1) (pc' := 1471) dL_law_1470 rfl rfl (.tail _ (.head _)) ?_
  refine r_aload_n (i := 0) (pc' := 1472) dL_law_1471 rfl rfl (.head _) ?_
  refine r_iload_n (i := 3) (pc' := 1473) dL_law_1472 rfl rfl (.tail _ (.tail _ (.tail _ (.head _)))) ?_
  refine r_iconst (pc' := 1474) dL_law_1473 rfl ?_
  refine r_iadd (pc' := 1475) dL_law_1474 rfl ?_
  refine r_sld (pc' := 1476) dL_law_1475 rfl rfl (by omega) (by omega) (by omega) rfl ?_
  refine r_aload_n (i := 0) (pc' := 1477) dL_law_1476 rfl rfl (.head _) ?_
  refine r_iload_n (i := 3) (pc' := 1478) dL_law_1477 rfl rfl (.tail _ (.tail _ (.tail _ (.head _)))) ?_
  refine r_iconst (pc' := 1479) dL_law_1478 rfl ?_
  refine r_iadd (pc' := 1480) dL_law_1479 rfl ?_
  refine r_sld (pc' := 1481) dL_law_1480 rfl rfl (by omega) (by omega) (by omega) rfl ?_
  refine r_V2gi (ci := 11) (pc' := 1484) dL_law_1481 rfl lL_201 rfl (by decide) (Nat.le_of_ble_eq_true rfl) (by first | assumption | rfl) (by omega) (j_offer hJ (q_in_of _) (q_in_of _)) (fun r1481 n1481 P1481 X1481 Y1481 e1481 le1481 => ?_)
  refine r_aload_n (i := 2) (pc' := 1485) dL_law_1484 rfl rfl (.tail _ (.tail _ (.head _))) ?_
  refine r_aload_n (i := 0) (pc' := 1486) dL_law_1485 rfl rfl (.head _) ?_
  refine r_iload_n (i := 3) (pc' := 1487) dL_law_1486 rfl rfl (.tail _ (.tail _ (.tail _ (.head _)))) ?_
  refine r_iconst (pc' := 1488) dL_law_1487 rfl ?_
  refine r_iadd (pc' := 1489) dL_law_1488 rfl ?_
  refine r_sld (pc' := 1490) dL_law_1489 rfl rfl (by omega) (by omega) (by omega) rfl ?_
  refine r_aload_n (i := 0) (pc' := 1491) dL_law_1490 rfl rfl (.head _) ?_
  refine r_iload_n (i := 3) (pc' := 1492) dL_law_1491 rfl rfl (.tail _ (.tail _ (.tail _ (.head _)))) ?_
  refine r_iconst (pc' := 1493) dL_law_1492 rfl ?_
  refine r_iadd (pc' := 1494) dL_law_1493 rfl ?_
  refine r_sld (pc' := 1495) dL_law_1494 rfl rfl (by omega) (by omega) (by omega) rfl ?_
  refine r_V2gi (ci := 12) (pc' := 1498) dL_law_1495 rfl lL_204 rfl (by decide) (Nat.le_of_ble_eq_true rfl) (by first | assumption | rfl) (by omega) e1481 (fun r1495 n1495 P1495 X1495 Y1495 e1495 le1495 => ?_)
  obtain ⟨hz, hJ2⟩ := e1495
  refine r_raw_icmp_eq (t := 1710) (f := 1501) dL_law_1498 (by decide) rfl (fun h1498 => ?_) (fun h1498 => ?_)
  · exact kk _ _ _ _ hJ2
  · exact absurd hz.symm h1498
set_option maxHeartbeats 4000000 in
set_option maxRecDepth 100000 in
theorem cL_buys {l : Launch} {g : q_G} {n : Nat} {P : q_P} {X : q_X} {Y : q_Y} {K : q_K} {i : Nat} (hL : g.2.2.2.2.2.1 ≤ 3072) (hi : (i : Int) ≤ (g.2.2.2.2.2.1 : Int) - 6) (hJ : J n P X) (kk : ∀ n P X Y, J n P X → q_Tr l g mL_law 11 K 1710 [(0, .ref g.2.2.2.2.1), (1, .ref (g.1 + 0)), (2, .ref (g.1 + 467)), (3, .int (zi (i : Int)))] [] n P X Y) : q_Tr l g mL_law 11 K 1503 [(0, .ref g.2.2.2.2.1), (1, .ref (g.1 + 0)), (2, .ref (g.1 + 467)), (3, .int (zi (i : Int)))] [] n P X Y := by
  have hn := hJ.n
  refine r_aload_n (i := 1) (pc' := 1504) dL_law_1503 rfl rfl (.tail _ (.head _)) ?_
  refine r_aload_n (i := 0) (pc' := 1505) dL_law_1504 rfl rfl (.head _) ?_
  refine r_iload_n (i := 3) (pc' := 1506) dL_law_1505 rfl rfl (.tail _ (.tail _ (.tail _ (.head _)))) ?_
  refine r_iconst (pc' := 1507) dL_law_1506 rfl ?_
  refine r_iadd (pc' := 1508) dL_law_1507 rfl ?_
  refine r_sld (pc' := 1509) dL_law_1508 rfl rfl (by omega) (by omega) (by omega) rfl ?_
  refine r_V1gi (ci := 11) (pc' := 1512) dL_law_1509 rfl lL_205 rfl (by decide) (Nat.le_of_ble_eq_true rfl) (by first | assumption | rfl) (by omega) (j_buys hJ (q_in_of _)) (fun r1509 n1509 P1509 X1509 Y1509 e1509 le1509 => ?_)
  refine r_aload_n (i := 2) (pc' := 1513) dL_law_1512 rfl rfl (.tail _ (.tail _ (.head _))) ?_
  refine r_aload_n (i := 0) (pc' := 1514) dL_law_1513 rfl rfl (.head _) ?_
  refine r_iload_n (i := 3) (pc' := 1515) dL_law_1514 rfl rfl (.tail _ (.tail _ (.tail _ (.head _)))) ?_
  refine r_iconst (pc' := 1516) dL_law_1515 rfl ?_
  refine r_iadd (pc' := 1517) dL_law_1516 rfl ?_
  refine r_sld (pc' := 1518) dL_law_1517 rfl rfl (by omega) (by omega) (by omega) rfl ?_
  refine r_V1gi (ci := 12) (pc' := 1521) dL_law_1518 rfl lL_208 rfl (by decide) (Nat.le_of_ble_eq_true rfl) (by first | assumption | rfl) (by omega) e1509 (fun r1518 n1518 P1518 X1518 Y1518 e1518 le1518 => ?_)
  obtain ⟨hz, hJ2⟩ := e1518
  refine r_raw_icmp_eq (t := 1710) (f := 1524) dL_law_1521 (by decide) rfl (fun h1521 => ?_) (fun h1521 => ?_)
  · exact kk _ _ _ _ hJ2
  · exact absurd hz.symm h1521
set_option maxHeartbeats 4000000 in
set_option maxRecDepth 100000 in
theorem cL_promised {l : Launch} {g : q_G} {n : Nat} {P : q_P} {X : q_X} {Y : q_Y} {K : q_K} {i : Nat} (hL : g.2.2.2.2.2.1 ≤ 3072) (hi : (i : Int) ≤ (g.2.2.2.2.2.1 : Int) - 6) (hJ : J n P X) (kk : ∀ n P X Y, J n P X → q_Tr l g mL_law 11 K 1710 [(0, .ref g.2.2.2.2.1), (1, .ref (g.1 + 0)), (2, .ref (g.1 + 467)), (3, .int (zi (i : Int)))] [] n P X Y) : q_Tr l g mL_law 11 K 1526 [(0, .ref g.2.2.2.2.1), (1, .ref (g.1 + 0)), (2, .ref (g.1 + 467)), (3, .int (zi (i : Int)))] [] n P X Y := by
  have hn := hJ.n
  refine r_aload_n (i := 1) (pc' := 1527) dL_law_1526 rfl rfl (.tail _ (.head _)) ?_
  refine r_aload_n (i := 0) (pc' := 1528) dL_law_1527 rfl rfl (.head _) ?_
  refine r_iload_n (i := 3) (pc' := 1529) dL_law_1528 rfl rfl (.tail _ (.tail _ (.tail _ (.head _)))) ?_
  refine r_iconst (pc' := 1530) dL_law_1529 rfl ?_
  refine r_iadd (pc' := 1531) dL_law_1530 rfl ?_
  refine r_sld (pc' := 1532) dL_law_1531 rfl rfl (by omega) (by omega) (by omega) rfl ?_
  refine r_aload_n (i := 0) (pc' := 1533) dL_law_1532 rfl rfl (.head _) ?_
  refine r_iload_n (i := 3) (pc' := 1534) dL_law_1533 rfl rfl (.tail _ (.tail _ (.tail _ (.head _)))) ?_
  refine r_iconst (pc' := 1535) dL_law_1534 rfl ?_
  refine r_iadd (pc' := 1536) dL_law_1535 rfl ?_
  refine r_sld (pc' := 1537) dL_law_1536 rfl rfl (by omega) (by omega) (by omega) rfl ?_
  refine r_V2gi (ci := 11) (pc' := 1540) dL_law_1537 rfl lL_209 rfl (by decide) (Nat.le_of_ble_eq_true rfl) (by first | assumption | rfl) (by omega) (j_promised hJ (q_in_of _) (q_in_of _)) (fun r1537 n1537 P1537 X1537 Y1537 e1537 le1537 => ?_)
  refine r_aload_n (i := 2) (pc' := 1541) dL_law_1540 rfl rfl (.tail _ (.tail _ (.head _))) ?_
  refine r_aload_n (i := 0) (pc' := 1542) dL_law_1541 rfl rfl (.head _) ?_
  refine r_iload_n (i := 3) (pc' := 1543) dL_law_1542 rfl rfl (.tail _ (.tail _ (.tail _ (.head _)))) ?_
  refine r_iconst (pc' := 1544) dL_law_1543 rfl ?_
  refine r_iadd (pc' := 1545) dL_law_1544 rfl ?_
  refine r_sld (pc' := 1546) dL_law_1545 rfl rfl (by omega) (by omega) (by omega) rfl ?_
  refine r_aload_n (i := 0) (pc' := 1547) dL_law_1546 rfl rfl (.head _) ?_
  refine r_iload_n (i := 3) (pc' := 1548) dL_law_1547 rfl rfl (.tail _ (.tail _ (.tail _ (.head _)))) ?_
  refine r_iconst (pc' := 1549) dL_law_1548 rfl ?_
  refine r_iadd (pc' := 1550) dL_law_1549 rfl ?_
  refine r_sld (pc' := 1551) dL_law_1550 rfl rfl (by omega) (by omega) (by omega) rfl ?_
  refine r_V2gi (ci := 12) (pc' := 1554) dL_law_1551 rfl lL_212 rfl (by decide) (Nat.le_of_ble_eq_true rfl) (by first | assumption | rfl) (by omega) e1537 (fun r1551 n1551 P1551 X1551 Y1551 e1551 le1551 => ?_)
  obtain ⟨hz, hJ2⟩ := e1551
  refine r_raw_icmp_eq (t := 1710) (f := 1557) dL_law_1554 (by decide) rfl (fun h1554 => ?_) (fun h1554 => ?_)
  · exact kk _ _ _ _ hJ2
  · exact absurd hz.symm h1554
set_option maxHeartbeats 4000000 in
set_option maxRecDepth 100000 in
theorem cL_floor {l : Launch} {g : q_G} {n : Nat} {P : q_P} {X : q_X} {Y : q_Y} {K : q_K} {i : Nat} (hL : g.2.2.2.2.2.1 ≤ 3072) (hi : (i : Int) ≤ (g.2.2.2.2.2.1 : Int) - 6) (hJ : J n P X) (kk : ∀ n P X Y, J n P X → q_Tr l g mL_law 11 K 1710 [(0, .ref g.2.2.2.2.1), (1, .ref (g.1 + 0)), (2, .ref (g.1 + 467)), (3, .int (zi (i : Int)))] [] n P X Y) : q_Tr l g mL_law 11 K 1559 [(0, .ref g.2.2.2.2.1), (1, .ref (g.1 + 0)), (2, .ref (g.1 + 467)), (3, .int (zi (i : Int)))] [] n P X Y := by
  have hn := hJ.n
  refine r_aload_n (i := 1) (pc' := 1560) dL_law_1559 rfl rfl (.tail _ (.head _)) ?_
  refine r_aload_n (i := 0) (pc' := 1561) dL_law_1560 rfl rfl (.head _) ?_
  refine r_iload_n (i := 3) (pc' := 1562) dL_law_1561 rfl rfl (.tail _ (.tail _ (.tail _ (.head _)))) ?_
  refine r_iconst (pc' := 1563) dL_law_1562 rfl ?_
  refine r_iadd (pc' := 1564) dL_law_1563 rfl ?_
  refine r_sld (pc' := 1565) dL_law_1564 rfl rfl (by omega) (by omega) (by omega) rfl ?_
  refine r_aload_n (i := 0) (pc' := 1566) dL_law_1565 rfl rfl (.head _) ?_
  refine r_iload_n (i := 3) (pc' := 1567) dL_law_1566 rfl rfl (.tail _ (.tail _ (.tail _ (.head _)))) ?_
  refine r_iconst (pc' := 1568) dL_law_1567 rfl ?_
  refine r_iadd (pc' := 1569) dL_law_1568 rfl ?_
  refine r_sld (pc' := 1570) dL_law_1569 rfl rfl (by omega) (by omega) (by omega) rfl ?_
  refine r_V2gi (ci := 11) (pc' := 1573) dL_law_1570 rfl lL_213 rfl (by decide) (Nat.le_of_ble_eq_true rfl) (by first | assumption | rfl) (by omega) (j_floor hJ (q_in_of _) (q_in_of _)) (fun r1570 n1570 P1570 X1570 Y1570 e1570 le1570 => ?_)
  refine r_aload_n (i := 2) (pc' := 1574) dL_law_1573 rfl rfl (.tail _ (.tail _ (.head _))) ?_
  refine r_aload_n (i := 0) (pc' := 1575) dL_law_1574 rfl rfl (.head _) ?_
  refine r_iload_n (i := 3) (pc' := 1576) dL_law_1575 rfl rfl (.tail _ (.tail _ (.tail _ (.head _)))) ?_
  refine r_iconst (pc' := 1577) dL_law_1576 rfl ?_
  refine r_iadd (pc' := 1578) dL_law_1577 rfl ?_
  refine r_sld (pc' := 1579) dL_law_1578 rfl rfl (by omega) (by omega) (by omega) rfl ?_
  refine r_aload_n (i := 0) (pc' := 1580) dL_law_1579 rfl rfl (.head _) ?_
  refine r_iload_n (i := 3) (pc' := 1581) dL_law_1580 rfl rfl (.tail _ (.tail _ (.tail _ (.head _)))) ?_
  refine r_iconst (pc' := 1582) dL_law_1581 rfl ?_
  refine r_iadd (pc' := 1583) dL_law_1582 rfl ?_
  refine r_sld (pc' := 1584) dL_law_1583 rfl rfl (by omega) (by omega) (by omega) rfl ?_
  refine r_V2gi (ci := 12) (pc' := 1587) dL_law_1584 rfl lL_216 rfl (by decide) (Nat.le_of_ble_eq_true rfl) (by first | assumption | rfl) (by omega) e1570 (fun r1584 n1584 P1584 X1584 Y1584 e1584 le1584 => ?_)
  obtain ⟨hz, hJ2⟩ := e1584
  refine r_raw_icmp_eq (t := 1710) (f := 1590) dL_law_1587 (by decide) rfl (fun h1587 => ?_) (fun h1587 => ?_)
  · exact kk _ _ _ _ hJ2
  · exact absurd hz.symm h1587
set_option maxHeartbeats 4000000 in
set_option maxRecDepth 100000 in
theorem cL_over {l : Launch} {g : q_G} {n : Nat} {P : q_P} {X : q_X} {Y : q_Y} {K : q_K} {i : Nat} (hL : g.2.2.2.2.2.1 ≤ 3072) (hi : (i : Int) ≤ (g.2.2.2.2.2.1 : Int) - 6) (hJ : J n P X) (kk : ∀ n P X Y, J n P X → q_Tr l g mL_law 11 K 1710 [(0, .ref g.2.2.2.2.1), (1, .ref (g.1 + 0)), (2, .ref (g.1 + 467)), (3, .int (zi (i : Int)))] [] n P X Y) : q_Tr l g mL_law 11 K 1592 [(0, .ref g.2.2.2.2.1), (1, .ref (g.1 + 0)), (2, .ref (g.1 + 467)), (3, .int (zi (i : Int)))] [] n P X Y := by
  have hn := hJ.n
  refine r_aload_n (i := 1) (pc' := 1593) dL_law_1592 rfl rfl (.tail _ (.head _)) ?_
  refine r_aload_n (i := 0) (pc' := 1594) dL_law_1593 rfl rfl (.head _) ?_
  refine r_iload_n (i := 3) (pc' := 1595) dL_law_1594 rfl rfl (.tail _ (.tail _ (.tail _ (.head _)))) ?_
  refine r_iconst (pc' := 1596) dL_law_1595 rfl ?_
  refine r_iadd (pc' := 1597) dL_law_1596 rfl ?_
  refine r_sld (pc' := 1598) dL_law_1597 rfl rfl (by omega) (by omega) (by omega) rfl ?_
  refine r_V1gi (ci := 11) (pc' := 1601) dL_law_1598 rfl lL_217 rfl (by decide) (Nat.le_of_ble_eq_true rfl) (by first | assumption | rfl) (by omega) (j_over hJ (q_in_of _)) (fun r1598 n1598 P1598 X1598 Y1598 e1598 le1598 => ?_)
  refine r_aload_n (i := 2) (pc' := 1602) dL_law_1601 rfl rfl (.tail _ (.tail _ (.head _))) ?_
  refine r_aload_n (i := 0) (pc' := 1603) dL_law_1602 rfl rfl (.head _) ?_
  refine r_iload_n (i := 3) (pc' := 1604) dL_law_1603 rfl rfl (.tail _ (.tail _ (.tail _ (.head _)))) ?_
  refine r_iconst (pc' := 1605) dL_law_1604 rfl ?_
  refine r_iadd (pc' := 1606) dL_law_1605 rfl ?_
  refine r_sld (pc' := 1607) dL_law_1606 rfl rfl (by omega) (by omega) (by omega) rfl ?_
  refine r_V1gi (ci := 12) (pc' := 1610) dL_law_1607 rfl lL_220 rfl (by decide) (Nat.le_of_ble_eq_true rfl) (by first | assumption | rfl) (by omega) e1598 (fun r1607 n1607 P1607 X1607 Y1607 e1607 le1607 => ?_)
  obtain ⟨hz, hJ2⟩ := e1607
  refine r_raw_icmp_eq (t := 1710) (f := 1613) dL_law_1610 (by decide) rfl (fun h1610 => ?_) (fun h1610 => ?_)
  · exact kk _ _ _ _ hJ2
  · exact absurd hz.symm h1610
set_option maxHeartbeats 4000000 in
set_option maxRecDepth 100000 in
theorem cL_undo {l : Launch} {g : q_G} {n : Nat} {P : q_P} {X : q_X} {Y : q_Y} {K : q_K} {i : Nat} (hL : g.2.2.2.2.2.1 ≤ 3072) (hi : (i : Int) ≤ (g.2.2.2.2.2.1 : Int) - 6) (hJ : J n P X) (kk : ∀ n P X Y, J n P X → q_Tr l g mL_law 11 K 1710 [(0, .ref g.2.2.2.2.1), (1, .ref (g.1 + 0)), (2, .ref (g.1 + 467)), (3, .int (zi (i : Int)))] [] n P X Y) : q_Tr l g mL_law 11 K 1615 [(0, .ref g.2.2.2.2.1), (1, .ref (g.1 + 0)), (2, .ref (g.1 + 467)), (3, .int (zi (i : Int)))] [] n P X Y := by
  have hn := hJ.n
  refine r_aload_n (i := 1) (pc' := 1616) dL_law_1615 rfl rfl (.tail _ (.head _)) ?_
  refine r_V0gi (ci := 11) (pc' := 1619) dL_law_1616 rfl lL_221 rfl (by decide) (Nat.le_of_ble_eq_true rfl) (by first | assumption | rfl) (by omega) (j_undo hJ) (fun r1616 n1616 P1616 X1616 Y1616 e1616 le1616 => ?_)
  refine r_aload_n (i := 2) (pc' := 1620) dL_law_1619 rfl rfl (.tail _ (.tail _ (.head _))) ?_
  refine r_V0gi (ci := 12) (pc' := 1623) dL_law_1620 rfl lL_224 rfl (by decide) (Nat.le_of_ble_eq_true rfl) (by first | assumption | rfl) (by omega) e1616 (fun r1620 n1620 P1620 X1620 Y1620 e1620 le1620 => ?_)
  obtain ⟨hz, hJ2⟩ := e1620
  refine r_raw_icmp_eq (t := 1710) (f := 1626) dL_law_1623 (by decide) rfl (fun h1623 => ?_) (fun h1623 => ?_)
  · exact kk _ _ _ _ hJ2
  · exact absurd hz.symm h1623
set_option maxHeartbeats 4000000 in
set_option maxRecDepth 100000 in
theorem cL_keep {l : Launch} {g : q_G} {n : Nat} {P : q_P} {X : q_X} {Y : q_Y} {K : q_K} {i : Nat} (hL : g.2.2.2.2.2.1 ≤ 3072) (hi : (i : Int) ≤ (g.2.2.2.2.2.1 : Int) - 6) (hJ : J n P X) (kk : ∀ n P X Y, J n P X → q_Tr l g mL_law 11 K 1710 [(0, .ref g.2.2.2.2.1), (1, .ref (g.1 + 0)), (2, .ref (g.1 + 467)), (3, .int (zi (i : Int)))] [] n P X Y) : q_Tr l g mL_law 11 K 1628 [(0, .ref g.2.2.2.2.1), (1, .ref (g.1 + 0)), (2, .ref (g.1 + 467)), (3, .int (zi (i : Int)))] [] n P X Y := by
  have hn := hJ.n
  refine r_aload_n (i := 1) (pc' := 1629) dL_law_1628 rfl rfl (.tail _ (.head _)) ?_
  refine r_aload_n (i := 0) (pc' := 1630) dL_law_1629 rfl rfl (.head _) ?_
  refine r_iload_n (i := 3) (pc' := 1631) dL_law_1630 rfl rfl (.tail _ (.tail _ (.tail _ (.head _)))) ?_
  refine r_iconst (pc' := 1632) dL_law_1631 rfl ?_
  refine r_iadd (pc' := 1633) dL_law_1632 rfl ?_
  refine r_sld (pc' := 1634) dL_law_1633 rfl rfl (by omega) (by omega) (by omega) rfl ?_
  refine r_V1gi (ci := 11) (pc' := 1637) dL_law_1634 rfl lL_225 rfl (by decide) (Nat.le_of_ble_eq_true rfl) (by first | assumption | rfl) (by omega) (j_keep hJ (q_in_of _)) (fun r1634 n1634 P1634 X1634 Y1634 e1634 le1634 => ?_)
  refine r_aload_n (i := 2) (pc' := 1638) dL_law_1637 rfl rfl (.tail _ (.tail _ (.head _))) ?_
  refine r_aload_n (i := 0) (pc' := 1639) dL_law_1638 rfl rfl (.head _) ?_
  refine r_iload_n (i := 3) (pc' := 1640) dL_law_1639 rfl rfl (.tail _ (.tail _ (.tail _ (.head _)))) ?_
  refine r_iconst (pc' := 1641) dL_law_1640 rfl ?_
  refine r_iadd (pc' := 1642) dL_law_1641 rfl ?_
  refine r_sld (pc' := 1643) dL_law_1642 rfl rfl (by omega) (by omega) (by omega) rfl ?_
  refine r_V1gi (ci := 12) (pc' := 1646) dL_law_1643 rfl lL_229 rfl (by decide) (Nat.le_of_ble_eq_true rfl) (by first | assumption | rfl) (by omega) e1634 (fun r1643 n1643 P1643 X1643 Y1643 e1643 le1643 => ?_)
  obtain ⟨hz, hJ2⟩ := e1643
  refine r_raw_icmp_eq (t := 1710) (f := 1649) dL_law_1646 (by decide) rfl (fun h1646 => ?_) (fun h1646 => ?_)
  · exact kk _ _ _ _ hJ2
  · exact absurd hz.symm h1646
set_option maxHeartbeats 4000000 in
set_option maxRecDepth 100000 in
theorem cL_restore {l : Launch} {g : q_G} {n : Nat} {P : q_P} {X : q_X} {Y : q_Y} {K : q_K} {i : Nat} (hL : g.2.2.2.2.2.1 ≤ 3072) (hi : (i : Int) ≤ (g.2.2.2.2.2.1 : Int) - 6) (hJ : J n P X) (kk : ∀ n P X Y, J n P X → q_Tr l g mL_law 11 K 1710 [(0, .ref g.2.2.2.2.1), (1, .ref (g.1 + 0)), (2, .ref (g.1 + 467)), (3, .int (zi (i : Int)))] [] n P X Y) : q_Tr l g mL_law 11 K 1651 [(0, .ref g.2.2.2.2.1), (1, .ref (g.1 + 0)), (2, .ref (g.1 + 467)), (3, .int (zi (i : Int)))] [] n P X Y := by
  have hn := hJ.n
  refine r_aload_n (i := 1) (pc' := 1652) dL_law_1651 rfl rfl (.tail _ (.head _)) ?_
  refine r_aload_n (i := 0) (pc' := 1653) dL_law_1652 rfl rfl (.head _) ?_
  refine r_iload_n (i := 3) (pc' := 1654) dL_law_1653 rfl rfl (.tail _ (.tail _ (.tail _ (.head _)))) ?_
  refine r_iconst (pc' := 1655) dL_law_1654 rfl ?_
  refine r_iadd (pc' := 1656) dL_law_1655 rfl ?_
  refine r_sld (pc' := 1657) dL_law_1656 rfl rfl (by omega) (by omega) (by omega) rfl ?_
  refine r_V1gi (ci := 11) (pc' := 1660) dL_law_1657 rfl lL_230 rfl (by decide) (Nat.le_of_ble_eq_true rfl) (by first | assumption | rfl) (by omega) (j_restore hJ (q_in_of _)) (fun r1657 n1657 P1657 X1657 Y1657 e1657 le1657 => ?_)
  refine r_aload_n (i := 2) (pc' := 1661) dL_law_1660 rfl rfl (.tail _ (.tail _ (.head _))) ?_
  refine r_aload_n (i := 0) (pc' := 1662) dL_law_1661 rfl rfl (.head _) ?_
  refine r_iload_n (i := 3) (pc' := 1663) dL_law_1662 rfl rfl (.tail _ (.tail _ (.tail _ (.head _)))) ?_
  refine r_iconst (pc' := 1664) dL_law_1663 rfl ?_
  refine r_iadd (pc' := 1665) dL_law_1664 rfl ?_
  refine r_sld (pc' := 1666) dL_law_1665 rfl rfl (by omega) (by omega) (by omega) rfl ?_
  refine r_V1gi (ci := 12) (pc' := 1669) dL_law_1666 rfl lL_233 rfl (by decide) (Nat.le_of_ble_eq_true rfl) (by first | assumption | rfl) (by omega) e1657 (fun r1666 n1666 P1666 X1666 Y1666 e1666 le1666 => ?_)
  obtain ⟨hz, hJ2⟩ := e1666
  refine r_raw_icmp_eq (t := 1710) (f := 1672) dL_law_1669 (by decide) rfl (fun h1669 => ?_) (fun h1669 => ?_)
  · exact kk _ _ _ _ hJ2
  · exact absurd hz.symm h1669
set_option maxHeartbeats 4000000 in
set_option maxRecDepth 100000 in
theorem cL_write {l : Launch} {g : q_G} {n : Nat} {P : q_P} {X : q_X} {Y : q_Y} {K : q_K} {i : Nat} (hL : g.2.2.2.2.2.1 ≤ 3072) (hi : (i : Int) ≤ (g.2.2.2.2.2.1 : Int) - 6) (hJ : J n P X) (kk : ∀ n P X Y, J n P X → q_Tr l g mL_law 11 K 1710 [(0, .ref g.2.2.2.2.1), (1, .ref (g.1 + 0)), (2, .ref (g.1 + 467)), (3, .int (zi (i : Int)))] [] n P X Y) : q_Tr l g mL_law 11 K 1674 [(0, .ref g.2.2.2.2.1), (1, .ref (g.1 + 0)), (2, .ref (g.1 + 467)), (3, .int (zi (i : Int)))] [] n P X Y := by
  have hn := hJ.n
  refine r_aload_n (i := 1) (pc' := 1675) dL_law_1674 rfl rfl (.tail _ (.head _)) ?_
  refine r_V0gi (ci := 11) (pc' := 1678) dL_law_1675 rfl lL_234 rfl (by decide) (Nat.le_of_ble_eq_true rfl) (by first | assumption | rfl) (by omega) (j_write hJ) (fun r1675 n1675 P1675 X1675 Y1675 e1675 le1675 => ?_)
  refine r_aload_n (i := 2) (pc' := 1679) dL_law_1678 rfl rfl (.tail _ (.tail _ (.head _))) ?_
  refine r_V0gi (ci := 12) (pc' := 1682) dL_law_1679 rfl lL_237 rfl (by decide) (Nat.le_of_ble_eq_true rfl) (by first | assumption | rfl) (by omega) e1675 (fun r1679 n1679 P1679 X1679 Y1679 e1679 le1679 => ?_)
  obtain ⟨hz, hJ2⟩ := e1679
  refine r_raw_icmp_eq (t := 1710) (f := 1685) dL_law_1682 (by decide) rfl (fun h1682 => ?_) (fun h1682 => ?_)
  · exact kk _ _ _ _ hJ2
  · exact absurd hz.symm h1682
set_option maxHeartbeats 4000000 in
set_option maxRecDepth 100000 in
theorem cL_octet {l : Launch} {g : q_G} {n : Nat} {P : q_P} {X : q_X} {Y : q_Y} {K : q_K} {i : Nat} (hL : g.2.2.2.2.2.1 ≤ 3072) (hi : (i : Int) ≤ (g.2.2.2.2.2.1 : Int) - 6) (hJ : J n P X) (kk : ∀ n P X Y, J n P X → q_Tr l g mL_law 11 K 1710 [(0, .ref g.2.2.2.2.1), (1, .ref (g.1 + 0)), (2, .ref (g.1 + 467)), (3, .int (zi (i : Int)))] [] n P X Y) : q_Tr l g mL_law 11 K 1687 [(0, .ref g.2.2.2.2.1), (1, .ref (g.1 + 0)), (2, .ref (g.1 + 467)), (3, .int (zi (i : Int)))] [] n P X Y := by
  have hn := hJ.n
  refine r_aload_n (i := 1) (pc' := 1688) dL_law_1687 rfl rfl (.tail _ (.head _)) ?_
  refine r_aload_n (i := 0) (pc' := 1689) dL_law_1688 rfl rfl (.head _) ?_
  refine r_iload_n (i := 3) (pc' := 1690) dL_law_1689 rfl rfl (.tail _ (.tail _ (.tail _ (.head _)))) ?_
  refine r_iconst (pc' := 1691) dL_law_1690 rfl ?_
  refine r_iadd (pc' := 1692) dL_law_1691 rfl ?_
  refine r_sld (pc' := 1693) dL_law_1692 rfl rfl (by omega) (by omega) (by omega) rfl ?_
  refine r_V1gi (ci := 11) (pc' := 1696) dL_law_1693 rfl lL_238 rfl (by decide) (Nat.le_of_ble_eq_true rfl) (by first | assumption | rfl) (by omega) (j_octet hJ (q_in_of _)) (fun r1693 n1693 P1693 X1693 Y1693 e1693 le1693 => ?_)
  refine r_aload_n (i := 2) (pc' := 1697) dL_law_1696 rfl rfl (.tail _ (.tail _ (.head _))) ?_
  refine r_aload_n (i := 0) (pc' := 1698) dL_law_1697 rfl rfl (.head _) ?_
  refine r_iload_n (i := 3) (pc' := 1699) dL_law_1698 rfl rfl (.tail _ (.tail _ (.tail _ (.head _)))) ?_
  refine r_iconst (pc' := 1700) dL_law_1699 rfl ?_
  refine r_iadd (pc' := 1701) dL_law_1700 rfl ?_
  refine r_sld (pc' := 1702) dL_law_1701 rfl rfl (by omega) (by omega) (by omega) rfl ?_
  refine r_V1gi (ci := 12) (pc' := 1705) dL_law_1702 rfl lL_241 rfl (by decide) (Nat.le_of_ble_eq_true rfl) (by first | assumption | rfl) (by omega) e1693 (fun r1702 n1702 P1702 X1702 Y1702 e1702 le1702 => ?_)
  obtain ⟨hz, hJ2⟩ := e1702
  refine r_raw_icmp_eq (t := 1710) (f := 1708) dL_law_1705 (by decide) rfl (fun h1705 => ?_) (fun h1705 => ?_)
  · exact kk _ _ _ _ hJ2
  · exact absurd hz.symm h1705
