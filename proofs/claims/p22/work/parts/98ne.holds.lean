set_option maxRecDepth 100000 in
set_option maxHeartbeats 4000000 in
/-- one load, behind its faults -/
theorem hd_ld2 {pg : Program} {l : Launch} {eg : Env} {sg : State} {mg : MethodId} {args : Array Value} {below : List Frame} {meth : Method} {cg : Code} {H : Heap} {locs : List Loc} {Q : State → Prop} {ls : Array Slot} {E : Ev} {I : SI} {L : SL} {j S0 T : Nat} (S : CallFix pg mg cg cL_holds 9 sg args wsL_holds RL) (hX : FX E sg) (G : GS E I L sg H locs) (hl : lv_has ls 9 [(8, .int (nI 3)), (7, .int (plP (I (ftt j)) (I (ftu j)) 3)), (6, .int (nI j)), (5, .int (1 : Int32)), (3, .long (lN T)), (1, .long (lN S0)), (0, .ref (E.2.2.2 0))]) (hj : j < 2) (hb : LoI (I (ldb j))) (hpl : plP (I (ftt j)) (I (ftu j)) 3 = (1 : Int32) <<< (I (ftn j) 3 &&& 31) - 1) (kk : ∀ (H1 : Heap) (locs1 : List Loc) (ls1 : Array Slot), GS E I L sg H1 locs1 → lv_has ls1 9 [(6, .int (nI (j + 1))), (5, .int (1 : Int32)), (3, .long (lN T)), (1, .long (lN S0)), (0, .ref (E.2.2.2 0))] → W pg l eg ({ frames := 6, cells := 0, slots := 0, locals := 140 } : Room) sg mg args below meth cg H1 locs1 0 0 Q (F0 mg 185 ls1 [])) : W pg l eg ({ frames := 6, cells := 0, slots := 0, locals := 140 } : Room) sg mg args below meth cg H locs 0 0 Q (F0 mg 214 ls []) := by
  have hf : 0 ≤ ({ frames := 6, cells := 0, slots := 0, locals := 140 } : Room).cells ∧ 0 ≤ ({ frames := 6, cells := 0, slots := 0, locals := 140 } : Room).slots := ⟨Nat.zero_le _, Nat.zero_le _⟩
  refine lv_iload S.1 S.2.1 dL_holds_214 (lv_at hl 0 rfl) ?_
  refine lv_iconst (v := (3 : Int32)) S.1 S.2.1 dL_holds_216 (by decide) ?_
  refine lv_icmp_ge (tgt := 325) S.1 S.2.1 dL_holds_217 (by decide) (fun _ => ?_) (fun h => absurd (by decide) h)
  refine lv_iload S.1 S.2.1 dL_holds_325 (lv_at hl 3 rfl) ?_
  refine lv_if_eq (tgt := 408) S.1 S.2.1 dL_holds_327 (by decide) (fun h => absurd h (by decide)) (fun _ => ?_)
  refine lv_iload S.1 S.2.1 dL_holds_330 (lv_at hl 1 rfl) ?_
  refine lv_iconst (v := (1 : Int32)) S.1 S.2.1 dL_holds_332 (by decide) ?_
  refine lv_aload_n S.1 S.2.1 dL_holds_333 rfl (lv_at hl 6 rfl) ?_
  refine lv_iload S.1 S.2.1 dL_holds_334 (lv_at hl 2 rfl) ?_
  refine lv_bipush (v := (10 : Int32)) S.1 S.2.1 dL_holds_336 (by decide) ?_
  refine s_read (As := [.int (nI j), .int (10 : Int32)]) (rest := [.int (1 : Int32), .int (plP (I (ftt j)) (I (ftu j)) 3)]) S hX G (r_load_10 l E j hj) (cwV (bytes := cX8_load) (maxL := 4) (ret := (some .int)) 2 S.2.2.2.2 gL_holds_X8_load rfl rfl rfl (by decide +kernel) ⟨Nat.le_of_ble_eq_true rfl, Nat.le_of_ble_eq_true rfl⟩) rfl hl.1 rfl (Nat.le_of_ble_eq_true rfl) hf dL_holds_338 (fun H locs G => ?_)
  refine lv_ishl S.1 S.2.1 dL_holds_341 ?_
  refine lv_iconst (v := (1 : Int32)) S.1 S.2.1 dL_holds_342 (by decide) ?_
  refine s_isub (v := (((1 : Int32) <<< ((I (ftn j) 3) &&& 31)) - (1 : Int32))) S dL_holds_343 rfl ?_
  refine lv_icmp_ne (tgt := 408) S.1 S.2.1 dL_holds_344 (by decide) (fun h => absurd hpl h) (fun _ => ?_)
  rcases Classical.em (I (ldb j) 7 = 0) with h7 | h7
  · refine lv_aload_n S.1 S.2.1 dL_holds_347 rfl (lv_at hl 6 rfl) ?_
    refine lv_iload S.1 S.2.1 dL_holds_348 (lv_at hl 2 rfl) ?_
    refine lv_bipush (v := (7 : Int32)) S.1 S.2.1 dL_holds_350 (by decide) ?_
    refine s_read (As := [.int (nI j), .int (7 : Int32)]) (rest := []) S hX G (r_load_7 l E j hj hb.2.1) (cwV (bytes := cX8_load) (maxL := 4) (ret := (some .int)) 2 S.2.2.2.2 gL_holds_X8_load rfl rfl rfl (by decide +kernel) ⟨Nat.le_of_ble_eq_true rfl, Nat.le_of_ble_eq_true rfl⟩) rfl hl.1 rfl (Nat.le_of_ble_eq_true rfl) hf dL_holds_352 (fun H locs G => ?_)
    refine lv_if_eq (tgt := 370) S.1 S.2.1 dL_holds_355 (by decide) (fun _ => ?_) (fun h => absurd h7 h)
    refine lv_aload_n S.1 S.2.1 dL_holds_370 rfl (lv_at hl 6 rfl) ?_
    refine lv_iload S.1 S.2.1 dL_holds_371 (lv_at hl 2 rfl) ?_
    refine lv_iconst (v := (5 : Int32)) S.1 S.2.1 dL_holds_373 (by decide) ?_
    refine s_read (As := [.int (nI j), .int (5 : Int32)]) (rest := []) S hX G (r_load_5 l E j hj) (cwV (bytes := cX8_load) (maxL := 4) (ret := (some .int)) 2 S.2.2.2.2 gL_holds_X8_load rfl rfl rfl (by decide +kernel) ⟨Nat.le_of_ble_eq_true rfl, Nat.le_of_ble_eq_true rfl⟩) rfl hl.1 rfl (Nat.le_of_ble_eq_true rfl) hf dL_holds_374 (fun H locs G => ?_)
    refine lv_if_lt (tgt := 408) S.1 S.2.1 dL_holds_377 (by decide) (fun h => absurd h (fun q => by have q := Int32.lt_iff_toInt_lt.mp q; have z0 : (0 : Int32).toInt = 0 := (by decide); have := hb.2.2.2.1; omega)) (fun _ => ?_)
    refine lv_aload_n S.1 S.2.1 dL_holds_380 rfl (lv_at hl 6 rfl) ?_
    refine lv_iload S.1 S.2.1 dL_holds_381 (lv_at hl 2 rfl) ?_
    refine lv_iconst (v := (4 : Int32)) S.1 S.2.1 dL_holds_383 (by decide) ?_
    refine s_read (As := [.int (nI j), .int (4 : Int32)]) (rest := []) S hX G (r_load_4 l E j hj) (cwV (bytes := cX8_load) (maxL := 4) (ret := (some .int)) 2 S.2.2.2.2 gL_holds_X8_load rfl rfl rfl (by decide +kernel) ⟨Nat.le_of_ble_eq_true rfl, Nat.le_of_ble_eq_true rfl⟩) rfl hl.1 rfl (Nat.le_of_ble_eq_true rfl) hf dL_holds_384 (fun H locs G => ?_)
    refine lv_ldc (v := (-1000000 : Int32)) S.1 S.2.1 S.2.2.2.1 (S.2.2.2.2 _ (List.mem_of_getElem? (i := 2) rfl)) dL_holds_387 ?_
    refine lv_icmp_lt (tgt := 408) S.1 S.2.1 dL_holds_389 (by decide) (fun h => absurd h (fun q => by have q := Int32.lt_iff_toInt_lt.mp q; have z0 : (-1000000 : Int32).toInt = -1000000 := (by decide); have := hb.2.2.2.2.1; omega)) (fun _ => ?_)
    refine lv_aload_n S.1 S.2.1 dL_holds_392 rfl (lv_at hl 6 rfl) ?_
    refine lv_iload S.1 S.2.1 dL_holds_393 (lv_at hl 2 rfl) ?_
    refine lv_iconst (v := (4 : Int32)) S.1 S.2.1 dL_holds_395 (by decide) ?_
    refine s_read (As := [.int (nI j), .int (4 : Int32)]) (rest := []) S hX G (r_load_4 l E j hj) (cwV (bytes := cX8_load) (maxL := 4) (ret := (some .int)) 2 S.2.2.2.2 gL_holds_X8_load rfl rfl rfl (by decide +kernel) ⟨Nat.le_of_ble_eq_true rfl, Nat.le_of_ble_eq_true rfl⟩) rfl hl.1 rfl (Nat.le_of_ble_eq_true rfl) hf dL_holds_396 (fun H locs G => ?_)
    refine lv_ldc (v := (1000000 : Int32)) S.1 S.2.1 S.2.2.2.1 (S.2.2.2.2 _ (List.mem_of_getElem? (i := 3) rfl)) dL_holds_399 ?_
    refine lv_icmp_gt (tgt := 408) S.1 S.2.1 dL_holds_401 (by decide) (fun h => absurd h (fun q => by have q := Int32.lt_iff_toInt_lt.mp q; have z0 : (1000000 : Int32).toInt = 1000000 := (by decide); have := hb.2.2.2.2.2; omega)) (fun _ => ?_)
    refine lv_iconst (v := (1 : Int32)) S.1 S.2.1 dL_holds_404 (by decide) ?_
    refine lv_goto (tgt := 409) S.1 S.2.1 dL_holds_405 (by decide) ?_
    refine lv_istore (lv' := [(5, .int (1 : Int32)), (8, .int (nI 3)), (7, .int (plP (I (ftt j)) (I (ftu j)) 3)), (6, .int (nI j)), (3, .long (lN T)), (1, .long (lN S0)), (0, .ref (E.2.2.2 0))]) S.1 S.2.1 dL_holds_409 hl (by decide) rfl (fun ls hl => ?_)
    refine lv_iinc (v := (nI (j + 1))) (lv' := [(6, .int (nI (j + 1))), (5, .int (1 : Int32)), (8, .int (nI 3)), (7, .int (plP (I (ftt j)) (I (ftu j)) 3)), (3, .long (lN T)), (1, .long (lN S0)), (0, .ref (E.2.2.2 0))]) S.1 S.2.1 dL_holds_411 hl (k := 3) rfl (nI_1 j) (by decide) rfl (fun ls hl => ?_)
    refine lv_goto (tgt := 185) S.1 S.2.1 dL_holds_414 (by decide) ?_
    exact kk _ _ _ G (lv_sub hl [0, 1, 4, 5, 6] rfl)
  · refine lv_aload_n S.1 S.2.1 dL_holds_347 rfl (lv_at hl 6 rfl) ?_
    refine lv_iload S.1 S.2.1 dL_holds_348 (lv_at hl 2 rfl) ?_
    refine lv_bipush (v := (7 : Int32)) S.1 S.2.1 dL_holds_350 (by decide) ?_
    refine s_read (As := [.int (nI j), .int (7 : Int32)]) (rest := []) S hX G (r_load_7 l E j hj hb.2.1) (cwV (bytes := cX8_load) (maxL := 4) (ret := (some .int)) 2 S.2.2.2.2 gL_holds_X8_load rfl rfl rfl (by decide +kernel) ⟨Nat.le_of_ble_eq_true rfl, Nat.le_of_ble_eq_true rfl⟩) rfl hl.1 rfl (Nat.le_of_ble_eq_true rfl) hf dL_holds_352 (fun H locs G => ?_)
    refine lv_if_eq (tgt := 370) S.1 S.2.1 dL_holds_355 (by decide) (fun h => absurd h h7) (fun _ => ?_)
    refine lv_aload_n S.1 S.2.1 dL_holds_358 rfl (lv_at hl 6 rfl) ?_
    refine lv_iload S.1 S.2.1 dL_holds_359 (lv_at hl 2 rfl) ?_
    refine lv_bipush (v := (6 : Int32)) S.1 S.2.1 dL_holds_361 (by decide) ?_
    refine s_read (As := [.int (nI j), .int (6 : Int32)]) (rest := []) S hX G (r_load_6 l E j hj hb.1) (cwV (bytes := cX8_load) (maxL := 4) (ret := (some .int)) 2 S.2.2.2.2 gL_holds_X8_load rfl rfl rfl (by decide +kernel) ⟨Nat.le_of_ble_eq_true rfl, Nat.le_of_ble_eq_true rfl⟩) rfl hl.1 rfl (Nat.le_of_ble_eq_true rfl) hf dL_holds_363 (fun H locs G => ?_)
    refine lv_iconst (v := (1 : Int32)) S.1 S.2.1 dL_holds_366 (by decide) ?_
    refine lv_icmp_ne (tgt := 408) S.1 S.2.1 dL_holds_367 (by decide) (fun h => absurd (hb.2.2.1 h7) h) (fun _ => ?_)
    refine lv_aload_n S.1 S.2.1 dL_holds_370 rfl (lv_at hl 6 rfl) ?_
    refine lv_iload S.1 S.2.1 dL_holds_371 (lv_at hl 2 rfl) ?_
    refine lv_iconst (v := (5 : Int32)) S.1 S.2.1 dL_holds_373 (by decide) ?_
    refine s_read (As := [.int (nI j), .int (5 : Int32)]) (rest := []) S hX G (r_load_5 l E j hj) (cwV (bytes := cX8_load) (maxL := 4) (ret := (some .int)) 2 S.2.2.2.2 gL_holds_X8_load rfl rfl rfl (by decide +kernel) ⟨Nat.le_of_ble_eq_true rfl, Nat.le_of_ble_eq_true rfl⟩) rfl hl.1 rfl (Nat.le_of_ble_eq_true rfl) hf dL_holds_374 (fun H locs G => ?_)
    refine lv_if_lt (tgt := 408) S.1 S.2.1 dL_holds_377 (by decide) (fun h => absurd h (fun q => by have q := Int32.lt_iff_toInt_lt.mp q; have z0 : (0 : Int32).toInt = 0 := (by decide); have := hb.2.2.2.1; omega)) (fun _ => ?_)
    refine lv_aload_n S.1 S.2.1 dL_holds_380 rfl (lv_at hl 6 rfl) ?_
    refine lv_iload S.1 S.2.1 dL_holds_381 (lv_at hl 2 rfl) ?_
    refine lv_iconst (v := (4 : Int32)) S.1 S.2.1 dL_holds_383 (by decide) ?_
    refine s_read (As := [.int (nI j), .int (4 : Int32)]) (rest := []) S hX G (r_load_4 l E j hj) (cwV (bytes := cX8_load) (maxL := 4) (ret := (some .int)) 2 S.2.2.2.2 gL_holds_X8_load rfl rfl rfl (by decide +kernel) ⟨Nat.le_of_ble_eq_true rfl, Nat.le_of_ble_eq_true rfl⟩) rfl hl.1 rfl (Nat.le_of_ble_eq_true rfl) hf dL_holds_384 (fun H locs G => ?_)
    refine lv_ldc (v := (-1000000 : Int32)) S.1 S.2.1 S.2.2.2.1 (S.2.2.2.2 _ (List.mem_of_getElem? (i := 2) rfl)) dL_holds_387 ?_
    refine lv_icmp_lt (tgt := 408) S.1 S.2.1 dL_holds_389 (by decide) (fun h => absurd h (fun q => by have q := Int32.lt_iff_toInt_lt.mp q; have z0 : (-1000000 : Int32).toInt = -1000000 := (by decide); have := hb.2.2.2.2.1; omega)) (fun _ => ?_)
    refine lv_aload_n S.1 S.2.1 dL_holds_392 rfl (lv_at hl 6 rfl) ?_
    refine lv_iload S.1 S.2.1 dL_holds_393 (lv_at hl 2 rfl) ?_
    refine lv_iconst (v := (4 : Int32)) S.1 S.2.1 dL_holds_395 (by decide) ?_
    refine s_read (As := [.int (nI j), .int (4 : Int32)]) (rest := []) S hX G (r_load_4 l E j hj) (cwV (bytes := cX8_load) (maxL := 4) (ret := (some .int)) 2 S.2.2.2.2 gL_holds_X8_load rfl rfl rfl (by decide +kernel) ⟨Nat.le_of_ble_eq_true rfl, Nat.le_of_ble_eq_true rfl⟩) rfl hl.1 rfl (Nat.le_of_ble_eq_true rfl) hf dL_holds_396 (fun H locs G => ?_)
    refine lv_ldc (v := (1000000 : Int32)) S.1 S.2.1 S.2.2.2.1 (S.2.2.2.2 _ (List.mem_of_getElem? (i := 3) rfl)) dL_holds_399 ?_
    refine lv_icmp_gt (tgt := 408) S.1 S.2.1 dL_holds_401 (by decide) (fun h => absurd h (fun q => by have q := Int32.lt_iff_toInt_lt.mp q; have z0 : (1000000 : Int32).toInt = 1000000 := (by decide); have := hb.2.2.2.2.2; omega)) (fun _ => ?_)
    refine lv_iconst (v := (1 : Int32)) S.1 S.2.1 dL_holds_404 (by decide) ?_
    refine lv_goto (tgt := 409) S.1 S.2.1 dL_holds_405 (by decide) ?_
    refine lv_istore (lv' := [(5, .int (1 : Int32)), (8, .int (nI 3)), (7, .int (plP (I (ftt j)) (I (ftu j)) 3)), (6, .int (nI j)), (3, .long (lN T)), (1, .long (lN S0)), (0, .ref (E.2.2.2 0))]) S.1 S.2.1 dL_holds_409 hl (by decide) rfl (fun ls hl => ?_)
    refine lv_iinc (v := (nI (j + 1))) (lv' := [(6, .int (nI (j + 1))), (5, .int (1 : Int32)), (8, .int (nI 3)), (7, .int (plP (I (ftt j)) (I (ftu j)) 3)), (3, .long (lN T)), (1, .long (lN S0)), (0, .ref (E.2.2.2 0))]) S.1 S.2.1 dL_holds_411 hl (k := 3) rfl (nI_1 j) (by decide) rfl (fun ls hl => ?_)
    refine lv_goto (tgt := 185) S.1 S.2.1 dL_holds_414 (by decide) ?_
    exact kk _ _ _ G (lv_sub hl [0, 1, 4, 5, 6] rfl)
