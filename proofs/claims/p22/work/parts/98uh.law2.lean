set_option maxRecDepth 100000 in
set_option maxHeartbeats 4000000 in
/-- a clearing -/
theorem lw_c2 {pg : Program} {l : Launch} {eg : Env} {sg : State} {mg : MethodId} {b : Nat} {below : List Frame} {meth : Method} {cg : Code} {H : Heap} {locs : List Loc} {cells slots : Nat} {Q : State → Prop} {ls : Array Slot} {E : Ev} {I : SI} {L : SL} {Lx : Nat} {xs : Nat → Int32} {D k z i : Nat} {M : Nat → Nat} (S : CallFix pg mg cg code 21 sg #[Value.ref b] wsL_law RL) (hX : FX E sg) (hx : ScrAt E b Lx xs sg) (hLx : Lx ≤ 260) (hf : cells ≤ room_1.cells ∧ slots ≤ room_1.slots) (G : GS E I L sg H locs) (hl : lv_has ls 21 [(6, .int (nI z)), (4, .int (nI i)), (3, .int (1 : Int32)), (2, .int (nI D)), (1, .ref (E.2.2.2 0)), (0, .ref b)]) (hz : z < 2 ^ 30) (h : Inv I D k M) (hk : k ≤ 1200) (hD : D < 2 ^ 28) (kk : ∀ (I1 : SI) (L1 : SL), ∀ k1 : Nat, k1 ≤ k + 30 → Inv I1 D k1 M → ∀ (H1 : Heap) (locs1 : List Loc) (ls1 : Array Slot), GS E I1 L1 sg H1 locs1 → lv_has ls1 21 [(4, .int (nI i)), (3, .int (1 : Int32)), (2, .int (nI D)), (1, .ref (E.2.2.2 0)), (0, .ref b)] → W pg l eg room_1 sg mg #[Value.ref b] below meth cg H1 locs1 cells slots Q (F0 mg 563 ls1 [])) : W pg l eg room_1 sg mg #[Value.ref b] below meth cg H locs cells slots Q (F0 mg 321 ls []) := by
  refine lv_iload S.1 S.2.1 dL_law_321 (lv_at hl 0 rfl) ?_
  refine lv_iconst (v := (2 : Int32)) S.1 S.2.1 dL_law_323 (by decide) ?_
  refine s_irem (v := (nI (z % 2))) S dL_law_324 (by decide) (pk_rem (a := z) (d := 2) (by omega) (by decide) (by decide)) ?_
  refine lv_istore (lv' := [(9, .int (nI (z % 2))), (6, .int (nI z)), (4, .int (nI i)), (3, .int (1 : Int32)), (2, .int (nI D)), (1, .ref (E.2.2.2 0)), (0, .ref b)]) S.1 S.2.1 dL_law_325 hl (by decide) rfl (fun ls hl => ?_)
  refine lv_aload_n S.1 S.2.1 dL_law_327 rfl (lv_at hl 5 rfl) ?_
  refine lv_iload S.1 S.2.1 dL_law_328 (lv_at hl 0 rfl) ?_
  refine lv_bipush (v := (10 : Int32)) S.1 S.2.1 dL_law_330 (by decide) ?_
  refine s_read (As := [.int (nI (z % 2)), .int (10 : Int32)]) (rest := []) S hX G (r_load_10 l E (z % 2) (by omega)) (cwV (bytes := cX8_load) (maxL := 4) (ret := (some .int)) 2 S.2.2.2.2 gL_law_X8_load rfl rfl rfl (by decide +kernel) ⟨Nat.le_of_ble_eq_true rfl, Nat.le_of_ble_eq_true rfl⟩) rfl hl.1 rfl (Nat.le_of_ble_eq_true rfl) hf dL_law_332 (fun H locs G => ?_)
  refine lv_istore (lv' := [(10, .int (I (ftn (z % 2)) 3)), (9, .int (nI (z % 2))), (6, .int (nI z)), (4, .int (nI i)), (3, .int (1 : Int32)), (2, .int (nI D)), (1, .ref (E.2.2.2 0)), (0, .ref b)]) S.1 S.2.1 dL_law_335 hl (by decide) rfl (fun ls hl => ?_)
  refine lv_aload_n S.1 S.2.1 dL_law_337 rfl (lv_at hl 6 rfl) ?_
  refine lv_iload S.1 S.2.1 dL_law_338 (lv_at hl 1 rfl) ?_
  refine lv_iload S.1 S.2.1 dL_law_340 (lv_at hl 2 rfl) ?_
  refine lv_iconst (v := (2 : Int32)) S.1 S.2.1 dL_law_342 (by decide) ?_
  refine s_idiv (v := (nI (z / 2))) S dL_law_343 (by decide) (pk_div (a := z) (d := 2) (by omega) (by decide) (by decide)) ?_
  refine lv_iconst (v := (3 : Int32)) S.1 S.2.1 dL_law_344 (by decide) ?_
  refine s_irem (v := (nI ((z / 2) % 3))) S dL_law_345 (by decide) (pk_rem (a := (z / 2)) (d := 3) (by omega) (by decide) (by decide)) ?_
  refine s_callV (C := RX8) (As := [.int (nI (z % 2)), .int (nI ((z / 2) % 3))]) (rest := []) (i := 0) (kd := 8) S hX G (k_clr l E (z % 2) (z / 2 % 3) (by omega) (by omega) h (by omega)) (cwV (bytes := cX8_clear) (maxL := 4) (ret := (some .int)) 2 S.2.2.2.2 gL_law_X8_clear rfl rfl rfl (by decide +kernel) ⟨Nat.le_of_ble_eq_true rfl, Nat.le_of_ble_eq_true rfl⟩) (rfl : sh 0 = 8) rfl rfl rfl (by decide) rfl hl.1 rfl (Nat.le_of_ble_eq_true rfl) hf dL_law_346 (fun v I_1 L_1 H locs hR G => ?_)
  obtain ⟨x, hv, h_1, hxx⟩ := hR
  subst hv
  refine W.eq (g2 := F0 mg 349 ls [.int x]) rfl ?_
  refine lv_istore (lv' := [(11, .int x), (10, .int (I (ftn (z % 2)) 3)), (9, .int (nI (z % 2))), (6, .int (nI z)), (4, .int (nI i)), (3, .int (1 : Int32)), (2, .int (nI D)), (1, .ref (E.2.2.2 0)), (0, .ref b)]) S.1 S.2.1 dL_law_349 hl (by decide) rfl (fun ls hl => ?_)
  rcases hxx with ⟨hx1, hx2⟩ | ⟨hx1, hx2⟩
  · refine lv_iload S.1 S.2.1 dL_law_351 (lv_at hl 0 rfl) ?_
    refine lv_ldc (v := (-2000000002 : Int32)) S.1 S.2.1 S.2.2.2.1 (S.2.2.2.2 _ (List.mem_of_getElem? (i := 4) rfl)) dL_law_353 ?_
    refine lv_icmp_ne (tgt := 379) S.1 S.2.1 dL_law_355 (by decide) (fun h => absurd hx1 h) (fun _ => ?_)
    refine lv_aload_n S.1 S.2.1 dL_law_358 rfl (lv_at hl 7 rfl) ?_
    refine lv_iload S.1 S.2.1 dL_law_359 (lv_at hl 2 rfl) ?_
    refine lv_bipush (v := (10 : Int32)) S.1 S.2.1 dL_law_361 (by decide) ?_
    refine s_read (As := [.int (nI (z % 2)), .int (10 : Int32)]) (rest := []) S hX G (r_load_10 l E (z % 2) (by omega)) (cwV (bytes := cX8_load) (maxL := 4) (ret := (some .int)) 2 S.2.2.2.2 gL_law_X8_load rfl rfl rfl (by decide +kernel) ⟨Nat.le_of_ble_eq_true rfl, Nat.le_of_ble_eq_true rfl⟩) rfl hl.1 rfl (Nat.le_of_ble_eq_true rfl) hf dL_law_363 (fun H locs G => ?_)
    refine lv_iload S.1 S.2.1 dL_law_366 (lv_at hl 1 rfl) ?_
    refine lv_icmp_ne (tgt := 375) S.1 S.2.1 dL_law_368 (by decide) (fun h => absurd hx2 h) (fun _ => ?_)
    refine lv_iconst (v := (1 : Int32)) S.1 S.2.1 dL_law_371 (by decide) ?_
    refine lv_goto (tgt := 393) S.1 S.2.1 dL_law_372 (by decide) ?_
    refine lv_istore_n (lv' := [(3, .int (1 : Int32)), (11, .int x), (10, .int (I (ftn (z % 2)) 3)), (9, .int (nI (z % 2))), (6, .int (nI z)), (4, .int (nI i)), (2, .int (nI D)), (1, .ref (E.2.2.2 0)), (0, .ref b)]) S.1 S.2.1 dL_law_393 rfl hl (by decide) rfl (fun ls hl => ?_)
    refine lv_goto (tgt := 563) S.1 S.2.1 dL_law_394 (by decide) ?_
    exact kk I_1 L_1 k (by omega) h_1 _ _ _ G (lv_sub hl [5, 0, 6, 7, 8] rfl)
  · refine lv_iload S.1 S.2.1 dL_law_351 (lv_at hl 0 rfl) ?_
    refine lv_ldc (v := (-2000000002 : Int32)) S.1 S.2.1 S.2.2.2.1 (S.2.2.2.2 _ (List.mem_of_getElem? (i := 4) rfl)) dL_law_353 ?_
    refine lv_icmp_ne (tgt := 379) S.1 S.2.1 dL_law_355 (by decide) (fun _ => ?_) (fun h => absurd h hx1)
    refine lv_iload S.1 S.2.1 dL_law_379 (lv_at hl 0 rfl) ?_
    refine lv_iload S.1 S.2.1 dL_law_381 (lv_at hl 1 rfl) ?_
    refine lv_iconst (v := (1 : Int32)) S.1 S.2.1 dL_law_383 (by decide) ?_
    refine s_isub (v := ((I (ftn (z % 2)) 3) - (1 : Int32))) S dL_law_384 rfl ?_
    refine lv_icmp_ne (tgt := 392) S.1 S.2.1 dL_law_385 (by decide) (fun h => absurd hx2 h) (fun _ => ?_)
    refine lv_iconst (v := (1 : Int32)) S.1 S.2.1 dL_law_388 (by decide) ?_
    refine lv_goto (tgt := 393) S.1 S.2.1 dL_law_389 (by decide) ?_
    refine lv_istore_n (lv' := [(3, .int (1 : Int32)), (11, .int x), (10, .int (I (ftn (z % 2)) 3)), (9, .int (nI (z % 2))), (6, .int (nI z)), (4, .int (nI i)), (2, .int (nI D)), (1, .ref (E.2.2.2 0)), (0, .ref b)]) S.1 S.2.1 dL_law_393 rfl hl (by decide) rfl (fun ls hl => ?_)
    refine lv_goto (tgt := 563) S.1 S.2.1 dL_law_394 (by decide) ?_
    exact kk I_1 L_1 k (by omega) h_1 _ _ _ G (lv_sub hl [5, 0, 6, 7, 8] rfl)
