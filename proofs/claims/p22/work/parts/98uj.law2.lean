set_option maxRecDepth 100000 in
set_option maxHeartbeats 4000000 in
/-- a trial, and the same slots in two -/
theorem lw_c3 {pg : Program} {l : Launch} {eg : Env} {sg : State} {mg : MethodId} {b : Nat} {below : List Frame} {meth : Method} {cg : Code} {H : Heap} {locs : List Loc} {cells slots : Nat} {Q : State → Prop} {ls : Array Slot} {E : Ev} {I : SI} {L : SL} {Lx : Nat} {xs : Nat → Int32} {D k z i a q : Nat} {M : Nat → Nat} (S : CallFix pg mg cg code 21 sg #[Value.ref b] wsL_law RL) (hX : FX E sg) (hx : ScrAt E b Lx xs sg) (hLx : Lx ≤ 260) (hf : cells ≤ room_1.cells ∧ slots ≤ room_1.slots) (G : GS E I L sg H locs) (hl : lv_has ls 21 [(6, .int (nI z)), (4, .int (nI i)), (3, .int (1 : Int32)), (2, .int (nI D)), (1, .ref (E.2.2.2 0)), (0, .ref b)]) (hz : z < 2 ^ 30) (h : Inv I D k M) (hk : k ≤ 1200) (hD : D < 2 ^ 28) (ha : 2 + z % 20 = a) (hq : 1 + z / 32 % (a - 1) = q) (kk : ∀ (I1 : SI) (L1 : SL), ∀ k1 : Nat, k1 ≤ k + 30 → Inv I1 D k1 M → ∀ (H1 : Heap) (locs1 : List Loc) (ls1 : Array Slot), GS E I1 L1 sg H1 locs1 → lv_has ls1 21 [(4, .int (nI i)), (3, .int (1 : Int32)), (2, .int (nI D)), (1, .ref (E.2.2.2 0)), (0, .ref b)] → W pg l eg room_1 sg mg #[Value.ref b] below meth cg H1 locs1 cells slots Q (F0 mg 563 ls1 [])) : W pg l eg room_1 sg mg #[Value.ref b] below meth cg H locs cells slots Q (F0 mg 397 ls []) := by
  have hqa : q ≤ a - 1 := by have := Nat.mod_lt (z / 32) (show 0 < a - 1 by omega); omega
  refine lv_iconst (v := (2 : Int32)) S.1 S.2.1 dL_law_397 (by decide) ?_
  refine lv_iload S.1 S.2.1 dL_law_398 (lv_at hl 0 rfl) ?_
  refine lv_bipush (v := (20 : Int32)) S.1 S.2.1 dL_law_400 (by decide) ?_
  refine s_irem (v := (nI (z % 20))) S dL_law_402 (by decide) (pk_rem (a := z) (d := 20) (by omega) (by decide) (by decide)) ?_
  refine s_iadd (v := (nI (2 + (z % 20)))) S dL_law_403 (nI_add 2 (z % 20)) ?_
  refine s_conv (y := (nI a)) (congrArg nI ha) ?_
  refine lv_istore (lv' := [(12, .int (nI a)), (6, .int (nI z)), (4, .int (nI i)), (3, .int (1 : Int32)), (2, .int (nI D)), (1, .ref (E.2.2.2 0)), (0, .ref b)]) S.1 S.2.1 dL_law_404 hl (by decide) rfl (fun ls hl => ?_)
  refine lv_iconst (v := (1 : Int32)) S.1 S.2.1 dL_law_406 (by decide) ?_
  refine lv_iload S.1 S.2.1 dL_law_407 (lv_at hl 1 rfl) ?_
  refine lv_bipush (v := (32 : Int32)) S.1 S.2.1 dL_law_409 (by decide) ?_
  refine s_idiv (v := (nI (z / 32))) S dL_law_411 (by decide) (pk_div (a := z) (d := 32) (by omega) (by decide) (by decide)) ?_
  refine lv_iload S.1 S.2.1 dL_law_412 (lv_at hl 0 rfl) ?_
  refine lv_iconst (v := (1 : Int32)) S.1 S.2.1 dL_law_414 (by decide) ?_
  refine s_isub (v := (nI (a - 1))) S dL_law_415 (pk_sub (a := a) (b := 1) (by omega)) ?_
  refine s_irem (v := (nI (z / 32 % (a - 1)))) S dL_law_416 (fun e => by have := (nI_z (by omega)).mp e; omega) (pk_rem (a := z / 32) (d := a - 1) (by omega) (by omega) (by omega)) ?_
  refine s_iadd (v := (nI (1 + (z / 32 % (a - 1))))) S dL_law_417 (nI_add 1 (z / 32 % (a - 1))) ?_
  refine s_conv (y := (nI q)) (congrArg nI hq) ?_
  refine lv_istore (lv' := [(13, .int (nI q)), (12, .int (nI a)), (6, .int (nI z)), (4, .int (nI i)), (3, .int (1 : Int32)), (2, .int (nI D)), (1, .ref (E.2.2.2 0)), (0, .ref b)]) S.1 S.2.1 dL_law_418 hl (by decide) rfl (fun ls hl => ?_)
  refine lv_aload_n S.1 S.2.1 dL_law_420 rfl (lv_at hl 6 rfl) ?_
  refine lv_iconst (v := (0 : Int32)) S.1 S.2.1 dL_law_421 (by decide) ?_
  refine lv_iload S.1 S.2.1 dL_law_422 (lv_at hl 1 rfl) ?_
  refine s_callV (C := RX8) (As := [.int (0 : Int32), .int (nI a)]) (rest := []) (i := 0) (kd := 8) S hX G (k_ifg l E 0 a (by decide) h (by omega) (by omega) (by omega)) (cwV (bytes := cX8_ifGo) (maxL := 3) (ret := (some .int)) 2 S.2.2.2.2 gL_law_X8_ifGo rfl rfl rfl (by decide +kernel) ⟨Nat.le_of_ble_eq_true rfl, Nat.le_of_ble_eq_true rfl⟩) (rfl : sh 0 = 8) rfl rfl rfl (by decide) rfl hl.1 rfl (Nat.le_of_ble_eq_true rfl) hf dL_law_424 (fun v I_1 L_1 H locs hR G => ?_)
  obtain ⟨hv, f_1⟩ := hR
  subst hv
  have h_1 := h.fr f_1
  refine W.eq (g2 := F0 mg 427 ls [.int ((brIt 1 k a (I, L)).1 (ldb 0) 4)]) rfl ?_
  refine lv_istore (lv' := [(14, .int ((brIt 1 k a (I, L)).1 (ldb 0) 4)), (13, .int (nI q)), (12, .int (nI a)), (6, .int (nI z)), (4, .int (nI i)), (3, .int (1 : Int32)), (2, .int (nI D)), (1, .ref (E.2.2.2 0)), (0, .ref b)]) S.1 S.2.1 dL_law_427 hl (by decide) rfl (fun ls hl => ?_)
  refine lv_aload_n S.1 S.2.1 dL_law_429 rfl (lv_at hl 7 rfl) ?_
  refine lv_iconst (v := (1 : Int32)) S.1 S.2.1 dL_law_430 (by decide) ?_
  refine lv_iload S.1 S.2.1 dL_law_431 (lv_at hl 2 rfl) ?_
  refine s_callV (C := RX8) (As := [.int (1 : Int32), .int (nI a)]) (rest := []) (i := 0) (kd := 8) S hX G (k_ifg l E 1 a (by decide) h_1 (by omega) (by omega) (by omega)) (cwV (bytes := cX8_ifGo) (maxL := 3) (ret := (some .int)) 2 S.2.2.2.2 gL_law_X8_ifGo rfl rfl rfl (by decide +kernel) ⟨Nat.le_of_ble_eq_true rfl, Nat.le_of_ble_eq_true rfl⟩) (rfl : sh 0 = 8) rfl rfl rfl (by decide) rfl hl.1 rfl (Nat.le_of_ble_eq_true rfl) hf dL_law_433 (fun v I_2 L_2 H locs hR G => ?_)
  obtain ⟨hv, f_2⟩ := hR
  subst hv
  have h_2 := h_1.fr f_2
  refine W.eq (g2 := F0 mg 436 ls [.int ((brIt 1 k a (I_1, L_1)).1 (ldb 1) 4)]) rfl ?_
  refine lv_istore (lv' := [(15, .int ((brIt 1 k a (I_1, L_1)).1 (ldb 1) 4)), (14, .int ((brIt 1 k a (I, L)).1 (ldb 0) 4)), (13, .int (nI q)), (12, .int (nI a)), (6, .int (nI z)), (4, .int (nI i)), (3, .int (1 : Int32)), (2, .int (nI D)), (1, .ref (E.2.2.2 0)), (0, .ref b)]) S.1 S.2.1 dL_law_436 hl (by decide) rfl (fun ls hl => ?_)
  refine lv_aload_n S.1 S.2.1 dL_law_438 rfl (lv_at hl 8 rfl) ?_
  refine lv_iload S.1 S.2.1 dL_law_439 (lv_at hl 2 rfl) ?_
  refine s_callV (C := RX8) (As := [.int (nI q)]) (rest := []) (i := 0) (kd := 8) S hX G (k_gom l E q h_2 hD (by omega) (by omega) (by omega)) (cwV (bytes := cX8_go) (maxL := 2) (ret := (some .int)) 1 S.2.2.2.2 gL_law_X8_go rfl rfl rfl (by decide +kernel) ⟨Nat.le_of_ble_eq_true rfl, Nat.le_of_ble_eq_true rfl⟩) (rfl : sh 0 = 8) rfl rfl rfl (by decide) rfl hl.1 rfl (Nat.le_of_ble_eq_true rfl) hf dL_law_441 (fun v I_3 L_3 H locs hR G => ?_)
  obtain ⟨r_3, hr_3, hv, h_3, -, ag_3⟩ := hR
  subst hv
  refine W.eq (g2 := F0 mg 444 ls [.int (nI r_3)]) rfl ?_
  refine lv_if_lt (tgt := 485) S.1 S.2.1 dL_law_444 (by decide) (fun h => absurd h (nI_pos (by omega))) (fun _ => ?_)
  refine lv_aload_n S.1 S.2.1 dL_law_447 rfl (lv_at hl 8 rfl) ?_
  refine lv_iload S.1 S.2.1 dL_law_448 (lv_at hl 3 rfl) ?_
  refine lv_iload S.1 S.2.1 dL_law_450 (lv_at hl 2 rfl) ?_
  refine s_isub (v := (nI (a - q))) S dL_law_452 (pk_sub (by omega)) ?_
  refine s_callV (C := RX8) (As := [.int (nI (a - q))]) (rest := []) (i := 0) (kd := 8) S hX G (k_gom l E (a - q) h_3 hD (by omega) (by omega) (by omega)) (cwV (bytes := cX8_go) (maxL := 2) (ret := (some .int)) 1 S.2.2.2.2 gL_law_X8_go rfl rfl rfl (by decide +kernel) ⟨Nat.le_of_ble_eq_true rfl, Nat.le_of_ble_eq_true rfl⟩) (rfl : sh 0 = 8) rfl rfl rfl (by decide) rfl hl.1 rfl (Nat.le_of_ble_eq_true rfl) hf dL_law_453 (fun v I_4 L_4 H locs hR G => ?_)
  obtain ⟨r_4, hr_4, hv, h_4, -, ag_4⟩ := hR
  subst hv
  have hAG := ag_go (L := L) (L1 := L_1) f_1 f_2 ag_3 ag_4 (show q + (a - q) = a by omega)
  refine W.eq (g2 := F0 mg 456 ls [.int (nI r_4)]) rfl ?_
  refine lv_if_lt (tgt := 485) S.1 S.2.1 dL_law_456 (by decide) (fun h => absurd h (nI_pos (by omega))) (fun _ => ?_)
  refine lv_aload_n S.1 S.2.1 dL_law_459 rfl (lv_at hl 8 rfl) ?_
  refine lv_iconst (v := (0 : Int32)) S.1 S.2.1 dL_law_460 (by decide) ?_
  refine lv_iconst (v := (4 : Int32)) S.1 S.2.1 dL_law_461 (by decide) ?_
  refine s_read (As := [.int (0 : Int32), .int (4 : Int32)]) (rest := []) S hX G (r_load_4 l E 0 (by decide)) (cwV (bytes := cX8_load) (maxL := 4) (ret := (some .int)) 2 S.2.2.2.2 gL_law_X8_load rfl rfl rfl (by decide +kernel) ⟨Nat.le_of_ble_eq_true rfl, Nat.le_of_ble_eq_true rfl⟩) rfl hl.1 rfl (Nat.le_of_ble_eq_true rfl) hf dL_law_462 (fun H locs G => ?_)
  refine lv_iload S.1 S.2.1 dL_law_465 (lv_at hl 1 rfl) ?_
  refine lv_icmp_ne (tgt := 485) S.1 S.2.1 dL_law_467 (by decide) (fun h => absurd hAG.1 h) (fun _ => ?_)
  refine lv_aload_n S.1 S.2.1 dL_law_470 rfl (lv_at hl 8 rfl) ?_
  refine lv_iconst (v := (1 : Int32)) S.1 S.2.1 dL_law_471 (by decide) ?_
  refine lv_iconst (v := (4 : Int32)) S.1 S.2.1 dL_law_472 (by decide) ?_
  refine s_read (As := [.int (1 : Int32), .int (4 : Int32)]) (rest := []) S hX G (r_load_4 l E 1 (by decide)) (cwV (bytes := cX8_load) (maxL := 4) (ret := (some .int)) 2 S.2.2.2.2 gL_law_X8_load rfl rfl rfl (by decide +kernel) ⟨Nat.le_of_ble_eq_true rfl, Nat.le_of_ble_eq_true rfl⟩) rfl hl.1 rfl (Nat.le_of_ble_eq_true rfl) hf dL_law_473 (fun H locs G => ?_)
  refine lv_iload S.1 S.2.1 dL_law_476 (lv_at hl 0 rfl) ?_
  refine lv_icmp_ne (tgt := 485) S.1 S.2.1 dL_law_478 (by decide) (fun h => absurd hAG.2 h) (fun _ => ?_)
  refine lv_iconst (v := (1 : Int32)) S.1 S.2.1 dL_law_481 (by decide) ?_
  refine lv_goto (tgt := 486) S.1 S.2.1 dL_law_482 (by decide) ?_
  refine lv_istore_n (lv' := [(3, .int (1 : Int32)), (15, .int ((brIt 1 k a (I_1, L_1)).1 (ldb 1) 4)), (14, .int ((brIt 1 k a (I, L)).1 (ldb 0) 4)), (13, .int (nI q)), (12, .int (nI a)), (6, .int (nI z)), (4, .int (nI i)), (2, .int (nI D)), (1, .ref (E.2.2.2 0)), (0, .ref b)]) S.1 S.2.1 dL_law_486 rfl hl (by decide) rfl (fun ls hl => ?_)
  refine lv_goto (tgt := 563) S.1 S.2.1 dL_law_487 (by decide) ?_
  exact kk I_4 L_4 (k + q + (a - q)) (by omega) h_4 _ _ _ G (lv_sub hl [6, 0, 7, 8, 9] rfl)
