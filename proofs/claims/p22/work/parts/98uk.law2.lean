set_option maxRecDepth 100000 in
set_option maxHeartbeats 4000000 in
/-- slots go by -/
theorem lw_c4 {pg : Program} {l : Launch} {eg : Env} {sg : State} {mg : MethodId} {b : Nat} {below : List Frame} {meth : Method} {cg : Code} {H : Heap} {locs : List Loc} {cells slots : Nat} {Q : State → Prop} {ls : Array Slot} {E : Ev} {I : SI} {L : SL} {Lx : Nat} {xs : Nat → Int32} {D k z i m c0 c1 : Nat} {M : Nat → Nat} (S : CallFix pg mg cg code 21 sg #[Value.ref b] wsL_law RL) (hX : FX E sg) (hx : ScrAt E b Lx xs sg) (hLx : Lx ≤ 260) (hf : cells ≤ room_1.cells ∧ slots ≤ room_1.slots) (G : GS E I L sg H locs) (hl : lv_has ls 21 [(6, .int (nI z)), (4, .int (nI i)), (3, .int (1 : Int32)), (2, .int (nI D)), (1, .ref (E.2.2.2 0)), (0, .ref b)]) (hz : z < 2 ^ 30) (h : Inv I D k M) (hk : k ≤ 1200) (hD : D < 2 ^ 28) (hm : 1 + z % 30 = m) (g0 : I 7 3 = nI c0) (g1 : I 16 3 = nI c1) (hc0 : c0 ≤ 3) (hc1 : c1 ≤ 3) (kk : ∀ (I1 : SI) (L1 : SL), ∀ k1 : Nat, k1 ≤ k + 30 → Inv I1 D k1 M → ∀ (H1 : Heap) (locs1 : List Loc) (ls1 : Array Slot), GS E I1 L1 sg H1 locs1 → lv_has ls1 21 [(4, .int (nI i)), (3, .int (1 : Int32)), (2, .int (nI D)), (1, .ref (E.2.2.2 0)), (0, .ref b)] → W pg l eg room_1 sg mg #[Value.ref b] below meth cg H1 locs1 cells slots Q (F0 mg 563 ls1 [])) : W pg l eg room_1 sg mg #[Value.ref b] below meth cg H locs cells slots Q (F0 mg 490 ls []) := by
  refine lv_aload_n S.1 S.2.1 dL_law_490 rfl (lv_at hl 4 rfl) ?_
  refine lv_iconst (v := (0 : Int32)) S.1 S.2.1 dL_law_491 (by decide) ?_
  refine s_read (As := [.int (0 : Int32)]) (rest := []) S hX G (r_count_0 l E k h.1.1 (by omega)) (cwV (bytes := cX8_count) (maxL := 2) (ret := (some .long)) 1 S.2.2.2.2 gL_law_X8_count rfl rfl rfl (by decide +kernel) ⟨Nat.le_of_ble_eq_true rfl, Nat.le_of_ble_eq_true rfl⟩) rfl hl.1 rfl (Nat.le_of_ble_eq_true rfl) hf dL_law_492 (fun H locs G => ?_)
  refine lv_lstore (lv' := [(16, .long (lN k)), (6, .int (nI z)), (4, .int (nI i)), (3, .int (1 : Int32)), (2, .int (nI D)), (1, .ref (E.2.2.2 0)), (0, .ref b)]) S.1 S.2.1 dL_law_495 hl (by decide) rfl (fun ls hl => ?_)
  refine lv_aload_n S.1 S.2.1 dL_law_497 rfl (lv_at hl 5 rfl) ?_
  refine lv_iconst (v := (1 : Int32)) S.1 S.2.1 dL_law_498 (by decide) ?_
  refine s_read (As := [.int (1 : Int32)]) (rest := []) S hX G (r_count_1 l E c0 c1 g0 g1 (by omega)) (cwV (bytes := cX8_count) (maxL := 2) (ret := (some .long)) 1 S.2.2.2.2 gL_law_X8_count rfl rfl rfl (by decide +kernel) ⟨Nat.le_of_ble_eq_true rfl, Nat.le_of_ble_eq_true rfl⟩) rfl hl.1 rfl (Nat.le_of_ble_eq_true rfl) hf dL_law_499 (fun H locs G => ?_)
  refine lv_lstore (lv' := [(18, .long (lN (c0 + c1))), (16, .long (lN k)), (6, .int (nI z)), (4, .int (nI i)), (3, .int (1 : Int32)), (2, .int (nI D)), (1, .ref (E.2.2.2 0)), (0, .ref b)]) S.1 S.2.1 dL_law_502 hl (by decide) rfl (fun ls hl => ?_)
  refine lv_aload_n S.1 S.2.1 dL_law_504 rfl (lv_at hl 6 rfl) ?_
  refine lv_iconst (v := (1 : Int32)) S.1 S.2.1 dL_law_505 (by decide) ?_
  refine lv_iload S.1 S.2.1 dL_law_506 (lv_at hl 2 rfl) ?_
  refine lv_bipush (v := (30 : Int32)) S.1 S.2.1 dL_law_508 (by decide) ?_
  refine s_irem (v := (nI (z % 30))) S dL_law_510 (by decide) (pk_rem (a := z) (d := 30) (by omega) (by decide) (by decide)) ?_
  refine s_iadd (v := (nI (1 + (z % 30)))) S dL_law_511 (nI_add 1 (z % 30)) ?_
  refine s_conv (y := (nI m)) (congrArg nI hm) ?_
  refine s_callV (C := RX8) (As := [.int (nI m)]) (rest := []) (i := 0) (kd := 8) S hX G (k_gom l E m h hD (by omega) (by omega) (by omega)) (cwV (bytes := cX8_go) (maxL := 2) (ret := (some .int)) 1 S.2.2.2.2 gL_law_X8_go rfl rfl rfl (by decide +kernel) ⟨Nat.le_of_ble_eq_true rfl, Nat.le_of_ble_eq_true rfl⟩) (rfl : sh 0 = 8) rfl rfl rfl (by decide) rfl hl.1 rfl (Nat.le_of_ble_eq_true rfl) hf dL_law_512 (fun v I_1 L_1 H locs hR G => ?_)
  obtain ⟨r, hr, hv, h_1, hs, -⟩ := hR
  subst hv
  obtain ⟨d0, hd0, e0⟩ := (h_1.1.ft 0 (by decide)).num
  obtain ⟨d1, hd1, e1⟩ := (h_1.1.ft 1 (by decide)).num
  have e0 : I_1 7 3 = nI d0 := e0
  have e1 : I_1 16 3 = nI d1 := e1
  have hdc : d0 + d1 = c0 + c1 + r := by
    rw [e0, e1, g0, g1, nI_add, nI_add, nI_add] at hs
    exact nI_inj (by omega) (by omega) hs
  refine W.eq (g2 := F0 mg 515 ls [.int (nI r)]) rfl ?_
  refine lv_istore (lv' := [(20, .int (nI r)), (18, .long (lN (c0 + c1))), (16, .long (lN k)), (6, .int (nI z)), (4, .int (nI i)), (3, .int (1 : Int32)), (2, .int (nI D)), (1, .ref (E.2.2.2 0)), (0, .ref b)]) S.1 S.2.1 dL_law_515 hl (by decide) rfl (fun ls hl => ?_)
  refine lv_iload S.1 S.2.1 dL_law_517 (lv_at hl 0 rfl) ?_
  refine lv_if_lt (tgt := 561) S.1 S.2.1 dL_law_519 (by decide) (fun h => absurd h (nI_pos (by omega))) (fun _ => ?_)
  refine lv_aload_n S.1 S.2.1 dL_law_522 rfl (lv_at hl 7 rfl) ?_
  refine lv_iconst (v := (0 : Int32)) S.1 S.2.1 dL_law_523 (by decide) ?_
  refine s_read (As := [.int (0 : Int32)]) (rest := []) S hX G (r_count_0 l E (k + m) h_1.1.1 (by omega)) (cwV (bytes := cX8_count) (maxL := 2) (ret := (some .long)) 1 S.2.2.2.2 gL_law_X8_count rfl rfl rfl (by decide +kernel) ⟨Nat.le_of_ble_eq_true rfl, Nat.le_of_ble_eq_true rfl⟩) rfl hl.1 rfl (Nat.le_of_ble_eq_true rfl) hf dL_law_524 (fun H locs G => ?_)
  refine lv_lload S.1 S.2.1 dL_law_527 (lv_at hl 2 rfl) ?_
  refine lv_lconst (v := (1 : Int64)) S.1 S.2.1 dL_law_529 (by decide) ?_
  refine s_ladd (v := (lN (k + 1))) S dL_law_530 (lN_add k 1) ?_
  refine lv_iload S.1 S.2.1 dL_law_531 (lv_at hl 3 rfl) ?_
  refine lv_bipush (v := (30 : Int32)) S.1 S.2.1 dL_law_533 (by decide) ?_
  refine s_irem (v := (nI (z % 30))) S dL_law_535 (by decide) (pk_rem (a := z) (d := 30) (by omega) (by decide) (by decide)) ?_
  refine lv_i2l (v := (lN (z % 30))) S.1 S.2.1 dL_law_536 (nI_l (by omega)) ?_
  refine s_ladd (v := (lN ((k + 1) + (z % 30)))) S dL_law_537 (lN_add (k + 1) (z % 30)) ?_
  refine W.lcmp S.1 S.2.1 dL_law_538 ?_
  refine lv_if_ne (tgt := 561) S.1 S.2.1 dL_law_539 (by decide) (fun h => absurd ((lg_cmp_eq _ _).mpr (congrArg lN (by omega))) h) (fun _ => ?_)
  refine lv_aload_n S.1 S.2.1 dL_law_542 rfl (lv_at hl 7 rfl) ?_
  refine lv_iconst (v := (1 : Int32)) S.1 S.2.1 dL_law_543 (by decide) ?_
  refine s_read (As := [.int (1 : Int32)]) (rest := []) S hX G (r_count_1 l E d0 d1 e0 e1 (by omega)) (cwV (bytes := cX8_count) (maxL := 2) (ret := (some .long)) 1 S.2.2.2.2 gL_law_X8_count rfl rfl rfl (by decide +kernel) ⟨Nat.le_of_ble_eq_true rfl, Nat.le_of_ble_eq_true rfl⟩) rfl hl.1 rfl (Nat.le_of_ble_eq_true rfl) hf dL_law_544 (fun H locs G => ?_)
  refine lv_lload S.1 S.2.1 dL_law_547 (lv_at hl 1 rfl) ?_
  refine lv_iload S.1 S.2.1 dL_law_549 (lv_at hl 0 rfl) ?_
  refine lv_i2l (v := (lN r)) S.1 S.2.1 dL_law_551 (nI_l (by omega)) ?_
  refine s_ladd (v := (lN ((c0 + c1) + r))) S dL_law_552 (lN_add (c0 + c1) r) ?_
  refine W.lcmp S.1 S.2.1 dL_law_553 ?_
  refine lv_if_ne (tgt := 561) S.1 S.2.1 dL_law_554 (by decide) (fun h => absurd ((lg_cmp_eq _ _).mpr (congrArg lN hdc)) h) (fun _ => ?_)
  refine lv_iconst (v := (1 : Int32)) S.1 S.2.1 dL_law_557 (by decide) ?_
  refine lv_goto (tgt := 562) S.1 S.2.1 dL_law_558 (by decide) ?_
  refine lv_istore_n (lv' := [(3, .int (1 : Int32)), (20, .int (nI r)), (18, .long (lN (c0 + c1))), (16, .long (lN k)), (6, .int (nI z)), (4, .int (nI i)), (2, .int (nI D)), (1, .ref (E.2.2.2 0)), (0, .ref b)]) S.1 S.2.1 dL_law_562 rfl hl (by decide) rfl (fun ls hl => ?_)
  exact kk I_1 L_1 (k + m) (by omega) h_1 _ _ _ G (lv_sub hl [5, 0, 6, 7, 8] rfl)
