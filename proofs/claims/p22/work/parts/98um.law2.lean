set_option maxRecDepth 100000 in
set_option maxHeartbeats 4000000 in
/-- the last change is undone -/
theorem lw_end {pg : Program} {l : Launch} {eg : Env} {sg : State} {mg : MethodId} {b : Nat} {below : List Frame} {meth : Method} {cg : Code} {H : Heap} {locs : List Loc} {cells slots : Nat} {Q : State → Prop} {ls : Array Slot} {E : Ev} {I : SI} {L : SL} {Lx : Nat} {xs : Nat → Int32} {D o kq : Nat} (S : CallFix pg mg cg code 21 sg #[Value.ref b] wsL_law RL) (hX : FX E sg) (hf : cells ≤ room_1.cells ∧ slots ≤ room_1.slots) (G : GS E I L sg H locs) (hl : lv_has ls 21 [(4, .int (nI 40)), (3, .int (1 : Int32)), (2, .int (nI D)), (1, .ref (E.2.2.2 0)), (0, .ref b)]) (h5 : HisI I o (kq + 1)) (kk : ∀ (I1 : SI) (L1 : SL) (H1 : Heap) (locs1 : List Loc) (ls1 : Array Slot), GS E I1 L1 sg H1 locs1 → W pg l eg room_1 sg mg #[Value.ref b] below meth cg H1 locs1 cells slots Q (F0 mg 637 ls1 [.int (1 : Int32)])) : W pg l eg room_1 sg mg #[Value.ref b] below meth cg H locs cells slots Q (F0 mg 200 ls []) := by
  refine lv_iload S.1 S.2.1 dL_law_200 (lv_at hl 0 rfl) ?_
  refine lv_bipush (v := (40 : Int32)) S.1 S.2.1 dL_law_202 (by decide) ?_
  refine lv_icmp_ge (tgt := 594) S.1 S.2.1 dL_law_204 (by decide) (fun _ => ?_) (fun h => absurd (by decide) h)
  refine lv_aload_n S.1 S.2.1 dL_law_594 rfl (lv_at hl 3 rfl) ?_
  refine lv_iconst (v := (5 : Int32)) S.1 S.2.1 dL_law_595 (by decide) ?_
  refine s_read (As := [.int (5 : Int32)]) (rest := []) S hX G (r_count_5 l E (kq + 1) h5.2.1 (by have := h5.2.2.2.1; omega)) (cwV (bytes := cX8_count) (maxL := 2) (ret := (some .long)) 1 S.2.2.2.2 gL_law_X8_count rfl rfl rfl (by decide +kernel) ⟨Nat.le_of_ble_eq_true rfl, Nat.le_of_ble_eq_true rfl⟩) rfl hl.1 rfl (Nat.le_of_ble_eq_true rfl) hf dL_law_596 (fun H locs G => ?_)
  refine lv_lstore (lv' := [(4, .long (lN (kq + 1))), (3, .int (1 : Int32)), (2, .int (nI D)), (1, .ref (E.2.2.2 0)), (0, .ref b)]) S.1 S.2.1 dL_law_599 hl (by decide) rfl (fun ls hl => ?_)
  refine lv_iload_n S.1 S.2.1 dL_law_601 rfl (lv_at hl 1 rfl) ?_
  refine lv_if_eq (tgt := 636) S.1 S.2.1 dL_law_602 (by decide) (fun h => absurd h (by decide)) (fun _ => ?_)
  refine lv_lload S.1 S.2.1 dL_law_605 (lv_at hl 0 rfl) ?_
  refine lv_lconst (v := (0 : Int64)) S.1 S.2.1 dL_law_607 (by decide) ?_
  refine W.lcmp S.1 S.2.1 dL_law_608 ?_
  refine s_if_le_c (tgt := 636) S dL_law_609 (by decide) (fun h => absurd h (fun q => by have q := (pk_lLE (b := 0) (by have := h5.2.2.2.1; omega) (by decide)).mp q; omega)) (fun _ => ?_)
  refine lv_aload_n S.1 S.2.1 dL_law_612 rfl (lv_at hl 3 rfl) ?_
  refine s_callV (C := RX8) (As := []) (rest := []) (i := 0) (kd := 8) S hX G (k_und l E o kq h5) (cwV (bytes := cX8_undo) (maxL := 1) (ret := (some .int)) 0 S.2.2.2.2 gL_law_X8_undo rfl rfl rfl (by decide +kernel) ⟨Nat.le_of_ble_eq_true rfl, Nat.le_of_ble_eq_true rfl⟩) (rfl : sh 0 = 8) rfl rfl rfl (by decide) rfl hl.1 rfl (Nat.le_of_ble_eq_true rfl) hf dL_law_613 (fun v I_1 L_1 H locs hR G => ?_)
  obtain ⟨hv, k', hk', hB'⟩ := hR
  subst hv
  refine W.eq (g2 := F0 mg 616 ls [.int (nI kq)]) rfl ?_
  refine lv_i2l (v := (lN kq)) S.1 S.2.1 dL_law_616 (nI_l (by have := h5.2.2.2.1; omega)) ?_
  refine lv_lload S.1 S.2.1 dL_law_617 (lv_at hl 0 rfl) ?_
  refine lv_lconst (v := (1 : Int64)) S.1 S.2.1 dL_law_619 (by decide) ?_
  refine s_lsub (v := (lN kq)) S dL_law_620 (lN_sub (a := kq + 1) (b := 1) (by omega)) ?_
  refine W.lcmp S.1 S.2.1 dL_law_621 ?_
  refine lv_if_ne (tgt := 636) S.1 S.2.1 dL_law_622 (by decide) (fun h => absurd ((lg_cmp_eq _ _).mpr rfl) h) (fun _ => ?_)
  refine lv_aload_n S.1 S.2.1 dL_law_625 rfl (lv_at hl 3 rfl) ?_
  refine s_readS (As := [.ref (E.2.2.2 0)]) (rest := []) S hX G (k_holds l E k' hB' (by omega)) (va_cwS (bytes := cL_holds) (maxL := 9) (ret := (some .boolean)) 1 S.2.2.2.2 gL_law_L_holds rfl rfl rfl (by decide +kernel) ⟨Nat.le_of_ble_eq_true rfl, Nat.le_of_ble_eq_true rfl⟩) rfl hl.1 rfl (Nat.le_of_ble_eq_true rfl) hf dL_law_626 (fun H locs G => ?_)
  refine lv_if_eq (tgt := 636) S.1 S.2.1 dL_law_629 (by decide) (fun h => absurd h (by decide)) (fun _ => ?_)
  refine lv_iconst (v := (1 : Int32)) S.1 S.2.1 dL_law_632 (by decide) ?_
  refine lv_goto (tgt := 637) S.1 S.2.1 dL_law_633 (by decide) ?_
  exact kk I_1 L_1 _ _ _ G
