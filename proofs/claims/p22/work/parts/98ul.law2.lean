set_option maxRecDepth 100000 in
set_option maxHeartbeats 4000000 in
/-- what holds is looked at -/
theorem lw_tail {pg : Program} {l : Launch} {eg : Env} {sg : State} {mg : MethodId} {b : Nat} {below : List Frame} {meth : Method} {cg : Code} {H : Heap} {locs : List Loc} {cells slots : Nat} {Q : State → Prop} {ls : Array Slot} {E : Ev} {I : SI} {L : SL} {Lx : Nat} {xs : Nat → Int32} {D k i : Nat} {M : Nat → Nat} (S : CallFix pg mg cg code 21 sg #[Value.ref b] wsL_law RL) (hX : FX E sg) (hx : ScrAt E b Lx xs sg) (hLx : Lx ≤ 260) (hf : cells ≤ room_1.cells ∧ slots ≤ room_1.slots) (G : GS E I L sg H locs) (hl : lv_has ls 21 [(4, .int (nI i)), (3, .int (1 : Int32)), (2, .int (nI D)), (1, .ref (E.2.2.2 0)), (0, .ref b)]) (h : Inv I D k M) (hk : k ≤ 2000) (hD : D < 2 ^ 28) (kk : ∀ (H1 : Heap) (locs1 : List Loc) (ls1 : Array Slot), GS E I L sg H1 locs1 → lv_has ls1 21 [(4, .int (nI (i + 1))), (3, .int (1 : Int32)), (2, .int (nI D)), (1, .ref (E.2.2.2 0)), (0, .ref b)] → W pg l eg room_1 sg mg #[Value.ref b] below meth cg H1 locs1 cells slots Q (F0 mg 200 ls1 [])) : W pg l eg room_1 sg mg #[Value.ref b] below meth cg H locs cells slots Q (F0 mg 563 ls []) := by
  refine lv_iload_n S.1 S.2.1 dL_law_563 rfl (lv_at hl 1 rfl) ?_
  refine lv_if_eq (tgt := 586) S.1 S.2.1 dL_law_564 (by decide) (fun h => absurd h (by decide)) (fun _ => ?_)
  refine lv_aload_n S.1 S.2.1 dL_law_567 rfl (lv_at hl 3 rfl) ?_
  refine s_readS (As := [.ref (E.2.2.2 0)]) (rest := []) S hX G (k_holds l E k h.1 (by omega)) (va_cwS (bytes := cL_holds) (maxL := 9) (ret := (some .boolean)) 1 S.2.2.2.2 gL_law_L_holds rfl rfl rfl (by decide +kernel) ⟨Nat.le_of_ble_eq_true rfl, Nat.le_of_ble_eq_true rfl⟩) rfl hl.1 rfl (Nat.le_of_ble_eq_true rfl) hf dL_law_568 (fun H locs G => ?_)
  refine lv_if_eq (tgt := 586) S.1 S.2.1 dL_law_571 (by decide) (fun h => absurd h (by decide)) (fun _ => ?_)
  refine lv_aload_n S.1 S.2.1 dL_law_574 rfl (lv_at hl 3 rfl) ?_
  refine lv_iload_n S.1 S.2.1 dL_law_575 rfl (lv_at hl 2 rfl) ?_
  refine s_readS (As := [.ref (E.2.2.2 0), .int (nI D)]) (rest := []) S hX G (k_seen l E k D M h.1 (by omega) h.2.1 h.2.2.1 hD) (va_cwS (bytes := cL_seen) (maxL := 9) (ret := (some .boolean)) 2 S.2.2.2.2 gL_law_L_seen rfl rfl rfl (by decide +kernel) ⟨Nat.le_of_ble_eq_true rfl, Nat.le_of_ble_eq_true rfl⟩) rfl hl.1 rfl (Nat.le_of_ble_eq_true rfl) hf dL_law_576 (fun H locs G => ?_)
  refine lv_if_eq (tgt := 586) S.1 S.2.1 dL_law_579 (by decide) (fun h => absurd h (by decide)) (fun _ => ?_)
  refine lv_iconst (v := (1 : Int32)) S.1 S.2.1 dL_law_582 (by decide) ?_
  refine lv_goto (tgt := 587) S.1 S.2.1 dL_law_583 (by decide) ?_
  refine lv_istore_n (lv' := [(3, .int (1 : Int32)), (4, .int (nI i)), (2, .int (nI D)), (1, .ref (E.2.2.2 0)), (0, .ref b)]) S.1 S.2.1 dL_law_587 rfl hl (by decide) rfl (fun ls hl => ?_)
  refine lv_iinc (v := (nI (i + 1))) (lv' := [(4, .int (nI (i + 1))), (3, .int (1 : Int32)), (2, .int (nI D)), (1, .ref (E.2.2.2 0)), (0, .ref b)]) S.1 S.2.1 dL_law_588 hl (k := 1) rfl (nI_1 i) (by decide) rfl (fun ls hl => ?_)
  refine lv_goto (tgt := 200) S.1 S.2.1 dL_law_591 (by decide) ?_
  exact kk  _ _ _ G (lv_sub hl [0, 1, 2, 3, 4] rfl)
