set_option maxRecDepth 100000 in
set_option maxHeartbeats 4000000 in
theorem hd_0 {pg : Program} {l : Launch} {eg : Env} {sg : State} {mg : MethodId} {args : Array Value} {below : List Frame} {meth : Method} {cg : Code} {H : Heap} {locs : List Loc} {Q : State → Prop} {ls : Array Slot} {E : Ev} {I : SI} {L : SL} {k : Nat} (S : CallFix pg mg cg cL_holds 9 sg args wsL_holds RL) (hX : FX E sg) (G : GS E I L sg H locs) (hl : lv_has ls 9 [(0, .ref (E.2.2.2 0))]) (hk : I 1 4 = nI k) (hk2 : k < 2 ^ 28) (kk : ∀ (H1 : Heap) (locs1 : List Loc) (ls1 : Array Slot), GS E I L sg H1 locs1 → lv_has ls1 9 [(6, .int (0 : Int32)), (5, .int (1 : Int32)), (3, .long (0 : Int64)), (1, .long (0 : Int64)), (0, .ref (E.2.2.2 0))] → W pg l eg ({ frames := 6, cells := 0, slots := 0, locals := 140 } : Room) sg mg args below meth cg H1 locs1 0 0 Q (F0 mg 46 ls1 [])) : W pg l eg ({ frames := 6, cells := 0, slots := 0, locals := 140 } : Room) sg mg args below meth cg H locs 0 0 Q (F0 mg 0 ls []) := by
  have hf : 0 ≤ ({ frames := 6, cells := 0, slots := 0, locals := 140 } : Room).cells ∧ 0 ≤ ({ frames := 6, cells := 0, slots := 0, locals := 140 } : Room).slots := ⟨Nat.zero_le _, Nat.zero_le _⟩
  have hk2 : k < 2 ^ 30 := by omega
  refine lv_lconst (v := (0 : Int64)) S.1 S.2.1 dL_holds_0 (by decide) ?_
  refine lv_lstore_n (lv' := [(1, .long (0 : Int64)), (0, .ref (E.2.2.2 0))]) S.1 S.2.1 dL_holds_1 rfl hl (by decide) rfl (fun ls hl => ?_)
  refine lv_lconst (v := (0 : Int64)) S.1 S.2.1 dL_holds_2 (by decide) ?_
  refine lv_lstore_n (lv' := [(3, .long (0 : Int64)), (1, .long (0 : Int64)), (0, .ref (E.2.2.2 0))]) S.1 S.2.1 dL_holds_3 rfl hl (by decide) rfl (fun ls hl => ?_)
  rcases Nat.lt_or_ge k 32 with hc | hc
  · have hm : Nat.min k 32 = k := Nat.min_eq_left (by omega)
    refine lv_aload_n S.1 S.2.1 dL_holds_4 rfl (lv_at hl 2 rfl) ?_
    refine lv_iconst (v := (2 : Int32)) S.1 S.2.1 dL_holds_5 (by decide) ?_
    refine s_read (As := [.int (2 : Int32)]) (rest := []) S hX G (r_count_2 l E k hk hk2) (cwV (bytes := cX8_count) (maxL := 2) (ret := (some .long)) 1 S.2.2.2.2 gL_holds_X8_count rfl rfl rfl (by decide +kernel) ⟨Nat.le_of_ble_eq_true rfl, Nat.le_of_ble_eq_true rfl⟩) rfl hl.1 rfl (Nat.le_of_ble_eq_true rfl) hf dL_holds_6 (fun H locs G => ?_)
    refine lv_aload_n S.1 S.2.1 dL_holds_9 rfl (lv_at hl 2 rfl) ?_
    refine lv_iconst (v := (0 : Int32)) S.1 S.2.1 dL_holds_10 (by decide) ?_
    refine s_read (As := [.int (0 : Int32)]) (rest := [.long (lN (Nat.min k 32))]) S hX G (r_count_0 l E k hk hk2) (cwV (bytes := cX8_count) (maxL := 2) (ret := (some .long)) 1 S.2.2.2.2 gL_holds_X8_count rfl rfl rfl (by decide +kernel) ⟨Nat.le_of_ble_eq_true rfl, Nat.le_of_ble_eq_true rfl⟩) rfl hl.1 rfl (Nat.le_of_ble_eq_true rfl) hf dL_holds_11 (fun H locs G => ?_)
    refine lv_ldc2 (v := (32 : Int64)) S.1 S.2.1 S.2.2.2.1 (S.2.2.2.2 _ (List.mem_of_getElem? (i := 1) rfl)) dL_holds_14 ?_
    refine W.lcmp S.1 S.2.1 dL_holds_17 ?_
    refine s_if_ge_c (tgt := 29) S dL_holds_18 (by decide) (fun h => absurd h (fun q => by have q := (pk_lLE (a := 32) (by decide) (by omega)).mp q; omega)) (fun _ => ?_)
    refine lv_aload_n S.1 S.2.1 dL_holds_21 rfl (lv_at hl 2 rfl) ?_
    refine lv_iconst (v := (0 : Int32)) S.1 S.2.1 dL_holds_22 (by decide) ?_
    refine s_read (As := [.int (0 : Int32)]) (rest := [.long (lN (Nat.min k 32))]) S hX G (r_count_0 l E k hk hk2) (cwV (bytes := cX8_count) (maxL := 2) (ret := (some .long)) 1 S.2.2.2.2 gL_holds_X8_count rfl rfl rfl (by decide +kernel) ⟨Nat.le_of_ble_eq_true rfl, Nat.le_of_ble_eq_true rfl⟩) rfl hl.1 rfl (Nat.le_of_ble_eq_true rfl) hf dL_holds_23 (fun H locs G => ?_)
    refine lv_goto (tgt := 32) S.1 S.2.1 dL_holds_26 (by decide) ?_
    refine W.lcmp S.1 S.2.1 dL_holds_32 ?_
    refine lv_if_ne (tgt := 40) S.1 S.2.1 dL_holds_33 (by decide) (fun h => absurd ((lg_cmp_eq _ _).mpr (congrArg lN hm)) h) (fun _ => ?_)
    refine lv_iconst (v := (1 : Int32)) S.1 S.2.1 dL_holds_36 (by decide) ?_
    refine lv_goto (tgt := 41) S.1 S.2.1 dL_holds_37 (by decide) ?_
    refine lv_istore (lv' := [(5, .int (1 : Int32)), (3, .long (0 : Int64)), (1, .long (0 : Int64)), (0, .ref (E.2.2.2 0))]) S.1 S.2.1 dL_holds_41 hl (by decide) rfl (fun ls hl => ?_)
    refine lv_iconst (v := (0 : Int32)) S.1 S.2.1 dL_holds_43 (by decide) ?_
    refine lv_istore (lv' := [(6, .int (0 : Int32)), (5, .int (1 : Int32)), (3, .long (0 : Int64)), (1, .long (0 : Int64)), (0, .ref (E.2.2.2 0))]) S.1 S.2.1 dL_holds_44 hl (by decide) rfl (fun ls hl => ?_)
    exact kk _ _ _ G (lv_sub hl [0, 1, 2, 3, 4] rfl)
  · have hm : Nat.min k 32 = 32 := Nat.min_eq_right hc
    refine lv_aload_n S.1 S.2.1 dL_holds_4 rfl (lv_at hl 2 rfl) ?_
    refine lv_iconst (v := (2 : Int32)) S.1 S.2.1 dL_holds_5 (by decide) ?_
    refine s_read (As := [.int (2 : Int32)]) (rest := []) S hX G (r_count_2 l E k hk hk2) (cwV (bytes := cX8_count) (maxL := 2) (ret := (some .long)) 1 S.2.2.2.2 gL_holds_X8_count rfl rfl rfl (by decide +kernel) ⟨Nat.le_of_ble_eq_true rfl, Nat.le_of_ble_eq_true rfl⟩) rfl hl.1 rfl (Nat.le_of_ble_eq_true rfl) hf dL_holds_6 (fun H locs G => ?_)
    refine lv_aload_n S.1 S.2.1 dL_holds_9 rfl (lv_at hl 2 rfl) ?_
    refine lv_iconst (v := (0 : Int32)) S.1 S.2.1 dL_holds_10 (by decide) ?_
    refine s_read (As := [.int (0 : Int32)]) (rest := [.long (lN (Nat.min k 32))]) S hX G (r_count_0 l E k hk hk2) (cwV (bytes := cX8_count) (maxL := 2) (ret := (some .long)) 1 S.2.2.2.2 gL_holds_X8_count rfl rfl rfl (by decide +kernel) ⟨Nat.le_of_ble_eq_true rfl, Nat.le_of_ble_eq_true rfl⟩) rfl hl.1 rfl (Nat.le_of_ble_eq_true rfl) hf dL_holds_11 (fun H locs G => ?_)
    refine lv_ldc2 (v := (32 : Int64)) S.1 S.2.1 S.2.2.2.1 (S.2.2.2.2 _ (List.mem_of_getElem? (i := 1) rfl)) dL_holds_14 ?_
    refine W.lcmp S.1 S.2.1 dL_holds_17 ?_
    refine s_if_ge_c (tgt := 29) S dL_holds_18 (by decide) (fun _ => ?_) (fun h => absurd ((pk_lLE (a := 32) (by decide) (by omega)).mpr hc) h)
    refine lv_ldc2 (v := (32 : Int64)) S.1 S.2.1 S.2.2.2.1 (S.2.2.2.2 _ (List.mem_of_getElem? (i := 1) rfl)) dL_holds_29 ?_
    refine W.lcmp S.1 S.2.1 dL_holds_32 ?_
    refine lv_if_ne (tgt := 40) S.1 S.2.1 dL_holds_33 (by decide) (fun h => absurd ((lg_cmp_eq _ _).mpr (congrArg lN hm)) h) (fun _ => ?_)
    refine lv_iconst (v := (1 : Int32)) S.1 S.2.1 dL_holds_36 (by decide) ?_
    refine lv_goto (tgt := 41) S.1 S.2.1 dL_holds_37 (by decide) ?_
    refine lv_istore (lv' := [(5, .int (1 : Int32)), (3, .long (0 : Int64)), (1, .long (0 : Int64)), (0, .ref (E.2.2.2 0))]) S.1 S.2.1 dL_holds_41 hl (by decide) rfl (fun ls hl => ?_)
    refine lv_iconst (v := (0 : Int32)) S.1 S.2.1 dL_holds_43 (by decide) ?_
    refine lv_istore (lv' := [(6, .int (0 : Int32)), (5, .int (1 : Int32)), (3, .long (0 : Int64)), (1, .long (0 : Int64)), (0, .ref (E.2.2.2 0))]) S.1 S.2.1 dL_holds_44 hl (by decide) rfl (fun ls hl => ?_)
    exact kk _ _ _ G (lv_sub hl [0, 1, 2, 3, 4] rfl)
