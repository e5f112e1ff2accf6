set_option maxRecDepth 100000 in
set_option maxHeartbeats 4000000 in
theorem hd_end {pg : Program} {l : Launch} {eg : Env} {sg : State} {mg : MethodId} {args : Array Value} {below : List Frame} {meth : Method} {cg : Code} {H : Heap} {locs : List Loc} {Q : State → Prop} {ls : Array Slot} {E : Ev} {I : SI} {L : SL} {S0 T a0 a1 a2 a3 c0 c1 : Nat} (S : CallFix pg mg cg cL_holds 9 sg args wsL_holds RL) (hX : FX E sg) (G : GS E I L sg H locs) (hl : lv_has ls 9 [(6, .int (nI 2)), (5, .int (1 : Int32)), (3, .long (lN T)), (1, .long (lN S0)), (0, .ref (E.2.2.2 0))]) (h0 : I 3 3 = nI a0) (h1 : I 4 3 = nI a1) (h2 : I 12 3 = nI a2) (h3 : I 13 3 = nI a3) (ha : a0 + a1 + (a2 + a3) < 2 ^ 30) (g0 : I 7 3 = nI c0) (g1 : I 16 3 = nI c1) (hc : c0 + c1 < 2 ^ 30) (hS : S0 = a0 + a1 + (a2 + a3)) (hT : T = c0 + c1) (kk : ∀ (H1 : Heap) (locs1 : List Loc) (ls1 : Array Slot), GS E I L sg H1 locs1 → W pg l eg ({ frames := 6, cells := 0, slots := 0, locals := 140 } : Room) sg mg args below meth cg H1 locs1 0 0 Q (F0 mg 447 ls1 [.int (1 : Int32)])) : W pg l eg ({ frames := 6, cells := 0, slots := 0, locals := 140 } : Room) sg mg args below meth cg H locs 0 0 Q (F0 mg 185 ls []) := by
  have hf : 0 ≤ ({ frames := 6, cells := 0, slots := 0, locals := 140 } : Room).cells ∧ 0 ≤ ({ frames := 6, cells := 0, slots := 0, locals := 140 } : Room).slots := ⟨Nat.zero_le _, Nat.zero_le _⟩
  refine lv_iload S.1 S.2.1 dL_holds_185 (lv_at hl 0 rfl) ?_
  refine lv_iconst (v := (2 : Int32)) S.1 S.2.1 dL_holds_187 (by decide) ?_
  refine lv_icmp_ge (tgt := 417) S.1 S.2.1 dL_holds_188 (by decide) (fun _ => ?_) (fun h => absurd (by decide) h)
  refine lv_iload S.1 S.2.1 dL_holds_417 (lv_at hl 1 rfl) ?_
  refine lv_if_eq (tgt := 446) S.1 S.2.1 dL_holds_419 (by decide) (fun h => absurd h (by decide)) (fun _ => ?_)
  refine lv_lload_n S.1 S.2.1 dL_holds_422 rfl (lv_at hl 3 rfl) ?_
  refine lv_aload_n S.1 S.2.1 dL_holds_423 rfl (lv_at hl 4 rfl) ?_
  refine lv_iconst (v := (3 : Int32)) S.1 S.2.1 dL_holds_424 (by decide) ?_
  refine s_read (As := [.int (3 : Int32)]) (rest := [.long (lN S0)]) S hX G (r_count_3 l E a0 a1 a2 a3 h0 h1 h2 h3 (by omega)) (cwV (bytes := cX8_count) (maxL := 2) (ret := (some .long)) 1 S.2.2.2.2 gL_holds_X8_count rfl rfl rfl (by decide +kernel) ⟨Nat.le_of_ble_eq_true rfl, Nat.le_of_ble_eq_true rfl⟩) rfl hl.1 rfl (Nat.le_of_ble_eq_true rfl) hf dL_holds_425 (fun H locs G => ?_)
  refine W.lcmp S.1 S.2.1 dL_holds_428 ?_
  refine lv_if_ne (tgt := 446) S.1 S.2.1 dL_holds_429 (by decide) (fun h => absurd ((lg_cmp_eq _ _).mpr (congrArg lN hS)) h) (fun _ => ?_)
  refine lv_lload_n S.1 S.2.1 dL_holds_432 rfl (lv_at hl 2 rfl) ?_
  refine lv_aload_n S.1 S.2.1 dL_holds_433 rfl (lv_at hl 4 rfl) ?_
  refine lv_iconst (v := (1 : Int32)) S.1 S.2.1 dL_holds_434 (by decide) ?_
  refine s_read (As := [.int (1 : Int32)]) (rest := [.long (lN T)]) S hX G (r_count_1 l E c0 c1 g0 g1 (by omega)) (cwV (bytes := cX8_count) (maxL := 2) (ret := (some .long)) 1 S.2.2.2.2 gL_holds_X8_count rfl rfl rfl (by decide +kernel) ⟨Nat.le_of_ble_eq_true rfl, Nat.le_of_ble_eq_true rfl⟩) rfl hl.1 rfl (Nat.le_of_ble_eq_true rfl) hf dL_holds_435 (fun H locs G => ?_)
  refine W.lcmp S.1 S.2.1 dL_holds_438 ?_
  refine lv_if_ne (tgt := 446) S.1 S.2.1 dL_holds_439 (by decide) (fun h => absurd ((lg_cmp_eq _ _).mpr (congrArg lN hT)) h) (fun _ => ?_)
  refine lv_iconst (v := (1 : Int32)) S.1 S.2.1 dL_holds_442 (by decide) ?_
  refine lv_goto (tgt := 447) S.1 S.2.1 dL_holds_443 (by decide) ?_
  exact kk _ _ _ G
