set_option maxRecDepth 100000 in
set_option maxHeartbeats 4000000 in
theorem sn_out0 {pg : Program} {l : Launch} {eg : Env} {sg : State} {mg : MethodId} {args : Array Value} {below : List Frame} {meth : Method} {cg : Code} {H : Heap} {locs : List Loc} {Q : State → Prop} {ls : Array Slot} {E : Ev} {I : SI} {L : SL} {D k : Nat} (S : CallFix pg mg cg cL_seen 9 sg args wsL_seen RL) (hX : FX E sg) (G : GS E I L sg H locs) (hl : lv_has ls 9 [(3, .int (0 : Int32)), (2, .int (1 : Int32)), (1, .int (nI D)), (0, .ref (E.2.2.2 0))]) (hk : I 1 4 = nI k) (hk2 : k < 2 ^ 28) (kk : ∀ (H1 : Heap) (locs1 : List Loc) (ls1 : Array Slot), GS E I L sg H1 locs1 → lv_has ls1 9 [(7, .int ((nI (Nat.min k 32)) - (1 : Int32))), (6, .int (0 : Int32)), (5, .int (0 : Int32)), (4, .int (1 : Int32)), (3, .int (0 : Int32)), (2, .int (1 : Int32)), (1, .int (nI D)), (0, .ref (E.2.2.2 0))] → W pg l eg ({ frames := 4, cells := 0, slots := 0, locals := 100 } : Room) sg mg args below meth cg H1 locs1 0 0 Q (F0 mg 60 ls1 [])) : W pg l eg ({ frames := 4, cells := 0, slots := 0, locals := 100 } : Room) sg mg args below meth cg H locs 0 0 Q (F0 mg 4 ls []) := by
  have hf : 0 ≤ ({ frames := 4, cells := 0, slots := 0, locals := 100 } : Room).cells ∧ 0 ≤ ({ frames := 4, cells := 0, slots := 0, locals := 100 } : Room).slots := ⟨Nat.zero_le _, Nat.zero_le _⟩
  refine lv_iload_n S.1 S.2.1 dL_seen_4 rfl (lv_at hl 0 rfl) ?_
  refine lv_iconst (v := (4 : Int32)) S.1 S.2.1 dL_seen_5 (by decide) ?_
  refine lv_icmp_ge (tgt := 158) S.1 S.2.1 dL_seen_6 (by decide) (fun h => absurd h (by decide)) (fun _ => ?_)
  refine lv_iload_n S.1 S.2.1 dL_seen_9 rfl (lv_at hl 1 rfl) ?_
  refine lv_if_eq (tgt := 158) S.1 S.2.1 dL_seen_10 (by decide) (fun h => absurd h (by decide)) (fun _ => ?_)
  refine lv_iload_n S.1 S.2.1 dL_seen_13 rfl (lv_at hl 0 rfl) ?_
  refine lv_if_ne (tgt := 21) S.1 S.2.1 dL_seen_14 (by decide) (fun h => absurd (by decide) h) (fun _ => ?_)
  refine lv_iconst (v := (1 : Int32)) S.1 S.2.1 dL_seen_17 (by decide) ?_
  refine lv_goto (tgt := 42) S.1 S.2.1 dL_seen_18 (by decide) ?_
  refine lv_istore (lv' := [(4, .int (1 : Int32)), (3, .int (0 : Int32)), (2, .int (1 : Int32)), (1, .int (nI D)), (0, .ref (E.2.2.2 0))]) S.1 S.2.1 dL_seen_42 hl (by decide) rfl (fun ls hl => ?_)
  refine lv_iconst (v := (0 : Int32)) S.1 S.2.1 dL_seen_44 (by decide) ?_
  refine lv_istore (lv' := [(5, .int (0 : Int32)), (4, .int (1 : Int32)), (3, .int (0 : Int32)), (2, .int (1 : Int32)), (1, .int (nI D)), (0, .ref (E.2.2.2 0))]) S.1 S.2.1 dL_seen_45 hl (by decide) rfl (fun ls hl => ?_)
  refine lv_iconst (v := (0 : Int32)) S.1 S.2.1 dL_seen_47 (by decide) ?_
  refine lv_istore (lv' := [(6, .int (0 : Int32)), (5, .int (0 : Int32)), (4, .int (1 : Int32)), (3, .int (0 : Int32)), (2, .int (1 : Int32)), (1, .int (nI D)), (0, .ref (E.2.2.2 0))]) S.1 S.2.1 dL_seen_48 hl (by decide) rfl (fun ls hl => ?_)
  refine lv_aload_n S.1 S.2.1 dL_seen_50 rfl (lv_at hl 6 rfl) ?_
  refine lv_iconst (v := (2 : Int32)) S.1 S.2.1 dL_seen_51 (by decide) ?_
  refine s_read (As := [.int (2 : Int32)]) (rest := []) S hX G (r_count_2 l E k hk (by omega)) (cwV (bytes := cX8_count) (maxL := 2) (ret := (some .long)) 1 S.2.2.2.2 gL_seen_X8_count rfl rfl rfl (by decide +kernel) ⟨Nat.le_of_ble_eq_true rfl, Nat.le_of_ble_eq_true rfl⟩) rfl hl.1 rfl (Nat.le_of_ble_eq_true rfl) hf dL_seen_52 (fun H locs G => ?_)
  refine lv_l2i (v := (nI (Nat.min k 32))) S.1 S.2.1 dL_seen_55 (lN_i _) ?_
  refine lv_iconst (v := (1 : Int32)) S.1 S.2.1 dL_seen_56 (by decide) ?_
  refine s_isub (v := ((nI (Nat.min k 32)) - (1 : Int32))) S dL_seen_57 rfl ?_
  refine lv_istore (lv' := [(7, .int ((nI (Nat.min k 32)) - (1 : Int32))), (6, .int (0 : Int32)), (5, .int (0 : Int32)), (4, .int (1 : Int32)), (3, .int (0 : Int32)), (2, .int (1 : Int32)), (1, .int (nI D)), (0, .ref (E.2.2.2 0))]) S.1 S.2.1 dL_seen_58 hl (by decide) rfl (fun ls hl => ?_)
  exact kk _ _ _ G (lv_sub hl [0, 1, 2, 3, 4, 5, 6, 7] rfl)
