set_option maxRecDepth 100000 in
set_option maxHeartbeats 4000000 in
theorem sn_c1 {pg : Program} {l : Launch} {eg : Env} {sg : State} {mg : MethodId} {args : Array Value} {below : List Frame} {meth : Method} {cg : Code} {H : Heap} {locs : List Loc} {Q : State → Prop} {ls : Array Slot} {E : Ev} {I : SI} {L : SL} {D k b : Nat} (S : CallFix pg mg cg cL_seen 9 sg args wsL_seen RL) (hX : FX E sg) (G : GS E I L sg H locs) (hl : lv_has ls 9 [(3, .int (nI b)), (2, .int (1 : Int32)), (1, .int (nI D)), (0, .ref (E.2.2.2 0))]) (hk : I 1 4 = nI k) (hk2 : k < 2 ^ 28) (hb2 : b + 1 < Nat.min k 32) (hm : Nat.min k 32 < 2 ^ 28) (kk : ∀ (H1 : Heap) (locs1 : List Loc) (ls1 : Array Slot), GS E I L sg H1 locs1 → lv_has ls1 9 [(4, .int (0 : Int32)), (3, .int (nI b)), (2, .int (1 : Int32)), (1, .int (nI D)), (0, .ref (E.2.2.2 0))] → W pg l eg ({ frames := 4, cells := 0, slots := 0, locals := 100 } : Room) sg mg args below meth cg H1 locs1 0 0 Q (F0 mg 180 ls1 [])) : W pg l eg ({ frames := 4, cells := 0, slots := 0, locals := 100 } : Room) sg mg args below meth cg H locs 0 0 Q (F0 mg 160 ls []) := by
  have hf : 0 ≤ ({ frames := 4, cells := 0, slots := 0, locals := 100 } : Room).cells ∧ 0 ≤ ({ frames := 4, cells := 0, slots := 0, locals := 100 } : Room).slots := ⟨Nat.zero_le _, Nat.zero_le _⟩
  refine lv_iload_n S.1 S.2.1 dL_seen_160 rfl (lv_at hl 0 rfl) ?_
  refine lv_iconst (v := (1 : Int32)) S.1 S.2.1 dL_seen_161 (by decide) ?_
  refine s_iadd (v := (nI (b + 1))) S dL_seen_162 (nI_add b 1) ?_
  refine lv_i2l (v := (lN (b + 1))) S.1 S.2.1 dL_seen_163 (nI_l (by omega)) ?_
  refine lv_aload_n S.1 S.2.1 dL_seen_164 rfl (lv_at hl 3 rfl) ?_
  refine lv_iconst (v := (2 : Int32)) S.1 S.2.1 dL_seen_165 (by decide) ?_
  refine s_read (As := [.int (2 : Int32)]) (rest := [.long (lN (b + 1))]) S hX G (r_count_2 l E k hk (by omega)) (cwV (bytes := cX8_count) (maxL := 2) (ret := (some .long)) 1 S.2.2.2.2 gL_seen_X8_count rfl rfl rfl (by decide +kernel) ⟨Nat.le_of_ble_eq_true rfl, Nat.le_of_ble_eq_true rfl⟩) rfl hl.1 rfl (Nat.le_of_ble_eq_true rfl) hf dL_seen_166 (fun H locs G => ?_)
  refine W.lcmp S.1 S.2.1 dL_seen_169 ?_
  refine s_if_ge_c (tgt := 263) S dL_seen_170 (by decide) (fun h => absurd h (fun q => by have q := (pk_lLE (by omega) (by omega)).mp q; omega)) (fun _ => ?_)
  refine lv_iload_n S.1 S.2.1 dL_seen_173 rfl (lv_at hl 1 rfl) ?_
  refine lv_if_eq (tgt := 263) S.1 S.2.1 dL_seen_174 (by decide) (fun h => absurd h (by decide)) (fun _ => ?_)
  refine lv_iconst (v := (0 : Int32)) S.1 S.2.1 dL_seen_177 (by decide) ?_
  refine lv_istore (lv' := [(4, .int (0 : Int32)), (3, .int (nI b)), (2, .int (1 : Int32)), (1, .int (nI D)), (0, .ref (E.2.2.2 0))]) S.1 S.2.1 dL_seen_178 hl (by decide) rfl (fun ls hl => ?_)
  exact kk _ _ _ G (lv_sub hl [0, 1, 2, 3, 4] rfl)
