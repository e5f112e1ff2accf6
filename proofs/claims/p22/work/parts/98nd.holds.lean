set_option maxRecDepth 100000 in
set_option maxHeartbeats 4000000 in
/-- one load, ahead of its faults -/
theorem hd_ld1 {pg : Program} {l : Launch} {eg : Env} {sg : State} {mg : MethodId} {args : Array Value} {below : List Frame} {meth : Method} {cg : Code} {H : Heap} {locs : List Loc} {Q : State → Prop} {ls : Array Slot} {E : Ev} {I : SI} {L : SL} {j c S0 T : Nat} (S : CallFix pg mg cg cL_holds 9 sg args wsL_holds RL) (hX : FX E sg) (G : GS E I L sg H locs) (hl : lv_has ls 9 [(6, .int (nI j)), (5, .int (1 : Int32)), (3, .long (lN T)), (1, .long (lN S0)), (0, .ref (E.2.2.2 0))]) (hj : j < 2) (hc : I (ftn j) 3 = nI c) (hc3 : c ≤ 3) (kk : ∀ (H1 : Heap) (locs1 : List Loc) (ls1 : Array Slot), GS E I L sg H1 locs1 → lv_has ls1 9 [(8, .int (0 : Int32)), (7, .int (0 : Int32)), (6, .int (nI j)), (5, .int (1 : Int32)), (3, .long (lN (T + c))), (1, .long (lN S0)), (0, .ref (E.2.2.2 0))] → W pg l eg ({ frames := 6, cells := 0, slots := 0, locals := 140 } : Room) sg mg args below meth cg H1 locs1 0 0 Q (F0 mg 214 ls1 [])) : W pg l eg ({ frames := 6, cells := 0, slots := 0, locals := 140 } : Room) sg mg args below meth cg H locs 0 0 Q (F0 mg 185 ls []) := by
  have hf : 0 ≤ ({ frames := 6, cells := 0, slots := 0, locals := 140 } : Room).cells ∧ 0 ≤ ({ frames := 6, cells := 0, slots := 0, locals := 140 } : Room).slots := ⟨Nat.zero_le _, Nat.zero_le _⟩
  refine lv_iload S.1 S.2.1 dL_holds_185 (lv_at hl 0 rfl) ?_
  refine lv_iconst (v := (2 : Int32)) S.1 S.2.1 dL_holds_187 (by decide) ?_
  refine lv_icmp_ge (tgt := 417) S.1 S.2.1 dL_holds_188 (by decide) (fun h => absurd h (nI_ge (b := 2) hj (by decide))) (fun _ => ?_)
  refine lv_iload S.1 S.2.1 dL_holds_191 (lv_at hl 1 rfl) ?_
  refine lv_if_eq (tgt := 417) S.1 S.2.1 dL_holds_193 (by decide) (fun h => absurd h (by decide)) (fun _ => ?_)
  refine lv_lload_n S.1 S.2.1 dL_holds_196 rfl (lv_at hl 2 rfl) ?_
  refine lv_aload_n S.1 S.2.1 dL_holds_197 rfl (lv_at hl 4 rfl) ?_
  refine lv_iload S.1 S.2.1 dL_holds_198 (lv_at hl 0 rfl) ?_
  refine lv_bipush (v := (10 : Int32)) S.1 S.2.1 dL_holds_200 (by decide) ?_
  refine s_read (As := [.int (nI j), .int (10 : Int32)]) (rest := [.long (lN T)]) S hX G (by have q := r_load_10 l E (I := I) (L := L) j hj; rw [hc] at q; exact q) (cwV (bytes := cX8_load) (maxL := 4) (ret := (some .int)) 2 S.2.2.2.2 gL_holds_X8_load rfl rfl rfl (by decide +kernel) ⟨Nat.le_of_ble_eq_true rfl, Nat.le_of_ble_eq_true rfl⟩) rfl hl.1 rfl (Nat.le_of_ble_eq_true rfl) hf dL_holds_202 (fun H locs G => ?_)
  refine lv_i2l (v := (lN c)) S.1 S.2.1 dL_holds_205 (nI_l (by omega)) ?_
  refine s_ladd (v := (lN (T + c))) S dL_holds_206 (lN_add T c) ?_
  refine lv_lstore_n (lv' := [(3, .long (lN (T + c))), (6, .int (nI j)), (5, .int (1 : Int32)), (1, .long (lN S0)), (0, .ref (E.2.2.2 0))]) S.1 S.2.1 dL_holds_207 rfl hl (by decide) rfl (fun ls hl => ?_)
  refine lv_iconst (v := (0 : Int32)) S.1 S.2.1 dL_holds_208 (by decide) ?_
  refine lv_istore (lv' := [(7, .int (0 : Int32)), (3, .long (lN (T + c))), (6, .int (nI j)), (5, .int (1 : Int32)), (1, .long (lN S0)), (0, .ref (E.2.2.2 0))]) S.1 S.2.1 dL_holds_209 hl (by decide) rfl (fun ls hl => ?_)
  refine lv_iconst (v := (0 : Int32)) S.1 S.2.1 dL_holds_211 (by decide) ?_
  refine lv_istore (lv' := [(8, .int (0 : Int32)), (7, .int (0 : Int32)), (3, .long (lN (T + c))), (6, .int (nI j)), (5, .int (1 : Int32)), (1, .long (lN S0)), (0, .ref (E.2.2.2 0))]) S.1 S.2.1 dL_holds_212 hl (by decide) rfl (fun ls hl => ?_)
  exact kk _ _ _ G (lv_sub hl [0, 1, 3, 4, 2, 5, 6] rfl)
