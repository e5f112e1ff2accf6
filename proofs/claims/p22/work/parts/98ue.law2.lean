set_option maxRecDepth 100000 in
set_option maxHeartbeats 4000000 in
theorem lw_ldx {pg : Program} {l : Launch} {eg : Env} {sg : State} {mg : MethodId} {b : Nat} {below : List Frame} {meth : Method} {cg : Code} {H : Heap} {locs : List Loc} {cells slots : Nat} {Q : State → Prop} {ls : Array Slot} {E : Ev} {I : SI} {L : SL} {Lx : Nat} {xs : Nat → Int32} {D : Nat} (S : CallFix pg mg cg code 21 sg #[Value.ref b] wsL_law RL) (hX : FX E sg) (hx : ScrAt E b Lx xs sg) (hLx : Lx ≤ 260) (hf : cells ≤ room_1.cells ∧ slots ≤ room_1.slots) (G : GS E I L sg H locs) (hl : lv_has ls 21 [(4, .int (nI 2)), (3, .int (1 : Int32)), (2, .int (nI D)), (1, .ref (E.2.2.2 0)), (0, .ref b)]) (kk : ∀ (H1 : Heap) (locs1 : List Loc) (ls1 : Array Slot), GS E I L sg H1 locs1 → lv_has ls1 21 [(4, .int (0 : Int32)), (3, .int (1 : Int32)), (2, .int (nI D)), (1, .ref (E.2.2.2 0)), (0, .ref b)] → W pg l eg room_1 sg mg #[Value.ref b] below meth cg H1 locs1 cells slots Q (F0 mg 200 ls1 [])) : W pg l eg room_1 sg mg #[Value.ref b] below meth cg H locs cells slots Q (F0 mg 110 ls []) := by
  refine lv_iload S.1 S.2.1 dL_law_110 (lv_at hl 0 rfl) ?_
  refine lv_iconst (v := (2 : Int32)) S.1 S.2.1 dL_law_112 (by decide) ?_
  refine lv_icmp_ge (tgt := 197) S.1 S.2.1 dL_law_113 (by decide) (fun _ => ?_) (fun h => absurd (by decide) h)
  refine lv_iconst (v := (0 : Int32)) S.1 S.2.1 dL_law_197 (by decide) ?_
  refine lv_istore (lv' := [(4, .int (0 : Int32)), (3, .int (1 : Int32)), (2, .int (nI D)), (1, .ref (E.2.2.2 0)), (0, .ref b)]) S.1 S.2.1 dL_law_198 hl (by decide) rfl (fun ls hl => ?_)
  exact kk  _ _ _ G (lv_sub hl [0, 1, 2, 3, 4] rfl)
