set_option maxRecDepth 100000 in
theorem hd_mid {pg : Program} {l : Launch} {eg : Env} {sg : State} {mg : MethodId} {args : Array Value} {below : List Frame} {meth : Method} {cg : Code} {H : Heap} {locs : List Loc} {Q : State → Prop} {ls : Array Slot} {E : Ev} {I : SI} {L : SL} {S0 T : Nat} (S : CallFix pg mg cg cL_holds 9 sg args wsL_holds RL) (G : GS E I L sg H locs) (hl : lv_has ls 9 [(6, .int (nI 4)), (5, .int (1 : Int32)), (3, .long (lN T)), (1, .long (lN S0)), (0, .ref (E.2.2.2 0))]) (kk : ∀ (H1 : Heap) (locs1 : List Loc) (ls1 : Array Slot), GS E I L sg H1 locs1 → lv_has ls1 9 [(6, .int (0 : Int32)), (5, .int (1 : Int32)), (3, .long (lN T)), (1, .long (lN S0)), (0, .ref (E.2.2.2 0))] → W pg l eg ({ frames := 6, cells := 0, slots := 0, locals := 140 } : Room) sg mg args below meth cg H1 locs1 0 0 Q (F0 mg 185 ls1 [])) : W pg l eg ({ frames := 6, cells := 0, slots := 0, locals := 140 } : Room) sg mg args below meth cg H locs 0 0 Q (F0 mg 46 ls []) := by
  refine lv_iload S.1 S.2.1 dL_holds_46 (lv_at hl 0 rfl) ?_
  refine lv_iconst (v := (4 : Int32)) S.1 S.2.1 dL_holds_48 (by decide) ?_
  refine lv_icmp_ge (tgt := 182) S.1 S.2.1 dL_holds_49 (by decide) (fun _ => ?_) (fun h => absurd (by decide) h)
  refine lv_iconst (v := (0 : Int32)) S.1 S.2.1 dL_holds_182 (by decide) ?_
  refine lv_istore (lv' := [(6, .int (0 : Int32)), (5, .int (1 : Int32)), (3, .long (lN T)), (1, .long (lN S0)), (0, .ref (E.2.2.2 0))]) S.1 S.2.1 dL_holds_183 hl (by decide) rfl (fun ls hl => ?_)
  exact kk _ _ _ G (lv_sub hl [0, 1, 2, 3, 4] rfl)
