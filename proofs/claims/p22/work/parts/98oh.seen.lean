set_option maxRecDepth 100000 in
set_option maxHeartbeats 4000000 in
theorem sn_mid {pg : Program} {l : Launch} {eg : Env} {sg : State} {mg : MethodId} {args : Array Value} {below : List Frame} {meth : Method} {cg : Code} {H : Heap} {locs : List Loc} {Q : State → Prop} {ls : Array Slot} {E : Ev} {I : SI} {L : SL} {D : Nat} (S : CallFix pg mg cg cL_seen 9 sg args wsL_seen RL) (hX : FX E sg) (G : GS E I L sg H locs) (hl : lv_has ls 9 [(3, .int (nI 4)), (2, .int (1 : Int32)), (1, .int (nI D)), (0, .ref (E.2.2.2 0))]) (kk : ∀ (H1 : Heap) (locs1 : List Loc) (ls1 : Array Slot), GS E I L sg H1 locs1 → lv_has ls1 9 [(3, .int (0 : Int32)), (2, .int (1 : Int32)), (1, .int (nI D)), (0, .ref (E.2.2.2 0))] → W pg l eg ({ frames := 4, cells := 0, slots := 0, locals := 100 } : Room) sg mg args below meth cg H1 locs1 0 0 Q (F0 mg 160 ls1 [])) : W pg l eg ({ frames := 4, cells := 0, slots := 0, locals := 100 } : Room) sg mg args below meth cg H locs 0 0 Q (F0 mg 4 ls []) := by
  have hf : 0 ≤ ({ frames := 4, cells := 0, slots := 0, locals := 100 } : Room).cells ∧ 0 ≤ ({ frames := 4, cells := 0, slots := 0, locals := 100 } : Room).slots := ⟨Nat.zero_le _, Nat.zero_le _⟩
  refine lv_iload_n S.1 S.2.1 dL_seen_4 rfl (lv_at hl 0 rfl) ?_
  refine lv_iconst (v := (4 : Int32)) S.1 S.2.1 dL_seen_5 (by decide) ?_
  refine lv_icmp_ge (tgt := 158) S.1 S.2.1 dL_seen_6 (by decide) (fun _ => ?_) (fun h => absurd (by decide) h)
  refine lv_iconst (v := (0 : Int32)) S.1 S.2.1 dL_seen_158 (by decide) ?_
  refine lv_istore_n (lv' := [(3, .int (0 : Int32)), (2, .int (1 : Int32)), (1, .int (nI D)), (0, .ref (E.2.2.2 0))]) S.1 S.2.1 dL_seen_159 rfl hl (by decide) rfl (fun ls hl => ?_)
  exact kk _ _ _ G (lv_sub hl [0, 1, 2, 3] rfl)
