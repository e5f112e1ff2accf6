/-! the law's loop -/
set_option maxRecDepth 100000 in
set_option maxHeartbeats 4000000 in
theorem law_loop {pg : Program} {l : Launch} {eg : Env} {sg : State} {mg : MethodId} {b : Nat} {below : List Frame} {meth : Method} {cg : Code} {cells slots : Nat} {Q : State → Prop} {E : Ev} {Lx : Nat} {xs : Nat → Int32} {D : Nat} {M : Nat → Nat} (S : CallFix pg mg cg code 21 sg #[Value.ref b] wsL_law RL) (hX : FX E sg) (hx : ScrAt E b Lx xs sg) (hLx : Lx ≤ 260) (hf : cells ≤ room_1.cells ∧ slots ≤ room_1.slots) (hD : D < 2 ^ 28)
    (fin : ∀ (I1 : SI) (L1 : SL) (H1 : Heap) (locs1 : List Loc) (ls1 : Array Slot), GS E I1 L1 sg H1 locs1 → W pg l eg room_1 sg mg #[Value.ref b] below meth cg H1 locs1 cells slots Q (F0 mg 637 ls1 [.int (1 : Int32)])) :
    ∀ (r i : Nat), i + r = 40 → ∀ (k : Nat) (I : SI) (L : SL) (H : Heap) (locs : List Loc) (ls : Array Slot), Inv I D k M → k ≤ 30 * i → GS E I L sg H locs → lv_has ls 21 [(4, .int (nI i)), (3, .int (1 : Int32)), (2, .int (nI D)), (1, .ref (E.2.2.2 0)), (0, .ref b)] → W pg l eg room_1 sg mg #[Value.ref b] below meth cg H locs cells slots Q (F0 mg 200 ls []) := by
  intro r
  induction r with
  | zero =>
    intro i hi k I L H locs ls h hk G hl
    obtain rfl : i = 40 := by omega
    obtain ⟨-, -, -, -, o, kp, h5, h6⟩ := h
    obtain ⟨kq, rfl⟩ : ∃ kq, kp = kq + 1 := ⟨kp - 1, by omega⟩
    exact lw_end (Lx := Lx) (xs := xs) S hX hf G hl h5 fin
  | succ r ih =>
    intro i hi k I L H locs ls h hk G hl
    refine lw_head S hX hx hLx hf G hl (by omega) (fun z y hz hy H locs ls G hl => ?_)
    have next : ∀ (I1 : SI) (L1 : SL) (k1 : Nat), k1 ≤ k + 30 → Inv I1 D k1 M → ∀ (H1 : Heap) (locs1 : List Loc) (ls1 : Array Slot), GS E I1 L1 sg H1 locs1 → lv_has ls1 21 [(4, .int (nI i)), (3, .int (1 : Int32)), (2, .int (nI D)), (1, .ref (E.2.2.2 0)), (0, .ref b)] → W pg l eg room_1 sg mg #[Value.ref b] below meth cg H1 locs1 cells slots Q (F0 mg 563 ls1 []) := by
      intro I1 L1 k1 hk1 h1 H1 locs1 ls1 G1 hl1
      exact lw_tail S hX hx hLx hf G1 hl1 h1 (by omega) hD (fun H2 locs2 ls2 G2 hl2 => ih (i + 1) (by omega) k1 I1 L1 H2 locs2 ls2 h1 (by omega) G2 hl2)
    obtain ⟨c0, hc0, g0⟩ := (h.1.ft 0 (by decide)).num
    obtain ⟨c1, hc1, g1⟩ := (h.1.ft 1 (by decide)).num
    rcases (show y = 0 ∨ y = 1 ∨ y = 2 ∨ y = 3 ∨ y = 4 ∨ y = 5 by omega) with rfl | rfl | rfl | rfl | rfl | rfl
    · refine lv_tableIn (off := 30) (tgt := 264) S.1 S.2.1 dL_law_234 (by decide) (by decide) (by decide) (by decide) ?_
      exact lw_c1 S hX hx hLx hf G hl hz h (by omega) hD next
    · refine lv_tableIn (off := 30) (tgt := 264) S.1 S.2.1 dL_law_234 (by decide) (by decide) (by decide) (by decide) ?_
      exact lw_c1 S hX hx hLx hf G hl hz h (by omega) hD next
    · refine lv_tableIn (off := 87) (tgt := 321) S.1 S.2.1 dL_law_234 (by decide) (by decide) (by decide) (by decide) ?_
      exact lw_c2 S hX hx hLx hf G hl hz h (by omega) hD next
    · refine lv_tableIn (off := 163) (tgt := 397) S.1 S.2.1 dL_law_234 (by decide) (by decide) (by decide) (by decide) ?_
      exact lw_c3 S hX hx hLx hf G hl hz h (by omega) hD rfl rfl next
    · refine lv_tableOut (tgt := 490) S.1 S.2.1 dL_law_234 (by decide) (by decide) ?_
      exact lw_c4 S hX hx hLx hf G hl hz h (by omega) hD rfl g0 g1 hc0 hc1 next
    · refine lv_tableOut (tgt := 490) S.1 S.2.1 dL_law_234 (by decide) (by decide) ?_
      exact lw_c4 S hX hx hLx hf G hl hz h (by omega) hD rfl g0 g1 hc0 hc1 next
