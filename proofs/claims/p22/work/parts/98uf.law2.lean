set_option maxRecDepth 100000 in
set_option maxHeartbeats 4000000 in
/-- a round of the loop: its number -/
theorem lw_head {pg : Program} {l : Launch} {eg : Env} {sg : State} {mg : MethodId} {b : Nat} {below : List Frame} {meth : Method} {cg : Code} {H : Heap} {locs : List Loc} {cells slots : Nat} {Q : State → Prop} {ls : Array Slot} {E : Ev} {I : SI} {L : SL} {Lx : Nat} {xs : Nat → Int32} {D i : Nat} (S : CallFix pg mg cg code 21 sg #[Value.ref b] wsL_law RL) (hX : FX E sg) (hx : ScrAt E b Lx xs sg) (hLx : Lx ≤ 260) (hf : cells ≤ room_1.cells ∧ slots ≤ room_1.slots) (G : GS E I L sg H locs) (hl : lv_has ls 21 [(4, .int (nI i)), (3, .int (1 : Int32)), (2, .int (nI D)), (1, .ref (E.2.2.2 0)), (0, .ref b)]) (hi : i < 40) (kk : ∀ z y : Nat, z < 2 ^ 30 → y < 6 → ∀ (H1 : Heap) (locs1 : List Loc) (ls1 : Array Slot), GS E I L sg H1 locs1 → lv_has ls1 21 [(6, .int (nI z)), (4, .int (nI i)), (3, .int (1 : Int32)), (2, .int (nI D)), (1, .ref (E.2.2.2 0)), (0, .ref b)] → W pg l eg room_1 sg mg #[Value.ref b] below meth cg H1 locs1 cells slots Q (F0 mg 234 ls1 [.int (nI y)])) : W pg l eg room_1 sg mg #[Value.ref b] below meth cg H locs cells slots Q (F0 mg 200 ls []) := by
  refine lv_iload S.1 S.2.1 dL_law_200 (lv_at hl 0 rfl) ?_
  refine lv_bipush (v := (40 : Int32)) S.1 S.2.1 dL_law_202 (by decide) ?_
  refine lv_icmp_ge (tgt := 594) S.1 S.2.1 dL_law_204 (by decide) (fun h => absurd h (nI_ge (b := 40) hi (by decide))) (fun _ => ?_)
  refine lv_iload_n S.1 S.2.1 dL_law_207 rfl (lv_at hl 1 rfl) ?_
  refine lv_if_eq (tgt := 594) S.1 S.2.1 dL_law_208 (by decide) (fun h => absurd h (by decide)) (fun _ => ?_)
  refine lv_aload_n S.1 S.2.1 dL_law_211 rfl (lv_at hl 4 rfl) ?_
  refine lv_bipush (v := (8 : Int32)) S.1 S.2.1 dL_law_212 (by decide) ?_
  refine lv_iload S.1 S.2.1 dL_law_214 (lv_at hl 0 rfl) ?_
  refine s_iadd (v := (nI (8 + i))) S dL_law_216 (nI_add 8 i) ?_
  refine s_callX (As := [.ref b, .int (nI (8 + i))]) (rest := []) S hX hx G (k_cell l E b Lx xs (8 + i) hLx (by omega)) (va_cwS (bytes := cL_cell) (maxL := 2) (ret := (some .int)) 2 S.2.2.2.2 gL_law_L_cell rfl rfl rfl (by decide +kernel) ⟨Nat.le_of_ble_eq_true rfl, Nat.le_of_ble_eq_true rfl⟩) rfl hl.1 rfl (Nat.le_of_ble_eq_true rfl) hf dL_law_217 (fun v I0 L0 H locs hR G => ?_)
  obtain ⟨c, hc, hv, hI, hL⟩ := hR
  subst hv
  have G : GS E I L sg H locs := G.same hI hL
  clear hI hL
  refine W.eq (g2 := F0 mg 220 ls [.int (nI c)]) rfl ?_
  refine lv_istore (lv' := [(5, .int (nI c)), (4, .int (nI i)), (3, .int (1 : Int32)), (2, .int (nI D)), (1, .ref (E.2.2.2 0)), (0, .ref b)]) S.1 S.2.1 dL_law_220 hl (by decide) rfl (fun ls hl => ?_)
  refine lv_iload S.1 S.2.1 dL_law_222 (lv_at hl 0 rfl) ?_
  refine lv_bipush (v := (6 : Int32)) S.1 S.2.1 dL_law_224 (by decide) ?_
  refine s_idiv (v := (nI (c / 6))) S dL_law_226 (by decide) (pk_div (a := c) (d := 6) hc (by decide) (by decide)) ?_
  refine lv_istore (lv' := [(6, .int (nI (c / 6))), (5, .int (nI c)), (4, .int (nI i)), (3, .int (1 : Int32)), (2, .int (nI D)), (1, .ref (E.2.2.2 0)), (0, .ref b)]) S.1 S.2.1 dL_law_227 hl (by decide) rfl (fun ls hl => ?_)
  refine lv_iload S.1 S.2.1 dL_law_229 (lv_at hl 1 rfl) ?_
  refine lv_bipush (v := (6 : Int32)) S.1 S.2.1 dL_law_231 (by decide) ?_
  refine s_irem (v := (nI (c % 6))) S dL_law_233 (by decide) (pk_rem (a := c) (d := 6) hc (by decide) (by decide)) ?_
  exact kk (c / 6) (c % 6) (by omega) (by omega) _ _ _ G (lv_sub hl [0, 2, 3, 4, 5, 6] rfl)
