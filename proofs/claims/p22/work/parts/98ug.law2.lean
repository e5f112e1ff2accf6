set_option maxRecDepth 100000 in
set_option maxHeartbeats 4000000 in
/-- a command -/
theorem lw_c1 {pg : Program} {l : Launch} {eg : Env} {sg : State} {mg : MethodId} {b : Nat} {below : List Frame} {meth : Method} {cg : Code} {H : Heap} {locs : List Loc} {cells slots : Nat} {Q : State → Prop} {ls : Array Slot} {E : Ev} {I : SI} {L : SL} {Lx : Nat} {xs : Nat → Int32} {D k z i : Nat} {M : Nat → Nat} (S : CallFix pg mg cg code 21 sg #[Value.ref b] wsL_law RL) (hX : FX E sg) (hx : ScrAt E b Lx xs sg) (hLx : Lx ≤ 260) (hf : cells ≤ room_1.cells ∧ slots ≤ room_1.slots) (G : GS E I L sg H locs) (hl : lv_has ls 21 [(6, .int (nI z)), (4, .int (nI i)), (3, .int (1 : Int32)), (2, .int (nI D)), (1, .ref (E.2.2.2 0)), (0, .ref b)]) (hz : z < 2 ^ 30) (h : Inv I D k M) (hk : k ≤ 1200) (hD : D < 2 ^ 28) (kk : ∀ (I1 : SI) (L1 : SL), ∀ k1 : Nat, k1 ≤ k + 30 → Inv I1 D k1 M → ∀ (H1 : Heap) (locs1 : List Loc) (ls1 : Array Slot), GS E I1 L1 sg H1 locs1 → lv_has ls1 21 [(4, .int (nI i)), (3, .int (1 : Int32)), (2, .int (nI D)), (1, .ref (E.2.2.2 0)), (0, .ref b)] → W pg l eg room_1 sg mg #[Value.ref b] below meth cg H1 locs1 cells slots Q (F0 mg 563 ls1 [])) : W pg l eg room_1 sg mg #[Value.ref b] below meth cg H locs cells slots Q (F0 mg 264 ls []) := by
  refine lv_iload S.1 S.2.1 dL_law_264 (lv_at hl 0 rfl) ?_
  refine lv_iconst (v := (4 : Int32)) S.1 S.2.1 dL_law_266 (by decide) ?_
  refine s_irem (v := (nI (z % 4))) S dL_law_267 (by decide) (pk_rem (a := z) (d := 4) (by omega) (by decide) (by decide)) ?_
  refine lv_istore (lv' := [(7, .int (nI (z % 4))), (6, .int (nI z)), (4, .int (nI i)), (3, .int (1 : Int32)), (2, .int (nI D)), (1, .ref (E.2.2.2 0)), (0, .ref b)]) S.1 S.2.1 dL_law_268 hl (by decide) rfl (fun ls hl => ?_)
  refine lv_aload_n S.1 S.2.1 dL_law_270 rfl (lv_at hl 5 rfl) ?_
  refine lv_iload S.1 S.2.1 dL_law_271 (lv_at hl 0 rfl) ?_
  refine lv_iconst (v := (0 : Int32)) S.1 S.2.1 dL_law_273 (by decide) ?_
  refine s_read (As := [.int (nI (z % 4)), .int (0 : Int32)]) (rest := []) S hX G (r_leg_0 l E (z % 4) (by omega)) (cwV (bytes := cX8_leg) (maxL := 4) (ret := (some .int)) 2 S.2.2.2.2 gL_law_X8_leg rfl rfl rfl (by decide +kernel) ⟨Nat.le_of_ble_eq_true rfl, Nat.le_of_ble_eq_true rfl⟩) rfl hl.1 rfl (Nat.le_of_ble_eq_true rfl) hf dL_law_274 (fun H locs G => ?_)
  refine lv_istore (lv' := [(8, .int (I (lgc (z % 4)) 0)), (7, .int (nI (z % 4))), (6, .int (nI z)), (4, .int (nI i)), (3, .int (1 : Int32)), (2, .int (nI D)), (1, .ref (E.2.2.2 0)), (0, .ref b)]) S.1 S.2.1 dL_law_277 hl (by decide) rfl (fun ls hl => ?_)
  refine lv_aload_n S.1 S.2.1 dL_law_279 rfl (lv_at hl 6 rfl) ?_
  refine lv_iload S.1 S.2.1 dL_law_280 (lv_at hl 1 rfl) ?_
  refine lv_iload S.1 S.2.1 dL_law_282 (lv_at hl 2 rfl) ?_
  refine lv_iconst (v := (4 : Int32)) S.1 S.2.1 dL_law_284 (by decide) ?_
  refine s_idiv (v := (nI (z / 4))) S dL_law_285 (by decide) (pk_div (a := z) (d := 4) (by omega) (by decide) (by decide)) ?_
  refine lv_iconst (v := (3 : Int32)) S.1 S.2.1 dL_law_286 (by decide) ?_
  refine s_irem (v := (nI ((z / 4) % 3))) S dL_law_287 (by decide) (pk_rem (a := (z / 4)) (d := 3) (by omega) (by decide) (by decide)) ?_
  refine s_callV (C := RX8) (As := [.int (nI (z % 4)), .int (nI ((z / 4) % 3))]) (rest := []) (i := 0) (kd := 8) S hX G (k_cmd l E (z % 4) (z / 4 % 3) (by omega) (by omega) h (by omega)) (cwV (bytes := cX8_command) (maxL := 5) (ret := (some .int)) 2 S.2.2.2.2 gL_law_X8_command rfl rfl rfl (by decide +kernel) ⟨Nat.le_of_ble_eq_true rfl, Nat.le_of_ble_eq_true rfl⟩) (rfl : sh 0 = 8) rfl rfl rfl (by decide) rfl hl.1 rfl (Nat.le_of_ble_eq_true rfl) hf dL_law_288 (fun v I_1 L_1 H locs hR G => ?_)
  obtain ⟨hv, h_1, hq⟩ := hR
  subst hv
  refine W.eq (g2 := F0 mg 291 ls [.int (I (lgc (z % 4)) 0)]) rfl ?_
  refine lv_iload S.1 S.2.1 dL_law_291 (lv_at hl 0 rfl) ?_
  refine lv_icmp_ne (tgt := 316) S.1 S.2.1 dL_law_293 (by decide) (fun h => absurd rfl h) (fun _ => ?_)
  refine lv_aload_n S.1 S.2.1 dL_law_296 rfl (lv_at hl 6 rfl) ?_
  refine lv_iload S.1 S.2.1 dL_law_297 (lv_at hl 1 rfl) ?_
  refine lv_iconst (v := (0 : Int32)) S.1 S.2.1 dL_law_299 (by decide) ?_
  refine s_read (As := [.int (nI (z % 4)), .int (0 : Int32)]) (rest := []) S hX G (r_leg_0 l E (z % 4) (by omega)) (cwV (bytes := cX8_leg) (maxL := 4) (ret := (some .int)) 2 S.2.2.2.2 gL_law_X8_leg rfl rfl rfl (by decide +kernel) ⟨Nat.le_of_ble_eq_true rfl, Nat.le_of_ble_eq_true rfl⟩) rfl hl.1 rfl (Nat.le_of_ble_eq_true rfl) hf dL_law_300 (fun H locs G => ?_)
  refine lv_iload S.1 S.2.1 dL_law_303 (lv_at hl 2 rfl) ?_
  refine lv_iconst (v := (4 : Int32)) S.1 S.2.1 dL_law_305 (by decide) ?_
  refine s_idiv (v := (nI (z / 4))) S dL_law_306 (by decide) (pk_div (a := z) (d := 4) (by omega) (by decide) (by decide)) ?_
  refine lv_iconst (v := (3 : Int32)) S.1 S.2.1 dL_law_307 (by decide) ?_
  refine s_irem (v := (nI ((z / 4) % 3))) S dL_law_308 (by decide) (pk_rem (a := (z / 4)) (d := 3) (by omega) (by decide) (by decide)) ?_
  refine lv_icmp_ne (tgt := 316) S.1 S.2.1 dL_law_309 (by decide) (fun h => absurd hq h) (fun _ => ?_)
  refine lv_iconst (v := (1 : Int32)) S.1 S.2.1 dL_law_312 (by decide) ?_
  refine lv_goto (tgt := 317) S.1 S.2.1 dL_law_313 (by decide) ?_
  refine lv_istore_n (lv' := [(3, .int (1 : Int32)), (8, .int (I (lgc (z % 4)) 0)), (7, .int (nI (z % 4))), (6, .int (nI z)), (4, .int (nI i)), (2, .int (nI D)), (1, .ref (E.2.2.2 0)), (0, .ref b)]) S.1 S.2.1 dL_law_317 rfl hl (by decide) rfl (fun ls hl => ?_)
  refine lv_goto (tgt := 563) S.1 S.2.1 dL_law_318 (by decide) ?_
  exact kk I_1 L_1 k (by omega) h_1 _ _ _ G (lv_sub hl [4, 0, 5, 6, 7] rfl)
