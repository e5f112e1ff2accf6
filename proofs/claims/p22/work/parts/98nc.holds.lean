set_option maxRecDepth 100000 in
set_option maxHeartbeats 4000000 in
/-- one fault -/
theorem hd_flt {pg : Program} {l : Launch} {eg : Env} {sg : State} {mg : MethodId} {args : Array Value} {below : List Frame} {meth : Method} {cg : Code} {H : Heap} {locs : List Loc} {Q : State → Prop} {ls : Array Slot} {E : Ev} {I : SI} {L : SL} {j f k S0 T : Nat} (S : CallFix pg mg cg cL_holds 9 sg args wsL_holds RL) (hX : FX E sg) (G : GS E I L sg H locs) (hl : lv_has ls 9 [(8, .int (nI f)), (7, .int (plP (I (ftt j)) (I (ftu j)) f)), (6, .int (nI j)), (5, .int (1 : Int32)), (3, .long (lN T)), (1, .long (lN S0)), (0, .ref (E.2.2.2 0))]) (hj : j < 2) (hf3 : f < 3) (hk : I 1 4 = nI k) (hk2 : k < 2 ^ 28) (hft : ¬ I (ftt j) f = 0 → ∃ m, m < k ∧ I (ftu j) f = nI m) (kk : ∀ (H1 : Heap) (locs1 : List Loc) (ls1 : Array Slot), GS E I L sg H1 locs1 → lv_has ls1 9 [(8, .int (nI (f + 1))), (7, .int (plP (I (ftt j)) (I (ftu j)) (f + 1))), (6, .int (nI j)), (5, .int (1 : Int32)), (3, .long (lN T)), (1, .long (lN S0)), (0, .ref (E.2.2.2 0))] → W pg l eg ({ frames := 6, cells := 0, slots := 0, locals := 140 } : Room) sg mg args below meth cg H1 locs1 0 0 Q (F0 mg 214 ls1 [])) : W pg l eg ({ frames := 6, cells := 0, slots := 0, locals := 140 } : Room) sg mg args below meth cg H locs 0 0 Q (F0 mg 214 ls []) := by
  have hf : 0 ≤ ({ frames := 6, cells := 0, slots := 0, locals := 140 } : Room).cells ∧ 0 ≤ ({ frames := 6, cells := 0, slots := 0, locals := 140 } : Room).slots := ⟨Nat.zero_le _, Nat.zero_le _⟩
  have hk2 : k < 2 ^ 30 := by omega
  refine lv_iload S.1 S.2.1 dL_holds_214 (lv_at hl 0 rfl) ?_
  refine lv_iconst (v := (3 : Int32)) S.1 S.2.1 dL_holds_216 (by decide) ?_
  refine lv_icmp_ge (tgt := 325) S.1 S.2.1 dL_holds_217 (by decide) (fun h => absurd h (nI_ge (b := 3) hf3 (by decide))) (fun _ => ?_)
  rcases Classical.em (I (ftt j) f = 0) with ht | ht
  · refine lv_iload S.1 S.2.1 dL_holds_220 (lv_at hl 1 rfl) ?_
    refine lv_aload_n S.1 S.2.1 dL_holds_222 rfl (lv_at hl 6 rfl) ?_
    refine lv_iload S.1 S.2.1 dL_holds_223 (lv_at hl 2 rfl) ?_
    refine lv_iload S.1 S.2.1 dL_holds_225 (lv_at hl 0 rfl) ?_
    refine lv_iconst (v := (0 : Int32)) S.1 S.2.1 dL_holds_227 (by decide) ?_
    refine s_read (As := [.int (nI j), .int (nI f), .int (0 : Int32)]) (rest := [.int (plP (I (ftt j)) (I (ftu j)) f)]) S hX G (r_fault_0 l E j f hj hf3) (cwV (bytes := cX8_fault) (maxL := 6) (ret := (some .int)) 3 S.2.2.2.2 gL_holds_X8_fault rfl rfl rfl (by decide +kernel) ⟨Nat.le_of_ble_eq_true rfl, Nat.le_of_ble_eq_true rfl⟩) rfl hl.1 rfl (Nat.le_of_ble_eq_true rfl) hf dL_holds_228 (fun H locs G => ?_)
    refine s_if_ne_b (P := ¬ I (ftt j) f = 0) (tgt := 238) S dL_holds_231 (by decide) (fun h => absurd h (fun q => q ht)) (fun _ => ?_)
    refine lv_iconst (v := (0 : Int32)) S.1 S.2.1 dL_holds_234 (by decide) ?_
    refine lv_goto (tgt := 249) S.1 S.2.1 dL_holds_235 (by decide) ?_
    refine lv_ior S.1 S.2.1 dL_holds_249 ?_
    refine s_conv (y := (plP (I (ftt j)) (I (ftu j)) (f + 1))) (plP_n ht) ?_
    refine lv_istore (lv' := [(7, .int (plP (I (ftt j)) (I (ftu j)) (f + 1))), (8, .int (nI f)), (6, .int (nI j)), (5, .int (1 : Int32)), (3, .long (lN T)), (1, .long (lN S0)), (0, .ref (E.2.2.2 0))]) S.1 S.2.1 dL_holds_250 hl (by decide) rfl (fun ls hl => ?_)
    refine lv_iload S.1 S.2.1 dL_holds_252 (lv_at hl 3 rfl) ?_
    refine lv_if_eq (tgt := 316) S.1 S.2.1 dL_holds_254 (by decide) (fun h => absurd h (by decide)) (fun _ => ?_)
    refine lv_aload_n S.1 S.2.1 dL_holds_257 rfl (lv_at hl 6 rfl) ?_
    refine lv_iload S.1 S.2.1 dL_holds_258 (lv_at hl 2 rfl) ?_
    refine lv_iload S.1 S.2.1 dL_holds_260 (lv_at hl 1 rfl) ?_
    refine lv_iconst (v := (4 : Int32)) S.1 S.2.1 dL_holds_262 (by decide) ?_
    refine s_callV (C := RX8) (As := [.int (nI j), .int (nI f), .int (4 : Int32)]) (rest := []) (i := 0) (kd := 8) S hX G (r_fault_4 l E j f hj hf3) (cwV (bytes := cX8_fault) (maxL := 6) (ret := (some .int)) 3 S.2.2.2.2 gL_holds_X8_fault rfl rfl rfl (by decide +kernel) ⟨Nat.le_of_ble_eq_true rfl, Nat.le_of_ble_eq_true rfl⟩) (rfl : sh 0 = 8) rfl rfl rfl (by decide) rfl hl.1 rfl (Nat.le_of_ble_eq_true rfl) hf dL_holds_263 (fun v I1 L1 H locs hR G => ?_)
    obtain ⟨x, hv, hx, hI, hL⟩ := hR
    subst hv
    have G : GS E I L sg H locs := G.same hI hL
    refine W.eq (g2 := F0 mg 266 ls [.int x]) rfl ?_
    rcases hx with hx | hq
    · refine lv_if_eq (tgt := 281) S.1 S.2.1 dL_holds_266 (by decide) (fun _ => ?_) (fun h => absurd hx h)
      refine lv_aload_n S.1 S.2.1 dL_holds_281 rfl (lv_at hl 6 rfl) ?_
      refine lv_iload S.1 S.2.1 dL_holds_282 (lv_at hl 2 rfl) ?_
      refine lv_iload S.1 S.2.1 dL_holds_284 (lv_at hl 1 rfl) ?_
      refine lv_iconst (v := (0 : Int32)) S.1 S.2.1 dL_holds_286 (by decide) ?_
      refine s_read (As := [.int (nI j), .int (nI f), .int (0 : Int32)]) (rest := []) S hX G (r_fault_0 l E j f hj hf3) (cwV (bytes := cX8_fault) (maxL := 6) (ret := (some .int)) 3 S.2.2.2.2 gL_holds_X8_fault rfl rfl rfl (by decide +kernel) ⟨Nat.le_of_ble_eq_true rfl, Nat.le_of_ble_eq_true rfl⟩) rfl hl.1 rfl (Nat.le_of_ble_eq_true rfl) hf dL_holds_287 (fun H locs G => ?_)
      refine s_if_eq_b (P := ¬ I (ftt j) f = 0) (tgt := 312) S dL_holds_290 (by decide) (fun _ => ?_) (fun h => absurd h (fun q => q ht))
      refine lv_iconst (v := (1 : Int32)) S.1 S.2.1 dL_holds_312 (by decide) ?_
      refine lv_goto (tgt := 317) S.1 S.2.1 dL_holds_313 (by decide) ?_
      refine lv_istore (lv' := [(5, .int (1 : Int32)), (7, .int (plP (I (ftt j)) (I (ftu j)) (f + 1))), (8, .int (nI f)), (6, .int (nI j)), (3, .long (lN T)), (1, .long (lN S0)), (0, .ref (E.2.2.2 0))]) S.1 S.2.1 dL_holds_317 hl (by decide) rfl (fun ls hl => ?_)
      refine lv_iinc (v := (nI (f + 1))) (lv' := [(8, .int (nI (f + 1))), (5, .int (1 : Int32)), (7, .int (plP (I (ftt j)) (I (ftu j)) (f + 1))), (6, .int (nI j)), (3, .long (lN T)), (1, .long (lN S0)), (0, .ref (E.2.2.2 0))]) S.1 S.2.1 dL_holds_319 hl (k := 2) rfl (nI_1 f) (by decide) rfl (fun ls hl => ?_)
      refine lv_goto (tgt := 214) S.1 S.2.1 dL_holds_322 (by decide) ?_
      exact kk _ _ _ G (lv_sub hl [0, 2, 3, 1, 4, 5, 6] rfl)
    · refine lv_if_eq (tgt := 281) S.1 S.2.1 dL_holds_266 (by decide) (fun c_1 => ?_) (fun c_1 => ?_)
      · refine lv_aload_n S.1 S.2.1 dL_holds_281 rfl (lv_at hl 6 rfl) ?_
        refine lv_iload S.1 S.2.1 dL_holds_282 (lv_at hl 2 rfl) ?_
        refine lv_iload S.1 S.2.1 dL_holds_284 (lv_at hl 1 rfl) ?_
        refine lv_iconst (v := (0 : Int32)) S.1 S.2.1 dL_holds_286 (by decide) ?_
        refine s_read (As := [.int (nI j), .int (nI f), .int (0 : Int32)]) (rest := []) S hX G (r_fault_0 l E j f hj hf3) (cwV (bytes := cX8_fault) (maxL := 6) (ret := (some .int)) 3 S.2.2.2.2 gL_holds_X8_fault rfl rfl rfl (by decide +kernel) ⟨Nat.le_of_ble_eq_true rfl, Nat.le_of_ble_eq_true rfl⟩) rfl hl.1 rfl (Nat.le_of_ble_eq_true rfl) hf dL_holds_287 (fun H locs G => ?_)
        refine s_if_eq_b (P := ¬ I (ftt j) f = 0) (tgt := 312) S dL_holds_290 (by decide) (fun _ => ?_) (fun h => absurd h (fun q => q ht))
        refine lv_iconst (v := (1 : Int32)) S.1 S.2.1 dL_holds_312 (by decide) ?_
        refine lv_goto (tgt := 317) S.1 S.2.1 dL_holds_313 (by decide) ?_
        refine lv_istore (lv' := [(5, .int (1 : Int32)), (7, .int (plP (I (ftt j)) (I (ftu j)) (f + 1))), (8, .int (nI f)), (6, .int (nI j)), (3, .long (lN T)), (1, .long (lN S0)), (0, .ref (E.2.2.2 0))]) S.1 S.2.1 dL_holds_317 hl (by decide) rfl (fun ls hl => ?_)
        refine lv_iinc (v := (nI (f + 1))) (lv' := [(8, .int (nI (f + 1))), (5, .int (1 : Int32)), (7, .int (plP (I (ftt j)) (I (ftu j)) (f + 1))), (6, .int (nI j)), (3, .long (lN T)), (1, .long (lN S0)), (0, .ref (E.2.2.2 0))]) S.1 S.2.1 dL_holds_319 hl (k := 2) rfl (nI_1 f) (by decide) rfl (fun ls hl => ?_)
        refine lv_goto (tgt := 214) S.1 S.2.1 dL_holds_322 (by decide) ?_
        exact kk _ _ _ G (lv_sub hl [0, 2, 3, 1, 4, 5, 6] rfl)
      · refine lv_aload_n S.1 S.2.1 dL_holds_269 rfl (lv_at hl 6 rfl) ?_
        refine lv_iload S.1 S.2.1 dL_holds_270 (lv_at hl 2 rfl) ?_
        refine lv_iload S.1 S.2.1 dL_holds_272 (lv_at hl 1 rfl) ?_
        refine lv_iconst (v := (3 : Int32)) S.1 S.2.1 dL_holds_274 (by decide) ?_
        refine s_read (As := [.int (nI j), .int (nI f), .int (3 : Int32)]) (rest := []) S hX G (r_fault_3p l E j f hj hf3 hq.1) (cwV (bytes := cX8_fault) (maxL := 6) (ret := (some .int)) 3 S.2.2.2.2 gL_holds_X8_fault rfl rfl rfl (by decide +kernel) ⟨Nat.le_of_ble_eq_true rfl, Nat.le_of_ble_eq_true rfl⟩) rfl hl.1 rfl (Nat.le_of_ble_eq_true rfl) hf dL_holds_275 (fun H locs G => ?_)
        refine lv_if_ne (tgt := 316) S.1 S.2.1 dL_holds_278 (by decide) (fun h => absurd hq.2 h) (fun _ => ?_)
        refine lv_aload_n S.1 S.2.1 dL_holds_281 rfl (lv_at hl 6 rfl) ?_
        refine lv_iload S.1 S.2.1 dL_holds_282 (lv_at hl 2 rfl) ?_
        refine lv_iload S.1 S.2.1 dL_holds_284 (lv_at hl 1 rfl) ?_
        refine lv_iconst (v := (0 : Int32)) S.1 S.2.1 dL_holds_286 (by decide) ?_
        refine s_read (As := [.int (nI j), .int (nI f), .int (0 : Int32)]) (rest := []) S hX G (r_fault_0 l E j f hj hf3) (cwV (bytes := cX8_fault) (maxL := 6) (ret := (some .int)) 3 S.2.2.2.2 gL_holds_X8_fault rfl rfl rfl (by decide +kernel) ⟨Nat.le_of_ble_eq_true rfl, Nat.le_of_ble_eq_true rfl⟩) rfl hl.1 rfl (Nat.le_of_ble_eq_true rfl) hf dL_holds_287 (fun H locs G => ?_)
        refine s_if_eq_b (P := ¬ I (ftt j) f = 0) (tgt := 312) S dL_holds_290 (by decide) (fun _ => ?_) (fun h => absurd h (fun q => q ht))
        refine lv_iconst (v := (1 : Int32)) S.1 S.2.1 dL_holds_312 (by decide) ?_
        refine lv_goto (tgt := 317) S.1 S.2.1 dL_holds_313 (by decide) ?_
        refine lv_istore (lv' := [(5, .int (1 : Int32)), (7, .int (plP (I (ftt j)) (I (ftu j)) (f + 1))), (8, .int (nI f)), (6, .int (nI j)), (3, .long (lN T)), (1, .long (lN S0)), (0, .ref (E.2.2.2 0))]) S.1 S.2.1 dL_holds_317 hl (by decide) rfl (fun ls hl => ?_)
        refine lv_iinc (v := (nI (f + 1))) (lv' := [(8, .int (nI (f + 1))), (5, .int (1 : Int32)), (7, .int (plP (I (ftt j)) (I (ftu j)) (f + 1))), (6, .int (nI j)), (3, .long (lN T)), (1, .long (lN S0)), (0, .ref (E.2.2.2 0))]) S.1 S.2.1 dL_holds_319 hl (k := 2) rfl (nI_1 f) (by decide) rfl (fun ls hl => ?_)
        refine lv_goto (tgt := 214) S.1 S.2.1 dL_holds_322 (by decide) ?_
        exact kk _ _ _ G (lv_sub hl [0, 2, 3, 1, 4, 5, 6] rfl)
  · obtain ⟨m, hm, hu⟩ := hft ht
    refine lv_iload S.1 S.2.1 dL_holds_220 (lv_at hl 1 rfl) ?_
    refine lv_aload_n S.1 S.2.1 dL_holds_222 rfl (lv_at hl 6 rfl) ?_
    refine lv_iload S.1 S.2.1 dL_holds_223 (lv_at hl 2 rfl) ?_
    refine lv_iload S.1 S.2.1 dL_holds_225 (lv_at hl 0 rfl) ?_
    refine lv_iconst (v := (0 : Int32)) S.1 S.2.1 dL_holds_227 (by decide) ?_
    refine s_read (As := [.int (nI j), .int (nI f), .int (0 : Int32)]) (rest := [.int (plP (I (ftt j)) (I (ftu j)) f)]) S hX G (r_fault_0 l E j f hj hf3) (cwV (bytes := cX8_fault) (maxL := 6) (ret := (some .int)) 3 S.2.2.2.2 gL_holds_X8_fault rfl rfl rfl (by decide +kernel) ⟨Nat.le_of_ble_eq_true rfl, Nat.le_of_ble_eq_true rfl⟩) rfl hl.1 rfl (Nat.le_of_ble_eq_true rfl) hf dL_holds_228 (fun H locs G => ?_)
    refine s_if_ne_b (P := ¬ I (ftt j) f = 0) (tgt := 238) S dL_holds_231 (by decide) (fun _ => ?_) (fun h => absurd ht h)
    refine lv_iconst (v := (1 : Int32)) S.1 S.2.1 dL_holds_238 (by decide) ?_
    refine lv_aload_n S.1 S.2.1 dL_holds_239 rfl (lv_at hl 6 rfl) ?_
    refine lv_iload S.1 S.2.1 dL_holds_240 (lv_at hl 2 rfl) ?_
    refine lv_iload S.1 S.2.1 dL_holds_242 (lv_at hl 0 rfl) ?_
    refine lv_iconst (v := (3 : Int32)) S.1 S.2.1 dL_holds_244 (by decide) ?_
    refine s_read (As := [.int (nI j), .int (nI f), .int (3 : Int32)]) (rest := [.int (1 : Int32), .int (plP (I (ftt j)) (I (ftu j)) f)]) S hX G (r_fault_3p l E j f hj hf3 ht) (cwV (bytes := cX8_fault) (maxL := 6) (ret := (some .int)) 3 S.2.2.2.2 gL_holds_X8_fault rfl rfl rfl (by decide +kernel) ⟨Nat.le_of_ble_eq_true rfl, Nat.le_of_ble_eq_true rfl⟩) rfl hl.1 rfl (Nat.le_of_ble_eq_true rfl) hf dL_holds_245 (fun H locs G => ?_)
    refine lv_ishl S.1 S.2.1 dL_holds_248 ?_
    refine lv_ior S.1 S.2.1 dL_holds_249 ?_
    refine s_conv (y := (plP (I (ftt j)) (I (ftu j)) (f + 1))) (plP_p ht) ?_
    refine lv_istore (lv' := [(7, .int (plP (I (ftt j)) (I (ftu j)) (f + 1))), (8, .int (nI f)), (6, .int (nI j)), (5, .int (1 : Int32)), (3, .long (lN T)), (1, .long (lN S0)), (0, .ref (E.2.2.2 0))]) S.1 S.2.1 dL_holds_250 hl (by decide) rfl (fun ls hl => ?_)
    refine lv_iload S.1 S.2.1 dL_holds_252 (lv_at hl 3 rfl) ?_
    refine lv_if_eq (tgt := 316) S.1 S.2.1 dL_holds_254 (by decide) (fun h => absurd h (by decide)) (fun _ => ?_)
    refine lv_aload_n S.1 S.2.1 dL_holds_257 rfl (lv_at hl 6 rfl) ?_
    refine lv_iload S.1 S.2.1 dL_holds_258 (lv_at hl 2 rfl) ?_
    refine lv_iload S.1 S.2.1 dL_holds_260 (lv_at hl 1 rfl) ?_
    refine lv_iconst (v := (4 : Int32)) S.1 S.2.1 dL_holds_262 (by decide) ?_
    refine s_callV (C := RX8) (As := [.int (nI j), .int (nI f), .int (4 : Int32)]) (rest := []) (i := 0) (kd := 8) S hX G (r_fault_4 l E j f hj hf3) (cwV (bytes := cX8_fault) (maxL := 6) (ret := (some .int)) 3 S.2.2.2.2 gL_holds_X8_fault rfl rfl rfl (by decide +kernel) ⟨Nat.le_of_ble_eq_true rfl, Nat.le_of_ble_eq_true rfl⟩) (rfl : sh 0 = 8) rfl rfl rfl (by decide) rfl hl.1 rfl (Nat.le_of_ble_eq_true rfl) hf dL_holds_263 (fun v I1 L1 H locs hR G => ?_)
    obtain ⟨x, hv, hx, hI, hL⟩ := hR
    subst hv
    have G : GS E I L sg H locs := G.same hI hL
    refine W.eq (g2 := F0 mg 266 ls [.int x]) rfl ?_
    rcases hx with hx | hq
    · refine lv_if_eq (tgt := 281) S.1 S.2.1 dL_holds_266 (by decide) (fun _ => ?_) (fun h => absurd hx h)
      refine lv_aload_n S.1 S.2.1 dL_holds_281 rfl (lv_at hl 6 rfl) ?_
      refine lv_iload S.1 S.2.1 dL_holds_282 (lv_at hl 2 rfl) ?_
      refine lv_iload S.1 S.2.1 dL_holds_284 (lv_at hl 1 rfl) ?_
      refine lv_iconst (v := (0 : Int32)) S.1 S.2.1 dL_holds_286 (by decide) ?_
      refine s_read (As := [.int (nI j), .int (nI f), .int (0 : Int32)]) (rest := []) S hX G (r_fault_0 l E j f hj hf3) (cwV (bytes := cX8_fault) (maxL := 6) (ret := (some .int)) 3 S.2.2.2.2 gL_holds_X8_fault rfl rfl rfl (by decide +kernel) ⟨Nat.le_of_ble_eq_true rfl, Nat.le_of_ble_eq_true rfl⟩) rfl hl.1 rfl (Nat.le_of_ble_eq_true rfl) hf dL_holds_287 (fun H locs G => ?_)
      refine s_if_eq_b (P := ¬ I (ftt j) f = 0) (tgt := 312) S dL_holds_290 (by decide) (fun h => absurd ht h) (fun _ => ?_)
      refine lv_aload_n S.1 S.2.1 dL_holds_293 rfl (lv_at hl 6 rfl) ?_
      refine lv_iload S.1 S.2.1 dL_holds_294 (lv_at hl 2 rfl) ?_
      refine lv_iload S.1 S.2.1 dL_holds_296 (lv_at hl 1 rfl) ?_
      refine lv_iconst (v := (1 : Int32)) S.1 S.2.1 dL_holds_298 (by decide) ?_
      refine s_read (As := [.int (nI j), .int (nI f), .int (1 : Int32)]) (rest := []) S hX G (r_fault_1p l E j f m hj hf3 ht hu) (cwV (bytes := cX8_fault) (maxL := 6) (ret := (some .int)) 3 S.2.2.2.2 gL_holds_X8_fault rfl rfl rfl (by decide +kernel) ⟨Nat.le_of_ble_eq_true rfl, Nat.le_of_ble_eq_true rfl⟩) rfl hl.1 rfl (Nat.le_of_ble_eq_true rfl) hf dL_holds_299 (fun H locs G => ?_)
      refine lv_i2l (v := (lN m)) S.1 S.2.1 dL_holds_302 (nI_l (by omega)) ?_
      refine lv_aload_n S.1 S.2.1 dL_holds_303 rfl (lv_at hl 6 rfl) ?_
      refine lv_iconst (v := (0 : Int32)) S.1 S.2.1 dL_holds_304 (by decide) ?_
      refine s_read (As := [.int (0 : Int32)]) (rest := [.long (lN m)]) S hX G (r_count_0 l E k hk hk2) (cwV (bytes := cX8_count) (maxL := 2) (ret := (some .long)) 1 S.2.2.2.2 gL_holds_X8_count rfl rfl rfl (by decide +kernel) ⟨Nat.le_of_ble_eq_true rfl, Nat.le_of_ble_eq_true rfl⟩) rfl hl.1 rfl (Nat.le_of_ble_eq_true rfl) hf dL_holds_305 (fun H locs G => ?_)
      refine W.lcmp S.1 S.2.1 dL_holds_308 ?_
      refine s_if_ge_c (tgt := 316) S dL_holds_309 (by decide) (fun h => absurd h (fun q => by have q := (pk_lLE (by omega) (by omega)).mp q; omega)) (fun _ => ?_)
      refine lv_iconst (v := (1 : Int32)) S.1 S.2.1 dL_holds_312 (by decide) ?_
      refine lv_goto (tgt := 317) S.1 S.2.1 dL_holds_313 (by decide) ?_
      refine lv_istore (lv' := [(5, .int (1 : Int32)), (7, .int (plP (I (ftt j)) (I (ftu j)) (f + 1))), (8, .int (nI f)), (6, .int (nI j)), (3, .long (lN T)), (1, .long (lN S0)), (0, .ref (E.2.2.2 0))]) S.1 S.2.1 dL_holds_317 hl (by decide) rfl (fun ls hl => ?_)
      refine lv_iinc (v := (nI (f + 1))) (lv' := [(8, .int (nI (f + 1))), (5, .int (1 : Int32)), (7, .int (plP (I (ftt j)) (I (ftu j)) (f + 1))), (6, .int (nI j)), (3, .long (lN T)), (1, .long (lN S0)), (0, .ref (E.2.2.2 0))]) S.1 S.2.1 dL_holds_319 hl (k := 2) rfl (nI_1 f) (by decide) rfl (fun ls hl => ?_)
      refine lv_goto (tgt := 214) S.1 S.2.1 dL_holds_322 (by decide) ?_
      exact kk _ _ _ G (lv_sub hl [0, 2, 3, 1, 4, 5, 6] rfl)
    · refine lv_if_eq (tgt := 281) S.1 S.2.1 dL_holds_266 (by decide) (fun c_2 => ?_) (fun c_2 => ?_)
      · refine lv_aload_n S.1 S.2.1 dL_holds_281 rfl (lv_at hl 6 rfl) ?_
        refine lv_iload S.1 S.2.1 dL_holds_282 (lv_at hl 2 rfl) ?_
        refine lv_iload S.1 S.2.1 dL_holds_284 (lv_at hl 1 rfl) ?_
        refine lv_iconst (v := (0 : Int32)) S.1 S.2.1 dL_holds_286 (by decide) ?_
        refine s_read (As := [.int (nI j), .int (nI f), .int (0 : Int32)]) (rest := []) S hX G (r_fault_0 l E j f hj hf3) (cwV (bytes := cX8_fault) (maxL := 6) (ret := (some .int)) 3 S.2.2.2.2 gL_holds_X8_fault rfl rfl rfl (by decide +kernel) ⟨Nat.le_of_ble_eq_true rfl, Nat.le_of_ble_eq_true rfl⟩) rfl hl.1 rfl (Nat.le_of_ble_eq_true rfl) hf dL_holds_287 (fun H locs G => ?_)
        refine s_if_eq_b (P := ¬ I (ftt j) f = 0) (tgt := 312) S dL_holds_290 (by decide) (fun h => absurd ht h) (fun _ => ?_)
        refine lv_aload_n S.1 S.2.1 dL_holds_293 rfl (lv_at hl 6 rfl) ?_
        refine lv_iload S.1 S.2.1 dL_holds_294 (lv_at hl 2 rfl) ?_
        refine lv_iload S.1 S.2.1 dL_holds_296 (lv_at hl 1 rfl) ?_
        refine lv_iconst (v := (1 : Int32)) S.1 S.2.1 dL_holds_298 (by decide) ?_
        refine s_read (As := [.int (nI j), .int (nI f), .int (1 : Int32)]) (rest := []) S hX G (r_fault_1p l E j f m hj hf3 ht hu) (cwV (bytes := cX8_fault) (maxL := 6) (ret := (some .int)) 3 S.2.2.2.2 gL_holds_X8_fault rfl rfl rfl (by decide +kernel) ⟨Nat.le_of_ble_eq_true rfl, Nat.le_of_ble_eq_true rfl⟩) rfl hl.1 rfl (Nat.le_of_ble_eq_true rfl) hf dL_holds_299 (fun H locs G => ?_)
        refine lv_i2l (v := (lN m)) S.1 S.2.1 dL_holds_302 (nI_l (by omega)) ?_
        refine lv_aload_n S.1 S.2.1 dL_holds_303 rfl (lv_at hl 6 rfl) ?_
        refine lv_iconst (v := (0 : Int32)) S.1 S.2.1 dL_holds_304 (by decide) ?_
        refine s_read (As := [.int (0 : Int32)]) (rest := [.long (lN m)]) S hX G (r_count_0 l E k hk hk2) (cwV (bytes := cX8_count) (maxL := 2) (ret := (some .long)) 1 S.2.2.2.2 gL_holds_X8_count rfl rfl rfl (by decide +kernel) ⟨Nat.le_of_ble_eq_true rfl, Nat.le_of_ble_eq_true rfl⟩) rfl hl.1 rfl (Nat.le_of_ble_eq_true rfl) hf dL_holds_305 (fun H locs G => ?_)
        refine W.lcmp S.1 S.2.1 dL_holds_308 ?_
        refine s_if_ge_c (tgt := 316) S dL_holds_309 (by decide) (fun h => absurd h (fun q => by have q := (pk_lLE (by omega) (by omega)).mp q; omega)) (fun _ => ?_)
        refine lv_iconst (v := (1 : Int32)) S.1 S.2.1 dL_holds_312 (by decide) ?_
        refine lv_goto (tgt := 317) S.1 S.2.1 dL_holds_313 (by decide) ?_
        refine lv_istore (lv' := [(5, .int (1 : Int32)), (7, .int (plP (I (ftt j)) (I (ftu j)) (f + 1))), (8, .int (nI f)), (6, .int (nI j)), (3, .long (lN T)), (1, .long (lN S0)), (0, .ref (E.2.2.2 0))]) S.1 S.2.1 dL_holds_317 hl (by decide) rfl (fun ls hl => ?_)
        refine lv_iinc (v := (nI (f + 1))) (lv' := [(8, .int (nI (f + 1))), (5, .int (1 : Int32)), (7, .int (plP (I (ftt j)) (I (ftu j)) (f + 1))), (6, .int (nI j)), (3, .long (lN T)), (1, .long (lN S0)), (0, .ref (E.2.2.2 0))]) S.1 S.2.1 dL_holds_319 hl (k := 2) rfl (nI_1 f) (by decide) rfl (fun ls hl => ?_)
        refine lv_goto (tgt := 214) S.1 S.2.1 dL_holds_322 (by decide) ?_
        exact kk _ _ _ G (lv_sub hl [0, 2, 3, 1, 4, 5, 6] rfl)
      · refine lv_aload_n S.1 S.2.1 dL_holds_269 rfl (lv_at hl 6 rfl) ?_
        refine lv_iload S.1 S.2.1 dL_holds_270 (lv_at hl 2 rfl) ?_
        refine lv_iload S.1 S.2.1 dL_holds_272 (lv_at hl 1 rfl) ?_
        refine lv_iconst (v := (3 : Int32)) S.1 S.2.1 dL_holds_274 (by decide) ?_
        refine s_read (As := [.int (nI j), .int (nI f), .int (3 : Int32)]) (rest := []) S hX G (r_fault_3p l E j f hj hf3 hq.1) (cwV (bytes := cX8_fault) (maxL := 6) (ret := (some .int)) 3 S.2.2.2.2 gL_holds_X8_fault rfl rfl rfl (by decide +kernel) ⟨Nat.le_of_ble_eq_true rfl, Nat.le_of_ble_eq_true rfl⟩) rfl hl.1 rfl (Nat.le_of_ble_eq_true rfl) hf dL_holds_275 (fun H locs G => ?_)
        refine lv_if_ne (tgt := 316) S.1 S.2.1 dL_holds_278 (by decide) (fun h => absurd hq.2 h) (fun _ => ?_)
        refine lv_aload_n S.1 S.2.1 dL_holds_281 rfl (lv_at hl 6 rfl) ?_
        refine lv_iload S.1 S.2.1 dL_holds_282 (lv_at hl 2 rfl) ?_
        refine lv_iload S.1 S.2.1 dL_holds_284 (lv_at hl 1 rfl) ?_
        refine lv_iconst (v := (0 : Int32)) S.1 S.2.1 dL_holds_286 (by decide) ?_
        refine s_read (As := [.int (nI j), .int (nI f), .int (0 : Int32)]) (rest := []) S hX G (r_fault_0 l E j f hj hf3) (cwV (bytes := cX8_fault) (maxL := 6) (ret := (some .int)) 3 S.2.2.2.2 gL_holds_X8_fault rfl rfl rfl (by decide +kernel) ⟨Nat.le_of_ble_eq_true rfl, Nat.le_of_ble_eq_true rfl⟩) rfl hl.1 rfl (Nat.le_of_ble_eq_true rfl) hf dL_holds_287 (fun H locs G => ?_)
        refine s_if_eq_b (P := ¬ I (ftt j) f = 0) (tgt := 312) S dL_holds_290 (by decide) (fun h => absurd ht h) (fun _ => ?_)
        refine lv_aload_n S.1 S.2.1 dL_holds_293 rfl (lv_at hl 6 rfl) ?_
        refine lv_iload S.1 S.2.1 dL_holds_294 (lv_at hl 2 rfl) ?_
        refine lv_iload S.1 S.2.1 dL_holds_296 (lv_at hl 1 rfl) ?_
        refine lv_iconst (v := (1 : Int32)) S.1 S.2.1 dL_holds_298 (by decide) ?_
        refine s_read (As := [.int (nI j), .int (nI f), .int (1 : Int32)]) (rest := []) S hX G (r_fault_1p l E j f m hj hf3 ht hu) (cwV (bytes := cX8_fault) (maxL := 6) (ret := (some .int)) 3 S.2.2.2.2 gL_holds_X8_fault rfl rfl rfl (by decide +kernel) ⟨Nat.le_of_ble_eq_true rfl, Nat.le_of_ble_eq_true rfl⟩) rfl hl.1 rfl (Nat.le_of_ble_eq_true rfl) hf dL_holds_299 (fun H locs G => ?_)
        refine lv_i2l (v := (lN m)) S.1 S.2.1 dL_holds_302 (nI_l (by omega)) ?_
        refine lv_aload_n S.1 S.2.1 dL_holds_303 rfl (lv_at hl 6 rfl) ?_
        refine lv_iconst (v := (0 : Int32)) S.1 S.2.1 dL_holds_304 (by decide) ?_
        refine s_read (As := [.int (0 : Int32)]) (rest := [.long (lN m)]) S hX G (r_count_0 l E k hk hk2) (cwV (bytes := cX8_count) (maxL := 2) (ret := (some .long)) 1 S.2.2.2.2 gL_holds_X8_count rfl rfl rfl (by decide +kernel) ⟨Nat.le_of_ble_eq_true rfl, Nat.le_of_ble_eq_true rfl⟩) rfl hl.1 rfl (Nat.le_of_ble_eq_true rfl) hf dL_holds_305 (fun H locs G => ?_)
        refine W.lcmp S.1 S.2.1 dL_holds_308 ?_
        refine s_if_ge_c (tgt := 316) S dL_holds_309 (by decide) (fun h => absurd h (fun q => by have q := (pk_lLE (by omega) (by omega)).mp q; omega)) (fun _ => ?_)
        refine lv_iconst (v := (1 : Int32)) S.1 S.2.1 dL_holds_312 (by decide) ?_
        refine lv_goto (tgt := 317) S.1 S.2.1 dL_holds_313 (by decide) ?_
        refine lv_istore (lv' := [(5, .int (1 : Int32)), (7, .int (plP (I (ftt j)) (I (ftu j)) (f + 1))), (8, .int (nI f)), (6, .int (nI j)), (3, .long (lN T)), (1, .long (lN S0)), (0, .ref (E.2.2.2 0))]) S.1 S.2.1 dL_holds_317 hl (by decide) rfl (fun ls hl => ?_)
        refine lv_iinc (v := (nI (f + 1))) (lv' := [(8, .int (nI (f + 1))), (5, .int (1 : Int32)), (7, .int (plP (I (ftt j)) (I (ftu j)) (f + 1))), (6, .int (nI j)), (3, .long (lN T)), (1, .long (lN S0)), (0, .ref (E.2.2.2 0))]) S.1 S.2.1 dL_holds_319 hl (k := 2) rfl (nI_1 f) (by decide) rfl (fun ls hl => ?_)
        refine lv_goto (tgt := 214) S.1 S.2.1 dL_holds_322 (by decide) ?_
        exact kk _ _ _ G (lv_sub hl [0, 2, 3, 1, 4, 5, 6] rfl)
