set_option maxRecDepth 100000 in
set_option maxHeartbeats 4000000 in
/-- one load at one slot of the scope -/
theorem sn_c2 {pg : Program} {l : Launch} {eg : Env} {sg : State} {mg : MethodId} {args : Array Value} {below : List Frame} {meth : Method} {cg : Code} {H : Heap} {locs : List Loc} {Q : State → Prop} {ls : Array Slot} {E : Ev} {I : SI} {L : SL} {D k b j s0 s1 : Nat} (S : CallFix pg mg cg cL_seen 9 sg args wsL_seen RL) (hX : FX E sg) (G : GS E I L sg H locs) (hl : lv_has ls 9 [(4, .int (nI j)), (3, .int (nI b)), (2, .int (1 : Int32)), (1, .int (nI D)), (0, .ref (E.2.2.2 0))]) (hj : j < 2) (hk : I 1 4 = nI k) (hk2 : k < 2 ^ 28) (hb2 : b + 1 < Nat.min k 32) (e0 : I (dvc j) 0 = nI s0) (e1 : I (dvc j) 1 = nI s1) (hd1 : ¬ nI (s0 + s1) < (I (23 + j) ((k - 1 - b) % 32) - I (23 + j) ((k - 1 - (b + 1)) % 32))) (hd2 : ¬ (I (23 + j) ((k - 1 - b) % 32) - I (23 + j) ((k - 1 - (b + 1)) % 32)) < -nI (s0 + s1)) (kk : ∀ (H1 : Heap) (locs1 : List Loc) (ls1 : Array Slot), GS E I L sg H1 locs1 → lv_has ls1 9 [(4, .int (nI (j + 1))), (3, .int (nI b)), (2, .int (1 : Int32)), (1, .int (nI D)), (0, .ref (E.2.2.2 0))] → W pg l eg ({ frames := 4, cells := 0, slots := 0, locals := 100 } : Room) sg mg args below meth cg H1 locs1 0 0 Q (F0 mg 180 ls1 [])) : W pg l eg ({ frames := 4, cells := 0, slots := 0, locals := 100 } : Room) sg mg args below meth cg H locs 0 0 Q (F0 mg 180 ls []) := by
  have hf : 0 ≤ ({ frames := 4, cells := 0, slots := 0, locals := 100 } : Room).cells ∧ 0 ≤ ({ frames := 4, cells := 0, slots := 0, locals := 100 } : Room).slots := ⟨Nat.zero_le _, Nat.zero_le _⟩
  refine lv_iload S.1 S.2.1 dL_seen_180 (lv_at hl 0 rfl) ?_
  refine lv_iconst (v := (2 : Int32)) S.1 S.2.1 dL_seen_182 (by decide) ?_
  refine lv_icmp_ge (tgt := 257) S.1 S.2.1 dL_seen_183 (by decide) (fun h => absurd h (nI_ge (b := 2) hj (by decide))) (fun _ => ?_)
  refine lv_aload_n S.1 S.2.1 dL_seen_186 rfl (lv_at hl 4 rfl) ?_
  refine lv_iload_n S.1 S.2.1 dL_seen_187 rfl (lv_at hl 1 rfl) ?_
  refine lv_iconst (v := (1 : Int32)) S.1 S.2.1 dL_seen_188 (by decide) ?_
  refine lv_iload S.1 S.2.1 dL_seen_189 (lv_at hl 0 rfl) ?_
  refine s_iadd (v := (nI (1 + j))) S dL_seen_191 (nI_add 1 j) ?_
  refine s_read (As := [.int (nI b), .int (nI (1 + j))]) (rest := []) S hX G (r_scope_c l E j b k hj hk (by omega) (by omega)) (cwV (bytes := cX8_scope) (maxL := 4) (ret := (some .int)) 2 S.2.2.2.2 gL_seen_X8_scope rfl rfl rfl (by decide +kernel) ⟨Nat.le_of_ble_eq_true rfl, Nat.le_of_ble_eq_true rfl⟩) rfl hl.1 rfl (Nat.le_of_ble_eq_true rfl) hf dL_seen_192 (fun H locs G => ?_)
  refine lv_aload_n S.1 S.2.1 dL_seen_195 rfl (lv_at hl 4 rfl) ?_
  refine lv_iload_n S.1 S.2.1 dL_seen_196 rfl (lv_at hl 1 rfl) ?_
  refine lv_iconst (v := (1 : Int32)) S.1 S.2.1 dL_seen_197 (by decide) ?_
  refine s_iadd (v := (nI (b + 1))) S dL_seen_198 (nI_add b 1) ?_
  refine lv_iconst (v := (1 : Int32)) S.1 S.2.1 dL_seen_199 (by decide) ?_
  refine lv_iload S.1 S.2.1 dL_seen_200 (lv_at hl 0 rfl) ?_
  refine s_iadd (v := (nI (1 + j))) S dL_seen_202 (nI_add 1 j) ?_
  refine s_read (As := [.int (nI (b + 1)), .int (nI (1 + j))]) (rest := [.int (I (23 + j) ((k - 1 - b) % 32))]) S hX G (r_scope_c l E j (b + 1) k hj hk (by omega) hb2) (cwV (bytes := cX8_scope) (maxL := 4) (ret := (some .int)) 2 S.2.2.2.2 gL_seen_X8_scope rfl rfl rfl (by decide +kernel) ⟨Nat.le_of_ble_eq_true rfl, Nat.le_of_ble_eq_true rfl⟩) rfl hl.1 rfl (Nat.le_of_ble_eq_true rfl) hf dL_seen_203 (fun H locs G => ?_)
  refine s_isub (v := ((I (23 + j) ((k - 1 - b) % 32)) - (I (23 + j) ((k - 1 - (b + 1)) % 32)))) S dL_seen_206 rfl ?_
  refine lv_istore (lv' := [(5, .int ((I (23 + j) ((k - 1 - b) % 32)) - (I (23 + j) ((k - 1 - (b + 1)) % 32)))), (4, .int (nI j)), (3, .int (nI b)), (2, .int (1 : Int32)), (1, .int (nI D)), (0, .ref (E.2.2.2 0))]) S.1 S.2.1 dL_seen_207 hl (by decide) rfl (fun ls hl => ?_)
  refine lv_aload_n S.1 S.2.1 dL_seen_209 rfl (lv_at hl 5 rfl) ?_
  refine lv_iload S.1 S.2.1 dL_seen_210 (lv_at hl 1 rfl) ?_
  refine lv_iconst (v := (0 : Int32)) S.1 S.2.1 dL_seen_212 (by decide) ?_
  refine s_read (As := [.int (nI j), .int (0 : Int32)]) (rest := []) S hX G (by have q := r_load_0 l E (I := I) (L := L) j hj; rw [e0] at q; exact q) (cwV (bytes := cX8_load) (maxL := 4) (ret := (some .int)) 2 S.2.2.2.2 gL_seen_X8_load rfl rfl rfl (by decide +kernel) ⟨Nat.le_of_ble_eq_true rfl, Nat.le_of_ble_eq_true rfl⟩) rfl hl.1 rfl (Nat.le_of_ble_eq_true rfl) hf dL_seen_213 (fun H locs G => ?_)
  refine lv_aload_n S.1 S.2.1 dL_seen_216 rfl (lv_at hl 5 rfl) ?_
  refine lv_iload S.1 S.2.1 dL_seen_217 (lv_at hl 1 rfl) ?_
  refine lv_iconst (v := (1 : Int32)) S.1 S.2.1 dL_seen_219 (by decide) ?_
  refine s_read (As := [.int (nI j), .int (1 : Int32)]) (rest := [.int (nI s0)]) S hX G (by have q := r_load_1 l E (I := I) (L := L) j hj; rw [e1] at q; exact q) (cwV (bytes := cX8_load) (maxL := 4) (ret := (some .int)) 2 S.2.2.2.2 gL_seen_X8_load rfl rfl rfl (by decide +kernel) ⟨Nat.le_of_ble_eq_true rfl, Nat.le_of_ble_eq_true rfl⟩) rfl hl.1 rfl (Nat.le_of_ble_eq_true rfl) hf dL_seen_220 (fun H locs G => ?_)
  refine s_iadd (v := (nI (s0 + s1))) S dL_seen_223 (nI_add s0 s1) ?_
  refine lv_istore (lv' := [(6, .int (nI (s0 + s1))), (5, .int ((I (23 + j) ((k - 1 - b) % 32)) - (I (23 + j) ((k - 1 - (b + 1)) % 32)))), (4, .int (nI j)), (3, .int (nI b)), (2, .int (1 : Int32)), (1, .int (nI D)), (0, .ref (E.2.2.2 0))]) S.1 S.2.1 dL_seen_224 hl (by decide) rfl (fun ls hl => ?_)
  refine lv_iload_n S.1 S.2.1 dL_seen_226 rfl (lv_at hl 4 rfl) ?_
  refine lv_if_eq (tgt := 249) S.1 S.2.1 dL_seen_227 (by decide) (fun h => absurd h (by decide)) (fun _ => ?_)
  refine lv_iload S.1 S.2.1 dL_seen_230 (lv_at hl 1 rfl) ?_
  refine lv_iload S.1 S.2.1 dL_seen_232 (lv_at hl 0 rfl) ?_
  refine lv_icmp_gt (tgt := 249) S.1 S.2.1 dL_seen_234 (by decide) (fun h => absurd h hd1) (fun _ => ?_)
  refine lv_iload S.1 S.2.1 dL_seen_237 (lv_at hl 1 rfl) ?_
  refine lv_iload S.1 S.2.1 dL_seen_239 (lv_at hl 0 rfl) ?_
  refine lv_ineg S.1 S.2.1 dL_seen_241 ?_
  refine lv_icmp_lt (tgt := 249) S.1 S.2.1 dL_seen_242 (by decide) (fun h => absurd h hd2) (fun _ => ?_)
  refine lv_iconst (v := (1 : Int32)) S.1 S.2.1 dL_seen_245 (by decide) ?_
  refine lv_goto (tgt := 250) S.1 S.2.1 dL_seen_246 (by decide) ?_
  refine lv_istore_n (lv' := [(2, .int (1 : Int32)), (6, .int (nI (s0 + s1))), (5, .int ((I (23 + j) ((k - 1 - b) % 32)) - (I (23 + j) ((k - 1 - (b + 1)) % 32)))), (4, .int (nI j)), (3, .int (nI b)), (1, .int (nI D)), (0, .ref (E.2.2.2 0))]) S.1 S.2.1 dL_seen_250 rfl hl (by decide) rfl (fun ls hl => ?_)
  refine lv_iinc (v := (nI (j + 1))) (lv' := [(4, .int (nI (j + 1))), (2, .int (1 : Int32)), (6, .int (nI (s0 + s1))), (5, .int ((I (23 + j) ((k - 1 - b) % 32)) - (I (23 + j) ((k - 1 - (b + 1)) % 32)))), (3, .int (nI b)), (1, .int (nI D)), (0, .ref (E.2.2.2 0))]) S.1 S.2.1 dL_seen_251 hl (k := 3) rfl (nI_1 j) (by decide) rfl (fun ls hl => ?_)
  refine lv_goto (tgt := 180) S.1 S.2.1 dL_seen_254 (by decide) ?_
  exact kk _ _ _ G (lv_sub hl [0, 4, 1, 5, 6] rfl)
