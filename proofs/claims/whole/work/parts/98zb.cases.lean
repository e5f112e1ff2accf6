theorem roomL : room_1.frames = 9 ∧ room_1.cells = 600000 ∧ room_1.slots = 7302250 ∧ room_1.locals = 318 := ⟨rfl, rfl, rfl, rfl⟩
/-- what the law's walk stands on -/
def LW (p : Program) (s : State) (m : MethodId) (meth : Method) (c : Code) (b Lx : Nat) (xs : Nat → Int32) (E : Ev) : Prop := CallFix p m c code 4 s #[Value.ref b] wsL_law RL ∧ FX E s ∧ va_X b Lx xs s s.heap ∧ b < s.heap.size ∧ ¬ e_A E b ∧ Lx ≤ 2048
theorem lw_ix {a k Lx : Nat} (h : a + 4 ≤ Lx) (hk : k < 4) (hL : Lx ≤ 2048) : vp_in (nI (a + k)) Lx := vp_in_nI (by omega) (by omega)
theorem lg_cmp_self (x : Int64) : lg_cmp x x = 0 := by simp [lg_cmp]
set_option maxRecDepth 100000 in
set_option maxHeartbeats 4000000 in
theorem lc_set {p : Program} {l : Launch} {e : Env} {s : State} {m : MethodId} {below : List Frame} {meth : Method} {c : Code} {b Lx a : Nat} {xs : Nat → Int32} {E : Ev} {I : SI} {L : SL} {H : Heap} {locs : List Loc} {cells slots : Nat} {Q : State → Prop} {ls : Array Slot} (hLW : LW p s m meth c b Lx xs E) (G : GS E I L s H locs) (hRel : Rel I L) (ha : a + 4 ≤ Lx) (hl : lv_has ls 4 [(3, .int (nI a)), (2, .ref (E.2.2.2 161)), (1, .ref (E.2.2.2 0)), (0, .ref b)]) (hf : cells ≤ room_1.cells ∧ slots ≤ room_1.slots) (kk : ∀ (I2 : SI) (L2 : SL) (H2 : Heap) (locs2 : List Loc), GS E I2 L2 s H2 locs2 → Rel I2 L2 → W p l e room_1 s m #[Value.ref b] below meth c H2 locs2 cells slots Q (F0 m 642 ls [])) : W p l e room_1 s m #[Value.ref b] below meth c H locs cells slots Q (F0 m 124 ls []) := by
  obtain ⟨S, hX, hXs, hbl, hbA, hL2⟩ := hLW
  have S : CallFix p m c code 4 s #[Value.ref b] wsL_law RL := S
  refine lv_aload_n S.1 S.2.1 dL_law_124 rfl (lv_at hl 2 rfl) ?_
  refine lv_aload_n S.1 S.2.1 dL_law_125 rfl (lv_at hl 3 rfl) ?_
  refine lv_iload_n S.1 S.2.1 dL_law_126 rfl (lv_at hl 0 rfl) ?_
  refine lv_iconst (v := (1 : Int32)) S.1 S.2.1 dL_law_127 (by decide) ?_
  refine s_iadd (v := nI (a + 1)) S dL_law_128 (nI_add a 1) ?_
  refine va_sld S.1 S.2.1 hXs hbl hbA G.2 (lw_ix ha (by decide) hL2) dL_law_129 ?_
  refine lv_aload_n S.1 S.2.1 dL_law_130 rfl (lv_at hl 3 rfl) ?_
  refine lv_iload_n S.1 S.2.1 dL_law_131 rfl (lv_at hl 0 rfl) ?_
  refine lv_iconst (v := (2 : Int32)) S.1 S.2.1 dL_law_132 (by decide) ?_
  refine s_iadd (v := nI (a + 2)) S dL_law_133 (nI_add a 2) ?_
  refine va_sld S.1 S.2.1 hXs hbl hbA G.2 (lw_ix ha (by decide) hL2) dL_law_134 ?_
  obtain ⟨rm1, ⟨r1, r2, r3, r4⟩, hM⟩ := P_set (l := l) (E := E) hRel (xs (nI (a + 1)).toNatClampNeg) (xs (nI (a + 2)).toNatClampNeg)
  refine s_callV (C := RX8) (As := [.int (xs (nI (a + 1)).toNatClampNeg), .int (xs (nI (a + 2)).toNatClampNeg)]) (rest := []) (i := 0) (kd := 8) S hX G hM (cwV (bytes := cX8_set) (maxL := 3) (ret := (some .int)) 2 S.2.2.2.2 gL_law_X8_set rfl r1 r2 (by decide +kernel) ⟨by rw [roomL.1]; omega, by rw [roomL.2.2.2]; omega⟩) (rfl : sh 0 = 8) rfl rfl rfl (by decide) rfl hl.1 rfl (Nat.le_of_ble_eq_true rfl) hf dL_law_135 (fun v I1 L1 H locs hR G => ?_)
  obtain ⟨x, hv, rm2, ⟨q1, q2, q3, q4⟩, hM2⟩ := hR
  subst hv
  refine W.eq (g2 := F0 m 138 ls [.int x]) rfl ?_
  refine lv_aload_n S.1 S.2.1 dL_law_138 rfl (lv_at hl 1 rfl) ?_
  refine lv_aload_n S.1 S.2.1 dL_law_139 rfl (lv_at hl 3 rfl) ?_
  refine lv_iload_n S.1 S.2.1 dL_law_140 rfl (lv_at hl 0 rfl) ?_
  refine lv_iconst (v := (1 : Int32)) S.1 S.2.1 dL_law_141 (by decide) ?_
  refine s_iadd (v := nI (a + 1)) S dL_law_142 (nI_add a 1) ?_
  refine va_sld S.1 S.2.1 hXs hbl hbA G.2 (lw_ix ha (by decide) hL2) dL_law_143 ?_
  refine lv_aload_n S.1 S.2.1 dL_law_144 rfl (lv_at hl 3 rfl) ?_
  refine lv_iload_n S.1 S.2.1 dL_law_145 rfl (lv_at hl 0 rfl) ?_
  refine lv_iconst (v := (2 : Int32)) S.1 S.2.1 dL_law_146 (by decide) ?_
  refine s_iadd (v := nI (a + 2)) S dL_law_147 (nI_add a 2) ?_
  refine va_sld S.1 S.2.1 hXs hbl hbA G.2 (lw_ix ha (by decide) hL2) dL_law_148 ?_
  refine s_callV (C := RX9) (As := [.int (xs (nI (a + 1)).toNatClampNeg), .int (xs (nI (a + 2)).toNatClampNeg)]) (rest := [.int x]) (i := 161) (kd := 9) S hX G hM2 (cwV (bytes := cX9_set) (maxL := 4) (ret := (some .int)) 2 S.2.2.2.2 gL_law_X9_set rfl q1 q2 (by decide +kernel) ⟨by rw [roomL.1]; omega, by rw [roomL.2.2.2]; omega⟩) (rfl : sh 161 = 9) rfl rfl rfl (by decide) rfl hl.1 rfl (Nat.le_of_ble_eq_true rfl) hf dL_law_149 (fun v2 I2 L2 H locs hR2 G => ?_)
  obtain ⟨hv2, hRel2⟩ := hR2
  subst hv2
  refine W.eq (g2 := F0 m 152 ls [.int x, .int x]) rfl ?_
  refine lv_icmp_eq (tgt := 642) S.1 S.2.1 dL_law_152 (by decide) (fun _ => ?_) (fun h => absurd rfl h)
  exact kk I2 L2 H locs G hRel2
set_option maxRecDepth 100000 in
set_option maxHeartbeats 4000000 in
theorem lc_setLoad {p : Program} {l : Launch} {e : Env} {s : State} {m : MethodId} {below : List Frame} {meth : Method} {c : Code} {b Lx a : Nat} {xs : Nat → Int32} {E : Ev} {I : SI} {L : SL} {H : Heap} {locs : List Loc} {cells slots : Nat} {Q : State → Prop} {ls : Array Slot} (hLW : LW p s m meth c b Lx xs E) (G : GS E I L s H locs) (hRel : Rel I L) (ha : a + 4 ≤ Lx) (hl : lv_has ls 4 [(3, .int (nI a)), (2, .ref (E.2.2.2 161)), (1, .ref (E.2.2.2 0)), (0, .ref b)]) (hf : cells ≤ room_1.cells ∧ slots ≤ room_1.slots) (kk : ∀ (I2 : SI) (L2 : SL) (H2 : Heap) (locs2 : List Loc), GS E I2 L2 s H2 locs2 → Rel I2 L2 → W p l e room_1 s m #[Value.ref b] below meth c H2 locs2 cells slots Q (F0 m 642 ls [])) : W p l e room_1 s m #[Value.ref b] below meth c H locs cells slots Q (F0 m 157 ls []) := by
  obtain ⟨S, hX, hXs, hbl, hbA, hL2⟩ := hLW
  have S : CallFix p m c code 4 s #[Value.ref b] wsL_law RL := S
  refine lv_aload_n S.1 S.2.1 dL_law_157 rfl (lv_at hl 2 rfl) ?_
  refine lv_aload_n S.1 S.2.1 dL_law_158 rfl (lv_at hl 3 rfl) ?_
  refine lv_iload_n S.1 S.2.1 dL_law_159 rfl (lv_at hl 0 rfl) ?_
  refine lv_iconst (v := (1 : Int32)) S.1 S.2.1 dL_law_160 (by decide) ?_
  refine s_iadd (v := nI (a + 1)) S dL_law_161 (nI_add a 1) ?_
  refine va_sld S.1 S.2.1 hXs hbl hbA G.2 (lw_ix ha (by decide) hL2) dL_law_162 ?_
  refine lv_aload_n S.1 S.2.1 dL_law_163 rfl (lv_at hl 3 rfl) ?_
  refine lv_iload_n S.1 S.2.1 dL_law_164 rfl (lv_at hl 0 rfl) ?_
  refine lv_iconst (v := (2 : Int32)) S.1 S.2.1 dL_law_165 (by decide) ?_
  refine s_iadd (v := nI (a + 2)) S dL_law_166 (nI_add a 2) ?_
  refine va_sld S.1 S.2.1 hXs hbl hbA G.2 (lw_ix ha (by decide) hL2) dL_law_167 ?_
  refine lv_aload_n S.1 S.2.1 dL_law_168 rfl (lv_at hl 3 rfl) ?_
  refine lv_iload_n S.1 S.2.1 dL_law_169 rfl (lv_at hl 0 rfl) ?_
  refine lv_iconst (v := (3 : Int32)) S.1 S.2.1 dL_law_170 (by decide) ?_
  refine s_iadd (v := nI (a + 3)) S dL_law_171 (nI_add a 3) ?_
  refine va_sld S.1 S.2.1 hXs hbl hbA G.2 (lw_ix ha (by decide) hL2) dL_law_172 ?_
  obtain ⟨rm1, ⟨r1, r2, r3, r4⟩, hM⟩ := P_setLoad (l := l) (E := E) hRel (xs (nI (a + 1)).toNatClampNeg) (xs (nI (a + 2)).toNatClampNeg) (xs (nI (a + 3)).toNatClampNeg)
  refine s_callV (C := RX8) (As := [.int (xs (nI (a + 1)).toNatClampNeg), .int (xs (nI (a + 2)).toNatClampNeg), .int (xs (nI (a + 3)).toNatClampNeg)]) (rest := []) (i := 0) (kd := 8) S hX G hM (cwV (bytes := cX8_setLoad) (maxL := 4) (ret := (some .int)) 3 S.2.2.2.2 gL_law_X8_setLoad rfl r1 r2 (by decide +kernel) ⟨by rw [roomL.1]; omega, by rw [roomL.2.2.2]; omega⟩) (rfl : sh 0 = 8) rfl rfl rfl (by decide) rfl hl.1 rfl (Nat.le_of_ble_eq_true rfl) hf dL_law_173 (fun v I1 L1 H locs hR G => ?_)
  obtain ⟨x, hv, rm2, ⟨q1, q2, q3, q4⟩, hM2⟩ := hR
  subst hv
  refine W.eq (g2 := F0 m 176 ls [.int x]) rfl ?_
  refine lv_aload_n S.1 S.2.1 dL_law_176 rfl (lv_at hl 1 rfl) ?_
  refine lv_aload_n S.1 S.2.1 dL_law_177 rfl (lv_at hl 3 rfl) ?_
  refine lv_iload_n S.1 S.2.1 dL_law_178 rfl (lv_at hl 0 rfl) ?_
  refine lv_iconst (v := (1 : Int32)) S.1 S.2.1 dL_law_179 (by decide) ?_
  refine s_iadd (v := nI (a + 1)) S dL_law_180 (nI_add a 1) ?_
  refine va_sld S.1 S.2.1 hXs hbl hbA G.2 (lw_ix ha (by decide) hL2) dL_law_181 ?_
  refine lv_aload_n S.1 S.2.1 dL_law_182 rfl (lv_at hl 3 rfl) ?_
  refine lv_iload_n S.1 S.2.1 dL_law_183 rfl (lv_at hl 0 rfl) ?_
  refine lv_iconst (v := (2 : Int32)) S.1 S.2.1 dL_law_184 (by decide) ?_
  refine s_iadd (v := nI (a + 2)) S dL_law_185 (nI_add a 2) ?_
  refine va_sld S.1 S.2.1 hXs hbl hbA G.2 (lw_ix ha (by decide) hL2) dL_law_186 ?_
  refine lv_aload_n S.1 S.2.1 dL_law_187 rfl (lv_at hl 3 rfl) ?_
  refine lv_iload_n S.1 S.2.1 dL_law_188 rfl (lv_at hl 0 rfl) ?_
  refine lv_iconst (v := (3 : Int32)) S.1 S.2.1 dL_law_189 (by decide) ?_
  refine s_iadd (v := nI (a + 3)) S dL_law_190 (nI_add a 3) ?_
  refine va_sld S.1 S.2.1 hXs hbl hbA G.2 (lw_ix ha (by decide) hL2) dL_law_191 ?_
  refine s_callV (C := RX9) (As := [.int (xs (nI (a + 1)).toNatClampNeg), .int (xs (nI (a + 2)).toNatClampNeg), .int (xs (nI (a + 3)).toNatClampNeg)]) (rest := [.int x]) (i := 161) (kd := 9) S hX G hM2 (cwV (bytes := cX9_setLoad) (maxL := 5) (ret := (some .int)) 3 S.2.2.2.2 gL_law_X9_setLoad rfl q1 q2 (by decide +kernel) ⟨by rw [roomL.1]; omega, by rw [roomL.2.2.2]; omega⟩) (rfl : sh 161 = 9) rfl rfl rfl (by decide) rfl hl.1 rfl (Nat.le_of_ble_eq_true rfl) hf dL_law_192 (fun v2 I2 L2 H locs hR2 G => ?_)
  obtain ⟨hv2, hRel2⟩ := hR2
  subst hv2
  refine W.eq (g2 := F0 m 195 ls [.int x, .int x]) rfl ?_
  refine lv_icmp_eq (tgt := 642) S.1 S.2.1 dL_law_195 (by decide) (fun _ => ?_) (fun h => absurd rfl h)
  exact kk I2 L2 H locs G hRel2
set_option maxRecDepth 100000 in
set_option maxHeartbeats 4000000 in
theorem lc_command {p : Program} {l : Launch} {e : Env} {s : State} {m : MethodId} {below : List Frame} {meth : Method} {c : Code} {b Lx a : Nat} {xs : Nat → Int32} {E : Ev} {I : SI} {L : SL} {H : Heap} {locs : List Loc} {cells slots : Nat} {Q : State → Prop} {ls : Array Slot} (hLW : LW p s m meth c b Lx xs E) (G : GS E I L s H locs) (hRel : Rel I L) (ha : a + 4 ≤ Lx) (hl : lv_has ls 4 [(3, .int (nI a)), (2, .ref (E.2.2.2 161)), (1, .ref (E.2.2.2 0)), (0, .ref b)]) (hf : cells ≤ room_1.cells ∧ slots ≤ room_1.slots) (kk : ∀ (I2 : SI) (L2 : SL) (H2 : Heap) (locs2 : List Loc), GS E I2 L2 s H2 locs2 → Rel I2 L2 → W p l e room_1 s m #[Value.ref b] below meth c H2 locs2 cells slots Q (F0 m 642 ls [])) : W p l e room_1 s m #[Value.ref b] below meth c H locs cells slots Q (F0 m 200 ls []) := by
  obtain ⟨S, hX, hXs, hbl, hbA, hL2⟩ := hLW
  have S : CallFix p m c code 4 s #[Value.ref b] wsL_law RL := S
  refine lv_aload_n S.1 S.2.1 dL_law_200 rfl (lv_at hl 2 rfl) ?_
  refine lv_aload_n S.1 S.2.1 dL_law_201 rfl (lv_at hl 3 rfl) ?_
  refine lv_iload_n S.1 S.2.1 dL_law_202 rfl (lv_at hl 0 rfl) ?_
  refine lv_iconst (v := (1 : Int32)) S.1 S.2.1 dL_law_203 (by decide) ?_
  refine s_iadd (v := nI (a + 1)) S dL_law_204 (nI_add a 1) ?_
  refine va_sld S.1 S.2.1 hXs hbl hbA G.2 (lw_ix ha (by decide) hL2) dL_law_205 ?_
  refine lv_aload_n S.1 S.2.1 dL_law_206 rfl (lv_at hl 3 rfl) ?_
  refine lv_iload_n S.1 S.2.1 dL_law_207 rfl (lv_at hl 0 rfl) ?_
  refine lv_iconst (v := (2 : Int32)) S.1 S.2.1 dL_law_208 (by decide) ?_
  refine s_iadd (v := nI (a + 2)) S dL_law_209 (nI_add a 2) ?_
  refine va_sld S.1 S.2.1 hXs hbl hbA G.2 (lw_ix ha (by decide) hL2) dL_law_210 ?_
  obtain ⟨rm1, ⟨r1, r2, r3, r4⟩, hM⟩ := P_command (l := l) (E := E) hRel (xs (nI (a + 1)).toNatClampNeg) (xs (nI (a + 2)).toNatClampNeg)
  refine s_callV (C := RX8) (As := [.int (xs (nI (a + 1)).toNatClampNeg), .int (xs (nI (a + 2)).toNatClampNeg)]) (rest := []) (i := 0) (kd := 8) S hX G hM (cwV (bytes := cX8_command) (maxL := 5) (ret := (some .int)) 2 S.2.2.2.2 gL_law_X8_command rfl r1 r2 (by decide +kernel) ⟨by rw [roomL.1]; omega, by rw [roomL.2.2.2]; omega⟩) (rfl : sh 0 = 8) rfl rfl rfl (by decide) rfl hl.1 rfl (Nat.le_of_ble_eq_true rfl) hf dL_law_211 (fun v I1 L1 H locs hR G => ?_)
  obtain ⟨x, hv, rm2, ⟨q1, q2, q3, q4⟩, hM2⟩ := hR
  subst hv
  refine W.eq (g2 := F0 m 214 ls [.int x]) rfl ?_
  refine lv_aload_n S.1 S.2.1 dL_law_214 rfl (lv_at hl 1 rfl) ?_
  refine lv_aload_n S.1 S.2.1 dL_law_215 rfl (lv_at hl 3 rfl) ?_
  refine lv_iload_n S.1 S.2.1 dL_law_216 rfl (lv_at hl 0 rfl) ?_
  refine lv_iconst (v := (1 : Int32)) S.1 S.2.1 dL_law_217 (by decide) ?_
  refine s_iadd (v := nI (a + 1)) S dL_law_218 (nI_add a 1) ?_
  refine va_sld S.1 S.2.1 hXs hbl hbA G.2 (lw_ix ha (by decide) hL2) dL_law_219 ?_
  refine lv_aload_n S.1 S.2.1 dL_law_220 rfl (lv_at hl 3 rfl) ?_
  refine lv_iload_n S.1 S.2.1 dL_law_221 rfl (lv_at hl 0 rfl) ?_
  refine lv_iconst (v := (2 : Int32)) S.1 S.2.1 dL_law_222 (by decide) ?_
  refine s_iadd (v := nI (a + 2)) S dL_law_223 (nI_add a 2) ?_
  refine va_sld S.1 S.2.1 hXs hbl hbA G.2 (lw_ix ha (by decide) hL2) dL_law_224 ?_
  refine s_callV (C := RX9) (As := [.int (xs (nI (a + 1)).toNatClampNeg), .int (xs (nI (a + 2)).toNatClampNeg)]) (rest := [.int x]) (i := 161) (kd := 9) S hX G hM2 (cwV (bytes := cX9_command) (maxL := 4) (ret := (some .int)) 2 S.2.2.2.2 gL_law_X9_command rfl q1 q2 (by decide +kernel) ⟨by rw [roomL.1]; omega, by rw [roomL.2.2.2]; omega⟩) (rfl : sh 161 = 9) rfl rfl rfl (by decide) rfl hl.1 rfl (Nat.le_of_ble_eq_true rfl) hf dL_law_225 (fun v2 I2 L2 H locs hR2 G => ?_)
  obtain ⟨hv2, hRel2⟩ := hR2
  subst hv2
  refine W.eq (g2 := F0 m 228 ls [.int x, .int x]) rfl ?_
  refine lv_icmp_eq (tgt := 642) S.1 S.2.1 dL_law_228 (by decide) (fun _ => ?_) (fun h => absurd rfl h)
  exact kk I2 L2 H locs G hRel2
set_option maxRecDepth 100000 in
set_option maxHeartbeats 4000000 in
theorem lc_chop {p : Program} {l : Launch} {e : Env} {s : State} {m : MethodId} {below : List Frame} {meth : Method} {c : Code} {b Lx a : Nat} {xs : Nat → Int32} {E : Ev} {I : SI} {L : SL} {H : Heap} {locs : List Loc} {cells slots : Nat} {Q : State → Prop} {ls : Array Slot} (hLW : LW p s m meth c b Lx xs E) (G : GS E I L s H locs) (hRel : Rel I L) (ha : a + 4 ≤ Lx) (hl : lv_has ls 4 [(3, .int (nI a)), (2, .ref (E.2.2.2 161)), (1, .ref (E.2.2.2 0)), (0, .ref b)]) (hf : cells ≤ room_1.cells ∧ slots ≤ room_1.slots) (kk : ∀ (I2 : SI) (L2 : SL) (H2 : Heap) (locs2 : List Loc), GS E I2 L2 s H2 locs2 → Rel I2 L2 → W p l e room_1 s m #[Value.ref b] below meth c H2 locs2 cells slots Q (F0 m 642 ls [])) : W p l e room_1 s m #[Value.ref b] below meth c H locs cells slots Q (F0 m 233 ls []) := by
  obtain ⟨S, hX, hXs, hbl, hbA, hL2⟩ := hLW
  have S : CallFix p m c code 4 s #[Value.ref b] wsL_law RL := S
  refine lv_aload_n S.1 S.2.1 dL_law_233 rfl (lv_at hl 2 rfl) ?_
  refine lv_aload_n S.1 S.2.1 dL_law_234 rfl (lv_at hl 3 rfl) ?_
  refine lv_iload_n S.1 S.2.1 dL_law_235 rfl (lv_at hl 0 rfl) ?_
  refine lv_iconst (v := (1 : Int32)) S.1 S.2.1 dL_law_236 (by decide) ?_
  refine s_iadd (v := nI (a + 1)) S dL_law_237 (nI_add a 1) ?_
  refine va_sld S.1 S.2.1 hXs hbl hbA G.2 (lw_ix ha (by decide) hL2) dL_law_238 ?_
  refine lv_aload_n S.1 S.2.1 dL_law_239 rfl (lv_at hl 3 rfl) ?_
  refine lv_iload_n S.1 S.2.1 dL_law_240 rfl (lv_at hl 0 rfl) ?_
  refine lv_iconst (v := (2 : Int32)) S.1 S.2.1 dL_law_241 (by decide) ?_
  refine s_iadd (v := nI (a + 2)) S dL_law_242 (nI_add a 2) ?_
  refine va_sld S.1 S.2.1 hXs hbl hbA G.2 (lw_ix ha (by decide) hL2) dL_law_243 ?_
  obtain ⟨rm1, ⟨r1, r2, r3, r4⟩, hM⟩ := P_chop (l := l) (E := E) hRel (xs (nI (a + 1)).toNatClampNeg) (xs (nI (a + 2)).toNatClampNeg)
  refine s_callV (C := RX8) (As := [.int (xs (nI (a + 1)).toNatClampNeg), .int (xs (nI (a + 2)).toNatClampNeg)]) (rest := []) (i := 0) (kd := 8) S hX G hM (cwV (bytes := cX8_chop) (maxL := 3) (ret := (some .int)) 2 S.2.2.2.2 gL_law_X8_chop rfl r1 r2 (by decide +kernel) ⟨by rw [roomL.1]; omega, by rw [roomL.2.2.2]; omega⟩) (rfl : sh 0 = 8) rfl rfl rfl (by decide) rfl hl.1 rfl (Nat.le_of_ble_eq_true rfl) hf dL_law_244 (fun v I1 L1 H locs hR G => ?_)
  obtain ⟨x, hv, rm2, ⟨q1, q2, q3, q4⟩, hM2⟩ := hR
  subst hv
  refine W.eq (g2 := F0 m 247 ls [.int x]) rfl ?_
  refine lv_aload_n S.1 S.2.1 dL_law_247 rfl (lv_at hl 1 rfl) ?_
  refine lv_aload_n S.1 S.2.1 dL_law_248 rfl (lv_at hl 3 rfl) ?_
  refine lv_iload_n S.1 S.2.1 dL_law_249 rfl (lv_at hl 0 rfl) ?_
  refine lv_iconst (v := (1 : Int32)) S.1 S.2.1 dL_law_250 (by decide) ?_
  refine s_iadd (v := nI (a + 1)) S dL_law_251 (nI_add a 1) ?_
  refine va_sld S.1 S.2.1 hXs hbl hbA G.2 (lw_ix ha (by decide) hL2) dL_law_252 ?_
  refine lv_aload_n S.1 S.2.1 dL_law_253 rfl (lv_at hl 3 rfl) ?_
  refine lv_iload_n S.1 S.2.1 dL_law_254 rfl (lv_at hl 0 rfl) ?_
  refine lv_iconst (v := (2 : Int32)) S.1 S.2.1 dL_law_255 (by decide) ?_
  refine s_iadd (v := nI (a + 2)) S dL_law_256 (nI_add a 2) ?_
  refine va_sld S.1 S.2.1 hXs hbl hbA G.2 (lw_ix ha (by decide) hL2) dL_law_257 ?_
  refine s_callV (C := RX9) (As := [.int (xs (nI (a + 1)).toNatClampNeg), .int (xs (nI (a + 2)).toNatClampNeg)]) (rest := [.int x]) (i := 161) (kd := 9) S hX G hM2 (cwV (bytes := cX9_chop) (maxL := 4) (ret := (some .int)) 2 S.2.2.2.2 gL_law_X9_chop rfl q1 q2 (by decide +kernel) ⟨by rw [roomL.1]; omega, by rw [roomL.2.2.2]; omega⟩) (rfl : sh 161 = 9) rfl rfl rfl (by decide) rfl hl.1 rfl (Nat.le_of_ble_eq_true rfl) hf dL_law_258 (fun v2 I2 L2 H locs hR2 G => ?_)
  obtain ⟨hv2, hRel2⟩ := hR2
  subst hv2
  refine W.eq (g2 := F0 m 261 ls [.int x, .int x]) rfl ?_
  refine lv_icmp_eq (tgt := 642) S.1 S.2.1 dL_law_261 (by decide) (fun _ => ?_) (fun h => absurd rfl h)
  exact kk I2 L2 H locs G hRel2
set_option maxRecDepth 100000 in
set_option maxHeartbeats 4000000 in
theorem lc_go {p : Program} {l : Launch} {e : Env} {s : State} {m : MethodId} {below : List Frame} {meth : Method} {c : Code} {b Lx a : Nat} {xs : Nat → Int32} {E : Ev} {I : SI} {L : SL} {H : Heap} {locs : List Loc} {cells slots : Nat} {Q : State → Prop} {ls : Array Slot} (hLW : LW p s m meth c b Lx xs E) (G : GS E I L s H locs) (hRel : Rel I L) (ha : a + 4 ≤ Lx) (hl : lv_has ls 4 [(3, .int (nI a)), (2, .ref (E.2.2.2 161)), (1, .ref (E.2.2.2 0)), (0, .ref b)]) (hf : cells ≤ room_1.cells ∧ slots ≤ room_1.slots) (kk : ∀ (I2 : SI) (L2 : SL) (H2 : Heap) (locs2 : List Loc), GS E I2 L2 s H2 locs2 → Rel I2 L2 → W p l e room_1 s m #[Value.ref b] below meth c H2 locs2 cells slots Q (F0 m 642 ls [])) : W p l e room_1 s m #[Value.ref b] below meth c H locs cells slots Q (F0 m 266 ls []) := by
  obtain ⟨S, hX, hXs, hbl, hbA, hL2⟩ := hLW
  have S : CallFix p m c code 4 s #[Value.ref b] wsL_law RL := S
  refine lv_aload_n S.1 S.2.1 dL_law_266 rfl (lv_at hl 2 rfl) ?_
  refine lv_aload_n S.1 S.2.1 dL_law_267 rfl (lv_at hl 3 rfl) ?_
  refine lv_iload_n S.1 S.2.1 dL_law_268 rfl (lv_at hl 0 rfl) ?_
  refine lv_iconst (v := (1 : Int32)) S.1 S.2.1 dL_law_269 (by decide) ?_
  refine s_iadd (v := nI (a + 1)) S dL_law_270 (nI_add a 1) ?_
  refine va_sld S.1 S.2.1 hXs hbl hbA G.2 (lw_ix ha (by decide) hL2) dL_law_271 ?_
  obtain ⟨rm1, ⟨r1, r2, r3, r4⟩, hM⟩ := P_go (l := l) (E := E) hRel (xs (nI (a + 1)).toNatClampNeg)
  refine s_callV (C := RX8) (As := [.int (xs (nI (a + 1)).toNatClampNeg)]) (rest := []) (i := 0) (kd := 8) S hX G hM (cwV (bytes := cX8_go) (maxL := 2) (ret := (some .int)) 1 S.2.2.2.2 gL_law_X8_go rfl r1 r2 (by decide +kernel) ⟨by rw [roomL.1]; omega, by rw [roomL.2.2.2]; omega⟩) (rfl : sh 0 = 8) rfl rfl rfl (by decide) rfl hl.1 rfl (Nat.le_of_ble_eq_true rfl) hf dL_law_272 (fun v I1 L1 H locs hR G => ?_)
  obtain ⟨x, hv, rm2, ⟨q1, q2, q3, q4⟩, hM2⟩ := hR
  subst hv
  refine W.eq (g2 := F0 m 275 ls [.int x]) rfl ?_
  refine lv_aload_n S.1 S.2.1 dL_law_275 rfl (lv_at hl 1 rfl) ?_
  refine lv_aload_n S.1 S.2.1 dL_law_276 rfl (lv_at hl 3 rfl) ?_
  refine lv_iload_n S.1 S.2.1 dL_law_277 rfl (lv_at hl 0 rfl) ?_
  refine lv_iconst (v := (1 : Int32)) S.1 S.2.1 dL_law_278 (by decide) ?_
  refine s_iadd (v := nI (a + 1)) S dL_law_279 (nI_add a 1) ?_
  refine va_sld S.1 S.2.1 hXs hbl hbA G.2 (lw_ix ha (by decide) hL2) dL_law_280 ?_
  refine s_callV (C := RX9) (As := [.int (xs (nI (a + 1)).toNatClampNeg)]) (rest := [.int x]) (i := 161) (kd := 9) S hX G hM2 (cwV (bytes := cX9_go) (maxL := 4) (ret := (some .int)) 1 S.2.2.2.2 gL_law_X9_go rfl q1 q2 (by decide +kernel) ⟨by rw [roomL.1]; omega, by rw [roomL.2.2.2]; omega⟩) (rfl : sh 161 = 9) rfl rfl rfl (by decide) rfl hl.1 rfl (Nat.le_of_ble_eq_true rfl) hf dL_law_281 (fun v2 I2 L2 H locs hR2 G => ?_)
  obtain ⟨hv2, hRel2⟩ := hR2
  subst hv2
  refine W.eq (g2 := F0 m 284 ls [.int x, .int x]) rfl ?_
  refine lv_icmp_eq (tgt := 642) S.1 S.2.1 dL_law_284 (by decide) (fun _ => ?_) (fun h => absurd rfl h)
  exact kk I2 L2 H locs G hRel2
set_option maxRecDepth 100000 in
set_option maxHeartbeats 4000000 in
theorem lc_clear {p : Program} {l : Launch} {e : Env} {s : State} {m : MethodId} {below : List Frame} {meth : Method} {c : Code} {b Lx a : Nat} {xs : Nat → Int32} {E : Ev} {I : SI} {L : SL} {H : Heap} {locs : List Loc} {cells slots : Nat} {Q : State → Prop} {ls : Array Slot} (hLW : LW p s m meth c b Lx xs E) (G : GS E I L s H locs) (hRel : Rel I L) (ha : a + 4 ≤ Lx) (hl : lv_has ls 4 [(3, .int (nI a)), (2, .ref (E.2.2.2 161)), (1, .ref (E.2.2.2 0)), (0, .ref b)]) (hf : cells ≤ room_1.cells ∧ slots ≤ room_1.slots) (kk : ∀ (I2 : SI) (L2 : SL) (H2 : Heap) (locs2 : List Loc), GS E I2 L2 s H2 locs2 → Rel I2 L2 → W p l e room_1 s m #[Value.ref b] below meth c H2 locs2 cells slots Q (F0 m 642 ls [])) : W p l e room_1 s m #[Value.ref b] below meth c H locs cells slots Q (F0 m 289 ls []) := by
  obtain ⟨S, hX, hXs, hbl, hbA, hL2⟩ := hLW
  have S : CallFix p m c code 4 s #[Value.ref b] wsL_law RL := S
  refine lv_aload_n S.1 S.2.1 dL_law_289 rfl (lv_at hl 2 rfl) ?_
  refine lv_aload_n S.1 S.2.1 dL_law_290 rfl (lv_at hl 3 rfl) ?_
  refine lv_iload_n S.1 S.2.1 dL_law_291 rfl (lv_at hl 0 rfl) ?_
  refine lv_iconst (v := (1 : Int32)) S.1 S.2.1 dL_law_292 (by decide) ?_
  refine s_iadd (v := nI (a + 1)) S dL_law_293 (nI_add a 1) ?_
  refine va_sld S.1 S.2.1 hXs hbl hbA G.2 (lw_ix ha (by decide) hL2) dL_law_294 ?_
  refine lv_aload_n S.1 S.2.1 dL_law_295 rfl (lv_at hl 3 rfl) ?_
  refine lv_iload_n S.1 S.2.1 dL_law_296 rfl (lv_at hl 0 rfl) ?_
  refine lv_iconst (v := (2 : Int32)) S.1 S.2.1 dL_law_297 (by decide) ?_
  refine s_iadd (v := nI (a + 2)) S dL_law_298 (nI_add a 2) ?_
  refine va_sld S.1 S.2.1 hXs hbl hbA G.2 (lw_ix ha (by decide) hL2) dL_law_299 ?_
  obtain ⟨rm1, ⟨r1, r2, r3, r4⟩, hM⟩ := P_clear (l := l) (E := E) hRel (xs (nI (a + 1)).toNatClampNeg) (xs (nI (a + 2)).toNatClampNeg)
  refine s_callV (C := RX8) (As := [.int (xs (nI (a + 1)).toNatClampNeg), .int (xs (nI (a + 2)).toNatClampNeg)]) (rest := []) (i := 0) (kd := 8) S hX G hM (cwV (bytes := cX8_clear) (maxL := 4) (ret := (some .int)) 2 S.2.2.2.2 gL_law_X8_clear rfl r1 r2 (by decide +kernel) ⟨by rw [roomL.1]; omega, by rw [roomL.2.2.2]; omega⟩) (rfl : sh 0 = 8) rfl rfl rfl (by decide) rfl hl.1 rfl (Nat.le_of_ble_eq_true rfl) hf dL_law_300 (fun v I1 L1 H locs hR G => ?_)
  obtain ⟨x, hv, rm2, ⟨q1, q2, q3, q4⟩, hM2⟩ := hR
  subst hv
  refine W.eq (g2 := F0 m 303 ls [.int x]) rfl ?_
  refine lv_aload_n S.1 S.2.1 dL_law_303 rfl (lv_at hl 1 rfl) ?_
  refine lv_aload_n S.1 S.2.1 dL_law_304 rfl (lv_at hl 3 rfl) ?_
  refine lv_iload_n S.1 S.2.1 dL_law_305 rfl (lv_at hl 0 rfl) ?_
  refine lv_iconst (v := (1 : Int32)) S.1 S.2.1 dL_law_306 (by decide) ?_
  refine s_iadd (v := nI (a + 1)) S dL_law_307 (nI_add a 1) ?_
  refine va_sld S.1 S.2.1 hXs hbl hbA G.2 (lw_ix ha (by decide) hL2) dL_law_308 ?_
  refine lv_aload_n S.1 S.2.1 dL_law_309 rfl (lv_at hl 3 rfl) ?_
  refine lv_iload_n S.1 S.2.1 dL_law_310 rfl (lv_at hl 0 rfl) ?_
  refine lv_iconst (v := (2 : Int32)) S.1 S.2.1 dL_law_311 (by decide) ?_
  refine s_iadd (v := nI (a + 2)) S dL_law_312 (nI_add a 2) ?_
  refine va_sld S.1 S.2.1 hXs hbl hbA G.2 (lw_ix ha (by decide) hL2) dL_law_313 ?_
  refine s_callV (C := RX9) (As := [.int (xs (nI (a + 1)).toNatClampNeg), .int (xs (nI (a + 2)).toNatClampNeg)]) (rest := [.int x]) (i := 161) (kd := 9) S hX G hM2 (cwV (bytes := cX9_clear) (maxL := 3) (ret := (some .int)) 2 S.2.2.2.2 gL_law_X9_clear rfl q1 q2 (by decide +kernel) ⟨by rw [roomL.1]; omega, by rw [roomL.2.2.2]; omega⟩) (rfl : sh 161 = 9) rfl rfl rfl (by decide) rfl hl.1 rfl (Nat.le_of_ble_eq_true rfl) hf dL_law_314 (fun v2 I2 L2 H locs hR2 G => ?_)
  obtain ⟨hv2, hRel2⟩ := hR2
  subst hv2
  refine W.eq (g2 := F0 m 317 ls [.int x, .int x]) rfl ?_
  refine lv_icmp_eq (tgt := 642) S.1 S.2.1 dL_law_317 (by decide) (fun _ => ?_) (fun h => absurd rfl h)
  exact kk I2 L2 H locs G hRel2
set_option maxRecDepth 100000 in
set_option maxHeartbeats 4000000 in
theorem lc_undo {p : Program} {l : Launch} {e : Env} {s : State} {m : MethodId} {below : List Frame} {meth : Method} {c : Code} {b Lx a : Nat} {xs : Nat → Int32} {E : Ev} {I : SI} {L : SL} {H : Heap} {locs : List Loc} {cells slots : Nat} {Q : State → Prop} {ls : Array Slot} (hLW : LW p s m meth c b Lx xs E) (G : GS E I L s H locs) (hRel : Rel I L) (ha : a + 4 ≤ Lx) (hl : lv_has ls 4 [(3, .int (nI a)), (2, .ref (E.2.2.2 161)), (1, .ref (E.2.2.2 0)), (0, .ref b)]) (hf : cells ≤ room_1.cells ∧ slots ≤ room_1.slots) (kk : ∀ (I2 : SI) (L2 : SL) (H2 : Heap) (locs2 : List Loc), GS E I2 L2 s H2 locs2 → Rel I2 L2 → W p l e room_1 s m #[Value.ref b] below meth c H2 locs2 cells slots Q (F0 m 642 ls [])) : W p l e room_1 s m #[Value.ref b] below meth c H locs cells slots Q (F0 m 322 ls []) := by
  obtain ⟨S, hX, hXs, hbl, hbA, hL2⟩ := hLW
  have S : CallFix p m c code 4 s #[Value.ref b] wsL_law RL := S
  refine lv_aload_n S.1 S.2.1 dL_law_322 rfl (lv_at hl 2 rfl) ?_
  obtain ⟨rm1, ⟨r1, r2, r3, r4⟩, hM⟩ := P_undo (l := l) (E := E) hRel 
  refine s_callV (C := RX8) (As := []) (rest := []) (i := 0) (kd := 8) S hX G hM (cwV (bytes := cX8_undo) (maxL := 1) (ret := (some .int)) 0 S.2.2.2.2 gL_law_X8_undo rfl r1 r2 (by decide +kernel) ⟨by rw [roomL.1]; omega, by rw [roomL.2.2.2]; omega⟩) (rfl : sh 0 = 8) rfl rfl rfl (by decide) rfl hl.1 rfl (Nat.le_of_ble_eq_true rfl) hf dL_law_323 (fun v I1 L1 H locs hR G => ?_)
  obtain ⟨x, hv, rm2, ⟨q1, q2, q3, q4⟩, hM2⟩ := hR
  subst hv
  refine W.eq (g2 := F0 m 326 ls [.int x]) rfl ?_
  refine lv_aload_n S.1 S.2.1 dL_law_326 rfl (lv_at hl 1 rfl) ?_
  refine s_callV (C := RX9) (As := []) (rest := [.int x]) (i := 161) (kd := 9) S hX G hM2 (cwV (bytes := cX9_undo) (maxL := 2) (ret := (some .int)) 0 S.2.2.2.2 gL_law_X9_undo rfl q1 q2 (by decide +kernel) ⟨by rw [roomL.1]; omega, by rw [roomL.2.2.2]; omega⟩) (rfl : sh 161 = 9) rfl rfl rfl (by decide) rfl hl.1 rfl (Nat.le_of_ble_eq_true rfl) hf dL_law_327 (fun v2 I2 L2 H locs hR2 G => ?_)
  obtain ⟨hv2, hRel2⟩ := hR2
  subst hv2
  refine W.eq (g2 := F0 m 330 ls [.int x, .int x]) rfl ?_
  refine lv_icmp_eq (tgt := 642) S.1 S.2.1 dL_law_330 (by decide) (fun _ => ?_) (fun h => absurd rfl h)
  exact kk I2 L2 H locs G hRel2
set_option maxRecDepth 100000 in
set_option maxHeartbeats 4000000 in
theorem lc_count {p : Program} {l : Launch} {e : Env} {s : State} {m : MethodId} {below : List Frame} {meth : Method} {c : Code} {b Lx a : Nat} {xs : Nat → Int32} {E : Ev} {I : SI} {L : SL} {H : Heap} {locs : List Loc} {cells slots : Nat} {Q : State → Prop} {ls : Array Slot} (hLW : LW p s m meth c b Lx xs E) (G : GS E I L s H locs) (hRel : Rel I L) (ha : a + 4 ≤ Lx) (hl : lv_has ls 4 [(3, .int (nI a)), (2, .ref (E.2.2.2 161)), (1, .ref (E.2.2.2 0)), (0, .ref b)]) (hf : cells ≤ room_1.cells ∧ slots ≤ room_1.slots) (kk : ∀ (I2 : SI) (L2 : SL) (H2 : Heap) (locs2 : List Loc), GS E I2 L2 s H2 locs2 → Rel I2 L2 → W p l e room_1 s m #[Value.ref b] below meth c H2 locs2 cells slots Q (F0 m 642 ls [])) : W p l e room_1 s m #[Value.ref b] below meth c H locs cells slots Q (F0 m 335 ls []) := by
  obtain ⟨S, hX, hXs, hbl, hbA, hL2⟩ := hLW
  have S : CallFix p m c code 4 s #[Value.ref b] wsL_law RL := S
  refine lv_aload_n S.1 S.2.1 dL_law_335 rfl (lv_at hl 2 rfl) ?_
  refine lv_aload_n S.1 S.2.1 dL_law_336 rfl (lv_at hl 3 rfl) ?_
  refine lv_iload_n S.1 S.2.1 dL_law_337 rfl (lv_at hl 0 rfl) ?_
  refine lv_iconst (v := (1 : Int32)) S.1 S.2.1 dL_law_338 (by decide) ?_
  refine s_iadd (v := nI (a + 1)) S dL_law_339 (nI_add a 1) ?_
  refine va_sld S.1 S.2.1 hXs hbl hbA G.2 (lw_ix ha (by decide) hL2) dL_law_340 ?_
  obtain ⟨rm1, ⟨r1, r2, r3, r4⟩, hM⟩ := P_count (l := l) (E := E) hRel (xs (nI (a + 1)).toNatClampNeg)
  refine s_callV (C := RX8) (As := [.int (xs (nI (a + 1)).toNatClampNeg)]) (rest := []) (i := 0) (kd := 8) S hX G hM (cwV (bytes := cX8_count) (maxL := 2) (ret := (some .long)) 1 S.2.2.2.2 gL_law_X8_count rfl r1 r2 (by decide +kernel) ⟨by rw [roomL.1]; omega, by rw [roomL.2.2.2]; omega⟩) (rfl : sh 0 = 8) rfl rfl rfl (by decide) rfl hl.1 rfl (Nat.le_of_ble_eq_true rfl) hf dL_law_341 (fun v I1 L1 H locs hR G => ?_)
  obtain ⟨x, hv, rm2, ⟨q1, q2, q3, q4⟩, hM2⟩ := hR
  subst hv
  refine W.eq (g2 := F0 m 344 ls [.long x]) rfl ?_
  refine lv_aload_n S.1 S.2.1 dL_law_344 rfl (lv_at hl 1 rfl) ?_
  refine lv_aload_n S.1 S.2.1 dL_law_345 rfl (lv_at hl 3 rfl) ?_
  refine lv_iload_n S.1 S.2.1 dL_law_346 rfl (lv_at hl 0 rfl) ?_
  refine lv_iconst (v := (1 : Int32)) S.1 S.2.1 dL_law_347 (by decide) ?_
  refine s_iadd (v := nI (a + 1)) S dL_law_348 (nI_add a 1) ?_
  refine va_sld S.1 S.2.1 hXs hbl hbA G.2 (lw_ix ha (by decide) hL2) dL_law_349 ?_
  refine s_callV (C := RX9) (As := [.int (xs (nI (a + 1)).toNatClampNeg)]) (rest := [.long x]) (i := 161) (kd := 9) S hX G hM2 (cwV (bytes := cX9_count) (maxL := 2) (ret := (some .long)) 1 S.2.2.2.2 gL_law_X9_count rfl q1 q2 (by decide +kernel) ⟨by rw [roomL.1]; omega, by rw [roomL.2.2.2]; omega⟩) (rfl : sh 161 = 9) rfl rfl rfl (by decide) rfl hl.1 rfl (Nat.le_of_ble_eq_true rfl) hf dL_law_350 (fun v2 I2 L2 H locs hR2 G => ?_)
  obtain ⟨hv2, hRel2⟩ := hR2
  subst hv2
  refine W.eq (g2 := F0 m 353 ls [.long x, .long x]) rfl ?_
  refine W.lcmp S.1 S.2.1 dL_law_353 ?_
  rw [lg_cmp_self]
  refine lv_if_eq (tgt := 642) S.1 S.2.1 dL_law_354 (by decide) (fun _ => ?_) (fun h => absurd rfl h)
  exact kk I2 L2 H locs G hRel2
set_option maxRecDepth 100000 in
set_option maxHeartbeats 4000000 in
theorem lc_leg {p : Program} {l : Launch} {e : Env} {s : State} {m : MethodId} {below : List Frame} {meth : Method} {c : Code} {b Lx a : Nat} {xs : Nat → Int32} {E : Ev} {I : SI} {L : SL} {H : Heap} {locs : List Loc} {cells slots : Nat} {Q : State → Prop} {ls : Array Slot} (hLW : LW p s m meth c b Lx xs E) (G : GS E I L s H locs) (hRel : Rel I L) (ha : a + 4 ≤ Lx) (hl : lv_has ls 4 [(3, .int (nI a)), (2, .ref (E.2.2.2 161)), (1, .ref (E.2.2.2 0)), (0, .ref b)]) (hf : cells ≤ room_1.cells ∧ slots ≤ room_1.slots) (kk : ∀ (I2 : SI) (L2 : SL) (H2 : Heap) (locs2 : List Loc), GS E I2 L2 s H2 locs2 → Rel I2 L2 → W p l e room_1 s m #[Value.ref b] below meth c H2 locs2 cells slots Q (F0 m 642 ls [])) : W p l e room_1 s m #[Value.ref b] below meth c H locs cells slots Q (F0 m 359 ls []) := by
  obtain ⟨S, hX, hXs, hbl, hbA, hL2⟩ := hLW
  have S : CallFix p m c code 4 s #[Value.ref b] wsL_law RL := S
  refine lv_aload_n S.1 S.2.1 dL_law_359 rfl (lv_at hl 2 rfl) ?_
  refine lv_aload_n S.1 S.2.1 dL_law_360 rfl (lv_at hl 3 rfl) ?_
  refine lv_iload_n S.1 S.2.1 dL_law_361 rfl (lv_at hl 0 rfl) ?_
  refine lv_iconst (v := (1 : Int32)) S.1 S.2.1 dL_law_362 (by decide) ?_
  refine s_iadd (v := nI (a + 1)) S dL_law_363 (nI_add a 1) ?_
  refine va_sld S.1 S.2.1 hXs hbl hbA G.2 (lw_ix ha (by decide) hL2) dL_law_364 ?_
  refine lv_aload_n S.1 S.2.1 dL_law_365 rfl (lv_at hl 3 rfl) ?_
  refine lv_iload_n S.1 S.2.1 dL_law_366 rfl (lv_at hl 0 rfl) ?_
  refine lv_iconst (v := (2 : Int32)) S.1 S.2.1 dL_law_367 (by decide) ?_
  refine s_iadd (v := nI (a + 2)) S dL_law_368 (nI_add a 2) ?_
  refine va_sld S.1 S.2.1 hXs hbl hbA G.2 (lw_ix ha (by decide) hL2) dL_law_369 ?_
  obtain ⟨rm1, ⟨r1, r2, r3, r4⟩, hM⟩ := P_leg (l := l) (E := E) hRel (xs (nI (a + 1)).toNatClampNeg) (xs (nI (a + 2)).toNatClampNeg)
  refine s_callV (C := RX8) (As := [.int (xs (nI (a + 1)).toNatClampNeg), .int (xs (nI (a + 2)).toNatClampNeg)]) (rest := []) (i := 0) (kd := 8) S hX G hM (cwV (bytes := cX8_leg) (maxL := 4) (ret := (some .int)) 2 S.2.2.2.2 gL_law_X8_leg rfl r1 r2 (by decide +kernel) ⟨by rw [roomL.1]; omega, by rw [roomL.2.2.2]; omega⟩) (rfl : sh 0 = 8) rfl rfl rfl (by decide) rfl hl.1 rfl (Nat.le_of_ble_eq_true rfl) hf dL_law_370 (fun v I1 L1 H locs hR G => ?_)
  obtain ⟨x, hv, rm2, ⟨q1, q2, q3, q4⟩, hM2⟩ := hR
  subst hv
  refine W.eq (g2 := F0 m 373 ls [.int x]) rfl ?_
  refine lv_aload_n S.1 S.2.1 dL_law_373 rfl (lv_at hl 1 rfl) ?_
  refine lv_aload_n S.1 S.2.1 dL_law_374 rfl (lv_at hl 3 rfl) ?_
  refine lv_iload_n S.1 S.2.1 dL_law_375 rfl (lv_at hl 0 rfl) ?_
  refine lv_iconst (v := (1 : Int32)) S.1 S.2.1 dL_law_376 (by decide) ?_
  refine s_iadd (v := nI (a + 1)) S dL_law_377 (nI_add a 1) ?_
  refine va_sld S.1 S.2.1 hXs hbl hbA G.2 (lw_ix ha (by decide) hL2) dL_law_378 ?_
  refine lv_aload_n S.1 S.2.1 dL_law_379 rfl (lv_at hl 3 rfl) ?_
  refine lv_iload_n S.1 S.2.1 dL_law_380 rfl (lv_at hl 0 rfl) ?_
  refine lv_iconst (v := (2 : Int32)) S.1 S.2.1 dL_law_381 (by decide) ?_
  refine s_iadd (v := nI (a + 2)) S dL_law_382 (nI_add a 2) ?_
  refine va_sld S.1 S.2.1 hXs hbl hbA G.2 (lw_ix ha (by decide) hL2) dL_law_383 ?_
  refine s_callV (C := RX9) (As := [.int (xs (nI (a + 1)).toNatClampNeg), .int (xs (nI (a + 2)).toNatClampNeg)]) (rest := [.int x]) (i := 161) (kd := 9) S hX G hM2 (cwV (bytes := cX9_leg) (maxL := 4) (ret := (some .int)) 2 S.2.2.2.2 gL_law_X9_leg rfl q1 q2 (by decide +kernel) ⟨by rw [roomL.1]; omega, by rw [roomL.2.2.2]; omega⟩) (rfl : sh 161 = 9) rfl rfl rfl (by decide) rfl hl.1 rfl (Nat.le_of_ble_eq_true rfl) hf dL_law_384 (fun v2 I2 L2 H locs hR2 G => ?_)
  obtain ⟨hv2, hRel2⟩ := hR2
  subst hv2
  refine W.eq (g2 := F0 m 387 ls [.int x, .int x]) rfl ?_
  refine lv_icmp_eq (tgt := 642) S.1 S.2.1 dL_law_387 (by decide) (fun _ => ?_) (fun h => absurd rfl h)
  exact kk I2 L2 H locs G hRel2
set_option maxRecDepth 100000 in
set_option maxHeartbeats 4000000 in
theorem lc_load {p : Program} {l : Launch} {e : Env} {s : State} {m : MethodId} {below : List Frame} {meth : Method} {c : Code} {b Lx a : Nat} {xs : Nat → Int32} {E : Ev} {I : SI} {L : SL} {H : Heap} {locs : List Loc} {cells slots : Nat} {Q : State → Prop} {ls : Array Slot} (hLW : LW p s m meth c b Lx xs E) (G : GS E I L s H locs) (hRel : Rel I L) (ha : a + 4 ≤ Lx) (hl : lv_has ls 4 [(3, .int (nI a)), (2, .ref (E.2.2.2 161)), (1, .ref (E.2.2.2 0)), (0, .ref b)]) (hf : cells ≤ room_1.cells ∧ slots ≤ room_1.slots) (kk : ∀ (I2 : SI) (L2 : SL) (H2 : Heap) (locs2 : List Loc), GS E I2 L2 s H2 locs2 → Rel I2 L2 → W p l e room_1 s m #[Value.ref b] below meth c H2 locs2 cells slots Q (F0 m 642 ls [])) : W p l e room_1 s m #[Value.ref b] below meth c H locs cells slots Q (F0 m 392 ls []) := by
  obtain ⟨S, hX, hXs, hbl, hbA, hL2⟩ := hLW
  have S : CallFix p m c code 4 s #[Value.ref b] wsL_law RL := S
  refine lv_aload_n S.1 S.2.1 dL_law_392 rfl (lv_at hl 2 rfl) ?_
  refine lv_aload_n S.1 S.2.1 dL_law_393 rfl (lv_at hl 3 rfl) ?_
  refine lv_iload_n S.1 S.2.1 dL_law_394 rfl (lv_at hl 0 rfl) ?_
  refine lv_iconst (v := (1 : Int32)) S.1 S.2.1 dL_law_395 (by decide) ?_
  refine s_iadd (v := nI (a + 1)) S dL_law_396 (nI_add a 1) ?_
  refine va_sld S.1 S.2.1 hXs hbl hbA G.2 (lw_ix ha (by decide) hL2) dL_law_397 ?_
  refine lv_aload_n S.1 S.2.1 dL_law_398 rfl (lv_at hl 3 rfl) ?_
  refine lv_iload_n S.1 S.2.1 dL_law_399 rfl (lv_at hl 0 rfl) ?_
  refine lv_iconst (v := (2 : Int32)) S.1 S.2.1 dL_law_400 (by decide) ?_
  refine s_iadd (v := nI (a + 2)) S dL_law_401 (nI_add a 2) ?_
  refine va_sld S.1 S.2.1 hXs hbl hbA G.2 (lw_ix ha (by decide) hL2) dL_law_402 ?_
  obtain ⟨rm1, ⟨r1, r2, r3, r4⟩, hM⟩ := P_load (l := l) (E := E) hRel (xs (nI (a + 1)).toNatClampNeg) (xs (nI (a + 2)).toNatClampNeg)
  refine s_callV (C := RX8) (As := [.int (xs (nI (a + 1)).toNatClampNeg), .int (xs (nI (a + 2)).toNatClampNeg)]) (rest := []) (i := 0) (kd := 8) S hX G hM (cwV (bytes := cX8_load) (maxL := 4) (ret := (some .int)) 2 S.2.2.2.2 gL_law_X8_load rfl r1 r2 (by decide +kernel) ⟨by rw [roomL.1]; omega, by rw [roomL.2.2.2]; omega⟩) (rfl : sh 0 = 8) rfl rfl rfl (by decide) rfl hl.1 rfl (Nat.le_of_ble_eq_true rfl) hf dL_law_403 (fun v I1 L1 H locs hR G => ?_)
  obtain ⟨x, hv, rm2, ⟨q1, q2, q3, q4⟩, hM2⟩ := hR
  subst hv
  refine W.eq (g2 := F0 m 406 ls [.int x]) rfl ?_
  refine lv_aload_n S.1 S.2.1 dL_law_406 rfl (lv_at hl 1 rfl) ?_
  refine lv_aload_n S.1 S.2.1 dL_law_407 rfl (lv_at hl 3 rfl) ?_
  refine lv_iload_n S.1 S.2.1 dL_law_408 rfl (lv_at hl 0 rfl) ?_
  refine lv_iconst (v := (1 : Int32)) S.1 S.2.1 dL_law_409 (by decide) ?_
  refine s_iadd (v := nI (a + 1)) S dL_law_410 (nI_add a 1) ?_
  refine va_sld S.1 S.2.1 hXs hbl hbA G.2 (lw_ix ha (by decide) hL2) dL_law_411 ?_
  refine lv_aload_n S.1 S.2.1 dL_law_412 rfl (lv_at hl 3 rfl) ?_
  refine lv_iload_n S.1 S.2.1 dL_law_413 rfl (lv_at hl 0 rfl) ?_
  refine lv_iconst (v := (2 : Int32)) S.1 S.2.1 dL_law_414 (by decide) ?_
  refine s_iadd (v := nI (a + 2)) S dL_law_415 (nI_add a 2) ?_
  refine va_sld S.1 S.2.1 hXs hbl hbA G.2 (lw_ix ha (by decide) hL2) dL_law_416 ?_
  refine s_callV (C := RX9) (As := [.int (xs (nI (a + 1)).toNatClampNeg), .int (xs (nI (a + 2)).toNatClampNeg)]) (rest := [.int x]) (i := 161) (kd := 9) S hX G hM2 (cwV (bytes := cX9_load) (maxL := 4) (ret := (some .int)) 2 S.2.2.2.2 gL_law_X9_load rfl q1 q2 (by decide +kernel) ⟨by rw [roomL.1]; omega, by rw [roomL.2.2.2]; omega⟩) (rfl : sh 161 = 9) rfl rfl rfl (by decide) rfl hl.1 rfl (Nat.le_of_ble_eq_true rfl) hf dL_law_417 (fun v2 I2 L2 H locs hR2 G => ?_)
  obtain ⟨hv2, hRel2⟩ := hR2
  subst hv2
  refine W.eq (g2 := F0 m 420 ls [.int x, .int x]) rfl ?_
  refine lv_icmp_eq (tgt := 642) S.1 S.2.1 dL_law_420 (by decide) (fun _ => ?_) (fun h => absurd rfl h)
  exact kk I2 L2 H locs G hRel2
set_option maxRecDepth 100000 in
set_option maxHeartbeats 4000000 in
theorem lc_fault {p : Program} {l : Launch} {e : Env} {s : State} {m : MethodId} {below : List Frame} {meth : Method} {c : Code} {b Lx a : Nat} {xs : Nat → Int32} {E : Ev} {I : SI} {L : SL} {H : Heap} {locs : List Loc} {cells slots : Nat} {Q : State → Prop} {ls : Array Slot} (hLW : LW p s m meth c b Lx xs E) (G : GS E I L s H locs) (hRel : Rel I L) (ha : a + 4 ≤ Lx) (hl : lv_has ls 4 [(3, .int (nI a)), (2, .ref (E.2.2.2 161)), (1, .ref (E.2.2.2 0)), (0, .ref b)]) (hf : cells ≤ room_1.cells ∧ slots ≤ room_1.slots) (kk : ∀ (I2 : SI) (L2 : SL) (H2 : Heap) (locs2 : List Loc), GS E I2 L2 s H2 locs2 → Rel I2 L2 → W p l e room_1 s m #[Value.ref b] below meth c H2 locs2 cells slots Q (F0 m 642 ls [])) : W p l e room_1 s m #[Value.ref b] below meth c H locs cells slots Q (F0 m 425 ls []) := by
  obtain ⟨S, hX, hXs, hbl, hbA, hL2⟩ := hLW
  have S : CallFix p m c code 4 s #[Value.ref b] wsL_law RL := S
  refine lv_aload_n S.1 S.2.1 dL_law_425 rfl (lv_at hl 2 rfl) ?_
  refine lv_aload_n S.1 S.2.1 dL_law_426 rfl (lv_at hl 3 rfl) ?_
  refine lv_iload_n S.1 S.2.1 dL_law_427 rfl (lv_at hl 0 rfl) ?_
  refine lv_iconst (v := (1 : Int32)) S.1 S.2.1 dL_law_428 (by decide) ?_
  refine s_iadd (v := nI (a + 1)) S dL_law_429 (nI_add a 1) ?_
  refine va_sld S.1 S.2.1 hXs hbl hbA G.2 (lw_ix ha (by decide) hL2) dL_law_430 ?_
  refine lv_aload_n S.1 S.2.1 dL_law_431 rfl (lv_at hl 3 rfl) ?_
  refine lv_iload_n S.1 S.2.1 dL_law_432 rfl (lv_at hl 0 rfl) ?_
  refine lv_iconst (v := (2 : Int32)) S.1 S.2.1 dL_law_433 (by decide) ?_
  refine s_iadd (v := nI (a + 2)) S dL_law_434 (nI_add a 2) ?_
  refine va_sld S.1 S.2.1 hXs hbl hbA G.2 (lw_ix ha (by decide) hL2) dL_law_435 ?_
  refine lv_aload_n S.1 S.2.1 dL_law_436 rfl (lv_at hl 3 rfl) ?_
  refine lv_iload_n S.1 S.2.1 dL_law_437 rfl (lv_at hl 0 rfl) ?_
  refine lv_iconst (v := (3 : Int32)) S.1 S.2.1 dL_law_438 (by decide) ?_
  refine s_iadd (v := nI (a + 3)) S dL_law_439 (nI_add a 3) ?_
  refine va_sld S.1 S.2.1 hXs hbl hbA G.2 (lw_ix ha (by decide) hL2) dL_law_440 ?_
  obtain ⟨rm1, ⟨r1, r2, r3, r4⟩, hM⟩ := P_fault (l := l) (E := E) hRel (xs (nI (a + 1)).toNatClampNeg) (xs (nI (a + 2)).toNatClampNeg) (xs (nI (a + 3)).toNatClampNeg)
  refine s_callV (C := RX8) (As := [.int (xs (nI (a + 1)).toNatClampNeg), .int (xs (nI (a + 2)).toNatClampNeg), .int (xs (nI (a + 3)).toNatClampNeg)]) (rest := []) (i := 0) (kd := 8) S hX G hM (cwV (bytes := cX8_fault) (maxL := 6) (ret := (some .int)) 3 S.2.2.2.2 gL_law_X8_fault rfl r1 r2 (by decide +kernel) ⟨by rw [roomL.1]; omega, by rw [roomL.2.2.2]; omega⟩) (rfl : sh 0 = 8) rfl rfl rfl (by decide) rfl hl.1 rfl (Nat.le_of_ble_eq_true rfl) hf dL_law_441 (fun v I1 L1 H locs hR G => ?_)
  obtain ⟨x, hv, rm2, ⟨q1, q2, q3, q4⟩, hM2⟩ := hR
  subst hv
  refine W.eq (g2 := F0 m 444 ls [.int x]) rfl ?_
  refine lv_aload_n S.1 S.2.1 dL_law_444 rfl (lv_at hl 1 rfl) ?_
  refine lv_aload_n S.1 S.2.1 dL_law_445 rfl (lv_at hl 3 rfl) ?_
  refine lv_iload_n S.1 S.2.1 dL_law_446 rfl (lv_at hl 0 rfl) ?_
  refine lv_iconst (v := (1 : Int32)) S.1 S.2.1 dL_law_447 (by decide) ?_
  refine s_iadd (v := nI (a + 1)) S dL_law_448 (nI_add a 1) ?_
  refine va_sld S.1 S.2.1 hXs hbl hbA G.2 (lw_ix ha (by decide) hL2) dL_law_449 ?_
  refine lv_aload_n S.1 S.2.1 dL_law_450 rfl (lv_at hl 3 rfl) ?_
  refine lv_iload_n S.1 S.2.1 dL_law_451 rfl (lv_at hl 0 rfl) ?_
  refine lv_iconst (v := (2 : Int32)) S.1 S.2.1 dL_law_452 (by decide) ?_
  refine s_iadd (v := nI (a + 2)) S dL_law_453 (nI_add a 2) ?_
  refine va_sld S.1 S.2.1 hXs hbl hbA G.2 (lw_ix ha (by decide) hL2) dL_law_454 ?_
  refine lv_aload_n S.1 S.2.1 dL_law_455 rfl (lv_at hl 3 rfl) ?_
  refine lv_iload_n S.1 S.2.1 dL_law_456 rfl (lv_at hl 0 rfl) ?_
  refine lv_iconst (v := (3 : Int32)) S.1 S.2.1 dL_law_457 (by decide) ?_
  refine s_iadd (v := nI (a + 3)) S dL_law_458 (nI_add a 3) ?_
  refine va_sld S.1 S.2.1 hXs hbl hbA G.2 (lw_ix ha (by decide) hL2) dL_law_459 ?_
  refine s_callV (C := RX9) (As := [.int (xs (nI (a + 1)).toNatClampNeg), .int (xs (nI (a + 2)).toNatClampNeg), .int (xs (nI (a + 3)).toNatClampNeg)]) (rest := [.int x]) (i := 161) (kd := 9) S hX G hM2 (cwV (bytes := cX9_fault) (maxL := 4) (ret := (some .int)) 3 S.2.2.2.2 gL_law_X9_fault rfl q1 q2 (by decide +kernel) ⟨by rw [roomL.1]; omega, by rw [roomL.2.2.2]; omega⟩) (rfl : sh 161 = 9) rfl rfl rfl (by decide) rfl hl.1 rfl (Nat.le_of_ble_eq_true rfl) hf dL_law_460 (fun v2 I2 L2 H locs hR2 G => ?_)
  obtain ⟨hv2, hRel2⟩ := hR2
  subst hv2
  refine W.eq (g2 := F0 m 463 ls [.int x, .int x]) rfl ?_
  refine lv_icmp_eq (tgt := 642) S.1 S.2.1 dL_law_463 (by decide) (fun _ => ?_) (fun h => absurd rfl h)
  exact kk I2 L2 H locs G hRel2
set_option maxRecDepth 100000 in
set_option maxHeartbeats 4000000 in
theorem lc_scope {p : Program} {l : Launch} {e : Env} {s : State} {m : MethodId} {below : List Frame} {meth : Method} {c : Code} {b Lx a : Nat} {xs : Nat → Int32} {E : Ev} {I : SI} {L : SL} {H : Heap} {locs : List Loc} {cells slots : Nat} {Q : State → Prop} {ls : Array Slot} (hLW : LW p s m meth c b Lx xs E) (G : GS E I L s H locs) (hRel : Rel I L) (ha : a + 4 ≤ Lx) (hl : lv_has ls 4 [(3, .int (nI a)), (2, .ref (E.2.2.2 161)), (1, .ref (E.2.2.2 0)), (0, .ref b)]) (hf : cells ≤ room_1.cells ∧ slots ≤ room_1.slots) (kk : ∀ (I2 : SI) (L2 : SL) (H2 : Heap) (locs2 : List Loc), GS E I2 L2 s H2 locs2 → Rel I2 L2 → W p l e room_1 s m #[Value.ref b] below meth c H2 locs2 cells slots Q (F0 m 642 ls [])) : W p l e room_1 s m #[Value.ref b] below meth c H locs cells slots Q (F0 m 468 ls []) := by
  obtain ⟨S, hX, hXs, hbl, hbA, hL2⟩ := hLW
  have S : CallFix p m c code 4 s #[Value.ref b] wsL_law RL := S
  refine lv_aload_n S.1 S.2.1 dL_law_468 rfl (lv_at hl 2 rfl) ?_
  refine lv_aload_n S.1 S.2.1 dL_law_469 rfl (lv_at hl 3 rfl) ?_
  refine lv_iload_n S.1 S.2.1 dL_law_470 rfl (lv_at hl 0 rfl) ?_
  refine lv_iconst (v := (1 : Int32)) S.1 S.2.1 dL_law_471 (by decide) ?_
  refine s_iadd (v := nI (a + 1)) S dL_law_472 (nI_add a 1) ?_
  refine va_sld S.1 S.2.1 hXs hbl hbA G.2 (lw_ix ha (by decide) hL2) dL_law_473 ?_
  refine lv_aload_n S.1 S.2.1 dL_law_474 rfl (lv_at hl 3 rfl) ?_
  refine lv_iload_n S.1 S.2.1 dL_law_475 rfl (lv_at hl 0 rfl) ?_
  refine lv_iconst (v := (2 : Int32)) S.1 S.2.1 dL_law_476 (by decide) ?_
  refine s_iadd (v := nI (a + 2)) S dL_law_477 (nI_add a 2) ?_
  refine va_sld S.1 S.2.1 hXs hbl hbA G.2 (lw_ix ha (by decide) hL2) dL_law_478 ?_
  obtain ⟨rm1, ⟨r1, r2, r3, r4⟩, hM⟩ := P_scope (l := l) (E := E) hRel (xs (nI (a + 1)).toNatClampNeg) (xs (nI (a + 2)).toNatClampNeg)
  refine s_callV (C := RX8) (As := [.int (xs (nI (a + 1)).toNatClampNeg), .int (xs (nI (a + 2)).toNatClampNeg)]) (rest := []) (i := 0) (kd := 8) S hX G hM (cwV (bytes := cX8_scope) (maxL := 4) (ret := (some .int)) 2 S.2.2.2.2 gL_law_X8_scope rfl r1 r2 (by decide +kernel) ⟨by rw [roomL.1]; omega, by rw [roomL.2.2.2]; omega⟩) (rfl : sh 0 = 8) rfl rfl rfl (by decide) rfl hl.1 rfl (Nat.le_of_ble_eq_true rfl) hf dL_law_479 (fun v I1 L1 H locs hR G => ?_)
  obtain ⟨x, hv, rm2, ⟨q1, q2, q3, q4⟩, hM2⟩ := hR
  subst hv
  refine W.eq (g2 := F0 m 482 ls [.int x]) rfl ?_
  refine lv_aload_n S.1 S.2.1 dL_law_482 rfl (lv_at hl 1 rfl) ?_
  refine lv_aload_n S.1 S.2.1 dL_law_483 rfl (lv_at hl 3 rfl) ?_
  refine lv_iload_n S.1 S.2.1 dL_law_484 rfl (lv_at hl 0 rfl) ?_
  refine lv_iconst (v := (1 : Int32)) S.1 S.2.1 dL_law_485 (by decide) ?_
  refine s_iadd (v := nI (a + 1)) S dL_law_486 (nI_add a 1) ?_
  refine va_sld S.1 S.2.1 hXs hbl hbA G.2 (lw_ix ha (by decide) hL2) dL_law_487 ?_
  refine lv_aload_n S.1 S.2.1 dL_law_488 rfl (lv_at hl 3 rfl) ?_
  refine lv_iload_n S.1 S.2.1 dL_law_489 rfl (lv_at hl 0 rfl) ?_
  refine lv_iconst (v := (2 : Int32)) S.1 S.2.1 dL_law_490 (by decide) ?_
  refine s_iadd (v := nI (a + 2)) S dL_law_491 (nI_add a 2) ?_
  refine va_sld S.1 S.2.1 hXs hbl hbA G.2 (lw_ix ha (by decide) hL2) dL_law_492 ?_
  refine s_callV (C := RX9) (As := [.int (xs (nI (a + 1)).toNatClampNeg), .int (xs (nI (a + 2)).toNatClampNeg)]) (rest := [.int x]) (i := 161) (kd := 9) S hX G hM2 (cwV (bytes := cX9_scope) (maxL := 3) (ret := (some .int)) 2 S.2.2.2.2 gL_law_X9_scope rfl q1 q2 (by decide +kernel) ⟨by rw [roomL.1]; omega, by rw [roomL.2.2.2]; omega⟩) (rfl : sh 161 = 9) rfl rfl rfl (by decide) rfl hl.1 rfl (Nat.le_of_ble_eq_true rfl) hf dL_law_493 (fun v2 I2 L2 H locs hR2 G => ?_)
  obtain ⟨hv2, hRel2⟩ := hR2
  subst hv2
  refine W.eq (g2 := F0 m 496 ls [.int x, .int x]) rfl ?_
  refine lv_icmp_eq (tgt := 642) S.1 S.2.1 dL_law_496 (by decide) (fun _ => ?_) (fun h => absurd rfl h)
  exact kk I2 L2 H locs G hRel2
set_option maxRecDepth 100000 in
set_option maxHeartbeats 4000000 in
theorem lc_until {p : Program} {l : Launch} {e : Env} {s : State} {m : MethodId} {below : List Frame} {meth : Method} {c : Code} {b Lx a : Nat} {xs : Nat → Int32} {E : Ev} {I : SI} {L : SL} {H : Heap} {locs : List Loc} {cells slots : Nat} {Q : State → Prop} {ls : Array Slot} (hLW : LW p s m meth c b Lx xs E) (G : GS E I L s H locs) (hRel : Rel I L) (ha : a + 4 ≤ Lx) (hl : lv_has ls 4 [(3, .int (nI a)), (2, .ref (E.2.2.2 161)), (1, .ref (E.2.2.2 0)), (0, .ref b)]) (hf : cells ≤ room_1.cells ∧ slots ≤ room_1.slots) (kk : ∀ (I2 : SI) (L2 : SL) (H2 : Heap) (locs2 : List Loc), GS E I2 L2 s H2 locs2 → Rel I2 L2 → W p l e room_1 s m #[Value.ref b] below meth c H2 locs2 cells slots Q (F0 m 642 ls [])) : W p l e room_1 s m #[Value.ref b] below meth c H locs cells slots Q (F0 m 501 ls []) := by
  obtain ⟨S, hX, hXs, hbl, hbA, hL2⟩ := hLW
  have S : CallFix p m c code 4 s #[Value.ref b] wsL_law RL := S
  refine lv_aload_n S.1 S.2.1 dL_law_501 rfl (lv_at hl 2 rfl) ?_
  refine lv_aload_n S.1 S.2.1 dL_law_502 rfl (lv_at hl 3 rfl) ?_
  refine lv_iload_n S.1 S.2.1 dL_law_503 rfl (lv_at hl 0 rfl) ?_
  refine lv_iconst (v := (1 : Int32)) S.1 S.2.1 dL_law_504 (by decide) ?_
  refine s_iadd (v := nI (a + 1)) S dL_law_505 (nI_add a 1) ?_
  refine va_sld S.1 S.2.1 hXs hbl hbA G.2 (lw_ix ha (by decide) hL2) dL_law_506 ?_
  refine lv_aload_n S.1 S.2.1 dL_law_507 rfl (lv_at hl 3 rfl) ?_
  refine lv_iload_n S.1 S.2.1 dL_law_508 rfl (lv_at hl 0 rfl) ?_
  refine lv_iconst (v := (2 : Int32)) S.1 S.2.1 dL_law_509 (by decide) ?_
  refine s_iadd (v := nI (a + 2)) S dL_law_510 (nI_add a 2) ?_
  refine va_sld S.1 S.2.1 hXs hbl hbA G.2 (lw_ix ha (by decide) hL2) dL_law_511 ?_
  obtain ⟨rm1, ⟨r1, r2, r3, r4⟩, hM⟩ := P_until (l := l) (E := E) hRel (xs (nI (a + 1)).toNatClampNeg) (xs (nI (a + 2)).toNatClampNeg)
  refine s_callV (C := RX8) (As := [.int (xs (nI (a + 1)).toNatClampNeg), .int (xs (nI (a + 2)).toNatClampNeg)]) (rest := []) (i := 0) (kd := 8) S hX G hM (cwV (bytes := cX8_until) (maxL := 5) (ret := (some .int)) 2 S.2.2.2.2 gL_law_X8_until rfl r1 r2 (by decide +kernel) ⟨by rw [roomL.1]; omega, by rw [roomL.2.2.2]; omega⟩) (rfl : sh 0 = 8) rfl rfl rfl (by decide) rfl hl.1 rfl (Nat.le_of_ble_eq_true rfl) hf dL_law_512 (fun v I1 L1 H locs hR G => ?_)
  obtain ⟨x, hv, rm2, ⟨q1, q2, q3, q4⟩, hM2⟩ := hR
  subst hv
  refine W.eq (g2 := F0 m 515 ls [.int x]) rfl ?_
  refine lv_aload_n S.1 S.2.1 dL_law_515 rfl (lv_at hl 1 rfl) ?_
  refine lv_aload_n S.1 S.2.1 dL_law_516 rfl (lv_at hl 3 rfl) ?_
  refine lv_iload_n S.1 S.2.1 dL_law_517 rfl (lv_at hl 0 rfl) ?_
  refine lv_iconst (v := (1 : Int32)) S.1 S.2.1 dL_law_518 (by decide) ?_
  refine s_iadd (v := nI (a + 1)) S dL_law_519 (nI_add a 1) ?_
  refine va_sld S.1 S.2.1 hXs hbl hbA G.2 (lw_ix ha (by decide) hL2) dL_law_520 ?_
  refine lv_aload_n S.1 S.2.1 dL_law_521 rfl (lv_at hl 3 rfl) ?_
  refine lv_iload_n S.1 S.2.1 dL_law_522 rfl (lv_at hl 0 rfl) ?_
  refine lv_iconst (v := (2 : Int32)) S.1 S.2.1 dL_law_523 (by decide) ?_
  refine s_iadd (v := nI (a + 2)) S dL_law_524 (nI_add a 2) ?_
  refine va_sld S.1 S.2.1 hXs hbl hbA G.2 (lw_ix ha (by decide) hL2) dL_law_525 ?_
  refine s_callV (C := RX9) (As := [.int (xs (nI (a + 1)).toNatClampNeg), .int (xs (nI (a + 2)).toNatClampNeg)]) (rest := [.int x]) (i := 161) (kd := 9) S hX G hM2 (cwV (bytes := cX9_until) (maxL := 5) (ret := (some .int)) 2 S.2.2.2.2 gL_law_X9_until rfl q1 q2 (by decide +kernel) ⟨by rw [roomL.1]; omega, by rw [roomL.2.2.2]; omega⟩) (rfl : sh 161 = 9) rfl rfl rfl (by decide) rfl hl.1 rfl (Nat.le_of_ble_eq_true rfl) hf dL_law_526 (fun v2 I2 L2 H locs hR2 G => ?_)
  obtain ⟨hv2, hRel2⟩ := hR2
  subst hv2
  refine W.eq (g2 := F0 m 529 ls [.int x, .int x]) rfl ?_
  refine lv_icmp_eq (tgt := 642) S.1 S.2.1 dL_law_529 (by decide) (fun _ => ?_) (fun h => absurd rfl h)
  exact kk I2 L2 H locs G hRel2
set_option maxRecDepth 100000 in
set_option maxHeartbeats 4000000 in
theorem lc_ifGo {p : Program} {l : Launch} {e : Env} {s : State} {m : MethodId} {below : List Frame} {meth : Method} {c : Code} {b Lx a : Nat} {xs : Nat → Int32} {E : Ev} {I : SI} {L : SL} {H : Heap} {locs : List Loc} {cells slots : Nat} {Q : State → Prop} {ls : Array Slot} (hLW : LW p s m meth c b Lx xs E) (G : GS E I L s H locs) (hRel : Rel I L) (ha : a + 4 ≤ Lx) (hl : lv_has ls 4 [(3, .int (nI a)), (2, .ref (E.2.2.2 161)), (1, .ref (E.2.2.2 0)), (0, .ref b)]) (hf : cells ≤ room_1.cells ∧ slots ≤ room_1.slots) (kk : ∀ (I2 : SI) (L2 : SL) (H2 : Heap) (locs2 : List Loc), GS E I2 L2 s H2 locs2 → Rel I2 L2 → W p l e room_1 s m #[Value.ref b] below meth c H2 locs2 cells slots Q (F0 m 642 ls [])) : W p l e room_1 s m #[Value.ref b] below meth c H locs cells slots Q (F0 m 534 ls []) := by
  obtain ⟨S, hX, hXs, hbl, hbA, hL2⟩ := hLW
  have S : CallFix p m c code 4 s #[Value.ref b] wsL_law RL := S
  refine lv_aload_n S.1 S.2.1 dL_law_534 rfl (lv_at hl 2 rfl) ?_
  refine lv_aload_n S.1 S.2.1 dL_law_535 rfl (lv_at hl 3 rfl) ?_
  refine lv_iload_n S.1 S.2.1 dL_law_536 rfl (lv_at hl 0 rfl) ?_
  refine lv_iconst (v := (1 : Int32)) S.1 S.2.1 dL_law_537 (by decide) ?_
  refine s_iadd (v := nI (a + 1)) S dL_law_538 (nI_add a 1) ?_
  refine va_sld S.1 S.2.1 hXs hbl hbA G.2 (lw_ix ha (by decide) hL2) dL_law_539 ?_
  refine lv_aload_n S.1 S.2.1 dL_law_540 rfl (lv_at hl 3 rfl) ?_
  refine lv_iload_n S.1 S.2.1 dL_law_541 rfl (lv_at hl 0 rfl) ?_
  refine lv_iconst (v := (2 : Int32)) S.1 S.2.1 dL_law_542 (by decide) ?_
  refine s_iadd (v := nI (a + 2)) S dL_law_543 (nI_add a 2) ?_
  refine va_sld S.1 S.2.1 hXs hbl hbA G.2 (lw_ix ha (by decide) hL2) dL_law_544 ?_
  obtain ⟨rm1, ⟨r1, r2, r3, r4⟩, hM⟩ := P_ifGo (l := l) (E := E) hRel (xs (nI (a + 1)).toNatClampNeg) (xs (nI (a + 2)).toNatClampNeg)
  refine s_callV (C := RX8) (As := [.int (xs (nI (a + 1)).toNatClampNeg), .int (xs (nI (a + 2)).toNatClampNeg)]) (rest := []) (i := 0) (kd := 8) S hX G hM (cwV (bytes := cX8_ifGo) (maxL := 3) (ret := (some .int)) 2 S.2.2.2.2 gL_law_X8_ifGo rfl r1 r2 (by decide +kernel) ⟨by rw [roomL.1]; omega, by rw [roomL.2.2.2]; omega⟩) (rfl : sh 0 = 8) rfl rfl rfl (by decide) rfl hl.1 rfl (Nat.le_of_ble_eq_true rfl) hf dL_law_545 (fun v I1 L1 H locs hR G => ?_)
  obtain ⟨x, hv, rm2, ⟨q1, q2, q3, q4⟩, hM2⟩ := hR
  subst hv
  refine W.eq (g2 := F0 m 548 ls [.int x]) rfl ?_
  refine lv_aload_n S.1 S.2.1 dL_law_548 rfl (lv_at hl 1 rfl) ?_
  refine lv_aload_n S.1 S.2.1 dL_law_549 rfl (lv_at hl 3 rfl) ?_
  refine lv_iload_n S.1 S.2.1 dL_law_550 rfl (lv_at hl 0 rfl) ?_
  refine lv_iconst (v := (1 : Int32)) S.1 S.2.1 dL_law_551 (by decide) ?_
  refine s_iadd (v := nI (a + 1)) S dL_law_552 (nI_add a 1) ?_
  refine va_sld S.1 S.2.1 hXs hbl hbA G.2 (lw_ix ha (by decide) hL2) dL_law_553 ?_
  refine lv_aload_n S.1 S.2.1 dL_law_554 rfl (lv_at hl 3 rfl) ?_
  refine lv_iload_n S.1 S.2.1 dL_law_555 rfl (lv_at hl 0 rfl) ?_
  refine lv_iconst (v := (2 : Int32)) S.1 S.2.1 dL_law_556 (by decide) ?_
  refine s_iadd (v := nI (a + 2)) S dL_law_557 (nI_add a 2) ?_
  refine va_sld S.1 S.2.1 hXs hbl hbA G.2 (lw_ix ha (by decide) hL2) dL_law_558 ?_
  refine s_callV (C := RX9) (As := [.int (xs (nI (a + 1)).toNatClampNeg), .int (xs (nI (a + 2)).toNatClampNeg)]) (rest := [.int x]) (i := 161) (kd := 9) S hX G hM2 (cwV (bytes := cX9_ifGo) (maxL := 4) (ret := (some .int)) 2 S.2.2.2.2 gL_law_X9_ifGo rfl q1 q2 (by decide +kernel) ⟨by rw [roomL.1]; omega, by rw [roomL.2.2.2]; omega⟩) (rfl : sh 161 = 9) rfl rfl rfl (by decide) rfl hl.1 rfl (Nat.le_of_ble_eq_true rfl) hf dL_law_559 (fun v2 I2 L2 H locs hR2 G => ?_)
  obtain ⟨hv2, hRel2⟩ := hR2
  subst hv2
  refine W.eq (g2 := F0 m 562 ls [.int x, .int x]) rfl ?_
  refine lv_icmp_eq (tgt := 642) S.1 S.2.1 dL_law_562 (by decide) (fun _ => ?_) (fun h => absurd rfl h)
  exact kk I2 L2 H locs G hRel2
set_option maxRecDepth 100000 in
set_option maxHeartbeats 4000000 in
theorem lc_type {p : Program} {l : Launch} {e : Env} {s : State} {m : MethodId} {below : List Frame} {meth : Method} {c : Code} {b Lx a : Nat} {xs : Nat → Int32} {E : Ev} {I : SI} {L : SL} {H : Heap} {locs : List Loc} {cells slots : Nat} {Q : State → Prop} {ls : Array Slot} (hLW : LW p s m meth c b Lx xs E) (G : GS E I L s H locs) (hRel : Rel I L) (ha : a + 4 ≤ Lx) (hl : lv_has ls 4 [(3, .int (nI a)), (2, .ref (E.2.2.2 161)), (1, .ref (E.2.2.2 0)), (0, .ref b)]) (hf : cells ≤ room_1.cells ∧ slots ≤ room_1.slots) (kk : ∀ (I2 : SI) (L2 : SL) (H2 : Heap) (locs2 : List Loc), GS E I2 L2 s H2 locs2 → Rel I2 L2 → W p l e room_1 s m #[Value.ref b] below meth c H2 locs2 cells slots Q (F0 m 642 ls [])) : W p l e room_1 s m #[Value.ref b] below meth c H locs cells slots Q (F0 m 567 ls []) := by
  obtain ⟨S, hX, hXs, hbl, hbA, hL2⟩ := hLW
  have S : CallFix p m c code 4 s #[Value.ref b] wsL_law RL := S
  refine lv_aload_n S.1 S.2.1 dL_law_567 rfl (lv_at hl 2 rfl) ?_
  refine lv_aload_n S.1 S.2.1 dL_law_568 rfl (lv_at hl 3 rfl) ?_
  refine lv_iload_n S.1 S.2.1 dL_law_569 rfl (lv_at hl 0 rfl) ?_
  refine lv_iconst (v := (1 : Int32)) S.1 S.2.1 dL_law_570 (by decide) ?_
  refine s_iadd (v := nI (a + 1)) S dL_law_571 (nI_add a 1) ?_
  refine va_sld S.1 S.2.1 hXs hbl hbA G.2 (lw_ix ha (by decide) hL2) dL_law_572 ?_
  obtain ⟨rm1, ⟨r1, r2, r3, r4⟩, hM⟩ := P_type (l := l) (E := E) hRel (xs (nI (a + 1)).toNatClampNeg)
  refine s_callV (C := RX8) (As := [.int (xs (nI (a + 1)).toNatClampNeg)]) (rest := []) (i := 0) (kd := 8) S hX G hM (cwV (bytes := cX8_type) (maxL := 2) (ret := (some .int)) 1 S.2.2.2.2 gL_law_X8_type rfl r1 r2 (by decide +kernel) ⟨by rw [roomL.1]; omega, by rw [roomL.2.2.2]; omega⟩) (rfl : sh 0 = 8) rfl rfl rfl (by decide) rfl hl.1 rfl (Nat.le_of_ble_eq_true rfl) hf dL_law_573 (fun v I1 L1 H locs hR G => ?_)
  obtain ⟨x, hv, rm2, ⟨q1, q2, q3, q4⟩, hM2⟩ := hR
  subst hv
  refine W.eq (g2 := F0 m 576 ls [.int x]) rfl ?_
  refine lv_aload_n S.1 S.2.1 dL_law_576 rfl (lv_at hl 1 rfl) ?_
  refine lv_aload_n S.1 S.2.1 dL_law_577 rfl (lv_at hl 3 rfl) ?_
  refine lv_iload_n S.1 S.2.1 dL_law_578 rfl (lv_at hl 0 rfl) ?_
  refine lv_iconst (v := (1 : Int32)) S.1 S.2.1 dL_law_579 (by decide) ?_
  refine s_iadd (v := nI (a + 1)) S dL_law_580 (nI_add a 1) ?_
  refine va_sld S.1 S.2.1 hXs hbl hbA G.2 (lw_ix ha (by decide) hL2) dL_law_581 ?_
  refine s_callV (C := RX9) (As := [.int (xs (nI (a + 1)).toNatClampNeg)]) (rest := [.int x]) (i := 161) (kd := 9) S hX G hM2 (cwV (bytes := cX9_type) (maxL := 2) (ret := (some .int)) 1 S.2.2.2.2 gL_law_X9_type rfl q1 q2 (by decide +kernel) ⟨by rw [roomL.1]; omega, by rw [roomL.2.2.2]; omega⟩) (rfl : sh 161 = 9) rfl rfl rfl (by decide) rfl hl.1 rfl (Nat.le_of_ble_eq_true rfl) hf dL_law_582 (fun v2 I2 L2 H locs hR2 G => ?_)
  obtain ⟨hv2, hRel2⟩ := hR2
  subst hv2
  refine W.eq (g2 := F0 m 585 ls [.int x, .int x]) rfl ?_
  refine lv_icmp_eq (tgt := 642) S.1 S.2.1 dL_law_585 (by decide) (fun _ => ?_) (fun h => absurd rfl h)
  exact kk I2 L2 H locs G hRel2
set_option maxRecDepth 100000 in
set_option maxHeartbeats 4000000 in
theorem lc_clearText {p : Program} {l : Launch} {e : Env} {s : State} {m : MethodId} {below : List Frame} {meth : Method} {c : Code} {b Lx a : Nat} {xs : Nat → Int32} {E : Ev} {I : SI} {L : SL} {H : Heap} {locs : List Loc} {cells slots : Nat} {Q : State → Prop} {ls : Array Slot} (hLW : LW p s m meth c b Lx xs E) (G : GS E I L s H locs) (hRel : Rel I L) (ha : a + 4 ≤ Lx) (hl : lv_has ls 4 [(3, .int (nI a)), (2, .ref (E.2.2.2 161)), (1, .ref (E.2.2.2 0)), (0, .ref b)]) (hf : cells ≤ room_1.cells ∧ slots ≤ room_1.slots) (kk : ∀ (I2 : SI) (L2 : SL) (H2 : Heap) (locs2 : List Loc), GS E I2 L2 s H2 locs2 → Rel I2 L2 → W p l e room_1 s m #[Value.ref b] below meth c H2 locs2 cells slots Q (F0 m 642 ls [])) : W p l e room_1 s m #[Value.ref b] below meth c H locs cells slots Q (F0 m 590 ls []) := by
  obtain ⟨S, hX, hXs, hbl, hbA, hL2⟩ := hLW
  have S : CallFix p m c code 4 s #[Value.ref b] wsL_law RL := S
  refine lv_aload_n S.1 S.2.1 dL_law_590 rfl (lv_at hl 2 rfl) ?_
  obtain ⟨rm1, ⟨r1, r2, r3, r4⟩, hM⟩ := P_clearText (l := l) (E := E) hRel 
  refine s_callV (C := RX8) (As := []) (rest := []) (i := 0) (kd := 8) S hX G hM (cwV (bytes := cX8_clearText) (maxL := 2) (ret := (some .int)) 0 S.2.2.2.2 gL_law_X8_clearText rfl r1 r2 (by decide +kernel) ⟨by rw [roomL.1]; omega, by rw [roomL.2.2.2]; omega⟩) (rfl : sh 0 = 8) rfl rfl rfl (by decide) rfl hl.1 rfl (Nat.le_of_ble_eq_true rfl) hf dL_law_591 (fun v I1 L1 H locs hR G => ?_)
  obtain ⟨x, hv, rm2, ⟨q1, q2, q3, q4⟩, hM2⟩ := hR
  subst hv
  refine W.eq (g2 := F0 m 594 ls [.int x]) rfl ?_
  refine lv_aload_n S.1 S.2.1 dL_law_594 rfl (lv_at hl 1 rfl) ?_
  refine s_callV (C := RX9) (As := []) (rest := [.int x]) (i := 161) (kd := 9) S hX G hM2 (cwV (bytes := cX9_clearText) (maxL := 2) (ret := (some .int)) 0 S.2.2.2.2 gL_law_X9_clearText rfl q1 q2 (by decide +kernel) ⟨by rw [roomL.1]; omega, by rw [roomL.2.2.2]; omega⟩) (rfl : sh 161 = 9) rfl rfl rfl (by decide) rfl hl.1 rfl (Nat.le_of_ble_eq_true rfl) hf dL_law_595 (fun v2 I2 L2 H locs hR2 G => ?_)
  obtain ⟨hv2, hRel2⟩ := hR2
  subst hv2
  refine W.eq (g2 := F0 m 598 ls [.int x, .int x]) rfl ?_
  refine lv_icmp_eq (tgt := 642) S.1 S.2.1 dL_law_598 (by decide) (fun _ => ?_) (fun h => absurd rfl h)
  exact kk I2 L2 H locs G hRel2
set_option maxRecDepth 100000 in
set_option maxHeartbeats 4000000 in
theorem lc_wrong {p : Program} {l : Launch} {e : Env} {s : State} {m : MethodId} {below : List Frame} {meth : Method} {c : Code} {b Lx a : Nat} {xs : Nat → Int32} {E : Ev} {I : SI} {L : SL} {H : Heap} {locs : List Loc} {cells slots : Nat} {Q : State → Prop} {ls : Array Slot} (hLW : LW p s m meth c b Lx xs E) (G : GS E I L s H locs) (hRel : Rel I L) (ha : a + 4 ≤ Lx) (hl : lv_has ls 4 [(3, .int (nI a)), (2, .ref (E.2.2.2 161)), (1, .ref (E.2.2.2 0)), (0, .ref b)]) (hf : cells ≤ room_1.cells ∧ slots ≤ room_1.slots) (kk : ∀ (I2 : SI) (L2 : SL) (H2 : Heap) (locs2 : List Loc), GS E I2 L2 s H2 locs2 → Rel I2 L2 → W p l e room_1 s m #[Value.ref b] below meth c H2 locs2 cells slots Q (F0 m 642 ls [])) : W p l e room_1 s m #[Value.ref b] below meth c H locs cells slots Q (F0 m 603 ls []) := by
  obtain ⟨S, hX, hXs, hbl, hbA, hL2⟩ := hLW
  have S : CallFix p m c code 4 s #[Value.ref b] wsL_law RL := S
  refine lv_aload_n S.1 S.2.1 dL_law_603 rfl (lv_at hl 2 rfl) ?_
  obtain ⟨rm1, ⟨r1, r2, r3, r4⟩, hM⟩ := P_wrong (l := l) (E := E) hRel 
  refine s_callV (C := RX8) (As := []) (rest := []) (i := 0) (kd := 8) S hX G hM (cwV (bytes := cX8_wrong) (maxL := 2) (ret := (some .int)) 0 S.2.2.2.2 gL_law_X8_wrong rfl r1 r2 (by decide +kernel) ⟨by rw [roomL.1]; omega, by rw [roomL.2.2.2]; omega⟩) (rfl : sh 0 = 8) rfl rfl rfl (by decide) rfl hl.1 rfl (Nat.le_of_ble_eq_true rfl) hf dL_law_604 (fun v I1 L1 H locs hR G => ?_)
  obtain ⟨x, hv, rm2, ⟨q1, q2, q3, q4⟩, hM2⟩ := hR
  subst hv
  refine W.eq (g2 := F0 m 607 ls [.int x]) rfl ?_
  refine lv_aload_n S.1 S.2.1 dL_law_607 rfl (lv_at hl 1 rfl) ?_
  refine s_callV (C := RX9) (As := []) (rest := [.int x]) (i := 161) (kd := 9) S hX G hM2 (cwV (bytes := cX9_wrong) (maxL := 1) (ret := (some .int)) 0 S.2.2.2.2 gL_law_X9_wrong rfl q1 q2 (by decide +kernel) ⟨by rw [roomL.1]; omega, by rw [roomL.2.2.2]; omega⟩) (rfl : sh 161 = 9) rfl rfl rfl (by decide) rfl hl.1 rfl (Nat.le_of_ble_eq_true rfl) hf dL_law_608 (fun v2 I2 L2 H locs hR2 G => ?_)
  obtain ⟨hv2, hRel2⟩ := hR2
  subst hv2
  refine W.eq (g2 := F0 m 611 ls [.int x, .int x]) rfl ?_
  refine lv_icmp_eq (tgt := 642) S.1 S.2.1 dL_law_611 (by decide) (fun _ => ?_) (fun h => absurd rfl h)
  exact kk I2 L2 H locs G hRel2
set_option maxRecDepth 100000 in
set_option maxHeartbeats 4000000 in
theorem lc_play {p : Program} {l : Launch} {e : Env} {s : State} {m : MethodId} {below : List Frame} {meth : Method} {c : Code} {b Lx a : Nat} {xs : Nat → Int32} {E : Ev} {I : SI} {L : SL} {H : Heap} {locs : List Loc} {cells slots : Nat} {Q : State → Prop} {ls : Array Slot} (hLW : LW p s m meth c b Lx xs E) (G : GS E I L s H locs) (hRel : Rel I L) (ha : a + 4 ≤ Lx) (hl : lv_has ls 4 [(3, .int (nI a)), (2, .ref (E.2.2.2 161)), (1, .ref (E.2.2.2 0)), (0, .ref b)]) (hf : cells ≤ room_1.cells ∧ slots ≤ room_1.slots) (kk : ∀ (I2 : SI) (L2 : SL) (H2 : Heap) (locs2 : List Loc), GS E I2 L2 s H2 locs2 → Rel I2 L2 → W p l e room_1 s m #[Value.ref b] below meth c H2 locs2 cells slots Q (F0 m 642 ls [])) : W p l e room_1 s m #[Value.ref b] below meth c H locs cells slots Q (F0 m 616 ls []) := by
  obtain ⟨S, hX, hXs, hbl, hbA, hL2⟩ := hLW
  have S : CallFix p m c code 4 s #[Value.ref b] wsL_law RL := S
  refine lv_aload_n S.1 S.2.1 dL_law_616 rfl (lv_at hl 2 rfl) ?_
  obtain ⟨rm1, ⟨r1, r2, r3, r4⟩, hM⟩ := P_play (l := l) (E := E) hRel 
  refine s_callV (C := RX8) (As := []) (rest := []) (i := 0) (kd := 8) S hX G hM (cwV (bytes := cX8_play) (maxL := 5) (ret := (some .int)) 0 S.2.2.2.2 gL_law_X8_play rfl r1 r2 (by decide +kernel) ⟨by rw [roomL.1]; omega, by rw [roomL.2.2.2]; omega⟩) (rfl : sh 0 = 8) rfl rfl rfl (by decide) rfl hl.1 rfl (Nat.le_of_ble_eq_true rfl) hf dL_law_617 (fun v I1 L1 H locs hR G => ?_)
  obtain ⟨x, hv, rm2, ⟨q1, q2, q3, q4⟩, hM2⟩ := hR
  subst hv
  refine W.eq (g2 := F0 m 620 ls [.int x]) rfl ?_
  refine lv_aload_n S.1 S.2.1 dL_law_620 rfl (lv_at hl 1 rfl) ?_
  refine s_callV (C := RX9) (As := []) (rest := [.int x]) (i := 161) (kd := 9) S hX G hM2 (cwV (bytes := cX9_play) (maxL := 3) (ret := (some .int)) 0 S.2.2.2.2 gL_law_X9_play rfl q1 q2 (by decide +kernel) ⟨by rw [roomL.1]; omega, by rw [roomL.2.2.2]; omega⟩) (rfl : sh 161 = 9) rfl rfl rfl (by decide) rfl hl.1 rfl (Nat.le_of_ble_eq_true rfl) hf dL_law_621 (fun v2 I2 L2 H locs hR2 G => ?_)
  obtain ⟨hv2, hRel2⟩ := hR2
  subst hv2
  refine W.eq (g2 := F0 m 624 ls [.int x, .int x]) rfl ?_
  refine lv_icmp_eq (tgt := 642) S.1 S.2.1 dL_law_624 (by decide) (fun _ => ?_) (fun h => absurd rfl h)
  exact kk I2 L2 H locs G hRel2
set_option maxRecDepth 100000 in
set_option maxHeartbeats 4000000 in
theorem lc_playing {p : Program} {l : Launch} {e : Env} {s : State} {m : MethodId} {below : List Frame} {meth : Method} {c : Code} {b Lx a : Nat} {xs : Nat → Int32} {E : Ev} {I : SI} {L : SL} {H : Heap} {locs : List Loc} {cells slots : Nat} {Q : State → Prop} {ls : Array Slot} (hLW : LW p s m meth c b Lx xs E) (G : GS E I L s H locs) (hRel : Rel I L) (ha : a + 4 ≤ Lx) (hl : lv_has ls 4 [(3, .int (nI a)), (2, .ref (E.2.2.2 161)), (1, .ref (E.2.2.2 0)), (0, .ref b)]) (hf : cells ≤ room_1.cells ∧ slots ≤ room_1.slots) (kk : ∀ (I2 : SI) (L2 : SL) (H2 : Heap) (locs2 : List Loc), GS E I2 L2 s H2 locs2 → Rel I2 L2 → W p l e room_1 s m #[Value.ref b] below meth c H2 locs2 cells slots Q (F0 m 642 ls [])) : W p l e room_1 s m #[Value.ref b] below meth c H locs cells slots Q (F0 m 629 ls []) := by
  obtain ⟨S, hX, hXs, hbl, hbA, hL2⟩ := hLW
  have S : CallFix p m c code 4 s #[Value.ref b] wsL_law RL := S
  refine lv_aload_n S.1 S.2.1 dL_law_629 rfl (lv_at hl 2 rfl) ?_
  obtain ⟨rm1, ⟨r1, r2, r3, r4⟩, hM⟩ := P_playing (l := l) (E := E) hRel 
  refine s_callV (C := RX8) (As := []) (rest := []) (i := 0) (kd := 8) S hX G hM (cwV (bytes := cX8_playing) (maxL := 1) (ret := (some .int)) 0 S.2.2.2.2 gL_law_X8_playing rfl r1 r2 (by decide +kernel) ⟨by rw [roomL.1]; omega, by rw [roomL.2.2.2]; omega⟩) (rfl : sh 0 = 8) rfl rfl rfl (by decide) rfl hl.1 rfl (Nat.le_of_ble_eq_true rfl) hf dL_law_630 (fun v I1 L1 H locs hR G => ?_)
  obtain ⟨x, hv, rm2, ⟨q1, q2, q3, q4⟩, hM2⟩ := hR
  subst hv
  refine W.eq (g2 := F0 m 633 ls [.int x]) rfl ?_
  refine lv_aload_n S.1 S.2.1 dL_law_633 rfl (lv_at hl 1 rfl) ?_
  refine s_callV (C := RX9) (As := []) (rest := [.int x]) (i := 161) (kd := 9) S hX G hM2 (cwV (bytes := cX9_playing) (maxL := 2) (ret := (some .int)) 0 S.2.2.2.2 gL_law_X9_playing rfl q1 q2 (by decide +kernel) ⟨by rw [roomL.1]; omega, by rw [roomL.2.2.2]; omega⟩) (rfl : sh 161 = 9) rfl rfl rfl (by decide) rfl hl.1 rfl (Nat.le_of_ble_eq_true rfl) hf dL_law_634 (fun v2 I2 L2 H locs hR2 G => ?_)
  obtain ⟨hv2, hRel2⟩ := hR2
  subst hv2
  refine W.eq (g2 := F0 m 637 ls [.int x, .int x]) rfl ?_
  refine lv_icmp_eq (tgt := 642) S.1 S.2.1 dL_law_637 (by decide) (fun _ => ?_) (fun h => absurd rfl h)
  exact kk I2 L2 H locs G hRel2
