set_option maxRecDepth 100000 in
set_option maxHeartbeats 4000000 in
/-- the settings of a load -/
theorem lw_ld {pg : Program} {l : Launch} {eg : Env} {sg : State} {mg : MethodId} {b : Nat} {below : List Frame} {meth : Method} {cg : Code} {H : Heap} {locs : List Loc} {cells slots : Nat} {Q : State → Prop} {ls : Array Slot} {E : Ev} {I : SI} {L : SL} {Lx : Nat} {xs : Nat → Int32} {D j : Nat} (S : CallFix pg mg cg code 21 sg #[Value.ref b] wsL_law RL) (hX : FX E sg) (hx : ScrAt E b Lx xs sg) (hLx : Lx ≤ 260) (hf : cells ≤ room_1.cells ∧ slots ≤ room_1.slots) (G : GS E I L sg H locs) (hl : lv_has ls 21 [(4, .int (nI j)), (3, .int (1 : Int32)), (2, .int (nI D)), (1, .ref (E.2.2.2 0)), (0, .ref b)]) (hj : j < 2) (hS : StI I 1) (h50 : I (dvc j) 0 = 50) (h1000 : I (dvc j) 2 = 1000) (h6 : I (ldb j) 6 = 0) (kk : ∀ (I1 : SI) (L1 : SL) (s0 : Nat), s0 ≤ 1000 → StI I1 1 → I1 (dvc j) 0 = nI s0 → I1 (dvc j) 1 = I (dvc j) 1 → (∀ z, z < 27 → z ≠ dvc j → z ≠ ldb j → I1 z = I z) → ∀ (H1 : Heap) (locs1 : List Loc) (ls1 : Array Slot), GS E I1 L1 sg H1 locs1 → lv_has ls1 21 [(4, .int (nI (j + 1))), (3, .int (1 : Int32)), (2, .int (nI D)), (1, .ref (E.2.2.2 0)), (0, .ref b)] → W pg l eg room_1 sg mg #[Value.ref b] below meth cg H1 locs1 cells slots Q (F0 mg 110 ls1 [])) : W pg l eg room_1 sg mg #[Value.ref b] below meth cg H locs cells slots Q (F0 mg 110 ls []) := by
  have hd27 : dvc j < 27 := by have := dvc_v hj; omega
  have hb27 : ldb j < 27 := by have := ldb_v hj; omega
  have hbd : ldb j ≠ dvc j := by rcases (show j = 0 ∨ j = 1 by omega) with rfl | rfl <;> decide
  refine lv_iload S.1 S.2.1 dL_law_110 (lv_at hl 0 rfl) ?_
  refine lv_iconst (v := (2 : Int32)) S.1 S.2.1 dL_law_112 (by decide) ?_
  refine lv_icmp_ge (tgt := 197) S.1 S.2.1 dL_law_113 (by decide) (fun h => absurd h (nI_ge (b := 2) hj (by decide))) (fun _ => ?_)
  refine lv_iload_n S.1 S.2.1 dL_law_116 rfl (lv_at hl 1 rfl) ?_
  refine lv_if_eq (tgt := 197) S.1 S.2.1 dL_law_117 (by decide) (fun h => absurd h (by decide)) (fun _ => ?_)
  refine lv_aload_n S.1 S.2.1 dL_law_120 rfl (lv_at hl 3 rfl) ?_
  refine lv_iload S.1 S.2.1 dL_law_121 (lv_at hl 0 rfl) ?_
  refine lv_iconst (v := (0 : Int32)) S.1 S.2.1 dL_law_123 (by decide) ?_
  refine lv_iconst (v := (5 : Int32)) S.1 S.2.1 dL_law_124 (by decide) ?_
  refine lv_aload_n S.1 S.2.1 dL_law_125 rfl (lv_at hl 4 rfl) ?_
  refine lv_iconst (v := (4 : Int32)) S.1 S.2.1 dL_law_126 (by decide) ?_
  refine lv_iload S.1 S.2.1 dL_law_127 (lv_at hl 0 rfl) ?_
  refine s_iadd (v := (nI (4 + j))) S dL_law_129 (nI_add 4 j) ?_
  refine s_callX (As := [.ref b, .int (nI (4 + j))]) (rest := [.int (5 : Int32), .int (0 : Int32), .int (nI j), .ref (E.2.2.2 0)]) S hX hx G (k_cell l E b Lx xs (4 + j) hLx (by omega)) (va_cwS (bytes := cL_cell) (maxL := 2) (ret := (some .int)) 2 S.2.2.2.2 gL_law_L_cell rfl rfl rfl (by decide +kernel) ⟨Nat.le_of_ble_eq_true rfl, Nat.le_of_ble_eq_true rfl⟩) rfl hl.1 rfl (Nat.le_of_ble_eq_true rfl) hf dL_law_130 (fun v I0 L0 H locs hR G => ?_)
  obtain ⟨c0, hc0, hv, hI, hL⟩ := hR
  subst hv
  have G : GS E I L sg H locs := G.same hI hL
  clear hI hL
  refine W.eq (g2 := F0 mg 133 ls [.int (nI c0), .int (5 : Int32), .int (0 : Int32), .int (nI j), .ref (E.2.2.2 0)]) rfl ?_
  refine lv_sipush (v := (150 : Int32)) S.1 S.2.1 dL_law_133 (by decide) ?_
  refine s_irem (v := (nI (c0 % 150))) S dL_law_136 (by decide) (pk_rem (a := c0) (d := 150) hc0 (by decide) (by decide)) ?_
  refine s_iadd (v := (nI (5 + (c0 % 150)))) S dL_law_137 (nI_add 5 (c0 % 150)) ?_
  refine s_callV (C := RX8) (As := [.int (nI j), .int (0 : Int32), .int (nI (5 + (c0 % 150)))]) (rest := []) (i := 0) (kd := 8) S hX G (k_stld l E j 0 (5 + c0 % 150) hj (by decide) (tk4_of (q := 0) (lo := 1) (hi := 1000) (by decide) rfl rfl (by omega) (by omega) (by decide)) hS) (cwV (bytes := cX8_setLoad) (maxL := 4) (ret := (some .int)) 3 S.2.2.2.2 gL_law_X8_setLoad rfl rfl rfl (by decide +kernel) ⟨Nat.le_of_ble_eq_true rfl, Nat.le_of_ble_eq_true rfl⟩) (rfl : sh 0 = 8) rfl rfl rfl (by decide) rfl hl.1 rfl (Nat.le_of_ble_eq_true rfl) hf dL_law_138 (fun v I_1 L_1 H locs hR G => ?_)
  obtain ⟨hv, hS_1, e_1, fr_1⟩ := hR
  subst hv
  refine W.eq (g2 := F0 mg 141 ls [.int (I (dvc j) 0)]) rfl ?_
  refine lv_bipush (v := (50 : Int32)) S.1 S.2.1 dL_law_141 (by decide) ?_
  refine lv_icmp_ne (tgt := 189) S.1 S.2.1 dL_law_143 (by decide) (fun h => absurd h50 h) (fun _ => ?_)
  refine lv_aload_n S.1 S.2.1 dL_law_146 rfl (lv_at hl 3 rfl) ?_
  refine lv_iload S.1 S.2.1 dL_law_147 (lv_at hl 0 rfl) ?_
  refine lv_iconst (v := (2 : Int32)) S.1 S.2.1 dL_law_149 (by decide) ?_
  refine lv_bipush (v := (50 : Int32)) S.1 S.2.1 dL_law_150 (by decide) ?_
  refine lv_aload_n S.1 S.2.1 dL_law_152 rfl (lv_at hl 4 rfl) ?_
  refine lv_bipush (v := (6 : Int32)) S.1 S.2.1 dL_law_153 (by decide) ?_
  refine lv_iload S.1 S.2.1 dL_law_155 (lv_at hl 0 rfl) ?_
  refine s_iadd (v := (nI (6 + j))) S dL_law_157 (nI_add 6 j) ?_
  refine s_callX (As := [.ref b, .int (nI (6 + j))]) (rest := [.int (50 : Int32), .int (2 : Int32), .int (nI j), .ref (E.2.2.2 0)]) S hX hx G (k_cell l E b Lx xs (6 + j) hLx (by omega)) (va_cwS (bytes := cL_cell) (maxL := 2) (ret := (some .int)) 2 S.2.2.2.2 gL_law_L_cell rfl rfl rfl (by decide +kernel) ⟨Nat.le_of_ble_eq_true rfl, Nat.le_of_ble_eq_true rfl⟩) rfl hl.1 rfl (Nat.le_of_ble_eq_true rfl) hf dL_law_158 (fun v I0 L0 H locs hR G => ?_)
  obtain ⟨c1, hc1, hv, hI, hL⟩ := hR
  subst hv
  have G : GS E I_1 L_1 sg H locs := G.same hI hL
  clear hI hL
  refine W.eq (g2 := F0 mg 161 ls [.int (nI c1), .int (50 : Int32), .int (2 : Int32), .int (nI j), .ref (E.2.2.2 0)]) rfl ?_
  refine lv_sipush (v := (600 : Int32)) S.1 S.2.1 dL_law_161 (by decide) ?_
  refine s_irem (v := (nI (c1 % 600))) S dL_law_164 (by decide) (pk_rem (a := c1) (d := 600) hc1 (by decide) (by decide)) ?_
  refine s_iadd (v := (nI (50 + (c1 % 600)))) S dL_law_165 (nI_add 50 (c1 % 600)) ?_
  refine s_callV (C := RX8) (As := [.int (nI j), .int (2 : Int32), .int (nI (50 + (c1 % 600)))]) (rest := []) (i := 0) (kd := 8) S hX G (k_stld l E j 2 (50 + c1 % 600) hj (by decide) (tk4_of (q := 2) (lo := 1) (hi := 900000) (by decide) rfl rfl (by omega) (by omega) (by decide)) hS_1) (cwV (bytes := cX8_setLoad) (maxL := 4) (ret := (some .int)) 3 S.2.2.2.2 gL_law_X8_setLoad rfl rfl rfl (by decide +kernel) ⟨Nat.le_of_ble_eq_true rfl, Nat.le_of_ble_eq_true rfl⟩) (rfl : sh 0 = 8) rfl rfl rfl (by decide) rfl hl.1 rfl (Nat.le_of_ble_eq_true rfl) hf dL_law_166 (fun v I_2 L_2 H locs hR G => ?_)
  obtain ⟨hv, hS_2, e_2, fr_2⟩ := hR
  subst hv
  refine W.eq (g2 := F0 mg 169 ls [.int (I_1 (dvc j) 2)]) rfl ?_
  refine lv_sipush (v := (1000 : Int32)) S.1 S.2.1 dL_law_169 (by decide) ?_
  refine lv_icmp_ne (tgt := 189) S.1 S.2.1 dL_law_172 (by decide) (fun h => absurd (by rw [e_1, upd_ne (by decide)]; exact h1000) h) (fun _ => ?_)
  refine lv_aload_n S.1 S.2.1 dL_law_175 rfl (lv_at hl 3 rfl) ?_
  refine lv_iload S.1 S.2.1 dL_law_176 (lv_at hl 0 rfl) ?_
  refine lv_iconst (v := (1 : Int32)) S.1 S.2.1 dL_law_178 (by decide) ?_
  refine s_callV (C := RX8) (As := [.int (nI j), .int (1 : Int32)]) (rest := []) (i := 0) (kd := 8) S hX G (k_stch l E j hj hS_2) (cwV (bytes := cX8_chop) (maxL := 3) (ret := (some .int)) 2 S.2.2.2.2 gL_law_X8_chop rfl rfl rfl (by decide +kernel) ⟨Nat.le_of_ble_eq_true rfl, Nat.le_of_ble_eq_true rfl⟩) (rfl : sh 0 = 8) rfl rfl rfl (by decide) rfl hl.1 rfl (Nat.le_of_ble_eq_true rfl) hf dL_law_179 (fun v I_3 L_3 H locs hR G => ?_)
  obtain ⟨hv, hS_3, e_3, fr_3⟩ := hR
  subst hv
  refine W.eq (g2 := F0 mg 182 ls [.int (I_2 (ldb j) 6)]) rfl ?_
  refine lv_if_ne (tgt := 189) S.1 S.2.1 dL_law_182 (by decide) (fun h => absurd (by rw [fr_2 _ hb27 hbd, fr_1 _ hb27 hbd]; exact h6) h) (fun _ => ?_)
  refine lv_iconst (v := (1 : Int32)) S.1 S.2.1 dL_law_185 (by decide) ?_
  refine lv_goto (tgt := 190) S.1 S.2.1 dL_law_186 (by decide) ?_
  refine lv_istore_n (lv' := [(3, .int (1 : Int32)), (4, .int (nI j)), (2, .int (nI D)), (1, .ref (E.2.2.2 0)), (0, .ref b)]) S.1 S.2.1 dL_law_190 rfl hl (by decide) rfl (fun ls hl => ?_)
  refine lv_iinc (v := (nI (j + 1))) (lv' := [(4, .int (nI (j + 1))), (3, .int (1 : Int32)), (2, .int (nI D)), (1, .ref (E.2.2.2 0)), (0, .ref b)]) S.1 S.2.1 dL_law_191 hl (k := 1) rfl (nI_1 j) (by decide) rfl (fun ls hl => ?_)
  refine lv_goto (tgt := 110) S.1 S.2.1 dL_law_194 (by decide) ?_
  refine kk I_3 L_3 (5 + c0 % 150) (by omega) hS_3 ?_ ?_ (fun z h1 h2 h3 => (fr_3 z h1 h3).trans ((fr_2 z h1 h2).trans (fr_1 z h1 h2))) _ _ _ G (lv_sub hl [0, 1, 2, 3, 4] rfl)
  · rw [fr_3 _ hd27 (Ne.symm hbd), e_2, upd_ne (by decide), e_1, upd_eq]
  · rw [fr_3 _ hd27 (Ne.symm hbd), e_2, upd_ne (by decide), e_1, upd_ne (by decide)]
