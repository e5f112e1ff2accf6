set_option maxRecDepth 100000 in
set_option maxHeartbeats 4000000 in
/-- the settings of the bridge -/
theorem lw_set {pg : Program} {l : Launch} {eg : Env} {sg : State} {mg : MethodId} {b : Nat} {below : List Frame} {meth : Method} {cg : Code} {H : Heap} {locs : List Loc} {cells slots : Nat} {Q : State → Prop} {ls : Array Slot} {E : Ev} {I : SI} {L : SL} {Lx : Nat} {xs : Nat → Int32} (S : CallFix pg mg cg code 21 sg #[Value.ref b] wsL_law RL) (hX : FX E sg) (hx : ScrAt E b Lx xs sg) (hLx : Lx ≤ 260) (hf : cells ≤ room_1.cells ∧ slots ≤ room_1.slots) (G : GS E I L sg H locs) (hl : lv_has ls 21 [(1, .ref (E.2.2.2 0)), (0, .ref b)]) (hS : StI I 0) (h0 : I 21 0 = 2) (h2 : I 21 2 = 5000) (h4 : I 21 4 = 1000000) (h3 : I 21 3 = 20) (kk : ∀ (I1 : SI) (L1 : SL) (D : Nat), D < 6 → StI I1 1 → I1 21 0 = nI D → (∀ z, z < 27 → z ≠ 21 → I1 z = I z) → ∀ (H1 : Heap) (locs1 : List Loc) (ls1 : Array Slot), GS E I1 L1 sg H1 locs1 → lv_has ls1 21 [(4, .int (0 : Int32)), (3, .int (1 : Int32)), (2, .int (nI D)), (1, .ref (E.2.2.2 0)), (0, .ref b)] → W pg l eg room_1 sg mg #[Value.ref b] below meth cg H1 locs1 cells slots Q (F0 mg 110 ls1 [])) : W pg l eg room_1 sg mg #[Value.ref b] below meth cg H locs cells slots Q (F0 mg 8 ls []) := by
  refine lv_aload_n S.1 S.2.1 dL_law_8 rfl (lv_at hl 1 rfl) ?_
  refine lv_iconst (v := (0 : Int32)) S.1 S.2.1 dL_law_9 (by decide) ?_
  refine s_callX (As := [.ref b, .int (0 : Int32)]) (rest := []) S hX hx G (k_cell l E b Lx xs (0) hLx (by omega)) (va_cwS (bytes := cL_cell) (maxL := 2) (ret := (some .int)) 2 S.2.2.2.2 gL_law_L_cell rfl rfl rfl (by decide +kernel) ⟨Nat.le_of_ble_eq_true rfl, Nat.le_of_ble_eq_true rfl⟩) rfl hl.1 rfl (Nat.le_of_ble_eq_true rfl) hf dL_law_10 (fun v I0 L0 H locs hR G => ?_)
  obtain ⟨c0, hc0, hv, hI, hL⟩ := hR
  subst hv
  have G : GS E I L sg H locs := G.same hI hL
  clear hI hL
  refine W.eq (g2 := F0 mg 13 ls [.int (nI c0)]) rfl ?_
  refine lv_bipush (v := (6 : Int32)) S.1 S.2.1 dL_law_13 (by decide) ?_
  refine s_irem (v := (nI (c0 % 6))) S dL_law_15 (by decide) (pk_rem (a := c0) (d := 6) hc0 (by decide) (by decide)) ?_
  refine lv_istore_n (lv' := [(2, .int (nI (c0 % 6))), (1, .ref (E.2.2.2 0)), (0, .ref b)]) S.1 S.2.1 dL_law_16 rfl hl (by decide) rfl (fun ls hl => ?_)
  refine lv_aload_n S.1 S.2.1 dL_law_17 rfl (lv_at hl 1 rfl) ?_
  refine s_readS (As := [.ref (E.2.2.2 0)]) (rest := []) S hX G (k_holds l E 0 hS.1 (by decide)) (va_cwS (bytes := cL_holds) (maxL := 9) (ret := (some .boolean)) 1 S.2.2.2.2 gL_law_L_holds rfl rfl rfl (by decide +kernel) ⟨Nat.le_of_ble_eq_true rfl, Nat.le_of_ble_eq_true rfl⟩) rfl hl.1 rfl (Nat.le_of_ble_eq_true rfl) hf dL_law_18 (fun H locs G => ?_)
  refine lv_if_eq (tgt := 105) S.1 S.2.1 dL_law_21 (by decide) (fun h => absurd h (by decide)) (fun _ => ?_)
  refine lv_aload_n S.1 S.2.1 dL_law_24 rfl (lv_at hl 1 rfl) ?_
  refine lv_iconst (v := (0 : Int32)) S.1 S.2.1 dL_law_25 (by decide) ?_
  refine lv_iload_n S.1 S.2.1 dL_law_26 rfl (lv_at hl 0 rfl) ?_
  refine s_callV (C := RX8) (As := [.int (0 : Int32), .int (nI (c0 % 6))]) (rest := []) (i := 0) (kd := 8) S hX G (k_stset l E 0 (c0 % 6) (by decide) (tk6_of (q := 0) (lo := 0) (hi := 20) (by decide) rfl rfl (by omega) (by omega) (by decide)) hS) (cwV (bytes := cX8_set) (maxL := 3) (ret := (some .int)) 2 S.2.2.2.2 gL_law_X8_set rfl rfl rfl (by decide +kernel) ⟨Nat.le_of_ble_eq_true rfl, Nat.le_of_ble_eq_true rfl⟩) (rfl : sh 0 = 8) rfl rfl rfl (by decide) rfl hl.1 rfl (Nat.le_of_ble_eq_true rfl) hf dL_law_27 (fun v I_1 L_1 H locs hR G => ?_)
  obtain ⟨hv, hS_1, e_1, fr_1⟩ := hR
  subst hv
  refine W.eq (g2 := F0 mg 30 ls [.int (I 21 0)]) rfl ?_
  refine lv_iconst (v := (2 : Int32)) S.1 S.2.1 dL_law_30 (by decide) ?_
  refine lv_icmp_ne (tgt := 105) S.1 S.2.1 dL_law_31 (by decide) (fun h => absurd h0 h) (fun _ => ?_)
  refine lv_aload_n S.1 S.2.1 dL_law_34 rfl (lv_at hl 1 rfl) ?_
  refine lv_iconst (v := (2 : Int32)) S.1 S.2.1 dL_law_35 (by decide) ?_
  refine lv_sipush (v := (200 : Int32)) S.1 S.2.1 dL_law_36 (by decide) ?_
  refine lv_aload_n S.1 S.2.1 dL_law_39 rfl (lv_at hl 2 rfl) ?_
  refine lv_iconst (v := (1 : Int32)) S.1 S.2.1 dL_law_40 (by decide) ?_
  refine s_callX (As := [.ref b, .int (1 : Int32)]) (rest := [.int (200 : Int32), .int (2 : Int32), .ref (E.2.2.2 0)]) S hX hx G (k_cell l E b Lx xs (1) hLx (by omega)) (va_cwS (bytes := cL_cell) (maxL := 2) (ret := (some .int)) 2 S.2.2.2.2 gL_law_L_cell rfl rfl rfl (by decide +kernel) ⟨Nat.le_of_ble_eq_true rfl, Nat.le_of_ble_eq_true rfl⟩) rfl hl.1 rfl (Nat.le_of_ble_eq_true rfl) hf dL_law_41 (fun v I0 L0 H locs hR G => ?_)
  obtain ⟨c1, hc1, hv, hI, hL⟩ := hR
  subst hv
  have G : GS E I_1 L_1 sg H locs := G.same hI hL
  clear hI hL
  refine W.eq (g2 := F0 mg 44 ls [.int (nI c1), .int (200 : Int32), .int (2 : Int32), .ref (E.2.2.2 0)]) rfl ?_
  refine lv_sipush (v := (2000 : Int32)) S.1 S.2.1 dL_law_44 (by decide) ?_
  refine s_irem (v := (nI (c1 % 2000))) S dL_law_47 (by decide) (pk_rem (a := c1) (d := 2000) hc1 (by decide) (by decide)) ?_
  refine s_iadd (v := (nI (200 + (c1 % 2000)))) S dL_law_48 (nI_add 200 (c1 % 2000)) ?_
  refine s_callV (C := RX8) (As := [.int (2 : Int32), .int (nI (200 + (c1 % 2000)))]) (rest := []) (i := 0) (kd := 8) S hX G (k_stset l E 2 (200 + c1 % 2000) (by decide) (tk6_of (q := 2) (lo := 1) (hi := 1000000) (by decide) rfl rfl (by omega) (by omega) (by decide)) hS_1) (cwV (bytes := cX8_set) (maxL := 3) (ret := (some .int)) 2 S.2.2.2.2 gL_law_X8_set rfl rfl rfl (by decide +kernel) ⟨Nat.le_of_ble_eq_true rfl, Nat.le_of_ble_eq_true rfl⟩) (rfl : sh 0 = 8) rfl rfl rfl (by decide) rfl hl.1 rfl (Nat.le_of_ble_eq_true rfl) hf dL_law_49 (fun v I_2 L_2 H locs hR G => ?_)
  obtain ⟨hv, hS_2, e_2, fr_2⟩ := hR
  subst hv
  refine W.eq (g2 := F0 mg 52 ls [.int (I_1 21 2)]) rfl ?_
  refine lv_sipush (v := (5000 : Int32)) S.1 S.2.1 dL_law_52 (by decide) ?_
  refine lv_icmp_ne (tgt := 105) S.1 S.2.1 dL_law_55 (by decide) (fun h => absurd (by rw [e_1, upd_ne (by decide)]; exact h2) h) (fun _ => ?_)
  refine lv_aload_n S.1 S.2.1 dL_law_58 rfl (lv_at hl 1 rfl) ?_
  refine lv_iconst (v := (4 : Int32)) S.1 S.2.1 dL_law_59 (by decide) ?_
  refine lv_sipush (v := (2000 : Int32)) S.1 S.2.1 dL_law_60 (by decide) ?_
  refine lv_aload_n S.1 S.2.1 dL_law_63 rfl (lv_at hl 2 rfl) ?_
  refine lv_iconst (v := (2 : Int32)) S.1 S.2.1 dL_law_64 (by decide) ?_
  refine s_callX (As := [.ref b, .int (2 : Int32)]) (rest := [.int (2000 : Int32), .int (4 : Int32), .ref (E.2.2.2 0)]) S hX hx G (k_cell l E b Lx xs (2) hLx (by omega)) (va_cwS (bytes := cL_cell) (maxL := 2) (ret := (some .int)) 2 S.2.2.2.2 gL_law_L_cell rfl rfl rfl (by decide +kernel) ⟨Nat.le_of_ble_eq_true rfl, Nat.le_of_ble_eq_true rfl⟩) rfl hl.1 rfl (Nat.le_of_ble_eq_true rfl) hf dL_law_65 (fun v I0 L0 H locs hR G => ?_)
  obtain ⟨c2, hc2, hv, hI, hL⟩ := hR
  subst hv
  have G : GS E I_2 L_2 sg H locs := G.same hI hL
  clear hI hL
  refine W.eq (g2 := F0 mg 68 ls [.int (nI c2), .int (2000 : Int32), .int (4 : Int32), .ref (E.2.2.2 0)]) rfl ?_
  refine lv_sipush (v := (20000 : Int32)) S.1 S.2.1 dL_law_68 (by decide) ?_
  refine s_irem (v := (nI (c2 % 20000))) S dL_law_71 (by decide) (pk_rem (a := c2) (d := 20000) hc2 (by decide) (by decide)) ?_
  refine s_iadd (v := (nI (2000 + (c2 % 20000)))) S dL_law_72 (nI_add 2000 (c2 % 20000)) ?_
  refine s_callV (C := RX8) (As := [.int (4 : Int32), .int (nI (2000 + (c2 % 20000)))]) (rest := []) (i := 0) (kd := 8) S hX G (k_stset l E 4 (2000 + c2 % 20000) (by decide) (tk6_of (q := 4) (lo := 1) (hi := 1000000000) (by decide) rfl rfl (by omega) (by omega) (by decide)) hS_2) (cwV (bytes := cX8_set) (maxL := 3) (ret := (some .int)) 2 S.2.2.2.2 gL_law_X8_set rfl rfl rfl (by decide +kernel) ⟨Nat.le_of_ble_eq_true rfl, Nat.le_of_ble_eq_true rfl⟩) (rfl : sh 0 = 8) rfl rfl rfl (by decide) rfl hl.1 rfl (Nat.le_of_ble_eq_true rfl) hf dL_law_73 (fun v I_3 L_3 H locs hR G => ?_)
  obtain ⟨hv, hS_3, e_3, fr_3⟩ := hR
  subst hv
  refine W.eq (g2 := F0 mg 76 ls [.int (I_2 21 4)]) rfl ?_
  refine lv_ldc (v := (1000000 : Int32)) S.1 S.2.1 S.2.2.2.1 (S.2.2.2.2 _ (List.mem_of_getElem? (i := 3) rfl)) dL_law_76 ?_
  refine lv_icmp_ne (tgt := 105) S.1 S.2.1 dL_law_78 (by decide) (fun h => absurd (by rw [e_2, upd_ne (by decide), e_1, upd_ne (by decide)]; exact h4) h) (fun _ => ?_)
  refine lv_aload_n S.1 S.2.1 dL_law_81 rfl (lv_at hl 1 rfl) ?_
  refine lv_iconst (v := (3 : Int32)) S.1 S.2.1 dL_law_82 (by decide) ?_
  refine lv_iconst (v := (2 : Int32)) S.1 S.2.1 dL_law_83 (by decide) ?_
  refine lv_aload_n S.1 S.2.1 dL_law_84 rfl (lv_at hl 2 rfl) ?_
  refine lv_iconst (v := (3 : Int32)) S.1 S.2.1 dL_law_85 (by decide) ?_
  refine s_callX (As := [.ref b, .int (3 : Int32)]) (rest := [.int (2 : Int32), .int (3 : Int32), .ref (E.2.2.2 0)]) S hX hx G (k_cell l E b Lx xs (3) hLx (by omega)) (va_cwS (bytes := cL_cell) (maxL := 2) (ret := (some .int)) 2 S.2.2.2.2 gL_law_L_cell rfl rfl rfl (by decide +kernel) ⟨Nat.le_of_ble_eq_true rfl, Nat.le_of_ble_eq_true rfl⟩) rfl hl.1 rfl (Nat.le_of_ble_eq_true rfl) hf dL_law_86 (fun v I0 L0 H locs hR G => ?_)
  obtain ⟨c3, hc3, hv, hI, hL⟩ := hR
  subst hv
  have G : GS E I_3 L_3 sg H locs := G.same hI hL
  clear hI hL
  refine W.eq (g2 := F0 mg 89 ls [.int (nI c3), .int (2 : Int32), .int (3 : Int32), .ref (E.2.2.2 0)]) rfl ?_
  refine lv_bipush (v := (20 : Int32)) S.1 S.2.1 dL_law_89 (by decide) ?_
  refine s_irem (v := (nI (c3 % 20))) S dL_law_91 (by decide) (pk_rem (a := c3) (d := 20) hc3 (by decide) (by decide)) ?_
  refine s_iadd (v := (nI (2 + (c3 % 20)))) S dL_law_92 (nI_add 2 (c3 % 20)) ?_
  refine s_callV (C := RX8) (As := [.int (3 : Int32), .int (nI (2 + (c3 % 20)))]) (rest := []) (i := 0) (kd := 8) S hX G (k_stset l E 3 (2 + c3 % 20) (by decide) (tk6_of (q := 3) (lo := 2) (hi := 100) (by decide) rfl rfl (by omega) (by omega) (by decide)) hS_3) (cwV (bytes := cX8_set) (maxL := 3) (ret := (some .int)) 2 S.2.2.2.2 gL_law_X8_set rfl rfl rfl (by decide +kernel) ⟨Nat.le_of_ble_eq_true rfl, Nat.le_of_ble_eq_true rfl⟩) (rfl : sh 0 = 8) rfl rfl rfl (by decide) rfl hl.1 rfl (Nat.le_of_ble_eq_true rfl) hf dL_law_93 (fun v I_4 L_4 H locs hR G => ?_)
  obtain ⟨hv, hS_4, e_4, fr_4⟩ := hR
  subst hv
  refine W.eq (g2 := F0 mg 96 ls [.int (I_3 21 3)]) rfl ?_
  refine lv_bipush (v := (20 : Int32)) S.1 S.2.1 dL_law_96 (by decide) ?_
  refine lv_icmp_ne (tgt := 105) S.1 S.2.1 dL_law_98 (by decide) (fun h => absurd (by rw [e_3, upd_ne (by decide), e_2, upd_ne (by decide), e_1, upd_ne (by decide)]; exact h3) h) (fun _ => ?_)
  refine lv_iconst (v := (1 : Int32)) S.1 S.2.1 dL_law_101 (by decide) ?_
  refine lv_goto (tgt := 106) S.1 S.2.1 dL_law_102 (by decide) ?_
  refine lv_istore_n (lv' := [(3, .int (1 : Int32)), (2, .int (nI (c0 % 6))), (1, .ref (E.2.2.2 0)), (0, .ref b)]) S.1 S.2.1 dL_law_106 rfl hl (by decide) rfl (fun ls hl => ?_)
  refine lv_iconst (v := (0 : Int32)) S.1 S.2.1 dL_law_107 (by decide) ?_
  refine lv_istore (lv' := [(4, .int (0 : Int32)), (3, .int (1 : Int32)), (2, .int (nI (c0 % 6))), (1, .ref (E.2.2.2 0)), (0, .ref b)]) S.1 S.2.1 dL_law_108 hl (by decide) rfl (fun ls hl => ?_)
  exact kk I_4 L_4 (c0 % 6) (by omega) hS_4 (by rw [e_4, upd_ne (by decide), e_3, upd_ne (by decide), e_2, upd_ne (by decide), e_1, upd_eq]) (fun z h1 h2 => (fr_4 z h1 h2).trans ((fr_3 z h1 h2).trans ((fr_2 z h1 h2).trans (fr_1 z h1 h2)))) _ _ _ G (lv_sub hl [0, 1, 2, 3, 4] rfl)
