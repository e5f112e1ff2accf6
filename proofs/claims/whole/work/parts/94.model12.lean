set_option maxHeartbeats 4000000 in
set_option maxRecDepth 100000 in
theorem k_X9_load_0_0 (l : Launch) (E : Ev) {I : SI} {L : SL} (d : Nat → Int32) (e_d : I (162) = d) : CS l yX9_load wsX9_load ({ frames := 2, cells := 0, slots := 0, locals := 45 }) E [.ref (E.2.2.2 161), .int (0 : Int32), .int (0 : Int32)] I L (fun vv I' L' => vv = some (.int (d 40)) ∧ I' = I ∧ L' = L) := by
  refine CS.of (cc := cX9_load) (maxL := 4) (ret := (some .int)) (by decide) rfl (Nat.le_of_ble_eq_true rfl) ?_
  intro pg en sg mg below meth cg ls S hr hlk hX G hl
  have S : CallFix pg mg cg cX9_load 4 sg _ wsX9_load RX9 := S
  have hl : lv_has ls 4 [(0, .ref (E.2.2.2 161)), (1, .int (0 : Int32)), (2, .int (0 : Int32))] := hl
  refine lv_iload_n S.1 S.2.1 dX9_load_0 rfl (lv_at hl 1 rfl) ?_
  refine s_callS (As := [.int (0 : Int32)]) (rest := []) S hX G (k_X9_isLoad l E (0 : Int32)) (va_cwS (bytes := cX9_isLoad) (maxL := 1) (ret := (some .boolean)) 1 S.2.2.2.2 gX9_load_X9_isLoad rfl rfl rfl (by decide +kernel) ⟨Nat.le_of_ble_eq_true rfl, Nat.le_of_ble_eq_true rfl⟩) rfl hl.1 rfl (Nat.le_of_ble_eq_true rfl) ⟨Nat.zero_le _, Nat.zero_le _⟩ dX9_load_1 (fun v I1 L1 H locs hR G => ?_)
  obtain ⟨hv, hI, hL⟩ := hR
  subst hv
  have G : GS E I L sg H locs := G.same hI hL
  refine W.eq (g2 := F0 mg 4 ls [.int (if ¬ (0 : Int32) < (0 : Int32) ∧ ¬ (1 : Int32) < (0 : Int32) then 1 else 0)]) rfl ?_
  refine s_if_eq_b (P := ¬ (0 : Int32) < (0 : Int32) ∧ ¬ (1 : Int32) < (0 : Int32)) (tgt := 19) S dX9_load_4 (by decide) (fun h => absurd (by decide) h) (fun _ => ?_)
  refine lv_iload_n S.1 S.2.1 dX9_load_7 rfl (lv_at hl 2 rfl) ?_
  refine lv_i2l (v := (0 : Int64)) S.1 S.2.1 dX9_load_8 (by decide) ?_
  refine lv_lconst (v := (0 : Int64)) S.1 S.2.1 dX9_load_9 (by decide) ?_
  refine lv_ldc2 (v := (11 : Int64)) S.1 S.2.1 S.2.2.2.1 (S.2.2.2.2 _ (List.mem_of_getElem? (i := 1) rfl)) dX9_load_10 ?_
  refine s_callS (As := [.long (0 : Int64), .long (0 : Int64), .long (11 : Int64)]) (rest := []) S hX G (k_X9_in l E (0 : Int64) (0 : Int64) (11 : Int64)) (va_cwS (bytes := cX9_in) (maxL := 6) (ret := (some .boolean)) 3 S.2.2.2.2 gX9_load_X9_in rfl rfl rfl (by decide +kernel) ⟨Nat.le_of_ble_eq_true rfl, Nat.le_of_ble_eq_true rfl⟩) rfl hl.1 rfl (Nat.le_of_ble_eq_true rfl) ⟨Nat.zero_le _, Nat.zero_le _⟩ dX9_load_13 (fun v I1 L1 H locs hR G => ?_)
  obtain ⟨hv, hI, hL⟩ := hR
  subst hv
  have G : GS E I L sg H locs := G.same hI hL
  refine W.eq (g2 := F0 mg 16 ls [.int (if ¬ (0 : Int64) < (0 : Int64) ∧ ¬ (11 : Int64) < (0 : Int64) then 1 else 0)]) rfl ?_
  refine s_if_ne_b (P := ¬ (0 : Int64) < (0 : Int64) ∧ ¬ (11 : Int64) < (0 : Int64)) (tgt := 22) S dX9_load_16 (by decide) (fun _ => ?_) (fun h => absurd (by decide) h)
  refine lv_aload_n S.1 S.2.1 dX9_load_22 rfl (lv_at hl 0 rfl) ?_
  refine s_get S hX G (i := 161) (kd := 9) (a := (I 161)) (v := .ref (E.2.2.2 162)) (C := RX9) (T := TX9) (N := 13) 0 (rfl : sh 161 = 9) rfl rfl rfl (by decide) rfl (fun _ h => (List.mem_cons_of_mem _ (List.mem_append_right _ h))) (by decide) (List.mem_of_getElem? (i := 3) rfl) (fun _ h => h) dX9_load_23 ?_
  refine lv_iload_n S.1 S.2.1 dX9_load_26 rfl (lv_at hl 1 rfl) ?_
  refine s_callS (As := [.int (0 : Int32)]) (rest := [.ref (E.2.2.2 162)]) S hX G (k_X9_loadAt_0 l E) (va_cwS (bytes := cX9_loadAt) (maxL := 1) (ret := (some .int)) 1 S.2.2.2.2 gX9_load_X9_loadAt rfl rfl rfl (by decide +kernel) ⟨Nat.le_of_ble_eq_true rfl, Nat.le_of_ble_eq_true rfl⟩) rfl hl.1 rfl (Nat.le_of_ble_eq_true rfl) ⟨Nat.zero_le _, Nat.zero_le _⟩ dX9_load_27 (fun v I1 L1 H locs hR G => ?_)
  obtain ⟨hv, hI, hL⟩ := hR
  subst hv
  have G : GS E I L sg H locs := G.same hI hL
  refine W.eq (g2 := F0 mg 30 ls [.int (40 : Int32), .ref (E.2.2.2 162)]) rfl ?_
  refine lv_iload_n S.1 S.2.1 dX9_load_30 rfl (lv_at hl 2 rfl) ?_
  refine lv_bipush (v := (11 : Int32)) S.1 S.2.1 dX9_load_31 (by decide) ?_
  refine lv_icmp_ne (tgt := 41) S.1 S.2.1 dX9_load_33 (by decide) (fun _ => ?_) (fun h => absurd h (by decide))
  refine lv_iload_n S.1 S.2.1 dX9_load_41 rfl (lv_at hl 2 rfl) ?_
  refine s_iadd (v := (40 : Int32)) S dX9_load_42 (by decide) ?_
  refine s_iald S hX G (i := 162) (kd := 284) (n := 270) (a := d) (x := (d 40)) (rfl : sh 162 = 284) e_d rfl (by decide) (by unfold vp_in; decide) (congrArg d (by decide)) dX9_load_43 ?_
  refine lv_istore_n (lv' := [(3, .int (d 40)), (0, .ref (E.2.2.2 161)), (1, .int (0 : Int32)), (2, .int (0 : Int32))]) S.1 S.2.1 dX9_load_44 rfl hl (by decide) rfl (fun ls hl => ?_)
  refine lv_iload_n S.1 S.2.1 dX9_load_45 rfl (lv_at hl 3 rfl) ?_
  refine lv_bipush (v := (9 : Int32)) S.1 S.2.1 dX9_load_46 (by decide) ?_
  refine lv_icmp_ne (tgt := 62) S.1 S.2.1 dX9_load_48 (by decide) (fun _ => ?_) (fun h => absurd h (by decide))
  refine lv_iload_n S.1 S.2.1 dX9_load_62 rfl (lv_at hl 3 rfl) ?_
  refine lv_bipush (v := (10 : Int32)) S.1 S.2.1 dX9_load_63 (by decide) ?_
  refine lv_icmp_ne (tgt := 76) S.1 S.2.1 dX9_load_65 (by decide) (fun _ => ?_) (fun h => absurd h (by decide))
  refine lv_iload_n S.1 S.2.1 dX9_load_76 rfl (lv_at hl 0 rfl) ?_
  refine s_iret (x := (d 40)) S G hr hlk dX9_load_77 ?_
  exact ⟨rfl, rfl, rfl⟩
set_option maxHeartbeats 4000000 in
set_option maxRecDepth 100000 in
theorem k_X9_load_0_1 (l : Launch) (E : Ev) {I : SI} {L : SL} (d : Nat → Int32) (e_d : I (162) = d) : CS l yX9_load wsX9_load ({ frames := 2, cells := 0, slots := 0, locals := 45 }) E [.ref (E.2.2.2 161), .int (0 : Int32), .int (1 : Int32)] I L (fun vv I' L' => vv = some (.int (d 41)) ∧ I' = I ∧ L' = L) := by
  refine CS.of (cc := cX9_load) (maxL := 4) (ret := (some .int)) (by decide) rfl (Nat.le_of_ble_eq_true rfl) ?_
  intro pg en sg mg below meth cg ls S hr hlk hX G hl
  have S : CallFix pg mg cg cX9_load 4 sg _ wsX9_load RX9 := S
  have hl : lv_has ls 4 [(0, .ref (E.2.2.2 161)), (1, .int (0 : Int32)), (2, .int (1 : Int32))] := hl
  refine lv_iload_n S.1 S.2.1 dX9_load_0 rfl (lv_at hl 1 rfl) ?_
  refine s_callS (As := [.int (0 : Int32)]) (rest := []) S hX G (k_X9_isLoad l E (0 : Int32)) (va_cwS (bytes := cX9_isLoad) (maxL := 1) (ret := (some .boolean)) 1 S.2.2.2.2 gX9_load_X9_isLoad rfl rfl rfl (by decide +kernel) ⟨Nat.le_of_ble_eq_true rfl, Nat.le_of_ble_eq_true rfl⟩) rfl hl.1 rfl (Nat.le_of_ble_eq_true rfl) ⟨Nat.zero_le _, Nat.zero_le _⟩ dX9_load_1 (fun v I1 L1 H locs hR G => ?_)
  obtain ⟨hv, hI, hL⟩ := hR
  subst hv
  have G : GS E I L sg H locs := G.same hI hL
  refine W.eq (g2 := F0 mg 4 ls [.int (if ¬ (0 : Int32) < (0 : Int32) ∧ ¬ (1 : Int32) < (0 : Int32) then 1 else 0)]) rfl ?_
  refine s_if_eq_b (P := ¬ (0 : Int32) < (0 : Int32) ∧ ¬ (1 : Int32) < (0 : Int32)) (tgt := 19) S dX9_load_4 (by decide) (fun h => absurd (by decide) h) (fun _ => ?_)
  refine lv_iload_n S.1 S.2.1 dX9_load_7 rfl (lv_at hl 2 rfl) ?_
  refine lv_i2l (v := (1 : Int64)) S.1 S.2.1 dX9_load_8 (by decide) ?_
  refine lv_lconst (v := (0 : Int64)) S.1 S.2.1 dX9_load_9 (by decide) ?_
  refine lv_ldc2 (v := (11 : Int64)) S.1 S.2.1 S.2.2.2.1 (S.2.2.2.2 _ (List.mem_of_getElem? (i := 1) rfl)) dX9_load_10 ?_
  refine s_callS (As := [.long (1 : Int64), .long (0 : Int64), .long (11 : Int64)]) (rest := []) S hX G (k_X9_in l E (1 : Int64) (0 : Int64) (11 : Int64)) (va_cwS (bytes := cX9_in) (maxL := 6) (ret := (some .boolean)) 3 S.2.2.2.2 gX9_load_X9_in rfl rfl rfl (by decide +kernel) ⟨Nat.le_of_ble_eq_true rfl, Nat.le_of_ble_eq_true rfl⟩) rfl hl.1 rfl (Nat.le_of_ble_eq_true rfl) ⟨Nat.zero_le _, Nat.zero_le _⟩ dX9_load_13 (fun v I1 L1 H locs hR G => ?_)
  obtain ⟨hv, hI, hL⟩ := hR
  subst hv
  have G : GS E I L sg H locs := G.same hI hL
  refine W.eq (g2 := F0 mg 16 ls [.int (if ¬ (1 : Int64) < (0 : Int64) ∧ ¬ (11 : Int64) < (1 : Int64) then 1 else 0)]) rfl ?_
  refine s_if_ne_b (P := ¬ (1 : Int64) < (0 : Int64) ∧ ¬ (11 : Int64) < (1 : Int64)) (tgt := 22) S dX9_load_16 (by decide) (fun _ => ?_) (fun h => absurd (by decide) h)
  refine lv_aload_n S.1 S.2.1 dX9_load_22 rfl (lv_at hl 0 rfl) ?_
  refine s_get S hX G (i := 161) (kd := 9) (a := (I 161)) (v := .ref (E.2.2.2 162)) (C := RX9) (T := TX9) (N := 13) 0 (rfl : sh 161 = 9) rfl rfl rfl (by decide) rfl (fun _ h => (List.mem_cons_of_mem _ (List.mem_append_right _ h))) (by decide) (List.mem_of_getElem? (i := 3) rfl) (fun _ h => h) dX9_load_23 ?_
  refine lv_iload_n S.1 S.2.1 dX9_load_26 rfl (lv_at hl 1 rfl) ?_
  refine s_callS (As := [.int (0 : Int32)]) (rest := [.ref (E.2.2.2 162)]) S hX G (k_X9_loadAt_0 l E) (va_cwS (bytes := cX9_loadAt) (maxL := 1) (ret := (some .int)) 1 S.2.2.2.2 gX9_load_X9_loadAt rfl rfl rfl (by decide +kernel) ⟨Nat.le_of_ble_eq_true rfl, Nat.le_of_ble_eq_true rfl⟩) rfl hl.1 rfl (Nat.le_of_ble_eq_true rfl) ⟨Nat.zero_le _, Nat.zero_le _⟩ dX9_load_27 (fun v I1 L1 H locs hR G => ?_)
  obtain ⟨hv, hI, hL⟩ := hR
  subst hv
  have G : GS E I L sg H locs := G.same hI hL
  refine W.eq (g2 := F0 mg 30 ls [.int (40 : Int32), .ref (E.2.2.2 162)]) rfl ?_
  refine lv_iload_n S.1 S.2.1 dX9_load_30 rfl (lv_at hl 2 rfl) ?_
  refine lv_bipush (v := (11 : Int32)) S.1 S.2.1 dX9_load_31 (by decide) ?_
  refine lv_icmp_ne (tgt := 41) S.1 S.2.1 dX9_load_33 (by decide) (fun _ => ?_) (fun h => absurd h (by decide))
  refine lv_iload_n S.1 S.2.1 dX9_load_41 rfl (lv_at hl 2 rfl) ?_
  refine s_iadd (v := (41 : Int32)) S dX9_load_42 (by decide) ?_
  refine s_iald S hX G (i := 162) (kd := 284) (n := 270) (a := d) (x := (d 41)) (rfl : sh 162 = 284) e_d rfl (by decide) (by unfold vp_in; decide) (congrArg d (by decide)) dX9_load_43 ?_
  refine lv_istore_n (lv' := [(3, .int (d 41)), (0, .ref (E.2.2.2 161)), (1, .int (0 : Int32)), (2, .int (1 : Int32))]) S.1 S.2.1 dX9_load_44 rfl hl (by decide) rfl (fun ls hl => ?_)
  refine lv_iload_n S.1 S.2.1 dX9_load_45 rfl (lv_at hl 3 rfl) ?_
  refine lv_bipush (v := (9 : Int32)) S.1 S.2.1 dX9_load_46 (by decide) ?_
  refine lv_icmp_ne (tgt := 62) S.1 S.2.1 dX9_load_48 (by decide) (fun _ => ?_) (fun h => absurd h (by decide))
  refine lv_iload_n S.1 S.2.1 dX9_load_62 rfl (lv_at hl 3 rfl) ?_
  refine lv_bipush (v := (10 : Int32)) S.1 S.2.1 dX9_load_63 (by decide) ?_
  refine lv_icmp_ne (tgt := 76) S.1 S.2.1 dX9_load_65 (by decide) (fun _ => ?_) (fun h => absurd h (by decide))
  refine lv_iload_n S.1 S.2.1 dX9_load_76 rfl (lv_at hl 0 rfl) ?_
  refine s_iret (x := (d 41)) S G hr hlk dX9_load_77 ?_
  exact ⟨rfl, rfl, rfl⟩
set_option maxHeartbeats 4000000 in
set_option maxRecDepth 100000 in
theorem k_X9_load_0_2 (l : Launch) (E : Ev) {I : SI} {L : SL} (d : Nat → Int32) (e_d : I (162) = d) : CS l yX9_load wsX9_load ({ frames := 2, cells := 0, slots := 0, locals := 45 }) E [.ref (E.2.2.2 161), .int (0 : Int32), .int (2 : Int32)] I L (fun vv I' L' => vv = some (.int (d 42)) ∧ I' = I ∧ L' = L) := by
  refine CS.of (cc := cX9_load) (maxL := 4) (ret := (some .int)) (by decide) rfl (Nat.le_of_ble_eq_true rfl) ?_
  intro pg en sg mg below meth cg ls S hr hlk hX G hl
  have S : CallFix pg mg cg cX9_load 4 sg _ wsX9_load RX9 := S
  have hl : lv_has ls 4 [(0, .ref (E.2.2.2 161)), (1, .int (0 : Int32)), (2, .int (2 : Int32))] := hl
  refine lv_iload_n S.1 S.2.1 dX9_load_0 rfl (lv_at hl 1 rfl) ?_
  refine s_callS (As := [.int (0 : Int32)]) (rest := []) S hX G (k_X9_isLoad l E (0 : Int32)) (va_cwS (bytes := cX9_isLoad) (maxL := 1) (ret := (some .boolean)) 1 S.2.2.2.2 gX9_load_X9_isLoad rfl rfl rfl (by decide +kernel) ⟨Nat.le_of_ble_eq_true rfl, Nat.le_of_ble_eq_true rfl⟩) rfl hl.1 rfl (Nat.le_of_ble_eq_true rfl) ⟨Nat.zero_le _, Nat.zero_le _⟩ dX9_load_1 (fun v I1 L1 H locs hR G => ?_)
  obtain ⟨hv, hI, hL⟩ := hR
  subst hv
  have G : GS E I L sg H locs := G.same hI hL
  refine W.eq (g2 := F0 mg 4 ls [.int (if ¬ (0 : Int32) < (0 : Int32) ∧ ¬ (1 : Int32) < (0 : Int32) then 1 else 0)]) rfl ?_
  refine s_if_eq_b (P := ¬ (0 : Int32) < (0 : Int32) ∧ ¬ (1 : Int32) < (0 : Int32)) (tgt := 19) S dX9_load_4 (by decide) (fun h => absurd (by decide) h) (fun _ => ?_)
  refine lv_iload_n S.1 S.2.1 dX9_load_7 rfl (lv_at hl 2 rfl) ?_
  refine lv_i2l (v := (2 : Int64)) S.1 S.2.1 dX9_load_8 (by decide) ?_
  refine lv_lconst (v := (0 : Int64)) S.1 S.2.1 dX9_load_9 (by decide) ?_
  refine lv_ldc2 (v := (11 : Int64)) S.1 S.2.1 S.2.2.2.1 (S.2.2.2.2 _ (List.mem_of_getElem? (i := 1) rfl)) dX9_load_10 ?_
  refine s_callS (As := [.long (2 : Int64), .long (0 : Int64), .long (11 : Int64)]) (rest := []) S hX G (k_X9_in l E (2 : Int64) (0 : Int64) (11 : Int64)) (va_cwS (bytes := cX9_in) (maxL := 6) (ret := (some .boolean)) 3 S.2.2.2.2 gX9_load_X9_in rfl rfl rfl (by decide +kernel) ⟨Nat.le_of_ble_eq_true rfl, Nat.le_of_ble_eq_true rfl⟩) rfl hl.1 rfl (Nat.le_of_ble_eq_true rfl) ⟨Nat.zero_le _, Nat.zero_le _⟩ dX9_load_13 (fun v I1 L1 H locs hR G => ?_)
  obtain ⟨hv, hI, hL⟩ := hR
  subst hv
  have G : GS E I L sg H locs := G.same hI hL
  refine W.eq (g2 := F0 mg 16 ls [.int (if ¬ (2 : Int64) < (0 : Int64) ∧ ¬ (11 : Int64) < (2 : Int64) then 1 else 0)]) rfl ?_
  refine s_if_ne_b (P := ¬ (2 : Int64) < (0 : Int64) ∧ ¬ (11 : Int64) < (2 : Int64)) (tgt := 22) S dX9_load_16 (by decide) (fun _ => ?_) (fun h => absurd (by decide) h)
  refine lv_aload_n S.1 S.2.1 dX9_load_22 rfl (lv_at hl 0 rfl) ?_
  refine s_get S hX G (i := 161) (kd := 9) (a := (I 161)) (v := .ref (E.2.2.2 162)) (C := RX9) (T := TX9) (N := 13) 0 (rfl : sh 161 = 9) rfl rfl rfl (by decide) rfl (fun _ h => (List.mem_cons_of_mem _ (List.mem_append_right _ h))) (by decide) (List.mem_of_getElem? (i := 3) rfl) (fun _ h => h) dX9_load_23 ?_
  refine lv_iload_n S.1 S.2.1 dX9_load_26 rfl (lv_at hl 1 rfl) ?_
  refine s_callS (As := [.int (0 : Int32)]) (rest := [.ref (E.2.2.2 162)]) S hX G (k_X9_loadAt_0 l E) (va_cwS (bytes := cX9_loadAt) (maxL := 1) (ret := (some .int)) 1 S.2.2.2.2 gX9_load_X9_loadAt rfl rfl rfl (by decide +kernel) ⟨Nat.le_of_ble_eq_true rfl, Nat.le_of_ble_eq_true rfl⟩) rfl hl.1 rfl (Nat.le_of_ble_eq_true rfl) ⟨Nat.zero_le _, Nat.zero_le _⟩ dX9_load_27 (fun v I1 L1 H locs hR G => ?_)
  obtain ⟨hv, hI, hL⟩ := hR
  subst hv
  have G : GS E I L sg H locs := G.same hI hL
  refine W.eq (g2 := F0 mg 30 ls [.int (40 : Int32), .ref (E.2.2.2 162)]) rfl ?_
  refine lv_iload_n S.1 S.2.1 dX9_load_30 rfl (lv_at hl 2 rfl) ?_
  refine lv_bipush (v := (11 : Int32)) S.1 S.2.1 dX9_load_31 (by decide) ?_
  refine lv_icmp_ne (tgt := 41) S.1 S.2.1 dX9_load_33 (by decide) (fun _ => ?_) (fun h => absurd h (by decide))
  refine lv_iload_n S.1 S.2.1 dX9_load_41 rfl (lv_at hl 2 rfl) ?_
  refine s_iadd (v := (42 : Int32)) S dX9_load_42 (by decide) ?_
  refine s_iald S hX G (i := 162) (kd := 284) (n := 270) (a := d) (x := (d 42)) (rfl : sh 162 = 284) e_d rfl (by decide) (by unfold vp_in; decide) (congrArg d (by decide)) dX9_load_43 ?_
  refine lv_istore_n (lv' := [(3, .int (d 42)), (0, .ref (E.2.2.2 161)), (1, .int (0 : Int32)), (2, .int (2 : Int32))]) S.1 S.2.1 dX9_load_44 rfl hl (by decide) rfl (fun ls hl => ?_)
  refine lv_iload_n S.1 S.2.1 dX9_load_45 rfl (lv_at hl 3 rfl) ?_
  refine lv_bipush (v := (9 : Int32)) S.1 S.2.1 dX9_load_46 (by decide) ?_
  refine lv_icmp_ne (tgt := 62) S.1 S.2.1 dX9_load_48 (by decide) (fun _ => ?_) (fun h => absurd h (by decide))
  refine lv_iload_n S.1 S.2.1 dX9_load_62 rfl (lv_at hl 3 rfl) ?_
  refine lv_bipush (v := (10 : Int32)) S.1 S.2.1 dX9_load_63 (by decide) ?_
  refine lv_icmp_ne (tgt := 76) S.1 S.2.1 dX9_load_65 (by decide) (fun _ => ?_) (fun h => absurd h (by decide))
  refine lv_iload_n S.1 S.2.1 dX9_load_76 rfl (lv_at hl 0 rfl) ?_
  refine s_iret (x := (d 42)) S G hr hlk dX9_load_77 ?_
  exact ⟨rfl, rfl, rfl⟩
set_option maxHeartbeats 4000000 in
set_option maxRecDepth 100000 in
theorem k_X9_load_0_3 (l : Launch) (E : Ev) {I : SI} {L : SL} (d : Nat → Int32) (e_d : I (162) = d) : CS l yX9_load wsX9_load ({ frames := 2, cells := 0, slots := 0, locals := 45 }) E [.ref (E.2.2.2 161), .int (0 : Int32), .int (3 : Int32)] I L (fun vv I' L' => vv = some (.int (d 43)) ∧ I' = I ∧ L' = L) := by
  refine CS.of (cc := cX9_load) (maxL := 4) (ret := (some .int)) (by decide) rfl (Nat.le_of_ble_eq_true rfl) ?_
  intro pg en sg mg below meth cg ls S hr hlk hX G hl
  have S : CallFix pg mg cg cX9_load 4 sg _ wsX9_load RX9 := S
  have hl : lv_has ls 4 [(0, .ref (E.2.2.2 161)), (1, .int (0 : Int32)), (2, .int (3 : Int32))] := hl
  refine lv_iload_n S.1 S.2.1 dX9_load_0 rfl (lv_at hl 1 rfl) ?_
  refine s_callS (As := [.int (0 : Int32)]) (rest := []) S hX G (k_X9_isLoad l E (0 : Int32)) (va_cwS (bytes := cX9_isLoad) (maxL := 1) (ret := (some .boolean)) 1 S.2.2.2.2 gX9_load_X9_isLoad rfl rfl rfl (by decide +kernel) ⟨Nat.le_of_ble_eq_true rfl, Nat.le_of_ble_eq_true rfl⟩) rfl hl.1 rfl (Nat.le_of_ble_eq_true rfl) ⟨Nat.zero_le _, Nat.zero_le _⟩ dX9_load_1 (fun v I1 L1 H locs hR G => ?_)
  obtain ⟨hv, hI, hL⟩ := hR
  subst hv
  have G : GS E I L sg H locs := G.same hI hL
  refine W.eq (g2 := F0 mg 4 ls [.int (if ¬ (0 : Int32) < (0 : Int32) ∧ ¬ (1 : Int32) < (0 : Int32) then 1 else 0)]) rfl ?_
  refine s_if_eq_b (P := ¬ (0 : Int32) < (0 : Int32) ∧ ¬ (1 : Int32) < (0 : Int32)) (tgt := 19) S dX9_load_4 (by decide) (fun h => absurd (by decide) h) (fun _ => ?_)
  refine lv_iload_n S.1 S.2.1 dX9_load_7 rfl (lv_at hl 2 rfl) ?_
  refine lv_i2l (v := (3 : Int64)) S.1 S.2.1 dX9_load_8 (by decide) ?_
  refine lv_lconst (v := (0 : Int64)) S.1 S.2.1 dX9_load_9 (by decide) ?_
  refine lv_ldc2 (v := (11 : Int64)) S.1 S.2.1 S.2.2.2.1 (S.2.2.2.2 _ (List.mem_of_getElem? (i := 1) rfl)) dX9_load_10 ?_
  refine s_callS (As := [.long (3 : Int64), .long (0 : Int64), .long (11 : Int64)]) (rest := []) S hX G (k_X9_in l E (3 : Int64) (0 : Int64) (11 : Int64)) (va_cwS (bytes := cX9_in) (maxL := 6) (ret := (some .boolean)) 3 S.2.2.2.2 gX9_load_X9_in rfl rfl rfl (by decide +kernel) ⟨Nat.le_of_ble_eq_true rfl, Nat.le_of_ble_eq_true rfl⟩) rfl hl.1 rfl (Nat.le_of_ble_eq_true rfl) ⟨Nat.zero_le _, Nat.zero_le _⟩ dX9_load_13 (fun v I1 L1 H locs hR G => ?_)
  obtain ⟨hv, hI, hL⟩ := hR
  subst hv
  have G : GS E I L sg H locs := G.same hI hL
  refine W.eq (g2 := F0 mg 16 ls [.int (if ¬ (3 : Int64) < (0 : Int64) ∧ ¬ (11 : Int64) < (3 : Int64) then 1 else 0)]) rfl ?_
  refine s_if_ne_b (P := ¬ (3 : Int64) < (0 : Int64) ∧ ¬ (11 : Int64) < (3 : Int64)) (tgt := 22) S dX9_load_16 (by decide) (fun _ => ?_) (fun h => absurd (by decide) h)
  refine lv_aload_n S.1 S.2.1 dX9_load_22 rfl (lv_at hl 0 rfl) ?_
  refine s_get S hX G (i := 161) (kd := 9) (a := (I 161)) (v := .ref (E.2.2.2 162)) (C := RX9) (T := TX9) (N := 13) 0 (rfl : sh 161 = 9) rfl rfl rfl (by decide) rfl (fun _ h => (List.mem_cons_of_mem _ (List.mem_append_right _ h))) (by decide) (List.mem_of_getElem? (i := 3) rfl) (fun _ h => h) dX9_load_23 ?_
  refine lv_iload_n S.1 S.2.1 dX9_load_26 rfl (lv_at hl 1 rfl) ?_
  refine s_callS (As := [.int (0 : Int32)]) (rest := [.ref (E.2.2.2 162)]) S hX G (k_X9_loadAt_0 l E) (va_cwS (bytes := cX9_loadAt) (maxL := 1) (ret := (some .int)) 1 S.2.2.2.2 gX9_load_X9_loadAt rfl rfl rfl (by decide +kernel) ⟨Nat.le_of_ble_eq_true rfl, Nat.le_of_ble_eq_true rfl⟩) rfl hl.1 rfl (Nat.le_of_ble_eq_true rfl) ⟨Nat.zero_le _, Nat.zero_le _⟩ dX9_load_27 (fun v I1 L1 H locs hR G => ?_)
  obtain ⟨hv, hI, hL⟩ := hR
  subst hv
  have G : GS E I L sg H locs := G.same hI hL
  refine W.eq (g2 := F0 mg 30 ls [.int (40 : Int32), .ref (E.2.2.2 162)]) rfl ?_
  refine lv_iload_n S.1 S.2.1 dX9_load_30 rfl (lv_at hl 2 rfl) ?_
  refine lv_bipush (v := (11 : Int32)) S.1 S.2.1 dX9_load_31 (by decide) ?_
  refine lv_icmp_ne (tgt := 41) S.1 S.2.1 dX9_load_33 (by decide) (fun _ => ?_) (fun h => absurd h (by decide))
  refine lv_iload_n S.1 S.2.1 dX9_load_41 rfl (lv_at hl 2 rfl) ?_
  refine s_iadd (v := (43 : Int32)) S dX9_load_42 (by decide) ?_
  refine s_iald S hX G (i := 162) (kd := 284) (n := 270) (a := d) (x := (d 43)) (rfl : sh 162 = 284) e_d rfl (by decide) (by unfold vp_in; decide) (congrArg d (by decide)) dX9_load_43 ?_
  refine lv_istore_n (lv' := [(3, .int (d 43)), (0, .ref (E.2.2.2 161)), (1, .int (0 : Int32)), (2, .int (3 : Int32))]) S.1 S.2.1 dX9_load_44 rfl hl (by decide) rfl (fun ls hl => ?_)
  refine lv_iload_n S.1 S.2.1 dX9_load_45 rfl (lv_at hl 3 rfl) ?_
  refine lv_bipush (v := (9 : Int32)) S.1 S.2.1 dX9_load_46 (by decide) ?_
  refine lv_icmp_ne (tgt := 62) S.1 S.2.1 dX9_load_48 (by decide) (fun _ => ?_) (fun h => absurd h (by decide))
  refine lv_iload_n S.1 S.2.1 dX9_load_62 rfl (lv_at hl 3 rfl) ?_
  refine lv_bipush (v := (10 : Int32)) S.1 S.2.1 dX9_load_63 (by decide) ?_
  refine lv_icmp_ne (tgt := 76) S.1 S.2.1 dX9_load_65 (by decide) (fun _ => ?_) (fun h => absurd h (by decide))
  refine lv_iload_n S.1 S.2.1 dX9_load_76 rfl (lv_at hl 0 rfl) ?_
  refine s_iret (x := (d 43)) S G hr hlk dX9_load_77 ?_
  exact ⟨rfl, rfl, rfl⟩
set_option maxHeartbeats 4000000 in
set_option maxRecDepth 100000 in
theorem k_X9_load_0_4 (l : Launch) (E : Ev) {I : SI} {L : SL} (d : Nat → Int32) (e_d : I (162) = d) : CS l yX9_load wsX9_load ({ frames := 2, cells := 0, slots := 0, locals := 45 }) E [.ref (E.2.2.2 161), .int (0 : Int32), .int (4 : Int32)] I L (fun vv I' L' => vv = some (.int (d 44)) ∧ I' = I ∧ L' = L) := by
  refine CS.of (cc := cX9_load) (maxL := 4) (ret := (some .int)) (by decide) rfl (Nat.le_of_ble_eq_true rfl) ?_
  intro pg en sg mg below meth cg ls S hr hlk hX G hl
  have S : CallFix pg mg cg cX9_load 4 sg _ wsX9_load RX9 := S
  have hl : lv_has ls 4 [(0, .ref (E.2.2.2 161)), (1, .int (0 : Int32)), (2, .int (4 : Int32))] := hl
  refine lv_iload_n S.1 S.2.1 dX9_load_0 rfl (lv_at hl 1 rfl) ?_
  refine s_callS (As := [.int (0 : Int32)]) (rest := []) S hX G (k_X9_isLoad l E (0 : Int32)) (va_cwS (bytes := cX9_isLoad) (maxL := 1) (ret := (some .boolean)) 1 S.2.2.2.2 gX9_load_X9_isLoad rfl rfl rfl (by decide +kernel) ⟨Nat.le_of_ble_eq_true rfl, Nat.le_of_ble_eq_true rfl⟩) rfl hl.1 rfl (Nat.le_of_ble_eq_true rfl) ⟨Nat.zero_le _, Nat.zero_le _⟩ dX9_load_1 (fun v I1 L1 H locs hR G => ?_)
  obtain ⟨hv, hI, hL⟩ := hR
  subst hv
  have G : GS E I L sg H locs := G.same hI hL
  refine W.eq (g2 := F0 mg 4 ls [.int (if ¬ (0 : Int32) < (0 : Int32) ∧ ¬ (1 : Int32) < (0 : Int32) then 1 else 0)]) rfl ?_
  refine s_if_eq_b (P := ¬ (0 : Int32) < (0 : Int32) ∧ ¬ (1 : Int32) < (0 : Int32)) (tgt := 19) S dX9_load_4 (by decide) (fun h => absurd (by decide) h) (fun _ => ?_)
  refine lv_iload_n S.1 S.2.1 dX9_load_7 rfl (lv_at hl 2 rfl) ?_
  refine lv_i2l (v := (4 : Int64)) S.1 S.2.1 dX9_load_8 (by decide) ?_
  refine lv_lconst (v := (0 : Int64)) S.1 S.2.1 dX9_load_9 (by decide) ?_
  refine lv_ldc2 (v := (11 : Int64)) S.1 S.2.1 S.2.2.2.1 (S.2.2.2.2 _ (List.mem_of_getElem? (i := 1) rfl)) dX9_load_10 ?_
  refine s_callS (As := [.long (4 : Int64), .long (0 : Int64), .long (11 : Int64)]) (rest := []) S hX G (k_X9_in l E (4 : Int64) (0 : Int64) (11 : Int64)) (va_cwS (bytes := cX9_in) (maxL := 6) (ret := (some .boolean)) 3 S.2.2.2.2 gX9_load_X9_in rfl rfl rfl (by decide +kernel) ⟨Nat.le_of_ble_eq_true rfl, Nat.le_of_ble_eq_true rfl⟩) rfl hl.1 rfl (Nat.le_of_ble_eq_true rfl) ⟨Nat.zero_le _, Nat.zero_le _⟩ dX9_load_13 (fun v I1 L1 H locs hR G => ?_)
  obtain ⟨hv, hI, hL⟩ := hR
  subst hv
  have G : GS E I L sg H locs := G.same hI hL
  refine W.eq (g2 := F0 mg 16 ls [.int (if ¬ (4 : Int64) < (0 : Int64) ∧ ¬ (11 : Int64) < (4 : Int64) then 1 else 0)]) rfl ?_
  refine s_if_ne_b (P := ¬ (4 : Int64) < (0 : Int64) ∧ ¬ (11 : Int64) < (4 : Int64)) (tgt := 22) S dX9_load_16 (by decide) (fun _ => ?_) (fun h => absurd (by decide) h)
  refine lv_aload_n S.1 S.2.1 dX9_load_22 rfl (lv_at hl 0 rfl) ?_
  refine s_get S hX G (i := 161) (kd := 9) (a := (I 161)) (v := .ref (E.2.2.2 162)) (C := RX9) (T := TX9) (N := 13) 0 (rfl : sh 161 = 9) rfl rfl rfl (by decide) rfl (fun _ h => (List.mem_cons_of_mem _ (List.mem_append_right _ h))) (by decide) (List.mem_of_getElem? (i := 3) rfl) (fun _ h => h) dX9_load_23 ?_
  refine lv_iload_n S.1 S.2.1 dX9_load_26 rfl (lv_at hl 1 rfl) ?_
  refine s_callS (As := [.int (0 : Int32)]) (rest := [.ref (E.2.2.2 162)]) S hX G (k_X9_loadAt_0 l E) (va_cwS (bytes := cX9_loadAt) (maxL := 1) (ret := (some .int)) 1 S.2.2.2.2 gX9_load_X9_loadAt rfl rfl rfl (by decide +kernel) ⟨Nat.le_of_ble_eq_true rfl, Nat.le_of_ble_eq_true rfl⟩) rfl hl.1 rfl (Nat.le_of_ble_eq_true rfl) ⟨Nat.zero_le _, Nat.zero_le _⟩ dX9_load_27 (fun v I1 L1 H locs hR G => ?_)
  obtain ⟨hv, hI, hL⟩ := hR
  subst hv
  have G : GS E I L sg H locs := G.same hI hL
  refine W.eq (g2 := F0 mg 30 ls [.int (40 : Int32), .ref (E.2.2.2 162)]) rfl ?_
  refine lv_iload_n S.1 S.2.1 dX9_load_30 rfl (lv_at hl 2 rfl) ?_
  refine lv_bipush (v := (11 : Int32)) S.1 S.2.1 dX9_load_31 (by decide) ?_
  refine lv_icmp_ne (tgt := 41) S.1 S.2.1 dX9_load_33 (by decide) (fun _ => ?_) (fun h => absurd h (by decide))
  refine lv_iload_n S.1 S.2.1 dX9_load_41 rfl (lv_at hl 2 rfl) ?_
  refine s_iadd (v := (44 : Int32)) S dX9_load_42 (by decide) ?_
  refine s_iald S hX G (i := 162) (kd := 284) (n := 270) (a := d) (x := (d 44)) (rfl : sh 162 = 284) e_d rfl (by decide) (by unfold vp_in; decide) (congrArg d (by decide)) dX9_load_43 ?_
  refine lv_istore_n (lv' := [(3, .int (d 44)), (0, .ref (E.2.2.2 161)), (1, .int (0 : Int32)), (2, .int (4 : Int32))]) S.1 S.2.1 dX9_load_44 rfl hl (by decide) rfl (fun ls hl => ?_)
  refine lv_iload_n S.1 S.2.1 dX9_load_45 rfl (lv_at hl 3 rfl) ?_
  refine lv_bipush (v := (9 : Int32)) S.1 S.2.1 dX9_load_46 (by decide) ?_
  refine lv_icmp_ne (tgt := 62) S.1 S.2.1 dX9_load_48 (by decide) (fun _ => ?_) (fun h => absurd h (by decide))
  refine lv_iload_n S.1 S.2.1 dX9_load_62 rfl (lv_at hl 3 rfl) ?_
  refine lv_bipush (v := (10 : Int32)) S.1 S.2.1 dX9_load_63 (by decide) ?_
  refine lv_icmp_ne (tgt := 76) S.1 S.2.1 dX9_load_65 (by decide) (fun _ => ?_) (fun h => absurd h (by decide))
  refine lv_iload_n S.1 S.2.1 dX9_load_76 rfl (lv_at hl 0 rfl) ?_
  refine s_iret (x := (d 44)) S G hr hlk dX9_load_77 ?_
  exact ⟨rfl, rfl, rfl⟩
set_option maxHeartbeats 4000000 in
set_option maxRecDepth 100000 in
theorem k_X9_load_0_5 (l : Launch) (E : Ev) {I : SI} {L : SL} (d : Nat → Int32) (e_d : I (162) = d) : CS l yX9_load wsX9_load ({ frames := 2, cells := 0, slots := 0, locals := 45 }) E [.ref (E.2.2.2 161), .int (0 : Int32), .int (5 : Int32)] I L (fun vv I' L' => vv = some (.int (d 45)) ∧ I' = I ∧ L' = L) := by
  refine CS.of (cc := cX9_load) (maxL := 4) (ret := (some .int)) (by decide) rfl (Nat.le_of_ble_eq_true rfl) ?_
  intro pg en sg mg below meth cg ls S hr hlk hX G hl
  have S : CallFix pg mg cg cX9_load 4 sg _ wsX9_load RX9 := S
  have hl : lv_has ls 4 [(0, .ref (E.2.2.2 161)), (1, .int (0 : Int32)), (2, .int (5 : Int32))] := hl
  refine lv_iload_n S.1 S.2.1 dX9_load_0 rfl (lv_at hl 1 rfl) ?_
  refine s_callS (As := [.int (0 : Int32)]) (rest := []) S hX G (k_X9_isLoad l E (0 : Int32)) (va_cwS (bytes := cX9_isLoad) (maxL := 1) (ret := (some .boolean)) 1 S.2.2.2.2 gX9_load_X9_isLoad rfl rfl rfl (by decide +kernel) ⟨Nat.le_of_ble_eq_true rfl, Nat.le_of_ble_eq_true rfl⟩) rfl hl.1 rfl (Nat.le_of_ble_eq_true rfl) ⟨Nat.zero_le _, Nat.zero_le _⟩ dX9_load_1 (fun v I1 L1 H locs hR G => ?_)
  obtain ⟨hv, hI, hL⟩ := hR
  subst hv
  have G : GS E I L sg H locs := G.same hI hL
  refine W.eq (g2 := F0 mg 4 ls [.int (if ¬ (0 : Int32) < (0 : Int32) ∧ ¬ (1 : Int32) < (0 : Int32) then 1 else 0)]) rfl ?_
  refine s_if_eq_b (P := ¬ (0 : Int32) < (0 : Int32) ∧ ¬ (1 : Int32) < (0 : Int32)) (tgt := 19) S dX9_load_4 (by decide) (fun h => absurd (by decide) h) (fun _ => ?_)
  refine lv_iload_n S.1 S.2.1 dX9_load_7 rfl (lv_at hl 2 rfl) ?_
  refine lv_i2l (v := (5 : Int64)) S.1 S.2.1 dX9_load_8 (by decide) ?_
  refine lv_lconst (v := (0 : Int64)) S.1 S.2.1 dX9_load_9 (by decide) ?_
  refine lv_ldc2 (v := (11 : Int64)) S.1 S.2.1 S.2.2.2.1 (S.2.2.2.2 _ (List.mem_of_getElem? (i := 1) rfl)) dX9_load_10 ?_
  refine s_callS (As := [.long (5 : Int64), .long (0 : Int64), .long (11 : Int64)]) (rest := []) S hX G (k_X9_in l E (5 : Int64) (0 : Int64) (11 : Int64)) (va_cwS (bytes := cX9_in) (maxL := 6) (ret := (some .boolean)) 3 S.2.2.2.2 gX9_load_X9_in rfl rfl rfl (by decide +kernel) ⟨Nat.le_of_ble_eq_true rfl, Nat.le_of_ble_eq_true rfl⟩) rfl hl.1 rfl (Nat.le_of_ble_eq_true rfl) ⟨Nat.zero_le _, Nat.zero_le _⟩ dX9_load_13 (fun v I1 L1 H locs hR G => ?_)
  obtain ⟨hv, hI, hL⟩ := hR
  subst hv
  have G : GS E I L sg H locs := G.same hI hL
  refine W.eq (g2 := F0 mg 16 ls [.int (if ¬ (5 : Int64) < (0 : Int64) ∧ ¬ (11 : Int64) < (5 : Int64) then 1 else 0)]) rfl ?_
  refine s_if_ne_b (P := ¬ (5 : Int64) < (0 : Int64) ∧ ¬ (11 : Int64) < (5 : Int64)) (tgt := 22) S dX9_load_16 (by decide) (fun _ => ?_) (fun h => absurd (by decide) h)
  refine lv_aload_n S.1 S.2.1 dX9_load_22 rfl (lv_at hl 0 rfl) ?_
  refine s_get S hX G (i := 161) (kd := 9) (a := (I 161)) (v := .ref (E.2.2.2 162)) (C := RX9) (T := TX9) (N := 13) 0 (rfl : sh 161 = 9) rfl rfl rfl (by decide) rfl (fun _ h => (List.mem_cons_of_mem _ (List.mem_append_right _ h))) (by decide) (List.mem_of_getElem? (i := 3) rfl) (fun _ h => h) dX9_load_23 ?_
  refine lv_iload_n S.1 S.2.1 dX9_load_26 rfl (lv_at hl 1 rfl) ?_
  refine s_callS (As := [.int (0 : Int32)]) (rest := [.ref (E.2.2.2 162)]) S hX G (k_X9_loadAt_0 l E) (va_cwS (bytes := cX9_loadAt) (maxL := 1) (ret := (some .int)) 1 S.2.2.2.2 gX9_load_X9_loadAt rfl rfl rfl (by decide +kernel) ⟨Nat.le_of_ble_eq_true rfl, Nat.le_of_ble_eq_true rfl⟩) rfl hl.1 rfl (Nat.le_of_ble_eq_true rfl) ⟨Nat.zero_le _, Nat.zero_le _⟩ dX9_load_27 (fun v I1 L1 H locs hR G => ?_)
  obtain ⟨hv, hI, hL⟩ := hR
  subst hv
  have G : GS E I L sg H locs := G.same hI hL
  refine W.eq (g2 := F0 mg 30 ls [.int (40 : Int32), .ref (E.2.2.2 162)]) rfl ?_
  refine lv_iload_n S.1 S.2.1 dX9_load_30 rfl (lv_at hl 2 rfl) ?_
  refine lv_bipush (v := (11 : Int32)) S.1 S.2.1 dX9_load_31 (by decide) ?_
  refine lv_icmp_ne (tgt := 41) S.1 S.2.1 dX9_load_33 (by decide) (fun _ => ?_) (fun h => absurd h (by decide))
  refine lv_iload_n S.1 S.2.1 dX9_load_41 rfl (lv_at hl 2 rfl) ?_
  refine s_iadd (v := (45 : Int32)) S dX9_load_42 (by decide) ?_
  refine s_iald S hX G (i := 162) (kd := 284) (n := 270) (a := d) (x := (d 45)) (rfl : sh 162 = 284) e_d rfl (by decide) (by unfold vp_in; decide) (congrArg d (by decide)) dX9_load_43 ?_
  refine lv_istore_n (lv' := [(3, .int (d 45)), (0, .ref (E.2.2.2 161)), (1, .int (0 : Int32)), (2, .int (5 : Int32))]) S.1 S.2.1 dX9_load_44 rfl hl (by decide) rfl (fun ls hl => ?_)
  refine lv_iload_n S.1 S.2.1 dX9_load_45 rfl (lv_at hl 3 rfl) ?_
  refine lv_bipush (v := (9 : Int32)) S.1 S.2.1 dX9_load_46 (by decide) ?_
  refine lv_icmp_ne (tgt := 62) S.1 S.2.1 dX9_load_48 (by decide) (fun _ => ?_) (fun h => absurd h (by decide))
  refine lv_iload_n S.1 S.2.1 dX9_load_62 rfl (lv_at hl 3 rfl) ?_
  refine lv_bipush (v := (10 : Int32)) S.1 S.2.1 dX9_load_63 (by decide) ?_
  refine lv_icmp_ne (tgt := 76) S.1 S.2.1 dX9_load_65 (by decide) (fun _ => ?_) (fun h => absurd h (by decide))
  refine lv_iload_n S.1 S.2.1 dX9_load_76 rfl (lv_at hl 0 rfl) ?_
  refine s_iret (x := (d 45)) S G hr hlk dX9_load_77 ?_
  exact ⟨rfl, rfl, rfl⟩
set_option maxHeartbeats 4000000 in
set_option maxRecDepth 100000 in
theorem k_X9_load_0_6 (l : Launch) (E : Ev) {I : SI} {L : SL} (d : Nat → Int32) (e_d : I (162) = d) : CS l yX9_load wsX9_load ({ frames := 2, cells := 0, slots := 0, locals := 45 }) E [.ref (E.2.2.2 161), .int (0 : Int32), .int (6 : Int32)] I L (fun vv I' L' => vv = some (.int (d 46)) ∧ I' = I ∧ L' = L) := by
  refine CS.of (cc := cX9_load) (maxL := 4) (ret := (some .int)) (by decide) rfl (Nat.le_of_ble_eq_true rfl) ?_
  intro pg en sg mg below meth cg ls S hr hlk hX G hl
  have S : CallFix pg mg cg cX9_load 4 sg _ wsX9_load RX9 := S
  have hl : lv_has ls 4 [(0, .ref (E.2.2.2 161)), (1, .int (0 : Int32)), (2, .int (6 : Int32))] := hl
  refine lv_iload_n S.1 S.2.1 dX9_load_0 rfl (lv_at hl 1 rfl) ?_
  refine s_callS (As := [.int (0 : Int32)]) (rest := []) S hX G (k_X9_isLoad l E (0 : Int32)) (va_cwS (bytes := cX9_isLoad) (maxL := 1) (ret := (some .boolean)) 1 S.2.2.2.2 gX9_load_X9_isLoad rfl rfl rfl (by decide +kernel) ⟨Nat.le_of_ble_eq_true rfl, Nat.le_of_ble_eq_true rfl⟩) rfl hl.1 rfl (Nat.le_of_ble_eq_true rfl) ⟨Nat.zero_le _, Nat.zero_le _⟩ dX9_load_1 (fun v I1 L1 H locs hR G => ?_)
  obtain ⟨hv, hI, hL⟩ := hR
  subst hv
  have G : GS E I L sg H locs := G.same hI hL
  refine W.eq (g2 := F0 mg 4 ls [.int (if ¬ (0 : Int32) < (0 : Int32) ∧ ¬ (1 : Int32) < (0 : Int32) then 1 else 0)]) rfl ?_
  refine s_if_eq_b (P := ¬ (0 : Int32) < (0 : Int32) ∧ ¬ (1 : Int32) < (0 : Int32)) (tgt := 19) S dX9_load_4 (by decide) (fun h => absurd (by decide) h) (fun _ => ?_)
  refine lv_iload_n S.1 S.2.1 dX9_load_7 rfl (lv_at hl 2 rfl) ?_
  refine lv_i2l (v := (6 : Int64)) S.1 S.2.1 dX9_load_8 (by decide) ?_
  refine lv_lconst (v := (0 : Int64)) S.1 S.2.1 dX9_load_9 (by decide) ?_
  refine lv_ldc2 (v := (11 : Int64)) S.1 S.2.1 S.2.2.2.1 (S.2.2.2.2 _ (List.mem_of_getElem? (i := 1) rfl)) dX9_load_10 ?_
  refine s_callS (As := [.long (6 : Int64), .long (0 : Int64), .long (11 : Int64)]) (rest := []) S hX G (k_X9_in l E (6 : Int64) (0 : Int64) (11 : Int64)) (va_cwS (bytes := cX9_in) (maxL := 6) (ret := (some .boolean)) 3 S.2.2.2.2 gX9_load_X9_in rfl rfl rfl (by decide +kernel) ⟨Nat.le_of_ble_eq_true rfl, Nat.le_of_ble_eq_true rfl⟩) rfl hl.1 rfl (Nat.le_of_ble_eq_true rfl) ⟨Nat.zero_le _, Nat.zero_le _⟩ dX9_load_13 (fun v I1 L1 H locs hR G => ?_)
  obtain ⟨hv, hI, hL⟩ := hR
  subst hv
  have G : GS E I L sg H locs := G.same hI hL
  refine W.eq (g2 := F0 mg 16 ls [.int (if ¬ (6 : Int64) < (0 : Int64) ∧ ¬ (11 : Int64) < (6 : Int64) then 1 else 0)]) rfl ?_
  refine s_if_ne_b (P := ¬ (6 : Int64) < (0 : Int64) ∧ ¬ (11 : Int64) < (6 : Int64)) (tgt := 22) S dX9_load_16 (by decide) (fun _ => ?_) (fun h => absurd (by decide) h)
  refine lv_aload_n S.1 S.2.1 dX9_load_22 rfl (lv_at hl 0 rfl) ?_
  refine s_get S hX G (i := 161) (kd := 9) (a := (I 161)) (v := .ref (E.2.2.2 162)) (C := RX9) (T := TX9) (N := 13) 0 (rfl : sh 161 = 9) rfl rfl rfl (by decide) rfl (fun _ h => (List.mem_cons_of_mem _ (List.mem_append_right _ h))) (by decide) (List.mem_of_getElem? (i := 3) rfl) (fun _ h => h) dX9_load_23 ?_
  refine lv_iload_n S.1 S.2.1 dX9_load_26 rfl (lv_at hl 1 rfl) ?_
  refine s_callS (As := [.int (0 : Int32)]) (rest := [.ref (E.2.2.2 162)]) S hX G (k_X9_loadAt_0 l E) (va_cwS (bytes := cX9_loadAt) (maxL := 1) (ret := (some .int)) 1 S.2.2.2.2 gX9_load_X9_loadAt rfl rfl rfl (by decide +kernel) ⟨Nat.le_of_ble_eq_true rfl, Nat.le_of_ble_eq_true rfl⟩) rfl hl.1 rfl (Nat.le_of_ble_eq_true rfl) ⟨Nat.zero_le _, Nat.zero_le _⟩ dX9_load_27 (fun v I1 L1 H locs hR G => ?_)
  obtain ⟨hv, hI, hL⟩ := hR
  subst hv
  have G : GS E I L sg H locs := G.same hI hL
  refine W.eq (g2 := F0 mg 30 ls [.int (40 : Int32), .ref (E.2.2.2 162)]) rfl ?_
  refine lv_iload_n S.1 S.2.1 dX9_load_30 rfl (lv_at hl 2 rfl) ?_
  refine lv_bipush (v := (11 : Int32)) S.1 S.2.1 dX9_load_31 (by decide) ?_
  refine lv_icmp_ne (tgt := 41) S.1 S.2.1 dX9_load_33 (by decide) (fun _ => ?_) (fun h => absurd h (by decide))
  refine lv_iload_n S.1 S.2.1 dX9_load_41 rfl (lv_at hl 2 rfl) ?_
  refine s_iadd (v := (46 : Int32)) S dX9_load_42 (by decide) ?_
  refine s_iald S hX G (i := 162) (kd := 284) (n := 270) (a := d) (x := (d 46)) (rfl : sh 162 = 284) e_d rfl (by decide) (by unfold vp_in; decide) (congrArg d (by decide)) dX9_load_43 ?_
  refine lv_istore_n (lv' := [(3, .int (d 46)), (0, .ref (E.2.2.2 161)), (1, .int (0 : Int32)), (2, .int (6 : Int32))]) S.1 S.2.1 dX9_load_44 rfl hl (by decide) rfl (fun ls hl => ?_)
  refine lv_iload_n S.1 S.2.1 dX9_load_45 rfl (lv_at hl 3 rfl) ?_
  refine lv_bipush (v := (9 : Int32)) S.1 S.2.1 dX9_load_46 (by decide) ?_
  refine lv_icmp_ne (tgt := 62) S.1 S.2.1 dX9_load_48 (by decide) (fun _ => ?_) (fun h => absurd h (by decide))
  refine lv_iload_n S.1 S.2.1 dX9_load_62 rfl (lv_at hl 3 rfl) ?_
  refine lv_bipush (v := (10 : Int32)) S.1 S.2.1 dX9_load_63 (by decide) ?_
  refine lv_icmp_ne (tgt := 76) S.1 S.2.1 dX9_load_65 (by decide) (fun _ => ?_) (fun h => absurd h (by decide))
  refine lv_iload_n S.1 S.2.1 dX9_load_76 rfl (lv_at hl 0 rfl) ?_
  refine s_iret (x := (d 46)) S G hr hlk dX9_load_77 ?_
  exact ⟨rfl, rfl, rfl⟩
set_option maxHeartbeats 4000000 in
set_option maxRecDepth 100000 in
theorem k_X9_load_0_7 (l : Launch) (E : Ev) {I : SI} {L : SL} (d : Nat → Int32) (e_d : I (162) = d) : CS l yX9_load wsX9_load ({ frames := 2, cells := 0, slots := 0, locals := 45 }) E [.ref (E.2.2.2 161), .int (0 : Int32), .int (7 : Int32)] I L (fun vv I' L' => vv = some (.int (d 47)) ∧ I' = I ∧ L' = L) := by
  refine CS.of (cc := cX9_load) (maxL := 4) (ret := (some .int)) (by decide) rfl (Nat.le_of_ble_eq_true rfl) ?_
  intro pg en sg mg below meth cg ls S hr hlk hX G hl
  have S : CallFix pg mg cg cX9_load 4 sg _ wsX9_load RX9 := S
  have hl : lv_has ls 4 [(0, .ref (E.2.2.2 161)), (1, .int (0 : Int32)), (2, .int (7 : Int32))] := hl
  refine lv_iload_n S.1 S.2.1 dX9_load_0 rfl (lv_at hl 1 rfl) ?_
  refine s_callS (As := [.int (0 : Int32)]) (rest := []) S hX G (k_X9_isLoad l E (0 : Int32)) (va_cwS (bytes := cX9_isLoad) (maxL := 1) (ret := (some .boolean)) 1 S.2.2.2.2 gX9_load_X9_isLoad rfl rfl rfl (by decide +kernel) ⟨Nat.le_of_ble_eq_true rfl, Nat.le_of_ble_eq_true rfl⟩) rfl hl.1 rfl (Nat.le_of_ble_eq_true rfl) ⟨Nat.zero_le _, Nat.zero_le _⟩ dX9_load_1 (fun v I1 L1 H locs hR G => ?_)
  obtain ⟨hv, hI, hL⟩ := hR
  subst hv
  have G : GS E I L sg H locs := G.same hI hL
  refine W.eq (g2 := F0 mg 4 ls [.int (if ¬ (0 : Int32) < (0 : Int32) ∧ ¬ (1 : Int32) < (0 : Int32) then 1 else 0)]) rfl ?_
  refine s_if_eq_b (P := ¬ (0 : Int32) < (0 : Int32) ∧ ¬ (1 : Int32) < (0 : Int32)) (tgt := 19) S dX9_load_4 (by decide) (fun h => absurd (by decide) h) (fun _ => ?_)
  refine lv_iload_n S.1 S.2.1 dX9_load_7 rfl (lv_at hl 2 rfl) ?_
  refine lv_i2l (v := (7 : Int64)) S.1 S.2.1 dX9_load_8 (by decide) ?_
  refine lv_lconst (v := (0 : Int64)) S.1 S.2.1 dX9_load_9 (by decide) ?_
  refine lv_ldc2 (v := (11 : Int64)) S.1 S.2.1 S.2.2.2.1 (S.2.2.2.2 _ (List.mem_of_getElem? (i := 1) rfl)) dX9_load_10 ?_
  refine s_callS (As := [.long (7 : Int64), .long (0 : Int64), .long (11 : Int64)]) (rest := []) S hX G (k_X9_in l E (7 : Int64) (0 : Int64) (11 : Int64)) (va_cwS (bytes := cX9_in) (maxL := 6) (ret := (some .boolean)) 3 S.2.2.2.2 gX9_load_X9_in rfl rfl rfl (by decide +kernel) ⟨Nat.le_of_ble_eq_true rfl, Nat.le_of_ble_eq_true rfl⟩) rfl hl.1 rfl (Nat.le_of_ble_eq_true rfl) ⟨Nat.zero_le _, Nat.zero_le _⟩ dX9_load_13 (fun v I1 L1 H locs hR G => ?_)
  obtain ⟨hv, hI, hL⟩ := hR
  subst hv
  have G : GS E I L sg H locs := G.same hI hL
  refine W.eq (g2 := F0 mg 16 ls [.int (if ¬ (7 : Int64) < (0 : Int64) ∧ ¬ (11 : Int64) < (7 : Int64) then 1 else 0)]) rfl ?_
  refine s_if_ne_b (P := ¬ (7 : Int64) < (0 : Int64) ∧ ¬ (11 : Int64) < (7 : Int64)) (tgt := 22) S dX9_load_16 (by decide) (fun _ => ?_) (fun h => absurd (by decide) h)
  refine lv_aload_n S.1 S.2.1 dX9_load_22 rfl (lv_at hl 0 rfl) ?_
  refine s_get S hX G (i := 161) (kd := 9) (a := (I 161)) (v := .ref (E.2.2.2 162)) (C := RX9) (T := TX9) (N := 13) 0 (rfl : sh 161 = 9) rfl rfl rfl (by decide) rfl (fun _ h => (List.mem_cons_of_mem _ (List.mem_append_right _ h))) (by decide) (List.mem_of_getElem? (i := 3) rfl) (fun _ h => h) dX9_load_23 ?_
  refine lv_iload_n S.1 S.2.1 dX9_load_26 rfl (lv_at hl 1 rfl) ?_
  refine s_callS (As := [.int (0 : Int32)]) (rest := [.ref (E.2.2.2 162)]) S hX G (k_X9_loadAt_0 l E) (va_cwS (bytes := cX9_loadAt) (maxL := 1) (ret := (some .int)) 1 S.2.2.2.2 gX9_load_X9_loadAt rfl rfl rfl (by decide +kernel) ⟨Nat.le_of_ble_eq_true rfl, Nat.le_of_ble_eq_true rfl⟩) rfl hl.1 rfl (Nat.le_of_ble_eq_true rfl) ⟨Nat.zero_le _, Nat.zero_le _⟩ dX9_load_27 (fun v I1 L1 H locs hR G => ?_)
  obtain ⟨hv, hI, hL⟩ := hR
  subst hv
  have G : GS E I L sg H locs := G.same hI hL
  refine W.eq (g2 := F0 mg 30 ls [.int (40 : Int32), .ref (E.2.2.2 162)]) rfl ?_
  refine lv_iload_n S.1 S.2.1 dX9_load_30 rfl (lv_at hl 2 rfl) ?_
  refine lv_bipush (v := (11 : Int32)) S.1 S.2.1 dX9_load_31 (by decide) ?_
  refine lv_icmp_ne (tgt := 41) S.1 S.2.1 dX9_load_33 (by decide) (fun _ => ?_) (fun h => absurd h (by decide))
  refine lv_iload_n S.1 S.2.1 dX9_load_41 rfl (lv_at hl 2 rfl) ?_
  refine s_iadd (v := (47 : Int32)) S dX9_load_42 (by decide) ?_
  refine s_iald S hX G (i := 162) (kd := 284) (n := 270) (a := d) (x := (d 47)) (rfl : sh 162 = 284) e_d rfl (by decide) (by unfold vp_in; decide) (congrArg d (by decide)) dX9_load_43 ?_
  refine lv_istore_n (lv' := [(3, .int (d 47)), (0, .ref (E.2.2.2 161)), (1, .int (0 : Int32)), (2, .int (7 : Int32))]) S.1 S.2.1 dX9_load_44 rfl hl (by decide) rfl (fun ls hl => ?_)
  refine lv_iload_n S.1 S.2.1 dX9_load_45 rfl (lv_at hl 3 rfl) ?_
  refine lv_bipush (v := (9 : Int32)) S.1 S.2.1 dX9_load_46 (by decide) ?_
  refine lv_icmp_ne (tgt := 62) S.1 S.2.1 dX9_load_48 (by decide) (fun _ => ?_) (fun h => absurd h (by decide))
  refine lv_iload_n S.1 S.2.1 dX9_load_62 rfl (lv_at hl 3 rfl) ?_
  refine lv_bipush (v := (10 : Int32)) S.1 S.2.1 dX9_load_63 (by decide) ?_
  refine lv_icmp_ne (tgt := 76) S.1 S.2.1 dX9_load_65 (by decide) (fun _ => ?_) (fun h => absurd h (by decide))
  refine lv_iload_n S.1 S.2.1 dX9_load_76 rfl (lv_at hl 0 rfl) ?_
  refine s_iret (x := (d 47)) S G hr hlk dX9_load_77 ?_
  exact ⟨rfl, rfl, rfl⟩
set_option maxHeartbeats 4000000 in
set_option maxRecDepth 100000 in
theorem k_X9_load_0_8 (l : Launch) (E : Ev) {I : SI} {L : SL} (d : Nat → Int32) (e_d : I (162) = d) : CS l yX9_load wsX9_load ({ frames := 2, cells := 0, slots := 0, locals := 45 }) E [.ref (E.2.2.2 161), .int (0 : Int32), .int (8 : Int32)] I L (fun vv I' L' => vv = some (.int (d 48)) ∧ I' = I ∧ L' = L) := by
  refine CS.of (cc := cX9_load) (maxL := 4) (ret := (some .int)) (by decide) rfl (Nat.le_of_ble_eq_true rfl) ?_
  intro pg en sg mg below meth cg ls S hr hlk hX G hl
  have S : CallFix pg mg cg cX9_load 4 sg _ wsX9_load RX9 := S
  have hl : lv_has ls 4 [(0, .ref (E.2.2.2 161)), (1, .int (0 : Int32)), (2, .int (8 : Int32))] := hl
  refine lv_iload_n S.1 S.2.1 dX9_load_0 rfl (lv_at hl 1 rfl) ?_
  refine s_callS (As := [.int (0 : Int32)]) (rest := []) S hX G (k_X9_isLoad l E (0 : Int32)) (va_cwS (bytes := cX9_isLoad) (maxL := 1) (ret := (some .boolean)) 1 S.2.2.2.2 gX9_load_X9_isLoad rfl rfl rfl (by decide +kernel) ⟨Nat.le_of_ble_eq_true rfl, Nat.le_of_ble_eq_true rfl⟩) rfl hl.1 rfl (Nat.le_of_ble_eq_true rfl) ⟨Nat.zero_le _, Nat.zero_le _⟩ dX9_load_1 (fun v I1 L1 H locs hR G => ?_)
  obtain ⟨hv, hI, hL⟩ := hR
  subst hv
  have G : GS E I L sg H locs := G.same hI hL
  refine W.eq (g2 := F0 mg 4 ls [.int (if ¬ (0 : Int32) < (0 : Int32) ∧ ¬ (1 : Int32) < (0 : Int32) then 1 else 0)]) rfl ?_
  refine s_if_eq_b (P := ¬ (0 : Int32) < (0 : Int32) ∧ ¬ (1 : Int32) < (0 : Int32)) (tgt := 19) S dX9_load_4 (by decide) (fun h => absurd (by decide) h) (fun _ => ?_)
  refine lv_iload_n S.1 S.2.1 dX9_load_7 rfl (lv_at hl 2 rfl) ?_
  refine lv_i2l (v := (8 : Int64)) S.1 S.2.1 dX9_load_8 (by decide) ?_
  refine lv_lconst (v := (0 : Int64)) S.1 S.2.1 dX9_load_9 (by decide) ?_
  refine lv_ldc2 (v := (11 : Int64)) S.1 S.2.1 S.2.2.2.1 (S.2.2.2.2 _ (List.mem_of_getElem? (i := 1) rfl)) dX9_load_10 ?_
  refine s_callS (As := [.long (8 : Int64), .long (0 : Int64), .long (11 : Int64)]) (rest := []) S hX G (k_X9_in l E (8 : Int64) (0 : Int64) (11 : Int64)) (va_cwS (bytes := cX9_in) (maxL := 6) (ret := (some .boolean)) 3 S.2.2.2.2 gX9_load_X9_in rfl rfl rfl (by decide +kernel) ⟨Nat.le_of_ble_eq_true rfl, Nat.le_of_ble_eq_true rfl⟩) rfl hl.1 rfl (Nat.le_of_ble_eq_true rfl) ⟨Nat.zero_le _, Nat.zero_le _⟩ dX9_load_13 (fun v I1 L1 H locs hR G => ?_)
  obtain ⟨hv, hI, hL⟩ := hR
  subst hv
  have G : GS E I L sg H locs := G.same hI hL
  refine W.eq (g2 := F0 mg 16 ls [.int (if ¬ (8 : Int64) < (0 : Int64) ∧ ¬ (11 : Int64) < (8 : Int64) then 1 else 0)]) rfl ?_
  refine s_if_ne_b (P := ¬ (8 : Int64) < (0 : Int64) ∧ ¬ (11 : Int64) < (8 : Int64)) (tgt := 22) S dX9_load_16 (by decide) (fun _ => ?_) (fun h => absurd (by decide) h)
  refine lv_aload_n S.1 S.2.1 dX9_load_22 rfl (lv_at hl 0 rfl) ?_
  refine s_get S hX G (i := 161) (kd := 9) (a := (I 161)) (v := .ref (E.2.2.2 162)) (C := RX9) (T := TX9) (N := 13) 0 (rfl : sh 161 = 9) rfl rfl rfl (by decide) rfl (fun _ h => (List.mem_cons_of_mem _ (List.mem_append_right _ h))) (by decide) (List.mem_of_getElem? (i := 3) rfl) (fun _ h => h) dX9_load_23 ?_
  refine lv_iload_n S.1 S.2.1 dX9_load_26 rfl (lv_at hl 1 rfl) ?_
  refine s_callS (As := [.int (0 : Int32)]) (rest := [.ref (E.2.2.2 162)]) S hX G (k_X9_loadAt_0 l E) (va_cwS (bytes := cX9_loadAt) (maxL := 1) (ret := (some .int)) 1 S.2.2.2.2 gX9_load_X9_loadAt rfl rfl rfl (by decide +kernel) ⟨Nat.le_of_ble_eq_true rfl, Nat.le_of_ble_eq_true rfl⟩) rfl hl.1 rfl (Nat.le_of_ble_eq_true rfl) ⟨Nat.zero_le _, Nat.zero_le _⟩ dX9_load_27 (fun v I1 L1 H locs hR G => ?_)
  obtain ⟨hv, hI, hL⟩ := hR
  subst hv
  have G : GS E I L sg H locs := G.same hI hL
  refine W.eq (g2 := F0 mg 30 ls [.int (40 : Int32), .ref (E.2.2.2 162)]) rfl ?_
  refine lv_iload_n S.1 S.2.1 dX9_load_30 rfl (lv_at hl 2 rfl) ?_
  refine lv_bipush (v := (11 : Int32)) S.1 S.2.1 dX9_load_31 (by decide) ?_
  refine lv_icmp_ne (tgt := 41) S.1 S.2.1 dX9_load_33 (by decide) (fun _ => ?_) (fun h => absurd h (by decide))
  refine lv_iload_n S.1 S.2.1 dX9_load_41 rfl (lv_at hl 2 rfl) ?_
  refine s_iadd (v := (48 : Int32)) S dX9_load_42 (by decide) ?_
  refine s_iald S hX G (i := 162) (kd := 284) (n := 270) (a := d) (x := (d 48)) (rfl : sh 162 = 284) e_d rfl (by decide) (by unfold vp_in; decide) (congrArg d (by decide)) dX9_load_43 ?_
  refine lv_istore_n (lv' := [(3, .int (d 48)), (0, .ref (E.2.2.2 161)), (1, .int (0 : Int32)), (2, .int (8 : Int32))]) S.1 S.2.1 dX9_load_44 rfl hl (by decide) rfl (fun ls hl => ?_)
  refine lv_iload_n S.1 S.2.1 dX9_load_45 rfl (lv_at hl 3 rfl) ?_
  refine lv_bipush (v := (9 : Int32)) S.1 S.2.1 dX9_load_46 (by decide) ?_
  refine lv_icmp_ne (tgt := 62) S.1 S.2.1 dX9_load_48 (by decide) (fun _ => ?_) (fun h => absurd h (by decide))
  refine lv_iload_n S.1 S.2.1 dX9_load_62 rfl (lv_at hl 3 rfl) ?_
  refine lv_bipush (v := (10 : Int32)) S.1 S.2.1 dX9_load_63 (by decide) ?_
  refine lv_icmp_ne (tgt := 76) S.1 S.2.1 dX9_load_65 (by decide) (fun _ => ?_) (fun h => absurd h (by decide))
  refine lv_iload_n S.1 S.2.1 dX9_load_76 rfl (lv_at hl 0 rfl) ?_
  refine s_iret (x := (d 48)) S G hr hlk dX9_load_77 ?_
  exact ⟨rfl, rfl, rfl⟩
set_option maxHeartbeats 4000000 in
set_option maxRecDepth 100000 in
theorem k_X9_load_0_9 (l : Launch) (E : Ev) {I : SI} {L : SL} (d : Nat → Int32) (e_d : I (162) = d) : CS l yX9_load wsX9_load ({ frames := 2, cells := 0, slots := 0, locals := 45 }) E [.ref (E.2.2.2 161), .int (0 : Int32), .int (9 : Int32)] I L (fun vv I' L' => vv = some (.int (if d 49 = 9 then (-2000000004 : Int32) else d 49)) ∧ I' = I ∧ L' = L) := by
  refine CS.of (cc := cX9_load) (maxL := 4) (ret := (some .int)) (by decide) rfl (Nat.le_of_ble_eq_true rfl) ?_
  intro pg en sg mg below meth cg ls S hr hlk hX G hl
  have S : CallFix pg mg cg cX9_load 4 sg _ wsX9_load RX9 := S
  have hl : lv_has ls 4 [(0, .ref (E.2.2.2 161)), (1, .int (0 : Int32)), (2, .int (9 : Int32))] := hl
  refine lv_iload_n S.1 S.2.1 dX9_load_0 rfl (lv_at hl 1 rfl) ?_
  refine s_callS (As := [.int (0 : Int32)]) (rest := []) S hX G (k_X9_isLoad l E (0 : Int32)) (va_cwS (bytes := cX9_isLoad) (maxL := 1) (ret := (some .boolean)) 1 S.2.2.2.2 gX9_load_X9_isLoad rfl rfl rfl (by decide +kernel) ⟨Nat.le_of_ble_eq_true rfl, Nat.le_of_ble_eq_true rfl⟩) rfl hl.1 rfl (Nat.le_of_ble_eq_true rfl) ⟨Nat.zero_le _, Nat.zero_le _⟩ dX9_load_1 (fun v I1 L1 H locs hR G => ?_)
  obtain ⟨hv, hI, hL⟩ := hR
  subst hv
  have G : GS E I L sg H locs := G.same hI hL
  refine W.eq (g2 := F0 mg 4 ls [.int (if ¬ (0 : Int32) < (0 : Int32) ∧ ¬ (1 : Int32) < (0 : Int32) then 1 else 0)]) rfl ?_
  refine s_if_eq_b (P := ¬ (0 : Int32) < (0 : Int32) ∧ ¬ (1 : Int32) < (0 : Int32)) (tgt := 19) S dX9_load_4 (by decide) (fun h => absurd (by decide) h) (fun _ => ?_)
  refine lv_iload_n S.1 S.2.1 dX9_load_7 rfl (lv_at hl 2 rfl) ?_
  refine lv_i2l (v := (9 : Int64)) S.1 S.2.1 dX9_load_8 (by decide) ?_
  refine lv_lconst (v := (0 : Int64)) S.1 S.2.1 dX9_load_9 (by decide) ?_
  refine lv_ldc2 (v := (11 : Int64)) S.1 S.2.1 S.2.2.2.1 (S.2.2.2.2 _ (List.mem_of_getElem? (i := 1) rfl)) dX9_load_10 ?_
  refine s_callS (As := [.long (9 : Int64), .long (0 : Int64), .long (11 : Int64)]) (rest := []) S hX G (k_X9_in l E (9 : Int64) (0 : Int64) (11 : Int64)) (va_cwS (bytes := cX9_in) (maxL := 6) (ret := (some .boolean)) 3 S.2.2.2.2 gX9_load_X9_in rfl rfl rfl (by decide +kernel) ⟨Nat.le_of_ble_eq_true rfl, Nat.le_of_ble_eq_true rfl⟩) rfl hl.1 rfl (Nat.le_of_ble_eq_true rfl) ⟨Nat.zero_le _, Nat.zero_le _⟩ dX9_load_13 (fun v I1 L1 H locs hR G => ?_)
  obtain ⟨hv, hI, hL⟩ := hR
  subst hv
  have G : GS E I L sg H locs := G.same hI hL
  refine W.eq (g2 := F0 mg 16 ls [.int (if ¬ (9 : Int64) < (0 : Int64) ∧ ¬ (11 : Int64) < (9 : Int64) then 1 else 0)]) rfl ?_
  refine s_if_ne_b (P := ¬ (9 : Int64) < (0 : Int64) ∧ ¬ (11 : Int64) < (9 : Int64)) (tgt := 22) S dX9_load_16 (by decide) (fun _ => ?_) (fun h => absurd (by decide) h)
  refine lv_aload_n S.1 S.2.1 dX9_load_22 rfl (lv_at hl 0 rfl) ?_
  refine s_get S hX G (i := 161) (kd := 9) (a := (I 161)) (v := .ref (E.2.2.2 162)) (C := RX9) (T := TX9) (N := 13) 0 (rfl : sh 161 = 9) rfl rfl rfl (by decide) rfl (fun _ h => (List.mem_cons_of_mem _ (List.mem_append_right _ h))) (by decide) (List.mem_of_getElem? (i := 3) rfl) (fun _ h => h) dX9_load_23 ?_
  refine lv_iload_n S.1 S.2.1 dX9_load_26 rfl (lv_at hl 1 rfl) ?_
  refine s_callS (As := [.int (0 : Int32)]) (rest := [.ref (E.2.2.2 162)]) S hX G (k_X9_loadAt_0 l E) (va_cwS (bytes := cX9_loadAt) (maxL := 1) (ret := (some .int)) 1 S.2.2.2.2 gX9_load_X9_loadAt rfl rfl rfl (by decide +kernel) ⟨Nat.le_of_ble_eq_true rfl, Nat.le_of_ble_eq_true rfl⟩) rfl hl.1 rfl (Nat.le_of_ble_eq_true rfl) ⟨Nat.zero_le _, Nat.zero_le _⟩ dX9_load_27 (fun v I1 L1 H locs hR G => ?_)
  obtain ⟨hv, hI, hL⟩ := hR
  subst hv
  have G : GS E I L sg H locs := G.same hI hL
  refine W.eq (g2 := F0 mg 30 ls [.int (40 : Int32), .ref (E.2.2.2 162)]) rfl ?_
  refine lv_iload_n S.1 S.2.1 dX9_load_30 rfl (lv_at hl 2 rfl) ?_
  refine lv_bipush (v := (11 : Int32)) S.1 S.2.1 dX9_load_31 (by decide) ?_
  refine lv_icmp_ne (tgt := 41) S.1 S.2.1 dX9_load_33 (by decide) (fun _ => ?_) (fun h => absurd h (by decide))
  refine lv_iload_n S.1 S.2.1 dX9_load_41 rfl (lv_at hl 2 rfl) ?_
  refine s_iadd (v := (49 : Int32)) S dX9_load_42 (by decide) ?_
  refine s_iald S hX G (i := 162) (kd := 284) (n := 270) (a := d) (x := (d 49)) (rfl : sh 162 = 284) e_d rfl (by decide) (by unfold vp_in; decide) (congrArg d (by decide)) dX9_load_43 ?_
  refine lv_istore_n (lv' := [(3, .int (d 49)), (0, .ref (E.2.2.2 161)), (1, .int (0 : Int32)), (2, .int (9 : Int32))]) S.1 S.2.1 dX9_load_44 rfl hl (by decide) rfl (fun ls hl => ?_)
  refine lv_iload_n S.1 S.2.1 dX9_load_45 rfl (lv_at hl 3 rfl) ?_
  refine lv_bipush (v := (9 : Int32)) S.1 S.2.1 dX9_load_46 (by decide) ?_
  refine lv_icmp_ne (tgt := 62) S.1 S.2.1 dX9_load_48 (by decide) (fun h => absurd (by decide) h) (fun _ => ?_)
  refine lv_iload_n S.1 S.2.1 dX9_load_51 rfl (lv_at hl 0 rfl) ?_
  refine lv_bipush (v := (9 : Int32)) S.1 S.2.1 dX9_load_52 (by decide) ?_
  refine lv_icmp_ne (tgt := 62) S.1 S.2.1 dX9_load_54 (by decide) (fun c_1 => ?_) (fun c_1 => ?_)
  · refine lv_iload_n S.1 S.2.1 dX9_load_62 rfl (lv_at hl 3 rfl) ?_
    refine lv_bipush (v := (10 : Int32)) S.1 S.2.1 dX9_load_63 (by decide) ?_
    refine lv_icmp_ne (tgt := 76) S.1 S.2.1 dX9_load_65 (by decide) (fun _ => ?_) (fun h => absurd h (by decide))
    refine lv_iload_n S.1 S.2.1 dX9_load_76 rfl (lv_at hl 0 rfl) ?_
    refine s_iret (x := (d 49)) S G hr hlk dX9_load_77 ?_
    exact ⟨(congrArg (fun q : Int32 => some (Value.int q)) (show (d 49) = (if d 49 = 9 then (-2000000004 : Int32) else d 49) by first | (simp [c_1]; done) | (clear S hX G hl; grind []))), rfl, rfl⟩
  · refine lv_ldc (v := (-2000000004 : Int32)) S.1 S.2.1 S.2.2.2.1 (S.2.2.2.2 _ (List.mem_of_getElem? (i := 4) rfl)) dX9_load_57 ?_
    refine lv_goto (tgt := 77) S.1 S.2.1 dX9_load_59 (by decide) ?_
    refine s_iret (x := (-2000000004 : Int32)) S G hr hlk dX9_load_77 ?_
    exact ⟨(congrArg (fun q : Int32 => some (Value.int q)) (show (-2000000004 : Int32) = (if d 49 = 9 then (-2000000004 : Int32) else d 49) by first | (simp [c_1]; done) | (clear S hX G hl; grind []))), rfl, rfl⟩
set_option maxHeartbeats 4000000 in
set_option maxRecDepth 100000 in
theorem k_X9_load_0_10 (l : Launch) (E : Ev) {I : SI} {L : SL} (d : Nat → Int32) (e_d : I (162) = d) : CS l yX9_load wsX9_load ({ frames := 3, cells := 0, slots := 0, locals := 65 }) E [.ref (E.2.2.2 161), .int (0 : Int32), .int (10 : Int32)] I L (fun vv I' L' => vv = some (.int (ltdF d 40)) ∧ I' = I ∧ L' = L) := by
  refine CS.of (cc := cX9_load) (maxL := 4) (ret := (some .int)) (by decide) rfl (Nat.le_of_ble_eq_true rfl) ?_
  intro pg en sg mg below meth cg ls S hr hlk hX G hl
  have S : CallFix pg mg cg cX9_load 4 sg _ wsX9_load RX9 := S
  have hl : lv_has ls 4 [(0, .ref (E.2.2.2 161)), (1, .int (0 : Int32)), (2, .int (10 : Int32))] := hl
  refine lv_iload_n S.1 S.2.1 dX9_load_0 rfl (lv_at hl 1 rfl) ?_
  refine s_callS (As := [.int (0 : Int32)]) (rest := []) S hX G (k_X9_isLoad l E (0 : Int32)) (va_cwS (bytes := cX9_isLoad) (maxL := 1) (ret := (some .boolean)) 1 S.2.2.2.2 gX9_load_X9_isLoad rfl rfl rfl (by decide +kernel) ⟨Nat.le_of_ble_eq_true rfl, Nat.le_of_ble_eq_true rfl⟩) rfl hl.1 rfl (Nat.le_of_ble_eq_true rfl) ⟨Nat.zero_le _, Nat.zero_le _⟩ dX9_load_1 (fun v I1 L1 H locs hR G => ?_)
  obtain ⟨hv, hI, hL⟩ := hR
  subst hv
  have G : GS E I L sg H locs := G.same hI hL
  refine W.eq (g2 := F0 mg 4 ls [.int (if ¬ (0 : Int32) < (0 : Int32) ∧ ¬ (1 : Int32) < (0 : Int32) then 1 else 0)]) rfl ?_
  refine s_if_eq_b (P := ¬ (0 : Int32) < (0 : Int32) ∧ ¬ (1 : Int32) < (0 : Int32)) (tgt := 19) S dX9_load_4 (by decide) (fun h => absurd (by decide) h) (fun _ => ?_)
  refine lv_iload_n S.1 S.2.1 dX9_load_7 rfl (lv_at hl 2 rfl) ?_
  refine lv_i2l (v := (10 : Int64)) S.1 S.2.1 dX9_load_8 (by decide) ?_
  refine lv_lconst (v := (0 : Int64)) S.1 S.2.1 dX9_load_9 (by decide) ?_
  refine lv_ldc2 (v := (11 : Int64)) S.1 S.2.1 S.2.2.2.1 (S.2.2.2.2 _ (List.mem_of_getElem? (i := 1) rfl)) dX9_load_10 ?_
  refine s_callS (As := [.long (10 : Int64), .long (0 : Int64), .long (11 : Int64)]) (rest := []) S hX G (k_X9_in l E (10 : Int64) (0 : Int64) (11 : Int64)) (va_cwS (bytes := cX9_in) (maxL := 6) (ret := (some .boolean)) 3 S.2.2.2.2 gX9_load_X9_in rfl rfl rfl (by decide +kernel) ⟨Nat.le_of_ble_eq_true rfl, Nat.le_of_ble_eq_true rfl⟩) rfl hl.1 rfl (Nat.le_of_ble_eq_true rfl) ⟨Nat.zero_le _, Nat.zero_le _⟩ dX9_load_13 (fun v I1 L1 H locs hR G => ?_)
  obtain ⟨hv, hI, hL⟩ := hR
  subst hv
  have G : GS E I L sg H locs := G.same hI hL
  refine W.eq (g2 := F0 mg 16 ls [.int (if ¬ (10 : Int64) < (0 : Int64) ∧ ¬ (11 : Int64) < (10 : Int64) then 1 else 0)]) rfl ?_
  refine s_if_ne_b (P := ¬ (10 : Int64) < (0 : Int64) ∧ ¬ (11 : Int64) < (10 : Int64)) (tgt := 22) S dX9_load_16 (by decide) (fun _ => ?_) (fun h => absurd (by decide) h)
  refine lv_aload_n S.1 S.2.1 dX9_load_22 rfl (lv_at hl 0 rfl) ?_
  refine s_get S hX G (i := 161) (kd := 9) (a := (I 161)) (v := .ref (E.2.2.2 162)) (C := RX9) (T := TX9) (N := 13) 0 (rfl : sh 161 = 9) rfl rfl rfl (by decide) rfl (fun _ h => (List.mem_cons_of_mem _ (List.mem_append_right _ h))) (by decide) (List.mem_of_getElem? (i := 3) rfl) (fun _ h => h) dX9_load_23 ?_
  refine lv_iload_n S.1 S.2.1 dX9_load_26 rfl (lv_at hl 1 rfl) ?_
  refine s_callS (As := [.int (0 : Int32)]) (rest := [.ref (E.2.2.2 162)]) S hX G (k_X9_loadAt_0 l E) (va_cwS (bytes := cX9_loadAt) (maxL := 1) (ret := (some .int)) 1 S.2.2.2.2 gX9_load_X9_loadAt rfl rfl rfl (by decide +kernel) ⟨Nat.le_of_ble_eq_true rfl, Nat.le_of_ble_eq_true rfl⟩) rfl hl.1 rfl (Nat.le_of_ble_eq_true rfl) ⟨Nat.zero_le _, Nat.zero_le _⟩ dX9_load_27 (fun v I1 L1 H locs hR G => ?_)
  obtain ⟨hv, hI, hL⟩ := hR
  subst hv
  have G : GS E I L sg H locs := G.same hI hL
  refine W.eq (g2 := F0 mg 30 ls [.int (40 : Int32), .ref (E.2.2.2 162)]) rfl ?_
  refine lv_iload_n S.1 S.2.1 dX9_load_30 rfl (lv_at hl 2 rfl) ?_
  refine lv_bipush (v := (11 : Int32)) S.1 S.2.1 dX9_load_31 (by decide) ?_
  refine lv_icmp_ne (tgt := 41) S.1 S.2.1 dX9_load_33 (by decide) (fun _ => ?_) (fun h => absurd h (by decide))
  refine lv_iload_n S.1 S.2.1 dX9_load_41 rfl (lv_at hl 2 rfl) ?_
  refine s_iadd (v := (50 : Int32)) S dX9_load_42 (by decide) ?_
  refine s_iald S hX G (i := 162) (kd := 284) (n := 270) (a := d) (x := (d 50)) (rfl : sh 162 = 284) e_d rfl (by decide) (by unfold vp_in; decide) (congrArg d (by decide)) dX9_load_43 ?_
  refine lv_istore_n (lv' := [(3, .int (d 50)), (0, .ref (E.2.2.2 161)), (1, .int (0 : Int32)), (2, .int (10 : Int32))]) S.1 S.2.1 dX9_load_44 rfl hl (by decide) rfl (fun ls hl => ?_)
  refine lv_iload_n S.1 S.2.1 dX9_load_45 rfl (lv_at hl 3 rfl) ?_
  refine lv_bipush (v := (9 : Int32)) S.1 S.2.1 dX9_load_46 (by decide) ?_
  refine lv_icmp_ne (tgt := 62) S.1 S.2.1 dX9_load_48 (by decide) (fun _ => ?_) (fun h => absurd h (by decide))
  refine lv_iload_n S.1 S.2.1 dX9_load_62 rfl (lv_at hl 3 rfl) ?_
  refine lv_bipush (v := (10 : Int32)) S.1 S.2.1 dX9_load_63 (by decide) ?_
  refine lv_icmp_ne (tgt := 76) S.1 S.2.1 dX9_load_65 (by decide) (fun h => absurd (by decide) h) (fun _ => ?_)
  refine lv_aload_n S.1 S.2.1 dX9_load_68 rfl (lv_at hl 1 rfl) ?_
  refine lv_iload_n S.1 S.2.1 dX9_load_69 rfl (lv_at hl 2 rfl) ?_
  refine s_callV (C := RX9) (As := [.int (0 : Int32)]) (rest := []) (i := 161) (kd := 9) S hX G (k_X9_latched_0 l E d e_d) (cwV (bytes := cX9_latched) (maxL := 4) (ret := (some .int)) 1 S.2.2.2.2 gX9_load_X9_latched rfl rfl rfl (by decide +kernel) ⟨Nat.le_of_ble_eq_true rfl, Nat.le_of_ble_eq_true rfl⟩) (rfl : sh 161 = 9) rfl rfl rfl (by decide) rfl hl.1 rfl (Nat.le_of_ble_eq_true rfl) ⟨Nat.zero_le _, Nat.zero_le _⟩ dX9_load_70 (fun v I1 L1 H locs hR G => ?_)
  obtain ⟨hv, hI, hL⟩ := hR
  subst hv
  have G : GS E I L sg H locs := G.same hI hL
  refine W.eq (g2 := F0 mg 73 ls [.int (ltdF d 40)]) rfl ?_
  refine lv_topi (fun y_1 ey_1 => ?_)
  refine lv_goto (tgt := 77) S.1 S.2.1 dX9_load_73 (by decide) ?_
  refine s_iret (x := y_1) S G hr hlk dX9_load_77 ?_
  exact ⟨(congrArg (fun q : Int32 => some (Value.int q)) (show y_1 = (ltdF d 40) by subst ey_1; (first | (simp []; done) | (clear S hX G hl; grind [])))), rfl, rfl⟩
set_option maxHeartbeats 4000000 in
set_option maxRecDepth 100000 in
theorem k_X9_load_0_11 (l : Launch) (E : Ev) {I : SI} {L : SL} (d : Nat → Int32) (e_d : I (162) = d) : CS l yX9_load wsX9_load ({ frames := 2, cells := 0, slots := 0, locals := 45 }) E [.ref (E.2.2.2 161), .int (0 : Int32), .int (11 : Int32)] I L (fun vv I' L' => vv = some (.int (d 50)) ∧ I' = I ∧ L' = L) := by
  refine CS.of (cc := cX9_load) (maxL := 4) (ret := (some .int)) (by decide) rfl (Nat.le_of_ble_eq_true rfl) ?_
  intro pg en sg mg below meth cg ls S hr hlk hX G hl
  have S : CallFix pg mg cg cX9_load 4 sg _ wsX9_load RX9 := S
  have hl : lv_has ls 4 [(0, .ref (E.2.2.2 161)), (1, .int (0 : Int32)), (2, .int (11 : Int32))] := hl
  refine lv_iload_n S.1 S.2.1 dX9_load_0 rfl (lv_at hl 1 rfl) ?_
  refine s_callS (As := [.int (0 : Int32)]) (rest := []) S hX G (k_X9_isLoad l E (0 : Int32)) (va_cwS (bytes := cX9_isLoad) (maxL := 1) (ret := (some .boolean)) 1 S.2.2.2.2 gX9_load_X9_isLoad rfl rfl rfl (by decide +kernel) ⟨Nat.le_of_ble_eq_true rfl, Nat.le_of_ble_eq_true rfl⟩) rfl hl.1 rfl (Nat.le_of_ble_eq_true rfl) ⟨Nat.zero_le _, Nat.zero_le _⟩ dX9_load_1 (fun v I1 L1 H locs hR G => ?_)
  obtain ⟨hv, hI, hL⟩ := hR
  subst hv
  have G : GS E I L sg H locs := G.same hI hL
  refine W.eq (g2 := F0 mg 4 ls [.int (if ¬ (0 : Int32) < (0 : Int32) ∧ ¬ (1 : Int32) < (0 : Int32) then 1 else 0)]) rfl ?_
  refine s_if_eq_b (P := ¬ (0 : Int32) < (0 : Int32) ∧ ¬ (1 : Int32) < (0 : Int32)) (tgt := 19) S dX9_load_4 (by decide) (fun h => absurd (by decide) h) (fun _ => ?_)
  refine lv_iload_n S.1 S.2.1 dX9_load_7 rfl (lv_at hl 2 rfl) ?_
  refine lv_i2l (v := (11 : Int64)) S.1 S.2.1 dX9_load_8 (by decide) ?_
  refine lv_lconst (v := (0 : Int64)) S.1 S.2.1 dX9_load_9 (by decide) ?_
  refine lv_ldc2 (v := (11 : Int64)) S.1 S.2.1 S.2.2.2.1 (S.2.2.2.2 _ (List.mem_of_getElem? (i := 1) rfl)) dX9_load_10 ?_
  refine s_callS (As := [.long (11 : Int64), .long (0 : Int64), .long (11 : Int64)]) (rest := []) S hX G (k_X9_in l E (11 : Int64) (0 : Int64) (11 : Int64)) (va_cwS (bytes := cX9_in) (maxL := 6) (ret := (some .boolean)) 3 S.2.2.2.2 gX9_load_X9_in rfl rfl rfl (by decide +kernel) ⟨Nat.le_of_ble_eq_true rfl, Nat.le_of_ble_eq_true rfl⟩) rfl hl.1 rfl (Nat.le_of_ble_eq_true rfl) ⟨Nat.zero_le _, Nat.zero_le _⟩ dX9_load_13 (fun v I1 L1 H locs hR G => ?_)
  obtain ⟨hv, hI, hL⟩ := hR
  subst hv
  have G : GS E I L sg H locs := G.same hI hL
  refine W.eq (g2 := F0 mg 16 ls [.int (if ¬ (11 : Int64) < (0 : Int64) ∧ ¬ (11 : Int64) < (11 : Int64) then 1 else 0)]) rfl ?_
  refine s_if_ne_b (P := ¬ (11 : Int64) < (0 : Int64) ∧ ¬ (11 : Int64) < (11 : Int64)) (tgt := 22) S dX9_load_16 (by decide) (fun _ => ?_) (fun h => absurd (by decide) h)
  refine lv_aload_n S.1 S.2.1 dX9_load_22 rfl (lv_at hl 0 rfl) ?_
  refine s_get S hX G (i := 161) (kd := 9) (a := (I 161)) (v := .ref (E.2.2.2 162)) (C := RX9) (T := TX9) (N := 13) 0 (rfl : sh 161 = 9) rfl rfl rfl (by decide) rfl (fun _ h => (List.mem_cons_of_mem _ (List.mem_append_right _ h))) (by decide) (List.mem_of_getElem? (i := 3) rfl) (fun _ h => h) dX9_load_23 ?_
  refine lv_iload_n S.1 S.2.1 dX9_load_26 rfl (lv_at hl 1 rfl) ?_
  refine s_callS (As := [.int (0 : Int32)]) (rest := [.ref (E.2.2.2 162)]) S hX G (k_X9_loadAt_0 l E) (va_cwS (bytes := cX9_loadAt) (maxL := 1) (ret := (some .int)) 1 S.2.2.2.2 gX9_load_X9_loadAt rfl rfl rfl (by decide +kernel) ⟨Nat.le_of_ble_eq_true rfl, Nat.le_of_ble_eq_true rfl⟩) rfl hl.1 rfl (Nat.le_of_ble_eq_true rfl) ⟨Nat.zero_le _, Nat.zero_le _⟩ dX9_load_27 (fun v I1 L1 H locs hR G => ?_)
  obtain ⟨hv, hI, hL⟩ := hR
  subst hv
  have G : GS E I L sg H locs := G.same hI hL
  refine W.eq (g2 := F0 mg 30 ls [.int (40 : Int32), .ref (E.2.2.2 162)]) rfl ?_
  refine lv_iload_n S.1 S.2.1 dX9_load_30 rfl (lv_at hl 2 rfl) ?_
  refine lv_bipush (v := (11 : Int32)) S.1 S.2.1 dX9_load_31 (by decide) ?_
  refine lv_icmp_ne (tgt := 41) S.1 S.2.1 dX9_load_33 (by decide) (fun h => absurd (by decide) h) (fun _ => ?_)
  refine lv_bipush (v := (10 : Int32)) S.1 S.2.1 dX9_load_36 (by decide) ?_
  refine lv_goto (tgt := 42) S.1 S.2.1 dX9_load_38 (by decide) ?_
  refine s_iadd (v := (50 : Int32)) S dX9_load_42 (by decide) ?_
  refine s_iald S hX G (i := 162) (kd := 284) (n := 270) (a := d) (x := (d 50)) (rfl : sh 162 = 284) e_d rfl (by decide) (by unfold vp_in; decide) (congrArg d (by decide)) dX9_load_43 ?_
  refine lv_istore_n (lv' := [(3, .int (d 50)), (0, .ref (E.2.2.2 161)), (1, .int (0 : Int32)), (2, .int (11 : Int32))]) S.1 S.2.1 dX9_load_44 rfl hl (by decide) rfl (fun ls hl => ?_)
  refine lv_iload_n S.1 S.2.1 dX9_load_45 rfl (lv_at hl 3 rfl) ?_
  refine lv_bipush (v := (9 : Int32)) S.1 S.2.1 dX9_load_46 (by decide) ?_
  refine lv_icmp_ne (tgt := 62) S.1 S.2.1 dX9_load_48 (by decide) (fun _ => ?_) (fun h => absurd h (by decide))
  refine lv_iload_n S.1 S.2.1 dX9_load_62 rfl (lv_at hl 3 rfl) ?_
  refine lv_bipush (v := (10 : Int32)) S.1 S.2.1 dX9_load_63 (by decide) ?_
  refine lv_icmp_ne (tgt := 76) S.1 S.2.1 dX9_load_65 (by decide) (fun _ => ?_) (fun h => absurd h (by decide))
  refine lv_iload_n S.1 S.2.1 dX9_load_76 rfl (lv_at hl 0 rfl) ?_
  refine s_iret (x := (d 50)) S G hr hlk dX9_load_77 ?_
  exact ⟨rfl, rfl, rfl⟩
set_option maxHeartbeats 4000000 in
set_option maxRecDepth 100000 in
theorem k_X9_fault_0_0_0 (l : Launch) (E : Ev) {I : SI} {L : SL} (d : Nat → Int32) (e_d : I (162) = d) : CS l yX9_fault wsX9_fault ({ frames := 2, cells := 0, slots := 0, locals := 45 }) E [.ref (E.2.2.2 161), .int (0 : Int32), .int (0 : Int32), .int (0 : Int32)] I L (fun vv I' L' => vv = some (.int (if ¬ d 52 = -1 then 1 else 0)) ∧ I' = I ∧ L' = L) := by
  refine CS.of (cc := cX9_fault) (maxL := 4) (ret := (some .int)) (by decide) rfl (Nat.le_of_ble_eq_true rfl) ?_
  intro pg en sg mg below meth cg ls S hr hlk hX G hl
  have S : CallFix pg mg cg cX9_fault 4 sg _ wsX9_fault RX9 := S
  have hl : lv_has ls 4 [(0, .ref (E.2.2.2 161)), (1, .int (0 : Int32)), (2, .int (0 : Int32)), (3, .int (0 : Int32))] := hl
  refine lv_iload_n S.1 S.2.1 dX9_fault_0 rfl (lv_at hl 1 rfl) ?_
  refine s_callS (As := [.int (0 : Int32)]) (rest := []) S hX G (k_X9_isLoad l E (0 : Int32)) (va_cwS (bytes := cX9_isLoad) (maxL := 1) (ret := (some .boolean)) 1 S.2.2.2.2 gX9_fault_X9_isLoad rfl rfl rfl (by decide +kernel) ⟨Nat.le_of_ble_eq_true rfl, Nat.le_of_ble_eq_true rfl⟩) rfl hl.1 rfl (Nat.le_of_ble_eq_true rfl) ⟨Nat.zero_le _, Nat.zero_le _⟩ dX9_fault_1 (fun v I1 L1 H locs hR G => ?_)
  obtain ⟨hv, hI, hL⟩ := hR
  subst hv
  have G : GS E I L sg H locs := G.same hI hL
  refine W.eq (g2 := F0 mg 4 ls [.int (if ¬ (0 : Int32) < (0 : Int32) ∧ ¬ (1 : Int32) < (0 : Int32) then 1 else 0)]) rfl ?_
  refine s_if_eq_b (P := ¬ (0 : Int32) < (0 : Int32) ∧ ¬ (1 : Int32) < (0 : Int32)) (tgt := 31) S dX9_fault_4 (by decide) (fun h => absurd (by decide) h) (fun _ => ?_)
  refine lv_iload_n S.1 S.2.1 dX9_fault_7 rfl (lv_at hl 2 rfl) ?_
  refine lv_i2l (v := (0 : Int64)) S.1 S.2.1 dX9_fault_8 (by decide) ?_
  refine lv_lconst (v := (0 : Int64)) S.1 S.2.1 dX9_fault_9 (by decide) ?_
  refine lv_ldc2 (v := (2 : Int64)) S.1 S.2.1 S.2.2.2.1 (S.2.2.2.2 _ (List.mem_of_getElem? (i := 1) rfl)) dX9_fault_10 ?_
  refine s_callS (As := [.long (0 : Int64), .long (0 : Int64), .long (2 : Int64)]) (rest := []) S hX G (k_X9_in l E (0 : Int64) (0 : Int64) (2 : Int64)) (va_cwS (bytes := cX9_in) (maxL := 6) (ret := (some .boolean)) 3 S.2.2.2.2 gX9_fault_X9_in rfl rfl rfl (by decide +kernel) ⟨Nat.le_of_ble_eq_true rfl, Nat.le_of_ble_eq_true rfl⟩) rfl hl.1 rfl (Nat.le_of_ble_eq_true rfl) ⟨Nat.zero_le _, Nat.zero_le _⟩ dX9_fault_13 (fun v I1 L1 H locs hR G => ?_)
  obtain ⟨hv, hI, hL⟩ := hR
  subst hv
  have G : GS E I L sg H locs := G.same hI hL
  refine W.eq (g2 := F0 mg 16 ls [.int (if ¬ (0 : Int64) < (0 : Int64) ∧ ¬ (2 : Int64) < (0 : Int64) then 1 else 0)]) rfl ?_
  refine s_if_eq_b (P := ¬ (0 : Int64) < (0 : Int64) ∧ ¬ (2 : Int64) < (0 : Int64)) (tgt := 31) S dX9_fault_16 (by decide) (fun h => absurd (by decide) h) (fun _ => ?_)
  refine lv_iload_n S.1 S.2.1 dX9_fault_19 rfl (lv_at hl 3 rfl) ?_
  refine lv_i2l (v := (0 : Int64)) S.1 S.2.1 dX9_fault_20 (by decide) ?_
  refine lv_lconst (v := (0 : Int64)) S.1 S.2.1 dX9_fault_21 (by decide) ?_
  refine lv_ldc2 (v := (4 : Int64)) S.1 S.2.1 S.2.2.2.1 (S.2.2.2.2 _ (List.mem_of_getElem? (i := 2) rfl)) dX9_fault_22 ?_
  refine s_callS (As := [.long (0 : Int64), .long (0 : Int64), .long (4 : Int64)]) (rest := []) S hX G (k_X9_in l E (0 : Int64) (0 : Int64) (4 : Int64)) (va_cwS (bytes := cX9_in) (maxL := 6) (ret := (some .boolean)) 3 S.2.2.2.2 gX9_fault_X9_in rfl rfl rfl (by decide +kernel) ⟨Nat.le_of_ble_eq_true rfl, Nat.le_of_ble_eq_true rfl⟩) rfl hl.1 rfl (Nat.le_of_ble_eq_true rfl) ⟨Nat.zero_le _, Nat.zero_le _⟩ dX9_fault_25 (fun v I1 L1 H locs hR G => ?_)
  obtain ⟨hv, hI, hL⟩ := hR
  subst hv
  have G : GS E I L sg H locs := G.same hI hL
  refine W.eq (g2 := F0 mg 28 ls [.int (if ¬ (0 : Int64) < (0 : Int64) ∧ ¬ (4 : Int64) < (0 : Int64) then 1 else 0)]) rfl ?_
  refine s_if_ne_b (P := ¬ (0 : Int64) < (0 : Int64) ∧ ¬ (4 : Int64) < (0 : Int64)) (tgt := 34) S dX9_fault_28 (by decide) (fun _ => ?_) (fun h => absurd (by decide) h)
  refine lv_iload_n S.1 S.2.1 dX9_fault_34 rfl (lv_at hl 3 rfl) ?_
  refine lv_iconst (v := (4 : Int32)) S.1 S.2.1 dX9_fault_35 (by decide) ?_
  refine lv_icmp_ne (tgt := 54) S.1 S.2.1 dX9_fault_36 (by decide) (fun _ => ?_) (fun h => absurd h (by decide))
  refine lv_aload_n S.1 S.2.1 dX9_fault_54 rfl (lv_at hl 0 rfl) ?_
  refine lv_iload_n S.1 S.2.1 dX9_fault_55 rfl (lv_at hl 1 rfl) ?_
  refine lv_iload_n S.1 S.2.1 dX9_fault_56 rfl (lv_at hl 2 rfl) ?_
  refine s_callV (C := RX9) (As := [.int (0 : Int32), .int (0 : Int32)]) (rest := []) (i := 161) (kd := 9) S hX G (k_X9_isLatched_0_0 l E d e_d) (cwV (bytes := cX9_isLatched) (maxL := 3) (ret := (some .boolean)) 2 S.2.2.2.2 gX9_fault_X9_isLatched rfl rfl rfl (by decide +kernel) ⟨Nat.le_of_ble_eq_true rfl, Nat.le_of_ble_eq_true rfl⟩) (rfl : sh 161 = 9) rfl rfl rfl (by decide) rfl hl.1 rfl (Nat.le_of_ble_eq_true rfl) ⟨Nat.zero_le _, Nat.zero_le _⟩ dX9_fault_57 (fun v I1 L1 H locs hR G => ?_)
  obtain ⟨hv, hI, hL⟩ := hR
  subst hv
  have G : GS E I L sg H locs := G.same hI hL
  refine W.eq (g2 := F0 mg 60 ls [.int (if ¬ d 52 = -1 then 1 else 0)]) rfl ?_
  refine s_if_ne_b (P := ¬ d 52 = -1) (tgt := 74) S dX9_fault_60 (by decide) (fun c_1 => ?_) (fun c_1 => ?_)
  · refine lv_iload_n S.1 S.2.1 dX9_fault_74 rfl (lv_at hl 3 rfl) ?_
    refine lv_if_ne (tgt := 82) S.1 S.2.1 dX9_fault_75 (by decide) (fun h => absurd (by decide) h) (fun _ => ?_)
    refine lv_iconst (v := (1 : Int32)) S.1 S.2.1 dX9_fault_78 (by decide) ?_
    refine lv_goto (tgt := 116) S.1 S.2.1 dX9_fault_79 (by decide) ?_
    refine s_iret (x := (1 : Int32)) S G hr hlk dX9_fault_116 ?_
    exact ⟨(congrArg (fun q : Int32 => some (Value.int q)) (show (1 : Int32) = (if ¬ d 52 = -1 then 1 else 0) by first | exact (if_pos c_1).symm | exact (if_neg c_1).symm)), rfl, rfl⟩
  · refine lv_iload_n S.1 S.2.1 dX9_fault_63 rfl (lv_at hl 3 rfl) ?_
    refine lv_if_ne (tgt := 71) S.1 S.2.1 dX9_fault_64 (by decide) (fun h => absurd (by decide) h) (fun _ => ?_)
    refine lv_iconst (v := (0 : Int32)) S.1 S.2.1 dX9_fault_67 (by decide) ?_
    refine lv_goto (tgt := 73) S.1 S.2.1 dX9_fault_68 (by decide) ?_
    refine s_iret (x := (0 : Int32)) S G hr hlk dX9_fault_73 ?_
    exact ⟨(congrArg (fun q : Int32 => some (Value.int q)) (show (0 : Int32) = (if ¬ d 52 = -1 then 1 else 0) by first | exact (if_pos c_1).symm | exact (if_neg c_1).symm)), rfl, rfl⟩
set_option maxHeartbeats 4000000 in
set_option maxRecDepth 100000 in
theorem k_X9_fault_0_0_1 (l : Launch) (E : Ev) {I : SI} {L : SL} (d : Nat → Int32) (e_d : I (162) = d) : CS l yX9_fault wsX9_fault ({ frames := 2, cells := 0, slots := 0, locals := 45 }) E [.ref (E.2.2.2 161), .int (0 : Int32), .int (0 : Int32), .int (1 : Int32)] I L (fun vv I' L' => vv = some (.int (if ¬ d 52 = -1 then d 52 else (-2000000004 : Int32))) ∧ I' = I ∧ L' = L) := by
  refine CS.of (cc := cX9_fault) (maxL := 4) (ret := (some .int)) (by decide) rfl (Nat.le_of_ble_eq_true rfl) ?_
  intro pg en sg mg below meth cg ls S hr hlk hX G hl
  have S : CallFix pg mg cg cX9_fault 4 sg _ wsX9_fault RX9 := S
  have hl : lv_has ls 4 [(0, .ref (E.2.2.2 161)), (1, .int (0 : Int32)), (2, .int (0 : Int32)), (3, .int (1 : Int32))] := hl
  refine lv_iload_n S.1 S.2.1 dX9_fault_0 rfl (lv_at hl 1 rfl) ?_
  refine s_callS (As := [.int (0 : Int32)]) (rest := []) S hX G (k_X9_isLoad l E (0 : Int32)) (va_cwS (bytes := cX9_isLoad) (maxL := 1) (ret := (some .boolean)) 1 S.2.2.2.2 gX9_fault_X9_isLoad rfl rfl rfl (by decide +kernel) ⟨Nat.le_of_ble_eq_true rfl, Nat.le_of_ble_eq_true rfl⟩) rfl hl.1 rfl (Nat.le_of_ble_eq_true rfl) ⟨Nat.zero_le _, Nat.zero_le _⟩ dX9_fault_1 (fun v I1 L1 H locs hR G => ?_)
  obtain ⟨hv, hI, hL⟩ := hR
  subst hv
  have G : GS E I L sg H locs := G.same hI hL
  refine W.eq (g2 := F0 mg 4 ls [.int (if ¬ (0 : Int32) < (0 : Int32) ∧ ¬ (1 : Int32) < (0 : Int32) then 1 else 0)]) rfl ?_
  refine s_if_eq_b (P := ¬ (0 : Int32) < (0 : Int32) ∧ ¬ (1 : Int32) < (0 : Int32)) (tgt := 31) S dX9_fault_4 (by decide) (fun h => absurd (by decide) h) (fun _ => ?_)
  refine lv_iload_n S.1 S.2.1 dX9_fault_7 rfl (lv_at hl 2 rfl) ?_
  refine lv_i2l (v := (0 : Int64)) S.1 S.2.1 dX9_fault_8 (by decide) ?_
  refine lv_lconst (v := (0 : Int64)) S.1 S.2.1 dX9_fault_9 (by decide) ?_
  refine lv_ldc2 (v := (2 : Int64)) S.1 S.2.1 S.2.2.2.1 (S.2.2.2.2 _ (List.mem_of_getElem? (i := 1) rfl)) dX9_fault_10 ?_
  refine s_callS (As := [.long (0 : Int64), .long (0 : Int64), .long (2 : Int64)]) (rest := []) S hX G (k_X9_in l E (0 : Int64) (0 : Int64) (2 : Int64)) (va_cwS (bytes := cX9_in) (maxL := 6) (ret := (some .boolean)) 3 S.2.2.2.2 gX9_fault_X9_in rfl rfl rfl (by decide +kernel) ⟨Nat.le_of_ble_eq_true rfl, Nat.le_of_ble_eq_true rfl⟩) rfl hl.1 rfl (Nat.le_of_ble_eq_true rfl) ⟨Nat.zero_le _, Nat.zero_le _⟩ dX9_fault_13 (fun v I1 L1 H locs hR G => ?_)
  obtain ⟨hv, hI, hL⟩ := hR
  subst hv
  have G : GS E I L sg H locs := G.same hI hL
  refine W.eq (g2 := F0 mg 16 ls [.int (if ¬ (0 : Int64) < (0 : Int64) ∧ ¬ (2 : Int64) < (0 : Int64) then 1 else 0)]) rfl ?_
  refine s_if_eq_b (P := ¬ (0 : Int64) < (0 : Int64) ∧ ¬ (2 : Int64) < (0 : Int64)) (tgt := 31) S dX9_fault_16 (by decide) (fun h => absurd (by decide) h) (fun _ => ?_)
  refine lv_iload_n S.1 S.2.1 dX9_fault_19 rfl (lv_at hl 3 rfl) ?_
  refine lv_i2l (v := (1 : Int64)) S.1 S.2.1 dX9_fault_20 (by decide) ?_
  refine lv_lconst (v := (0 : Int64)) S.1 S.2.1 dX9_fault_21 (by decide) ?_
  refine lv_ldc2 (v := (4 : Int64)) S.1 S.2.1 S.2.2.2.1 (S.2.2.2.2 _ (List.mem_of_getElem? (i := 2) rfl)) dX9_fault_22 ?_
  refine s_callS (As := [.long (1 : Int64), .long (0 : Int64), .long (4 : Int64)]) (rest := []) S hX G (k_X9_in l E (1 : Int64) (0 : Int64) (4 : Int64)) (va_cwS (bytes := cX9_in) (maxL := 6) (ret := (some .boolean)) 3 S.2.2.2.2 gX9_fault_X9_in rfl rfl rfl (by decide +kernel) ⟨Nat.le_of_ble_eq_true rfl, Nat.le_of_ble_eq_true rfl⟩) rfl hl.1 rfl (Nat.le_of_ble_eq_true rfl) ⟨Nat.zero_le _, Nat.zero_le _⟩ dX9_fault_25 (fun v I1 L1 H locs hR G => ?_)
  obtain ⟨hv, hI, hL⟩ := hR
  subst hv
  have G : GS E I L sg H locs := G.same hI hL
  refine W.eq (g2 := F0 mg 28 ls [.int (if ¬ (1 : Int64) < (0 : Int64) ∧ ¬ (4 : Int64) < (1 : Int64) then 1 else 0)]) rfl ?_
  refine s_if_ne_b (P := ¬ (1 : Int64) < (0 : Int64) ∧ ¬ (4 : Int64) < (1 : Int64)) (tgt := 34) S dX9_fault_28 (by decide) (fun _ => ?_) (fun h => absurd (by decide) h)
  refine lv_iload_n S.1 S.2.1 dX9_fault_34 rfl (lv_at hl 3 rfl) ?_
  refine lv_iconst (v := (4 : Int32)) S.1 S.2.1 dX9_fault_35 (by decide) ?_
  refine lv_icmp_ne (tgt := 54) S.1 S.2.1 dX9_fault_36 (by decide) (fun _ => ?_) (fun h => absurd h (by decide))
  refine lv_aload_n S.1 S.2.1 dX9_fault_54 rfl (lv_at hl 0 rfl) ?_
  refine lv_iload_n S.1 S.2.1 dX9_fault_55 rfl (lv_at hl 1 rfl) ?_
  refine lv_iload_n S.1 S.2.1 dX9_fault_56 rfl (lv_at hl 2 rfl) ?_
  refine s_callV (C := RX9) (As := [.int (0 : Int32), .int (0 : Int32)]) (rest := []) (i := 161) (kd := 9) S hX G (k_X9_isLatched_0_0 l E d e_d) (cwV (bytes := cX9_isLatched) (maxL := 3) (ret := (some .boolean)) 2 S.2.2.2.2 gX9_fault_X9_isLatched rfl rfl rfl (by decide +kernel) ⟨Nat.le_of_ble_eq_true rfl, Nat.le_of_ble_eq_true rfl⟩) (rfl : sh 161 = 9) rfl rfl rfl (by decide) rfl hl.1 rfl (Nat.le_of_ble_eq_true rfl) ⟨Nat.zero_le _, Nat.zero_le _⟩ dX9_fault_57 (fun v I1 L1 H locs hR G => ?_)
  obtain ⟨hv, hI, hL⟩ := hR
  subst hv
  have G : GS E I L sg H locs := G.same hI hL
  refine W.eq (g2 := F0 mg 60 ls [.int (if ¬ d 52 = -1 then 1 else 0)]) rfl ?_
  refine s_if_ne_b (P := ¬ d 52 = -1) (tgt := 74) S dX9_fault_60 (by decide) (fun c_1 => ?_) (fun c_1 => ?_)
  · refine lv_iload_n S.1 S.2.1 dX9_fault_74 rfl (lv_at hl 3 rfl) ?_
    refine lv_if_ne (tgt := 82) S.1 S.2.1 dX9_fault_75 (by decide) (fun _ => ?_) (fun h => absurd h (by decide))
    refine lv_iload_n S.1 S.2.1 dX9_fault_82 rfl (lv_at hl 3 rfl) ?_
    refine lv_iconst (v := (3 : Int32)) S.1 S.2.1 dX9_fault_83 (by decide) ?_
    refine lv_icmp_ne (tgt := 96) S.1 S.2.1 dX9_fault_84 (by decide) (fun _ => ?_) (fun h => absurd h (by decide))
    refine lv_aload_n S.1 S.2.1 dX9_fault_96 rfl (lv_at hl 0 rfl) ?_
    refine s_get S hX G (i := 161) (kd := 9) (a := (I 161)) (v := .ref (E.2.2.2 162)) (C := RX9) (T := TX9) (N := 13) 0 (rfl : sh 161 = 9) rfl rfl rfl (by decide) rfl (fun _ h => (List.mem_cons_of_mem _ (List.mem_append_right _ h))) (by decide) (List.mem_of_getElem? (i := 5) rfl) (fun _ h => h) dX9_fault_97 ?_
    refine lv_iload_n S.1 S.2.1 dX9_fault_100 rfl (lv_at hl 1 rfl) ?_
    refine s_callS (As := [.int (0 : Int32)]) (rest := [.ref (E.2.2.2 162)]) S hX G (k_X9_loadAt_0 l E) (va_cwS (bytes := cX9_loadAt) (maxL := 1) (ret := (some .int)) 1 S.2.2.2.2 gX9_fault_X9_loadAt rfl rfl rfl (by decide +kernel) ⟨Nat.le_of_ble_eq_true rfl, Nat.le_of_ble_eq_true rfl⟩) rfl hl.1 rfl (Nat.le_of_ble_eq_true rfl) ⟨Nat.zero_le _, Nat.zero_le _⟩ dX9_fault_101 (fun v I1 L1 H locs hR G => ?_)
    obtain ⟨hv, hI, hL⟩ := hR
    subst hv
    have G : GS E I L sg H locs := G.same hI hL
    refine W.eq (g2 := F0 mg 104 ls [.int (40 : Int32), .ref (E.2.2.2 162)]) rfl ?_
    refine lv_bipush (v := (12 : Int32)) S.1 S.2.1 dX9_fault_104 (by decide) ?_
    refine s_iadd (v := (52 : Int32)) S dX9_fault_106 (by decide) ?_
    refine lv_iconst (v := (3 : Int32)) S.1 S.2.1 dX9_fault_107 (by decide) ?_
    refine lv_iload_n S.1 S.2.1 dX9_fault_108 rfl (lv_at hl 2 rfl) ?_
    refine s_imul (v := (0 : Int32)) S dX9_fault_109 (by decide) ?_
    refine s_iadd (v := (52 : Int32)) S dX9_fault_110 (by decide) ?_
    refine lv_iload_n S.1 S.2.1 dX9_fault_111 rfl (lv_at hl 3 rfl) ?_
    refine s_iadd (v := (53 : Int32)) S dX9_fault_112 (by decide) ?_
    refine lv_iconst (v := (1 : Int32)) S.1 S.2.1 dX9_fault_113 (by decide) ?_
    refine s_isub (v := (52 : Int32)) S dX9_fault_114 (by decide) ?_
    refine s_iald S hX G (i := 162) (kd := 284) (n := 270) (a := d) (x := (d 52)) (rfl : sh 162 = 284) e_d rfl (by decide) (by unfold vp_in; decide) (congrArg d (by decide)) dX9_fault_115 ?_
    refine s_iret (x := (d 52)) S G hr hlk dX9_fault_116 ?_
    exact ⟨(congrArg (fun q : Int32 => some (Value.int q)) (show (d 52) = (if ¬ d 52 = -1 then d 52 else (-2000000004 : Int32)) by first | exact (if_pos c_1).symm | exact (if_neg c_1).symm)), rfl, rfl⟩
  · refine lv_iload_n S.1 S.2.1 dX9_fault_63 rfl (lv_at hl 3 rfl) ?_
    refine lv_if_ne (tgt := 71) S.1 S.2.1 dX9_fault_64 (by decide) (fun _ => ?_) (fun h => absurd h (by decide))
    refine lv_ldc (v := (-2000000004 : Int32)) S.1 S.2.1 S.2.2.2.1 (S.2.2.2.2 _ (List.mem_of_getElem? (i := 4) rfl)) dX9_fault_71 ?_
    refine s_iret (x := (-2000000004 : Int32)) S G hr hlk dX9_fault_73 ?_
    exact ⟨(congrArg (fun q : Int32 => some (Value.int q)) (show (-2000000004 : Int32) = (if ¬ d 52 = -1 then d 52 else (-2000000004 : Int32)) by first | exact (if_pos c_1).symm | exact (if_neg c_1).symm)), rfl, rfl⟩
set_option maxHeartbeats 4000000 in
set_option maxRecDepth 100000 in
theorem k_X9_fault_0_0_2 (l : Launch) (E : Ev) {I : SI} {L : SL} (d : Nat → Int32) (e_d : I (162) = d) : CS l yX9_fault wsX9_fault ({ frames := 2, cells := 0, slots := 0, locals := 45 }) E [.ref (E.2.2.2 161), .int (0 : Int32), .int (0 : Int32), .int (2 : Int32)] I L (fun vv I' L' => vv = some (.int (if ¬ d 52 = -1 then d 53 else (-2000000004 : Int32))) ∧ I' = I ∧ L' = L) := by
  refine CS.of (cc := cX9_fault) (maxL := 4) (ret := (some .int)) (by decide) rfl (Nat.le_of_ble_eq_true rfl) ?_
  intro pg en sg mg below meth cg ls S hr hlk hX G hl
  have S : CallFix pg mg cg cX9_fault 4 sg _ wsX9_fault RX9 := S
  have hl : lv_has ls 4 [(0, .ref (E.2.2.2 161)), (1, .int (0 : Int32)), (2, .int (0 : Int32)), (3, .int (2 : Int32))] := hl
  refine lv_iload_n S.1 S.2.1 dX9_fault_0 rfl (lv_at hl 1 rfl) ?_
  refine s_callS (As := [.int (0 : Int32)]) (rest := []) S hX G (k_X9_isLoad l E (0 : Int32)) (va_cwS (bytes := cX9_isLoad) (maxL := 1) (ret := (some .boolean)) 1 S.2.2.2.2 gX9_fault_X9_isLoad rfl rfl rfl (by decide +kernel) ⟨Nat.le_of_ble_eq_true rfl, Nat.le_of_ble_eq_true rfl⟩) rfl hl.1 rfl (Nat.le_of_ble_eq_true rfl) ⟨Nat.zero_le _, Nat.zero_le _⟩ dX9_fault_1 (fun v I1 L1 H locs hR G => ?_)
  obtain ⟨hv, hI, hL⟩ := hR
  subst hv
  have G : GS E I L sg H locs := G.same hI hL
  refine W.eq (g2 := F0 mg 4 ls [.int (if ¬ (0 : Int32) < (0 : Int32) ∧ ¬ (1 : Int32) < (0 : Int32) then 1 else 0)]) rfl ?_
  refine s_if_eq_b (P := ¬ (0 : Int32) < (0 : Int32) ∧ ¬ (1 : Int32) < (0 : Int32)) (tgt := 31) S dX9_fault_4 (by decide) (fun h => absurd (by decide) h) (fun _ => ?_)
  refine lv_iload_n S.1 S.2.1 dX9_fault_7 rfl (lv_at hl 2 rfl) ?_
  refine lv_i2l (v := (0 : Int64)) S.1 S.2.1 dX9_fault_8 (by decide) ?_
  refine lv_lconst (v := (0 : Int64)) S.1 S.2.1 dX9_fault_9 (by decide) ?_
  refine lv_ldc2 (v := (2 : Int64)) S.1 S.2.1 S.2.2.2.1 (S.2.2.2.2 _ (List.mem_of_getElem? (i := 1) rfl)) dX9_fault_10 ?_
  refine s_callS (As := [.long (0 : Int64), .long (0 : Int64), .long (2 : Int64)]) (rest := []) S hX G (k_X9_in l E (0 : Int64) (0 : Int64) (2 : Int64)) (va_cwS (bytes := cX9_in) (maxL := 6) (ret := (some .boolean)) 3 S.2.2.2.2 gX9_fault_X9_in rfl rfl rfl (by decide +kernel) ⟨Nat.le_of_ble_eq_true rfl, Nat.le_of_ble_eq_true rfl⟩) rfl hl.1 rfl (Nat.le_of_ble_eq_true rfl) ⟨Nat.zero_le _, Nat.zero_le _⟩ dX9_fault_13 (fun v I1 L1 H locs hR G => ?_)
  obtain ⟨hv, hI, hL⟩ := hR
  subst hv
  have G : GS E I L sg H locs := G.same hI hL
  refine W.eq (g2 := F0 mg 16 ls [.int (if ¬ (0 : Int64) < (0 : Int64) ∧ ¬ (2 : Int64) < (0 : Int64) then 1 else 0)]) rfl ?_
  refine s_if_eq_b (P := ¬ (0 : Int64) < (0 : Int64) ∧ ¬ (2 : Int64) < (0 : Int64)) (tgt := 31) S dX9_fault_16 (by decide) (fun h => absurd (by decide) h) (fun _ => ?_)
  refine lv_iload_n S.1 S.2.1 dX9_fault_19 rfl (lv_at hl 3 rfl) ?_
  refine lv_i2l (v := (2 : Int64)) S.1 S.2.1 dX9_fault_20 (by decide) ?_
  refine lv_lconst (v := (0 : Int64)) S.1 S.2.1 dX9_fault_21 (by decide) ?_
  refine lv_ldc2 (v := (4 : Int64)) S.1 S.2.1 S.2.2.2.1 (S.2.2.2.2 _ (List.mem_of_getElem? (i := 2) rfl)) dX9_fault_22 ?_
  refine s_callS (As := [.long (2 : Int64), .long (0 : Int64), .long (4 : Int64)]) (rest := []) S hX G (k_X9_in l E (2 : Int64) (0 : Int64) (4 : Int64)) (va_cwS (bytes := cX9_in) (maxL := 6) (ret := (some .boolean)) 3 S.2.2.2.2 gX9_fault_X9_in rfl rfl rfl (by decide +kernel) ⟨Nat.le_of_ble_eq_true rfl, Nat.le_of_ble_eq_true rfl⟩) rfl hl.1 rfl (Nat.le_of_ble_eq_true rfl) ⟨Nat.zero_le _, Nat.zero_le _⟩ dX9_fault_25 (fun v I1 L1 H locs hR G => ?_)
  obtain ⟨hv, hI, hL⟩ := hR
  subst hv
  have G : GS E I L sg H locs := G.same hI hL
  refine W.eq (g2 := F0 mg 28 ls [.int (if ¬ (2 : Int64) < (0 : Int64) ∧ ¬ (4 : Int64) < (2 : Int64) then 1 else 0)]) rfl ?_
  refine s_if_ne_b (P := ¬ (2 : Int64) < (0 : Int64) ∧ ¬ (4 : Int64) < (2 : Int64)) (tgt := 34) S dX9_fault_28 (by decide) (fun _ => ?_) (fun h => absurd (by decide) h)
  refine lv_iload_n S.1 S.2.1 dX9_fault_34 rfl (lv_at hl 3 rfl) ?_
  refine lv_iconst (v := (4 : Int32)) S.1 S.2.1 dX9_fault_35 (by decide) ?_
  refine lv_icmp_ne (tgt := 54) S.1 S.2.1 dX9_fault_36 (by decide) (fun _ => ?_) (fun h => absurd h (by decide))
  refine lv_aload_n S.1 S.2.1 dX9_fault_54 rfl (lv_at hl 0 rfl) ?_
  refine lv_iload_n S.1 S.2.1 dX9_fault_55 rfl (lv_at hl 1 rfl) ?_
  refine lv_iload_n S.1 S.2.1 dX9_fault_56 rfl (lv_at hl 2 rfl) ?_
  refine s_callV (C := RX9) (As := [.int (0 : Int32), .int (0 : Int32)]) (rest := []) (i := 161) (kd := 9) S hX G (k_X9_isLatched_0_0 l E d e_d) (cwV (bytes := cX9_isLatched) (maxL := 3) (ret := (some .boolean)) 2 S.2.2.2.2 gX9_fault_X9_isLatched rfl rfl rfl (by decide +kernel) ⟨Nat.le_of_ble_eq_true rfl, Nat.le_of_ble_eq_true rfl⟩) (rfl : sh 161 = 9) rfl rfl rfl (by decide) rfl hl.1 rfl (Nat.le_of_ble_eq_true rfl) ⟨Nat.zero_le _, Nat.zero_le _⟩ dX9_fault_57 (fun v I1 L1 H locs hR G => ?_)
  obtain ⟨hv, hI, hL⟩ := hR
  subst hv
  have G : GS E I L sg H locs := G.same hI hL
  refine W.eq (g2 := F0 mg 60 ls [.int (if ¬ d 52 = -1 then 1 else 0)]) rfl ?_
  refine s_if_ne_b (P := ¬ d 52 = -1) (tgt := 74) S dX9_fault_60 (by decide) (fun c_1 => ?_) (fun c_1 => ?_)
  · refine lv_iload_n S.1 S.2.1 dX9_fault_74 rfl (lv_at hl 3 rfl) ?_
    refine lv_if_ne (tgt := 82) S.1 S.2.1 dX9_fault_75 (by decide) (fun _ => ?_) (fun h => absurd h (by decide))
    refine lv_iload_n S.1 S.2.1 dX9_fault_82 rfl (lv_at hl 3 rfl) ?_
    refine lv_iconst (v := (3 : Int32)) S.1 S.2.1 dX9_fault_83 (by decide) ?_
    refine lv_icmp_ne (tgt := 96) S.1 S.2.1 dX9_fault_84 (by decide) (fun _ => ?_) (fun h => absurd h (by decide))
    refine lv_aload_n S.1 S.2.1 dX9_fault_96 rfl (lv_at hl 0 rfl) ?_
    refine s_get S hX G (i := 161) (kd := 9) (a := (I 161)) (v := .ref (E.2.2.2 162)) (C := RX9) (T := TX9) (N := 13) 0 (rfl : sh 161 = 9) rfl rfl rfl (by decide) rfl (fun _ h => (List.mem_cons_of_mem _ (List.mem_append_right _ h))) (by decide) (List.mem_of_getElem? (i := 5) rfl) (fun _ h => h) dX9_fault_97 ?_
    refine lv_iload_n S.1 S.2.1 dX9_fault_100 rfl (lv_at hl 1 rfl) ?_
    refine s_callS (As := [.int (0 : Int32)]) (rest := [.ref (E.2.2.2 162)]) S hX G (k_X9_loadAt_0 l E) (va_cwS (bytes := cX9_loadAt) (maxL := 1) (ret := (some .int)) 1 S.2.2.2.2 gX9_fault_X9_loadAt rfl rfl rfl (by decide +kernel) ⟨Nat.le_of_ble_eq_true rfl, Nat.le_of_ble_eq_true rfl⟩) rfl hl.1 rfl (Nat.le_of_ble_eq_true rfl) ⟨Nat.zero_le _, Nat.zero_le _⟩ dX9_fault_101 (fun v I1 L1 H locs hR G => ?_)
    obtain ⟨hv, hI, hL⟩ := hR
    subst hv
    have G : GS E I L sg H locs := G.same hI hL
    refine W.eq (g2 := F0 mg 104 ls [.int (40 : Int32), .ref (E.2.2.2 162)]) rfl ?_
    refine lv_bipush (v := (12 : Int32)) S.1 S.2.1 dX9_fault_104 (by decide) ?_
    refine s_iadd (v := (52 : Int32)) S dX9_fault_106 (by decide) ?_
    refine lv_iconst (v := (3 : Int32)) S.1 S.2.1 dX9_fault_107 (by decide) ?_
    refine lv_iload_n S.1 S.2.1 dX9_fault_108 rfl (lv_at hl 2 rfl) ?_
    refine s_imul (v := (0 : Int32)) S dX9_fault_109 (by decide) ?_
    refine s_iadd (v := (52 : Int32)) S dX9_fault_110 (by decide) ?_
    refine lv_iload_n S.1 S.2.1 dX9_fault_111 rfl (lv_at hl 3 rfl) ?_
    refine s_iadd (v := (54 : Int32)) S dX9_fault_112 (by decide) ?_
    refine lv_iconst (v := (1 : Int32)) S.1 S.2.1 dX9_fault_113 (by decide) ?_
    refine s_isub (v := (53 : Int32)) S dX9_fault_114 (by decide) ?_
    refine s_iald S hX G (i := 162) (kd := 284) (n := 270) (a := d) (x := (d 53)) (rfl : sh 162 = 284) e_d rfl (by decide) (by unfold vp_in; decide) (congrArg d (by decide)) dX9_fault_115 ?_
    refine s_iret (x := (d 53)) S G hr hlk dX9_fault_116 ?_
    exact ⟨(congrArg (fun q : Int32 => some (Value.int q)) (show (d 53) = (if ¬ d 52 = -1 then d 53 else (-2000000004 : Int32)) by first | exact (if_pos c_1).symm | exact (if_neg c_1).symm)), rfl, rfl⟩
  · refine lv_iload_n S.1 S.2.1 dX9_fault_63 rfl (lv_at hl 3 rfl) ?_
    refine lv_if_ne (tgt := 71) S.1 S.2.1 dX9_fault_64 (by decide) (fun _ => ?_) (fun h => absurd h (by decide))
    refine lv_ldc (v := (-2000000004 : Int32)) S.1 S.2.1 S.2.2.2.1 (S.2.2.2.2 _ (List.mem_of_getElem? (i := 4) rfl)) dX9_fault_71 ?_
    refine s_iret (x := (-2000000004 : Int32)) S G hr hlk dX9_fault_73 ?_
    exact ⟨(congrArg (fun q : Int32 => some (Value.int q)) (show (-2000000004 : Int32) = (if ¬ d 52 = -1 then d 53 else (-2000000004 : Int32)) by first | exact (if_pos c_1).symm | exact (if_neg c_1).symm)), rfl, rfl⟩
set_option maxHeartbeats 4000000 in
set_option maxRecDepth 100000 in
theorem k_X9_fault_0_0_3 (l : Launch) (E : Ev) {I : SI} {L : SL} (d : Nat → Int32) (e_d : I (162) = d) : CS l yX9_fault wsX9_fault ({ frames := 3, cells := 0, slots := 0, locals := 66 }) E [.ref (E.2.2.2 161), .int (0 : Int32), .int (0 : Int32), .int (3 : Int32)] I L (fun vv I' L' => vv = some (.int (if ¬ d 52 = -1 then plcM d 40 0 else (-2000000004 : Int32))) ∧ I' = I ∧ L' = L) := by
  refine CS.of (cc := cX9_fault) (maxL := 4) (ret := (some .int)) (by decide) rfl (Nat.le_of_ble_eq_true rfl) ?_
  intro pg en sg mg below meth cg ls S hr hlk hX G hl
  have S : CallFix pg mg cg cX9_fault 4 sg _ wsX9_fault RX9 := S
  have hl : lv_has ls 4 [(0, .ref (E.2.2.2 161)), (1, .int (0 : Int32)), (2, .int (0 : Int32)), (3, .int (3 : Int32))] := hl
  refine lv_iload_n S.1 S.2.1 dX9_fault_0 rfl (lv_at hl 1 rfl) ?_
  refine s_callS (As := [.int (0 : Int32)]) (rest := []) S hX G (k_X9_isLoad l E (0 : Int32)) (va_cwS (bytes := cX9_isLoad) (maxL := 1) (ret := (some .boolean)) 1 S.2.2.2.2 gX9_fault_X9_isLoad rfl rfl rfl (by decide +kernel) ⟨Nat.le_of_ble_eq_true rfl, Nat.le_of_ble_eq_true rfl⟩) rfl hl.1 rfl (Nat.le_of_ble_eq_true rfl) ⟨Nat.zero_le _, Nat.zero_le _⟩ dX9_fault_1 (fun v I1 L1 H locs hR G => ?_)
  obtain ⟨hv, hI, hL⟩ := hR
  subst hv
  have G : GS E I L sg H locs := G.same hI hL
  refine W.eq (g2 := F0 mg 4 ls [.int (if ¬ (0 : Int32) < (0 : Int32) ∧ ¬ (1 : Int32) < (0 : Int32) then 1 else 0)]) rfl ?_
  refine s_if_eq_b (P := ¬ (0 : Int32) < (0 : Int32) ∧ ¬ (1 : Int32) < (0 : Int32)) (tgt := 31) S dX9_fault_4 (by decide) (fun h => absurd (by decide) h) (fun _ => ?_)
  refine lv_iload_n S.1 S.2.1 dX9_fault_7 rfl (lv_at hl 2 rfl) ?_
  refine lv_i2l (v := (0 : Int64)) S.1 S.2.1 dX9_fault_8 (by decide) ?_
  refine lv_lconst (v := (0 : Int64)) S.1 S.2.1 dX9_fault_9 (by decide) ?_
  refine lv_ldc2 (v := (2 : Int64)) S.1 S.2.1 S.2.2.2.1 (S.2.2.2.2 _ (List.mem_of_getElem? (i := 1) rfl)) dX9_fault_10 ?_
  refine s_callS (As := [.long (0 : Int64), .long (0 : Int64), .long (2 : Int64)]) (rest := []) S hX G (k_X9_in l E (0 : Int64) (0 : Int64) (2 : Int64)) (va_cwS (bytes := cX9_in) (maxL := 6) (ret := (some .boolean)) 3 S.2.2.2.2 gX9_fault_X9_in rfl rfl rfl (by decide +kernel) ⟨Nat.le_of_ble_eq_true rfl, Nat.le_of_ble_eq_true rfl⟩) rfl hl.1 rfl (Nat.le_of_ble_eq_true rfl) ⟨Nat.zero_le _, Nat.zero_le _⟩ dX9_fault_13 (fun v I1 L1 H locs hR G => ?_)
  obtain ⟨hv, hI, hL⟩ := hR
  subst hv
  have G : GS E I L sg H locs := G.same hI hL
  refine W.eq (g2 := F0 mg 16 ls [.int (if ¬ (0 : Int64) < (0 : Int64) ∧ ¬ (2 : Int64) < (0 : Int64) then 1 else 0)]) rfl ?_
  refine s_if_eq_b (P := ¬ (0 : Int64) < (0 : Int64) ∧ ¬ (2 : Int64) < (0 : Int64)) (tgt := 31) S dX9_fault_16 (by decide) (fun h => absurd (by decide) h) (fun _ => ?_)
  refine lv_iload_n S.1 S.2.1 dX9_fault_19 rfl (lv_at hl 3 rfl) ?_
  refine lv_i2l (v := (3 : Int64)) S.1 S.2.1 dX9_fault_20 (by decide) ?_
  refine lv_lconst (v := (0 : Int64)) S.1 S.2.1 dX9_fault_21 (by decide) ?_
  refine lv_ldc2 (v := (4 : Int64)) S.1 S.2.1 S.2.2.2.1 (S.2.2.2.2 _ (List.mem_of_getElem? (i := 2) rfl)) dX9_fault_22 ?_
  refine s_callS (As := [.long (3 : Int64), .long (0 : Int64), .long (4 : Int64)]) (rest := []) S hX G (k_X9_in l E (3 : Int64) (0 : Int64) (4 : Int64)) (va_cwS (bytes := cX9_in) (maxL := 6) (ret := (some .boolean)) 3 S.2.2.2.2 gX9_fault_X9_in rfl rfl rfl (by decide +kernel) ⟨Nat.le_of_ble_eq_true rfl, Nat.le_of_ble_eq_true rfl⟩) rfl hl.1 rfl (Nat.le_of_ble_eq_true rfl) ⟨Nat.zero_le _, Nat.zero_le _⟩ dX9_fault_25 (fun v I1 L1 H locs hR G => ?_)
  obtain ⟨hv, hI, hL⟩ := hR
  subst hv
  have G : GS E I L sg H locs := G.same hI hL
  refine W.eq (g2 := F0 mg 28 ls [.int (if ¬ (3 : Int64) < (0 : Int64) ∧ ¬ (4 : Int64) < (3 : Int64) then 1 else 0)]) rfl ?_
  refine s_if_ne_b (P := ¬ (3 : Int64) < (0 : Int64) ∧ ¬ (4 : Int64) < (3 : Int64)) (tgt := 34) S dX9_fault_28 (by decide) (fun _ => ?_) (fun h => absurd (by decide) h)
  refine lv_iload_n S.1 S.2.1 dX9_fault_34 rfl (lv_at hl 3 rfl) ?_
  refine lv_iconst (v := (4 : Int32)) S.1 S.2.1 dX9_fault_35 (by decide) ?_
  refine lv_icmp_ne (tgt := 54) S.1 S.2.1 dX9_fault_36 (by decide) (fun _ => ?_) (fun h => absurd h (by decide))
  refine lv_aload_n S.1 S.2.1 dX9_fault_54 rfl (lv_at hl 0 rfl) ?_
  refine lv_iload_n S.1 S.2.1 dX9_fault_55 rfl (lv_at hl 1 rfl) ?_
  refine lv_iload_n S.1 S.2.1 dX9_fault_56 rfl (lv_at hl 2 rfl) ?_
  refine s_callV (C := RX9) (As := [.int (0 : Int32), .int (0 : Int32)]) (rest := []) (i := 161) (kd := 9) S hX G (k_X9_isLatched_0_0 l E d e_d) (cwV (bytes := cX9_isLatched) (maxL := 3) (ret := (some .boolean)) 2 S.2.2.2.2 gX9_fault_X9_isLatched rfl rfl rfl (by decide +kernel) ⟨Nat.le_of_ble_eq_true rfl, Nat.le_of_ble_eq_true rfl⟩) (rfl : sh 161 = 9) rfl rfl rfl (by decide) rfl hl.1 rfl (Nat.le_of_ble_eq_true rfl) ⟨Nat.zero_le _, Nat.zero_le _⟩ dX9_fault_57 (fun v I1 L1 H locs hR G => ?_)
  obtain ⟨hv, hI, hL⟩ := hR
  subst hv
  have G : GS E I L sg H locs := G.same hI hL
  refine W.eq (g2 := F0 mg 60 ls [.int (if ¬ d 52 = -1 then 1 else 0)]) rfl ?_
  refine s_if_ne_b (P := ¬ d 52 = -1) (tgt := 74) S dX9_fault_60 (by decide) (fun c_1 => ?_) (fun c_1 => ?_)
  · refine lv_iload_n S.1 S.2.1 dX9_fault_74 rfl (lv_at hl 3 rfl) ?_
    refine lv_if_ne (tgt := 82) S.1 S.2.1 dX9_fault_75 (by decide) (fun _ => ?_) (fun h => absurd h (by decide))
    refine lv_iload_n S.1 S.2.1 dX9_fault_82 rfl (lv_at hl 3 rfl) ?_
    refine lv_iconst (v := (3 : Int32)) S.1 S.2.1 dX9_fault_83 (by decide) ?_
    refine lv_icmp_ne (tgt := 96) S.1 S.2.1 dX9_fault_84 (by decide) (fun h => absurd (by decide) h) (fun _ => ?_)
    refine lv_aload_n S.1 S.2.1 dX9_fault_87 rfl (lv_at hl 0 rfl) ?_
    refine lv_iload_n S.1 S.2.1 dX9_fault_88 rfl (lv_at hl 1 rfl) ?_
    refine lv_iload_n S.1 S.2.1 dX9_fault_89 rfl (lv_at hl 2 rfl) ?_
    refine s_callV (C := RX9) (As := [.int (0 : Int32), .int (0 : Int32)]) (rest := []) (i := 161) (kd := 9) S hX G (k_X9_placeOf_0_0 l E d e_d) (cwV (bytes := cX9_placeOf) (maxL := 5) (ret := (some .int)) 2 S.2.2.2.2 gX9_fault_X9_placeOf rfl rfl rfl (by decide +kernel) ⟨Nat.le_of_ble_eq_true rfl, Nat.le_of_ble_eq_true rfl⟩) (rfl : sh 161 = 9) rfl rfl rfl (by decide) rfl hl.1 rfl (Nat.le_of_ble_eq_true rfl) ⟨Nat.zero_le _, Nat.zero_le _⟩ dX9_fault_90 (fun v I1 L1 H locs hR G => ?_)
    obtain ⟨hv, hI, hL⟩ := hR
    subst hv
    have G : GS E I L sg H locs := G.same hI hL
    refine W.eq (g2 := F0 mg 93 ls [.int (plcM d 40 0)]) rfl ?_
    refine lv_topi (fun y_2 ey_2 => ?_)
    refine lv_goto (tgt := 116) S.1 S.2.1 dX9_fault_93 (by decide) ?_
    refine s_iret (x := y_2) S G hr hlk dX9_fault_116 ?_
    exact ⟨(congrArg (fun q : Int32 => some (Value.int q)) (show y_2 = (if ¬ d 52 = -1 then plcM d 40 0 else (-2000000004 : Int32)) by subst ey_2; (first | exact (if_pos c_1).symm | exact (if_neg c_1).symm))), rfl, rfl⟩
  · refine lv_iload_n S.1 S.2.1 dX9_fault_63 rfl (lv_at hl 3 rfl) ?_
    refine lv_if_ne (tgt := 71) S.1 S.2.1 dX9_fault_64 (by decide) (fun _ => ?_) (fun h => absurd h (by decide))
    refine lv_ldc (v := (-2000000004 : Int32)) S.1 S.2.1 S.2.2.2.1 (S.2.2.2.2 _ (List.mem_of_getElem? (i := 4) rfl)) dX9_fault_71 ?_
    refine s_iret (x := (-2000000004 : Int32)) S G hr hlk dX9_fault_73 ?_
    exact ⟨(congrArg (fun q : Int32 => some (Value.int q)) (show (-2000000004 : Int32) = (if ¬ d 52 = -1 then plcM d 40 0 else (-2000000004 : Int32)) by first | exact (if_pos c_1).symm | exact (if_neg c_1).symm)), rfl, rfl⟩
set_option maxHeartbeats 4000000 in
set_option maxRecDepth 100000 in
theorem k_X9_fault_0_0_4 (l : Launch) (E : Ev) {I : SI} {L : SL} (d : Nat → Int32) (e_d : I (162) = d) : CS l yX9_fault wsX9_fault ({ frames := 4, cells := 0, slots := 0, locals := 88 }) E [.ref (E.2.2.2 161), .int (0 : Int32), .int (0 : Int32), .int (4 : Int32)] I L (fun vv I' L' => vv = some (.int (if ¬ d 52 = -1 ∧ ¬ ¬ plcM d 40 0 ≤ 0 ∧ absM (d 44) < d 3 then 1 else 0)) ∧ I' = I ∧ L' = L) := by
  refine CS.of (cc := cX9_fault) (maxL := 4) (ret := (some .int)) (by decide) rfl (Nat.le_of_ble_eq_true rfl) ?_
  intro pg en sg mg below meth cg ls S hr hlk hX G hl
  have S : CallFix pg mg cg cX9_fault 4 sg _ wsX9_fault RX9 := S
  have hl : lv_has ls 4 [(0, .ref (E.2.2.2 161)), (1, .int (0 : Int32)), (2, .int (0 : Int32)), (3, .int (4 : Int32))] := hl
  refine lv_iload_n S.1 S.2.1 dX9_fault_0 rfl (lv_at hl 1 rfl) ?_
  refine s_callS (As := [.int (0 : Int32)]) (rest := []) S hX G (k_X9_isLoad l E (0 : Int32)) (va_cwS (bytes := cX9_isLoad) (maxL := 1) (ret := (some .boolean)) 1 S.2.2.2.2 gX9_fault_X9_isLoad rfl rfl rfl (by decide +kernel) ⟨Nat.le_of_ble_eq_true rfl, Nat.le_of_ble_eq_true rfl⟩) rfl hl.1 rfl (Nat.le_of_ble_eq_true rfl) ⟨Nat.zero_le _, Nat.zero_le _⟩ dX9_fault_1 (fun v I1 L1 H locs hR G => ?_)
  obtain ⟨hv, hI, hL⟩ := hR
  subst hv
  have G : GS E I L sg H locs := G.same hI hL
  refine W.eq (g2 := F0 mg 4 ls [.int (if ¬ (0 : Int32) < (0 : Int32) ∧ ¬ (1 : Int32) < (0 : Int32) then 1 else 0)]) rfl ?_
  refine s_if_eq_b (P := ¬ (0 : Int32) < (0 : Int32) ∧ ¬ (1 : Int32) < (0 : Int32)) (tgt := 31) S dX9_fault_4 (by decide) (fun h => absurd (by decide) h) (fun _ => ?_)
  refine lv_iload_n S.1 S.2.1 dX9_fault_7 rfl (lv_at hl 2 rfl) ?_
  refine lv_i2l (v := (0 : Int64)) S.1 S.2.1 dX9_fault_8 (by decide) ?_
  refine lv_lconst (v := (0 : Int64)) S.1 S.2.1 dX9_fault_9 (by decide) ?_
  refine lv_ldc2 (v := (2 : Int64)) S.1 S.2.1 S.2.2.2.1 (S.2.2.2.2 _ (List.mem_of_getElem? (i := 1) rfl)) dX9_fault_10 ?_
  refine s_callS (As := [.long (0 : Int64), .long (0 : Int64), .long (2 : Int64)]) (rest := []) S hX G (k_X9_in l E (0 : Int64) (0 : Int64) (2 : Int64)) (va_cwS (bytes := cX9_in) (maxL := 6) (ret := (some .boolean)) 3 S.2.2.2.2 gX9_fault_X9_in rfl rfl rfl (by decide +kernel) ⟨Nat.le_of_ble_eq_true rfl, Nat.le_of_ble_eq_true rfl⟩) rfl hl.1 rfl (Nat.le_of_ble_eq_true rfl) ⟨Nat.zero_le _, Nat.zero_le _⟩ dX9_fault_13 (fun v I1 L1 H locs hR G => ?_)
  obtain ⟨hv, hI, hL⟩ := hR
  subst hv
  have G : GS E I L sg H locs := G.same hI hL
  refine W.eq (g2 := F0 mg 16 ls [.int (if ¬ (0 : Int64) < (0 : Int64) ∧ ¬ (2 : Int64) < (0 : Int64) then 1 else 0)]) rfl ?_
  refine s_if_eq_b (P := ¬ (0 : Int64) < (0 : Int64) ∧ ¬ (2 : Int64) < (0 : Int64)) (tgt := 31) S dX9_fault_16 (by decide) (fun h => absurd (by decide) h) (fun _ => ?_)
  refine lv_iload_n S.1 S.2.1 dX9_fault_19 rfl (lv_at hl 3 rfl) ?_
  refine lv_i2l (v := (4 : Int64)) S.1 S.2.1 dX9_fault_20 (by decide) ?_
  refine lv_lconst (v := (0 : Int64)) S.1 S.2.1 dX9_fault_21 (by decide) ?_
  refine lv_ldc2 (v := (4 : Int64)) S.1 S.2.1 S.2.2.2.1 (S.2.2.2.2 _ (List.mem_of_getElem? (i := 2) rfl)) dX9_fault_22 ?_
  refine s_callS (As := [.long (4 : Int64), .long (0 : Int64), .long (4 : Int64)]) (rest := []) S hX G (k_X9_in l E (4 : Int64) (0 : Int64) (4 : Int64)) (va_cwS (bytes := cX9_in) (maxL := 6) (ret := (some .boolean)) 3 S.2.2.2.2 gX9_fault_X9_in rfl rfl rfl (by decide +kernel) ⟨Nat.le_of_ble_eq_true rfl, Nat.le_of_ble_eq_true rfl⟩) rfl hl.1 rfl (Nat.le_of_ble_eq_true rfl) ⟨Nat.zero_le _, Nat.zero_le _⟩ dX9_fault_25 (fun v I1 L1 H locs hR G => ?_)
  obtain ⟨hv, hI, hL⟩ := hR
  subst hv
  have G : GS E I L sg H locs := G.same hI hL
  refine W.eq (g2 := F0 mg 28 ls [.int (if ¬ (4 : Int64) < (0 : Int64) ∧ ¬ (4 : Int64) < (4 : Int64) then 1 else 0)]) rfl ?_
  refine s_if_ne_b (P := ¬ (4 : Int64) < (0 : Int64) ∧ ¬ (4 : Int64) < (4 : Int64)) (tgt := 34) S dX9_fault_28 (by decide) (fun _ => ?_) (fun h => absurd (by decide) h)
  refine lv_iload_n S.1 S.2.1 dX9_fault_34 rfl (lv_at hl 3 rfl) ?_
  refine lv_iconst (v := (4 : Int32)) S.1 S.2.1 dX9_fault_35 (by decide) ?_
  refine lv_icmp_ne (tgt := 54) S.1 S.2.1 dX9_fault_36 (by decide) (fun h => absurd (by decide) h) (fun _ => ?_)
  refine lv_aload_n S.1 S.2.1 dX9_fault_39 rfl (lv_at hl 0 rfl) ?_
  refine lv_iload_n S.1 S.2.1 dX9_fault_40 rfl (lv_at hl 1 rfl) ?_
  refine lv_iload_n S.1 S.2.1 dX9_fault_41 rfl (lv_at hl 2 rfl) ?_
  refine s_callV (C := RX9) (As := [.int (0 : Int32), .int (0 : Int32)]) (rest := []) (i := 161) (kd := 9) S hX G (k_X9_canClear_0_0 l E d e_d) (cwV (bytes := cX9_canClear) (maxL := 3) (ret := (some .boolean)) 2 S.2.2.2.2 gX9_fault_X9_canClear rfl rfl rfl (by decide +kernel) ⟨Nat.le_of_ble_eq_true rfl, Nat.le_of_ble_eq_true rfl⟩) (rfl : sh 161 = 9) rfl rfl rfl (by decide) rfl hl.1 rfl (Nat.le_of_ble_eq_true rfl) ⟨Nat.zero_le _, Nat.zero_le _⟩ dX9_fault_42 (fun v I1 L1 H locs hR G => ?_)
  obtain ⟨hv, hI, hL⟩ := hR
  subst hv
  have G : GS E I L sg H locs := G.same hI hL
  refine W.eq (g2 := F0 mg 45 ls [.int (if ¬ d 52 = -1 ∧ ¬ ¬ plcM d 40 0 ≤ 0 ∧ absM (d 44) < d 3 then 1 else 0)]) rfl ?_
  refine s_if_eq_b (P := ¬ d 52 = -1 ∧ ¬ ¬ plcM d 40 0 ≤ 0 ∧ absM (d 44) < d 3) (tgt := 52) S dX9_fault_45 (by decide) (fun c_1 => ?_) (fun c_1 => ?_)
  · refine lv_iconst (v := (0 : Int32)) S.1 S.2.1 dX9_fault_52 (by decide) ?_
    refine s_iret (x := (0 : Int32)) S G hr hlk dX9_fault_53 ?_
    exact ⟨(congrArg (fun q : Int32 => some (Value.int q)) (show (0 : Int32) = (if ¬ d 52 = -1 ∧ ¬ ¬ plcM d 40 0 ≤ 0 ∧ absM (d 44) < d 3 then 1 else 0) by first | exact (if_pos c_1).symm | exact (if_neg c_1).symm)), rfl, rfl⟩
  · refine lv_iconst (v := (1 : Int32)) S.1 S.2.1 dX9_fault_48 (by decide) ?_
    refine lv_goto (tgt := 53) S.1 S.2.1 dX9_fault_49 (by decide) ?_
    refine s_iret (x := (1 : Int32)) S G hr hlk dX9_fault_53 ?_
    exact ⟨(congrArg (fun q : Int32 => some (Value.int q)) (show (1 : Int32) = (if ¬ d 52 = -1 ∧ ¬ ¬ plcM d 40 0 ≤ 0 ∧ absM (d 44) < d 3 then 1 else 0) by first | exact (if_pos c_1).symm | exact (if_neg c_1).symm)), rfl, rfl⟩
set_option maxHeartbeats 4000000 in
set_option maxRecDepth 100000 in
theorem k_X9_fault_0_1_0 (l : Launch) (E : Ev) {I : SI} {L : SL} (d : Nat → Int32) (e_d : I (162) = d) : CS l yX9_fault wsX9_fault ({ frames := 2, cells := 0, slots := 0, locals := 45 }) E [.ref (E.2.2.2 161), .int (0 : Int32), .int (1 : Int32), .int (0 : Int32)] I L (fun vv I' L' => vv = some (.int (if ¬ d 55 = -1 then 1 else 0)) ∧ I' = I ∧ L' = L) := by
  refine CS.of (cc := cX9_fault) (maxL := 4) (ret := (some .int)) (by decide) rfl (Nat.le_of_ble_eq_true rfl) ?_
  intro pg en sg mg below meth cg ls S hr hlk hX G hl
  have S : CallFix pg mg cg cX9_fault 4 sg _ wsX9_fault RX9 := S
  have hl : lv_has ls 4 [(0, .ref (E.2.2.2 161)), (1, .int (0 : Int32)), (2, .int (1 : Int32)), (3, .int (0 : Int32))] := hl
  refine lv_iload_n S.1 S.2.1 dX9_fault_0 rfl (lv_at hl 1 rfl) ?_
  refine s_callS (As := [.int (0 : Int32)]) (rest := []) S hX G (k_X9_isLoad l E (0 : Int32)) (va_cwS (bytes := cX9_isLoad) (maxL := 1) (ret := (some .boolean)) 1 S.2.2.2.2 gX9_fault_X9_isLoad rfl rfl rfl (by decide +kernel) ⟨Nat.le_of_ble_eq_true rfl, Nat.le_of_ble_eq_true rfl⟩) rfl hl.1 rfl (Nat.le_of_ble_eq_true rfl) ⟨Nat.zero_le _, Nat.zero_le _⟩ dX9_fault_1 (fun v I1 L1 H locs hR G => ?_)
  obtain ⟨hv, hI, hL⟩ := hR
  subst hv
  have G : GS E I L sg H locs := G.same hI hL
  refine W.eq (g2 := F0 mg 4 ls [.int (if ¬ (0 : Int32) < (0 : Int32) ∧ ¬ (1 : Int32) < (0 : Int32) then 1 else 0)]) rfl ?_
  refine s_if_eq_b (P := ¬ (0 : Int32) < (0 : Int32) ∧ ¬ (1 : Int32) < (0 : Int32)) (tgt := 31) S dX9_fault_4 (by decide) (fun h => absurd (by decide) h) (fun _ => ?_)
  refine lv_iload_n S.1 S.2.1 dX9_fault_7 rfl (lv_at hl 2 rfl) ?_
  refine lv_i2l (v := (1 : Int64)) S.1 S.2.1 dX9_fault_8 (by decide) ?_
  refine lv_lconst (v := (0 : Int64)) S.1 S.2.1 dX9_fault_9 (by decide) ?_
  refine lv_ldc2 (v := (2 : Int64)) S.1 S.2.1 S.2.2.2.1 (S.2.2.2.2 _ (List.mem_of_getElem? (i := 1) rfl)) dX9_fault_10 ?_
  refine s_callS (As := [.long (1 : Int64), .long (0 : Int64), .long (2 : Int64)]) (rest := []) S hX G (k_X9_in l E (1 : Int64) (0 : Int64) (2 : Int64)) (va_cwS (bytes := cX9_in) (maxL := 6) (ret := (some .boolean)) 3 S.2.2.2.2 gX9_fault_X9_in rfl rfl rfl (by decide +kernel) ⟨Nat.le_of_ble_eq_true rfl, Nat.le_of_ble_eq_true rfl⟩) rfl hl.1 rfl (Nat.le_of_ble_eq_true rfl) ⟨Nat.zero_le _, Nat.zero_le _⟩ dX9_fault_13 (fun v I1 L1 H locs hR G => ?_)
  obtain ⟨hv, hI, hL⟩ := hR
  subst hv
  have G : GS E I L sg H locs := G.same hI hL
  refine W.eq (g2 := F0 mg 16 ls [.int (if ¬ (1 : Int64) < (0 : Int64) ∧ ¬ (2 : Int64) < (1 : Int64) then 1 else 0)]) rfl ?_
  refine s_if_eq_b (P := ¬ (1 : Int64) < (0 : Int64) ∧ ¬ (2 : Int64) < (1 : Int64)) (tgt := 31) S dX9_fault_16 (by decide) (fun h => absurd (by decide) h) (fun _ => ?_)
  refine lv_iload_n S.1 S.2.1 dX9_fault_19 rfl (lv_at hl 3 rfl) ?_
  refine lv_i2l (v := (0 : Int64)) S.1 S.2.1 dX9_fault_20 (by decide) ?_
  refine lv_lconst (v := (0 : Int64)) S.1 S.2.1 dX9_fault_21 (by decide) ?_
  refine lv_ldc2 (v := (4 : Int64)) S.1 S.2.1 S.2.2.2.1 (S.2.2.2.2 _ (List.mem_of_getElem? (i := 2) rfl)) dX9_fault_22 ?_
  refine s_callS (As := [.long (0 : Int64), .long (0 : Int64), .long (4 : Int64)]) (rest := []) S hX G (k_X9_in l E (0 : Int64) (0 : Int64) (4 : Int64)) (va_cwS (bytes := cX9_in) (maxL := 6) (ret := (some .boolean)) 3 S.2.2.2.2 gX9_fault_X9_in rfl rfl rfl (by decide +kernel) ⟨Nat.le_of_ble_eq_true rfl, Nat.le_of_ble_eq_true rfl⟩) rfl hl.1 rfl (Nat.le_of_ble_eq_true rfl) ⟨Nat.zero_le _, Nat.zero_le _⟩ dX9_fault_25 (fun v I1 L1 H locs hR G => ?_)
  obtain ⟨hv, hI, hL⟩ := hR
  subst hv
  have G : GS E I L sg H locs := G.same hI hL
  refine W.eq (g2 := F0 mg 28 ls [.int (if ¬ (0 : Int64) < (0 : Int64) ∧ ¬ (4 : Int64) < (0 : Int64) then 1 else 0)]) rfl ?_
  refine s_if_ne_b (P := ¬ (0 : Int64) < (0 : Int64) ∧ ¬ (4 : Int64) < (0 : Int64)) (tgt := 34) S dX9_fault_28 (by decide) (fun _ => ?_) (fun h => absurd (by decide) h)
  refine lv_iload_n S.1 S.2.1 dX9_fault_34 rfl (lv_at hl 3 rfl) ?_
  refine lv_iconst (v := (4 : Int32)) S.1 S.2.1 dX9_fault_35 (by decide) ?_
  refine lv_icmp_ne (tgt := 54) S.1 S.2.1 dX9_fault_36 (by decide) (fun _ => ?_) (fun h => absurd h (by decide))
  refine lv_aload_n S.1 S.2.1 dX9_fault_54 rfl (lv_at hl 0 rfl) ?_
  refine lv_iload_n S.1 S.2.1 dX9_fault_55 rfl (lv_at hl 1 rfl) ?_
  refine lv_iload_n S.1 S.2.1 dX9_fault_56 rfl (lv_at hl 2 rfl) ?_
  refine s_callV (C := RX9) (As := [.int (0 : Int32), .int (1 : Int32)]) (rest := []) (i := 161) (kd := 9) S hX G (k_X9_isLatched_0_1 l E d e_d) (cwV (bytes := cX9_isLatched) (maxL := 3) (ret := (some .boolean)) 2 S.2.2.2.2 gX9_fault_X9_isLatched rfl rfl rfl (by decide +kernel) ⟨Nat.le_of_ble_eq_true rfl, Nat.le_of_ble_eq_true rfl⟩) (rfl : sh 161 = 9) rfl rfl rfl (by decide) rfl hl.1 rfl (Nat.le_of_ble_eq_true rfl) ⟨Nat.zero_le _, Nat.zero_le _⟩ dX9_fault_57 (fun v I1 L1 H locs hR G => ?_)
  obtain ⟨hv, hI, hL⟩ := hR
  subst hv
  have G : GS E I L sg H locs := G.same hI hL
  refine W.eq (g2 := F0 mg 60 ls [.int (if ¬ d 55 = -1 then 1 else 0)]) rfl ?_
  refine s_if_ne_b (P := ¬ d 55 = -1) (tgt := 74) S dX9_fault_60 (by decide) (fun c_1 => ?_) (fun c_1 => ?_)
  · refine lv_iload_n S.1 S.2.1 dX9_fault_74 rfl (lv_at hl 3 rfl) ?_
    refine lv_if_ne (tgt := 82) S.1 S.2.1 dX9_fault_75 (by decide) (fun h => absurd (by decide) h) (fun _ => ?_)
    refine lv_iconst (v := (1 : Int32)) S.1 S.2.1 dX9_fault_78 (by decide) ?_
    refine lv_goto (tgt := 116) S.1 S.2.1 dX9_fault_79 (by decide) ?_
    refine s_iret (x := (1 : Int32)) S G hr hlk dX9_fault_116 ?_
    exact ⟨(congrArg (fun q : Int32 => some (Value.int q)) (show (1 : Int32) = (if ¬ d 55 = -1 then 1 else 0) by first | exact (if_pos c_1).symm | exact (if_neg c_1).symm)), rfl, rfl⟩
  · refine lv_iload_n S.1 S.2.1 dX9_fault_63 rfl (lv_at hl 3 rfl) ?_
    refine lv_if_ne (tgt := 71) S.1 S.2.1 dX9_fault_64 (by decide) (fun h => absurd (by decide) h) (fun _ => ?_)
    refine lv_iconst (v := (0 : Int32)) S.1 S.2.1 dX9_fault_67 (by decide) ?_
    refine lv_goto (tgt := 73) S.1 S.2.1 dX9_fault_68 (by decide) ?_
    refine s_iret (x := (0 : Int32)) S G hr hlk dX9_fault_73 ?_
    exact ⟨(congrArg (fun q : Int32 => some (Value.int q)) (show (0 : Int32) = (if ¬ d 55 = -1 then 1 else 0) by first | exact (if_pos c_1).symm | exact (if_neg c_1).symm)), rfl, rfl⟩
set_option maxHeartbeats 4000000 in
set_option maxRecDepth 100000 in
theorem k_X9_fault_0_1_1 (l : Launch) (E : Ev) {I : SI} {L : SL} (d : Nat → Int32) (e_d : I (162) = d) : CS l yX9_fault wsX9_fault ({ frames := 2, cells := 0, slots := 0, locals := 45 }) E [.ref (E.2.2.2 161), .int (0 : Int32), .int (1 : Int32), .int (1 : Int32)] I L (fun vv I' L' => vv = some (.int (if ¬ d 55 = -1 then d 55 else (-2000000004 : Int32))) ∧ I' = I ∧ L' = L) := by
  refine CS.of (cc := cX9_fault) (maxL := 4) (ret := (some .int)) (by decide) rfl (Nat.le_of_ble_eq_true rfl) ?_
  intro pg en sg mg below meth cg ls S hr hlk hX G hl
  have S : CallFix pg mg cg cX9_fault 4 sg _ wsX9_fault RX9 := S
  have hl : lv_has ls 4 [(0, .ref (E.2.2.2 161)), (1, .int (0 : Int32)), (2, .int (1 : Int32)), (3, .int (1 : Int32))] := hl
  refine lv_iload_n S.1 S.2.1 dX9_fault_0 rfl (lv_at hl 1 rfl) ?_
  refine s_callS (As := [.int (0 : Int32)]) (rest := []) S hX G (k_X9_isLoad l E (0 : Int32)) (va_cwS (bytes := cX9_isLoad) (maxL := 1) (ret := (some .boolean)) 1 S.2.2.2.2 gX9_fault_X9_isLoad rfl rfl rfl (by decide +kernel) ⟨Nat.le_of_ble_eq_true rfl, Nat.le_of_ble_eq_true rfl⟩) rfl hl.1 rfl (Nat.le_of_ble_eq_true rfl) ⟨Nat.zero_le _, Nat.zero_le _⟩ dX9_fault_1 (fun v I1 L1 H locs hR G => ?_)
  obtain ⟨hv, hI, hL⟩ := hR
  subst hv
  have G : GS E I L sg H locs := G.same hI hL
  refine W.eq (g2 := F0 mg 4 ls [.int (if ¬ (0 : Int32) < (0 : Int32) ∧ ¬ (1 : Int32) < (0 : Int32) then 1 else 0)]) rfl ?_
  refine s_if_eq_b (P := ¬ (0 : Int32) < (0 : Int32) ∧ ¬ (1 : Int32) < (0 : Int32)) (tgt := 31) S dX9_fault_4 (by decide) (fun h => absurd (by decide) h) (fun _ => ?_)
  refine lv_iload_n S.1 S.2.1 dX9_fault_7 rfl (lv_at hl 2 rfl) ?_
  refine lv_i2l (v := (1 : Int64)) S.1 S.2.1 dX9_fault_8 (by decide) ?_
  refine lv_lconst (v := (0 : Int64)) S.1 S.2.1 dX9_fault_9 (by decide) ?_
  refine lv_ldc2 (v := (2 : Int64)) S.1 S.2.1 S.2.2.2.1 (S.2.2.2.2 _ (List.mem_of_getElem? (i := 1) rfl)) dX9_fault_10 ?_
  refine s_callS (As := [.long (1 : Int64), .long (0 : Int64), .long (2 : Int64)]) (rest := []) S hX G (k_X9_in l E (1 : Int64) (0 : Int64) (2 : Int64)) (va_cwS (bytes := cX9_in) (maxL := 6) (ret := (some .boolean)) 3 S.2.2.2.2 gX9_fault_X9_in rfl rfl rfl (by decide +kernel) ⟨Nat.le_of_ble_eq_true rfl, Nat.le_of_ble_eq_true rfl⟩) rfl hl.1 rfl (Nat.le_of_ble_eq_true rfl) ⟨Nat.zero_le _, Nat.zero_le _⟩ dX9_fault_13 (fun v I1 L1 H locs hR G => ?_)
  obtain ⟨hv, hI, hL⟩ := hR
  subst hv
  have G : GS E I L sg H locs := G.same hI hL
  refine W.eq (g2 := F0 mg 16 ls [.int (if ¬ (1 : Int64) < (0 : Int64) ∧ ¬ (2 : Int64) < (1 : Int64) then 1 else 0)]) rfl ?_
  refine s_if_eq_b (P := ¬ (1 : Int64) < (0 : Int64) ∧ ¬ (2 : Int64) < (1 : Int64)) (tgt := 31) S dX9_fault_16 (by decide) (fun h => absurd (by decide) h) (fun _ => ?_)
  refine lv_iload_n S.1 S.2.1 dX9_fault_19 rfl (lv_at hl 3 rfl) ?_
  refine lv_i2l (v := (1 : Int64)) S.1 S.2.1 dX9_fault_20 (by decide) ?_
  refine lv_lconst (v := (0 : Int64)) S.1 S.2.1 dX9_fault_21 (by decide) ?_
  refine lv_ldc2 (v := (4 : Int64)) S.1 S.2.1 S.2.2.2.1 (S.2.2.2.2 _ (List.mem_of_getElem? (i := 2) rfl)) dX9_fault_22 ?_
  refine s_callS (As := [.long (1 : Int64), .long (0 : Int64), .long (4 : Int64)]) (rest := []) S hX G (k_X9_in l E (1 : Int64) (0 : Int64) (4 : Int64)) (va_cwS (bytes := cX9_in) (maxL := 6) (ret := (some .boolean)) 3 S.2.2.2.2 gX9_fault_X9_in rfl rfl rfl (by decide +kernel) ⟨Nat.le_of_ble_eq_true rfl, Nat.le_of_ble_eq_true rfl⟩) rfl hl.1 rfl (Nat.le_of_ble_eq_true rfl) ⟨Nat.zero_le _, Nat.zero_le _⟩ dX9_fault_25 (fun v I1 L1 H locs hR G => ?_)
  obtain ⟨hv, hI, hL⟩ := hR
  subst hv
  have G : GS E I L sg H locs := G.same hI hL
  refine W.eq (g2 := F0 mg 28 ls [.int (if ¬ (1 : Int64) < (0 : Int64) ∧ ¬ (4 : Int64) < (1 : Int64) then 1 else 0)]) rfl ?_
  refine s_if_ne_b (P := ¬ (1 : Int64) < (0 : Int64) ∧ ¬ (4 : Int64) < (1 : Int64)) (tgt := 34) S dX9_fault_28 (by decide) (fun _ => ?_) (fun h => absurd (by decide) h)
  refine lv_iload_n S.1 S.2.1 dX9_fault_34 rfl (lv_at hl 3 rfl) ?_
  refine lv_iconst (v := (4 : Int32)) S.1 S.2.1 dX9_fault_35 (by decide) ?_
  refine lv_icmp_ne (tgt := 54) S.1 S.2.1 dX9_fault_36 (by decide) (fun _ => ?_) (fun h => absurd h (by decide))
  refine lv_aload_n S.1 S.2.1 dX9_fault_54 rfl (lv_at hl 0 rfl) ?_
  refine lv_iload_n S.1 S.2.1 dX9_fault_55 rfl (lv_at hl 1 rfl) ?_
  refine lv_iload_n S.1 S.2.1 dX9_fault_56 rfl (lv_at hl 2 rfl) ?_
  refine s_callV (C := RX9) (As := [.int (0 : Int32), .int (1 : Int32)]) (rest := []) (i := 161) (kd := 9) S hX G (k_X9_isLatched_0_1 l E d e_d) (cwV (bytes := cX9_isLatched) (maxL := 3) (ret := (some .boolean)) 2 S.2.2.2.2 gX9_fault_X9_isLatched rfl rfl rfl (by decide +kernel) ⟨Nat.le_of_ble_eq_true rfl, Nat.le_of_ble_eq_true rfl⟩) (rfl : sh 161 = 9) rfl rfl rfl (by decide) rfl hl.1 rfl (Nat.le_of_ble_eq_true rfl) ⟨Nat.zero_le _, Nat.zero_le _⟩ dX9_fault_57 (fun v I1 L1 H locs hR G => ?_)
  obtain ⟨hv, hI, hL⟩ := hR
  subst hv
  have G : GS E I L sg H locs := G.same hI hL
  refine W.eq (g2 := F0 mg 60 ls [.int (if ¬ d 55 = -1 then 1 else 0)]) rfl ?_
  refine s_if_ne_b (P := ¬ d 55 = -1) (tgt := 74) S dX9_fault_60 (by decide) (fun c_1 => ?_) (fun c_1 => ?_)
  · refine lv_iload_n S.1 S.2.1 dX9_fault_74 rfl (lv_at hl 3 rfl) ?_
    refine lv_if_ne (tgt := 82) S.1 S.2.1 dX9_fault_75 (by decide) (fun _ => ?_) (fun h => absurd h (by decide))
    refine lv_iload_n S.1 S.2.1 dX9_fault_82 rfl (lv_at hl 3 rfl) ?_
    refine lv_iconst (v := (3 : Int32)) S.1 S.2.1 dX9_fault_83 (by decide) ?_
    refine lv_icmp_ne (tgt := 96) S.1 S.2.1 dX9_fault_84 (by decide) (fun _ => ?_) (fun h => absurd h (by decide))
    refine lv_aload_n S.1 S.2.1 dX9_fault_96 rfl (lv_at hl 0 rfl) ?_
    refine s_get S hX G (i := 161) (kd := 9) (a := (I 161)) (v := .ref (E.2.2.2 162)) (C := RX9) (T := TX9) (N := 13) 0 (rfl : sh 161 = 9) rfl rfl rfl (by decide) rfl (fun _ h => (List.mem_cons_of_mem _ (List.mem_append_right _ h))) (by decide) (List.mem_of_getElem? (i := 5) rfl) (fun _ h => h) dX9_fault_97 ?_
    refine lv_iload_n S.1 S.2.1 dX9_fault_100 rfl (lv_at hl 1 rfl) ?_
    refine s_callS (As := [.int (0 : Int32)]) (rest := [.ref (E.2.2.2 162)]) S hX G (k_X9_loadAt_0 l E) (va_cwS (bytes := cX9_loadAt) (maxL := 1) (ret := (some .int)) 1 S.2.2.2.2 gX9_fault_X9_loadAt rfl rfl rfl (by decide +kernel) ⟨Nat.le_of_ble_eq_true rfl, Nat.le_of_ble_eq_true rfl⟩) rfl hl.1 rfl (Nat.le_of_ble_eq_true rfl) ⟨Nat.zero_le _, Nat.zero_le _⟩ dX9_fault_101 (fun v I1 L1 H locs hR G => ?_)
    obtain ⟨hv, hI, hL⟩ := hR
    subst hv
    have G : GS E I L sg H locs := G.same hI hL
    refine W.eq (g2 := F0 mg 104 ls [.int (40 : Int32), .ref (E.2.2.2 162)]) rfl ?_
    refine lv_bipush (v := (12 : Int32)) S.1 S.2.1 dX9_fault_104 (by decide) ?_
    refine s_iadd (v := (52 : Int32)) S dX9_fault_106 (by decide) ?_
    refine lv_iconst (v := (3 : Int32)) S.1 S.2.1 dX9_fault_107 (by decide) ?_
    refine lv_iload_n S.1 S.2.1 dX9_fault_108 rfl (lv_at hl 2 rfl) ?_
    refine s_imul (v := (3 : Int32)) S dX9_fault_109 (by decide) ?_
    refine s_iadd (v := (55 : Int32)) S dX9_fault_110 (by decide) ?_
    refine lv_iload_n S.1 S.2.1 dX9_fault_111 rfl (lv_at hl 3 rfl) ?_
    refine s_iadd (v := (56 : Int32)) S dX9_fault_112 (by decide) ?_
    refine lv_iconst (v := (1 : Int32)) S.1 S.2.1 dX9_fault_113 (by decide) ?_
    refine s_isub (v := (55 : Int32)) S dX9_fault_114 (by decide) ?_
    refine s_iald S hX G (i := 162) (kd := 284) (n := 270) (a := d) (x := (d 55)) (rfl : sh 162 = 284) e_d rfl (by decide) (by unfold vp_in; decide) (congrArg d (by decide)) dX9_fault_115 ?_
    refine s_iret (x := (d 55)) S G hr hlk dX9_fault_116 ?_
    exact ⟨(congrArg (fun q : Int32 => some (Value.int q)) (show (d 55) = (if ¬ d 55 = -1 then d 55 else (-2000000004 : Int32)) by first | exact (if_pos c_1).symm | exact (if_neg c_1).symm)), rfl, rfl⟩
  · refine lv_iload_n S.1 S.2.1 dX9_fault_63 rfl (lv_at hl 3 rfl) ?_
    refine lv_if_ne (tgt := 71) S.1 S.2.1 dX9_fault_64 (by decide) (fun _ => ?_) (fun h => absurd h (by decide))
    refine lv_ldc (v := (-2000000004 : Int32)) S.1 S.2.1 S.2.2.2.1 (S.2.2.2.2 _ (List.mem_of_getElem? (i := 4) rfl)) dX9_fault_71 ?_
    refine s_iret (x := (-2000000004 : Int32)) S G hr hlk dX9_fault_73 ?_
    exact ⟨(congrArg (fun q : Int32 => some (Value.int q)) (show (-2000000004 : Int32) = (if ¬ d 55 = -1 then d 55 else (-2000000004 : Int32)) by first | exact (if_pos c_1).symm | exact (if_neg c_1).symm)), rfl, rfl⟩
set_option maxHeartbeats 4000000 in
set_option maxRecDepth 100000 in
theorem k_X9_fault_0_1_2 (l : Launch) (E : Ev) {I : SI} {L : SL} (d : Nat → Int32) (e_d : I (162) = d) : CS l yX9_fault wsX9_fault ({ frames := 2, cells := 0, slots := 0, locals := 45 }) E [.ref (E.2.2.2 161), .int (0 : Int32), .int (1 : Int32), .int (2 : Int32)] I L (fun vv I' L' => vv = some (.int (if ¬ d 55 = -1 then d 56 else (-2000000004 : Int32))) ∧ I' = I ∧ L' = L) := by
  refine CS.of (cc := cX9_fault) (maxL := 4) (ret := (some .int)) (by decide) rfl (Nat.le_of_ble_eq_true rfl) ?_
  intro pg en sg mg below meth cg ls S hr hlk hX G hl
  have S : CallFix pg mg cg cX9_fault 4 sg _ wsX9_fault RX9 := S
  have hl : lv_has ls 4 [(0, .ref (E.2.2.2 161)), (1, .int (0 : Int32)), (2, .int (1 : Int32)), (3, .int (2 : Int32))] := hl
  refine lv_iload_n S.1 S.2.1 dX9_fault_0 rfl (lv_at hl 1 rfl) ?_
  refine s_callS (As := [.int (0 : Int32)]) (rest := []) S hX G (k_X9_isLoad l E (0 : Int32)) (va_cwS (bytes := cX9_isLoad) (maxL := 1) (ret := (some .boolean)) 1 S.2.2.2.2 gX9_fault_X9_isLoad rfl rfl rfl (by decide +kernel) ⟨Nat.le_of_ble_eq_true rfl, Nat.le_of_ble_eq_true rfl⟩) rfl hl.1 rfl (Nat.le_of_ble_eq_true rfl) ⟨Nat.zero_le _, Nat.zero_le _⟩ dX9_fault_1 (fun v I1 L1 H locs hR G => ?_)
  obtain ⟨hv, hI, hL⟩ := hR
  subst hv
  have G : GS E I L sg H locs := G.same hI hL
  refine W.eq (g2 := F0 mg 4 ls [.int (if ¬ (0 : Int32) < (0 : Int32) ∧ ¬ (1 : Int32) < (0 : Int32) then 1 else 0)]) rfl ?_
  refine s_if_eq_b (P := ¬ (0 : Int32) < (0 : Int32) ∧ ¬ (1 : Int32) < (0 : Int32)) (tgt := 31) S dX9_fault_4 (by decide) (fun h => absurd (by decide) h) (fun _ => ?_)
  refine lv_iload_n S.1 S.2.1 dX9_fault_7 rfl (lv_at hl 2 rfl) ?_
  refine lv_i2l (v := (1 : Int64)) S.1 S.2.1 dX9_fault_8 (by decide) ?_
  refine lv_lconst (v := (0 : Int64)) S.1 S.2.1 dX9_fault_9 (by decide) ?_
  refine lv_ldc2 (v := (2 : Int64)) S.1 S.2.1 S.2.2.2.1 (S.2.2.2.2 _ (List.mem_of_getElem? (i := 1) rfl)) dX9_fault_10 ?_
  refine s_callS (As := [.long (1 : Int64), .long (0 : Int64), .long (2 : Int64)]) (rest := []) S hX G (k_X9_in l E (1 : Int64) (0 : Int64) (2 : Int64)) (va_cwS (bytes := cX9_in) (maxL := 6) (ret := (some .boolean)) 3 S.2.2.2.2 gX9_fault_X9_in rfl rfl rfl (by decide +kernel) ⟨Nat.le_of_ble_eq_true rfl, Nat.le_of_ble_eq_true rfl⟩) rfl hl.1 rfl (Nat.le_of_ble_eq_true rfl) ⟨Nat.zero_le _, Nat.zero_le _⟩ dX9_fault_13 (fun v I1 L1 H locs hR G => ?_)
  obtain ⟨hv, hI, hL⟩ := hR
  subst hv
  have G : GS E I L sg H locs := G.same hI hL
  refine W.eq (g2 := F0 mg 16 ls [.int (if ¬ (1 : Int64) < (0 : Int64) ∧ ¬ (2 : Int64) < (1 : Int64) then 1 else 0)]) rfl ?_
  refine s_if_eq_b (P := ¬ (1 : Int64) < (0 : Int64) ∧ ¬ (2 : Int64) < (1 : Int64)) (tgt := 31) S dX9_fault_16 (by decide) (fun h => absurd (by decide) h) (fun _ => ?_)
  refine lv_iload_n S.1 S.2.1 dX9_fault_19 rfl (lv_at hl 3 rfl) ?_
  refine lv_i2l (v := (2 : Int64)) S.1 S.2.1 dX9_fault_20 (by decide) ?_
  refine lv_lconst (v := (0 : Int64)) S.1 S.2.1 dX9_fault_21 (by decide) ?_
  refine lv_ldc2 (v := (4 : Int64)) S.1 S.2.1 S.2.2.2.1 (S.2.2.2.2 _ (List.mem_of_getElem? (i := 2) rfl)) dX9_fault_22 ?_
  refine s_callS (As := [.long (2 : Int64), .long (0 : Int64), .long (4 : Int64)]) (rest := []) S hX G (k_X9_in l E (2 : Int64) (0 : Int64) (4 : Int64)) (va_cwS (bytes := cX9_in) (maxL := 6) (ret := (some .boolean)) 3 S.2.2.2.2 gX9_fault_X9_in rfl rfl rfl (by decide +kernel) ⟨Nat.le_of_ble_eq_true rfl, Nat.le_of_ble_eq_true rfl⟩) rfl hl.1 rfl (Nat.le_of_ble_eq_true rfl) ⟨Nat.zero_le _, Nat.zero_le _⟩ dX9_fault_25 (fun v I1 L1 H locs hR G => ?_)
  obtain ⟨hv, hI, hL⟩ := hR
  subst hv
  have G : GS E I L sg H locs := G.same hI hL
  refine W.eq (g2 := F0 mg 28 ls [.int (if ¬ (2 : Int64) < (0 : Int64) ∧ ¬ (4 : Int64) < (2 : Int64) then 1 else 0)]) rfl ?_
  refine s_if_ne_b (P := ¬ (2 : Int64) < (0 : Int64) ∧ ¬ (4 : Int64) < (2 : Int64)) (tgt := 34) S dX9_fault_28 (by decide) (fun _ => ?_) (fun h => absurd (by decide) h)
  refine lv_iload_n S.1 S.2.1 dX9_fault_34 rfl (lv_at hl 3 rfl) ?_
  refine lv_iconst (v := (4 : Int32)) S.1 S.2.1 dX9_fault_35 (by decide) ?_
  refine lv_icmp_ne (tgt := 54) S.1 S.2.1 dX9_fault_36 (by decide) (fun _ => ?_) (fun h => absurd h (by decide))
  refine lv_aload_n S.1 S.2.1 dX9_fault_54 rfl (lv_at hl 0 rfl) ?_
  refine lv_iload_n S.1 S.2.1 dX9_fault_55 rfl (lv_at hl 1 rfl) ?_
  refine lv_iload_n S.1 S.2.1 dX9_fault_56 rfl (lv_at hl 2 rfl) ?_
  refine s_callV (C := RX9) (As := [.int (0 : Int32), .int (1 : Int32)]) (rest := []) (i := 161) (kd := 9) S hX G (k_X9_isLatched_0_1 l E d e_d) (cwV (bytes := cX9_isLatched) (maxL := 3) (ret := (some .boolean)) 2 S.2.2.2.2 gX9_fault_X9_isLatched rfl rfl rfl (by decide +kernel) ⟨Nat.le_of_ble_eq_true rfl, Nat.le_of_ble_eq_true rfl⟩) (rfl : sh 161 = 9) rfl rfl rfl (by decide) rfl hl.1 rfl (Nat.le_of_ble_eq_true rfl) ⟨Nat.zero_le _, Nat.zero_le _⟩ dX9_fault_57 (fun v I1 L1 H locs hR G => ?_)
  obtain ⟨hv, hI, hL⟩ := hR
  subst hv
  have G : GS E I L sg H locs := G.same hI hL
  refine W.eq (g2 := F0 mg 60 ls [.int (if ¬ d 55 = -1 then 1 else 0)]) rfl ?_
  refine s_if_ne_b (P := ¬ d 55 = -1) (tgt := 74) S dX9_fault_60 (by decide) (fun c_1 => ?_) (fun c_1 => ?_)
  · refine lv_iload_n S.1 S.2.1 dX9_fault_74 rfl (lv_at hl 3 rfl) ?_
    refine lv_if_ne (tgt := 82) S.1 S.2.1 dX9_fault_75 (by decide) (fun _ => ?_) (fun h => absurd h (by decide))
    refine lv_iload_n S.1 S.2.1 dX9_fault_82 rfl (lv_at hl 3 rfl) ?_
    refine lv_iconst (v := (3 : Int32)) S.1 S.2.1 dX9_fault_83 (by decide) ?_
    refine lv_icmp_ne (tgt := 96) S.1 S.2.1 dX9_fault_84 (by decide) (fun _ => ?_) (fun h => absurd h (by decide))
    refine lv_aload_n S.1 S.2.1 dX9_fault_96 rfl (lv_at hl 0 rfl) ?_
    refine s_get S hX G (i := 161) (kd := 9) (a := (I 161)) (v := .ref (E.2.2.2 162)) (C := RX9) (T := TX9) (N := 13) 0 (rfl : sh 161 = 9) rfl rfl rfl (by decide) rfl (fun _ h => (List.mem_cons_of_mem _ (List.mem_append_right _ h))) (by decide) (List.mem_of_getElem? (i := 5) rfl) (fun _ h => h) dX9_fault_97 ?_
    refine lv_iload_n S.1 S.2.1 dX9_fault_100 rfl (lv_at hl 1 rfl) ?_
    refine s_callS (As := [.int (0 : Int32)]) (rest := [.ref (E.2.2.2 162)]) S hX G (k_X9_loadAt_0 l E) (va_cwS (bytes := cX9_loadAt) (maxL := 1) (ret := (some .int)) 1 S.2.2.2.2 gX9_fault_X9_loadAt rfl rfl rfl (by decide +kernel) ⟨Nat.le_of_ble_eq_true rfl, Nat.le_of_ble_eq_true rfl⟩) rfl hl.1 rfl (Nat.le_of_ble_eq_true rfl) ⟨Nat.zero_le _, Nat.zero_le _⟩ dX9_fault_101 (fun v I1 L1 H locs hR G => ?_)
    obtain ⟨hv, hI, hL⟩ := hR
    subst hv
    have G : GS E I L sg H locs := G.same hI hL
    refine W.eq (g2 := F0 mg 104 ls [.int (40 : Int32), .ref (E.2.2.2 162)]) rfl ?_
    refine lv_bipush (v := (12 : Int32)) S.1 S.2.1 dX9_fault_104 (by decide) ?_
    refine s_iadd (v := (52 : Int32)) S dX9_fault_106 (by decide) ?_
    refine lv_iconst (v := (3 : Int32)) S.1 S.2.1 dX9_fault_107 (by decide) ?_
    refine lv_iload_n S.1 S.2.1 dX9_fault_108 rfl (lv_at hl 2 rfl) ?_
    refine s_imul (v := (3 : Int32)) S dX9_fault_109 (by decide) ?_
    refine s_iadd (v := (55 : Int32)) S dX9_fault_110 (by decide) ?_
    refine lv_iload_n S.1 S.2.1 dX9_fault_111 rfl (lv_at hl 3 rfl) ?_
    refine s_iadd (v := (57 : Int32)) S dX9_fault_112 (by decide) ?_
    refine lv_iconst (v := (1 : Int32)) S.1 S.2.1 dX9_fault_113 (by decide) ?_
    refine s_isub (v := (56 : Int32)) S dX9_fault_114 (by decide) ?_
    refine s_iald S hX G (i := 162) (kd := 284) (n := 270) (a := d) (x := (d 56)) (rfl : sh 162 = 284) e_d rfl (by decide) (by unfold vp_in; decide) (congrArg d (by decide)) dX9_fault_115 ?_
    refine s_iret (x := (d 56)) S G hr hlk dX9_fault_116 ?_
    exact ⟨(congrArg (fun q : Int32 => some (Value.int q)) (show (d 56) = (if ¬ d 55 = -1 then d 56 else (-2000000004 : Int32)) by first | exact (if_pos c_1).symm | exact (if_neg c_1).symm)), rfl, rfl⟩
  · refine lv_iload_n S.1 S.2.1 dX9_fault_63 rfl (lv_at hl 3 rfl) ?_
    refine lv_if_ne (tgt := 71) S.1 S.2.1 dX9_fault_64 (by decide) (fun _ => ?_) (fun h => absurd h (by decide))
    refine lv_ldc (v := (-2000000004 : Int32)) S.1 S.2.1 S.2.2.2.1 (S.2.2.2.2 _ (List.mem_of_getElem? (i := 4) rfl)) dX9_fault_71 ?_
    refine s_iret (x := (-2000000004 : Int32)) S G hr hlk dX9_fault_73 ?_
    exact ⟨(congrArg (fun q : Int32 => some (Value.int q)) (show (-2000000004 : Int32) = (if ¬ d 55 = -1 then d 56 else (-2000000004 : Int32)) by first | exact (if_pos c_1).symm | exact (if_neg c_1).symm)), rfl, rfl⟩
set_option maxHeartbeats 4000000 in
set_option maxRecDepth 100000 in
theorem k_X9_fault_0_1_3 (l : Launch) (E : Ev) {I : SI} {L : SL} (d : Nat → Int32) (e_d : I (162) = d) : CS l yX9_fault wsX9_fault ({ frames := 3, cells := 0, slots := 0, locals := 66 }) E [.ref (E.2.2.2 161), .int (0 : Int32), .int (1 : Int32), .int (3 : Int32)] I L (fun vv I' L' => vv = some (.int (if ¬ d 55 = -1 then plcM d 40 1 else (-2000000004 : Int32))) ∧ I' = I ∧ L' = L) := by
  refine CS.of (cc := cX9_fault) (maxL := 4) (ret := (some .int)) (by decide) rfl (Nat.le_of_ble_eq_true rfl) ?_
  intro pg en sg mg below meth cg ls S hr hlk hX G hl
  have S : CallFix pg mg cg cX9_fault 4 sg _ wsX9_fault RX9 := S
  have hl : lv_has ls 4 [(0, .ref (E.2.2.2 161)), (1, .int (0 : Int32)), (2, .int (1 : Int32)), (3, .int (3 : Int32))] := hl
  refine lv_iload_n S.1 S.2.1 dX9_fault_0 rfl (lv_at hl 1 rfl) ?_
  refine s_callS (As := [.int (0 : Int32)]) (rest := []) S hX G (k_X9_isLoad l E (0 : Int32)) (va_cwS (bytes := cX9_isLoad) (maxL := 1) (ret := (some .boolean)) 1 S.2.2.2.2 gX9_fault_X9_isLoad rfl rfl rfl (by decide +kernel) ⟨Nat.le_of_ble_eq_true rfl, Nat.le_of_ble_eq_true rfl⟩) rfl hl.1 rfl (Nat.le_of_ble_eq_true rfl) ⟨Nat.zero_le _, Nat.zero_le _⟩ dX9_fault_1 (fun v I1 L1 H locs hR G => ?_)
  obtain ⟨hv, hI, hL⟩ := hR
  subst hv
  have G : GS E I L sg H locs := G.same hI hL
  refine W.eq (g2 := F0 mg 4 ls [.int (if ¬ (0 : Int32) < (0 : Int32) ∧ ¬ (1 : Int32) < (0 : Int32) then 1 else 0)]) rfl ?_
  refine s_if_eq_b (P := ¬ (0 : Int32) < (0 : Int32) ∧ ¬ (1 : Int32) < (0 : Int32)) (tgt := 31) S dX9_fault_4 (by decide) (fun h => absurd (by decide) h) (fun _ => ?_)
  refine lv_iload_n S.1 S.2.1 dX9_fault_7 rfl (lv_at hl 2 rfl) ?_
  refine lv_i2l (v := (1 : Int64)) S.1 S.2.1 dX9_fault_8 (by decide) ?_
  refine lv_lconst (v := (0 : Int64)) S.1 S.2.1 dX9_fault_9 (by decide) ?_
  refine lv_ldc2 (v := (2 : Int64)) S.1 S.2.1 S.2.2.2.1 (S.2.2.2.2 _ (List.mem_of_getElem? (i := 1) rfl)) dX9_fault_10 ?_
  refine s_callS (As := [.long (1 : Int64), .long (0 : Int64), .long (2 : Int64)]) (rest := []) S hX G (k_X9_in l E (1 : Int64) (0 : Int64) (2 : Int64)) (va_cwS (bytes := cX9_in) (maxL := 6) (ret := (some .boolean)) 3 S.2.2.2.2 gX9_fault_X9_in rfl rfl rfl (by decide +kernel) ⟨Nat.le_of_ble_eq_true rfl, Nat.le_of_ble_eq_true rfl⟩) rfl hl.1 rfl (Nat.le_of_ble_eq_true rfl) ⟨Nat.zero_le _, Nat.zero_le _⟩ dX9_fault_13 (fun v I1 L1 H locs hR G => ?_)
  obtain ⟨hv, hI, hL⟩ := hR
  subst hv
  have G : GS E I L sg H locs := G.same hI hL
  refine W.eq (g2 := F0 mg 16 ls [.int (if ¬ (1 : Int64) < (0 : Int64) ∧ ¬ (2 : Int64) < (1 : Int64) then 1 else 0)]) rfl ?_
  refine s_if_eq_b (P := ¬ (1 : Int64) < (0 : Int64) ∧ ¬ (2 : Int64) < (1 : Int64)) (tgt := 31) S dX9_fault_16 (by decide) (fun h => absurd (by decide) h) (fun _ => ?_)
  refine lv_iload_n S.1 S.2.1 dX9_fault_19 rfl (lv_at hl 3 rfl) ?_
  refine lv_i2l (v := (3 : Int64)) S.1 S.2.1 dX9_fault_20 (by decide) ?_
  refine lv_lconst (v := (0 : Int64)) S.1 S.2.1 dX9_fault_21 (by decide) ?_
  refine lv_ldc2 (v := (4 : Int64)) S.1 S.2.1 S.2.2.2.1 (S.2.2.2.2 _ (List.mem_of_getElem? (i := 2) rfl)) dX9_fault_22 ?_
  refine s_callS (As := [.long (3 : Int64), .long (0 : Int64), .long (4 : Int64)]) (rest := []) S hX G (k_X9_in l E (3 : Int64) (0 : Int64) (4 : Int64)) (va_cwS (bytes := cX9_in) (maxL := 6) (ret := (some .boolean)) 3 S.2.2.2.2 gX9_fault_X9_in rfl rfl rfl (by decide +kernel) ⟨Nat.le_of_ble_eq_true rfl, Nat.le_of_ble_eq_true rfl⟩) rfl hl.1 rfl (Nat.le_of_ble_eq_true rfl) ⟨Nat.zero_le _, Nat.zero_le _⟩ dX9_fault_25 (fun v I1 L1 H locs hR G => ?_)
  obtain ⟨hv, hI, hL⟩ := hR
  subst hv
  have G : GS E I L sg H locs := G.same hI hL
  refine W.eq (g2 := F0 mg 28 ls [.int (if ¬ (3 : Int64) < (0 : Int64) ∧ ¬ (4 : Int64) < (3 : Int64) then 1 else 0)]) rfl ?_
  refine s_if_ne_b (P := ¬ (3 : Int64) < (0 : Int64) ∧ ¬ (4 : Int64) < (3 : Int64)) (tgt := 34) S dX9_fault_28 (by decide) (fun _ => ?_) (fun h => absurd (by decide) h)
  refine lv_iload_n S.1 S.2.1 dX9_fault_34 rfl (lv_at hl 3 rfl) ?_
  refine lv_iconst (v := (4 : Int32)) S.1 S.2.1 dX9_fault_35 (by decide) ?_
  refine lv_icmp_ne (tgt := 54) S.1 S.2.1 dX9_fault_36 (by decide) (fun _ => ?_) (fun h => absurd h (by decide))
  refine lv_aload_n S.1 S.2.1 dX9_fault_54 rfl (lv_at hl 0 rfl) ?_
  refine lv_iload_n S.1 S.2.1 dX9_fault_55 rfl (lv_at hl 1 rfl) ?_
  refine lv_iload_n S.1 S.2.1 dX9_fault_56 rfl (lv_at hl 2 rfl) ?_
  refine s_callV (C := RX9) (As := [.int (0 : Int32), .int (1 : Int32)]) (rest := []) (i := 161) (kd := 9) S hX G (k_X9_isLatched_0_1 l E d e_d) (cwV (bytes := cX9_isLatched) (maxL := 3) (ret := (some .boolean)) 2 S.2.2.2.2 gX9_fault_X9_isLatched rfl rfl rfl (by decide +kernel) ⟨Nat.le_of_ble_eq_true rfl, Nat.le_of_ble_eq_true rfl⟩) (rfl : sh 161 = 9) rfl rfl rfl (by decide) rfl hl.1 rfl (Nat.le_of_ble_eq_true rfl) ⟨Nat.zero_le _, Nat.zero_le _⟩ dX9_fault_57 (fun v I1 L1 H locs hR G => ?_)
  obtain ⟨hv, hI, hL⟩ := hR
  subst hv
  have G : GS E I L sg H locs := G.same hI hL
  refine W.eq (g2 := F0 mg 60 ls [.int (if ¬ d 55 = -1 then 1 else 0)]) rfl ?_
  refine s_if_ne_b (P := ¬ d 55 = -1) (tgt := 74) S dX9_fault_60 (by decide) (fun c_1 => ?_) (fun c_1 => ?_)
  · refine lv_iload_n S.1 S.2.1 dX9_fault_74 rfl (lv_at hl 3 rfl) ?_
    refine lv_if_ne (tgt := 82) S.1 S.2.1 dX9_fault_75 (by decide) (fun _ => ?_) (fun h => absurd h (by decide))
    refine lv_iload_n S.1 S.2.1 dX9_fault_82 rfl (lv_at hl 3 rfl) ?_
    refine lv_iconst (v := (3 : Int32)) S.1 S.2.1 dX9_fault_83 (by decide) ?_
    refine lv_icmp_ne (tgt := 96) S.1 S.2.1 dX9_fault_84 (by decide) (fun h => absurd (by decide) h) (fun _ => ?_)
    refine lv_aload_n S.1 S.2.1 dX9_fault_87 rfl (lv_at hl 0 rfl) ?_
    refine lv_iload_n S.1 S.2.1 dX9_fault_88 rfl (lv_at hl 1 rfl) ?_
    refine lv_iload_n S.1 S.2.1 dX9_fault_89 rfl (lv_at hl 2 rfl) ?_
    refine s_callV (C := RX9) (As := [.int (0 : Int32), .int (1 : Int32)]) (rest := []) (i := 161) (kd := 9) S hX G (k_X9_placeOf_0_1 l E d e_d) (cwV (bytes := cX9_placeOf) (maxL := 5) (ret := (some .int)) 2 S.2.2.2.2 gX9_fault_X9_placeOf rfl rfl rfl (by decide +kernel) ⟨Nat.le_of_ble_eq_true rfl, Nat.le_of_ble_eq_true rfl⟩) (rfl : sh 161 = 9) rfl rfl rfl (by decide) rfl hl.1 rfl (Nat.le_of_ble_eq_true rfl) ⟨Nat.zero_le _, Nat.zero_le _⟩ dX9_fault_90 (fun v I1 L1 H locs hR G => ?_)
    obtain ⟨hv, hI, hL⟩ := hR
    subst hv
    have G : GS E I L sg H locs := G.same hI hL
    refine W.eq (g2 := F0 mg 93 ls [.int (plcM d 40 1)]) rfl ?_
    refine lv_topi (fun y_2 ey_2 => ?_)
    refine lv_goto (tgt := 116) S.1 S.2.1 dX9_fault_93 (by decide) ?_
    refine s_iret (x := y_2) S G hr hlk dX9_fault_116 ?_
    exact ⟨(congrArg (fun q : Int32 => some (Value.int q)) (show y_2 = (if ¬ d 55 = -1 then plcM d 40 1 else (-2000000004 : Int32)) by subst ey_2; (first | exact (if_pos c_1).symm | exact (if_neg c_1).symm))), rfl, rfl⟩
  · refine lv_iload_n S.1 S.2.1 dX9_fault_63 rfl (lv_at hl 3 rfl) ?_
    refine lv_if_ne (tgt := 71) S.1 S.2.1 dX9_fault_64 (by decide) (fun _ => ?_) (fun h => absurd h (by decide))
    refine lv_ldc (v := (-2000000004 : Int32)) S.1 S.2.1 S.2.2.2.1 (S.2.2.2.2 _ (List.mem_of_getElem? (i := 4) rfl)) dX9_fault_71 ?_
    refine s_iret (x := (-2000000004 : Int32)) S G hr hlk dX9_fault_73 ?_
    exact ⟨(congrArg (fun q : Int32 => some (Value.int q)) (show (-2000000004 : Int32) = (if ¬ d 55 = -1 then plcM d 40 1 else (-2000000004 : Int32)) by first | exact (if_pos c_1).symm | exact (if_neg c_1).symm)), rfl, rfl⟩
set_option maxHeartbeats 4000000 in
set_option maxRecDepth 100000 in
theorem k_X9_fault_0_1_4 (l : Launch) (E : Ev) {I : SI} {L : SL} (d : Nat → Int32) (e_d : I (162) = d) : CS l yX9_fault wsX9_fault ({ frames := 4, cells := 0, slots := 0, locals := 88 }) E [.ref (E.2.2.2 161), .int (0 : Int32), .int (1 : Int32), .int (4 : Int32)] I L (fun vv I' L' => vv = some (.int (if ¬ d 55 = -1 ∧ ¬ ¬ plcM d 40 1 ≤ 0 then 1 else 0)) ∧ I' = I ∧ L' = L) := by
  refine CS.of (cc := cX9_fault) (maxL := 4) (ret := (some .int)) (by decide) rfl (Nat.le_of_ble_eq_true rfl) ?_
  intro pg en sg mg below meth cg ls S hr hlk hX G hl
  have S : CallFix pg mg cg cX9_fault 4 sg _ wsX9_fault RX9 := S
  have hl : lv_has ls 4 [(0, .ref (E.2.2.2 161)), (1, .int (0 : Int32)), (2, .int (1 : Int32)), (3, .int (4 : Int32))] := hl
  refine lv_iload_n S.1 S.2.1 dX9_fault_0 rfl (lv_at hl 1 rfl) ?_
  refine s_callS (As := [.int (0 : Int32)]) (rest := []) S hX G (k_X9_isLoad l E (0 : Int32)) (va_cwS (bytes := cX9_isLoad) (maxL := 1) (ret := (some .boolean)) 1 S.2.2.2.2 gX9_fault_X9_isLoad rfl rfl rfl (by decide +kernel) ⟨Nat.le_of_ble_eq_true rfl, Nat.le_of_ble_eq_true rfl⟩) rfl hl.1 rfl (Nat.le_of_ble_eq_true rfl) ⟨Nat.zero_le _, Nat.zero_le _⟩ dX9_fault_1 (fun v I1 L1 H locs hR G => ?_)
  obtain ⟨hv, hI, hL⟩ := hR
  subst hv
  have G : GS E I L sg H locs := G.same hI hL
  refine W.eq (g2 := F0 mg 4 ls [.int (if ¬ (0 : Int32) < (0 : Int32) ∧ ¬ (1 : Int32) < (0 : Int32) then 1 else 0)]) rfl ?_
  refine s_if_eq_b (P := ¬ (0 : Int32) < (0 : Int32) ∧ ¬ (1 : Int32) < (0 : Int32)) (tgt := 31) S dX9_fault_4 (by decide) (fun h => absurd (by decide) h) (fun _ => ?_)
  refine lv_iload_n S.1 S.2.1 dX9_fault_7 rfl (lv_at hl 2 rfl) ?_
  refine lv_i2l (v := (1 : Int64)) S.1 S.2.1 dX9_fault_8 (by decide) ?_
  refine lv_lconst (v := (0 : Int64)) S.1 S.2.1 dX9_fault_9 (by decide) ?_
  refine lv_ldc2 (v := (2 : Int64)) S.1 S.2.1 S.2.2.2.1 (S.2.2.2.2 _ (List.mem_of_getElem? (i := 1) rfl)) dX9_fault_10 ?_
  refine s_callS (As := [.long (1 : Int64), .long (0 : Int64), .long (2 : Int64)]) (rest := []) S hX G (k_X9_in l E (1 : Int64) (0 : Int64) (2 : Int64)) (va_cwS (bytes := cX9_in) (maxL := 6) (ret := (some .boolean)) 3 S.2.2.2.2 gX9_fault_X9_in rfl rfl rfl (by decide +kernel) ⟨Nat.le_of_ble_eq_true rfl, Nat.le_of_ble_eq_true rfl⟩) rfl hl.1 rfl (Nat.le_of_ble_eq_true rfl) ⟨Nat.zero_le _, Nat.zero_le _⟩ dX9_fault_13 (fun v I1 L1 H locs hR G => ?_)
  obtain ⟨hv, hI, hL⟩ := hR
  subst hv
  have G : GS E I L sg H locs := G.same hI hL
  refine W.eq (g2 := F0 mg 16 ls [.int (if ¬ (1 : Int64) < (0 : Int64) ∧ ¬ (2 : Int64) < (1 : Int64) then 1 else 0)]) rfl ?_
  refine s_if_eq_b (P := ¬ (1 : Int64) < (0 : Int64) ∧ ¬ (2 : Int64) < (1 : Int64)) (tgt := 31) S dX9_fault_16 (by decide) (fun h => absurd (by decide) h) (fun _ => ?_)
  refine lv_iload_n S.1 S.2.1 dX9_fault_19 rfl (lv_at hl 3 rfl) ?_
  refine lv_i2l (v := (4 : Int64)) S.1 S.2.1 dX9_fault_20 (by decide) ?_
  refine lv_lconst (v := (0 : Int64)) S.1 S.2.1 dX9_fault_21 (by decide) ?_
  refine lv_ldc2 (v := (4 : Int64)) S.1 S.2.1 S.2.2.2.1 (S.2.2.2.2 _ (List.mem_of_getElem? (i := 2) rfl)) dX9_fault_22 ?_
  refine s_callS (As := [.long (4 : Int64), .long (0 : Int64), .long (4 : Int64)]) (rest := []) S hX G (k_X9_in l E (4 : Int64) (0 : Int64) (4 : Int64)) (va_cwS (bytes := cX9_in) (maxL := 6) (ret := (some .boolean)) 3 S.2.2.2.2 gX9_fault_X9_in rfl rfl rfl (by decide +kernel) ⟨Nat.le_of_ble_eq_true rfl, Nat.le_of_ble_eq_true rfl⟩) rfl hl.1 rfl (Nat.le_of_ble_eq_true rfl) ⟨Nat.zero_le _, Nat.zero_le _⟩ dX9_fault_25 (fun v I1 L1 H locs hR G => ?_)
  obtain ⟨hv, hI, hL⟩ := hR
  subst hv
  have G : GS E I L sg H locs := G.same hI hL
  refine W.eq (g2 := F0 mg 28 ls [.int (if ¬ (4 : Int64) < (0 : Int64) ∧ ¬ (4 : Int64) < (4 : Int64) then 1 else 0)]) rfl ?_
  refine s_if_ne_b (P := ¬ (4 : Int64) < (0 : Int64) ∧ ¬ (4 : Int64) < (4 : Int64)) (tgt := 34) S dX9_fault_28 (by decide) (fun _ => ?_) (fun h => absurd (by decide) h)
  refine lv_iload_n S.1 S.2.1 dX9_fault_34 rfl (lv_at hl 3 rfl) ?_
  refine lv_iconst (v := (4 : Int32)) S.1 S.2.1 dX9_fault_35 (by decide) ?_
  refine lv_icmp_ne (tgt := 54) S.1 S.2.1 dX9_fault_36 (by decide) (fun h => absurd (by decide) h) (fun _ => ?_)
  refine lv_aload_n S.1 S.2.1 dX9_fault_39 rfl (lv_at hl 0 rfl) ?_
  refine lv_iload_n S.1 S.2.1 dX9_fault_40 rfl (lv_at hl 1 rfl) ?_
  refine lv_iload_n S.1 S.2.1 dX9_fault_41 rfl (lv_at hl 2 rfl) ?_
  refine s_callV (C := RX9) (As := [.int (0 : Int32), .int (1 : Int32)]) (rest := []) (i := 161) (kd := 9) S hX G (k_X9_canClear_0_1 l E d e_d) (cwV (bytes := cX9_canClear) (maxL := 3) (ret := (some .boolean)) 2 S.2.2.2.2 gX9_fault_X9_canClear rfl rfl rfl (by decide +kernel) ⟨Nat.le_of_ble_eq_true rfl, Nat.le_of_ble_eq_true rfl⟩) (rfl : sh 161 = 9) rfl rfl rfl (by decide) rfl hl.1 rfl (Nat.le_of_ble_eq_true rfl) ⟨Nat.zero_le _, Nat.zero_le _⟩ dX9_fault_42 (fun v I1 L1 H locs hR G => ?_)
  obtain ⟨hv, hI, hL⟩ := hR
  subst hv
  have G : GS E I L sg H locs := G.same hI hL
  refine W.eq (g2 := F0 mg 45 ls [.int (if ¬ d 55 = -1 ∧ ¬ ¬ plcM d 40 1 ≤ 0 then 1 else 0)]) rfl ?_
  refine s_if_eq_b (P := ¬ d 55 = -1 ∧ ¬ ¬ plcM d 40 1 ≤ 0) (tgt := 52) S dX9_fault_45 (by decide) (fun c_1 => ?_) (fun c_1 => ?_)
  · refine lv_iconst (v := (0 : Int32)) S.1 S.2.1 dX9_fault_52 (by decide) ?_
    refine s_iret (x := (0 : Int32)) S G hr hlk dX9_fault_53 ?_
    exact ⟨(congrArg (fun q : Int32 => some (Value.int q)) (show (0 : Int32) = (if ¬ d 55 = -1 ∧ ¬ ¬ plcM d 40 1 ≤ 0 then 1 else 0) by first | exact (if_pos c_1).symm | exact (if_neg c_1).symm)), rfl, rfl⟩
  · refine lv_iconst (v := (1 : Int32)) S.1 S.2.1 dX9_fault_48 (by decide) ?_
    refine lv_goto (tgt := 53) S.1 S.2.1 dX9_fault_49 (by decide) ?_
    refine s_iret (x := (1 : Int32)) S G hr hlk dX9_fault_53 ?_
    exact ⟨(congrArg (fun q : Int32 => some (Value.int q)) (show (1 : Int32) = (if ¬ d 55 = -1 ∧ ¬ ¬ plcM d 40 1 ≤ 0 then 1 else 0) by first | exact (if_pos c_1).symm | exact (if_neg c_1).symm)), rfl, rfl⟩
set_option maxHeartbeats 4000000 in
set_option maxRecDepth 100000 in
theorem k_X9_fault_0_2_0 (l : Launch) (E : Ev) {I : SI} {L : SL} (d : Nat → Int32) (e_d : I (162) = d) : CS l yX9_fault wsX9_fault ({ frames := 2, cells := 0, slots := 0, locals := 45 }) E [.ref (E.2.2.2 161), .int (0 : Int32), .int (2 : Int32), .int (0 : Int32)] I L (fun vv I' L' => vv = some (.int (if ¬ d 58 = -1 then 1 else 0)) ∧ I' = I ∧ L' = L) := by
  refine CS.of (cc := cX9_fault) (maxL := 4) (ret := (some .int)) (by decide) rfl (Nat.le_of_ble_eq_true rfl) ?_
  intro pg en sg mg below meth cg ls S hr hlk hX G hl
  have S : CallFix pg mg cg cX9_fault 4 sg _ wsX9_fault RX9 := S
  have hl : lv_has ls 4 [(0, .ref (E.2.2.2 161)), (1, .int (0 : Int32)), (2, .int (2 : Int32)), (3, .int (0 : Int32))] := hl
  refine lv_iload_n S.1 S.2.1 dX9_fault_0 rfl (lv_at hl 1 rfl) ?_
  refine s_callS (As := [.int (0 : Int32)]) (rest := []) S hX G (k_X9_isLoad l E (0 : Int32)) (va_cwS (bytes := cX9_isLoad) (maxL := 1) (ret := (some .boolean)) 1 S.2.2.2.2 gX9_fault_X9_isLoad rfl rfl rfl (by decide +kernel) ⟨Nat.le_of_ble_eq_true rfl, Nat.le_of_ble_eq_true rfl⟩) rfl hl.1 rfl (Nat.le_of_ble_eq_true rfl) ⟨Nat.zero_le _, Nat.zero_le _⟩ dX9_fault_1 (fun v I1 L1 H locs hR G => ?_)
  obtain ⟨hv, hI, hL⟩ := hR
  subst hv
  have G : GS E I L sg H locs := G.same hI hL
  refine W.eq (g2 := F0 mg 4 ls [.int (if ¬ (0 : Int32) < (0 : Int32) ∧ ¬ (1 : Int32) < (0 : Int32) then 1 else 0)]) rfl ?_
  refine s_if_eq_b (P := ¬ (0 : Int32) < (0 : Int32) ∧ ¬ (1 : Int32) < (0 : Int32)) (tgt := 31) S dX9_fault_4 (by decide) (fun h => absurd (by decide) h) (fun _ => ?_)
  refine lv_iload_n S.1 S.2.1 dX9_fault_7 rfl (lv_at hl 2 rfl) ?_
  refine lv_i2l (v := (2 : Int64)) S.1 S.2.1 dX9_fault_8 (by decide) ?_
  refine lv_lconst (v := (0 : Int64)) S.1 S.2.1 dX9_fault_9 (by decide) ?_
  refine lv_ldc2 (v := (2 : Int64)) S.1 S.2.1 S.2.2.2.1 (S.2.2.2.2 _ (List.mem_of_getElem? (i := 1) rfl)) dX9_fault_10 ?_
  refine s_callS (As := [.long (2 : Int64), .long (0 : Int64), .long (2 : Int64)]) (rest := []) S hX G (k_X9_in l E (2 : Int64) (0 : Int64) (2 : Int64)) (va_cwS (bytes := cX9_in) (maxL := 6) (ret := (some .boolean)) 3 S.2.2.2.2 gX9_fault_X9_in rfl rfl rfl (by decide +kernel) ⟨Nat.le_of_ble_eq_true rfl, Nat.le_of_ble_eq_true rfl⟩) rfl hl.1 rfl (Nat.le_of_ble_eq_true rfl) ⟨Nat.zero_le _, Nat.zero_le _⟩ dX9_fault_13 (fun v I1 L1 H locs hR G => ?_)
  obtain ⟨hv, hI, hL⟩ := hR
  subst hv
  have G : GS E I L sg H locs := G.same hI hL
  refine W.eq (g2 := F0 mg 16 ls [.int (if ¬ (2 : Int64) < (0 : Int64) ∧ ¬ (2 : Int64) < (2 : Int64) then 1 else 0)]) rfl ?_
  refine s_if_eq_b (P := ¬ (2 : Int64) < (0 : Int64) ∧ ¬ (2 : Int64) < (2 : Int64)) (tgt := 31) S dX9_fault_16 (by decide) (fun h => absurd (by decide) h) (fun _ => ?_)
  refine lv_iload_n S.1 S.2.1 dX9_fault_19 rfl (lv_at hl 3 rfl) ?_
  refine lv_i2l (v := (0 : Int64)) S.1 S.2.1 dX9_fault_20 (by decide) ?_
  refine lv_lconst (v := (0 : Int64)) S.1 S.2.1 dX9_fault_21 (by decide) ?_
  refine lv_ldc2 (v := (4 : Int64)) S.1 S.2.1 S.2.2.2.1 (S.2.2.2.2 _ (List.mem_of_getElem? (i := 2) rfl)) dX9_fault_22 ?_
  refine s_callS (As := [.long (0 : Int64), .long (0 : Int64), .long (4 : Int64)]) (rest := []) S hX G (k_X9_in l E (0 : Int64) (0 : Int64) (4 : Int64)) (va_cwS (bytes := cX9_in) (maxL := 6) (ret := (some .boolean)) 3 S.2.2.2.2 gX9_fault_X9_in rfl rfl rfl (by decide +kernel) ⟨Nat.le_of_ble_eq_true rfl, Nat.le_of_ble_eq_true rfl⟩) rfl hl.1 rfl (Nat.le_of_ble_eq_true rfl) ⟨Nat.zero_le _, Nat.zero_le _⟩ dX9_fault_25 (fun v I1 L1 H locs hR G => ?_)
  obtain ⟨hv, hI, hL⟩ := hR
  subst hv
  have G : GS E I L sg H locs := G.same hI hL
  refine W.eq (g2 := F0 mg 28 ls [.int (if ¬ (0 : Int64) < (0 : Int64) ∧ ¬ (4 : Int64) < (0 : Int64) then 1 else 0)]) rfl ?_
  refine s_if_ne_b (P := ¬ (0 : Int64) < (0 : Int64) ∧ ¬ (4 : Int64) < (0 : Int64)) (tgt := 34) S dX9_fault_28 (by decide) (fun _ => ?_) (fun h => absurd (by decide) h)
  refine lv_iload_n S.1 S.2.1 dX9_fault_34 rfl (lv_at hl 3 rfl) ?_
  refine lv_iconst (v := (4 : Int32)) S.1 S.2.1 dX9_fault_35 (by decide) ?_
  refine lv_icmp_ne (tgt := 54) S.1 S.2.1 dX9_fault_36 (by decide) (fun _ => ?_) (fun h => absurd h (by decide))
  refine lv_aload_n S.1 S.2.1 dX9_fault_54 rfl (lv_at hl 0 rfl) ?_
  refine lv_iload_n S.1 S.2.1 dX9_fault_55 rfl (lv_at hl 1 rfl) ?_
  refine lv_iload_n S.1 S.2.1 dX9_fault_56 rfl (lv_at hl 2 rfl) ?_
  refine s_callV (C := RX9) (As := [.int (0 : Int32), .int (2 : Int32)]) (rest := []) (i := 161) (kd := 9) S hX G (k_X9_isLatched_0_2 l E d e_d) (cwV (bytes := cX9_isLatched) (maxL := 3) (ret := (some .boolean)) 2 S.2.2.2.2 gX9_fault_X9_isLatched rfl rfl rfl (by decide +kernel) ⟨Nat.le_of_ble_eq_true rfl, Nat.le_of_ble_eq_true rfl⟩) (rfl : sh 161 = 9) rfl rfl rfl (by decide) rfl hl.1 rfl (Nat.le_of_ble_eq_true rfl) ⟨Nat.zero_le _, Nat.zero_le _⟩ dX9_fault_57 (fun v I1 L1 H locs hR G => ?_)
  obtain ⟨hv, hI, hL⟩ := hR
  subst hv
  have G : GS E I L sg H locs := G.same hI hL
  refine W.eq (g2 := F0 mg 60 ls [.int (if ¬ d 58 = -1 then 1 else 0)]) rfl ?_
  refine s_if_ne_b (P := ¬ d 58 = -1) (tgt := 74) S dX9_fault_60 (by decide) (fun c_1 => ?_) (fun c_1 => ?_)
  · refine lv_iload_n S.1 S.2.1 dX9_fault_74 rfl (lv_at hl 3 rfl) ?_
    refine lv_if_ne (tgt := 82) S.1 S.2.1 dX9_fault_75 (by decide) (fun h => absurd (by decide) h) (fun _ => ?_)
    refine lv_iconst (v := (1 : Int32)) S.1 S.2.1 dX9_fault_78 (by decide) ?_
    refine lv_goto (tgt := 116) S.1 S.2.1 dX9_fault_79 (by decide) ?_
    refine s_iret (x := (1 : Int32)) S G hr hlk dX9_fault_116 ?_
    exact ⟨(congrArg (fun q : Int32 => some (Value.int q)) (show (1 : Int32) = (if ¬ d 58 = -1 then 1 else 0) by first | exact (if_pos c_1).symm | exact (if_neg c_1).symm)), rfl, rfl⟩
  · refine lv_iload_n S.1 S.2.1 dX9_fault_63 rfl (lv_at hl 3 rfl) ?_
    refine lv_if_ne (tgt := 71) S.1 S.2.1 dX9_fault_64 (by decide) (fun h => absurd (by decide) h) (fun _ => ?_)
    refine lv_iconst (v := (0 : Int32)) S.1 S.2.1 dX9_fault_67 (by decide) ?_
    refine lv_goto (tgt := 73) S.1 S.2.1 dX9_fault_68 (by decide) ?_
    refine s_iret (x := (0 : Int32)) S G hr hlk dX9_fault_73 ?_
    exact ⟨(congrArg (fun q : Int32 => some (Value.int q)) (show (0 : Int32) = (if ¬ d 58 = -1 then 1 else 0) by first | exact (if_pos c_1).symm | exact (if_neg c_1).symm)), rfl, rfl⟩
set_option maxHeartbeats 4000000 in
set_option maxRecDepth 100000 in
theorem k_X9_fault_0_2_1 (l : Launch) (E : Ev) {I : SI} {L : SL} (d : Nat → Int32) (e_d : I (162) = d) : CS l yX9_fault wsX9_fault ({ frames := 2, cells := 0, slots := 0, locals := 45 }) E [.ref (E.2.2.2 161), .int (0 : Int32), .int (2 : Int32), .int (1 : Int32)] I L (fun vv I' L' => vv = some (.int (if ¬ d 58 = -1 then d 58 else (-2000000004 : Int32))) ∧ I' = I ∧ L' = L) := by
  refine CS.of (cc := cX9_fault) (maxL := 4) (ret := (some .int)) (by decide) rfl (Nat.le_of_ble_eq_true rfl) ?_
  intro pg en sg mg below meth cg ls S hr hlk hX G hl
  have S : CallFix pg mg cg cX9_fault 4 sg _ wsX9_fault RX9 := S
  have hl : lv_has ls 4 [(0, .ref (E.2.2.2 161)), (1, .int (0 : Int32)), (2, .int (2 : Int32)), (3, .int (1 : Int32))] := hl
  refine lv_iload_n S.1 S.2.1 dX9_fault_0 rfl (lv_at hl 1 rfl) ?_
  refine s_callS (As := [.int (0 : Int32)]) (rest := []) S hX G (k_X9_isLoad l E (0 : Int32)) (va_cwS (bytes := cX9_isLoad) (maxL := 1) (ret := (some .boolean)) 1 S.2.2.2.2 gX9_fault_X9_isLoad rfl rfl rfl (by decide +kernel) ⟨Nat.le_of_ble_eq_true rfl, Nat.le_of_ble_eq_true rfl⟩) rfl hl.1 rfl (Nat.le_of_ble_eq_true rfl) ⟨Nat.zero_le _, Nat.zero_le _⟩ dX9_fault_1 (fun v I1 L1 H locs hR G => ?_)
  obtain ⟨hv, hI, hL⟩ := hR
  subst hv
  have G : GS E I L sg H locs := G.same hI hL
  refine W.eq (g2 := F0 mg 4 ls [.int (if ¬ (0 : Int32) < (0 : Int32) ∧ ¬ (1 : Int32) < (0 : Int32) then 1 else 0)]) rfl ?_
  refine s_if_eq_b (P := ¬ (0 : Int32) < (0 : Int32) ∧ ¬ (1 : Int32) < (0 : Int32)) (tgt := 31) S dX9_fault_4 (by decide) (fun h => absurd (by decide) h) (fun _ => ?_)
  refine lv_iload_n S.1 S.2.1 dX9_fault_7 rfl (lv_at hl 2 rfl) ?_
  refine lv_i2l (v := (2 : Int64)) S.1 S.2.1 dX9_fault_8 (by decide) ?_
  refine lv_lconst (v := (0 : Int64)) S.1 S.2.1 dX9_fault_9 (by decide) ?_
  refine lv_ldc2 (v := (2 : Int64)) S.1 S.2.1 S.2.2.2.1 (S.2.2.2.2 _ (List.mem_of_getElem? (i := 1) rfl)) dX9_fault_10 ?_
  refine s_callS (As := [.long (2 : Int64), .long (0 : Int64), .long (2 : Int64)]) (rest := []) S hX G (k_X9_in l E (2 : Int64) (0 : Int64) (2 : Int64)) (va_cwS (bytes := cX9_in) (maxL := 6) (ret := (some .boolean)) 3 S.2.2.2.2 gX9_fault_X9_in rfl rfl rfl (by decide +kernel) ⟨Nat.le_of_ble_eq_true rfl, Nat.le_of_ble_eq_true rfl⟩) rfl hl.1 rfl (Nat.le_of_ble_eq_true rfl) ⟨Nat.zero_le _, Nat.zero_le _⟩ dX9_fault_13 (fun v I1 L1 H locs hR G => ?_)
  obtain ⟨hv, hI, hL⟩ := hR
  subst hv
  have G : GS E I L sg H locs := G.same hI hL
  refine W.eq (g2 := F0 mg 16 ls [.int (if ¬ (2 : Int64) < (0 : Int64) ∧ ¬ (2 : Int64) < (2 : Int64) then 1 else 0)]) rfl ?_
  refine s_if_eq_b (P := ¬ (2 : Int64) < (0 : Int64) ∧ ¬ (2 : Int64) < (2 : Int64)) (tgt := 31) S dX9_fault_16 (by decide) (fun h => absurd (by decide) h) (fun _ => ?_)
  refine lv_iload_n S.1 S.2.1 dX9_fault_19 rfl (lv_at hl 3 rfl) ?_
  refine lv_i2l (v := (1 : Int64)) S.1 S.2.1 dX9_fault_20 (by decide) ?_
  refine lv_lconst (v := (0 : Int64)) S.1 S.2.1 dX9_fault_21 (by decide) ?_
  refine lv_ldc2 (v := (4 : Int64)) S.1 S.2.1 S.2.2.2.1 (S.2.2.2.2 _ (List.mem_of_getElem? (i := 2) rfl)) dX9_fault_22 ?_
  refine s_callS (As := [.long (1 : Int64), .long (0 : Int64), .long (4 : Int64)]) (rest := []) S hX G (k_X9_in l E (1 : Int64) (0 : Int64) (4 : Int64)) (va_cwS (bytes := cX9_in) (maxL := 6) (ret := (some .boolean)) 3 S.2.2.2.2 gX9_fault_X9_in rfl rfl rfl (by decide +kernel) ⟨Nat.le_of_ble_eq_true rfl, Nat.le_of_ble_eq_true rfl⟩) rfl hl.1 rfl (Nat.le_of_ble_eq_true rfl) ⟨Nat.zero_le _, Nat.zero_le _⟩ dX9_fault_25 (fun v I1 L1 H locs hR G => ?_)
  obtain ⟨hv, hI, hL⟩ := hR
  subst hv
  have G : GS E I L sg H locs := G.same hI hL
  refine W.eq (g2 := F0 mg 28 ls [.int (if ¬ (1 : Int64) < (0 : Int64) ∧ ¬ (4 : Int64) < (1 : Int64) then 1 else 0)]) rfl ?_
  refine s_if_ne_b (P := ¬ (1 : Int64) < (0 : Int64) ∧ ¬ (4 : Int64) < (1 : Int64)) (tgt := 34) S dX9_fault_28 (by decide) (fun _ => ?_) (fun h => absurd (by decide) h)
  refine lv_iload_n S.1 S.2.1 dX9_fault_34 rfl (lv_at hl 3 rfl) ?_
  refine lv_iconst (v := (4 : Int32)) S.1 S.2.1 dX9_fault_35 (by decide) ?_
  refine lv_icmp_ne (tgt := 54) S.1 S.2.1 dX9_fault_36 (by decide) (fun _ => ?_) (fun h => absurd h (by decide))
  refine lv_aload_n S.1 S.2.1 dX9_fault_54 rfl (lv_at hl 0 rfl) ?_
  refine lv_iload_n S.1 S.2.1 dX9_fault_55 rfl (lv_at hl 1 rfl) ?_
  refine lv_iload_n S.1 S.2.1 dX9_fault_56 rfl (lv_at hl 2 rfl) ?_
  refine s_callV (C := RX9) (As := [.int (0 : Int32), .int (2 : Int32)]) (rest := []) (i := 161) (kd := 9) S hX G (k_X9_isLatched_0_2 l E d e_d) (cwV (bytes := cX9_isLatched) (maxL := 3) (ret := (some .boolean)) 2 S.2.2.2.2 gX9_fault_X9_isLatched rfl rfl rfl (by decide +kernel) ⟨Nat.le_of_ble_eq_true rfl, Nat.le_of_ble_eq_true rfl⟩) (rfl : sh 161 = 9) rfl rfl rfl (by decide) rfl hl.1 rfl (Nat.le_of_ble_eq_true rfl) ⟨Nat.zero_le _, Nat.zero_le _⟩ dX9_fault_57 (fun v I1 L1 H locs hR G => ?_)
  obtain ⟨hv, hI, hL⟩ := hR
  subst hv
  have G : GS E I L sg H locs := G.same hI hL
  refine W.eq (g2 := F0 mg 60 ls [.int (if ¬ d 58 = -1 then 1 else 0)]) rfl ?_
  refine s_if_ne_b (P := ¬ d 58 = -1) (tgt := 74) S dX9_fault_60 (by decide) (fun c_1 => ?_) (fun c_1 => ?_)
  · refine lv_iload_n S.1 S.2.1 dX9_fault_74 rfl (lv_at hl 3 rfl) ?_
    refine lv_if_ne (tgt := 82) S.1 S.2.1 dX9_fault_75 (by decide) (fun _ => ?_) (fun h => absurd h (by decide))
    refine lv_iload_n S.1 S.2.1 dX9_fault_82 rfl (lv_at hl 3 rfl) ?_
    refine lv_iconst (v := (3 : Int32)) S.1 S.2.1 dX9_fault_83 (by decide) ?_
    refine lv_icmp_ne (tgt := 96) S.1 S.2.1 dX9_fault_84 (by decide) (fun _ => ?_) (fun h => absurd h (by decide))
    refine lv_aload_n S.1 S.2.1 dX9_fault_96 rfl (lv_at hl 0 rfl) ?_
    refine s_get S hX G (i := 161) (kd := 9) (a := (I 161)) (v := .ref (E.2.2.2 162)) (C := RX9) (T := TX9) (N := 13) 0 (rfl : sh 161 = 9) rfl rfl rfl (by decide) rfl (fun _ h => (List.mem_cons_of_mem _ (List.mem_append_right _ h))) (by decide) (List.mem_of_getElem? (i := 5) rfl) (fun _ h => h) dX9_fault_97 ?_
    refine lv_iload_n S.1 S.2.1 dX9_fault_100 rfl (lv_at hl 1 rfl) ?_
    refine s_callS (As := [.int (0 : Int32)]) (rest := [.ref (E.2.2.2 162)]) S hX G (k_X9_loadAt_0 l E) (va_cwS (bytes := cX9_loadAt) (maxL := 1) (ret := (some .int)) 1 S.2.2.2.2 gX9_fault_X9_loadAt rfl rfl rfl (by decide +kernel) ⟨Nat.le_of_ble_eq_true rfl, Nat.le_of_ble_eq_true rfl⟩) rfl hl.1 rfl (Nat.le_of_ble_eq_true rfl) ⟨Nat.zero_le _, Nat.zero_le _⟩ dX9_fault_101 (fun v I1 L1 H locs hR G => ?_)
    obtain ⟨hv, hI, hL⟩ := hR
    subst hv
    have G : GS E I L sg H locs := G.same hI hL
    refine W.eq (g2 := F0 mg 104 ls [.int (40 : Int32), .ref (E.2.2.2 162)]) rfl ?_
    refine lv_bipush (v := (12 : Int32)) S.1 S.2.1 dX9_fault_104 (by decide) ?_
    refine s_iadd (v := (52 : Int32)) S dX9_fault_106 (by decide) ?_
    refine lv_iconst (v := (3 : Int32)) S.1 S.2.1 dX9_fault_107 (by decide) ?_
    refine lv_iload_n S.1 S.2.1 dX9_fault_108 rfl (lv_at hl 2 rfl) ?_
    refine s_imul (v := (6 : Int32)) S dX9_fault_109 (by decide) ?_
    refine s_iadd (v := (58 : Int32)) S dX9_fault_110 (by decide) ?_
    refine lv_iload_n S.1 S.2.1 dX9_fault_111 rfl (lv_at hl 3 rfl) ?_
    refine s_iadd (v := (59 : Int32)) S dX9_fault_112 (by decide) ?_
    refine lv_iconst (v := (1 : Int32)) S.1 S.2.1 dX9_fault_113 (by decide) ?_
    refine s_isub (v := (58 : Int32)) S dX9_fault_114 (by decide) ?_
    refine s_iald S hX G (i := 162) (kd := 284) (n := 270) (a := d) (x := (d 58)) (rfl : sh 162 = 284) e_d rfl (by decide) (by unfold vp_in; decide) (congrArg d (by decide)) dX9_fault_115 ?_
    refine s_iret (x := (d 58)) S G hr hlk dX9_fault_116 ?_
    exact ⟨(congrArg (fun q : Int32 => some (Value.int q)) (show (d 58) = (if ¬ d 58 = -1 then d 58 else (-2000000004 : Int32)) by first | exact (if_pos c_1).symm | exact (if_neg c_1).symm)), rfl, rfl⟩
  · refine lv_iload_n S.1 S.2.1 dX9_fault_63 rfl (lv_at hl 3 rfl) ?_
    refine lv_if_ne (tgt := 71) S.1 S.2.1 dX9_fault_64 (by decide) (fun _ => ?_) (fun h => absurd h (by decide))
    refine lv_ldc (v := (-2000000004 : Int32)) S.1 S.2.1 S.2.2.2.1 (S.2.2.2.2 _ (List.mem_of_getElem? (i := 4) rfl)) dX9_fault_71 ?_
    refine s_iret (x := (-2000000004 : Int32)) S G hr hlk dX9_fault_73 ?_
    exact ⟨(congrArg (fun q : Int32 => some (Value.int q)) (show (-2000000004 : Int32) = (if ¬ d 58 = -1 then d 58 else (-2000000004 : Int32)) by first | exact (if_pos c_1).symm | exact (if_neg c_1).symm)), rfl, rfl⟩
set_option maxHeartbeats 4000000 in
set_option maxRecDepth 100000 in
theorem k_X9_fault_0_2_2 (l : Launch) (E : Ev) {I : SI} {L : SL} (d : Nat → Int32) (e_d : I (162) = d) : CS l yX9_fault wsX9_fault ({ frames := 2, cells := 0, slots := 0, locals := 45 }) E [.ref (E.2.2.2 161), .int (0 : Int32), .int (2 : Int32), .int (2 : Int32)] I L (fun vv I' L' => vv = some (.int (if ¬ d 58 = -1 then d 59 else (-2000000004 : Int32))) ∧ I' = I ∧ L' = L) := by
  refine CS.of (cc := cX9_fault) (maxL := 4) (ret := (some .int)) (by decide) rfl (Nat.le_of_ble_eq_true rfl) ?_
  intro pg en sg mg below meth cg ls S hr hlk hX G hl
  have S : CallFix pg mg cg cX9_fault 4 sg _ wsX9_fault RX9 := S
  have hl : lv_has ls 4 [(0, .ref (E.2.2.2 161)), (1, .int (0 : Int32)), (2, .int (2 : Int32)), (3, .int (2 : Int32))] := hl
  refine lv_iload_n S.1 S.2.1 dX9_fault_0 rfl (lv_at hl 1 rfl) ?_
  refine s_callS (As := [.int (0 : Int32)]) (rest := []) S hX G (k_X9_isLoad l E (0 : Int32)) (va_cwS (bytes := cX9_isLoad) (maxL := 1) (ret := (some .boolean)) 1 S.2.2.2.2 gX9_fault_X9_isLoad rfl rfl rfl (by decide +kernel) ⟨Nat.le_of_ble_eq_true rfl, Nat.le_of_ble_eq_true rfl⟩) rfl hl.1 rfl (Nat.le_of_ble_eq_true rfl) ⟨Nat.zero_le _, Nat.zero_le _⟩ dX9_fault_1 (fun v I1 L1 H locs hR G => ?_)
  obtain ⟨hv, hI, hL⟩ := hR
  subst hv
  have G : GS E I L sg H locs := G.same hI hL
  refine W.eq (g2 := F0 mg 4 ls [.int (if ¬ (0 : Int32) < (0 : Int32) ∧ ¬ (1 : Int32) < (0 : Int32) then 1 else 0)]) rfl ?_
  refine s_if_eq_b (P := ¬ (0 : Int32) < (0 : Int32) ∧ ¬ (1 : Int32) < (0 : Int32)) (tgt := 31) S dX9_fault_4 (by decide) (fun h => absurd (by decide) h) (fun _ => ?_)
  refine lv_iload_n S.1 S.2.1 dX9_fault_7 rfl (lv_at hl 2 rfl) ?_
  refine lv_i2l (v := (2 : Int64)) S.1 S.2.1 dX9_fault_8 (by decide) ?_
  refine lv_lconst (v := (0 : Int64)) S.1 S.2.1 dX9_fault_9 (by decide) ?_
  refine lv_ldc2 (v := (2 : Int64)) S.1 S.2.1 S.2.2.2.1 (S.2.2.2.2 _ (List.mem_of_getElem? (i := 1) rfl)) dX9_fault_10 ?_
  refine s_callS (As := [.long (2 : Int64), .long (0 : Int64), .long (2 : Int64)]) (rest := []) S hX G (k_X9_in l E (2 : Int64) (0 : Int64) (2 : Int64)) (va_cwS (bytes := cX9_in) (maxL := 6) (ret := (some .boolean)) 3 S.2.2.2.2 gX9_fault_X9_in rfl rfl rfl (by decide +kernel) ⟨Nat.le_of_ble_eq_true rfl, Nat.le_of_ble_eq_true rfl⟩) rfl hl.1 rfl (Nat.le_of_ble_eq_true rfl) ⟨Nat.zero_le _, Nat.zero_le _⟩ dX9_fault_13 (fun v I1 L1 H locs hR G => ?_)
  obtain ⟨hv, hI, hL⟩ := hR
  subst hv
  have G : GS E I L sg H locs := G.same hI hL
  refine W.eq (g2 := F0 mg 16 ls [.int (if ¬ (2 : Int64) < (0 : Int64) ∧ ¬ (2 : Int64) < (2 : Int64) then 1 else 0)]) rfl ?_
  refine s_if_eq_b (P := ¬ (2 : Int64) < (0 : Int64) ∧ ¬ (2 : Int64) < (2 : Int64)) (tgt := 31) S dX9_fault_16 (by decide) (fun h => absurd (by decide) h) (fun _ => ?_)
  refine lv_iload_n S.1 S.2.1 dX9_fault_19 rfl (lv_at hl 3 rfl) ?_
  refine lv_i2l (v := (2 : Int64)) S.1 S.2.1 dX9_fault_20 (by decide) ?_
  refine lv_lconst (v := (0 : Int64)) S.1 S.2.1 dX9_fault_21 (by decide) ?_
  refine lv_ldc2 (v := (4 : Int64)) S.1 S.2.1 S.2.2.2.1 (S.2.2.2.2 _ (List.mem_of_getElem? (i := 2) rfl)) dX9_fault_22 ?_
  refine s_callS (As := [.long (2 : Int64), .long (0 : Int64), .long (4 : Int64)]) (rest := []) S hX G (k_X9_in l E (2 : Int64) (0 : Int64) (4 : Int64)) (va_cwS (bytes := cX9_in) (maxL := 6) (ret := (some .boolean)) 3 S.2.2.2.2 gX9_fault_X9_in rfl rfl rfl (by decide +kernel) ⟨Nat.le_of_ble_eq_true rfl, Nat.le_of_ble_eq_true rfl⟩) rfl hl.1 rfl (Nat.le_of_ble_eq_true rfl) ⟨Nat.zero_le _, Nat.zero_le _⟩ dX9_fault_25 (fun v I1 L1 H locs hR G => ?_)
  obtain ⟨hv, hI, hL⟩ := hR
  subst hv
  have G : GS E I L sg H locs := G.same hI hL
  refine W.eq (g2 := F0 mg 28 ls [.int (if ¬ (2 : Int64) < (0 : Int64) ∧ ¬ (4 : Int64) < (2 : Int64) then 1 else 0)]) rfl ?_
  refine s_if_ne_b (P := ¬ (2 : Int64) < (0 : Int64) ∧ ¬ (4 : Int64) < (2 : Int64)) (tgt := 34) S dX9_fault_28 (by decide) (fun _ => ?_) (fun h => absurd (by decide) h)
  refine lv_iload_n S.1 S.2.1 dX9_fault_34 rfl (lv_at hl 3 rfl) ?_
  refine lv_iconst (v := (4 : Int32)) S.1 S.2.1 dX9_fault_35 (by decide) ?_
  refine lv_icmp_ne (tgt := 54) S.1 S.2.1 dX9_fault_36 (by decide) (fun _ => ?_) (fun h => absurd h (by decide))
  refine lv_aload_n S.1 S.2.1 dX9_fault_54 rfl (lv_at hl 0 rfl) ?_
  refine lv_iload_n S.1 S.2.1 dX9_fault_55 rfl (lv_at hl 1 rfl) ?_
  refine lv_iload_n S.1 S.2.1 dX9_fault_56 rfl (lv_at hl 2 rfl) ?_
  refine s_callV (C := RX9) (As := [.int (0 : Int32), .int (2 : Int32)]) (rest := []) (i := 161) (kd := 9) S hX G (k_X9_isLatched_0_2 l E d e_d) (cwV (bytes := cX9_isLatched) (maxL := 3) (ret := (some .boolean)) 2 S.2.2.2.2 gX9_fault_X9_isLatched rfl rfl rfl (by decide +kernel) ⟨Nat.le_of_ble_eq_true rfl, Nat.le_of_ble_eq_true rfl⟩) (rfl : sh 161 = 9) rfl rfl rfl (by decide) rfl hl.1 rfl (Nat.le_of_ble_eq_true rfl) ⟨Nat.zero_le _, Nat.zero_le _⟩ dX9_fault_57 (fun v I1 L1 H locs hR G => ?_)
  obtain ⟨hv, hI, hL⟩ := hR
  subst hv
  have G : GS E I L sg H locs := G.same hI hL
  refine W.eq (g2 := F0 mg 60 ls [.int (if ¬ d 58 = -1 then 1 else 0)]) rfl ?_
  refine s_if_ne_b (P := ¬ d 58 = -1) (tgt := 74) S dX9_fault_60 (by decide) (fun c_1 => ?_) (fun c_1 => ?_)
  · refine lv_iload_n S.1 S.2.1 dX9_fault_74 rfl (lv_at hl 3 rfl) ?_
    refine lv_if_ne (tgt := 82) S.1 S.2.1 dX9_fault_75 (by decide) (fun _ => ?_) (fun h => absurd h (by decide))
    refine lv_iload_n S.1 S.2.1 dX9_fault_82 rfl (lv_at hl 3 rfl) ?_
    refine lv_iconst (v := (3 : Int32)) S.1 S.2.1 dX9_fault_83 (by decide) ?_
    refine lv_icmp_ne (tgt := 96) S.1 S.2.1 dX9_fault_84 (by decide) (fun _ => ?_) (fun h => absurd h (by decide))
    refine lv_aload_n S.1 S.2.1 dX9_fault_96 rfl (lv_at hl 0 rfl) ?_
    refine s_get S hX G (i := 161) (kd := 9) (a := (I 161)) (v := .ref (E.2.2.2 162)) (C := RX9) (T := TX9) (N := 13) 0 (rfl : sh 161 = 9) rfl rfl rfl (by decide) rfl (fun _ h => (List.mem_cons_of_mem _ (List.mem_append_right _ h))) (by decide) (List.mem_of_getElem? (i := 5) rfl) (fun _ h => h) dX9_fault_97 ?_
    refine lv_iload_n S.1 S.2.1 dX9_fault_100 rfl (lv_at hl 1 rfl) ?_
    refine s_callS (As := [.int (0 : Int32)]) (rest := [.ref (E.2.2.2 162)]) S hX G (k_X9_loadAt_0 l E) (va_cwS (bytes := cX9_loadAt) (maxL := 1) (ret := (some .int)) 1 S.2.2.2.2 gX9_fault_X9_loadAt rfl rfl rfl (by decide +kernel) ⟨Nat.le_of_ble_eq_true rfl, Nat.le_of_ble_eq_true rfl⟩) rfl hl.1 rfl (Nat.le_of_ble_eq_true rfl) ⟨Nat.zero_le _, Nat.zero_le _⟩ dX9_fault_101 (fun v I1 L1 H locs hR G => ?_)
    obtain ⟨hv, hI, hL⟩ := hR
    subst hv
    have G : GS E I L sg H locs := G.same hI hL
    refine W.eq (g2 := F0 mg 104 ls [.int (40 : Int32), .ref (E.2.2.2 162)]) rfl ?_
    refine lv_bipush (v := (12 : Int32)) S.1 S.2.1 dX9_fault_104 (by decide) ?_
    refine s_iadd (v := (52 : Int32)) S dX9_fault_106 (by decide) ?_
    refine lv_iconst (v := (3 : Int32)) S.1 S.2.1 dX9_fault_107 (by decide) ?_
    refine lv_iload_n S.1 S.2.1 dX9_fault_108 rfl (lv_at hl 2 rfl) ?_
    refine s_imul (v := (6 : Int32)) S dX9_fault_109 (by decide) ?_
    refine s_iadd (v := (58 : Int32)) S dX9_fault_110 (by decide) ?_
    refine lv_iload_n S.1 S.2.1 dX9_fault_111 rfl (lv_at hl 3 rfl) ?_
    refine s_iadd (v := (60 : Int32)) S dX9_fault_112 (by decide) ?_
    refine lv_iconst (v := (1 : Int32)) S.1 S.2.1 dX9_fault_113 (by decide) ?_
    refine s_isub (v := (59 : Int32)) S dX9_fault_114 (by decide) ?_
    refine s_iald S hX G (i := 162) (kd := 284) (n := 270) (a := d) (x := (d 59)) (rfl : sh 162 = 284) e_d rfl (by decide) (by unfold vp_in; decide) (congrArg d (by decide)) dX9_fault_115 ?_
    refine s_iret (x := (d 59)) S G hr hlk dX9_fault_116 ?_
    exact ⟨(congrArg (fun q : Int32 => some (Value.int q)) (show (d 59) = (if ¬ d 58 = -1 then d 59 else (-2000000004 : Int32)) by first | exact (if_pos c_1).symm | exact (if_neg c_1).symm)), rfl, rfl⟩
  · refine lv_iload_n S.1 S.2.1 dX9_fault_63 rfl (lv_at hl 3 rfl) ?_
    refine lv_if_ne (tgt := 71) S.1 S.2.1 dX9_fault_64 (by decide) (fun _ => ?_) (fun h => absurd h (by decide))
    refine lv_ldc (v := (-2000000004 : Int32)) S.1 S.2.1 S.2.2.2.1 (S.2.2.2.2 _ (List.mem_of_getElem? (i := 4) rfl)) dX9_fault_71 ?_
    refine s_iret (x := (-2000000004 : Int32)) S G hr hlk dX9_fault_73 ?_
    exact ⟨(congrArg (fun q : Int32 => some (Value.int q)) (show (-2000000004 : Int32) = (if ¬ d 58 = -1 then d 59 else (-2000000004 : Int32)) by first | exact (if_pos c_1).symm | exact (if_neg c_1).symm)), rfl, rfl⟩
set_option maxHeartbeats 4000000 in
set_option maxRecDepth 100000 in
theorem k_X9_fault_0_2_3 (l : Launch) (E : Ev) {I : SI} {L : SL} (d : Nat → Int32) (e_d : I (162) = d) : CS l yX9_fault wsX9_fault ({ frames := 3, cells := 0, slots := 0, locals := 66 }) E [.ref (E.2.2.2 161), .int (0 : Int32), .int (2 : Int32), .int (3 : Int32)] I L (fun vv I' L' => vv = some (.int (if ¬ d 58 = -1 then plcM d 40 2 else (-2000000004 : Int32))) ∧ I' = I ∧ L' = L) := by
  refine CS.of (cc := cX9_fault) (maxL := 4) (ret := (some .int)) (by decide) rfl (Nat.le_of_ble_eq_true rfl) ?_
  intro pg en sg mg below meth cg ls S hr hlk hX G hl
  have S : CallFix pg mg cg cX9_fault 4 sg _ wsX9_fault RX9 := S
  have hl : lv_has ls 4 [(0, .ref (E.2.2.2 161)), (1, .int (0 : Int32)), (2, .int (2 : Int32)), (3, .int (3 : Int32))] := hl
  refine lv_iload_n S.1 S.2.1 dX9_fault_0 rfl (lv_at hl 1 rfl) ?_
  refine s_callS (As := [.int (0 : Int32)]) (rest := []) S hX G (k_X9_isLoad l E (0 : Int32)) (va_cwS (bytes := cX9_isLoad) (maxL := 1) (ret := (some .boolean)) 1 S.2.2.2.2 gX9_fault_X9_isLoad rfl rfl rfl (by decide +kernel) ⟨Nat.le_of_ble_eq_true rfl, Nat.le_of_ble_eq_true rfl⟩) rfl hl.1 rfl (Nat.le_of_ble_eq_true rfl) ⟨Nat.zero_le _, Nat.zero_le _⟩ dX9_fault_1 (fun v I1 L1 H locs hR G => ?_)
  obtain ⟨hv, hI, hL⟩ := hR
  subst hv
  have G : GS E I L sg H locs := G.same hI hL
  refine W.eq (g2 := F0 mg 4 ls [.int (if ¬ (0 : Int32) < (0 : Int32) ∧ ¬ (1 : Int32) < (0 : Int32) then 1 else 0)]) rfl ?_
  refine s_if_eq_b (P := ¬ (0 : Int32) < (0 : Int32) ∧ ¬ (1 : Int32) < (0 : Int32)) (tgt := 31) S dX9_fault_4 (by decide) (fun h => absurd (by decide) h) (fun _ => ?_)
  refine lv_iload_n S.1 S.2.1 dX9_fault_7 rfl (lv_at hl 2 rfl) ?_
  refine lv_i2l (v := (2 : Int64)) S.1 S.2.1 dX9_fault_8 (by decide) ?_
  refine lv_lconst (v := (0 : Int64)) S.1 S.2.1 dX9_fault_9 (by decide) ?_
  refine lv_ldc2 (v := (2 : Int64)) S.1 S.2.1 S.2.2.2.1 (S.2.2.2.2 _ (List.mem_of_getElem? (i := 1) rfl)) dX9_fault_10 ?_
  refine s_callS (As := [.long (2 : Int64), .long (0 : Int64), .long (2 : Int64)]) (rest := []) S hX G (k_X9_in l E (2 : Int64) (0 : Int64) (2 : Int64)) (va_cwS (bytes := cX9_in) (maxL := 6) (ret := (some .boolean)) 3 S.2.2.2.2 gX9_fault_X9_in rfl rfl rfl (by decide +kernel) ⟨Nat.le_of_ble_eq_true rfl, Nat.le_of_ble_eq_true rfl⟩) rfl hl.1 rfl (Nat.le_of_ble_eq_true rfl) ⟨Nat.zero_le _, Nat.zero_le _⟩ dX9_fault_13 (fun v I1 L1 H locs hR G => ?_)
  obtain ⟨hv, hI, hL⟩ := hR
  subst hv
  have G : GS E I L sg H locs := G.same hI hL
  refine W.eq (g2 := F0 mg 16 ls [.int (if ¬ (2 : Int64) < (0 : Int64) ∧ ¬ (2 : Int64) < (2 : Int64) then 1 else 0)]) rfl ?_
  refine s_if_eq_b (P := ¬ (2 : Int64) < (0 : Int64) ∧ ¬ (2 : Int64) < (2 : Int64)) (tgt := 31) S dX9_fault_16 (by decide) (fun h => absurd (by decide) h) (fun _ => ?_)
  refine lv_iload_n S.1 S.2.1 dX9_fault_19 rfl (lv_at hl 3 rfl) ?_
  refine lv_i2l (v := (3 : Int64)) S.1 S.2.1 dX9_fault_20 (by decide) ?_
  refine lv_lconst (v := (0 : Int64)) S.1 S.2.1 dX9_fault_21 (by decide) ?_
  refine lv_ldc2 (v := (4 : Int64)) S.1 S.2.1 S.2.2.2.1 (S.2.2.2.2 _ (List.mem_of_getElem? (i := 2) rfl)) dX9_fault_22 ?_
  refine s_callS (As := [.long (3 : Int64), .long (0 : Int64), .long (4 : Int64)]) (rest := []) S hX G (k_X9_in l E (3 : Int64) (0 : Int64) (4 : Int64)) (va_cwS (bytes := cX9_in) (maxL := 6) (ret := (some .boolean)) 3 S.2.2.2.2 gX9_fault_X9_in rfl rfl rfl (by decide +kernel) ⟨Nat.le_of_ble_eq_true rfl, Nat.le_of_ble_eq_true rfl⟩) rfl hl.1 rfl (Nat.le_of_ble_eq_true rfl) ⟨Nat.zero_le _, Nat.zero_le _⟩ dX9_fault_25 (fun v I1 L1 H locs hR G => ?_)
  obtain ⟨hv, hI, hL⟩ := hR
  subst hv
  have G : GS E I L sg H locs := G.same hI hL
  refine W.eq (g2 := F0 mg 28 ls [.int (if ¬ (3 : Int64) < (0 : Int64) ∧ ¬ (4 : Int64) < (3 : Int64) then 1 else 0)]) rfl ?_
  refine s_if_ne_b (P := ¬ (3 : Int64) < (0 : Int64) ∧ ¬ (4 : Int64) < (3 : Int64)) (tgt := 34) S dX9_fault_28 (by decide) (fun _ => ?_) (fun h => absurd (by decide) h)
  refine lv_iload_n S.1 S.2.1 dX9_fault_34 rfl (lv_at hl 3 rfl) ?_
  refine lv_iconst (v := (4 : Int32)) S.1 S.2.1 dX9_fault_35 (by decide) ?_
  refine lv_icmp_ne (tgt := 54) S.1 S.2.1 dX9_fault_36 (by decide) (fun _ => ?_) (fun h => absurd h (by decide))
  refine lv_aload_n S.1 S.2.1 dX9_fault_54 rfl (lv_at hl 0 rfl) ?_
  refine lv_iload_n S.1 S.2.1 dX9_fault_55 rfl (lv_at hl 1 rfl) ?_
  refine lv_iload_n S.1 S.2.1 dX9_fault_56 rfl (lv_at hl 2 rfl) ?_
  refine s_callV (C := RX9) (As := [.int (0 : Int32), .int (2 : Int32)]) (rest := []) (i := 161) (kd := 9) S hX G (k_X9_isLatched_0_2 l E d e_d) (cwV (bytes := cX9_isLatched) (maxL := 3) (ret := (some .boolean)) 2 S.2.2.2.2 gX9_fault_X9_isLatched rfl rfl rfl (by decide +kernel) ⟨Nat.le_of_ble_eq_true rfl, Nat.le_of_ble_eq_true rfl⟩) (rfl : sh 161 = 9) rfl rfl rfl (by decide) rfl hl.1 rfl (Nat.le_of_ble_eq_true rfl) ⟨Nat.zero_le _, Nat.zero_le _⟩ dX9_fault_57 (fun v I1 L1 H locs hR G => ?_)
  obtain ⟨hv, hI, hL⟩ := hR
  subst hv
  have G : GS E I L sg H locs := G.same hI hL
  refine W.eq (g2 := F0 mg 60 ls [.int (if ¬ d 58 = -1 then 1 else 0)]) rfl ?_
  refine s_if_ne_b (P := ¬ d 58 = -1) (tgt := 74) S dX9_fault_60 (by decide) (fun c_1 => ?_) (fun c_1 => ?_)
  · refine lv_iload_n S.1 S.2.1 dX9_fault_74 rfl (lv_at hl 3 rfl) ?_
    refine lv_if_ne (tgt := 82) S.1 S.2.1 dX9_fault_75 (by decide) (fun _ => ?_) (fun h => absurd h (by decide))
    refine lv_iload_n S.1 S.2.1 dX9_fault_82 rfl (lv_at hl 3 rfl) ?_
    refine lv_iconst (v := (3 : Int32)) S.1 S.2.1 dX9_fault_83 (by decide) ?_
    refine lv_icmp_ne (tgt := 96) S.1 S.2.1 dX9_fault_84 (by decide) (fun h => absurd (by decide) h) (fun _ => ?_)
    refine lv_aload_n S.1 S.2.1 dX9_fault_87 rfl (lv_at hl 0 rfl) ?_
    refine lv_iload_n S.1 S.2.1 dX9_fault_88 rfl (lv_at hl 1 rfl) ?_
    refine lv_iload_n S.1 S.2.1 dX9_fault_89 rfl (lv_at hl 2 rfl) ?_
    refine s_callV (C := RX9) (As := [.int (0 : Int32), .int (2 : Int32)]) (rest := []) (i := 161) (kd := 9) S hX G (k_X9_placeOf_0_2 l E d e_d) (cwV (bytes := cX9_placeOf) (maxL := 5) (ret := (some .int)) 2 S.2.2.2.2 gX9_fault_X9_placeOf rfl rfl rfl (by decide +kernel) ⟨Nat.le_of_ble_eq_true rfl, Nat.le_of_ble_eq_true rfl⟩) (rfl : sh 161 = 9) rfl rfl rfl (by decide) rfl hl.1 rfl (Nat.le_of_ble_eq_true rfl) ⟨Nat.zero_le _, Nat.zero_le _⟩ dX9_fault_90 (fun v I1 L1 H locs hR G => ?_)
    obtain ⟨hv, hI, hL⟩ := hR
    subst hv
    have G : GS E I L sg H locs := G.same hI hL
    refine W.eq (g2 := F0 mg 93 ls [.int (plcM d 40 2)]) rfl ?_
    refine lv_topi (fun y_2 ey_2 => ?_)
    refine lv_goto (tgt := 116) S.1 S.2.1 dX9_fault_93 (by decide) ?_
    refine s_iret (x := y_2) S G hr hlk dX9_fault_116 ?_
    exact ⟨(congrArg (fun q : Int32 => some (Value.int q)) (show y_2 = (if ¬ d 58 = -1 then plcM d 40 2 else (-2000000004 : Int32)) by subst ey_2; (first | exact (if_pos c_1).symm | exact (if_neg c_1).symm))), rfl, rfl⟩
  · refine lv_iload_n S.1 S.2.1 dX9_fault_63 rfl (lv_at hl 3 rfl) ?_
    refine lv_if_ne (tgt := 71) S.1 S.2.1 dX9_fault_64 (by decide) (fun _ => ?_) (fun h => absurd h (by decide))
    refine lv_ldc (v := (-2000000004 : Int32)) S.1 S.2.1 S.2.2.2.1 (S.2.2.2.2 _ (List.mem_of_getElem? (i := 4) rfl)) dX9_fault_71 ?_
    refine s_iret (x := (-2000000004 : Int32)) S G hr hlk dX9_fault_73 ?_
    exact ⟨(congrArg (fun q : Int32 => some (Value.int q)) (show (-2000000004 : Int32) = (if ¬ d 58 = -1 then plcM d 40 2 else (-2000000004 : Int32)) by first | exact (if_pos c_1).symm | exact (if_neg c_1).symm)), rfl, rfl⟩
set_option maxHeartbeats 4000000 in
set_option maxRecDepth 100000 in
theorem k_X9_fault_0_2_4 (l : Launch) (E : Ev) {I : SI} {L : SL} (d : Nat → Int32) (e_d : I (162) = d) : CS l yX9_fault wsX9_fault ({ frames := 4, cells := 0, slots := 0, locals := 88 }) E [.ref (E.2.2.2 161), .int (0 : Int32), .int (2 : Int32), .int (4 : Int32)] I L (fun vv I' L' => vv = some (.int (if ¬ d 58 = -1 ∧ ¬ ¬ plcM d 40 2 ≤ 0 ∧ ¬ d 5 / 2 < d 45 then 1 else 0)) ∧ I' = I ∧ L' = L) := by
  refine CS.of (cc := cX9_fault) (maxL := 4) (ret := (some .int)) (by decide) rfl (Nat.le_of_ble_eq_true rfl) ?_
  intro pg en sg mg below meth cg ls S hr hlk hX G hl
  have S : CallFix pg mg cg cX9_fault 4 sg _ wsX9_fault RX9 := S
  have hl : lv_has ls 4 [(0, .ref (E.2.2.2 161)), (1, .int (0 : Int32)), (2, .int (2 : Int32)), (3, .int (4 : Int32))] := hl
  refine lv_iload_n S.1 S.2.1 dX9_fault_0 rfl (lv_at hl 1 rfl) ?_
  refine s_callS (As := [.int (0 : Int32)]) (rest := []) S hX G (k_X9_isLoad l E (0 : Int32)) (va_cwS (bytes := cX9_isLoad) (maxL := 1) (ret := (some .boolean)) 1 S.2.2.2.2 gX9_fault_X9_isLoad rfl rfl rfl (by decide +kernel) ⟨Nat.le_of_ble_eq_true rfl, Nat.le_of_ble_eq_true rfl⟩) rfl hl.1 rfl (Nat.le_of_ble_eq_true rfl) ⟨Nat.zero_le _, Nat.zero_le _⟩ dX9_fault_1 (fun v I1 L1 H locs hR G => ?_)
  obtain ⟨hv, hI, hL⟩ := hR
  subst hv
  have G : GS E I L sg H locs := G.same hI hL
  refine W.eq (g2 := F0 mg 4 ls [.int (if ¬ (0 : Int32) < (0 : Int32) ∧ ¬ (1 : Int32) < (0 : Int32) then 1 else 0)]) rfl ?_
  refine s_if_eq_b (P := ¬ (0 : Int32) < (0 : Int32) ∧ ¬ (1 : Int32) < (0 : Int32)) (tgt := 31) S dX9_fault_4 (by decide) (fun h => absurd (by decide) h) (fun _ => ?_)
  refine lv_iload_n S.1 S.2.1 dX9_fault_7 rfl (lv_at hl 2 rfl) ?_
  refine lv_i2l (v := (2 : Int64)) S.1 S.2.1 dX9_fault_8 (by decide) ?_
  refine lv_lconst (v := (0 : Int64)) S.1 S.2.1 dX9_fault_9 (by decide) ?_
  refine lv_ldc2 (v := (2 : Int64)) S.1 S.2.1 S.2.2.2.1 (S.2.2.2.2 _ (List.mem_of_getElem? (i := 1) rfl)) dX9_fault_10 ?_
  refine s_callS (As := [.long (2 : Int64), .long (0 : Int64), .long (2 : Int64)]) (rest := []) S hX G (k_X9_in l E (2 : Int64) (0 : Int64) (2 : Int64)) (va_cwS (bytes := cX9_in) (maxL := 6) (ret := (some .boolean)) 3 S.2.2.2.2 gX9_fault_X9_in rfl rfl rfl (by decide +kernel) ⟨Nat.le_of_ble_eq_true rfl, Nat.le_of_ble_eq_true rfl⟩) rfl hl.1 rfl (Nat.le_of_ble_eq_true rfl) ⟨Nat.zero_le _, Nat.zero_le _⟩ dX9_fault_13 (fun v I1 L1 H locs hR G => ?_)
  obtain ⟨hv, hI, hL⟩ := hR
  subst hv
  have G : GS E I L sg H locs := G.same hI hL
  refine W.eq (g2 := F0 mg 16 ls [.int (if ¬ (2 : Int64) < (0 : Int64) ∧ ¬ (2 : Int64) < (2 : Int64) then 1 else 0)]) rfl ?_
  refine s_if_eq_b (P := ¬ (2 : Int64) < (0 : Int64) ∧ ¬ (2 : Int64) < (2 : Int64)) (tgt := 31) S dX9_fault_16 (by decide) (fun h => absurd (by decide) h) (fun _ => ?_)
  refine lv_iload_n S.1 S.2.1 dX9_fault_19 rfl (lv_at hl 3 rfl) ?_
  refine lv_i2l (v := (4 : Int64)) S.1 S.2.1 dX9_fault_20 (by decide) ?_
  refine lv_lconst (v := (0 : Int64)) S.1 S.2.1 dX9_fault_21 (by decide) ?_
  refine lv_ldc2 (v := (4 : Int64)) S.1 S.2.1 S.2.2.2.1 (S.2.2.2.2 _ (List.mem_of_getElem? (i := 2) rfl)) dX9_fault_22 ?_
  refine s_callS (As := [.long (4 : Int64), .long (0 : Int64), .long (4 : Int64)]) (rest := []) S hX G (k_X9_in l E (4 : Int64) (0 : Int64) (4 : Int64)) (va_cwS (bytes := cX9_in) (maxL := 6) (ret := (some .boolean)) 3 S.2.2.2.2 gX9_fault_X9_in rfl rfl rfl (by decide +kernel) ⟨Nat.le_of_ble_eq_true rfl, Nat.le_of_ble_eq_true rfl⟩) rfl hl.1 rfl (Nat.le_of_ble_eq_true rfl) ⟨Nat.zero_le _, Nat.zero_le _⟩ dX9_fault_25 (fun v I1 L1 H locs hR G => ?_)
  obtain ⟨hv, hI, hL⟩ := hR
  subst hv
  have G : GS E I L sg H locs := G.same hI hL
  refine W.eq (g2 := F0 mg 28 ls [.int (if ¬ (4 : Int64) < (0 : Int64) ∧ ¬ (4 : Int64) < (4 : Int64) then 1 else 0)]) rfl ?_
  refine s_if_ne_b (P := ¬ (4 : Int64) < (0 : Int64) ∧ ¬ (4 : Int64) < (4 : Int64)) (tgt := 34) S dX9_fault_28 (by decide) (fun _ => ?_) (fun h => absurd (by decide) h)
  refine lv_iload_n S.1 S.2.1 dX9_fault_34 rfl (lv_at hl 3 rfl) ?_
  refine lv_iconst (v := (4 : Int32)) S.1 S.2.1 dX9_fault_35 (by decide) ?_
  refine lv_icmp_ne (tgt := 54) S.1 S.2.1 dX9_fault_36 (by decide) (fun h => absurd (by decide) h) (fun _ => ?_)
  refine lv_aload_n S.1 S.2.1 dX9_fault_39 rfl (lv_at hl 0 rfl) ?_
  refine lv_iload_n S.1 S.2.1 dX9_fault_40 rfl (lv_at hl 1 rfl) ?_
  refine lv_iload_n S.1 S.2.1 dX9_fault_41 rfl (lv_at hl 2 rfl) ?_
  refine s_callV (C := RX9) (As := [.int (0 : Int32), .int (2 : Int32)]) (rest := []) (i := 161) (kd := 9) S hX G (k_X9_canClear_0_2 l E d e_d) (cwV (bytes := cX9_canClear) (maxL := 3) (ret := (some .boolean)) 2 S.2.2.2.2 gX9_fault_X9_canClear rfl rfl rfl (by decide +kernel) ⟨Nat.le_of_ble_eq_true rfl, Nat.le_of_ble_eq_true rfl⟩) (rfl : sh 161 = 9) rfl rfl rfl (by decide) rfl hl.1 rfl (Nat.le_of_ble_eq_true rfl) ⟨Nat.zero_le _, Nat.zero_le _⟩ dX9_fault_42 (fun v I1 L1 H locs hR G => ?_)
  obtain ⟨hv, hI, hL⟩ := hR
  subst hv
  have G : GS E I L sg H locs := G.same hI hL
  refine W.eq (g2 := F0 mg 45 ls [.int (if ¬ d 58 = -1 ∧ ¬ ¬ plcM d 40 2 ≤ 0 ∧ ¬ d 5 / 2 < d 45 then 1 else 0)]) rfl ?_
  refine s_if_eq_b (P := ¬ d 58 = -1 ∧ ¬ ¬ plcM d 40 2 ≤ 0 ∧ ¬ d 5 / 2 < d 45) (tgt := 52) S dX9_fault_45 (by decide) (fun c_1 => ?_) (fun c_1 => ?_)
  · refine lv_iconst (v := (0 : Int32)) S.1 S.2.1 dX9_fault_52 (by decide) ?_
    refine s_iret (x := (0 : Int32)) S G hr hlk dX9_fault_53 ?_
    exact ⟨(congrArg (fun q : Int32 => some (Value.int q)) (show (0 : Int32) = (if ¬ d 58 = -1 ∧ ¬ ¬ plcM d 40 2 ≤ 0 ∧ ¬ d 5 / 2 < d 45 then 1 else 0) by first | exact (if_pos c_1).symm | exact (if_neg c_1).symm)), rfl, rfl⟩
  · refine lv_iconst (v := (1 : Int32)) S.1 S.2.1 dX9_fault_48 (by decide) ?_
    refine lv_goto (tgt := 53) S.1 S.2.1 dX9_fault_49 (by decide) ?_
    refine s_iret (x := (1 : Int32)) S G hr hlk dX9_fault_53 ?_
    exact ⟨(congrArg (fun q : Int32 => some (Value.int q)) (show (1 : Int32) = (if ¬ d 58 = -1 ∧ ¬ ¬ plcM d 40 2 ≤ 0 ∧ ¬ d 5 / 2 < d 45 then 1 else 0) by first | exact (if_pos c_1).symm | exact (if_neg c_1).symm)), rfl, rfl⟩
set_option maxHeartbeats 4000000 in
set_option maxRecDepth 100000 in
theorem k_X9_load_1_0 (l : Launch) (E : Ev) {I : SI} {L : SL} (d : Nat → Int32) (e_d : I (162) = d) : CS l yX9_load wsX9_load ({ frames := 2, cells := 0, slots := 0, locals := 45 }) E [.ref (E.2.2.2 161), .int (1 : Int32), .int (0 : Int32)] I L (fun vv I' L' => vv = some (.int (d 70)) ∧ I' = I ∧ L' = L) := by
  refine CS.of (cc := cX9_load) (maxL := 4) (ret := (some .int)) (by decide) rfl (Nat.le_of_ble_eq_true rfl) ?_
  intro pg en sg mg below meth cg ls S hr hlk hX G hl
  have S : CallFix pg mg cg cX9_load 4 sg _ wsX9_load RX9 := S
  have hl : lv_has ls 4 [(0, .ref (E.2.2.2 161)), (1, .int (1 : Int32)), (2, .int (0 : Int32))] := hl
  refine lv_iload_n S.1 S.2.1 dX9_load_0 rfl (lv_at hl 1 rfl) ?_
  refine s_callS (As := [.int (1 : Int32)]) (rest := []) S hX G (k_X9_isLoad l E (1 : Int32)) (va_cwS (bytes := cX9_isLoad) (maxL := 1) (ret := (some .boolean)) 1 S.2.2.2.2 gX9_load_X9_isLoad rfl rfl rfl (by decide +kernel) ⟨Nat.le_of_ble_eq_true rfl, Nat.le_of_ble_eq_true rfl⟩) rfl hl.1 rfl (Nat.le_of_ble_eq_true rfl) ⟨Nat.zero_le _, Nat.zero_le _⟩ dX9_load_1 (fun v I1 L1 H locs hR G => ?_)
  obtain ⟨hv, hI, hL⟩ := hR
  subst hv
  have G : GS E I L sg H locs := G.same hI hL
  refine W.eq (g2 := F0 mg 4 ls [.int (if ¬ (1 : Int32) < (0 : Int32) ∧ ¬ (1 : Int32) < (1 : Int32) then 1 else 0)]) rfl ?_
  refine s_if_eq_b (P := ¬ (1 : Int32) < (0 : Int32) ∧ ¬ (1 : Int32) < (1 : Int32)) (tgt := 19) S dX9_load_4 (by decide) (fun h => absurd (by decide) h) (fun _ => ?_)
  refine lv_iload_n S.1 S.2.1 dX9_load_7 rfl (lv_at hl 2 rfl) ?_
  refine lv_i2l (v := (0 : Int64)) S.1 S.2.1 dX9_load_8 (by decide) ?_
  refine lv_lconst (v := (0 : Int64)) S.1 S.2.1 dX9_load_9 (by decide) ?_
  refine lv_ldc2 (v := (11 : Int64)) S.1 S.2.1 S.2.2.2.1 (S.2.2.2.2 _ (List.mem_of_getElem? (i := 1) rfl)) dX9_load_10 ?_
  refine s_callS (As := [.long (0 : Int64), .long (0 : Int64), .long (11 : Int64)]) (rest := []) S hX G (k_X9_in l E (0 : Int64) (0 : Int64) (11 : Int64)) (va_cwS (bytes := cX9_in) (maxL := 6) (ret := (some .boolean)) 3 S.2.2.2.2 gX9_load_X9_in rfl rfl rfl (by decide +kernel) ⟨Nat.le_of_ble_eq_true rfl, Nat.le_of_ble_eq_true rfl⟩) rfl hl.1 rfl (Nat.le_of_ble_eq_true rfl) ⟨Nat.zero_le _, Nat.zero_le _⟩ dX9_load_13 (fun v I1 L1 H locs hR G => ?_)
  obtain ⟨hv, hI, hL⟩ := hR
  subst hv
  have G : GS E I L sg H locs := G.same hI hL
  refine W.eq (g2 := F0 mg 16 ls [.int (if ¬ (0 : Int64) < (0 : Int64) ∧ ¬ (11 : Int64) < (0 : Int64) then 1 else 0)]) rfl ?_
  refine s_if_ne_b (P := ¬ (0 : Int64) < (0 : Int64) ∧ ¬ (11 : Int64) < (0 : Int64)) (tgt := 22) S dX9_load_16 (by decide) (fun _ => ?_) (fun h => absurd (by decide) h)
  refine lv_aload_n S.1 S.2.1 dX9_load_22 rfl (lv_at hl 0 rfl) ?_
  refine s_get S hX G (i := 161) (kd := 9) (a := (I 161)) (v := .ref (E.2.2.2 162)) (C := RX9) (T := TX9) (N := 13) 0 (rfl : sh 161 = 9) rfl rfl rfl (by decide) rfl (fun _ h => (List.mem_cons_of_mem _ (List.mem_append_right _ h))) (by decide) (List.mem_of_getElem? (i := 3) rfl) (fun _ h => h) dX9_load_23 ?_
  refine lv_iload_n S.1 S.2.1 dX9_load_26 rfl (lv_at hl 1 rfl) ?_
  refine s_callS (As := [.int (1 : Int32)]) (rest := [.ref (E.2.2.2 162)]) S hX G (k_X9_loadAt_1 l E) (va_cwS (bytes := cX9_loadAt) (maxL := 1) (ret := (some .int)) 1 S.2.2.2.2 gX9_load_X9_loadAt rfl rfl rfl (by decide +kernel) ⟨Nat.le_of_ble_eq_true rfl, Nat.le_of_ble_eq_true rfl⟩) rfl hl.1 rfl (Nat.le_of_ble_eq_true rfl) ⟨Nat.zero_le _, Nat.zero_le _⟩ dX9_load_27 (fun v I1 L1 H locs hR G => ?_)
  obtain ⟨hv, hI, hL⟩ := hR
  subst hv
  have G : GS E I L sg H locs := G.same hI hL
  refine W.eq (g2 := F0 mg 30 ls [.int (70 : Int32), .ref (E.2.2.2 162)]) rfl ?_
  refine lv_iload_n S.1 S.2.1 dX9_load_30 rfl (lv_at hl 2 rfl) ?_
  refine lv_bipush (v := (11 : Int32)) S.1 S.2.1 dX9_load_31 (by decide) ?_
  refine lv_icmp_ne (tgt := 41) S.1 S.2.1 dX9_load_33 (by decide) (fun _ => ?_) (fun h => absurd h (by decide))
  refine lv_iload_n S.1 S.2.1 dX9_load_41 rfl (lv_at hl 2 rfl) ?_
  refine s_iadd (v := (70 : Int32)) S dX9_load_42 (by decide) ?_
  refine s_iald S hX G (i := 162) (kd := 284) (n := 270) (a := d) (x := (d 70)) (rfl : sh 162 = 284) e_d rfl (by decide) (by unfold vp_in; decide) (congrArg d (by decide)) dX9_load_43 ?_
  refine lv_istore_n (lv' := [(3, .int (d 70)), (0, .ref (E.2.2.2 161)), (1, .int (1 : Int32)), (2, .int (0 : Int32))]) S.1 S.2.1 dX9_load_44 rfl hl (by decide) rfl (fun ls hl => ?_)
  refine lv_iload_n S.1 S.2.1 dX9_load_45 rfl (lv_at hl 3 rfl) ?_
  refine lv_bipush (v := (9 : Int32)) S.1 S.2.1 dX9_load_46 (by decide) ?_
  refine lv_icmp_ne (tgt := 62) S.1 S.2.1 dX9_load_48 (by decide) (fun _ => ?_) (fun h => absurd h (by decide))
  refine lv_iload_n S.1 S.2.1 dX9_load_62 rfl (lv_at hl 3 rfl) ?_
  refine lv_bipush (v := (10 : Int32)) S.1 S.2.1 dX9_load_63 (by decide) ?_
  refine lv_icmp_ne (tgt := 76) S.1 S.2.1 dX9_load_65 (by decide) (fun _ => ?_) (fun h => absurd h (by decide))
  refine lv_iload_n S.1 S.2.1 dX9_load_76 rfl (lv_at hl 0 rfl) ?_
  refine s_iret (x := (d 70)) S G hr hlk dX9_load_77 ?_
  exact ⟨rfl, rfl, rfl⟩
set_option maxHeartbeats 4000000 in
set_option maxRecDepth 100000 in
theorem k_X9_load_1_1 (l : Launch) (E : Ev) {I : SI} {L : SL} (d : Nat → Int32) (e_d : I (162) = d) : CS l yX9_load wsX9_load ({ frames := 2, cells := 0, slots := 0, locals := 45 }) E [.ref (E.2.2.2 161), .int (1 : Int32), .int (1 : Int32)] I L (fun vv I' L' => vv = some (.int (d 71)) ∧ I' = I ∧ L' = L) := by
  refine CS.of (cc := cX9_load) (maxL := 4) (ret := (some .int)) (by decide) rfl (Nat.le_of_ble_eq_true rfl) ?_
  intro pg en sg mg below meth cg ls S hr hlk hX G hl
  have S : CallFix pg mg cg cX9_load 4 sg _ wsX9_load RX9 := S
  have hl : lv_has ls 4 [(0, .ref (E.2.2.2 161)), (1, .int (1 : Int32)), (2, .int (1 : Int32))] := hl
  refine lv_iload_n S.1 S.2.1 dX9_load_0 rfl (lv_at hl 1 rfl) ?_
  refine s_callS (As := [.int (1 : Int32)]) (rest := []) S hX G (k_X9_isLoad l E (1 : Int32)) (va_cwS (bytes := cX9_isLoad) (maxL := 1) (ret := (some .boolean)) 1 S.2.2.2.2 gX9_load_X9_isLoad rfl rfl rfl (by decide +kernel) ⟨Nat.le_of_ble_eq_true rfl, Nat.le_of_ble_eq_true rfl⟩) rfl hl.1 rfl (Nat.le_of_ble_eq_true rfl) ⟨Nat.zero_le _, Nat.zero_le _⟩ dX9_load_1 (fun v I1 L1 H locs hR G => ?_)
  obtain ⟨hv, hI, hL⟩ := hR
  subst hv
  have G : GS E I L sg H locs := G.same hI hL
  refine W.eq (g2 := F0 mg 4 ls [.int (if ¬ (1 : Int32) < (0 : Int32) ∧ ¬ (1 : Int32) < (1 : Int32) then 1 else 0)]) rfl ?_
  refine s_if_eq_b (P := ¬ (1 : Int32) < (0 : Int32) ∧ ¬ (1 : Int32) < (1 : Int32)) (tgt := 19) S dX9_load_4 (by decide) (fun h => absurd (by decide) h) (fun _ => ?_)
  refine lv_iload_n S.1 S.2.1 dX9_load_7 rfl (lv_at hl 2 rfl) ?_
  refine lv_i2l (v := (1 : Int64)) S.1 S.2.1 dX9_load_8 (by decide) ?_
  refine lv_lconst (v := (0 : Int64)) S.1 S.2.1 dX9_load_9 (by decide) ?_
  refine lv_ldc2 (v := (11 : Int64)) S.1 S.2.1 S.2.2.2.1 (S.2.2.2.2 _ (List.mem_of_getElem? (i := 1) rfl)) dX9_load_10 ?_
  refine s_callS (As := [.long (1 : Int64), .long (0 : Int64), .long (11 : Int64)]) (rest := []) S hX G (k_X9_in l E (1 : Int64) (0 : Int64) (11 : Int64)) (va_cwS (bytes := cX9_in) (maxL := 6) (ret := (some .boolean)) 3 S.2.2.2.2 gX9_load_X9_in rfl rfl rfl (by decide +kernel) ⟨Nat.le_of_ble_eq_true rfl, Nat.le_of_ble_eq_true rfl⟩) rfl hl.1 rfl (Nat.le_of_ble_eq_true rfl) ⟨Nat.zero_le _, Nat.zero_le _⟩ dX9_load_13 (fun v I1 L1 H locs hR G => ?_)
  obtain ⟨hv, hI, hL⟩ := hR
  subst hv
  have G : GS E I L sg H locs := G.same hI hL
  refine W.eq (g2 := F0 mg 16 ls [.int (if ¬ (1 : Int64) < (0 : Int64) ∧ ¬ (11 : Int64) < (1 : Int64) then 1 else 0)]) rfl ?_
  refine s_if_ne_b (P := ¬ (1 : Int64) < (0 : Int64) ∧ ¬ (11 : Int64) < (1 : Int64)) (tgt := 22) S dX9_load_16 (by decide) (fun _ => ?_) (fun h => absurd (by decide) h)
  refine lv_aload_n S.1 S.2.1 dX9_load_22 rfl (lv_at hl 0 rfl) ?_
  refine s_get S hX G (i := 161) (kd := 9) (a := (I 161)) (v := .ref (E.2.2.2 162)) (C := RX9) (T := TX9) (N := 13) 0 (rfl : sh 161 = 9) rfl rfl rfl (by decide) rfl (fun _ h => (List.mem_cons_of_mem _ (List.mem_append_right _ h))) (by decide) (List.mem_of_getElem? (i := 3) rfl) (fun _ h => h) dX9_load_23 ?_
  refine lv_iload_n S.1 S.2.1 dX9_load_26 rfl (lv_at hl 1 rfl) ?_
  refine s_callS (As := [.int (1 : Int32)]) (rest := [.ref (E.2.2.2 162)]) S hX G (k_X9_loadAt_1 l E) (va_cwS (bytes := cX9_loadAt) (maxL := 1) (ret := (some .int)) 1 S.2.2.2.2 gX9_load_X9_loadAt rfl rfl rfl (by decide +kernel) ⟨Nat.le_of_ble_eq_true rfl, Nat.le_of_ble_eq_true rfl⟩) rfl hl.1 rfl (Nat.le_of_ble_eq_true rfl) ⟨Nat.zero_le _, Nat.zero_le _⟩ dX9_load_27 (fun v I1 L1 H locs hR G => ?_)
  obtain ⟨hv, hI, hL⟩ := hR
  subst hv
  have G : GS E I L sg H locs := G.same hI hL
  refine W.eq (g2 := F0 mg 30 ls [.int (70 : Int32), .ref (E.2.2.2 162)]) rfl ?_
  refine lv_iload_n S.1 S.2.1 dX9_load_30 rfl (lv_at hl 2 rfl) ?_
  refine lv_bipush (v := (11 : Int32)) S.1 S.2.1 dX9_load_31 (by decide) ?_
  refine lv_icmp_ne (tgt := 41) S.1 S.2.1 dX9_load_33 (by decide) (fun _ => ?_) (fun h => absurd h (by decide))
  refine lv_iload_n S.1 S.2.1 dX9_load_41 rfl (lv_at hl 2 rfl) ?_
  refine s_iadd (v := (71 : Int32)) S dX9_load_42 (by decide) ?_
  refine s_iald S hX G (i := 162) (kd := 284) (n := 270) (a := d) (x := (d 71)) (rfl : sh 162 = 284) e_d rfl (by decide) (by unfold vp_in; decide) (congrArg d (by decide)) dX9_load_43 ?_
  refine lv_istore_n (lv' := [(3, .int (d 71)), (0, .ref (E.2.2.2 161)), (1, .int (1 : Int32)), (2, .int (1 : Int32))]) S.1 S.2.1 dX9_load_44 rfl hl (by decide) rfl (fun ls hl => ?_)
  refine lv_iload_n S.1 S.2.1 dX9_load_45 rfl (lv_at hl 3 rfl) ?_
  refine lv_bipush (v := (9 : Int32)) S.1 S.2.1 dX9_load_46 (by decide) ?_
  refine lv_icmp_ne (tgt := 62) S.1 S.2.1 dX9_load_48 (by decide) (fun _ => ?_) (fun h => absurd h (by decide))
  refine lv_iload_n S.1 S.2.1 dX9_load_62 rfl (lv_at hl 3 rfl) ?_
  refine lv_bipush (v := (10 : Int32)) S.1 S.2.1 dX9_load_63 (by decide) ?_
  refine lv_icmp_ne (tgt := 76) S.1 S.2.1 dX9_load_65 (by decide) (fun _ => ?_) (fun h => absurd h (by decide))
  refine lv_iload_n S.1 S.2.1 dX9_load_76 rfl (lv_at hl 0 rfl) ?_
  refine s_iret (x := (d 71)) S G hr hlk dX9_load_77 ?_
  exact ⟨rfl, rfl, rfl⟩
set_option maxHeartbeats 4000000 in
set_option maxRecDepth 100000 in
theorem k_X9_load_1_2 (l : Launch) (E : Ev) {I : SI} {L : SL} (d : Nat → Int32) (e_d : I (162) = d) : CS l yX9_load wsX9_load ({ frames := 2, cells := 0, slots := 0, locals := 45 }) E [.ref (E.2.2.2 161), .int (1 : Int32), .int (2 : Int32)] I L (fun vv I' L' => vv = some (.int (d 72)) ∧ I' = I ∧ L' = L) := by
  refine CS.of (cc := cX9_load) (maxL := 4) (ret := (some .int)) (by decide) rfl (Nat.le_of_ble_eq_true rfl) ?_
  intro pg en sg mg below meth cg ls S hr hlk hX G hl
  have S : CallFix pg mg cg cX9_load 4 sg _ wsX9_load RX9 := S
  have hl : lv_has ls 4 [(0, .ref (E.2.2.2 161)), (1, .int (1 : Int32)), (2, .int (2 : Int32))] := hl
  refine lv_iload_n S.1 S.2.1 dX9_load_0 rfl (lv_at hl 1 rfl) ?_
  refine s_callS (As := [.int (1 : Int32)]) (rest := []) S hX G (k_X9_isLoad l E (1 : Int32)) (va_cwS (bytes := cX9_isLoad) (maxL := 1) (ret := (some .boolean)) 1 S.2.2.2.2 gX9_load_X9_isLoad rfl rfl rfl (by decide +kernel) ⟨Nat.le_of_ble_eq_true rfl, Nat.le_of_ble_eq_true rfl⟩) rfl hl.1 rfl (Nat.le_of_ble_eq_true rfl) ⟨Nat.zero_le _, Nat.zero_le _⟩ dX9_load_1 (fun v I1 L1 H locs hR G => ?_)
  obtain ⟨hv, hI, hL⟩ := hR
  subst hv
  have G : GS E I L sg H locs := G.same hI hL
  refine W.eq (g2 := F0 mg 4 ls [.int (if ¬ (1 : Int32) < (0 : Int32) ∧ ¬ (1 : Int32) < (1 : Int32) then 1 else 0)]) rfl ?_
  refine s_if_eq_b (P := ¬ (1 : Int32) < (0 : Int32) ∧ ¬ (1 : Int32) < (1 : Int32)) (tgt := 19) S dX9_load_4 (by decide) (fun h => absurd (by decide) h) (fun _ => ?_)
  refine lv_iload_n S.1 S.2.1 dX9_load_7 rfl (lv_at hl 2 rfl) ?_
  refine lv_i2l (v := (2 : Int64)) S.1 S.2.1 dX9_load_8 (by decide) ?_
  refine lv_lconst (v := (0 : Int64)) S.1 S.2.1 dX9_load_9 (by decide) ?_
  refine lv_ldc2 (v := (11 : Int64)) S.1 S.2.1 S.2.2.2.1 (S.2.2.2.2 _ (List.mem_of_getElem? (i := 1) rfl)) dX9_load_10 ?_
  refine s_callS (As := [.long (2 : Int64), .long (0 : Int64), .long (11 : Int64)]) (rest := []) S hX G (k_X9_in l E (2 : Int64) (0 : Int64) (11 : Int64)) (va_cwS (bytes := cX9_in) (maxL := 6) (ret := (some .boolean)) 3 S.2.2.2.2 gX9_load_X9_in rfl rfl rfl (by decide +kernel) ⟨Nat.le_of_ble_eq_true rfl, Nat.le_of_ble_eq_true rfl⟩) rfl hl.1 rfl (Nat.le_of_ble_eq_true rfl) ⟨Nat.zero_le _, Nat.zero_le _⟩ dX9_load_13 (fun v I1 L1 H locs hR G => ?_)
  obtain ⟨hv, hI, hL⟩ := hR
  subst hv
  have G : GS E I L sg H locs := G.same hI hL
  refine W.eq (g2 := F0 mg 16 ls [.int (if ¬ (2 : Int64) < (0 : Int64) ∧ ¬ (11 : Int64) < (2 : Int64) then 1 else 0)]) rfl ?_
  refine s_if_ne_b (P := ¬ (2 : Int64) < (0 : Int64) ∧ ¬ (11 : Int64) < (2 : Int64)) (tgt := 22) S dX9_load_16 (by decide) (fun _ => ?_) (fun h => absurd (by decide) h)
  refine lv_aload_n S.1 S.2.1 dX9_load_22 rfl (lv_at hl 0 rfl) ?_
  refine s_get S hX G (i := 161) (kd := 9) (a := (I 161)) (v := .ref (E.2.2.2 162)) (C := RX9) (T := TX9) (N := 13) 0 (rfl : sh 161 = 9) rfl rfl rfl (by decide) rfl (fun _ h => (List.mem_cons_of_mem _ (List.mem_append_right _ h))) (by decide) (List.mem_of_getElem? (i := 3) rfl) (fun _ h => h) dX9_load_23 ?_
  refine lv_iload_n S.1 S.2.1 dX9_load_26 rfl (lv_at hl 1 rfl) ?_
  refine s_callS (As := [.int (1 : Int32)]) (rest := [.ref (E.2.2.2 162)]) S hX G (k_X9_loadAt_1 l E) (va_cwS (bytes := cX9_loadAt) (maxL := 1) (ret := (some .int)) 1 S.2.2.2.2 gX9_load_X9_loadAt rfl rfl rfl (by decide +kernel) ⟨Nat.le_of_ble_eq_true rfl, Nat.le_of_ble_eq_true rfl⟩) rfl hl.1 rfl (Nat.le_of_ble_eq_true rfl) ⟨Nat.zero_le _, Nat.zero_le _⟩ dX9_load_27 (fun v I1 L1 H locs hR G => ?_)
  obtain ⟨hv, hI, hL⟩ := hR
  subst hv
  have G : GS E I L sg H locs := G.same hI hL
  refine W.eq (g2 := F0 mg 30 ls [.int (70 : Int32), .ref (E.2.2.2 162)]) rfl ?_
  refine lv_iload_n S.1 S.2.1 dX9_load_30 rfl (lv_at hl 2 rfl) ?_
  refine lv_bipush (v := (11 : Int32)) S.1 S.2.1 dX9_load_31 (by decide) ?_
  refine lv_icmp_ne (tgt := 41) S.1 S.2.1 dX9_load_33 (by decide) (fun _ => ?_) (fun h => absurd h (by decide))
  refine lv_iload_n S.1 S.2.1 dX9_load_41 rfl (lv_at hl 2 rfl) ?_
  refine s_iadd (v := (72 : Int32)) S dX9_load_42 (by decide) ?_
  refine s_iald S hX G (i := 162) (kd := 284) (n := 270) (a := d) (x := (d 72)) (rfl : sh 162 = 284) e_d rfl (by decide) (by unfold vp_in; decide) (congrArg d (by decide)) dX9_load_43 ?_
  refine lv_istore_n (lv' := [(3, .int (d 72)), (0, .ref (E.2.2.2 161)), (1, .int (1 : Int32)), (2, .int (2 : Int32))]) S.1 S.2.1 dX9_load_44 rfl hl (by decide) rfl (fun ls hl => ?_)
  refine lv_iload_n S.1 S.2.1 dX9_load_45 rfl (lv_at hl 3 rfl) ?_
  refine lv_bipush (v := (9 : Int32)) S.1 S.2.1 dX9_load_46 (by decide) ?_
  refine lv_icmp_ne (tgt := 62) S.1 S.2.1 dX9_load_48 (by decide) (fun _ => ?_) (fun h => absurd h (by decide))
  refine lv_iload_n S.1 S.2.1 dX9_load_62 rfl (lv_at hl 3 rfl) ?_
  refine lv_bipush (v := (10 : Int32)) S.1 S.2.1 dX9_load_63 (by decide) ?_
  refine lv_icmp_ne (tgt := 76) S.1 S.2.1 dX9_load_65 (by decide) (fun _ => ?_) (fun h => absurd h (by decide))
  refine lv_iload_n S.1 S.2.1 dX9_load_76 rfl (lv_at hl 0 rfl) ?_
  refine s_iret (x := (d 72)) S G hr hlk dX9_load_77 ?_
  exact ⟨rfl, rfl, rfl⟩
set_option maxHeartbeats 4000000 in
set_option maxRecDepth 100000 in
theorem k_X9_load_1_3 (l : Launch) (E : Ev) {I : SI} {L : SL} (d : Nat → Int32) (e_d : I (162) = d) : CS l yX9_load wsX9_load ({ frames := 2, cells := 0, slots := 0, locals := 45 }) E [.ref (E.2.2.2 161), .int (1 : Int32), .int (3 : Int32)] I L (fun vv I' L' => vv = some (.int (d 73)) ∧ I' = I ∧ L' = L) := by
  refine CS.of (cc := cX9_load) (maxL := 4) (ret := (some .int)) (by decide) rfl (Nat.le_of_ble_eq_true rfl) ?_
  intro pg en sg mg below meth cg ls S hr hlk hX G hl
  have S : CallFix pg mg cg cX9_load 4 sg _ wsX9_load RX9 := S
  have hl : lv_has ls 4 [(0, .ref (E.2.2.2 161)), (1, .int (1 : Int32)), (2, .int (3 : Int32))] := hl
  refine lv_iload_n S.1 S.2.1 dX9_load_0 rfl (lv_at hl 1 rfl) ?_
  refine s_callS (As := [.int (1 : Int32)]) (rest := []) S hX G (k_X9_isLoad l E (1 : Int32)) (va_cwS (bytes := cX9_isLoad) (maxL := 1) (ret := (some .boolean)) 1 S.2.2.2.2 gX9_load_X9_isLoad rfl rfl rfl (by decide +kernel) ⟨Nat.le_of_ble_eq_true rfl, Nat.le_of_ble_eq_true rfl⟩) rfl hl.1 rfl (Nat.le_of_ble_eq_true rfl) ⟨Nat.zero_le _, Nat.zero_le _⟩ dX9_load_1 (fun v I1 L1 H locs hR G => ?_)
  obtain ⟨hv, hI, hL⟩ := hR
  subst hv
  have G : GS E I L sg H locs := G.same hI hL
  refine W.eq (g2 := F0 mg 4 ls [.int (if ¬ (1 : Int32) < (0 : Int32) ∧ ¬ (1 : Int32) < (1 : Int32) then 1 else 0)]) rfl ?_
  refine s_if_eq_b (P := ¬ (1 : Int32) < (0 : Int32) ∧ ¬ (1 : Int32) < (1 : Int32)) (tgt := 19) S dX9_load_4 (by decide) (fun h => absurd (by decide) h) (fun _ => ?_)
  refine lv_iload_n S.1 S.2.1 dX9_load_7 rfl (lv_at hl 2 rfl) ?_
  refine lv_i2l (v := (3 : Int64)) S.1 S.2.1 dX9_load_8 (by decide) ?_
  refine lv_lconst (v := (0 : Int64)) S.1 S.2.1 dX9_load_9 (by decide) ?_
  refine lv_ldc2 (v := (11 : Int64)) S.1 S.2.1 S.2.2.2.1 (S.2.2.2.2 _ (List.mem_of_getElem? (i := 1) rfl)) dX9_load_10 ?_
  refine s_callS (As := [.long (3 : Int64), .long (0 : Int64), .long (11 : Int64)]) (rest := []) S hX G (k_X9_in l E (3 : Int64) (0 : Int64) (11 : Int64)) (va_cwS (bytes := cX9_in) (maxL := 6) (ret := (some .boolean)) 3 S.2.2.2.2 gX9_load_X9_in rfl rfl rfl (by decide +kernel) ⟨Nat.le_of_ble_eq_true rfl, Nat.le_of_ble_eq_true rfl⟩) rfl hl.1 rfl (Nat.le_of_ble_eq_true rfl) ⟨Nat.zero_le _, Nat.zero_le _⟩ dX9_load_13 (fun v I1 L1 H locs hR G => ?_)
  obtain ⟨hv, hI, hL⟩ := hR
  subst hv
  have G : GS E I L sg H locs := G.same hI hL
  refine W.eq (g2 := F0 mg 16 ls [.int (if ¬ (3 : Int64) < (0 : Int64) ∧ ¬ (11 : Int64) < (3 : Int64) then 1 else 0)]) rfl ?_
  refine s_if_ne_b (P := ¬ (3 : Int64) < (0 : Int64) ∧ ¬ (11 : Int64) < (3 : Int64)) (tgt := 22) S dX9_load_16 (by decide) (fun _ => ?_) (fun h => absurd (by decide) h)
  refine lv_aload_n S.1 S.2.1 dX9_load_22 rfl (lv_at hl 0 rfl) ?_
  refine s_get S hX G (i := 161) (kd := 9) (a := (I 161)) (v := .ref (E.2.2.2 162)) (C := RX9) (T := TX9) (N := 13) 0 (rfl : sh 161 = 9) rfl rfl rfl (by decide) rfl (fun _ h => (List.mem_cons_of_mem _ (List.mem_append_right _ h))) (by decide) (List.mem_of_getElem? (i := 3) rfl) (fun _ h => h) dX9_load_23 ?_
  refine lv_iload_n S.1 S.2.1 dX9_load_26 rfl (lv_at hl 1 rfl) ?_
  refine s_callS (As := [.int (1 : Int32)]) (rest := [.ref (E.2.2.2 162)]) S hX G (k_X9_loadAt_1 l E) (va_cwS (bytes := cX9_loadAt) (maxL := 1) (ret := (some .int)) 1 S.2.2.2.2 gX9_load_X9_loadAt rfl rfl rfl (by decide +kernel) ⟨Nat.le_of_ble_eq_true rfl, Nat.le_of_ble_eq_true rfl⟩) rfl hl.1 rfl (Nat.le_of_ble_eq_true rfl) ⟨Nat.zero_le _, Nat.zero_le _⟩ dX9_load_27 (fun v I1 L1 H locs hR G => ?_)
  obtain ⟨hv, hI, hL⟩ := hR
  subst hv
  have G : GS E I L sg H locs := G.same hI hL
  refine W.eq (g2 := F0 mg 30 ls [.int (70 : Int32), .ref (E.2.2.2 162)]) rfl ?_
  refine lv_iload_n S.1 S.2.1 dX9_load_30 rfl (lv_at hl 2 rfl) ?_
  refine lv_bipush (v := (11 : Int32)) S.1 S.2.1 dX9_load_31 (by decide) ?_
  refine lv_icmp_ne (tgt := 41) S.1 S.2.1 dX9_load_33 (by decide) (fun _ => ?_) (fun h => absurd h (by decide))
  refine lv_iload_n S.1 S.2.1 dX9_load_41 rfl (lv_at hl 2 rfl) ?_
  refine s_iadd (v := (73 : Int32)) S dX9_load_42 (by decide) ?_
  refine s_iald S hX G (i := 162) (kd := 284) (n := 270) (a := d) (x := (d 73)) (rfl : sh 162 = 284) e_d rfl (by decide) (by unfold vp_in; decide) (congrArg d (by decide)) dX9_load_43 ?_
  refine lv_istore_n (lv' := [(3, .int (d 73)), (0, .ref (E.2.2.2 161)), (1, .int (1 : Int32)), (2, .int (3 : Int32))]) S.1 S.2.1 dX9_load_44 rfl hl (by decide) rfl (fun ls hl => ?_)
  refine lv_iload_n S.1 S.2.1 dX9_load_45 rfl (lv_at hl 3 rfl) ?_
  refine lv_bipush (v := (9 : Int32)) S.1 S.2.1 dX9_load_46 (by decide) ?_
  refine lv_icmp_ne (tgt := 62) S.1 S.2.1 dX9_load_48 (by decide) (fun _ => ?_) (fun h => absurd h (by decide))
  refine lv_iload_n S.1 S.2.1 dX9_load_62 rfl (lv_at hl 3 rfl) ?_
  refine lv_bipush (v := (10 : Int32)) S.1 S.2.1 dX9_load_63 (by decide) ?_
  refine lv_icmp_ne (tgt := 76) S.1 S.2.1 dX9_load_65 (by decide) (fun _ => ?_) (fun h => absurd h (by decide))
  refine lv_iload_n S.1 S.2.1 dX9_load_76 rfl (lv_at hl 0 rfl) ?_
  refine s_iret (x := (d 73)) S G hr hlk dX9_load_77 ?_
  exact ⟨rfl, rfl, rfl⟩
set_option maxHeartbeats 4000000 in
set_option maxRecDepth 100000 in
theorem k_X9_load_1_4 (l : Launch) (E : Ev) {I : SI} {L : SL} (d : Nat → Int32) (e_d : I (162) = d) : CS l yX9_load wsX9_load ({ frames := 2, cells := 0, slots := 0, locals := 45 }) E [.ref (E.2.2.2 161), .int (1 : Int32), .int (4 : Int32)] I L (fun vv I' L' => vv = some (.int (d 74)) ∧ I' = I ∧ L' = L) := by
  refine CS.of (cc := cX9_load) (maxL := 4) (ret := (some .int)) (by decide) rfl (Nat.le_of_ble_eq_true rfl) ?_
  intro pg en sg mg below meth cg ls S hr hlk hX G hl
  have S : CallFix pg mg cg cX9_load 4 sg _ wsX9_load RX9 := S
  have hl : lv_has ls 4 [(0, .ref (E.2.2.2 161)), (1, .int (1 : Int32)), (2, .int (4 : Int32))] := hl
  refine lv_iload_n S.1 S.2.1 dX9_load_0 rfl (lv_at hl 1 rfl) ?_
  refine s_callS (As := [.int (1 : Int32)]) (rest := []) S hX G (k_X9_isLoad l E (1 : Int32)) (va_cwS (bytes := cX9_isLoad) (maxL := 1) (ret := (some .boolean)) 1 S.2.2.2.2 gX9_load_X9_isLoad rfl rfl rfl (by decide +kernel) ⟨Nat.le_of_ble_eq_true rfl, Nat.le_of_ble_eq_true rfl⟩) rfl hl.1 rfl (Nat.le_of_ble_eq_true rfl) ⟨Nat.zero_le _, Nat.zero_le _⟩ dX9_load_1 (fun v I1 L1 H locs hR G => ?_)
  obtain ⟨hv, hI, hL⟩ := hR
  subst hv
  have G : GS E I L sg H locs := G.same hI hL
  refine W.eq (g2 := F0 mg 4 ls [.int (if ¬ (1 : Int32) < (0 : Int32) ∧ ¬ (1 : Int32) < (1 : Int32) then 1 else 0)]) rfl ?_
  refine s_if_eq_b (P := ¬ (1 : Int32) < (0 : Int32) ∧ ¬ (1 : Int32) < (1 : Int32)) (tgt := 19) S dX9_load_4 (by decide) (fun h => absurd (by decide) h) (fun _ => ?_)
  refine lv_iload_n S.1 S.2.1 dX9_load_7 rfl (lv_at hl 2 rfl) ?_
  refine lv_i2l (v := (4 : Int64)) S.1 S.2.1 dX9_load_8 (by decide) ?_
  refine lv_lconst (v := (0 : Int64)) S.1 S.2.1 dX9_load_9 (by decide) ?_
  refine lv_ldc2 (v := (11 : Int64)) S.1 S.2.1 S.2.2.2.1 (S.2.2.2.2 _ (List.mem_of_getElem? (i := 1) rfl)) dX9_load_10 ?_
  refine s_callS (As := [.long (4 : Int64), .long (0 : Int64), .long (11 : Int64)]) (rest := []) S hX G (k_X9_in l E (4 : Int64) (0 : Int64) (11 : Int64)) (va_cwS (bytes := cX9_in) (maxL := 6) (ret := (some .boolean)) 3 S.2.2.2.2 gX9_load_X9_in rfl rfl rfl (by decide +kernel) ⟨Nat.le_of_ble_eq_true rfl, Nat.le_of_ble_eq_true rfl⟩) rfl hl.1 rfl (Nat.le_of_ble_eq_true rfl) ⟨Nat.zero_le _, Nat.zero_le _⟩ dX9_load_13 (fun v I1 L1 H locs hR G => ?_)
  obtain ⟨hv, hI, hL⟩ := hR
  subst hv
  have G : GS E I L sg H locs := G.same hI hL
  refine W.eq (g2 := F0 mg 16 ls [.int (if ¬ (4 : Int64) < (0 : Int64) ∧ ¬ (11 : Int64) < (4 : Int64) then 1 else 0)]) rfl ?_
  refine s_if_ne_b (P := ¬ (4 : Int64) < (0 : Int64) ∧ ¬ (11 : Int64) < (4 : Int64)) (tgt := 22) S dX9_load_16 (by decide) (fun _ => ?_) (fun h => absurd (by decide) h)
  refine lv_aload_n S.1 S.2.1 dX9_load_22 rfl (lv_at hl 0 rfl) ?_
  refine s_get S hX G (i := 161) (kd := 9) (a := (I 161)) (v := .ref (E.2.2.2 162)) (C := RX9) (T := TX9) (N := 13) 0 (rfl : sh 161 = 9) rfl rfl rfl (by decide) rfl (fun _ h => (List.mem_cons_of_mem _ (List.mem_append_right _ h))) (by decide) (List.mem_of_getElem? (i := 3) rfl) (fun _ h => h) dX9_load_23 ?_
  refine lv_iload_n S.1 S.2.1 dX9_load_26 rfl (lv_at hl 1 rfl) ?_
  refine s_callS (As := [.int (1 : Int32)]) (rest := [.ref (E.2.2.2 162)]) S hX G (k_X9_loadAt_1 l E) (va_cwS (bytes := cX9_loadAt) (maxL := 1) (ret := (some .int)) 1 S.2.2.2.2 gX9_load_X9_loadAt rfl rfl rfl (by decide +kernel) ⟨Nat.le_of_ble_eq_true rfl, Nat.le_of_ble_eq_true rfl⟩) rfl hl.1 rfl (Nat.le_of_ble_eq_true rfl) ⟨Nat.zero_le _, Nat.zero_le _⟩ dX9_load_27 (fun v I1 L1 H locs hR G => ?_)
  obtain ⟨hv, hI, hL⟩ := hR
  subst hv
  have G : GS E I L sg H locs := G.same hI hL
  refine W.eq (g2 := F0 mg 30 ls [.int (70 : Int32), .ref (E.2.2.2 162)]) rfl ?_
  refine lv_iload_n S.1 S.2.1 dX9_load_30 rfl (lv_at hl 2 rfl) ?_
  refine lv_bipush (v := (11 : Int32)) S.1 S.2.1 dX9_load_31 (by decide) ?_
  refine lv_icmp_ne (tgt := 41) S.1 S.2.1 dX9_load_33 (by decide) (fun _ => ?_) (fun h => absurd h (by decide))
  refine lv_iload_n S.1 S.2.1 dX9_load_41 rfl (lv_at hl 2 rfl) ?_
  refine s_iadd (v := (74 : Int32)) S dX9_load_42 (by decide) ?_
  refine s_iald S hX G (i := 162) (kd := 284) (n := 270) (a := d) (x := (d 74)) (rfl : sh 162 = 284) e_d rfl (by decide) (by unfold vp_in; decide) (congrArg d (by decide)) dX9_load_43 ?_
  refine lv_istore_n (lv' := [(3, .int (d 74)), (0, .ref (E.2.2.2 161)), (1, .int (1 : Int32)), (2, .int (4 : Int32))]) S.1 S.2.1 dX9_load_44 rfl hl (by decide) rfl (fun ls hl => ?_)
  refine lv_iload_n S.1 S.2.1 dX9_load_45 rfl (lv_at hl 3 rfl) ?_
  refine lv_bipush (v := (9 : Int32)) S.1 S.2.1 dX9_load_46 (by decide) ?_
  refine lv_icmp_ne (tgt := 62) S.1 S.2.1 dX9_load_48 (by decide) (fun _ => ?_) (fun h => absurd h (by decide))
  refine lv_iload_n S.1 S.2.1 dX9_load_62 rfl (lv_at hl 3 rfl) ?_
  refine lv_bipush (v := (10 : Int32)) S.1 S.2.1 dX9_load_63 (by decide) ?_
  refine lv_icmp_ne (tgt := 76) S.1 S.2.1 dX9_load_65 (by decide) (fun _ => ?_) (fun h => absurd h (by decide))
  refine lv_iload_n S.1 S.2.1 dX9_load_76 rfl (lv_at hl 0 rfl) ?_
  refine s_iret (x := (d 74)) S G hr hlk dX9_load_77 ?_
  exact ⟨rfl, rfl, rfl⟩
set_option maxHeartbeats 4000000 in
set_option maxRecDepth 100000 in
theorem k_X9_load_1_5 (l : Launch) (E : Ev) {I : SI} {L : SL} (d : Nat → Int32) (e_d : I (162) = d) : CS l yX9_load wsX9_load ({ frames := 2, cells := 0, slots := 0, locals := 45 }) E [.ref (E.2.2.2 161), .int (1 : Int32), .int (5 : Int32)] I L (fun vv I' L' => vv = some (.int (d 75)) ∧ I' = I ∧ L' = L) := by
  refine CS.of (cc := cX9_load) (maxL := 4) (ret := (some .int)) (by decide) rfl (Nat.le_of_ble_eq_true rfl) ?_
  intro pg en sg mg below meth cg ls S hr hlk hX G hl
  have S : CallFix pg mg cg cX9_load 4 sg _ wsX9_load RX9 := S
  have hl : lv_has ls 4 [(0, .ref (E.2.2.2 161)), (1, .int (1 : Int32)), (2, .int (5 : Int32))] := hl
  refine lv_iload_n S.1 S.2.1 dX9_load_0 rfl (lv_at hl 1 rfl) ?_
  refine s_callS (As := [.int (1 : Int32)]) (rest := []) S hX G (k_X9_isLoad l E (1 : Int32)) (va_cwS (bytes := cX9_isLoad) (maxL := 1) (ret := (some .boolean)) 1 S.2.2.2.2 gX9_load_X9_isLoad rfl rfl rfl (by decide +kernel) ⟨Nat.le_of_ble_eq_true rfl, Nat.le_of_ble_eq_true rfl⟩) rfl hl.1 rfl (Nat.le_of_ble_eq_true rfl) ⟨Nat.zero_le _, Nat.zero_le _⟩ dX9_load_1 (fun v I1 L1 H locs hR G => ?_)
  obtain ⟨hv, hI, hL⟩ := hR
  subst hv
  have G : GS E I L sg H locs := G.same hI hL
  refine W.eq (g2 := F0 mg 4 ls [.int (if ¬ (1 : Int32) < (0 : Int32) ∧ ¬ (1 : Int32) < (1 : Int32) then 1 else 0)]) rfl ?_
  refine s_if_eq_b (P := ¬ (1 : Int32) < (0 : Int32) ∧ ¬ (1 : Int32) < (1 : Int32)) (tgt := 19) S dX9_load_4 (by decide) (fun h => absurd (by decide) h) (fun _ => ?_)
  refine lv_iload_n S.1 S.2.1 dX9_load_7 rfl (lv_at hl 2 rfl) ?_
  refine lv_i2l (v := (5 : Int64)) S.1 S.2.1 dX9_load_8 (by decide) ?_
  refine lv_lconst (v := (0 : Int64)) S.1 S.2.1 dX9_load_9 (by decide) ?_
  refine lv_ldc2 (v := (11 : Int64)) S.1 S.2.1 S.2.2.2.1 (S.2.2.2.2 _ (List.mem_of_getElem? (i := 1) rfl)) dX9_load_10 ?_
  refine s_callS (As := [.long (5 : Int64), .long (0 : Int64), .long (11 : Int64)]) (rest := []) S hX G (k_X9_in l E (5 : Int64) (0 : Int64) (11 : Int64)) (va_cwS (bytes := cX9_in) (maxL := 6) (ret := (some .boolean)) 3 S.2.2.2.2 gX9_load_X9_in rfl rfl rfl (by decide +kernel) ⟨Nat.le_of_ble_eq_true rfl, Nat.le_of_ble_eq_true rfl⟩) rfl hl.1 rfl (Nat.le_of_ble_eq_true rfl) ⟨Nat.zero_le _, Nat.zero_le _⟩ dX9_load_13 (fun v I1 L1 H locs hR G => ?_)
  obtain ⟨hv, hI, hL⟩ := hR
  subst hv
  have G : GS E I L sg H locs := G.same hI hL
  refine W.eq (g2 := F0 mg 16 ls [.int (if ¬ (5 : Int64) < (0 : Int64) ∧ ¬ (11 : Int64) < (5 : Int64) then 1 else 0)]) rfl ?_
  refine s_if_ne_b (P := ¬ (5 : Int64) < (0 : Int64) ∧ ¬ (11 : Int64) < (5 : Int64)) (tgt := 22) S dX9_load_16 (by decide) (fun _ => ?_) (fun h => absurd (by decide) h)
  refine lv_aload_n S.1 S.2.1 dX9_load_22 rfl (lv_at hl 0 rfl) ?_
  refine s_get S hX G (i := 161) (kd := 9) (a := (I 161)) (v := .ref (E.2.2.2 162)) (C := RX9) (T := TX9) (N := 13) 0 (rfl : sh 161 = 9) rfl rfl rfl (by decide) rfl (fun _ h => (List.mem_cons_of_mem _ (List.mem_append_right _ h))) (by decide) (List.mem_of_getElem? (i := 3) rfl) (fun _ h => h) dX9_load_23 ?_
  refine lv_iload_n S.1 S.2.1 dX9_load_26 rfl (lv_at hl 1 rfl) ?_
  refine s_callS (As := [.int (1 : Int32)]) (rest := [.ref (E.2.2.2 162)]) S hX G (k_X9_loadAt_1 l E) (va_cwS (bytes := cX9_loadAt) (maxL := 1) (ret := (some .int)) 1 S.2.2.2.2 gX9_load_X9_loadAt rfl rfl rfl (by decide +kernel) ⟨Nat.le_of_ble_eq_true rfl, Nat.le_of_ble_eq_true rfl⟩) rfl hl.1 rfl (Nat.le_of_ble_eq_true rfl) ⟨Nat.zero_le _, Nat.zero_le _⟩ dX9_load_27 (fun v I1 L1 H locs hR G => ?_)
  obtain ⟨hv, hI, hL⟩ := hR
  subst hv
  have G : GS E I L sg H locs := G.same hI hL
  refine W.eq (g2 := F0 mg 30 ls [.int (70 : Int32), .ref (E.2.2.2 162)]) rfl ?_
  refine lv_iload_n S.1 S.2.1 dX9_load_30 rfl (lv_at hl 2 rfl) ?_
  refine lv_bipush (v := (11 : Int32)) S.1 S.2.1 dX9_load_31 (by decide) ?_
  refine lv_icmp_ne (tgt := 41) S.1 S.2.1 dX9_load_33 (by decide) (fun _ => ?_) (fun h => absurd h (by decide))
  refine lv_iload_n S.1 S.2.1 dX9_load_41 rfl (lv_at hl 2 rfl) ?_
  refine s_iadd (v := (75 : Int32)) S dX9_load_42 (by decide) ?_
  refine s_iald S hX G (i := 162) (kd := 284) (n := 270) (a := d) (x := (d 75)) (rfl : sh 162 = 284) e_d rfl (by decide) (by unfold vp_in; decide) (congrArg d (by decide)) dX9_load_43 ?_
  refine lv_istore_n (lv' := [(3, .int (d 75)), (0, .ref (E.2.2.2 161)), (1, .int (1 : Int32)), (2, .int (5 : Int32))]) S.1 S.2.1 dX9_load_44 rfl hl (by decide) rfl (fun ls hl => ?_)
  refine lv_iload_n S.1 S.2.1 dX9_load_45 rfl (lv_at hl 3 rfl) ?_
  refine lv_bipush (v := (9 : Int32)) S.1 S.2.1 dX9_load_46 (by decide) ?_
  refine lv_icmp_ne (tgt := 62) S.1 S.2.1 dX9_load_48 (by decide) (fun _ => ?_) (fun h => absurd h (by decide))
  refine lv_iload_n S.1 S.2.1 dX9_load_62 rfl (lv_at hl 3 rfl) ?_
  refine lv_bipush (v := (10 : Int32)) S.1 S.2.1 dX9_load_63 (by decide) ?_
  refine lv_icmp_ne (tgt := 76) S.1 S.2.1 dX9_load_65 (by decide) (fun _ => ?_) (fun h => absurd h (by decide))
  refine lv_iload_n S.1 S.2.1 dX9_load_76 rfl (lv_at hl 0 rfl) ?_
  refine s_iret (x := (d 75)) S G hr hlk dX9_load_77 ?_
  exact ⟨rfl, rfl, rfl⟩
set_option maxHeartbeats 4000000 in
set_option maxRecDepth 100000 in
theorem k_X9_load_1_6 (l : Launch) (E : Ev) {I : SI} {L : SL} (d : Nat → Int32) (e_d : I (162) = d) : CS l yX9_load wsX9_load ({ frames := 2, cells := 0, slots := 0, locals := 45 }) E [.ref (E.2.2.2 161), .int (1 : Int32), .int (6 : Int32)] I L (fun vv I' L' => vv = some (.int (d 76)) ∧ I' = I ∧ L' = L) := by
  refine CS.of (cc := cX9_load) (maxL := 4) (ret := (some .int)) (by decide) rfl (Nat.le_of_ble_eq_true rfl) ?_
  intro pg en sg mg below meth cg ls S hr hlk hX G hl
  have S : CallFix pg mg cg cX9_load 4 sg _ wsX9_load RX9 := S
  have hl : lv_has ls 4 [(0, .ref (E.2.2.2 161)), (1, .int (1 : Int32)), (2, .int (6 : Int32))] := hl
  refine lv_iload_n S.1 S.2.1 dX9_load_0 rfl (lv_at hl 1 rfl) ?_
  refine s_callS (As := [.int (1 : Int32)]) (rest := []) S hX G (k_X9_isLoad l E (1 : Int32)) (va_cwS (bytes := cX9_isLoad) (maxL := 1) (ret := (some .boolean)) 1 S.2.2.2.2 gX9_load_X9_isLoad rfl rfl rfl (by decide +kernel) ⟨Nat.le_of_ble_eq_true rfl, Nat.le_of_ble_eq_true rfl⟩) rfl hl.1 rfl (Nat.le_of_ble_eq_true rfl) ⟨Nat.zero_le _, Nat.zero_le _⟩ dX9_load_1 (fun v I1 L1 H locs hR G => ?_)
  obtain ⟨hv, hI, hL⟩ := hR
  subst hv
  have G : GS E I L sg H locs := G.same hI hL
  refine W.eq (g2 := F0 mg 4 ls [.int (if ¬ (1 : Int32) < (0 : Int32) ∧ ¬ (1 : Int32) < (1 : Int32) then 1 else 0)]) rfl ?_
  refine s_if_eq_b (P := ¬ (1 : Int32) < (0 : Int32) ∧ ¬ (1 : Int32) < (1 : Int32)) (tgt := 19) S dX9_load_4 (by decide) (fun h => absurd (by decide) h) (fun _ => ?_)
  refine lv_iload_n S.1 S.2.1 dX9_load_7 rfl (lv_at hl 2 rfl) ?_
  refine lv_i2l (v := (6 : Int64)) S.1 S.2.1 dX9_load_8 (by decide) ?_
  refine lv_lconst (v := (0 : Int64)) S.1 S.2.1 dX9_load_9 (by decide) ?_
  refine lv_ldc2 (v := (11 : Int64)) S.1 S.2.1 S.2.2.2.1 (S.2.2.2.2 _ (List.mem_of_getElem? (i := 1) rfl)) dX9_load_10 ?_
  refine s_callS (As := [.long (6 : Int64), .long (0 : Int64), .long (11 : Int64)]) (rest := []) S hX G (k_X9_in l E (6 : Int64) (0 : Int64) (11 : Int64)) (va_cwS (bytes := cX9_in) (maxL := 6) (ret := (some .boolean)) 3 S.2.2.2.2 gX9_load_X9_in rfl rfl rfl (by decide +kernel) ⟨Nat.le_of_ble_eq_true rfl, Nat.le_of_ble_eq_true rfl⟩) rfl hl.1 rfl (Nat.le_of_ble_eq_true rfl) ⟨Nat.zero_le _, Nat.zero_le _⟩ dX9_load_13 (fun v I1 L1 H locs hR G => ?_)
  obtain ⟨hv, hI, hL⟩ := hR
  subst hv
  have G : GS E I L sg H locs := G.same hI hL
  refine W.eq (g2 := F0 mg 16 ls [.int (if ¬ (6 : Int64) < (0 : Int64) ∧ ¬ (11 : Int64) < (6 : Int64) then 1 else 0)]) rfl ?_
  refine s_if_ne_b (P := ¬ (6 : Int64) < (0 : Int64) ∧ ¬ (11 : Int64) < (6 : Int64)) (tgt := 22) S dX9_load_16 (by decide) (fun _ => ?_) (fun h => absurd (by decide) h)
  refine lv_aload_n S.1 S.2.1 dX9_load_22 rfl (lv_at hl 0 rfl) ?_
  refine s_get S hX G (i := 161) (kd := 9) (a := (I 161)) (v := .ref (E.2.2.2 162)) (C := RX9) (T := TX9) (N := 13) 0 (rfl : sh 161 = 9) rfl rfl rfl (by decide) rfl (fun _ h => (List.mem_cons_of_mem _ (List.mem_append_right _ h))) (by decide) (List.mem_of_getElem? (i := 3) rfl) (fun _ h => h) dX9_load_23 ?_
  refine lv_iload_n S.1 S.2.1 dX9_load_26 rfl (lv_at hl 1 rfl) ?_
  refine s_callS (As := [.int (1 : Int32)]) (rest := [.ref (E.2.2.2 162)]) S hX G (k_X9_loadAt_1 l E) (va_cwS (bytes := cX9_loadAt) (maxL := 1) (ret := (some .int)) 1 S.2.2.2.2 gX9_load_X9_loadAt rfl rfl rfl (by decide +kernel) ⟨Nat.le_of_ble_eq_true rfl, Nat.le_of_ble_eq_true rfl⟩) rfl hl.1 rfl (Nat.le_of_ble_eq_true rfl) ⟨Nat.zero_le _, Nat.zero_le _⟩ dX9_load_27 (fun v I1 L1 H locs hR G => ?_)
  obtain ⟨hv, hI, hL⟩ := hR
  subst hv
  have G : GS E I L sg H locs := G.same hI hL
  refine W.eq (g2 := F0 mg 30 ls [.int (70 : Int32), .ref (E.2.2.2 162)]) rfl ?_
  refine lv_iload_n S.1 S.2.1 dX9_load_30 rfl (lv_at hl 2 rfl) ?_
  refine lv_bipush (v := (11 : Int32)) S.1 S.2.1 dX9_load_31 (by decide) ?_
  refine lv_icmp_ne (tgt := 41) S.1 S.2.1 dX9_load_33 (by decide) (fun _ => ?_) (fun h => absurd h (by decide))
  refine lv_iload_n S.1 S.2.1 dX9_load_41 rfl (lv_at hl 2 rfl) ?_
  refine s_iadd (v := (76 : Int32)) S dX9_load_42 (by decide) ?_
  refine s_iald S hX G (i := 162) (kd := 284) (n := 270) (a := d) (x := (d 76)) (rfl : sh 162 = 284) e_d rfl (by decide) (by unfold vp_in; decide) (congrArg d (by decide)) dX9_load_43 ?_
  refine lv_istore_n (lv' := [(3, .int (d 76)), (0, .ref (E.2.2.2 161)), (1, .int (1 : Int32)), (2, .int (6 : Int32))]) S.1 S.2.1 dX9_load_44 rfl hl (by decide) rfl (fun ls hl => ?_)
  refine lv_iload_n S.1 S.2.1 dX9_load_45 rfl (lv_at hl 3 rfl) ?_
  refine lv_bipush (v := (9 : Int32)) S.1 S.2.1 dX9_load_46 (by decide) ?_
  refine lv_icmp_ne (tgt := 62) S.1 S.2.1 dX9_load_48 (by decide) (fun _ => ?_) (fun h => absurd h (by decide))
  refine lv_iload_n S.1 S.2.1 dX9_load_62 rfl (lv_at hl 3 rfl) ?_
  refine lv_bipush (v := (10 : Int32)) S.1 S.2.1 dX9_load_63 (by decide) ?_
  refine lv_icmp_ne (tgt := 76) S.1 S.2.1 dX9_load_65 (by decide) (fun _ => ?_) (fun h => absurd h (by decide))
  refine lv_iload_n S.1 S.2.1 dX9_load_76 rfl (lv_at hl 0 rfl) ?_
  refine s_iret (x := (d 76)) S G hr hlk dX9_load_77 ?_
  exact ⟨rfl, rfl, rfl⟩
set_option maxHeartbeats 4000000 in
set_option maxRecDepth 100000 in
theorem k_X9_load_1_7 (l : Launch) (E : Ev) {I : SI} {L : SL} (d : Nat → Int32) (e_d : I (162) = d) : CS l yX9_load wsX9_load ({ frames := 2, cells := 0, slots := 0, locals := 45 }) E [.ref (E.2.2.2 161), .int (1 : Int32), .int (7 : Int32)] I L (fun vv I' L' => vv = some (.int (d 77)) ∧ I' = I ∧ L' = L) := by
  refine CS.of (cc := cX9_load) (maxL := 4) (ret := (some .int)) (by decide) rfl (Nat.le_of_ble_eq_true rfl) ?_
  intro pg en sg mg below meth cg ls S hr hlk hX G hl
  have S : CallFix pg mg cg cX9_load 4 sg _ wsX9_load RX9 := S
  have hl : lv_has ls 4 [(0, .ref (E.2.2.2 161)), (1, .int (1 : Int32)), (2, .int (7 : Int32))] := hl
  refine lv_iload_n S.1 S.2.1 dX9_load_0 rfl (lv_at hl 1 rfl) ?_
  refine s_callS (As := [.int (1 : Int32)]) (rest := []) S hX G (k_X9_isLoad l E (1 : Int32)) (va_cwS (bytes := cX9_isLoad) (maxL := 1) (ret := (some .boolean)) 1 S.2.2.2.2 gX9_load_X9_isLoad rfl rfl rfl (by decide +kernel) ⟨Nat.le_of_ble_eq_true rfl, Nat.le_of_ble_eq_true rfl⟩) rfl hl.1 rfl (Nat.le_of_ble_eq_true rfl) ⟨Nat.zero_le _, Nat.zero_le _⟩ dX9_load_1 (fun v I1 L1 H locs hR G => ?_)
  obtain ⟨hv, hI, hL⟩ := hR
  subst hv
  have G : GS E I L sg H locs := G.same hI hL
  refine W.eq (g2 := F0 mg 4 ls [.int (if ¬ (1 : Int32) < (0 : Int32) ∧ ¬ (1 : Int32) < (1 : Int32) then 1 else 0)]) rfl ?_
  refine s_if_eq_b (P := ¬ (1 : Int32) < (0 : Int32) ∧ ¬ (1 : Int32) < (1 : Int32)) (tgt := 19) S dX9_load_4 (by decide) (fun h => absurd (by decide) h) (fun _ => ?_)
  refine lv_iload_n S.1 S.2.1 dX9_load_7 rfl (lv_at hl 2 rfl) ?_
  refine lv_i2l (v := (7 : Int64)) S.1 S.2.1 dX9_load_8 (by decide) ?_
  refine lv_lconst (v := (0 : Int64)) S.1 S.2.1 dX9_load_9 (by decide) ?_
  refine lv_ldc2 (v := (11 : Int64)) S.1 S.2.1 S.2.2.2.1 (S.2.2.2.2 _ (List.mem_of_getElem? (i := 1) rfl)) dX9_load_10 ?_
  refine s_callS (As := [.long (7 : Int64), .long (0 : Int64), .long (11 : Int64)]) (rest := []) S hX G (k_X9_in l E (7 : Int64) (0 : Int64) (11 : Int64)) (va_cwS (bytes := cX9_in) (maxL := 6) (ret := (some .boolean)) 3 S.2.2.2.2 gX9_load_X9_in rfl rfl rfl (by decide +kernel) ⟨Nat.le_of_ble_eq_true rfl, Nat.le_of_ble_eq_true rfl⟩) rfl hl.1 rfl (Nat.le_of_ble_eq_true rfl) ⟨Nat.zero_le _, Nat.zero_le _⟩ dX9_load_13 (fun v I1 L1 H locs hR G => ?_)
  obtain ⟨hv, hI, hL⟩ := hR
  subst hv
  have G : GS E I L sg H locs := G.same hI hL
  refine W.eq (g2 := F0 mg 16 ls [.int (if ¬ (7 : Int64) < (0 : Int64) ∧ ¬ (11 : Int64) < (7 : Int64) then 1 else 0)]) rfl ?_
  refine s_if_ne_b (P := ¬ (7 : Int64) < (0 : Int64) ∧ ¬ (11 : Int64) < (7 : Int64)) (tgt := 22) S dX9_load_16 (by decide) (fun _ => ?_) (fun h => absurd (by decide) h)
  refine lv_aload_n S.1 S.2.1 dX9_load_22 rfl (lv_at hl 0 rfl) ?_
  refine s_get S hX G (i := 161) (kd := 9) (a := (I 161)) (v := .ref (E.2.2.2 162)) (C := RX9) (T := TX9) (N := 13) 0 (rfl : sh 161 = 9) rfl rfl rfl (by decide) rfl (fun _ h => (List.mem_cons_of_mem _ (List.mem_append_right _ h))) (by decide) (List.mem_of_getElem? (i := 3) rfl) (fun _ h => h) dX9_load_23 ?_
  refine lv_iload_n S.1 S.2.1 dX9_load_26 rfl (lv_at hl 1 rfl) ?_
  refine s_callS (As := [.int (1 : Int32)]) (rest := [.ref (E.2.2.2 162)]) S hX G (k_X9_loadAt_1 l E) (va_cwS (bytes := cX9_loadAt) (maxL := 1) (ret := (some .int)) 1 S.2.2.2.2 gX9_load_X9_loadAt rfl rfl rfl (by decide +kernel) ⟨Nat.le_of_ble_eq_true rfl, Nat.le_of_ble_eq_true rfl⟩) rfl hl.1 rfl (Nat.le_of_ble_eq_true rfl) ⟨Nat.zero_le _, Nat.zero_le _⟩ dX9_load_27 (fun v I1 L1 H locs hR G => ?_)
  obtain ⟨hv, hI, hL⟩ := hR
  subst hv
  have G : GS E I L sg H locs := G.same hI hL
  refine W.eq (g2 := F0 mg 30 ls [.int (70 : Int32), .ref (E.2.2.2 162)]) rfl ?_
  refine lv_iload_n S.1 S.2.1 dX9_load_30 rfl (lv_at hl 2 rfl) ?_
  refine lv_bipush (v := (11 : Int32)) S.1 S.2.1 dX9_load_31 (by decide) ?_
  refine lv_icmp_ne (tgt := 41) S.1 S.2.1 dX9_load_33 (by decide) (fun _ => ?_) (fun h => absurd h (by decide))
  refine lv_iload_n S.1 S.2.1 dX9_load_41 rfl (lv_at hl 2 rfl) ?_
  refine s_iadd (v := (77 : Int32)) S dX9_load_42 (by decide) ?_
  refine s_iald S hX G (i := 162) (kd := 284) (n := 270) (a := d) (x := (d 77)) (rfl : sh 162 = 284) e_d rfl (by decide) (by unfold vp_in; decide) (congrArg d (by decide)) dX9_load_43 ?_
  refine lv_istore_n (lv' := [(3, .int (d 77)), (0, .ref (E.2.2.2 161)), (1, .int (1 : Int32)), (2, .int (7 : Int32))]) S.1 S.2.1 dX9_load_44 rfl hl (by decide) rfl (fun ls hl => ?_)
  refine lv_iload_n S.1 S.2.1 dX9_load_45 rfl (lv_at hl 3 rfl) ?_
  refine lv_bipush (v := (9 : Int32)) S.1 S.2.1 dX9_load_46 (by decide) ?_
  refine lv_icmp_ne (tgt := 62) S.1 S.2.1 dX9_load_48 (by decide) (fun _ => ?_) (fun h => absurd h (by decide))
  refine lv_iload_n S.1 S.2.1 dX9_load_62 rfl (lv_at hl 3 rfl) ?_
  refine lv_bipush (v := (10 : Int32)) S.1 S.2.1 dX9_load_63 (by decide) ?_
  refine lv_icmp_ne (tgt := 76) S.1 S.2.1 dX9_load_65 (by decide) (fun _ => ?_) (fun h => absurd h (by decide))
  refine lv_iload_n S.1 S.2.1 dX9_load_76 rfl (lv_at hl 0 rfl) ?_
  refine s_iret (x := (d 77)) S G hr hlk dX9_load_77 ?_
  exact ⟨rfl, rfl, rfl⟩
set_option maxHeartbeats 4000000 in
set_option maxRecDepth 100000 in
theorem k_X9_load_1_8 (l : Launch) (E : Ev) {I : SI} {L : SL} (d : Nat → Int32) (e_d : I (162) = d) : CS l yX9_load wsX9_load ({ frames := 2, cells := 0, slots := 0, locals := 45 }) E [.ref (E.2.2.2 161), .int (1 : Int32), .int (8 : Int32)] I L (fun vv I' L' => vv = some (.int (d 78)) ∧ I' = I ∧ L' = L) := by
  refine CS.of (cc := cX9_load) (maxL := 4) (ret := (some .int)) (by decide) rfl (Nat.le_of_ble_eq_true rfl) ?_
  intro pg en sg mg below meth cg ls S hr hlk hX G hl
  have S : CallFix pg mg cg cX9_load 4 sg _ wsX9_load RX9 := S
  have hl : lv_has ls 4 [(0, .ref (E.2.2.2 161)), (1, .int (1 : Int32)), (2, .int (8 : Int32))] := hl
  refine lv_iload_n S.1 S.2.1 dX9_load_0 rfl (lv_at hl 1 rfl) ?_
  refine s_callS (As := [.int (1 : Int32)]) (rest := []) S hX G (k_X9_isLoad l E (1 : Int32)) (va_cwS (bytes := cX9_isLoad) (maxL := 1) (ret := (some .boolean)) 1 S.2.2.2.2 gX9_load_X9_isLoad rfl rfl rfl (by decide +kernel) ⟨Nat.le_of_ble_eq_true rfl, Nat.le_of_ble_eq_true rfl⟩) rfl hl.1 rfl (Nat.le_of_ble_eq_true rfl) ⟨Nat.zero_le _, Nat.zero_le _⟩ dX9_load_1 (fun v I1 L1 H locs hR G => ?_)
  obtain ⟨hv, hI, hL⟩ := hR
  subst hv
  have G : GS E I L sg H locs := G.same hI hL
  refine W.eq (g2 := F0 mg 4 ls [.int (if ¬ (1 : Int32) < (0 : Int32) ∧ ¬ (1 : Int32) < (1 : Int32) then 1 else 0)]) rfl ?_
  refine s_if_eq_b (P := ¬ (1 : Int32) < (0 : Int32) ∧ ¬ (1 : Int32) < (1 : Int32)) (tgt := 19) S dX9_load_4 (by decide) (fun h => absurd (by decide) h) (fun _ => ?_)
  refine lv_iload_n S.1 S.2.1 dX9_load_7 rfl (lv_at hl 2 rfl) ?_
  refine lv_i2l (v := (8 : Int64)) S.1 S.2.1 dX9_load_8 (by decide) ?_
  refine lv_lconst (v := (0 : Int64)) S.1 S.2.1 dX9_load_9 (by decide) ?_
  refine lv_ldc2 (v := (11 : Int64)) S.1 S.2.1 S.2.2.2.1 (S.2.2.2.2 _ (List.mem_of_getElem? (i := 1) rfl)) dX9_load_10 ?_
  refine s_callS (As := [.long (8 : Int64), .long (0 : Int64), .long (11 : Int64)]) (rest := []) S hX G (k_X9_in l E (8 : Int64) (0 : Int64) (11 : Int64)) (va_cwS (bytes := cX9_in) (maxL := 6) (ret := (some .boolean)) 3 S.2.2.2.2 gX9_load_X9_in rfl rfl rfl (by decide +kernel) ⟨Nat.le_of_ble_eq_true rfl, Nat.le_of_ble_eq_true rfl⟩) rfl hl.1 rfl (Nat.le_of_ble_eq_true rfl) ⟨Nat.zero_le _, Nat.zero_le _⟩ dX9_load_13 (fun v I1 L1 H locs hR G => ?_)
  obtain ⟨hv, hI, hL⟩ := hR
  subst hv
  have G : GS E I L sg H locs := G.same hI hL
  refine W.eq (g2 := F0 mg 16 ls [.int (if ¬ (8 : Int64) < (0 : Int64) ∧ ¬ (11 : Int64) < (8 : Int64) then 1 else 0)]) rfl ?_
  refine s_if_ne_b (P := ¬ (8 : Int64) < (0 : Int64) ∧ ¬ (11 : Int64) < (8 : Int64)) (tgt := 22) S dX9_load_16 (by decide) (fun _ => ?_) (fun h => absurd (by decide) h)
  refine lv_aload_n S.1 S.2.1 dX9_load_22 rfl (lv_at hl 0 rfl) ?_
  refine s_get S hX G (i := 161) (kd := 9) (a := (I 161)) (v := .ref (E.2.2.2 162)) (C := RX9) (T := TX9) (N := 13) 0 (rfl : sh 161 = 9) rfl rfl rfl (by decide) rfl (fun _ h => (List.mem_cons_of_mem _ (List.mem_append_right _ h))) (by decide) (List.mem_of_getElem? (i := 3) rfl) (fun _ h => h) dX9_load_23 ?_
  refine lv_iload_n S.1 S.2.1 dX9_load_26 rfl (lv_at hl 1 rfl) ?_
  refine s_callS (As := [.int (1 : Int32)]) (rest := [.ref (E.2.2.2 162)]) S hX G (k_X9_loadAt_1 l E) (va_cwS (bytes := cX9_loadAt) (maxL := 1) (ret := (some .int)) 1 S.2.2.2.2 gX9_load_X9_loadAt rfl rfl rfl (by decide +kernel) ⟨Nat.le_of_ble_eq_true rfl, Nat.le_of_ble_eq_true rfl⟩) rfl hl.1 rfl (Nat.le_of_ble_eq_true rfl) ⟨Nat.zero_le _, Nat.zero_le _⟩ dX9_load_27 (fun v I1 L1 H locs hR G => ?_)
  obtain ⟨hv, hI, hL⟩ := hR
  subst hv
  have G : GS E I L sg H locs := G.same hI hL
  refine W.eq (g2 := F0 mg 30 ls [.int (70 : Int32), .ref (E.2.2.2 162)]) rfl ?_
  refine lv_iload_n S.1 S.2.1 dX9_load_30 rfl (lv_at hl 2 rfl) ?_
  refine lv_bipush (v := (11 : Int32)) S.1 S.2.1 dX9_load_31 (by decide) ?_
  refine lv_icmp_ne (tgt := 41) S.1 S.2.1 dX9_load_33 (by decide) (fun _ => ?_) (fun h => absurd h (by decide))
  refine lv_iload_n S.1 S.2.1 dX9_load_41 rfl (lv_at hl 2 rfl) ?_
  refine s_iadd (v := (78 : Int32)) S dX9_load_42 (by decide) ?_
  refine s_iald S hX G (i := 162) (kd := 284) (n := 270) (a := d) (x := (d 78)) (rfl : sh 162 = 284) e_d rfl (by decide) (by unfold vp_in; decide) (congrArg d (by decide)) dX9_load_43 ?_
  refine lv_istore_n (lv' := [(3, .int (d 78)), (0, .ref (E.2.2.2 161)), (1, .int (1 : Int32)), (2, .int (8 : Int32))]) S.1 S.2.1 dX9_load_44 rfl hl (by decide) rfl (fun ls hl => ?_)
  refine lv_iload_n S.1 S.2.1 dX9_load_45 rfl (lv_at hl 3 rfl) ?_
  refine lv_bipush (v := (9 : Int32)) S.1 S.2.1 dX9_load_46 (by decide) ?_
  refine lv_icmp_ne (tgt := 62) S.1 S.2.1 dX9_load_48 (by decide) (fun _ => ?_) (fun h => absurd h (by decide))
  refine lv_iload_n S.1 S.2.1 dX9_load_62 rfl (lv_at hl 3 rfl) ?_
  refine lv_bipush (v := (10 : Int32)) S.1 S.2.1 dX9_load_63 (by decide) ?_
  refine lv_icmp_ne (tgt := 76) S.1 S.2.1 dX9_load_65 (by decide) (fun _ => ?_) (fun h => absurd h (by decide))
  refine lv_iload_n S.1 S.2.1 dX9_load_76 rfl (lv_at hl 0 rfl) ?_
  refine s_iret (x := (d 78)) S G hr hlk dX9_load_77 ?_
  exact ⟨rfl, rfl, rfl⟩
set_option maxHeartbeats 4000000 in
set_option maxRecDepth 100000 in
theorem k_X9_load_1_9 (l : Launch) (E : Ev) {I : SI} {L : SL} (d : Nat → Int32) (e_d : I (162) = d) : CS l yX9_load wsX9_load ({ frames := 2, cells := 0, slots := 0, locals := 45 }) E [.ref (E.2.2.2 161), .int (1 : Int32), .int (9 : Int32)] I L (fun vv I' L' => vv = some (.int (if d 79 = 9 then (-2000000004 : Int32) else d 79)) ∧ I' = I ∧ L' = L) := by
  refine CS.of (cc := cX9_load) (maxL := 4) (ret := (some .int)) (by decide) rfl (Nat.le_of_ble_eq_true rfl) ?_
  intro pg en sg mg below meth cg ls S hr hlk hX G hl
  have S : CallFix pg mg cg cX9_load 4 sg _ wsX9_load RX9 := S
  have hl : lv_has ls 4 [(0, .ref (E.2.2.2 161)), (1, .int (1 : Int32)), (2, .int (9 : Int32))] := hl
  refine lv_iload_n S.1 S.2.1 dX9_load_0 rfl (lv_at hl 1 rfl) ?_
  refine s_callS (As := [.int (1 : Int32)]) (rest := []) S hX G (k_X9_isLoad l E (1 : Int32)) (va_cwS (bytes := cX9_isLoad) (maxL := 1) (ret := (some .boolean)) 1 S.2.2.2.2 gX9_load_X9_isLoad rfl rfl rfl (by decide +kernel) ⟨Nat.le_of_ble_eq_true rfl, Nat.le_of_ble_eq_true rfl⟩) rfl hl.1 rfl (Nat.le_of_ble_eq_true rfl) ⟨Nat.zero_le _, Nat.zero_le _⟩ dX9_load_1 (fun v I1 L1 H locs hR G => ?_)
  obtain ⟨hv, hI, hL⟩ := hR
  subst hv
  have G : GS E I L sg H locs := G.same hI hL
  refine W.eq (g2 := F0 mg 4 ls [.int (if ¬ (1 : Int32) < (0 : Int32) ∧ ¬ (1 : Int32) < (1 : Int32) then 1 else 0)]) rfl ?_
  refine s_if_eq_b (P := ¬ (1 : Int32) < (0 : Int32) ∧ ¬ (1 : Int32) < (1 : Int32)) (tgt := 19) S dX9_load_4 (by decide) (fun h => absurd (by decide) h) (fun _ => ?_)
  refine lv_iload_n S.1 S.2.1 dX9_load_7 rfl (lv_at hl 2 rfl) ?_
  refine lv_i2l (v := (9 : Int64)) S.1 S.2.1 dX9_load_8 (by decide) ?_
  refine lv_lconst (v := (0 : Int64)) S.1 S.2.1 dX9_load_9 (by decide) ?_
  refine lv_ldc2 (v := (11 : Int64)) S.1 S.2.1 S.2.2.2.1 (S.2.2.2.2 _ (List.mem_of_getElem? (i := 1) rfl)) dX9_load_10 ?_
  refine s_callS (As := [.long (9 : Int64), .long (0 : Int64), .long (11 : Int64)]) (rest := []) S hX G (k_X9_in l E (9 : Int64) (0 : Int64) (11 : Int64)) (va_cwS (bytes := cX9_in) (maxL := 6) (ret := (some .boolean)) 3 S.2.2.2.2 gX9_load_X9_in rfl rfl rfl (by decide +kernel) ⟨Nat.le_of_ble_eq_true rfl, Nat.le_of_ble_eq_true rfl⟩) rfl hl.1 rfl (Nat.le_of_ble_eq_true rfl) ⟨Nat.zero_le _, Nat.zero_le _⟩ dX9_load_13 (fun v I1 L1 H locs hR G => ?_)
  obtain ⟨hv, hI, hL⟩ := hR
  subst hv
  have G : GS E I L sg H locs := G.same hI hL
  refine W.eq (g2 := F0 mg 16 ls [.int (if ¬ (9 : Int64) < (0 : Int64) ∧ ¬ (11 : Int64) < (9 : Int64) then 1 else 0)]) rfl ?_
  refine s_if_ne_b (P := ¬ (9 : Int64) < (0 : Int64) ∧ ¬ (11 : Int64) < (9 : Int64)) (tgt := 22) S dX9_load_16 (by decide) (fun _ => ?_) (fun h => absurd (by decide) h)
  refine lv_aload_n S.1 S.2.1 dX9_load_22 rfl (lv_at hl 0 rfl) ?_
  refine s_get S hX G (i := 161) (kd := 9) (a := (I 161)) (v := .ref (E.2.2.2 162)) (C := RX9) (T := TX9) (N := 13) 0 (rfl : sh 161 = 9) rfl rfl rfl (by decide) rfl (fun _ h => (List.mem_cons_of_mem _ (List.mem_append_right _ h))) (by decide) (List.mem_of_getElem? (i := 3) rfl) (fun _ h => h) dX9_load_23 ?_
  refine lv_iload_n S.1 S.2.1 dX9_load_26 rfl (lv_at hl 1 rfl) ?_
  refine s_callS (As := [.int (1 : Int32)]) (rest := [.ref (E.2.2.2 162)]) S hX G (k_X9_loadAt_1 l E) (va_cwS (bytes := cX9_loadAt) (maxL := 1) (ret := (some .int)) 1 S.2.2.2.2 gX9_load_X9_loadAt rfl rfl rfl (by decide +kernel) ⟨Nat.le_of_ble_eq_true rfl, Nat.le_of_ble_eq_true rfl⟩) rfl hl.1 rfl (Nat.le_of_ble_eq_true rfl) ⟨Nat.zero_le _, Nat.zero_le _⟩ dX9_load_27 (fun v I1 L1 H locs hR G => ?_)
  obtain ⟨hv, hI, hL⟩ := hR
  subst hv
  have G : GS E I L sg H locs := G.same hI hL
  refine W.eq (g2 := F0 mg 30 ls [.int (70 : Int32), .ref (E.2.2.2 162)]) rfl ?_
  refine lv_iload_n S.1 S.2.1 dX9_load_30 rfl (lv_at hl 2 rfl) ?_
  refine lv_bipush (v := (11 : Int32)) S.1 S.2.1 dX9_load_31 (by decide) ?_
  refine lv_icmp_ne (tgt := 41) S.1 S.2.1 dX9_load_33 (by decide) (fun _ => ?_) (fun h => absurd h (by decide))
  refine lv_iload_n S.1 S.2.1 dX9_load_41 rfl (lv_at hl 2 rfl) ?_
  refine s_iadd (v := (79 : Int32)) S dX9_load_42 (by decide) ?_
  refine s_iald S hX G (i := 162) (kd := 284) (n := 270) (a := d) (x := (d 79)) (rfl : sh 162 = 284) e_d rfl (by decide) (by unfold vp_in; decide) (congrArg d (by decide)) dX9_load_43 ?_
  refine lv_istore_n (lv' := [(3, .int (d 79)), (0, .ref (E.2.2.2 161)), (1, .int (1 : Int32)), (2, .int (9 : Int32))]) S.1 S.2.1 dX9_load_44 rfl hl (by decide) rfl (fun ls hl => ?_)
  refine lv_iload_n S.1 S.2.1 dX9_load_45 rfl (lv_at hl 3 rfl) ?_
  refine lv_bipush (v := (9 : Int32)) S.1 S.2.1 dX9_load_46 (by decide) ?_
  refine lv_icmp_ne (tgt := 62) S.1 S.2.1 dX9_load_48 (by decide) (fun h => absurd (by decide) h) (fun _ => ?_)
  refine lv_iload_n S.1 S.2.1 dX9_load_51 rfl (lv_at hl 0 rfl) ?_
  refine lv_bipush (v := (9 : Int32)) S.1 S.2.1 dX9_load_52 (by decide) ?_
  refine lv_icmp_ne (tgt := 62) S.1 S.2.1 dX9_load_54 (by decide) (fun c_1 => ?_) (fun c_1 => ?_)
  · refine lv_iload_n S.1 S.2.1 dX9_load_62 rfl (lv_at hl 3 rfl) ?_
    refine lv_bipush (v := (10 : Int32)) S.1 S.2.1 dX9_load_63 (by decide) ?_
    refine lv_icmp_ne (tgt := 76) S.1 S.2.1 dX9_load_65 (by decide) (fun _ => ?_) (fun h => absurd h (by decide))
    refine lv_iload_n S.1 S.2.1 dX9_load_76 rfl (lv_at hl 0 rfl) ?_
    refine s_iret (x := (d 79)) S G hr hlk dX9_load_77 ?_
    exact ⟨(congrArg (fun q : Int32 => some (Value.int q)) (show (d 79) = (if d 79 = 9 then (-2000000004 : Int32) else d 79) by first | (simp [c_1]; done) | (clear S hX G hl; grind []))), rfl, rfl⟩
  · refine lv_ldc (v := (-2000000004 : Int32)) S.1 S.2.1 S.2.2.2.1 (S.2.2.2.2 _ (List.mem_of_getElem? (i := 4) rfl)) dX9_load_57 ?_
    refine lv_goto (tgt := 77) S.1 S.2.1 dX9_load_59 (by decide) ?_
    refine s_iret (x := (-2000000004 : Int32)) S G hr hlk dX9_load_77 ?_
    exact ⟨(congrArg (fun q : Int32 => some (Value.int q)) (show (-2000000004 : Int32) = (if d 79 = 9 then (-2000000004 : Int32) else d 79) by first | (simp [c_1]; done) | (clear S hX G hl; grind []))), rfl, rfl⟩
set_option maxHeartbeats 4000000 in
set_option maxRecDepth 100000 in
theorem k_X9_load_1_10 (l : Launch) (E : Ev) {I : SI} {L : SL} (d : Nat → Int32) (e_d : I (162) = d) : CS l yX9_load wsX9_load ({ frames := 3, cells := 0, slots := 0, locals := 65 }) E [.ref (E.2.2.2 161), .int (1 : Int32), .int (10 : Int32)] I L (fun vv I' L' => vv = some (.int (ltdF d 70)) ∧ I' = I ∧ L' = L) := by
  refine CS.of (cc := cX9_load) (maxL := 4) (ret := (some .int)) (by decide) rfl (Nat.le_of_ble_eq_true rfl) ?_
  intro pg en sg mg below meth cg ls S hr hlk hX G hl
  have S : CallFix pg mg cg cX9_load 4 sg _ wsX9_load RX9 := S
  have hl : lv_has ls 4 [(0, .ref (E.2.2.2 161)), (1, .int (1 : Int32)), (2, .int (10 : Int32))] := hl
  refine lv_iload_n S.1 S.2.1 dX9_load_0 rfl (lv_at hl 1 rfl) ?_
  refine s_callS (As := [.int (1 : Int32)]) (rest := []) S hX G (k_X9_isLoad l E (1 : Int32)) (va_cwS (bytes := cX9_isLoad) (maxL := 1) (ret := (some .boolean)) 1 S.2.2.2.2 gX9_load_X9_isLoad rfl rfl rfl (by decide +kernel) ⟨Nat.le_of_ble_eq_true rfl, Nat.le_of_ble_eq_true rfl⟩) rfl hl.1 rfl (Nat.le_of_ble_eq_true rfl) ⟨Nat.zero_le _, Nat.zero_le _⟩ dX9_load_1 (fun v I1 L1 H locs hR G => ?_)
  obtain ⟨hv, hI, hL⟩ := hR
  subst hv
  have G : GS E I L sg H locs := G.same hI hL
  refine W.eq (g2 := F0 mg 4 ls [.int (if ¬ (1 : Int32) < (0 : Int32) ∧ ¬ (1 : Int32) < (1 : Int32) then 1 else 0)]) rfl ?_
  refine s_if_eq_b (P := ¬ (1 : Int32) < (0 : Int32) ∧ ¬ (1 : Int32) < (1 : Int32)) (tgt := 19) S dX9_load_4 (by decide) (fun h => absurd (by decide) h) (fun _ => ?_)
  refine lv_iload_n S.1 S.2.1 dX9_load_7 rfl (lv_at hl 2 rfl) ?_
  refine lv_i2l (v := (10 : Int64)) S.1 S.2.1 dX9_load_8 (by decide) ?_
  refine lv_lconst (v := (0 : Int64)) S.1 S.2.1 dX9_load_9 (by decide) ?_
  refine lv_ldc2 (v := (11 : Int64)) S.1 S.2.1 S.2.2.2.1 (S.2.2.2.2 _ (List.mem_of_getElem? (i := 1) rfl)) dX9_load_10 ?_
  refine s_callS (As := [.long (10 : Int64), .long (0 : Int64), .long (11 : Int64)]) (rest := []) S hX G (k_X9_in l E (10 : Int64) (0 : Int64) (11 : Int64)) (va_cwS (bytes := cX9_in) (maxL := 6) (ret := (some .boolean)) 3 S.2.2.2.2 gX9_load_X9_in rfl rfl rfl (by decide +kernel) ⟨Nat.le_of_ble_eq_true rfl, Nat.le_of_ble_eq_true rfl⟩) rfl hl.1 rfl (Nat.le_of_ble_eq_true rfl) ⟨Nat.zero_le _, Nat.zero_le _⟩ dX9_load_13 (fun v I1 L1 H locs hR G => ?_)
  obtain ⟨hv, hI, hL⟩ := hR
  subst hv
  have G : GS E I L sg H locs := G.same hI hL
  refine W.eq (g2 := F0 mg 16 ls [.int (if ¬ (10 : Int64) < (0 : Int64) ∧ ¬ (11 : Int64) < (10 : Int64) then 1 else 0)]) rfl ?_
  refine s_if_ne_b (P := ¬ (10 : Int64) < (0 : Int64) ∧ ¬ (11 : Int64) < (10 : Int64)) (tgt := 22) S dX9_load_16 (by decide) (fun _ => ?_) (fun h => absurd (by decide) h)
  refine lv_aload_n S.1 S.2.1 dX9_load_22 rfl (lv_at hl 0 rfl) ?_
  refine s_get S hX G (i := 161) (kd := 9) (a := (I 161)) (v := .ref (E.2.2.2 162)) (C := RX9) (T := TX9) (N := 13) 0 (rfl : sh 161 = 9) rfl rfl rfl (by decide) rfl (fun _ h => (List.mem_cons_of_mem _ (List.mem_append_right _ h))) (by decide) (List.mem_of_getElem? (i := 3) rfl) (fun _ h => h) dX9_load_23 ?_
  refine lv_iload_n S.1 S.2.1 dX9_load_26 rfl (lv_at hl 1 rfl) ?_
  refine s_callS (As := [.int (1 : Int32)]) (rest := [.ref (E.2.2.2 162)]) S hX G (k_X9_loadAt_1 l E) (va_cwS (bytes := cX9_loadAt) (maxL := 1) (ret := (some .int)) 1 S.2.2.2.2 gX9_load_X9_loadAt rfl rfl rfl (by decide +kernel) ⟨Nat.le_of_ble_eq_true rfl, Nat.le_of_ble_eq_true rfl⟩) rfl hl.1 rfl (Nat.le_of_ble_eq_true rfl) ⟨Nat.zero_le _, Nat.zero_le _⟩ dX9_load_27 (fun v I1 L1 H locs hR G => ?_)
  obtain ⟨hv, hI, hL⟩ := hR
  subst hv
  have G : GS E I L sg H locs := G.same hI hL
  refine W.eq (g2 := F0 mg 30 ls [.int (70 : Int32), .ref (E.2.2.2 162)]) rfl ?_
  refine lv_iload_n S.1 S.2.1 dX9_load_30 rfl (lv_at hl 2 rfl) ?_
  refine lv_bipush (v := (11 : Int32)) S.1 S.2.1 dX9_load_31 (by decide) ?_
  refine lv_icmp_ne (tgt := 41) S.1 S.2.1 dX9_load_33 (by decide) (fun _ => ?_) (fun h => absurd h (by decide))
  refine lv_iload_n S.1 S.2.1 dX9_load_41 rfl (lv_at hl 2 rfl) ?_
  refine s_iadd (v := (80 : Int32)) S dX9_load_42 (by decide) ?_
  refine s_iald S hX G (i := 162) (kd := 284) (n := 270) (a := d) (x := (d 80)) (rfl : sh 162 = 284) e_d rfl (by decide) (by unfold vp_in; decide) (congrArg d (by decide)) dX9_load_43 ?_
  refine lv_istore_n (lv' := [(3, .int (d 80)), (0, .ref (E.2.2.2 161)), (1, .int (1 : Int32)), (2, .int (10 : Int32))]) S.1 S.2.1 dX9_load_44 rfl hl (by decide) rfl (fun ls hl => ?_)
  refine lv_iload_n S.1 S.2.1 dX9_load_45 rfl (lv_at hl 3 rfl) ?_
  refine lv_bipush (v := (9 : Int32)) S.1 S.2.1 dX9_load_46 (by decide) ?_
  refine lv_icmp_ne (tgt := 62) S.1 S.2.1 dX9_load_48 (by decide) (fun _ => ?_) (fun h => absurd h (by decide))
  refine lv_iload_n S.1 S.2.1 dX9_load_62 rfl (lv_at hl 3 rfl) ?_
  refine lv_bipush (v := (10 : Int32)) S.1 S.2.1 dX9_load_63 (by decide) ?_
  refine lv_icmp_ne (tgt := 76) S.1 S.2.1 dX9_load_65 (by decide) (fun h => absurd (by decide) h) (fun _ => ?_)
  refine lv_aload_n S.1 S.2.1 dX9_load_68 rfl (lv_at hl 1 rfl) ?_
  refine lv_iload_n S.1 S.2.1 dX9_load_69 rfl (lv_at hl 2 rfl) ?_
  refine s_callV (C := RX9) (As := [.int (1 : Int32)]) (rest := []) (i := 161) (kd := 9) S hX G (k_X9_latched_1 l E d e_d) (cwV (bytes := cX9_latched) (maxL := 4) (ret := (some .int)) 1 S.2.2.2.2 gX9_load_X9_latched rfl rfl rfl (by decide +kernel) ⟨Nat.le_of_ble_eq_true rfl, Nat.le_of_ble_eq_true rfl⟩) (rfl : sh 161 = 9) rfl rfl rfl (by decide) rfl hl.1 rfl (Nat.le_of_ble_eq_true rfl) ⟨Nat.zero_le _, Nat.zero_le _⟩ dX9_load_70 (fun v I1 L1 H locs hR G => ?_)
  obtain ⟨hv, hI, hL⟩ := hR
  subst hv
  have G : GS E I L sg H locs := G.same hI hL
  refine W.eq (g2 := F0 mg 73 ls [.int (ltdF d 70)]) rfl ?_
  refine lv_topi (fun y_1 ey_1 => ?_)
  refine lv_goto (tgt := 77) S.1 S.2.1 dX9_load_73 (by decide) ?_
  refine s_iret (x := y_1) S G hr hlk dX9_load_77 ?_
  exact ⟨(congrArg (fun q : Int32 => some (Value.int q)) (show y_1 = (ltdF d 70) by subst ey_1; (first | (simp []; done) | (clear S hX G hl; grind [])))), rfl, rfl⟩
set_option maxHeartbeats 4000000 in
set_option maxRecDepth 100000 in
theorem k_X9_load_1_11 (l : Launch) (E : Ev) {I : SI} {L : SL} (d : Nat → Int32) (e_d : I (162) = d) : CS l yX9_load wsX9_load ({ frames := 2, cells := 0, slots := 0, locals := 45 }) E [.ref (E.2.2.2 161), .int (1 : Int32), .int (11 : Int32)] I L (fun vv I' L' => vv = some (.int (d 80)) ∧ I' = I ∧ L' = L) := by
  refine CS.of (cc := cX9_load) (maxL := 4) (ret := (some .int)) (by decide) rfl (Nat.le_of_ble_eq_true rfl) ?_
  intro pg en sg mg below meth cg ls S hr hlk hX G hl
  have S : CallFix pg mg cg cX9_load 4 sg _ wsX9_load RX9 := S
  have hl : lv_has ls 4 [(0, .ref (E.2.2.2 161)), (1, .int (1 : Int32)), (2, .int (11 : Int32))] := hl
  refine lv_iload_n S.1 S.2.1 dX9_load_0 rfl (lv_at hl 1 rfl) ?_
  refine s_callS (As := [.int (1 : Int32)]) (rest := []) S hX G (k_X9_isLoad l E (1 : Int32)) (va_cwS (bytes := cX9_isLoad) (maxL := 1) (ret := (some .boolean)) 1 S.2.2.2.2 gX9_load_X9_isLoad rfl rfl rfl (by decide +kernel) ⟨Nat.le_of_ble_eq_true rfl, Nat.le_of_ble_eq_true rfl⟩) rfl hl.1 rfl (Nat.le_of_ble_eq_true rfl) ⟨Nat.zero_le _, Nat.zero_le _⟩ dX9_load_1 (fun v I1 L1 H locs hR G => ?_)
  obtain ⟨hv, hI, hL⟩ := hR
  subst hv
  have G : GS E I L sg H locs := G.same hI hL
  refine W.eq (g2 := F0 mg 4 ls [.int (if ¬ (1 : Int32) < (0 : Int32) ∧ ¬ (1 : Int32) < (1 : Int32) then 1 else 0)]) rfl ?_
  refine s_if_eq_b (P := ¬ (1 : Int32) < (0 : Int32) ∧ ¬ (1 : Int32) < (1 : Int32)) (tgt := 19) S dX9_load_4 (by decide) (fun h => absurd (by decide) h) (fun _ => ?_)
  refine lv_iload_n S.1 S.2.1 dX9_load_7 rfl (lv_at hl 2 rfl) ?_
  refine lv_i2l (v := (11 : Int64)) S.1 S.2.1 dX9_load_8 (by decide) ?_
  refine lv_lconst (v := (0 : Int64)) S.1 S.2.1 dX9_load_9 (by decide) ?_
  refine lv_ldc2 (v := (11 : Int64)) S.1 S.2.1 S.2.2.2.1 (S.2.2.2.2 _ (List.mem_of_getElem? (i := 1) rfl)) dX9_load_10 ?_
  refine s_callS (As := [.long (11 : Int64), .long (0 : Int64), .long (11 : Int64)]) (rest := []) S hX G (k_X9_in l E (11 : Int64) (0 : Int64) (11 : Int64)) (va_cwS (bytes := cX9_in) (maxL := 6) (ret := (some .boolean)) 3 S.2.2.2.2 gX9_load_X9_in rfl rfl rfl (by decide +kernel) ⟨Nat.le_of_ble_eq_true rfl, Nat.le_of_ble_eq_true rfl⟩) rfl hl.1 rfl (Nat.le_of_ble_eq_true rfl) ⟨Nat.zero_le _, Nat.zero_le _⟩ dX9_load_13 (fun v I1 L1 H locs hR G => ?_)
  obtain ⟨hv, hI, hL⟩ := hR
  subst hv
  have G : GS E I L sg H locs := G.same hI hL
  refine W.eq (g2 := F0 mg 16 ls [.int (if ¬ (11 : Int64) < (0 : Int64) ∧ ¬ (11 : Int64) < (11 : Int64) then 1 else 0)]) rfl ?_
  refine s_if_ne_b (P := ¬ (11 : Int64) < (0 : Int64) ∧ ¬ (11 : Int64) < (11 : Int64)) (tgt := 22) S dX9_load_16 (by decide) (fun _ => ?_) (fun h => absurd (by decide) h)
  refine lv_aload_n S.1 S.2.1 dX9_load_22 rfl (lv_at hl 0 rfl) ?_
  refine s_get S hX G (i := 161) (kd := 9) (a := (I 161)) (v := .ref (E.2.2.2 162)) (C := RX9) (T := TX9) (N := 13) 0 (rfl : sh 161 = 9) rfl rfl rfl (by decide) rfl (fun _ h => (List.mem_cons_of_mem _ (List.mem_append_right _ h))) (by decide) (List.mem_of_getElem? (i := 3) rfl) (fun _ h => h) dX9_load_23 ?_
  refine lv_iload_n S.1 S.2.1 dX9_load_26 rfl (lv_at hl 1 rfl) ?_
  refine s_callS (As := [.int (1 : Int32)]) (rest := [.ref (E.2.2.2 162)]) S hX G (k_X9_loadAt_1 l E) (va_cwS (bytes := cX9_loadAt) (maxL := 1) (ret := (some .int)) 1 S.2.2.2.2 gX9_load_X9_loadAt rfl rfl rfl (by decide +kernel) ⟨Nat.le_of_ble_eq_true rfl, Nat.le_of_ble_eq_true rfl⟩) rfl hl.1 rfl (Nat.le_of_ble_eq_true rfl) ⟨Nat.zero_le _, Nat.zero_le _⟩ dX9_load_27 (fun v I1 L1 H locs hR G => ?_)
  obtain ⟨hv, hI, hL⟩ := hR
  subst hv
  have G : GS E I L sg H locs := G.same hI hL
  refine W.eq (g2 := F0 mg 30 ls [.int (70 : Int32), .ref (E.2.2.2 162)]) rfl ?_
  refine lv_iload_n S.1 S.2.1 dX9_load_30 rfl (lv_at hl 2 rfl) ?_
  refine lv_bipush (v := (11 : Int32)) S.1 S.2.1 dX9_load_31 (by decide) ?_
  refine lv_icmp_ne (tgt := 41) S.1 S.2.1 dX9_load_33 (by decide) (fun h => absurd (by decide) h) (fun _ => ?_)
  refine lv_bipush (v := (10 : Int32)) S.1 S.2.1 dX9_load_36 (by decide) ?_
  refine lv_goto (tgt := 42) S.1 S.2.1 dX9_load_38 (by decide) ?_
  refine s_iadd (v := (80 : Int32)) S dX9_load_42 (by decide) ?_
  refine s_iald S hX G (i := 162) (kd := 284) (n := 270) (a := d) (x := (d 80)) (rfl : sh 162 = 284) e_d rfl (by decide) (by unfold vp_in; decide) (congrArg d (by decide)) dX9_load_43 ?_
  refine lv_istore_n (lv' := [(3, .int (d 80)), (0, .ref (E.2.2.2 161)), (1, .int (1 : Int32)), (2, .int (11 : Int32))]) S.1 S.2.1 dX9_load_44 rfl hl (by decide) rfl (fun ls hl => ?_)
  refine lv_iload_n S.1 S.2.1 dX9_load_45 rfl (lv_at hl 3 rfl) ?_
  refine lv_bipush (v := (9 : Int32)) S.1 S.2.1 dX9_load_46 (by decide) ?_
  refine lv_icmp_ne (tgt := 62) S.1 S.2.1 dX9_load_48 (by decide) (fun _ => ?_) (fun h => absurd h (by decide))
  refine lv_iload_n S.1 S.2.1 dX9_load_62 rfl (lv_at hl 3 rfl) ?_
  refine lv_bipush (v := (10 : Int32)) S.1 S.2.1 dX9_load_63 (by decide) ?_
  refine lv_icmp_ne (tgt := 76) S.1 S.2.1 dX9_load_65 (by decide) (fun _ => ?_) (fun h => absurd h (by decide))
  refine lv_iload_n S.1 S.2.1 dX9_load_76 rfl (lv_at hl 0 rfl) ?_
  refine s_iret (x := (d 80)) S G hr hlk dX9_load_77 ?_
  exact ⟨rfl, rfl, rfl⟩
set_option maxHeartbeats 4000000 in
set_option maxRecDepth 100000 in
theorem k_X9_fault_1_0_0 (l : Launch) (E : Ev) {I : SI} {L : SL} (d : Nat → Int32) (e_d : I (162) = d) : CS l yX9_fault wsX9_fault ({ frames := 2, cells := 0, slots := 0, locals := 45 }) E [.ref (E.2.2.2 161), .int (1 : Int32), .int (0 : Int32), .int (0 : Int32)] I L (fun vv I' L' => vv = some (.int (if ¬ d 82 = -1 then 1 else 0)) ∧ I' = I ∧ L' = L) := by
  refine CS.of (cc := cX9_fault) (maxL := 4) (ret := (some .int)) (by decide) rfl (Nat.le_of_ble_eq_true rfl) ?_
  intro pg en sg mg below meth cg ls S hr hlk hX G hl
  have S : CallFix pg mg cg cX9_fault 4 sg _ wsX9_fault RX9 := S
  have hl : lv_has ls 4 [(0, .ref (E.2.2.2 161)), (1, .int (1 : Int32)), (2, .int (0 : Int32)), (3, .int (0 : Int32))] := hl
  refine lv_iload_n S.1 S.2.1 dX9_fault_0 rfl (lv_at hl 1 rfl) ?_
  refine s_callS (As := [.int (1 : Int32)]) (rest := []) S hX G (k_X9_isLoad l E (1 : Int32)) (va_cwS (bytes := cX9_isLoad) (maxL := 1) (ret := (some .boolean)) 1 S.2.2.2.2 gX9_fault_X9_isLoad rfl rfl rfl (by decide +kernel) ⟨Nat.le_of_ble_eq_true rfl, Nat.le_of_ble_eq_true rfl⟩) rfl hl.1 rfl (Nat.le_of_ble_eq_true rfl) ⟨Nat.zero_le _, Nat.zero_le _⟩ dX9_fault_1 (fun v I1 L1 H locs hR G => ?_)
  obtain ⟨hv, hI, hL⟩ := hR
  subst hv
  have G : GS E I L sg H locs := G.same hI hL
  refine W.eq (g2 := F0 mg 4 ls [.int (if ¬ (1 : Int32) < (0 : Int32) ∧ ¬ (1 : Int32) < (1 : Int32) then 1 else 0)]) rfl ?_
  refine s_if_eq_b (P := ¬ (1 : Int32) < (0 : Int32) ∧ ¬ (1 : Int32) < (1 : Int32)) (tgt := 31) S dX9_fault_4 (by decide) (fun h => absurd (by decide) h) (fun _ => ?_)
  refine lv_iload_n S.1 S.2.1 dX9_fault_7 rfl (lv_at hl 2 rfl) ?_
  refine lv_i2l (v := (0 : Int64)) S.1 S.2.1 dX9_fault_8 (by decide) ?_
  refine lv_lconst (v := (0 : Int64)) S.1 S.2.1 dX9_fault_9 (by decide) ?_
  refine lv_ldc2 (v := (2 : Int64)) S.1 S.2.1 S.2.2.2.1 (S.2.2.2.2 _ (List.mem_of_getElem? (i := 1) rfl)) dX9_fault_10 ?_
  refine s_callS (As := [.long (0 : Int64), .long (0 : Int64), .long (2 : Int64)]) (rest := []) S hX G (k_X9_in l E (0 : Int64) (0 : Int64) (2 : Int64)) (va_cwS (bytes := cX9_in) (maxL := 6) (ret := (some .boolean)) 3 S.2.2.2.2 gX9_fault_X9_in rfl rfl rfl (by decide +kernel) ⟨Nat.le_of_ble_eq_true rfl, Nat.le_of_ble_eq_true rfl⟩) rfl hl.1 rfl (Nat.le_of_ble_eq_true rfl) ⟨Nat.zero_le _, Nat.zero_le _⟩ dX9_fault_13 (fun v I1 L1 H locs hR G => ?_)
  obtain ⟨hv, hI, hL⟩ := hR
  subst hv
  have G : GS E I L sg H locs := G.same hI hL
  refine W.eq (g2 := F0 mg 16 ls [.int (if ¬ (0 : Int64) < (0 : Int64) ∧ ¬ (2 : Int64) < (0 : Int64) then 1 else 0)]) rfl ?_
  refine s_if_eq_b (P := ¬ (0 : Int64) < (0 : Int64) ∧ ¬ (2 : Int64) < (0 : Int64)) (tgt := 31) S dX9_fault_16 (by decide) (fun h => absurd (by decide) h) (fun _ => ?_)
  refine lv_iload_n S.1 S.2.1 dX9_fault_19 rfl (lv_at hl 3 rfl) ?_
  refine lv_i2l (v := (0 : Int64)) S.1 S.2.1 dX9_fault_20 (by decide) ?_
  refine lv_lconst (v := (0 : Int64)) S.1 S.2.1 dX9_fault_21 (by decide) ?_
  refine lv_ldc2 (v := (4 : Int64)) S.1 S.2.1 S.2.2.2.1 (S.2.2.2.2 _ (List.mem_of_getElem? (i := 2) rfl)) dX9_fault_22 ?_
  refine s_callS (As := [.long (0 : Int64), .long (0 : Int64), .long (4 : Int64)]) (rest := []) S hX G (k_X9_in l E (0 : Int64) (0 : Int64) (4 : Int64)) (va_cwS (bytes := cX9_in) (maxL := 6) (ret := (some .boolean)) 3 S.2.2.2.2 gX9_fault_X9_in rfl rfl rfl (by decide +kernel) ⟨Nat.le_of_ble_eq_true rfl, Nat.le_of_ble_eq_true rfl⟩) rfl hl.1 rfl (Nat.le_of_ble_eq_true rfl) ⟨Nat.zero_le _, Nat.zero_le _⟩ dX9_fault_25 (fun v I1 L1 H locs hR G => ?_)
  obtain ⟨hv, hI, hL⟩ := hR
  subst hv
  have G : GS E I L sg H locs := G.same hI hL
  refine W.eq (g2 := F0 mg 28 ls [.int (if ¬ (0 : Int64) < (0 : Int64) ∧ ¬ (4 : Int64) < (0 : Int64) then 1 else 0)]) rfl ?_
  refine s_if_ne_b (P := ¬ (0 : Int64) < (0 : Int64) ∧ ¬ (4 : Int64) < (0 : Int64)) (tgt := 34) S dX9_fault_28 (by decide) (fun _ => ?_) (fun h => absurd (by decide) h)
  refine lv_iload_n S.1 S.2.1 dX9_fault_34 rfl (lv_at hl 3 rfl) ?_
  refine lv_iconst (v := (4 : Int32)) S.1 S.2.1 dX9_fault_35 (by decide) ?_
  refine lv_icmp_ne (tgt := 54) S.1 S.2.1 dX9_fault_36 (by decide) (fun _ => ?_) (fun h => absurd h (by decide))
  refine lv_aload_n S.1 S.2.1 dX9_fault_54 rfl (lv_at hl 0 rfl) ?_
  refine lv_iload_n S.1 S.2.1 dX9_fault_55 rfl (lv_at hl 1 rfl) ?_
  refine lv_iload_n S.1 S.2.1 dX9_fault_56 rfl (lv_at hl 2 rfl) ?_
  refine s_callV (C := RX9) (As := [.int (1 : Int32), .int (0 : Int32)]) (rest := []) (i := 161) (kd := 9) S hX G (k_X9_isLatched_1_0 l E d e_d) (cwV (bytes := cX9_isLatched) (maxL := 3) (ret := (some .boolean)) 2 S.2.2.2.2 gX9_fault_X9_isLatched rfl rfl rfl (by decide +kernel) ⟨Nat.le_of_ble_eq_true rfl, Nat.le_of_ble_eq_true rfl⟩) (rfl : sh 161 = 9) rfl rfl rfl (by decide) rfl hl.1 rfl (Nat.le_of_ble_eq_true rfl) ⟨Nat.zero_le _, Nat.zero_le _⟩ dX9_fault_57 (fun v I1 L1 H locs hR G => ?_)
  obtain ⟨hv, hI, hL⟩ := hR
  subst hv
  have G : GS E I L sg H locs := G.same hI hL
  refine W.eq (g2 := F0 mg 60 ls [.int (if ¬ d 82 = -1 then 1 else 0)]) rfl ?_
  refine s_if_ne_b (P := ¬ d 82 = -1) (tgt := 74) S dX9_fault_60 (by decide) (fun c_1 => ?_) (fun c_1 => ?_)
  · refine lv_iload_n S.1 S.2.1 dX9_fault_74 rfl (lv_at hl 3 rfl) ?_
    refine lv_if_ne (tgt := 82) S.1 S.2.1 dX9_fault_75 (by decide) (fun h => absurd (by decide) h) (fun _ => ?_)
    refine lv_iconst (v := (1 : Int32)) S.1 S.2.1 dX9_fault_78 (by decide) ?_
    refine lv_goto (tgt := 116) S.1 S.2.1 dX9_fault_79 (by decide) ?_
    refine s_iret (x := (1 : Int32)) S G hr hlk dX9_fault_116 ?_
    exact ⟨(congrArg (fun q : Int32 => some (Value.int q)) (show (1 : Int32) = (if ¬ d 82 = -1 then 1 else 0) by first | exact (if_pos c_1).symm | exact (if_neg c_1).symm)), rfl, rfl⟩
  · refine lv_iload_n S.1 S.2.1 dX9_fault_63 rfl (lv_at hl 3 rfl) ?_
    refine lv_if_ne (tgt := 71) S.1 S.2.1 dX9_fault_64 (by decide) (fun h => absurd (by decide) h) (fun _ => ?_)
    refine lv_iconst (v := (0 : Int32)) S.1 S.2.1 dX9_fault_67 (by decide) ?_
    refine lv_goto (tgt := 73) S.1 S.2.1 dX9_fault_68 (by decide) ?_
    refine s_iret (x := (0 : Int32)) S G hr hlk dX9_fault_73 ?_
    exact ⟨(congrArg (fun q : Int32 => some (Value.int q)) (show (0 : Int32) = (if ¬ d 82 = -1 then 1 else 0) by first | exact (if_pos c_1).symm | exact (if_neg c_1).symm)), rfl, rfl⟩
set_option maxHeartbeats 4000000 in
set_option maxRecDepth 100000 in
theorem k_X9_fault_1_0_1 (l : Launch) (E : Ev) {I : SI} {L : SL} (d : Nat → Int32) (e_d : I (162) = d) : CS l yX9_fault wsX9_fault ({ frames := 2, cells := 0, slots := 0, locals := 45 }) E [.ref (E.2.2.2 161), .int (1 : Int32), .int (0 : Int32), .int (1 : Int32)] I L (fun vv I' L' => vv = some (.int (if ¬ d 82 = -1 then d 82 else (-2000000004 : Int32))) ∧ I' = I ∧ L' = L) := by
  refine CS.of (cc := cX9_fault) (maxL := 4) (ret := (some .int)) (by decide) rfl (Nat.le_of_ble_eq_true rfl) ?_
  intro pg en sg mg below meth cg ls S hr hlk hX G hl
  have S : CallFix pg mg cg cX9_fault 4 sg _ wsX9_fault RX9 := S
  have hl : lv_has ls 4 [(0, .ref (E.2.2.2 161)), (1, .int (1 : Int32)), (2, .int (0 : Int32)), (3, .int (1 : Int32))] := hl
  refine lv_iload_n S.1 S.2.1 dX9_fault_0 rfl (lv_at hl 1 rfl) ?_
  refine s_callS (As := [.int (1 : Int32)]) (rest := []) S hX G (k_X9_isLoad l E (1 : Int32)) (va_cwS (bytes := cX9_isLoad) (maxL := 1) (ret := (some .boolean)) 1 S.2.2.2.2 gX9_fault_X9_isLoad rfl rfl rfl (by decide +kernel) ⟨Nat.le_of_ble_eq_true rfl, Nat.le_of_ble_eq_true rfl⟩) rfl hl.1 rfl (Nat.le_of_ble_eq_true rfl) ⟨Nat.zero_le _, Nat.zero_le _⟩ dX9_fault_1 (fun v I1 L1 H locs hR G => ?_)
  obtain ⟨hv, hI, hL⟩ := hR
  subst hv
  have G : GS E I L sg H locs := G.same hI hL
  refine W.eq (g2 := F0 mg 4 ls [.int (if ¬ (1 : Int32) < (0 : Int32) ∧ ¬ (1 : Int32) < (1 : Int32) then 1 else 0)]) rfl ?_
  refine s_if_eq_b (P := ¬ (1 : Int32) < (0 : Int32) ∧ ¬ (1 : Int32) < (1 : Int32)) (tgt := 31) S dX9_fault_4 (by decide) (fun h => absurd (by decide) h) (fun _ => ?_)
  refine lv_iload_n S.1 S.2.1 dX9_fault_7 rfl (lv_at hl 2 rfl) ?_
  refine lv_i2l (v := (0 : Int64)) S.1 S.2.1 dX9_fault_8 (by decide) ?_
  refine lv_lconst (v := (0 : Int64)) S.1 S.2.1 dX9_fault_9 (by decide) ?_
  refine lv_ldc2 (v := (2 : Int64)) S.1 S.2.1 S.2.2.2.1 (S.2.2.2.2 _ (List.mem_of_getElem? (i := 1) rfl)) dX9_fault_10 ?_
  refine s_callS (As := [.long (0 : Int64), .long (0 : Int64), .long (2 : Int64)]) (rest := []) S hX G (k_X9_in l E (0 : Int64) (0 : Int64) (2 : Int64)) (va_cwS (bytes := cX9_in) (maxL := 6) (ret := (some .boolean)) 3 S.2.2.2.2 gX9_fault_X9_in rfl rfl rfl (by decide +kernel) ⟨Nat.le_of_ble_eq_true rfl, Nat.le_of_ble_eq_true rfl⟩) rfl hl.1 rfl (Nat.le_of_ble_eq_true rfl) ⟨Nat.zero_le _, Nat.zero_le _⟩ dX9_fault_13 (fun v I1 L1 H locs hR G => ?_)
  obtain ⟨hv, hI, hL⟩ := hR
  subst hv
  have G : GS E I L sg H locs := G.same hI hL
  refine W.eq (g2 := F0 mg 16 ls [.int (if ¬ (0 : Int64) < (0 : Int64) ∧ ¬ (2 : Int64) < (0 : Int64) then 1 else 0)]) rfl ?_
  refine s_if_eq_b (P := ¬ (0 : Int64) < (0 : Int64) ∧ ¬ (2 : Int64) < (0 : Int64)) (tgt := 31) S dX9_fault_16 (by decide) (fun h => absurd (by decide) h) (fun _ => ?_)
  refine lv_iload_n S.1 S.2.1 dX9_fault_19 rfl (lv_at hl 3 rfl) ?_
  refine lv_i2l (v := (1 : Int64)) S.1 S.2.1 dX9_fault_20 (by decide) ?_
  refine lv_lconst (v := (0 : Int64)) S.1 S.2.1 dX9_fault_21 (by decide) ?_
  refine lv_ldc2 (v := (4 : Int64)) S.1 S.2.1 S.2.2.2.1 (S.2.2.2.2 _ (List.mem_of_getElem? (i := 2) rfl)) dX9_fault_22 ?_
  refine s_callS (As := [.long (1 : Int64), .long (0 : Int64), .long (4 : Int64)]) (rest := []) S hX G (k_X9_in l E (1 : Int64) (0 : Int64) (4 : Int64)) (va_cwS (bytes := cX9_in) (maxL := 6) (ret := (some .boolean)) 3 S.2.2.2.2 gX9_fault_X9_in rfl rfl rfl (by decide +kernel) ⟨Nat.le_of_ble_eq_true rfl, Nat.le_of_ble_eq_true rfl⟩) rfl hl.1 rfl (Nat.le_of_ble_eq_true rfl) ⟨Nat.zero_le _, Nat.zero_le _⟩ dX9_fault_25 (fun v I1 L1 H locs hR G => ?_)
  obtain ⟨hv, hI, hL⟩ := hR
  subst hv
  have G : GS E I L sg H locs := G.same hI hL
  refine W.eq (g2 := F0 mg 28 ls [.int (if ¬ (1 : Int64) < (0 : Int64) ∧ ¬ (4 : Int64) < (1 : Int64) then 1 else 0)]) rfl ?_
  refine s_if_ne_b (P := ¬ (1 : Int64) < (0 : Int64) ∧ ¬ (4 : Int64) < (1 : Int64)) (tgt := 34) S dX9_fault_28 (by decide) (fun _ => ?_) (fun h => absurd (by decide) h)
  refine lv_iload_n S.1 S.2.1 dX9_fault_34 rfl (lv_at hl 3 rfl) ?_
  refine lv_iconst (v := (4 : Int32)) S.1 S.2.1 dX9_fault_35 (by decide) ?_
  refine lv_icmp_ne (tgt := 54) S.1 S.2.1 dX9_fault_36 (by decide) (fun _ => ?_) (fun h => absurd h (by decide))
  refine lv_aload_n S.1 S.2.1 dX9_fault_54 rfl (lv_at hl 0 rfl) ?_
  refine lv_iload_n S.1 S.2.1 dX9_fault_55 rfl (lv_at hl 1 rfl) ?_
  refine lv_iload_n S.1 S.2.1 dX9_fault_56 rfl (lv_at hl 2 rfl) ?_
  refine s_callV (C := RX9) (As := [.int (1 : Int32), .int (0 : Int32)]) (rest := []) (i := 161) (kd := 9) S hX G (k_X9_isLatched_1_0 l E d e_d) (cwV (bytes := cX9_isLatched) (maxL := 3) (ret := (some .boolean)) 2 S.2.2.2.2 gX9_fault_X9_isLatched rfl rfl rfl (by decide +kernel) ⟨Nat.le_of_ble_eq_true rfl, Nat.le_of_ble_eq_true rfl⟩) (rfl : sh 161 = 9) rfl rfl rfl (by decide) rfl hl.1 rfl (Nat.le_of_ble_eq_true rfl) ⟨Nat.zero_le _, Nat.zero_le _⟩ dX9_fault_57 (fun v I1 L1 H locs hR G => ?_)
  obtain ⟨hv, hI, hL⟩ := hR
  subst hv
  have G : GS E I L sg H locs := G.same hI hL
  refine W.eq (g2 := F0 mg 60 ls [.int (if ¬ d 82 = -1 then 1 else 0)]) rfl ?_
  refine s_if_ne_b (P := ¬ d 82 = -1) (tgt := 74) S dX9_fault_60 (by decide) (fun c_1 => ?_) (fun c_1 => ?_)
  · refine lv_iload_n S.1 S.2.1 dX9_fault_74 rfl (lv_at hl 3 rfl) ?_
    refine lv_if_ne (tgt := 82) S.1 S.2.1 dX9_fault_75 (by decide) (fun _ => ?_) (fun h => absurd h (by decide))
    refine lv_iload_n S.1 S.2.1 dX9_fault_82 rfl (lv_at hl 3 rfl) ?_
    refine lv_iconst (v := (3 : Int32)) S.1 S.2.1 dX9_fault_83 (by decide) ?_
    refine lv_icmp_ne (tgt := 96) S.1 S.2.1 dX9_fault_84 (by decide) (fun _ => ?_) (fun h => absurd h (by decide))
    refine lv_aload_n S.1 S.2.1 dX9_fault_96 rfl (lv_at hl 0 rfl) ?_
    refine s_get S hX G (i := 161) (kd := 9) (a := (I 161)) (v := .ref (E.2.2.2 162)) (C := RX9) (T := TX9) (N := 13) 0 (rfl : sh 161 = 9) rfl rfl rfl (by decide) rfl (fun _ h => (List.mem_cons_of_mem _ (List.mem_append_right _ h))) (by decide) (List.mem_of_getElem? (i := 5) rfl) (fun _ h => h) dX9_fault_97 ?_
    refine lv_iload_n S.1 S.2.1 dX9_fault_100 rfl (lv_at hl 1 rfl) ?_
    refine s_callS (As := [.int (1 : Int32)]) (rest := [.ref (E.2.2.2 162)]) S hX G (k_X9_loadAt_1 l E) (va_cwS (bytes := cX9_loadAt) (maxL := 1) (ret := (some .int)) 1 S.2.2.2.2 gX9_fault_X9_loadAt rfl rfl rfl (by decide +kernel) ⟨Nat.le_of_ble_eq_true rfl, Nat.le_of_ble_eq_true rfl⟩) rfl hl.1 rfl (Nat.le_of_ble_eq_true rfl) ⟨Nat.zero_le _, Nat.zero_le _⟩ dX9_fault_101 (fun v I1 L1 H locs hR G => ?_)
    obtain ⟨hv, hI, hL⟩ := hR
    subst hv
    have G : GS E I L sg H locs := G.same hI hL
    refine W.eq (g2 := F0 mg 104 ls [.int (70 : Int32), .ref (E.2.2.2 162)]) rfl ?_
    refine lv_bipush (v := (12 : Int32)) S.1 S.2.1 dX9_fault_104 (by decide) ?_
    refine s_iadd (v := (82 : Int32)) S dX9_fault_106 (by decide) ?_
    refine lv_iconst (v := (3 : Int32)) S.1 S.2.1 dX9_fault_107 (by decide) ?_
    refine lv_iload_n S.1 S.2.1 dX9_fault_108 rfl (lv_at hl 2 rfl) ?_
    refine s_imul (v := (0 : Int32)) S dX9_fault_109 (by decide) ?_
    refine s_iadd (v := (82 : Int32)) S dX9_fault_110 (by decide) ?_
    refine lv_iload_n S.1 S.2.1 dX9_fault_111 rfl (lv_at hl 3 rfl) ?_
    refine s_iadd (v := (83 : Int32)) S dX9_fault_112 (by decide) ?_
    refine lv_iconst (v := (1 : Int32)) S.1 S.2.1 dX9_fault_113 (by decide) ?_
    refine s_isub (v := (82 : Int32)) S dX9_fault_114 (by decide) ?_
    refine s_iald S hX G (i := 162) (kd := 284) (n := 270) (a := d) (x := (d 82)) (rfl : sh 162 = 284) e_d rfl (by decide) (by unfold vp_in; decide) (congrArg d (by decide)) dX9_fault_115 ?_
    refine s_iret (x := (d 82)) S G hr hlk dX9_fault_116 ?_
    exact ⟨(congrArg (fun q : Int32 => some (Value.int q)) (show (d 82) = (if ¬ d 82 = -1 then d 82 else (-2000000004 : Int32)) by first | exact (if_pos c_1).symm | exact (if_neg c_1).symm)), rfl, rfl⟩
  · refine lv_iload_n S.1 S.2.1 dX9_fault_63 rfl (lv_at hl 3 rfl) ?_
    refine lv_if_ne (tgt := 71) S.1 S.2.1 dX9_fault_64 (by decide) (fun _ => ?_) (fun h => absurd h (by decide))
    refine lv_ldc (v := (-2000000004 : Int32)) S.1 S.2.1 S.2.2.2.1 (S.2.2.2.2 _ (List.mem_of_getElem? (i := 4) rfl)) dX9_fault_71 ?_
    refine s_iret (x := (-2000000004 : Int32)) S G hr hlk dX9_fault_73 ?_
    exact ⟨(congrArg (fun q : Int32 => some (Value.int q)) (show (-2000000004 : Int32) = (if ¬ d 82 = -1 then d 82 else (-2000000004 : Int32)) by first | exact (if_pos c_1).symm | exact (if_neg c_1).symm)), rfl, rfl⟩
set_option maxHeartbeats 4000000 in
set_option maxRecDepth 100000 in
theorem k_X9_fault_1_0_2 (l : Launch) (E : Ev) {I : SI} {L : SL} (d : Nat → Int32) (e_d : I (162) = d) : CS l yX9_fault wsX9_fault ({ frames := 2, cells := 0, slots := 0, locals := 45 }) E [.ref (E.2.2.2 161), .int (1 : Int32), .int (0 : Int32), .int (2 : Int32)] I L (fun vv I' L' => vv = some (.int (if ¬ d 82 = -1 then d 83 else (-2000000004 : Int32))) ∧ I' = I ∧ L' = L) := by
  refine CS.of (cc := cX9_fault) (maxL := 4) (ret := (some .int)) (by decide) rfl (Nat.le_of_ble_eq_true rfl) ?_
  intro pg en sg mg below meth cg ls S hr hlk hX G hl
  have S : CallFix pg mg cg cX9_fault 4 sg _ wsX9_fault RX9 := S
  have hl : lv_has ls 4 [(0, .ref (E.2.2.2 161)), (1, .int (1 : Int32)), (2, .int (0 : Int32)), (3, .int (2 : Int32))] := hl
  refine lv_iload_n S.1 S.2.1 dX9_fault_0 rfl (lv_at hl 1 rfl) ?_
  refine s_callS (As := [.int (1 : Int32)]) (rest := []) S hX G (k_X9_isLoad l E (1 : Int32)) (va_cwS (bytes := cX9_isLoad) (maxL := 1) (ret := (some .boolean)) 1 S.2.2.2.2 gX9_fault_X9_isLoad rfl rfl rfl (by decide +kernel) ⟨Nat.le_of_ble_eq_true rfl, Nat.le_of_ble_eq_true rfl⟩) rfl hl.1 rfl (Nat.le_of_ble_eq_true rfl) ⟨Nat.zero_le _, Nat.zero_le _⟩ dX9_fault_1 (fun v I1 L1 H locs hR G => ?_)
  obtain ⟨hv, hI, hL⟩ := hR
  subst hv
  have G : GS E I L sg H locs := G.same hI hL
  refine W.eq (g2 := F0 mg 4 ls [.int (if ¬ (1 : Int32) < (0 : Int32) ∧ ¬ (1 : Int32) < (1 : Int32) then 1 else 0)]) rfl ?_
  refine s_if_eq_b (P := ¬ (1 : Int32) < (0 : Int32) ∧ ¬ (1 : Int32) < (1 : Int32)) (tgt := 31) S dX9_fault_4 (by decide) (fun h => absurd (by decide) h) (fun _ => ?_)
  refine lv_iload_n S.1 S.2.1 dX9_fault_7 rfl (lv_at hl 2 rfl) ?_
  refine lv_i2l (v := (0 : Int64)) S.1 S.2.1 dX9_fault_8 (by decide) ?_
  refine lv_lconst (v := (0 : Int64)) S.1 S.2.1 dX9_fault_9 (by decide) ?_
  refine lv_ldc2 (v := (2 : Int64)) S.1 S.2.1 S.2.2.2.1 (S.2.2.2.2 _ (List.mem_of_getElem? (i := 1) rfl)) dX9_fault_10 ?_
  refine s_callS (As := [.long (0 : Int64), .long (0 : Int64), .long (2 : Int64)]) (rest := []) S hX G (k_X9_in l E (0 : Int64) (0 : Int64) (2 : Int64)) (va_cwS (bytes := cX9_in) (maxL := 6) (ret := (some .boolean)) 3 S.2.2.2.2 gX9_fault_X9_in rfl rfl rfl (by decide +kernel) ⟨Nat.le_of_ble_eq_true rfl, Nat.le_of_ble_eq_true rfl⟩) rfl hl.1 rfl (Nat.le_of_ble_eq_true rfl) ⟨Nat.zero_le _, Nat.zero_le _⟩ dX9_fault_13 (fun v I1 L1 H locs hR G => ?_)
  obtain ⟨hv, hI, hL⟩ := hR
  subst hv
  have G : GS E I L sg H locs := G.same hI hL
  refine W.eq (g2 := F0 mg 16 ls [.int (if ¬ (0 : Int64) < (0 : Int64) ∧ ¬ (2 : Int64) < (0 : Int64) then 1 else 0)]) rfl ?_
  refine s_if_eq_b (P := ¬ (0 : Int64) < (0 : Int64) ∧ ¬ (2 : Int64) < (0 : Int64)) (tgt := 31) S dX9_fault_16 (by decide) (fun h => absurd (by decide) h) (fun _ => ?_)
  refine lv_iload_n S.1 S.2.1 dX9_fault_19 rfl (lv_at hl 3 rfl) ?_
  refine lv_i2l (v := (2 : Int64)) S.1 S.2.1 dX9_fault_20 (by decide) ?_
  refine lv_lconst (v := (0 : Int64)) S.1 S.2.1 dX9_fault_21 (by decide) ?_
  refine lv_ldc2 (v := (4 : Int64)) S.1 S.2.1 S.2.2.2.1 (S.2.2.2.2 _ (List.mem_of_getElem? (i := 2) rfl)) dX9_fault_22 ?_
  refine s_callS (As := [.long (2 : Int64), .long (0 : Int64), .long (4 : Int64)]) (rest := []) S hX G (k_X9_in l E (2 : Int64) (0 : Int64) (4 : Int64)) (va_cwS (bytes := cX9_in) (maxL := 6) (ret := (some .boolean)) 3 S.2.2.2.2 gX9_fault_X9_in rfl rfl rfl (by decide +kernel) ⟨Nat.le_of_ble_eq_true rfl, Nat.le_of_ble_eq_true rfl⟩) rfl hl.1 rfl (Nat.le_of_ble_eq_true rfl) ⟨Nat.zero_le _, Nat.zero_le _⟩ dX9_fault_25 (fun v I1 L1 H locs hR G => ?_)
  obtain ⟨hv, hI, hL⟩ := hR
  subst hv
  have G : GS E I L sg H locs := G.same hI hL
  refine W.eq (g2 := F0 mg 28 ls [.int (if ¬ (2 : Int64) < (0 : Int64) ∧ ¬ (4 : Int64) < (2 : Int64) then 1 else 0)]) rfl ?_
  refine s_if_ne_b (P := ¬ (2 : Int64) < (0 : Int64) ∧ ¬ (4 : Int64) < (2 : Int64)) (tgt := 34) S dX9_fault_28 (by decide) (fun _ => ?_) (fun h => absurd (by decide) h)
  refine lv_iload_n S.1 S.2.1 dX9_fault_34 rfl (lv_at hl 3 rfl) ?_
  refine lv_iconst (v := (4 : Int32)) S.1 S.2.1 dX9_fault_35 (by decide) ?_
  refine lv_icmp_ne (tgt := 54) S.1 S.2.1 dX9_fault_36 (by decide) (fun _ => ?_) (fun h => absurd h (by decide))
  refine lv_aload_n S.1 S.2.1 dX9_fault_54 rfl (lv_at hl 0 rfl) ?_
  refine lv_iload_n S.1 S.2.1 dX9_fault_55 rfl (lv_at hl 1 rfl) ?_
  refine lv_iload_n S.1 S.2.1 dX9_fault_56 rfl (lv_at hl 2 rfl) ?_
  refine s_callV (C := RX9) (As := [.int (1 : Int32), .int (0 : Int32)]) (rest := []) (i := 161) (kd := 9) S hX G (k_X9_isLatched_1_0 l E d e_d) (cwV (bytes := cX9_isLatched) (maxL := 3) (ret := (some .boolean)) 2 S.2.2.2.2 gX9_fault_X9_isLatched rfl rfl rfl (by decide +kernel) ⟨Nat.le_of_ble_eq_true rfl, Nat.le_of_ble_eq_true rfl⟩) (rfl : sh 161 = 9) rfl rfl rfl (by decide) rfl hl.1 rfl (Nat.le_of_ble_eq_true rfl) ⟨Nat.zero_le _, Nat.zero_le _⟩ dX9_fault_57 (fun v I1 L1 H locs hR G => ?_)
  obtain ⟨hv, hI, hL⟩ := hR
  subst hv
  have G : GS E I L sg H locs := G.same hI hL
  refine W.eq (g2 := F0 mg 60 ls [.int (if ¬ d 82 = -1 then 1 else 0)]) rfl ?_
  refine s_if_ne_b (P := ¬ d 82 = -1) (tgt := 74) S dX9_fault_60 (by decide) (fun c_1 => ?_) (fun c_1 => ?_)
  · refine lv_iload_n S.1 S.2.1 dX9_fault_74 rfl (lv_at hl 3 rfl) ?_
    refine lv_if_ne (tgt := 82) S.1 S.2.1 dX9_fault_75 (by decide) (fun _ => ?_) (fun h => absurd h (by decide))
    refine lv_iload_n S.1 S.2.1 dX9_fault_82 rfl (lv_at hl 3 rfl) ?_
    refine lv_iconst (v := (3 : Int32)) S.1 S.2.1 dX9_fault_83 (by decide) ?_
    refine lv_icmp_ne (tgt := 96) S.1 S.2.1 dX9_fault_84 (by decide) (fun _ => ?_) (fun h => absurd h (by decide))
    refine lv_aload_n S.1 S.2.1 dX9_fault_96 rfl (lv_at hl 0 rfl) ?_
    refine s_get S hX G (i := 161) (kd := 9) (a := (I 161)) (v := .ref (E.2.2.2 162)) (C := RX9) (T := TX9) (N := 13) 0 (rfl : sh 161 = 9) rfl rfl rfl (by decide) rfl (fun _ h => (List.mem_cons_of_mem _ (List.mem_append_right _ h))) (by decide) (List.mem_of_getElem? (i := 5) rfl) (fun _ h => h) dX9_fault_97 ?_
    refine lv_iload_n S.1 S.2.1 dX9_fault_100 rfl (lv_at hl 1 rfl) ?_
    refine s_callS (As := [.int (1 : Int32)]) (rest := [.ref (E.2.2.2 162)]) S hX G (k_X9_loadAt_1 l E) (va_cwS (bytes := cX9_loadAt) (maxL := 1) (ret := (some .int)) 1 S.2.2.2.2 gX9_fault_X9_loadAt rfl rfl rfl (by decide +kernel) ⟨Nat.le_of_ble_eq_true rfl, Nat.le_of_ble_eq_true rfl⟩) rfl hl.1 rfl (Nat.le_of_ble_eq_true rfl) ⟨Nat.zero_le _, Nat.zero_le _⟩ dX9_fault_101 (fun v I1 L1 H locs hR G => ?_)
    obtain ⟨hv, hI, hL⟩ := hR
    subst hv
    have G : GS E I L sg H locs := G.same hI hL
    refine W.eq (g2 := F0 mg 104 ls [.int (70 : Int32), .ref (E.2.2.2 162)]) rfl ?_
    refine lv_bipush (v := (12 : Int32)) S.1 S.2.1 dX9_fault_104 (by decide) ?_
    refine s_iadd (v := (82 : Int32)) S dX9_fault_106 (by decide) ?_
    refine lv_iconst (v := (3 : Int32)) S.1 S.2.1 dX9_fault_107 (by decide) ?_
    refine lv_iload_n S.1 S.2.1 dX9_fault_108 rfl (lv_at hl 2 rfl) ?_
    refine s_imul (v := (0 : Int32)) S dX9_fault_109 (by decide) ?_
    refine s_iadd (v := (82 : Int32)) S dX9_fault_110 (by decide) ?_
    refine lv_iload_n S.1 S.2.1 dX9_fault_111 rfl (lv_at hl 3 rfl) ?_
    refine s_iadd (v := (84 : Int32)) S dX9_fault_112 (by decide) ?_
    refine lv_iconst (v := (1 : Int32)) S.1 S.2.1 dX9_fault_113 (by decide) ?_
    refine s_isub (v := (83 : Int32)) S dX9_fault_114 (by decide) ?_
    refine s_iald S hX G (i := 162) (kd := 284) (n := 270) (a := d) (x := (d 83)) (rfl : sh 162 = 284) e_d rfl (by decide) (by unfold vp_in; decide) (congrArg d (by decide)) dX9_fault_115 ?_
    refine s_iret (x := (d 83)) S G hr hlk dX9_fault_116 ?_
    exact ⟨(congrArg (fun q : Int32 => some (Value.int q)) (show (d 83) = (if ¬ d 82 = -1 then d 83 else (-2000000004 : Int32)) by first | exact (if_pos c_1).symm | exact (if_neg c_1).symm)), rfl, rfl⟩
  · refine lv_iload_n S.1 S.2.1 dX9_fault_63 rfl (lv_at hl 3 rfl) ?_
    refine lv_if_ne (tgt := 71) S.1 S.2.1 dX9_fault_64 (by decide) (fun _ => ?_) (fun h => absurd h (by decide))
    refine lv_ldc (v := (-2000000004 : Int32)) S.1 S.2.1 S.2.2.2.1 (S.2.2.2.2 _ (List.mem_of_getElem? (i := 4) rfl)) dX9_fault_71 ?_
    refine s_iret (x := (-2000000004 : Int32)) S G hr hlk dX9_fault_73 ?_
    exact ⟨(congrArg (fun q : Int32 => some (Value.int q)) (show (-2000000004 : Int32) = (if ¬ d 82 = -1 then d 83 else (-2000000004 : Int32)) by first | exact (if_pos c_1).symm | exact (if_neg c_1).symm)), rfl, rfl⟩
set_option maxHeartbeats 4000000 in
set_option maxRecDepth 100000 in
theorem k_X9_fault_1_0_3 (l : Launch) (E : Ev) {I : SI} {L : SL} (d : Nat → Int32) (e_d : I (162) = d) : CS l yX9_fault wsX9_fault ({ frames := 3, cells := 0, slots := 0, locals := 66 }) E [.ref (E.2.2.2 161), .int (1 : Int32), .int (0 : Int32), .int (3 : Int32)] I L (fun vv I' L' => vv = some (.int (if ¬ d 82 = -1 then plcM d 70 0 else (-2000000004 : Int32))) ∧ I' = I ∧ L' = L) := by
  refine CS.of (cc := cX9_fault) (maxL := 4) (ret := (some .int)) (by decide) rfl (Nat.le_of_ble_eq_true rfl) ?_
  intro pg en sg mg below meth cg ls S hr hlk hX G hl
  have S : CallFix pg mg cg cX9_fault 4 sg _ wsX9_fault RX9 := S
  have hl : lv_has ls 4 [(0, .ref (E.2.2.2 161)), (1, .int (1 : Int32)), (2, .int (0 : Int32)), (3, .int (3 : Int32))] := hl
  refine lv_iload_n S.1 S.2.1 dX9_fault_0 rfl (lv_at hl 1 rfl) ?_
  refine s_callS (As := [.int (1 : Int32)]) (rest := []) S hX G (k_X9_isLoad l E (1 : Int32)) (va_cwS (bytes := cX9_isLoad) (maxL := 1) (ret := (some .boolean)) 1 S.2.2.2.2 gX9_fault_X9_isLoad rfl rfl rfl (by decide +kernel) ⟨Nat.le_of_ble_eq_true rfl, Nat.le_of_ble_eq_true rfl⟩) rfl hl.1 rfl (Nat.le_of_ble_eq_true rfl) ⟨Nat.zero_le _, Nat.zero_le _⟩ dX9_fault_1 (fun v I1 L1 H locs hR G => ?_)
  obtain ⟨hv, hI, hL⟩ := hR
  subst hv
  have G : GS E I L sg H locs := G.same hI hL
  refine W.eq (g2 := F0 mg 4 ls [.int (if ¬ (1 : Int32) < (0 : Int32) ∧ ¬ (1 : Int32) < (1 : Int32) then 1 else 0)]) rfl ?_
  refine s_if_eq_b (P := ¬ (1 : Int32) < (0 : Int32) ∧ ¬ (1 : Int32) < (1 : Int32)) (tgt := 31) S dX9_fault_4 (by decide) (fun h => absurd (by decide) h) (fun _ => ?_)
  refine lv_iload_n S.1 S.2.1 dX9_fault_7 rfl (lv_at hl 2 rfl) ?_
  refine lv_i2l (v := (0 : Int64)) S.1 S.2.1 dX9_fault_8 (by decide) ?_
  refine lv_lconst (v := (0 : Int64)) S.1 S.2.1 dX9_fault_9 (by decide) ?_
  refine lv_ldc2 (v := (2 : Int64)) S.1 S.2.1 S.2.2.2.1 (S.2.2.2.2 _ (List.mem_of_getElem? (i := 1) rfl)) dX9_fault_10 ?_
  refine s_callS (As := [.long (0 : Int64), .long (0 : Int64), .long (2 : Int64)]) (rest := []) S hX G (k_X9_in l E (0 : Int64) (0 : Int64) (2 : Int64)) (va_cwS (bytes := cX9_in) (maxL := 6) (ret := (some .boolean)) 3 S.2.2.2.2 gX9_fault_X9_in rfl rfl rfl (by decide +kernel) ⟨Nat.le_of_ble_eq_true rfl, Nat.le_of_ble_eq_true rfl⟩) rfl hl.1 rfl (Nat.le_of_ble_eq_true rfl) ⟨Nat.zero_le _, Nat.zero_le _⟩ dX9_fault_13 (fun v I1 L1 H locs hR G => ?_)
  obtain ⟨hv, hI, hL⟩ := hR
  subst hv
  have G : GS E I L sg H locs := G.same hI hL
  refine W.eq (g2 := F0 mg 16 ls [.int (if ¬ (0 : Int64) < (0 : Int64) ∧ ¬ (2 : Int64) < (0 : Int64) then 1 else 0)]) rfl ?_
  refine s_if_eq_b (P := ¬ (0 : Int64) < (0 : Int64) ∧ ¬ (2 : Int64) < (0 : Int64)) (tgt := 31) S dX9_fault_16 (by decide) (fun h => absurd (by decide) h) (fun _ => ?_)
  refine lv_iload_n S.1 S.2.1 dX9_fault_19 rfl (lv_at hl 3 rfl) ?_
  refine lv_i2l (v := (3 : Int64)) S.1 S.2.1 dX9_fault_20 (by decide) ?_
  refine lv_lconst (v := (0 : Int64)) S.1 S.2.1 dX9_fault_21 (by decide) ?_
  refine lv_ldc2 (v := (4 : Int64)) S.1 S.2.1 S.2.2.2.1 (S.2.2.2.2 _ (List.mem_of_getElem? (i := 2) rfl)) dX9_fault_22 ?_
  refine s_callS (As := [.long (3 : Int64), .long (0 : Int64), .long (4 : Int64)]) (rest := []) S hX G (k_X9_in l E (3 : Int64) (0 : Int64) (4 : Int64)) (va_cwS (bytes := cX9_in) (maxL := 6) (ret := (some .boolean)) 3 S.2.2.2.2 gX9_fault_X9_in rfl rfl rfl (by decide +kernel) ⟨Nat.le_of_ble_eq_true rfl, Nat.le_of_ble_eq_true rfl⟩) rfl hl.1 rfl (Nat.le_of_ble_eq_true rfl) ⟨Nat.zero_le _, Nat.zero_le _⟩ dX9_fault_25 (fun v I1 L1 H locs hR G => ?_)
  obtain ⟨hv, hI, hL⟩ := hR
  subst hv
  have G : GS E I L sg H locs := G.same hI hL
  refine W.eq (g2 := F0 mg 28 ls [.int (if ¬ (3 : Int64) < (0 : Int64) ∧ ¬ (4 : Int64) < (3 : Int64) then 1 else 0)]) rfl ?_
  refine s_if_ne_b (P := ¬ (3 : Int64) < (0 : Int64) ∧ ¬ (4 : Int64) < (3 : Int64)) (tgt := 34) S dX9_fault_28 (by decide) (fun _ => ?_) (fun h => absurd (by decide) h)
  refine lv_iload_n S.1 S.2.1 dX9_fault_34 rfl (lv_at hl 3 rfl) ?_
  refine lv_iconst (v := (4 : Int32)) S.1 S.2.1 dX9_fault_35 (by decide) ?_
  refine lv_icmp_ne (tgt := 54) S.1 S.2.1 dX9_fault_36 (by decide) (fun _ => ?_) (fun h => absurd h (by decide))
  refine lv_aload_n S.1 S.2.1 dX9_fault_54 rfl (lv_at hl 0 rfl) ?_
  refine lv_iload_n S.1 S.2.1 dX9_fault_55 rfl (lv_at hl 1 rfl) ?_
  refine lv_iload_n S.1 S.2.1 dX9_fault_56 rfl (lv_at hl 2 rfl) ?_
  refine s_callV (C := RX9) (As := [.int (1 : Int32), .int (0 : Int32)]) (rest := []) (i := 161) (kd := 9) S hX G (k_X9_isLatched_1_0 l E d e_d) (cwV (bytes := cX9_isLatched) (maxL := 3) (ret := (some .boolean)) 2 S.2.2.2.2 gX9_fault_X9_isLatched rfl rfl rfl (by decide +kernel) ⟨Nat.le_of_ble_eq_true rfl, Nat.le_of_ble_eq_true rfl⟩) (rfl : sh 161 = 9) rfl rfl rfl (by decide) rfl hl.1 rfl (Nat.le_of_ble_eq_true rfl) ⟨Nat.zero_le _, Nat.zero_le _⟩ dX9_fault_57 (fun v I1 L1 H locs hR G => ?_)
  obtain ⟨hv, hI, hL⟩ := hR
  subst hv
  have G : GS E I L sg H locs := G.same hI hL
  refine W.eq (g2 := F0 mg 60 ls [.int (if ¬ d 82 = -1 then 1 else 0)]) rfl ?_
  refine s_if_ne_b (P := ¬ d 82 = -1) (tgt := 74) S dX9_fault_60 (by decide) (fun c_1 => ?_) (fun c_1 => ?_)
  · refine lv_iload_n S.1 S.2.1 dX9_fault_74 rfl (lv_at hl 3 rfl) ?_
    refine lv_if_ne (tgt := 82) S.1 S.2.1 dX9_fault_75 (by decide) (fun _ => ?_) (fun h => absurd h (by decide))
    refine lv_iload_n S.1 S.2.1 dX9_fault_82 rfl (lv_at hl 3 rfl) ?_
    refine lv_iconst (v := (3 : Int32)) S.1 S.2.1 dX9_fault_83 (by decide) ?_
    refine lv_icmp_ne (tgt := 96) S.1 S.2.1 dX9_fault_84 (by decide) (fun h => absurd (by decide) h) (fun _ => ?_)
    refine lv_aload_n S.1 S.2.1 dX9_fault_87 rfl (lv_at hl 0 rfl) ?_
    refine lv_iload_n S.1 S.2.1 dX9_fault_88 rfl (lv_at hl 1 rfl) ?_
    refine lv_iload_n S.1 S.2.1 dX9_fault_89 rfl (lv_at hl 2 rfl) ?_
    refine s_callV (C := RX9) (As := [.int (1 : Int32), .int (0 : Int32)]) (rest := []) (i := 161) (kd := 9) S hX G (k_X9_placeOf_1_0 l E d e_d) (cwV (bytes := cX9_placeOf) (maxL := 5) (ret := (some .int)) 2 S.2.2.2.2 gX9_fault_X9_placeOf rfl rfl rfl (by decide +kernel) ⟨Nat.le_of_ble_eq_true rfl, Nat.le_of_ble_eq_true rfl⟩) (rfl : sh 161 = 9) rfl rfl rfl (by decide) rfl hl.1 rfl (Nat.le_of_ble_eq_true rfl) ⟨Nat.zero_le _, Nat.zero_le _⟩ dX9_fault_90 (fun v I1 L1 H locs hR G => ?_)
    obtain ⟨hv, hI, hL⟩ := hR
    subst hv
    have G : GS E I L sg H locs := G.same hI hL
    refine W.eq (g2 := F0 mg 93 ls [.int (plcM d 70 0)]) rfl ?_
    refine lv_topi (fun y_2 ey_2 => ?_)
    refine lv_goto (tgt := 116) S.1 S.2.1 dX9_fault_93 (by decide) ?_
    refine s_iret (x := y_2) S G hr hlk dX9_fault_116 ?_
    exact ⟨(congrArg (fun q : Int32 => some (Value.int q)) (show y_2 = (if ¬ d 82 = -1 then plcM d 70 0 else (-2000000004 : Int32)) by subst ey_2; (first | exact (if_pos c_1).symm | exact (if_neg c_1).symm))), rfl, rfl⟩
  · refine lv_iload_n S.1 S.2.1 dX9_fault_63 rfl (lv_at hl 3 rfl) ?_
    refine lv_if_ne (tgt := 71) S.1 S.2.1 dX9_fault_64 (by decide) (fun _ => ?_) (fun h => absurd h (by decide))
    refine lv_ldc (v := (-2000000004 : Int32)) S.1 S.2.1 S.2.2.2.1 (S.2.2.2.2 _ (List.mem_of_getElem? (i := 4) rfl)) dX9_fault_71 ?_
    refine s_iret (x := (-2000000004 : Int32)) S G hr hlk dX9_fault_73 ?_
    exact ⟨(congrArg (fun q : Int32 => some (Value.int q)) (show (-2000000004 : Int32) = (if ¬ d 82 = -1 then plcM d 70 0 else (-2000000004 : Int32)) by first | exact (if_pos c_1).symm | exact (if_neg c_1).symm)), rfl, rfl⟩
set_option maxHeartbeats 4000000 in
set_option maxRecDepth 100000 in
theorem k_X9_fault_1_0_4 (l : Launch) (E : Ev) {I : SI} {L : SL} (d : Nat → Int32) (e_d : I (162) = d) : CS l yX9_fault wsX9_fault ({ frames := 4, cells := 0, slots := 0, locals := 88 }) E [.ref (E.2.2.2 161), .int (1 : Int32), .int (0 : Int32), .int (4 : Int32)] I L (fun vv I' L' => vv = some (.int (if ¬ d 82 = -1 ∧ ¬ ¬ plcM d 70 0 ≤ 0 ∧ absM (d 74) < d 3 then 1 else 0)) ∧ I' = I ∧ L' = L) := by
  refine CS.of (cc := cX9_fault) (maxL := 4) (ret := (some .int)) (by decide) rfl (Nat.le_of_ble_eq_true rfl) ?_
  intro pg en sg mg below meth cg ls S hr hlk hX G hl
  have S : CallFix pg mg cg cX9_fault 4 sg _ wsX9_fault RX9 := S
  have hl : lv_has ls 4 [(0, .ref (E.2.2.2 161)), (1, .int (1 : Int32)), (2, .int (0 : Int32)), (3, .int (4 : Int32))] := hl
  refine lv_iload_n S.1 S.2.1 dX9_fault_0 rfl (lv_at hl 1 rfl) ?_
  refine s_callS (As := [.int (1 : Int32)]) (rest := []) S hX G (k_X9_isLoad l E (1 : Int32)) (va_cwS (bytes := cX9_isLoad) (maxL := 1) (ret := (some .boolean)) 1 S.2.2.2.2 gX9_fault_X9_isLoad rfl rfl rfl (by decide +kernel) ⟨Nat.le_of_ble_eq_true rfl, Nat.le_of_ble_eq_true rfl⟩) rfl hl.1 rfl (Nat.le_of_ble_eq_true rfl) ⟨Nat.zero_le _, Nat.zero_le _⟩ dX9_fault_1 (fun v I1 L1 H locs hR G => ?_)
  obtain ⟨hv, hI, hL⟩ := hR
  subst hv
  have G : GS E I L sg H locs := G.same hI hL
  refine W.eq (g2 := F0 mg 4 ls [.int (if ¬ (1 : Int32) < (0 : Int32) ∧ ¬ (1 : Int32) < (1 : Int32) then 1 else 0)]) rfl ?_
  refine s_if_eq_b (P := ¬ (1 : Int32) < (0 : Int32) ∧ ¬ (1 : Int32) < (1 : Int32)) (tgt := 31) S dX9_fault_4 (by decide) (fun h => absurd (by decide) h) (fun _ => ?_)
  refine lv_iload_n S.1 S.2.1 dX9_fault_7 rfl (lv_at hl 2 rfl) ?_
  refine lv_i2l (v := (0 : Int64)) S.1 S.2.1 dX9_fault_8 (by decide) ?_
  refine lv_lconst (v := (0 : Int64)) S.1 S.2.1 dX9_fault_9 (by decide) ?_
  refine lv_ldc2 (v := (2 : Int64)) S.1 S.2.1 S.2.2.2.1 (S.2.2.2.2 _ (List.mem_of_getElem? (i := 1) rfl)) dX9_fault_10 ?_
  refine s_callS (As := [.long (0 : Int64), .long (0 : Int64), .long (2 : Int64)]) (rest := []) S hX G (k_X9_in l E (0 : Int64) (0 : Int64) (2 : Int64)) (va_cwS (bytes := cX9_in) (maxL := 6) (ret := (some .boolean)) 3 S.2.2.2.2 gX9_fault_X9_in rfl rfl rfl (by decide +kernel) ⟨Nat.le_of_ble_eq_true rfl, Nat.le_of_ble_eq_true rfl⟩) rfl hl.1 rfl (Nat.le_of_ble_eq_true rfl) ⟨Nat.zero_le _, Nat.zero_le _⟩ dX9_fault_13 (fun v I1 L1 H locs hR G => ?_)
  obtain ⟨hv, hI, hL⟩ := hR
  subst hv
  have G : GS E I L sg H locs := G.same hI hL
  refine W.eq (g2 := F0 mg 16 ls [.int (if ¬ (0 : Int64) < (0 : Int64) ∧ ¬ (2 : Int64) < (0 : Int64) then 1 else 0)]) rfl ?_
  refine s_if_eq_b (P := ¬ (0 : Int64) < (0 : Int64) ∧ ¬ (2 : Int64) < (0 : Int64)) (tgt := 31) S dX9_fault_16 (by decide) (fun h => absurd (by decide) h) (fun _ => ?_)
  refine lv_iload_n S.1 S.2.1 dX9_fault_19 rfl (lv_at hl 3 rfl) ?_
  refine lv_i2l (v := (4 : Int64)) S.1 S.2.1 dX9_fault_20 (by decide) ?_
  refine lv_lconst (v := (0 : Int64)) S.1 S.2.1 dX9_fault_21 (by decide) ?_
  refine lv_ldc2 (v := (4 : Int64)) S.1 S.2.1 S.2.2.2.1 (S.2.2.2.2 _ (List.mem_of_getElem? (i := 2) rfl)) dX9_fault_22 ?_
  refine s_callS (As := [.long (4 : Int64), .long (0 : Int64), .long (4 : Int64)]) (rest := []) S hX G (k_X9_in l E (4 : Int64) (0 : Int64) (4 : Int64)) (va_cwS (bytes := cX9_in) (maxL := 6) (ret := (some .boolean)) 3 S.2.2.2.2 gX9_fault_X9_in rfl rfl rfl (by decide +kernel) ⟨Nat.le_of_ble_eq_true rfl, Nat.le_of_ble_eq_true rfl⟩) rfl hl.1 rfl (Nat.le_of_ble_eq_true rfl) ⟨Nat.zero_le _, Nat.zero_le _⟩ dX9_fault_25 (fun v I1 L1 H locs hR G => ?_)
  obtain ⟨hv, hI, hL⟩ := hR
  subst hv
  have G : GS E I L sg H locs := G.same hI hL
  refine W.eq (g2 := F0 mg 28 ls [.int (if ¬ (4 : Int64) < (0 : Int64) ∧ ¬ (4 : Int64) < (4 : Int64) then 1 else 0)]) rfl ?_
  refine s_if_ne_b (P := ¬ (4 : Int64) < (0 : Int64) ∧ ¬ (4 : Int64) < (4 : Int64)) (tgt := 34) S dX9_fault_28 (by decide) (fun _ => ?_) (fun h => absurd (by decide) h)
  refine lv_iload_n S.1 S.2.1 dX9_fault_34 rfl (lv_at hl 3 rfl) ?_
  refine lv_iconst (v := (4 : Int32)) S.1 S.2.1 dX9_fault_35 (by decide) ?_
  refine lv_icmp_ne (tgt := 54) S.1 S.2.1 dX9_fault_36 (by decide) (fun h => absurd (by decide) h) (fun _ => ?_)
  refine lv_aload_n S.1 S.2.1 dX9_fault_39 rfl (lv_at hl 0 rfl) ?_
  refine lv_iload_n S.1 S.2.1 dX9_fault_40 rfl (lv_at hl 1 rfl) ?_
  refine lv_iload_n S.1 S.2.1 dX9_fault_41 rfl (lv_at hl 2 rfl) ?_
  refine s_callV (C := RX9) (As := [.int (1 : Int32), .int (0 : Int32)]) (rest := []) (i := 161) (kd := 9) S hX G (k_X9_canClear_1_0 l E d e_d) (cwV (bytes := cX9_canClear) (maxL := 3) (ret := (some .boolean)) 2 S.2.2.2.2 gX9_fault_X9_canClear rfl rfl rfl (by decide +kernel) ⟨Nat.le_of_ble_eq_true rfl, Nat.le_of_ble_eq_true rfl⟩) (rfl : sh 161 = 9) rfl rfl rfl (by decide) rfl hl.1 rfl (Nat.le_of_ble_eq_true rfl) ⟨Nat.zero_le _, Nat.zero_le _⟩ dX9_fault_42 (fun v I1 L1 H locs hR G => ?_)
  obtain ⟨hv, hI, hL⟩ := hR
  subst hv
  have G : GS E I L sg H locs := G.same hI hL
  refine W.eq (g2 := F0 mg 45 ls [.int (if ¬ d 82 = -1 ∧ ¬ ¬ plcM d 70 0 ≤ 0 ∧ absM (d 74) < d 3 then 1 else 0)]) rfl ?_
  refine s_if_eq_b (P := ¬ d 82 = -1 ∧ ¬ ¬ plcM d 70 0 ≤ 0 ∧ absM (d 74) < d 3) (tgt := 52) S dX9_fault_45 (by decide) (fun c_1 => ?_) (fun c_1 => ?_)
  · refine lv_iconst (v := (0 : Int32)) S.1 S.2.1 dX9_fault_52 (by decide) ?_
    refine s_iret (x := (0 : Int32)) S G hr hlk dX9_fault_53 ?_
    exact ⟨(congrArg (fun q : Int32 => some (Value.int q)) (show (0 : Int32) = (if ¬ d 82 = -1 ∧ ¬ ¬ plcM d 70 0 ≤ 0 ∧ absM (d 74) < d 3 then 1 else 0) by first | exact (if_pos c_1).symm | exact (if_neg c_1).symm)), rfl, rfl⟩
  · refine lv_iconst (v := (1 : Int32)) S.1 S.2.1 dX9_fault_48 (by decide) ?_
    refine lv_goto (tgt := 53) S.1 S.2.1 dX9_fault_49 (by decide) ?_
    refine s_iret (x := (1 : Int32)) S G hr hlk dX9_fault_53 ?_
    exact ⟨(congrArg (fun q : Int32 => some (Value.int q)) (show (1 : Int32) = (if ¬ d 82 = -1 ∧ ¬ ¬ plcM d 70 0 ≤ 0 ∧ absM (d 74) < d 3 then 1 else 0) by first | exact (if_pos c_1).symm | exact (if_neg c_1).symm)), rfl, rfl⟩
set_option maxHeartbeats 4000000 in
set_option maxRecDepth 100000 in
theorem k_X9_fault_1_1_0 (l : Launch) (E : Ev) {I : SI} {L : SL} (d : Nat → Int32) (e_d : I (162) = d) : CS l yX9_fault wsX9_fault ({ frames := 2, cells := 0, slots := 0, locals := 45 }) E [.ref (E.2.2.2 161), .int (1 : Int32), .int (1 : Int32), .int (0 : Int32)] I L (fun vv I' L' => vv = some (.int (if ¬ d 85 = -1 then 1 else 0)) ∧ I' = I ∧ L' = L) := by
  refine CS.of (cc := cX9_fault) (maxL := 4) (ret := (some .int)) (by decide) rfl (Nat.le_of_ble_eq_true rfl) ?_
  intro pg en sg mg below meth cg ls S hr hlk hX G hl
  have S : CallFix pg mg cg cX9_fault 4 sg _ wsX9_fault RX9 := S
  have hl : lv_has ls 4 [(0, .ref (E.2.2.2 161)), (1, .int (1 : Int32)), (2, .int (1 : Int32)), (3, .int (0 : Int32))] := hl
  refine lv_iload_n S.1 S.2.1 dX9_fault_0 rfl (lv_at hl 1 rfl) ?_
  refine s_callS (As := [.int (1 : Int32)]) (rest := []) S hX G (k_X9_isLoad l E (1 : Int32)) (va_cwS (bytes := cX9_isLoad) (maxL := 1) (ret := (some .boolean)) 1 S.2.2.2.2 gX9_fault_X9_isLoad rfl rfl rfl (by decide +kernel) ⟨Nat.le_of_ble_eq_true rfl, Nat.le_of_ble_eq_true rfl⟩) rfl hl.1 rfl (Nat.le_of_ble_eq_true rfl) ⟨Nat.zero_le _, Nat.zero_le _⟩ dX9_fault_1 (fun v I1 L1 H locs hR G => ?_)
  obtain ⟨hv, hI, hL⟩ := hR
  subst hv
  have G : GS E I L sg H locs := G.same hI hL
  refine W.eq (g2 := F0 mg 4 ls [.int (if ¬ (1 : Int32) < (0 : Int32) ∧ ¬ (1 : Int32) < (1 : Int32) then 1 else 0)]) rfl ?_
  refine s_if_eq_b (P := ¬ (1 : Int32) < (0 : Int32) ∧ ¬ (1 : Int32) < (1 : Int32)) (tgt := 31) S dX9_fault_4 (by decide) (fun h => absurd (by decide) h) (fun _ => ?_)
  refine lv_iload_n S.1 S.2.1 dX9_fault_7 rfl (lv_at hl 2 rfl) ?_
  refine lv_i2l (v := (1 : Int64)) S.1 S.2.1 dX9_fault_8 (by decide) ?_
  refine lv_lconst (v := (0 : Int64)) S.1 S.2.1 dX9_fault_9 (by decide) ?_
  refine lv_ldc2 (v := (2 : Int64)) S.1 S.2.1 S.2.2.2.1 (S.2.2.2.2 _ (List.mem_of_getElem? (i := 1) rfl)) dX9_fault_10 ?_
  refine s_callS (As := [.long (1 : Int64), .long (0 : Int64), .long (2 : Int64)]) (rest := []) S hX G (k_X9_in l E (1 : Int64) (0 : Int64) (2 : Int64)) (va_cwS (bytes := cX9_in) (maxL := 6) (ret := (some .boolean)) 3 S.2.2.2.2 gX9_fault_X9_in rfl rfl rfl (by decide +kernel) ⟨Nat.le_of_ble_eq_true rfl, Nat.le_of_ble_eq_true rfl⟩) rfl hl.1 rfl (Nat.le_of_ble_eq_true rfl) ⟨Nat.zero_le _, Nat.zero_le _⟩ dX9_fault_13 (fun v I1 L1 H locs hR G => ?_)
  obtain ⟨hv, hI, hL⟩ := hR
  subst hv
  have G : GS E I L sg H locs := G.same hI hL
  refine W.eq (g2 := F0 mg 16 ls [.int (if ¬ (1 : Int64) < (0 : Int64) ∧ ¬ (2 : Int64) < (1 : Int64) then 1 else 0)]) rfl ?_
  refine s_if_eq_b (P := ¬ (1 : Int64) < (0 : Int64) ∧ ¬ (2 : Int64) < (1 : Int64)) (tgt := 31) S dX9_fault_16 (by decide) (fun h => absurd (by decide) h) (fun _ => ?_)
  refine lv_iload_n S.1 S.2.1 dX9_fault_19 rfl (lv_at hl 3 rfl) ?_
  refine lv_i2l (v := (0 : Int64)) S.1 S.2.1 dX9_fault_20 (by decide) ?_
  refine lv_lconst (v := (0 : Int64)) S.1 S.2.1 dX9_fault_21 (by decide) ?_
  refine lv_ldc2 (v := (4 : Int64)) S.1 S.2.1 S.2.2.2.1 (S.2.2.2.2 _ (List.mem_of_getElem? (i := 2) rfl)) dX9_fault_22 ?_
  refine s_callS (As := [.long (0 : Int64), .long (0 : Int64), .long (4 : Int64)]) (rest := []) S hX G (k_X9_in l E (0 : Int64) (0 : Int64) (4 : Int64)) (va_cwS (bytes := cX9_in) (maxL := 6) (ret := (some .boolean)) 3 S.2.2.2.2 gX9_fault_X9_in rfl rfl rfl (by decide +kernel) ⟨Nat.le_of_ble_eq_true rfl, Nat.le_of_ble_eq_true rfl⟩) rfl hl.1 rfl (Nat.le_of_ble_eq_true rfl) ⟨Nat.zero_le _, Nat.zero_le _⟩ dX9_fault_25 (fun v I1 L1 H locs hR G => ?_)
  obtain ⟨hv, hI, hL⟩ := hR
  subst hv
  have G : GS E I L sg H locs := G.same hI hL
  refine W.eq (g2 := F0 mg 28 ls [.int (if ¬ (0 : Int64) < (0 : Int64) ∧ ¬ (4 : Int64) < (0 : Int64) then 1 else 0)]) rfl ?_
  refine s_if_ne_b (P := ¬ (0 : Int64) < (0 : Int64) ∧ ¬ (4 : Int64) < (0 : Int64)) (tgt := 34) S dX9_fault_28 (by decide) (fun _ => ?_) (fun h => absurd (by decide) h)
  refine lv_iload_n S.1 S.2.1 dX9_fault_34 rfl (lv_at hl 3 rfl) ?_
  refine lv_iconst (v := (4 : Int32)) S.1 S.2.1 dX9_fault_35 (by decide) ?_
  refine lv_icmp_ne (tgt := 54) S.1 S.2.1 dX9_fault_36 (by decide) (fun _ => ?_) (fun h => absurd h (by decide))
  refine lv_aload_n S.1 S.2.1 dX9_fault_54 rfl (lv_at hl 0 rfl) ?_
  refine lv_iload_n S.1 S.2.1 dX9_fault_55 rfl (lv_at hl 1 rfl) ?_
  refine lv_iload_n S.1 S.2.1 dX9_fault_56 rfl (lv_at hl 2 rfl) ?_
  refine s_callV (C := RX9) (As := [.int (1 : Int32), .int (1 : Int32)]) (rest := []) (i := 161) (kd := 9) S hX G (k_X9_isLatched_1_1 l E d e_d) (cwV (bytes := cX9_isLatched) (maxL := 3) (ret := (some .boolean)) 2 S.2.2.2.2 gX9_fault_X9_isLatched rfl rfl rfl (by decide +kernel) ⟨Nat.le_of_ble_eq_true rfl, Nat.le_of_ble_eq_true rfl⟩) (rfl : sh 161 = 9) rfl rfl rfl (by decide) rfl hl.1 rfl (Nat.le_of_ble_eq_true rfl) ⟨Nat.zero_le _, Nat.zero_le _⟩ dX9_fault_57 (fun v I1 L1 H locs hR G => ?_)
  obtain ⟨hv, hI, hL⟩ := hR
  subst hv
  have G : GS E I L sg H locs := G.same hI hL
  refine W.eq (g2 := F0 mg 60 ls [.int (if ¬ d 85 = -1 then 1 else 0)]) rfl ?_
  refine s_if_ne_b (P := ¬ d 85 = -1) (tgt := 74) S dX9_fault_60 (by decide) (fun c_1 => ?_) (fun c_1 => ?_)
  · refine lv_iload_n S.1 S.2.1 dX9_fault_74 rfl (lv_at hl 3 rfl) ?_
    refine lv_if_ne (tgt := 82) S.1 S.2.1 dX9_fault_75 (by decide) (fun h => absurd (by decide) h) (fun _ => ?_)
    refine lv_iconst (v := (1 : Int32)) S.1 S.2.1 dX9_fault_78 (by decide) ?_
    refine lv_goto (tgt := 116) S.1 S.2.1 dX9_fault_79 (by decide) ?_
    refine s_iret (x := (1 : Int32)) S G hr hlk dX9_fault_116 ?_
    exact ⟨(congrArg (fun q : Int32 => some (Value.int q)) (show (1 : Int32) = (if ¬ d 85 = -1 then 1 else 0) by first | exact (if_pos c_1).symm | exact (if_neg c_1).symm)), rfl, rfl⟩
  · refine lv_iload_n S.1 S.2.1 dX9_fault_63 rfl (lv_at hl 3 rfl) ?_
    refine lv_if_ne (tgt := 71) S.1 S.2.1 dX9_fault_64 (by decide) (fun h => absurd (by decide) h) (fun _ => ?_)
    refine lv_iconst (v := (0 : Int32)) S.1 S.2.1 dX9_fault_67 (by decide) ?_
    refine lv_goto (tgt := 73) S.1 S.2.1 dX9_fault_68 (by decide) ?_
    refine s_iret (x := (0 : Int32)) S G hr hlk dX9_fault_73 ?_
    exact ⟨(congrArg (fun q : Int32 => some (Value.int q)) (show (0 : Int32) = (if ¬ d 85 = -1 then 1 else 0) by first | exact (if_pos c_1).symm | exact (if_neg c_1).symm)), rfl, rfl⟩
set_option maxHeartbeats 4000000 in
set_option maxRecDepth 100000 in
theorem k_X9_fault_1_1_1 (l : Launch) (E : Ev) {I : SI} {L : SL} (d : Nat → Int32) (e_d : I (162) = d) : CS l yX9_fault wsX9_fault ({ frames := 2, cells := 0, slots := 0, locals := 45 }) E [.ref (E.2.2.2 161), .int (1 : Int32), .int (1 : Int32), .int (1 : Int32)] I L (fun vv I' L' => vv = some (.int (if ¬ d 85 = -1 then d 85 else (-2000000004 : Int32))) ∧ I' = I ∧ L' = L) := by
  refine CS.of (cc := cX9_fault) (maxL := 4) (ret := (some .int)) (by decide) rfl (Nat.le_of_ble_eq_true rfl) ?_
  intro pg en sg mg below meth cg ls S hr hlk hX G hl
  have S : CallFix pg mg cg cX9_fault 4 sg _ wsX9_fault RX9 := S
  have hl : lv_has ls 4 [(0, .ref (E.2.2.2 161)), (1, .int (1 : Int32)), (2, .int (1 : Int32)), (3, .int (1 : Int32))] := hl
  refine lv_iload_n S.1 S.2.1 dX9_fault_0 rfl (lv_at hl 1 rfl) ?_
  refine s_callS (As := [.int (1 : Int32)]) (rest := []) S hX G (k_X9_isLoad l E (1 : Int32)) (va_cwS (bytes := cX9_isLoad) (maxL := 1) (ret := (some .boolean)) 1 S.2.2.2.2 gX9_fault_X9_isLoad rfl rfl rfl (by decide +kernel) ⟨Nat.le_of_ble_eq_true rfl, Nat.le_of_ble_eq_true rfl⟩) rfl hl.1 rfl (Nat.le_of_ble_eq_true rfl) ⟨Nat.zero_le _, Nat.zero_le _⟩ dX9_fault_1 (fun v I1 L1 H locs hR G => ?_)
  obtain ⟨hv, hI, hL⟩ := hR
  subst hv
  have G : GS E I L sg H locs := G.same hI hL
  refine W.eq (g2 := F0 mg 4 ls [.int (if ¬ (1 : Int32) < (0 : Int32) ∧ ¬ (1 : Int32) < (1 : Int32) then 1 else 0)]) rfl ?_
  refine s_if_eq_b (P := ¬ (1 : Int32) < (0 : Int32) ∧ ¬ (1 : Int32) < (1 : Int32)) (tgt := 31) S dX9_fault_4 (by decide) (fun h => absurd (by decide) h) (fun _ => ?_)
  refine lv_iload_n S.1 S.2.1 dX9_fault_7 rfl (lv_at hl 2 rfl) ?_
  refine lv_i2l (v := (1 : Int64)) S.1 S.2.1 dX9_fault_8 (by decide) ?_
  refine lv_lconst (v := (0 : Int64)) S.1 S.2.1 dX9_fault_9 (by decide) ?_
  refine lv_ldc2 (v := (2 : Int64)) S.1 S.2.1 S.2.2.2.1 (S.2.2.2.2 _ (List.mem_of_getElem? (i := 1) rfl)) dX9_fault_10 ?_
  refine s_callS (As := [.long (1 : Int64), .long (0 : Int64), .long (2 : Int64)]) (rest := []) S hX G (k_X9_in l E (1 : Int64) (0 : Int64) (2 : Int64)) (va_cwS (bytes := cX9_in) (maxL := 6) (ret := (some .boolean)) 3 S.2.2.2.2 gX9_fault_X9_in rfl rfl rfl (by decide +kernel) ⟨Nat.le_of_ble_eq_true rfl, Nat.le_of_ble_eq_true rfl⟩) rfl hl.1 rfl (Nat.le_of_ble_eq_true rfl) ⟨Nat.zero_le _, Nat.zero_le _⟩ dX9_fault_13 (fun v I1 L1 H locs hR G => ?_)
  obtain ⟨hv, hI, hL⟩ := hR
  subst hv
  have G : GS E I L sg H locs := G.same hI hL
  refine W.eq (g2 := F0 mg 16 ls [.int (if ¬ (1 : Int64) < (0 : Int64) ∧ ¬ (2 : Int64) < (1 : Int64) then 1 else 0)]) rfl ?_
  refine s_if_eq_b (P := ¬ (1 : Int64) < (0 : Int64) ∧ ¬ (2 : Int64) < (1 : Int64)) (tgt := 31) S dX9_fault_16 (by decide) (fun h => absurd (by decide) h) (fun _ => ?_)
  refine lv_iload_n S.1 S.2.1 dX9_fault_19 rfl (lv_at hl 3 rfl) ?_
  refine lv_i2l (v := (1 : Int64)) S.1 S.2.1 dX9_fault_20 (by decide) ?_
  refine lv_lconst (v := (0 : Int64)) S.1 S.2.1 dX9_fault_21 (by decide) ?_
  refine lv_ldc2 (v := (4 : Int64)) S.1 S.2.1 S.2.2.2.1 (S.2.2.2.2 _ (List.mem_of_getElem? (i := 2) rfl)) dX9_fault_22 ?_
  refine s_callS (As := [.long (1 : Int64), .long (0 : Int64), .long (4 : Int64)]) (rest := []) S hX G (k_X9_in l E (1 : Int64) (0 : Int64) (4 : Int64)) (va_cwS (bytes := cX9_in) (maxL := 6) (ret := (some .boolean)) 3 S.2.2.2.2 gX9_fault_X9_in rfl rfl rfl (by decide +kernel) ⟨Nat.le_of_ble_eq_true rfl, Nat.le_of_ble_eq_true rfl⟩) rfl hl.1 rfl (Nat.le_of_ble_eq_true rfl) ⟨Nat.zero_le _, Nat.zero_le _⟩ dX9_fault_25 (fun v I1 L1 H locs hR G => ?_)
  obtain ⟨hv, hI, hL⟩ := hR
  subst hv
  have G : GS E I L sg H locs := G.same hI hL
  refine W.eq (g2 := F0 mg 28 ls [.int (if ¬ (1 : Int64) < (0 : Int64) ∧ ¬ (4 : Int64) < (1 : Int64) then 1 else 0)]) rfl ?_
  refine s_if_ne_b (P := ¬ (1 : Int64) < (0 : Int64) ∧ ¬ (4 : Int64) < (1 : Int64)) (tgt := 34) S dX9_fault_28 (by decide) (fun _ => ?_) (fun h => absurd (by decide) h)
  refine lv_iload_n S.1 S.2.1 dX9_fault_34 rfl (lv_at hl 3 rfl) ?_
  refine lv_iconst (v := (4 : Int32)) S.1 S.2.1 dX9_fault_35 (by decide) ?_
  refine lv_icmp_ne (tgt := 54) S.1 S.2.1 dX9_fault_36 (by decide) (fun _ => ?_) (fun h => absurd h (by decide))
  refine lv_aload_n S.1 S.2.1 dX9_fault_54 rfl (lv_at hl 0 rfl) ?_
  refine lv_iload_n S.1 S.2.1 dX9_fault_55 rfl (lv_at hl 1 rfl) ?_
  refine lv_iload_n S.1 S.2.1 dX9_fault_56 rfl (lv_at hl 2 rfl) ?_
  refine s_callV (C := RX9) (As := [.int (1 : Int32), .int (1 : Int32)]) (rest := []) (i := 161) (kd := 9) S hX G (k_X9_isLatched_1_1 l E d e_d) (cwV (bytes := cX9_isLatched) (maxL := 3) (ret := (some .boolean)) 2 S.2.2.2.2 gX9_fault_X9_isLatched rfl rfl rfl (by decide +kernel) ⟨Nat.le_of_ble_eq_true rfl, Nat.le_of_ble_eq_true rfl⟩) (rfl : sh 161 = 9) rfl rfl rfl (by decide) rfl hl.1 rfl (Nat.le_of_ble_eq_true rfl) ⟨Nat.zero_le _, Nat.zero_le _⟩ dX9_fault_57 (fun v I1 L1 H locs hR G => ?_)
  obtain ⟨hv, hI, hL⟩ := hR
  subst hv
  have G : GS E I L sg H locs := G.same hI hL
  refine W.eq (g2 := F0 mg 60 ls [.int (if ¬ d 85 = -1 then 1 else 0)]) rfl ?_
  refine s_if_ne_b (P := ¬ d 85 = -1) (tgt := 74) S dX9_fault_60 (by decide) (fun c_1 => ?_) (fun c_1 => ?_)
  · refine lv_iload_n S.1 S.2.1 dX9_fault_74 rfl (lv_at hl 3 rfl) ?_
    refine lv_if_ne (tgt := 82) S.1 S.2.1 dX9_fault_75 (by decide) (fun _ => ?_) (fun h => absurd h (by decide))
    refine lv_iload_n S.1 S.2.1 dX9_fault_82 rfl (lv_at hl 3 rfl) ?_
    refine lv_iconst (v := (3 : Int32)) S.1 S.2.1 dX9_fault_83 (by decide) ?_
    refine lv_icmp_ne (tgt := 96) S.1 S.2.1 dX9_fault_84 (by decide) (fun _ => ?_) (fun h => absurd h (by decide))
    refine lv_aload_n S.1 S.2.1 dX9_fault_96 rfl (lv_at hl 0 rfl) ?_
    refine s_get S hX G (i := 161) (kd := 9) (a := (I 161)) (v := .ref (E.2.2.2 162)) (C := RX9) (T := TX9) (N := 13) 0 (rfl : sh 161 = 9) rfl rfl rfl (by decide) rfl (fun _ h => (List.mem_cons_of_mem _ (List.mem_append_right _ h))) (by decide) (List.mem_of_getElem? (i := 5) rfl) (fun _ h => h) dX9_fault_97 ?_
    refine lv_iload_n S.1 S.2.1 dX9_fault_100 rfl (lv_at hl 1 rfl) ?_
    refine s_callS (As := [.int (1 : Int32)]) (rest := [.ref (E.2.2.2 162)]) S hX G (k_X9_loadAt_1 l E) (va_cwS (bytes := cX9_loadAt) (maxL := 1) (ret := (some .int)) 1 S.2.2.2.2 gX9_fault_X9_loadAt rfl rfl rfl (by decide +kernel) ⟨Nat.le_of_ble_eq_true rfl, Nat.le_of_ble_eq_true rfl⟩) rfl hl.1 rfl (Nat.le_of_ble_eq_true rfl) ⟨Nat.zero_le _, Nat.zero_le _⟩ dX9_fault_101 (fun v I1 L1 H locs hR G => ?_)
    obtain ⟨hv, hI, hL⟩ := hR
    subst hv
    have G : GS E I L sg H locs := G.same hI hL
    refine W.eq (g2 := F0 mg 104 ls [.int (70 : Int32), .ref (E.2.2.2 162)]) rfl ?_
    refine lv_bipush (v := (12 : Int32)) S.1 S.2.1 dX9_fault_104 (by decide) ?_
    refine s_iadd (v := (82 : Int32)) S dX9_fault_106 (by decide) ?_
    refine lv_iconst (v := (3 : Int32)) S.1 S.2.1 dX9_fault_107 (by decide) ?_
    refine lv_iload_n S.1 S.2.1 dX9_fault_108 rfl (lv_at hl 2 rfl) ?_
    refine s_imul (v := (3 : Int32)) S dX9_fault_109 (by decide) ?_
    refine s_iadd (v := (85 : Int32)) S dX9_fault_110 (by decide) ?_
    refine lv_iload_n S.1 S.2.1 dX9_fault_111 rfl (lv_at hl 3 rfl) ?_
    refine s_iadd (v := (86 : Int32)) S dX9_fault_112 (by decide) ?_
    refine lv_iconst (v := (1 : Int32)) S.1 S.2.1 dX9_fault_113 (by decide) ?_
    refine s_isub (v := (85 : Int32)) S dX9_fault_114 (by decide) ?_
    refine s_iald S hX G (i := 162) (kd := 284) (n := 270) (a := d) (x := (d 85)) (rfl : sh 162 = 284) e_d rfl (by decide) (by unfold vp_in; decide) (congrArg d (by decide)) dX9_fault_115 ?_
    refine s_iret (x := (d 85)) S G hr hlk dX9_fault_116 ?_
    exact ⟨(congrArg (fun q : Int32 => some (Value.int q)) (show (d 85) = (if ¬ d 85 = -1 then d 85 else (-2000000004 : Int32)) by first | exact (if_pos c_1).symm | exact (if_neg c_1).symm)), rfl, rfl⟩
  · refine lv_iload_n S.1 S.2.1 dX9_fault_63 rfl (lv_at hl 3 rfl) ?_
    refine lv_if_ne (tgt := 71) S.1 S.2.1 dX9_fault_64 (by decide) (fun _ => ?_) (fun h => absurd h (by decide))
    refine lv_ldc (v := (-2000000004 : Int32)) S.1 S.2.1 S.2.2.2.1 (S.2.2.2.2 _ (List.mem_of_getElem? (i := 4) rfl)) dX9_fault_71 ?_
    refine s_iret (x := (-2000000004 : Int32)) S G hr hlk dX9_fault_73 ?_
    exact ⟨(congrArg (fun q : Int32 => some (Value.int q)) (show (-2000000004 : Int32) = (if ¬ d 85 = -1 then d 85 else (-2000000004 : Int32)) by first | exact (if_pos c_1).symm | exact (if_neg c_1).symm)), rfl, rfl⟩
set_option maxHeartbeats 4000000 in
set_option maxRecDepth 100000 in
theorem k_X9_fault_1_1_2 (l : Launch) (E : Ev) {I : SI} {L : SL} (d : Nat → Int32) (e_d : I (162) = d) : CS l yX9_fault wsX9_fault ({ frames := 2, cells := 0, slots := 0, locals := 45 }) E [.ref (E.2.2.2 161), .int (1 : Int32), .int (1 : Int32), .int (2 : Int32)] I L (fun vv I' L' => vv = some (.int (if ¬ d 85 = -1 then d 86 else (-2000000004 : Int32))) ∧ I' = I ∧ L' = L) := by
  refine CS.of (cc := cX9_fault) (maxL := 4) (ret := (some .int)) (by decide) rfl (Nat.le_of_ble_eq_true rfl) ?_
  intro pg en sg mg below meth cg ls S hr hlk hX G hl
  have S : CallFix pg mg cg cX9_fault 4 sg _ wsX9_fault RX9 := S
  have hl : lv_has ls 4 [(0, .ref (E.2.2.2 161)), (1, .int (1 : Int32)), (2, .int (1 : Int32)), (3, .int (2 : Int32))] := hl
  refine lv_iload_n S.1 S.2.1 dX9_fault_0 rfl (lv_at hl 1 rfl) ?_
  refine s_callS (As := [.int (1 : Int32)]) (rest := []) S hX G (k_X9_isLoad l E (1 : Int32)) (va_cwS (bytes := cX9_isLoad) (maxL := 1) (ret := (some .boolean)) 1 S.2.2.2.2 gX9_fault_X9_isLoad rfl rfl rfl (by decide +kernel) ⟨Nat.le_of_ble_eq_true rfl, Nat.le_of_ble_eq_true rfl⟩) rfl hl.1 rfl (Nat.le_of_ble_eq_true rfl) ⟨Nat.zero_le _, Nat.zero_le _⟩ dX9_fault_1 (fun v I1 L1 H locs hR G => ?_)
  obtain ⟨hv, hI, hL⟩ := hR
  subst hv
  have G : GS E I L sg H locs := G.same hI hL
  refine W.eq (g2 := F0 mg 4 ls [.int (if ¬ (1 : Int32) < (0 : Int32) ∧ ¬ (1 : Int32) < (1 : Int32) then 1 else 0)]) rfl ?_
  refine s_if_eq_b (P := ¬ (1 : Int32) < (0 : Int32) ∧ ¬ (1 : Int32) < (1 : Int32)) (tgt := 31) S dX9_fault_4 (by decide) (fun h => absurd (by decide) h) (fun _ => ?_)
  refine lv_iload_n S.1 S.2.1 dX9_fault_7 rfl (lv_at hl 2 rfl) ?_
  refine lv_i2l (v := (1 : Int64)) S.1 S.2.1 dX9_fault_8 (by decide) ?_
  refine lv_lconst (v := (0 : Int64)) S.1 S.2.1 dX9_fault_9 (by decide) ?_
  refine lv_ldc2 (v := (2 : Int64)) S.1 S.2.1 S.2.2.2.1 (S.2.2.2.2 _ (List.mem_of_getElem? (i := 1) rfl)) dX9_fault_10 ?_
  refine s_callS (As := [.long (1 : Int64), .long (0 : Int64), .long (2 : Int64)]) (rest := []) S hX G (k_X9_in l E (1 : Int64) (0 : Int64) (2 : Int64)) (va_cwS (bytes := cX9_in) (maxL := 6) (ret := (some .boolean)) 3 S.2.2.2.2 gX9_fault_X9_in rfl rfl rfl (by decide +kernel) ⟨Nat.le_of_ble_eq_true rfl, Nat.le_of_ble_eq_true rfl⟩) rfl hl.1 rfl (Nat.le_of_ble_eq_true rfl) ⟨Nat.zero_le _, Nat.zero_le _⟩ dX9_fault_13 (fun v I1 L1 H locs hR G => ?_)
  obtain ⟨hv, hI, hL⟩ := hR
  subst hv
  have G : GS E I L sg H locs := G.same hI hL
  refine W.eq (g2 := F0 mg 16 ls [.int (if ¬ (1 : Int64) < (0 : Int64) ∧ ¬ (2 : Int64) < (1 : Int64) then 1 else 0)]) rfl ?_
  refine s_if_eq_b (P := ¬ (1 : Int64) < (0 : Int64) ∧ ¬ (2 : Int64) < (1 : Int64)) (tgt := 31) S dX9_fault_16 (by decide) (fun h => absurd (by decide) h) (fun _ => ?_)
  refine lv_iload_n S.1 S.2.1 dX9_fault_19 rfl (lv_at hl 3 rfl) ?_
  refine lv_i2l (v := (2 : Int64)) S.1 S.2.1 dX9_fault_20 (by decide) ?_
  refine lv_lconst (v := (0 : Int64)) S.1 S.2.1 dX9_fault_21 (by decide) ?_
  refine lv_ldc2 (v := (4 : Int64)) S.1 S.2.1 S.2.2.2.1 (S.2.2.2.2 _ (List.mem_of_getElem? (i := 2) rfl)) dX9_fault_22 ?_
  refine s_callS (As := [.long (2 : Int64), .long (0 : Int64), .long (4 : Int64)]) (rest := []) S hX G (k_X9_in l E (2 : Int64) (0 : Int64) (4 : Int64)) (va_cwS (bytes := cX9_in) (maxL := 6) (ret := (some .boolean)) 3 S.2.2.2.2 gX9_fault_X9_in rfl rfl rfl (by decide +kernel) ⟨Nat.le_of_ble_eq_true rfl, Nat.le_of_ble_eq_true rfl⟩) rfl hl.1 rfl (Nat.le_of_ble_eq_true rfl) ⟨Nat.zero_le _, Nat.zero_le _⟩ dX9_fault_25 (fun v I1 L1 H locs hR G => ?_)
  obtain ⟨hv, hI, hL⟩ := hR
  subst hv
  have G : GS E I L sg H locs := G.same hI hL
  refine W.eq (g2 := F0 mg 28 ls [.int (if ¬ (2 : Int64) < (0 : Int64) ∧ ¬ (4 : Int64) < (2 : Int64) then 1 else 0)]) rfl ?_
  refine s_if_ne_b (P := ¬ (2 : Int64) < (0 : Int64) ∧ ¬ (4 : Int64) < (2 : Int64)) (tgt := 34) S dX9_fault_28 (by decide) (fun _ => ?_) (fun h => absurd (by decide) h)
  refine lv_iload_n S.1 S.2.1 dX9_fault_34 rfl (lv_at hl 3 rfl) ?_
  refine lv_iconst (v := (4 : Int32)) S.1 S.2.1 dX9_fault_35 (by decide) ?_
  refine lv_icmp_ne (tgt := 54) S.1 S.2.1 dX9_fault_36 (by decide) (fun _ => ?_) (fun h => absurd h (by decide))
  refine lv_aload_n S.1 S.2.1 dX9_fault_54 rfl (lv_at hl 0 rfl) ?_
  refine lv_iload_n S.1 S.2.1 dX9_fault_55 rfl (lv_at hl 1 rfl) ?_
  refine lv_iload_n S.1 S.2.1 dX9_fault_56 rfl (lv_at hl 2 rfl) ?_
  refine s_callV (C := RX9) (As := [.int (1 : Int32), .int (1 : Int32)]) (rest := []) (i := 161) (kd := 9) S hX G (k_X9_isLatched_1_1 l E d e_d) (cwV (bytes := cX9_isLatched) (maxL := 3) (ret := (some .boolean)) 2 S.2.2.2.2 gX9_fault_X9_isLatched rfl rfl rfl (by decide +kernel) ⟨Nat.le_of_ble_eq_true rfl, Nat.le_of_ble_eq_true rfl⟩) (rfl : sh 161 = 9) rfl rfl rfl (by decide) rfl hl.1 rfl (Nat.le_of_ble_eq_true rfl) ⟨Nat.zero_le _, Nat.zero_le _⟩ dX9_fault_57 (fun v I1 L1 H locs hR G => ?_)
  obtain ⟨hv, hI, hL⟩ := hR
  subst hv
  have G : GS E I L sg H locs := G.same hI hL
  refine W.eq (g2 := F0 mg 60 ls [.int (if ¬ d 85 = -1 then 1 else 0)]) rfl ?_
  refine s_if_ne_b (P := ¬ d 85 = -1) (tgt := 74) S dX9_fault_60 (by decide) (fun c_1 => ?_) (fun c_1 => ?_)
  · refine lv_iload_n S.1 S.2.1 dX9_fault_74 rfl (lv_at hl 3 rfl) ?_
    refine lv_if_ne (tgt := 82) S.1 S.2.1 dX9_fault_75 (by decide) (fun _ => ?_) (fun h => absurd h (by decide))
    refine lv_iload_n S.1 S.2.1 dX9_fault_82 rfl (lv_at hl 3 rfl) ?_
    refine lv_iconst (v := (3 : Int32)) S.1 S.2.1 dX9_fault_83 (by decide) ?_
    refine lv_icmp_ne (tgt := 96) S.1 S.2.1 dX9_fault_84 (by decide) (fun _ => ?_) (fun h => absurd h (by decide))
    refine lv_aload_n S.1 S.2.1 dX9_fault_96 rfl (lv_at hl 0 rfl) ?_
    refine s_get S hX G (i := 161) (kd := 9) (a := (I 161)) (v := .ref (E.2.2.2 162)) (C := RX9) (T := TX9) (N := 13) 0 (rfl : sh 161 = 9) rfl rfl rfl (by decide) rfl (fun _ h => (List.mem_cons_of_mem _ (List.mem_append_right _ h))) (by decide) (List.mem_of_getElem? (i := 5) rfl) (fun _ h => h) dX9_fault_97 ?_
    refine lv_iload_n S.1 S.2.1 dX9_fault_100 rfl (lv_at hl 1 rfl) ?_
    refine s_callS (As := [.int (1 : Int32)]) (rest := [.ref (E.2.2.2 162)]) S hX G (k_X9_loadAt_1 l E) (va_cwS (bytes := cX9_loadAt) (maxL := 1) (ret := (some .int)) 1 S.2.2.2.2 gX9_fault_X9_loadAt rfl rfl rfl (by decide +kernel) ⟨Nat.le_of_ble_eq_true rfl, Nat.le_of_ble_eq_true rfl⟩) rfl hl.1 rfl (Nat.le_of_ble_eq_true rfl) ⟨Nat.zero_le _, Nat.zero_le _⟩ dX9_fault_101 (fun v I1 L1 H locs hR G => ?_)
    obtain ⟨hv, hI, hL⟩ := hR
    subst hv
    have G : GS E I L sg H locs := G.same hI hL
    refine W.eq (g2 := F0 mg 104 ls [.int (70 : Int32), .ref (E.2.2.2 162)]) rfl ?_
    refine lv_bipush (v := (12 : Int32)) S.1 S.2.1 dX9_fault_104 (by decide) ?_
    refine s_iadd (v := (82 : Int32)) S dX9_fault_106 (by decide) ?_
    refine lv_iconst (v := (3 : Int32)) S.1 S.2.1 dX9_fault_107 (by decide) ?_
    refine lv_iload_n S.1 S.2.1 dX9_fault_108 rfl (lv_at hl 2 rfl) ?_
    refine s_imul (v := (3 : Int32)) S dX9_fault_109 (by decide) ?_
    refine s_iadd (v := (85 : Int32)) S dX9_fault_110 (by decide) ?_
    refine lv_iload_n S.1 S.2.1 dX9_fault_111 rfl (lv_at hl 3 rfl) ?_
    refine s_iadd (v := (87 : Int32)) S dX9_fault_112 (by decide) ?_
    refine lv_iconst (v := (1 : Int32)) S.1 S.2.1 dX9_fault_113 (by decide) ?_
    refine s_isub (v := (86 : Int32)) S dX9_fault_114 (by decide) ?_
    refine s_iald S hX G (i := 162) (kd := 284) (n := 270) (a := d) (x := (d 86)) (rfl : sh 162 = 284) e_d rfl (by decide) (by unfold vp_in; decide) (congrArg d (by decide)) dX9_fault_115 ?_
    refine s_iret (x := (d 86)) S G hr hlk dX9_fault_116 ?_
    exact ⟨(congrArg (fun q : Int32 => some (Value.int q)) (show (d 86) = (if ¬ d 85 = -1 then d 86 else (-2000000004 : Int32)) by first | exact (if_pos c_1).symm | exact (if_neg c_1).symm)), rfl, rfl⟩
  · refine lv_iload_n S.1 S.2.1 dX9_fault_63 rfl (lv_at hl 3 rfl) ?_
    refine lv_if_ne (tgt := 71) S.1 S.2.1 dX9_fault_64 (by decide) (fun _ => ?_) (fun h => absurd h (by decide))
    refine lv_ldc (v := (-2000000004 : Int32)) S.1 S.2.1 S.2.2.2.1 (S.2.2.2.2 _ (List.mem_of_getElem? (i := 4) rfl)) dX9_fault_71 ?_
    refine s_iret (x := (-2000000004 : Int32)) S G hr hlk dX9_fault_73 ?_
    exact ⟨(congrArg (fun q : Int32 => some (Value.int q)) (show (-2000000004 : Int32) = (if ¬ d 85 = -1 then d 86 else (-2000000004 : Int32)) by first | exact (if_pos c_1).symm | exact (if_neg c_1).symm)), rfl, rfl⟩
set_option maxHeartbeats 4000000 in
set_option maxRecDepth 100000 in
theorem k_X9_fault_1_1_3 (l : Launch) (E : Ev) {I : SI} {L : SL} (d : Nat → Int32) (e_d : I (162) = d) : CS l yX9_fault wsX9_fault ({ frames := 3, cells := 0, slots := 0, locals := 66 }) E [.ref (E.2.2.2 161), .int (1 : Int32), .int (1 : Int32), .int (3 : Int32)] I L (fun vv I' L' => vv = some (.int (if ¬ d 85 = -1 then plcM d 70 1 else (-2000000004 : Int32))) ∧ I' = I ∧ L' = L) := by
  refine CS.of (cc := cX9_fault) (maxL := 4) (ret := (some .int)) (by decide) rfl (Nat.le_of_ble_eq_true rfl) ?_
  intro pg en sg mg below meth cg ls S hr hlk hX G hl
  have S : CallFix pg mg cg cX9_fault 4 sg _ wsX9_fault RX9 := S
  have hl : lv_has ls 4 [(0, .ref (E.2.2.2 161)), (1, .int (1 : Int32)), (2, .int (1 : Int32)), (3, .int (3 : Int32))] := hl
  refine lv_iload_n S.1 S.2.1 dX9_fault_0 rfl (lv_at hl 1 rfl) ?_
  refine s_callS (As := [.int (1 : Int32)]) (rest := []) S hX G (k_X9_isLoad l E (1 : Int32)) (va_cwS (bytes := cX9_isLoad) (maxL := 1) (ret := (some .boolean)) 1 S.2.2.2.2 gX9_fault_X9_isLoad rfl rfl rfl (by decide +kernel) ⟨Nat.le_of_ble_eq_true rfl, Nat.le_of_ble_eq_true rfl⟩) rfl hl.1 rfl (Nat.le_of_ble_eq_true rfl) ⟨Nat.zero_le _, Nat.zero_le _⟩ dX9_fault_1 (fun v I1 L1 H locs hR G => ?_)
  obtain ⟨hv, hI, hL⟩ := hR
  subst hv
  have G : GS E I L sg H locs := G.same hI hL
  refine W.eq (g2 := F0 mg 4 ls [.int (if ¬ (1 : Int32) < (0 : Int32) ∧ ¬ (1 : Int32) < (1 : Int32) then 1 else 0)]) rfl ?_
  refine s_if_eq_b (P := ¬ (1 : Int32) < (0 : Int32) ∧ ¬ (1 : Int32) < (1 : Int32)) (tgt := 31) S dX9_fault_4 (by decide) (fun h => absurd (by decide) h) (fun _ => ?_)
  refine lv_iload_n S.1 S.2.1 dX9_fault_7 rfl (lv_at hl 2 rfl) ?_
  refine lv_i2l (v := (1 : Int64)) S.1 S.2.1 dX9_fault_8 (by decide) ?_
  refine lv_lconst (v := (0 : Int64)) S.1 S.2.1 dX9_fault_9 (by decide) ?_
  refine lv_ldc2 (v := (2 : Int64)) S.1 S.2.1 S.2.2.2.1 (S.2.2.2.2 _ (List.mem_of_getElem? (i := 1) rfl)) dX9_fault_10 ?_
  refine s_callS (As := [.long (1 : Int64), .long (0 : Int64), .long (2 : Int64)]) (rest := []) S hX G (k_X9_in l E (1 : Int64) (0 : Int64) (2 : Int64)) (va_cwS (bytes := cX9_in) (maxL := 6) (ret := (some .boolean)) 3 S.2.2.2.2 gX9_fault_X9_in rfl rfl rfl (by decide +kernel) ⟨Nat.le_of_ble_eq_true rfl, Nat.le_of_ble_eq_true rfl⟩) rfl hl.1 rfl (Nat.le_of_ble_eq_true rfl) ⟨Nat.zero_le _, Nat.zero_le _⟩ dX9_fault_13 (fun v I1 L1 H locs hR G => ?_)
  obtain ⟨hv, hI, hL⟩ := hR
  subst hv
  have G : GS E I L sg H locs := G.same hI hL
  refine W.eq (g2 := F0 mg 16 ls [.int (if ¬ (1 : Int64) < (0 : Int64) ∧ ¬ (2 : Int64) < (1 : Int64) then 1 else 0)]) rfl ?_
  refine s_if_eq_b (P := ¬ (1 : Int64) < (0 : Int64) ∧ ¬ (2 : Int64) < (1 : Int64)) (tgt := 31) S dX9_fault_16 (by decide) (fun h => absurd (by decide) h) (fun _ => ?_)
  refine lv_iload_n S.1 S.2.1 dX9_fault_19 rfl (lv_at hl 3 rfl) ?_
  refine lv_i2l (v := (3 : Int64)) S.1 S.2.1 dX9_fault_20 (by decide) ?_
  refine lv_lconst (v := (0 : Int64)) S.1 S.2.1 dX9_fault_21 (by decide) ?_
  refine lv_ldc2 (v := (4 : Int64)) S.1 S.2.1 S.2.2.2.1 (S.2.2.2.2 _ (List.mem_of_getElem? (i := 2) rfl)) dX9_fault_22 ?_
  refine s_callS (As := [.long (3 : Int64), .long (0 : Int64), .long (4 : Int64)]) (rest := []) S hX G (k_X9_in l E (3 : Int64) (0 : Int64) (4 : Int64)) (va_cwS (bytes := cX9_in) (maxL := 6) (ret := (some .boolean)) 3 S.2.2.2.2 gX9_fault_X9_in rfl rfl rfl (by decide +kernel) ⟨Nat.le_of_ble_eq_true rfl, Nat.le_of_ble_eq_true rfl⟩) rfl hl.1 rfl (Nat.le_of_ble_eq_true rfl) ⟨Nat.zero_le _, Nat.zero_le _⟩ dX9_fault_25 (fun v I1 L1 H locs hR G => ?_)
  obtain ⟨hv, hI, hL⟩ := hR
  subst hv
  have G : GS E I L sg H locs := G.same hI hL
  refine W.eq (g2 := F0 mg 28 ls [.int (if ¬ (3 : Int64) < (0 : Int64) ∧ ¬ (4 : Int64) < (3 : Int64) then 1 else 0)]) rfl ?_
  refine s_if_ne_b (P := ¬ (3 : Int64) < (0 : Int64) ∧ ¬ (4 : Int64) < (3 : Int64)) (tgt := 34) S dX9_fault_28 (by decide) (fun _ => ?_) (fun h => absurd (by decide) h)
  refine lv_iload_n S.1 S.2.1 dX9_fault_34 rfl (lv_at hl 3 rfl) ?_
  refine lv_iconst (v := (4 : Int32)) S.1 S.2.1 dX9_fault_35 (by decide) ?_
  refine lv_icmp_ne (tgt := 54) S.1 S.2.1 dX9_fault_36 (by decide) (fun _ => ?_) (fun h => absurd h (by decide))
  refine lv_aload_n S.1 S.2.1 dX9_fault_54 rfl (lv_at hl 0 rfl) ?_
  refine lv_iload_n S.1 S.2.1 dX9_fault_55 rfl (lv_at hl 1 rfl) ?_
  refine lv_iload_n S.1 S.2.1 dX9_fault_56 rfl (lv_at hl 2 rfl) ?_
  refine s_callV (C := RX9) (As := [.int (1 : Int32), .int (1 : Int32)]) (rest := []) (i := 161) (kd := 9) S hX G (k_X9_isLatched_1_1 l E d e_d) (cwV (bytes := cX9_isLatched) (maxL := 3) (ret := (some .boolean)) 2 S.2.2.2.2 gX9_fault_X9_isLatched rfl rfl rfl (by decide +kernel) ⟨Nat.le_of_ble_eq_true rfl, Nat.le_of_ble_eq_true rfl⟩) (rfl : sh 161 = 9) rfl rfl rfl (by decide) rfl hl.1 rfl (Nat.le_of_ble_eq_true rfl) ⟨Nat.zero_le _, Nat.zero_le _⟩ dX9_fault_57 (fun v I1 L1 H locs hR G => ?_)
  obtain ⟨hv, hI, hL⟩ := hR
  subst hv
  have G : GS E I L sg H locs := G.same hI hL
  refine W.eq (g2 := F0 mg 60 ls [.int (if ¬ d 85 = -1 then 1 else 0)]) rfl ?_
  refine s_if_ne_b (P := ¬ d 85 = -1) (tgt := 74) S dX9_fault_60 (by decide) (fun c_1 => ?_) (fun c_1 => ?_)
  · refine lv_iload_n S.1 S.2.1 dX9_fault_74 rfl (lv_at hl 3 rfl) ?_
    refine lv_if_ne (tgt := 82) S.1 S.2.1 dX9_fault_75 (by decide) (fun _ => ?_) (fun h => absurd h (by decide))
    refine lv_iload_n S.1 S.2.1 dX9_fault_82 rfl (lv_at hl 3 rfl) ?_
    refine lv_iconst (v := (3 : Int32)) S.1 S.2.1 dX9_fault_83 (by decide) ?_
    refine lv_icmp_ne (tgt := 96) S.1 S.2.1 dX9_fault_84 (by decide) (fun h => absurd (by decide) h) (fun _ => ?_)
    refine lv_aload_n S.1 S.2.1 dX9_fault_87 rfl (lv_at hl 0 rfl) ?_
    refine lv_iload_n S.1 S.2.1 dX9_fault_88 rfl (lv_at hl 1 rfl) ?_
    refine lv_iload_n S.1 S.2.1 dX9_fault_89 rfl (lv_at hl 2 rfl) ?_
    refine s_callV (C := RX9) (As := [.int (1 : Int32), .int (1 : Int32)]) (rest := []) (i := 161) (kd := 9) S hX G (k_X9_placeOf_1_1 l E d e_d) (cwV (bytes := cX9_placeOf) (maxL := 5) (ret := (some .int)) 2 S.2.2.2.2 gX9_fault_X9_placeOf rfl rfl rfl (by decide +kernel) ⟨Nat.le_of_ble_eq_true rfl, Nat.le_of_ble_eq_true rfl⟩) (rfl : sh 161 = 9) rfl rfl rfl (by decide) rfl hl.1 rfl (Nat.le_of_ble_eq_true rfl) ⟨Nat.zero_le _, Nat.zero_le _⟩ dX9_fault_90 (fun v I1 L1 H locs hR G => ?_)
    obtain ⟨hv, hI, hL⟩ := hR
    subst hv
    have G : GS E I L sg H locs := G.same hI hL
    refine W.eq (g2 := F0 mg 93 ls [.int (plcM d 70 1)]) rfl ?_
    refine lv_topi (fun y_2 ey_2 => ?_)
    refine lv_goto (tgt := 116) S.1 S.2.1 dX9_fault_93 (by decide) ?_
    refine s_iret (x := y_2) S G hr hlk dX9_fault_116 ?_
    exact ⟨(congrArg (fun q : Int32 => some (Value.int q)) (show y_2 = (if ¬ d 85 = -1 then plcM d 70 1 else (-2000000004 : Int32)) by subst ey_2; (first | exact (if_pos c_1).symm | exact (if_neg c_1).symm))), rfl, rfl⟩
  · refine lv_iload_n S.1 S.2.1 dX9_fault_63 rfl (lv_at hl 3 rfl) ?_
    refine lv_if_ne (tgt := 71) S.1 S.2.1 dX9_fault_64 (by decide) (fun _ => ?_) (fun h => absurd h (by decide))
    refine lv_ldc (v := (-2000000004 : Int32)) S.1 S.2.1 S.2.2.2.1 (S.2.2.2.2 _ (List.mem_of_getElem? (i := 4) rfl)) dX9_fault_71 ?_
    refine s_iret (x := (-2000000004 : Int32)) S G hr hlk dX9_fault_73 ?_
    exact ⟨(congrArg (fun q : Int32 => some (Value.int q)) (show (-2000000004 : Int32) = (if ¬ d 85 = -1 then plcM d 70 1 else (-2000000004 : Int32)) by first | exact (if_pos c_1).symm | exact (if_neg c_1).symm)), rfl, rfl⟩
set_option maxHeartbeats 4000000 in
set_option maxRecDepth 100000 in
theorem k_X9_fault_1_1_4 (l : Launch) (E : Ev) {I : SI} {L : SL} (d : Nat → Int32) (e_d : I (162) = d) : CS l yX9_fault wsX9_fault ({ frames := 4, cells := 0, slots := 0, locals := 88 }) E [.ref (E.2.2.2 161), .int (1 : Int32), .int (1 : Int32), .int (4 : Int32)] I L (fun vv I' L' => vv = some (.int (if ¬ d 85 = -1 ∧ ¬ ¬ plcM d 70 1 ≤ 0 then 1 else 0)) ∧ I' = I ∧ L' = L) := by
  refine CS.of (cc := cX9_fault) (maxL := 4) (ret := (some .int)) (by decide) rfl (Nat.le_of_ble_eq_true rfl) ?_
  intro pg en sg mg below meth cg ls S hr hlk hX G hl
  have S : CallFix pg mg cg cX9_fault 4 sg _ wsX9_fault RX9 := S
  have hl : lv_has ls 4 [(0, .ref (E.2.2.2 161)), (1, .int (1 : Int32)), (2, .int (1 : Int32)), (3, .int (4 : Int32))] := hl
  refine lv_iload_n S.1 S.2.1 dX9_fault_0 rfl (lv_at hl 1 rfl) ?_
  refine s_callS (As := [.int (1 : Int32)]) (rest := []) S hX G (k_X9_isLoad l E (1 : Int32)) (va_cwS (bytes := cX9_isLoad) (maxL := 1) (ret := (some .boolean)) 1 S.2.2.2.2 gX9_fault_X9_isLoad rfl rfl rfl (by decide +kernel) ⟨Nat.le_of_ble_eq_true rfl, Nat.le_of_ble_eq_true rfl⟩) rfl hl.1 rfl (Nat.le_of_ble_eq_true rfl) ⟨Nat.zero_le _, Nat.zero_le _⟩ dX9_fault_1 (fun v I1 L1 H locs hR G => ?_)
  obtain ⟨hv, hI, hL⟩ := hR
  subst hv
  have G : GS E I L sg H locs := G.same hI hL
  refine W.eq (g2 := F0 mg 4 ls [.int (if ¬ (1 : Int32) < (0 : Int32) ∧ ¬ (1 : Int32) < (1 : Int32) then 1 else 0)]) rfl ?_
  refine s_if_eq_b (P := ¬ (1 : Int32) < (0 : Int32) ∧ ¬ (1 : Int32) < (1 : Int32)) (tgt := 31) S dX9_fault_4 (by decide) (fun h => absurd (by decide) h) (fun _ => ?_)
  refine lv_iload_n S.1 S.2.1 dX9_fault_7 rfl (lv_at hl 2 rfl) ?_
  refine lv_i2l (v := (1 : Int64)) S.1 S.2.1 dX9_fault_8 (by decide) ?_
  refine lv_lconst (v := (0 : Int64)) S.1 S.2.1 dX9_fault_9 (by decide) ?_
  refine lv_ldc2 (v := (2 : Int64)) S.1 S.2.1 S.2.2.2.1 (S.2.2.2.2 _ (List.mem_of_getElem? (i := 1) rfl)) dX9_fault_10 ?_
  refine s_callS (As := [.long (1 : Int64), .long (0 : Int64), .long (2 : Int64)]) (rest := []) S hX G (k_X9_in l E (1 : Int64) (0 : Int64) (2 : Int64)) (va_cwS (bytes := cX9_in) (maxL := 6) (ret := (some .boolean)) 3 S.2.2.2.2 gX9_fault_X9_in rfl rfl rfl (by decide +kernel) ⟨Nat.le_of_ble_eq_true rfl, Nat.le_of_ble_eq_true rfl⟩) rfl hl.1 rfl (Nat.le_of_ble_eq_true rfl) ⟨Nat.zero_le _, Nat.zero_le _⟩ dX9_fault_13 (fun v I1 L1 H locs hR G => ?_)
  obtain ⟨hv, hI, hL⟩ := hR
  subst hv
  have G : GS E I L sg H locs := G.same hI hL
  refine W.eq (g2 := F0 mg 16 ls [.int (if ¬ (1 : Int64) < (0 : Int64) ∧ ¬ (2 : Int64) < (1 : Int64) then 1 else 0)]) rfl ?_
  refine s_if_eq_b (P := ¬ (1 : Int64) < (0 : Int64) ∧ ¬ (2 : Int64) < (1 : Int64)) (tgt := 31) S dX9_fault_16 (by decide) (fun h => absurd (by decide) h) (fun _ => ?_)
  refine lv_iload_n S.1 S.2.1 dX9_fault_19 rfl (lv_at hl 3 rfl) ?_
  refine lv_i2l (v := (4 : Int64)) S.1 S.2.1 dX9_fault_20 (by decide) ?_
  refine lv_lconst (v := (0 : Int64)) S.1 S.2.1 dX9_fault_21 (by decide) ?_
  refine lv_ldc2 (v := (4 : Int64)) S.1 S.2.1 S.2.2.2.1 (S.2.2.2.2 _ (List.mem_of_getElem? (i := 2) rfl)) dX9_fault_22 ?_
  refine s_callS (As := [.long (4 : Int64), .long (0 : Int64), .long (4 : Int64)]) (rest := []) S hX G (k_X9_in l E (4 : Int64) (0 : Int64) (4 : Int64)) (va_cwS (bytes := cX9_in) (maxL := 6) (ret := (some .boolean)) 3 S.2.2.2.2 gX9_fault_X9_in rfl rfl rfl (by decide +kernel) ⟨Nat.le_of_ble_eq_true rfl, Nat.le_of_ble_eq_true rfl⟩) rfl hl.1 rfl (Nat.le_of_ble_eq_true rfl) ⟨Nat.zero_le _, Nat.zero_le _⟩ dX9_fault_25 (fun v I1 L1 H locs hR G => ?_)
  obtain ⟨hv, hI, hL⟩ := hR
  subst hv
  have G : GS E I L sg H locs := G.same hI hL
  refine W.eq (g2 := F0 mg 28 ls [.int (if ¬ (4 : Int64) < (0 : Int64) ∧ ¬ (4 : Int64) < (4 : Int64) then 1 else 0)]) rfl ?_
  refine s_if_ne_b (P := ¬ (4 : Int64) < (0 : Int64) ∧ ¬ (4 : Int64) < (4 : Int64)) (tgt := 34) S dX9_fault_28 (by decide) (fun _ => ?_) (fun h => absurd (by decide) h)
  refine lv_iload_n S.1 S.2.1 dX9_fault_34 rfl (lv_at hl 3 rfl) ?_
  refine lv_iconst (v := (4 : Int32)) S.1 S.2.1 dX9_fault_35 (by decide) ?_
  refine lv_icmp_ne (tgt := 54) S.1 S.2.1 dX9_fault_36 (by decide) (fun h => absurd (by decide) h) (fun _ => ?_)
  refine lv_aload_n S.1 S.2.1 dX9_fault_39 rfl (lv_at hl 0 rfl) ?_
  refine lv_iload_n S.1 S.2.1 dX9_fault_40 rfl (lv_at hl 1 rfl) ?_
  refine lv_iload_n S.1 S.2.1 dX9_fault_41 rfl (lv_at hl 2 rfl) ?_
  refine s_callV (C := RX9) (As := [.int (1 : Int32), .int (1 : Int32)]) (rest := []) (i := 161) (kd := 9) S hX G (k_X9_canClear_1_1 l E d e_d) (cwV (bytes := cX9_canClear) (maxL := 3) (ret := (some .boolean)) 2 S.2.2.2.2 gX9_fault_X9_canClear rfl rfl rfl (by decide +kernel) ⟨Nat.le_of_ble_eq_true rfl, Nat.le_of_ble_eq_true rfl⟩) (rfl : sh 161 = 9) rfl rfl rfl (by decide) rfl hl.1 rfl (Nat.le_of_ble_eq_true rfl) ⟨Nat.zero_le _, Nat.zero_le _⟩ dX9_fault_42 (fun v I1 L1 H locs hR G => ?_)
  obtain ⟨hv, hI, hL⟩ := hR
  subst hv
  have G : GS E I L sg H locs := G.same hI hL
  refine W.eq (g2 := F0 mg 45 ls [.int (if ¬ d 85 = -1 ∧ ¬ ¬ plcM d 70 1 ≤ 0 then 1 else 0)]) rfl ?_
  refine s_if_eq_b (P := ¬ d 85 = -1 ∧ ¬ ¬ plcM d 70 1 ≤ 0) (tgt := 52) S dX9_fault_45 (by decide) (fun c_1 => ?_) (fun c_1 => ?_)
  · refine lv_iconst (v := (0 : Int32)) S.1 S.2.1 dX9_fault_52 (by decide) ?_
    refine s_iret (x := (0 : Int32)) S G hr hlk dX9_fault_53 ?_
    exact ⟨(congrArg (fun q : Int32 => some (Value.int q)) (show (0 : Int32) = (if ¬ d 85 = -1 ∧ ¬ ¬ plcM d 70 1 ≤ 0 then 1 else 0) by first | exact (if_pos c_1).symm | exact (if_neg c_1).symm)), rfl, rfl⟩
  · refine lv_iconst (v := (1 : Int32)) S.1 S.2.1 dX9_fault_48 (by decide) ?_
    refine lv_goto (tgt := 53) S.1 S.2.1 dX9_fault_49 (by decide) ?_
    refine s_iret (x := (1 : Int32)) S G hr hlk dX9_fault_53 ?_
    exact ⟨(congrArg (fun q : Int32 => some (Value.int q)) (show (1 : Int32) = (if ¬ d 85 = -1 ∧ ¬ ¬ plcM d 70 1 ≤ 0 then 1 else 0) by first | exact (if_pos c_1).symm | exact (if_neg c_1).symm)), rfl, rfl⟩
set_option maxHeartbeats 4000000 in
set_option maxRecDepth 100000 in
theorem k_X9_fault_1_2_0 (l : Launch) (E : Ev) {I : SI} {L : SL} (d : Nat → Int32) (e_d : I (162) = d) : CS l yX9_fault wsX9_fault ({ frames := 2, cells := 0, slots := 0, locals := 45 }) E [.ref (E.2.2.2 161), .int (1 : Int32), .int (2 : Int32), .int (0 : Int32)] I L (fun vv I' L' => vv = some (.int (if ¬ d 88 = -1 then 1 else 0)) ∧ I' = I ∧ L' = L) := by
  refine CS.of (cc := cX9_fault) (maxL := 4) (ret := (some .int)) (by decide) rfl (Nat.le_of_ble_eq_true rfl) ?_
  intro pg en sg mg below meth cg ls S hr hlk hX G hl
  have S : CallFix pg mg cg cX9_fault 4 sg _ wsX9_fault RX9 := S
  have hl : lv_has ls 4 [(0, .ref (E.2.2.2 161)), (1, .int (1 : Int32)), (2, .int (2 : Int32)), (3, .int (0 : Int32))] := hl
  refine lv_iload_n S.1 S.2.1 dX9_fault_0 rfl (lv_at hl 1 rfl) ?_
  refine s_callS (As := [.int (1 : Int32)]) (rest := []) S hX G (k_X9_isLoad l E (1 : Int32)) (va_cwS (bytes := cX9_isLoad) (maxL := 1) (ret := (some .boolean)) 1 S.2.2.2.2 gX9_fault_X9_isLoad rfl rfl rfl (by decide +kernel) ⟨Nat.le_of_ble_eq_true rfl, Nat.le_of_ble_eq_true rfl⟩) rfl hl.1 rfl (Nat.le_of_ble_eq_true rfl) ⟨Nat.zero_le _, Nat.zero_le _⟩ dX9_fault_1 (fun v I1 L1 H locs hR G => ?_)
  obtain ⟨hv, hI, hL⟩ := hR
  subst hv
  have G : GS E I L sg H locs := G.same hI hL
  refine W.eq (g2 := F0 mg 4 ls [.int (if ¬ (1 : Int32) < (0 : Int32) ∧ ¬ (1 : Int32) < (1 : Int32) then 1 else 0)]) rfl ?_
  refine s_if_eq_b (P := ¬ (1 : Int32) < (0 : Int32) ∧ ¬ (1 : Int32) < (1 : Int32)) (tgt := 31) S dX9_fault_4 (by decide) (fun h => absurd (by decide) h) (fun _ => ?_)
  refine lv_iload_n S.1 S.2.1 dX9_fault_7 rfl (lv_at hl 2 rfl) ?_
  refine lv_i2l (v := (2 : Int64)) S.1 S.2.1 dX9_fault_8 (by decide) ?_
  refine lv_lconst (v := (0 : Int64)) S.1 S.2.1 dX9_fault_9 (by decide) ?_
  refine lv_ldc2 (v := (2 : Int64)) S.1 S.2.1 S.2.2.2.1 (S.2.2.2.2 _ (List.mem_of_getElem? (i := 1) rfl)) dX9_fault_10 ?_
  refine s_callS (As := [.long (2 : Int64), .long (0 : Int64), .long (2 : Int64)]) (rest := []) S hX G (k_X9_in l E (2 : Int64) (0 : Int64) (2 : Int64)) (va_cwS (bytes := cX9_in) (maxL := 6) (ret := (some .boolean)) 3 S.2.2.2.2 gX9_fault_X9_in rfl rfl rfl (by decide +kernel) ⟨Nat.le_of_ble_eq_true rfl, Nat.le_of_ble_eq_true rfl⟩) rfl hl.1 rfl (Nat.le_of_ble_eq_true rfl) ⟨Nat.zero_le _, Nat.zero_le _⟩ dX9_fault_13 (fun v I1 L1 H locs hR G => ?_)
  obtain ⟨hv, hI, hL⟩ := hR
  subst hv
  have G : GS E I L sg H locs := G.same hI hL
  refine W.eq (g2 := F0 mg 16 ls [.int (if ¬ (2 : Int64) < (0 : Int64) ∧ ¬ (2 : Int64) < (2 : Int64) then 1 else 0)]) rfl ?_
  refine s_if_eq_b (P := ¬ (2 : Int64) < (0 : Int64) ∧ ¬ (2 : Int64) < (2 : Int64)) (tgt := 31) S dX9_fault_16 (by decide) (fun h => absurd (by decide) h) (fun _ => ?_)
  refine lv_iload_n S.1 S.2.1 dX9_fault_19 rfl (lv_at hl 3 rfl) ?_
  refine lv_i2l (v := (0 : Int64)) S.1 S.2.1 dX9_fault_20 (by decide) ?_
  refine lv_lconst (v := (0 : Int64)) S.1 S.2.1 dX9_fault_21 (by decide) ?_
  refine lv_ldc2 (v := (4 : Int64)) S.1 S.2.1 S.2.2.2.1 (S.2.2.2.2 _ (List.mem_of_getElem? (i := 2) rfl)) dX9_fault_22 ?_
  refine s_callS (As := [.long (0 : Int64), .long (0 : Int64), .long (4 : Int64)]) (rest := []) S hX G (k_X9_in l E (0 : Int64) (0 : Int64) (4 : Int64)) (va_cwS (bytes := cX9_in) (maxL := 6) (ret := (some .boolean)) 3 S.2.2.2.2 gX9_fault_X9_in rfl rfl rfl (by decide +kernel) ⟨Nat.le_of_ble_eq_true rfl, Nat.le_of_ble_eq_true rfl⟩) rfl hl.1 rfl (Nat.le_of_ble_eq_true rfl) ⟨Nat.zero_le _, Nat.zero_le _⟩ dX9_fault_25 (fun v I1 L1 H locs hR G => ?_)
  obtain ⟨hv, hI, hL⟩ := hR
  subst hv
  have G : GS E I L sg H locs := G.same hI hL
  refine W.eq (g2 := F0 mg 28 ls [.int (if ¬ (0 : Int64) < (0 : Int64) ∧ ¬ (4 : Int64) < (0 : Int64) then 1 else 0)]) rfl ?_
  refine s_if_ne_b (P := ¬ (0 : Int64) < (0 : Int64) ∧ ¬ (4 : Int64) < (0 : Int64)) (tgt := 34) S dX9_fault_28 (by decide) (fun _ => ?_) (fun h => absurd (by decide) h)
  refine lv_iload_n S.1 S.2.1 dX9_fault_34 rfl (lv_at hl 3 rfl) ?_
  refine lv_iconst (v := (4 : Int32)) S.1 S.2.1 dX9_fault_35 (by decide) ?_
  refine lv_icmp_ne (tgt := 54) S.1 S.2.1 dX9_fault_36 (by decide) (fun _ => ?_) (fun h => absurd h (by decide))
  refine lv_aload_n S.1 S.2.1 dX9_fault_54 rfl (lv_at hl 0 rfl) ?_
  refine lv_iload_n S.1 S.2.1 dX9_fault_55 rfl (lv_at hl 1 rfl) ?_
  refine lv_iload_n S.1 S.2.1 dX9_fault_56 rfl (lv_at hl 2 rfl) ?_
  refine s_callV (C := RX9) (As := [.int (1 : Int32), .int (2 : Int32)]) (rest := []) (i := 161) (kd := 9) S hX G (k_X9_isLatched_1_2 l E d e_d) (cwV (bytes := cX9_isLatched) (maxL := 3) (ret := (some .boolean)) 2 S.2.2.2.2 gX9_fault_X9_isLatched rfl rfl rfl (by decide +kernel) ⟨Nat.le_of_ble_eq_true rfl, Nat.le_of_ble_eq_true rfl⟩) (rfl : sh 161 = 9) rfl rfl rfl (by decide) rfl hl.1 rfl (Nat.le_of_ble_eq_true rfl) ⟨Nat.zero_le _, Nat.zero_le _⟩ dX9_fault_57 (fun v I1 L1 H locs hR G => ?_)
  obtain ⟨hv, hI, hL⟩ := hR
  subst hv
  have G : GS E I L sg H locs := G.same hI hL
  refine W.eq (g2 := F0 mg 60 ls [.int (if ¬ d 88 = -1 then 1 else 0)]) rfl ?_
  refine s_if_ne_b (P := ¬ d 88 = -1) (tgt := 74) S dX9_fault_60 (by decide) (fun c_1 => ?_) (fun c_1 => ?_)
  · refine lv_iload_n S.1 S.2.1 dX9_fault_74 rfl (lv_at hl 3 rfl) ?_
    refine lv_if_ne (tgt := 82) S.1 S.2.1 dX9_fault_75 (by decide) (fun h => absurd (by decide) h) (fun _ => ?_)
    refine lv_iconst (v := (1 : Int32)) S.1 S.2.1 dX9_fault_78 (by decide) ?_
    refine lv_goto (tgt := 116) S.1 S.2.1 dX9_fault_79 (by decide) ?_
    refine s_iret (x := (1 : Int32)) S G hr hlk dX9_fault_116 ?_
    exact ⟨(congrArg (fun q : Int32 => some (Value.int q)) (show (1 : Int32) = (if ¬ d 88 = -1 then 1 else 0) by first | exact (if_pos c_1).symm | exact (if_neg c_1).symm)), rfl, rfl⟩
  · refine lv_iload_n S.1 S.2.1 dX9_fault_63 rfl (lv_at hl 3 rfl) ?_
    refine lv_if_ne (tgt := 71) S.1 S.2.1 dX9_fault_64 (by decide) (fun h => absurd (by decide) h) (fun _ => ?_)
    refine lv_iconst (v := (0 : Int32)) S.1 S.2.1 dX9_fault_67 (by decide) ?_
    refine lv_goto (tgt := 73) S.1 S.2.1 dX9_fault_68 (by decide) ?_
    refine s_iret (x := (0 : Int32)) S G hr hlk dX9_fault_73 ?_
    exact ⟨(congrArg (fun q : Int32 => some (Value.int q)) (show (0 : Int32) = (if ¬ d 88 = -1 then 1 else 0) by first | exact (if_pos c_1).symm | exact (if_neg c_1).symm)), rfl, rfl⟩
set_option maxHeartbeats 4000000 in
set_option maxRecDepth 100000 in
theorem k_X9_fault_1_2_1 (l : Launch) (E : Ev) {I : SI} {L : SL} (d : Nat → Int32) (e_d : I (162) = d) : CS l yX9_fault wsX9_fault ({ frames := 2, cells := 0, slots := 0, locals := 45 }) E [.ref (E.2.2.2 161), .int (1 : Int32), .int (2 : Int32), .int (1 : Int32)] I L (fun vv I' L' => vv = some (.int (if ¬ d 88 = -1 then d 88 else (-2000000004 : Int32))) ∧ I' = I ∧ L' = L) := by
  refine CS.of (cc := cX9_fault) (maxL := 4) (ret := (some .int)) (by decide) rfl (Nat.le_of_ble_eq_true rfl) ?_
  intro pg en sg mg below meth cg ls S hr hlk hX G hl
  have S : CallFix pg mg cg cX9_fault 4 sg _ wsX9_fault RX9 := S
  have hl : lv_has ls 4 [(0, .ref (E.2.2.2 161)), (1, .int (1 : Int32)), (2, .int (2 : Int32)), (3, .int (1 : Int32))] := hl
  refine lv_iload_n S.1 S.2.1 dX9_fault_0 rfl (lv_at hl 1 rfl) ?_
  refine s_callS (As := [.int (1 : Int32)]) (rest := []) S hX G (k_X9_isLoad l E (1 : Int32)) (va_cwS (bytes := cX9_isLoad) (maxL := 1) (ret := (some .boolean)) 1 S.2.2.2.2 gX9_fault_X9_isLoad rfl rfl rfl (by decide +kernel) ⟨Nat.le_of_ble_eq_true rfl, Nat.le_of_ble_eq_true rfl⟩) rfl hl.1 rfl (Nat.le_of_ble_eq_true rfl) ⟨Nat.zero_le _, Nat.zero_le _⟩ dX9_fault_1 (fun v I1 L1 H locs hR G => ?_)
  obtain ⟨hv, hI, hL⟩ := hR
  subst hv
  have G : GS E I L sg H locs := G.same hI hL
  refine W.eq (g2 := F0 mg 4 ls [.int (if ¬ (1 : Int32) < (0 : Int32) ∧ ¬ (1 : Int32) < (1 : Int32) then 1 else 0)]) rfl ?_
  refine s_if_eq_b (P := ¬ (1 : Int32) < (0 : Int32) ∧ ¬ (1 : Int32) < (1 : Int32)) (tgt := 31) S dX9_fault_4 (by decide) (fun h => absurd (by decide) h) (fun _ => ?_)
  refine lv_iload_n S.1 S.2.1 dX9_fault_7 rfl (lv_at hl 2 rfl) ?_
  refine lv_i2l (v := (2 : Int64)) S.1 S.2.1 dX9_fault_8 (by decide) ?_
  refine lv_lconst (v := (0 : Int64)) S.1 S.2.1 dX9_fault_9 (by decide) ?_
  refine lv_ldc2 (v := (2 : Int64)) S.1 S.2.1 S.2.2.2.1 (S.2.2.2.2 _ (List.mem_of_getElem? (i := 1) rfl)) dX9_fault_10 ?_
  refine s_callS (As := [.long (2 : Int64), .long (0 : Int64), .long (2 : Int64)]) (rest := []) S hX G (k_X9_in l E (2 : Int64) (0 : Int64) (2 : Int64)) (va_cwS (bytes := cX9_in) (maxL := 6) (ret := (some .boolean)) 3 S.2.2.2.2 gX9_fault_X9_in rfl rfl rfl (by decide +kernel) ⟨Nat.le_of_ble_eq_true rfl, Nat.le_of_ble_eq_true rfl⟩) rfl hl.1 rfl (Nat.le_of_ble_eq_true rfl) ⟨Nat.zero_le _, Nat.zero_le _⟩ dX9_fault_13 (fun v I1 L1 H locs hR G => ?_)
  obtain ⟨hv, hI, hL⟩ := hR
  subst hv
  have G : GS E I L sg H locs := G.same hI hL
  refine W.eq (g2 := F0 mg 16 ls [.int (if ¬ (2 : Int64) < (0 : Int64) ∧ ¬ (2 : Int64) < (2 : Int64) then 1 else 0)]) rfl ?_
  refine s_if_eq_b (P := ¬ (2 : Int64) < (0 : Int64) ∧ ¬ (2 : Int64) < (2 : Int64)) (tgt := 31) S dX9_fault_16 (by decide) (fun h => absurd (by decide) h) (fun _ => ?_)
  refine lv_iload_n S.1 S.2.1 dX9_fault_19 rfl (lv_at hl 3 rfl) ?_
  refine lv_i2l (v := (1 : Int64)) S.1 S.2.1 dX9_fault_20 (by decide) ?_
  refine lv_lconst (v := (0 : Int64)) S.1 S.2.1 dX9_fault_21 (by decide) ?_
  refine lv_ldc2 (v := (4 : Int64)) S.1 S.2.1 S.2.2.2.1 (S.2.2.2.2 _ (List.mem_of_getElem? (i := 2) rfl)) dX9_fault_22 ?_
  refine s_callS (As := [.long (1 : Int64), .long (0 : Int64), .long (4 : Int64)]) (rest := []) S hX G (k_X9_in l E (1 : Int64) (0 : Int64) (4 : Int64)) (va_cwS (bytes := cX9_in) (maxL := 6) (ret := (some .boolean)) 3 S.2.2.2.2 gX9_fault_X9_in rfl rfl rfl (by decide +kernel) ⟨Nat.le_of_ble_eq_true rfl, Nat.le_of_ble_eq_true rfl⟩) rfl hl.1 rfl (Nat.le_of_ble_eq_true rfl) ⟨Nat.zero_le _, Nat.zero_le _⟩ dX9_fault_25 (fun v I1 L1 H locs hR G => ?_)
  obtain ⟨hv, hI, hL⟩ := hR
  subst hv
  have G : GS E I L sg H locs := G.same hI hL
  refine W.eq (g2 := F0 mg 28 ls [.int (if ¬ (1 : Int64) < (0 : Int64) ∧ ¬ (4 : Int64) < (1 : Int64) then 1 else 0)]) rfl ?_
  refine s_if_ne_b (P := ¬ (1 : Int64) < (0 : Int64) ∧ ¬ (4 : Int64) < (1 : Int64)) (tgt := 34) S dX9_fault_28 (by decide) (fun _ => ?_) (fun h => absurd (by decide) h)
  refine lv_iload_n S.1 S.2.1 dX9_fault_34 rfl (lv_at hl 3 rfl) ?_
  refine lv_iconst (v := (4 : Int32)) S.1 S.2.1 dX9_fault_35 (by decide) ?_
  refine lv_icmp_ne (tgt := 54) S.1 S.2.1 dX9_fault_36 (by decide) (fun _ => ?_) (fun h => absurd h (by decide))
  refine lv_aload_n S.1 S.2.1 dX9_fault_54 rfl (lv_at hl 0 rfl) ?_
  refine lv_iload_n S.1 S.2.1 dX9_fault_55 rfl (lv_at hl 1 rfl) ?_
  refine lv_iload_n S.1 S.2.1 dX9_fault_56 rfl (lv_at hl 2 rfl) ?_
  refine s_callV (C := RX9) (As := [.int (1 : Int32), .int (2 : Int32)]) (rest := []) (i := 161) (kd := 9) S hX G (k_X9_isLatched_1_2 l E d e_d) (cwV (bytes := cX9_isLatched) (maxL := 3) (ret := (some .boolean)) 2 S.2.2.2.2 gX9_fault_X9_isLatched rfl rfl rfl (by decide +kernel) ⟨Nat.le_of_ble_eq_true rfl, Nat.le_of_ble_eq_true rfl⟩) (rfl : sh 161 = 9) rfl rfl rfl (by decide) rfl hl.1 rfl (Nat.le_of_ble_eq_true rfl) ⟨Nat.zero_le _, Nat.zero_le _⟩ dX9_fault_57 (fun v I1 L1 H locs hR G => ?_)
  obtain ⟨hv, hI, hL⟩ := hR
  subst hv
  have G : GS E I L sg H locs := G.same hI hL
  refine W.eq (g2 := F0 mg 60 ls [.int (if ¬ d 88 = -1 then 1 else 0)]) rfl ?_
  refine s_if_ne_b (P := ¬ d 88 = -1) (tgt := 74) S dX9_fault_60 (by decide) (fun c_1 => ?_) (fun c_1 => ?_)
  · refine lv_iload_n S.1 S.2.1 dX9_fault_74 rfl (lv_at hl 3 rfl) ?_
    refine lv_if_ne (tgt := 82) S.1 S.2.1 dX9_fault_75 (by decide) (fun _ => ?_) (fun h => absurd h (by decide))
    refine lv_iload_n S.1 S.2.1 dX9_fault_82 rfl (lv_at hl 3 rfl) ?_
    refine lv_iconst (v := (3 : Int32)) S.1 S.2.1 dX9_fault_83 (by decide) ?_
    refine lv_icmp_ne (tgt := 96) S.1 S.2.1 dX9_fault_84 (by decide) (fun _ => ?_) (fun h => absurd h (by decide))
    refine lv_aload_n S.1 S.2.1 dX9_fault_96 rfl (lv_at hl 0 rfl) ?_
    refine s_get S hX G (i := 161) (kd := 9) (a := (I 161)) (v := .ref (E.2.2.2 162)) (C := RX9) (T := TX9) (N := 13) 0 (rfl : sh 161 = 9) rfl rfl rfl (by decide) rfl (fun _ h => (List.mem_cons_of_mem _ (List.mem_append_right _ h))) (by decide) (List.mem_of_getElem? (i := 5) rfl) (fun _ h => h) dX9_fault_97 ?_
    refine lv_iload_n S.1 S.2.1 dX9_fault_100 rfl (lv_at hl 1 rfl) ?_
    refine s_callS (As := [.int (1 : Int32)]) (rest := [.ref (E.2.2.2 162)]) S hX G (k_X9_loadAt_1 l E) (va_cwS (bytes := cX9_loadAt) (maxL := 1) (ret := (some .int)) 1 S.2.2.2.2 gX9_fault_X9_loadAt rfl rfl rfl (by decide +kernel) ⟨Nat.le_of_ble_eq_true rfl, Nat.le_of_ble_eq_true rfl⟩) rfl hl.1 rfl (Nat.le_of_ble_eq_true rfl) ⟨Nat.zero_le _, Nat.zero_le _⟩ dX9_fault_101 (fun v I1 L1 H locs hR G => ?_)
    obtain ⟨hv, hI, hL⟩ := hR
    subst hv
    have G : GS E I L sg H locs := G.same hI hL
    refine W.eq (g2 := F0 mg 104 ls [.int (70 : Int32), .ref (E.2.2.2 162)]) rfl ?_
    refine lv_bipush (v := (12 : Int32)) S.1 S.2.1 dX9_fault_104 (by decide) ?_
    refine s_iadd (v := (82 : Int32)) S dX9_fault_106 (by decide) ?_
    refine lv_iconst (v := (3 : Int32)) S.1 S.2.1 dX9_fault_107 (by decide) ?_
    refine lv_iload_n S.1 S.2.1 dX9_fault_108 rfl (lv_at hl 2 rfl) ?_
    refine s_imul (v := (6 : Int32)) S dX9_fault_109 (by decide) ?_
    refine s_iadd (v := (88 : Int32)) S dX9_fault_110 (by decide) ?_
    refine lv_iload_n S.1 S.2.1 dX9_fault_111 rfl (lv_at hl 3 rfl) ?_
    refine s_iadd (v := (89 : Int32)) S dX9_fault_112 (by decide) ?_
    refine lv_iconst (v := (1 : Int32)) S.1 S.2.1 dX9_fault_113 (by decide) ?_
    refine s_isub (v := (88 : Int32)) S dX9_fault_114 (by decide) ?_
    refine s_iald S hX G (i := 162) (kd := 284) (n := 270) (a := d) (x := (d 88)) (rfl : sh 162 = 284) e_d rfl (by decide) (by unfold vp_in; decide) (congrArg d (by decide)) dX9_fault_115 ?_
    refine s_iret (x := (d 88)) S G hr hlk dX9_fault_116 ?_
    exact ⟨(congrArg (fun q : Int32 => some (Value.int q)) (show (d 88) = (if ¬ d 88 = -1 then d 88 else (-2000000004 : Int32)) by first | exact (if_pos c_1).symm | exact (if_neg c_1).symm)), rfl, rfl⟩
  · refine lv_iload_n S.1 S.2.1 dX9_fault_63 rfl (lv_at hl 3 rfl) ?_
    refine lv_if_ne (tgt := 71) S.1 S.2.1 dX9_fault_64 (by decide) (fun _ => ?_) (fun h => absurd h (by decide))
    refine lv_ldc (v := (-2000000004 : Int32)) S.1 S.2.1 S.2.2.2.1 (S.2.2.2.2 _ (List.mem_of_getElem? (i := 4) rfl)) dX9_fault_71 ?_
    refine s_iret (x := (-2000000004 : Int32)) S G hr hlk dX9_fault_73 ?_
    exact ⟨(congrArg (fun q : Int32 => some (Value.int q)) (show (-2000000004 : Int32) = (if ¬ d 88 = -1 then d 88 else (-2000000004 : Int32)) by first | exact (if_pos c_1).symm | exact (if_neg c_1).symm)), rfl, rfl⟩
set_option maxHeartbeats 4000000 in
set_option maxRecDepth 100000 in
theorem k_X9_fault_1_2_2 (l : Launch) (E : Ev) {I : SI} {L : SL} (d : Nat → Int32) (e_d : I (162) = d) : CS l yX9_fault wsX9_fault ({ frames := 2, cells := 0, slots := 0, locals := 45 }) E [.ref (E.2.2.2 161), .int (1 : Int32), .int (2 : Int32), .int (2 : Int32)] I L (fun vv I' L' => vv = some (.int (if ¬ d 88 = -1 then d 89 else (-2000000004 : Int32))) ∧ I' = I ∧ L' = L) := by
  refine CS.of (cc := cX9_fault) (maxL := 4) (ret := (some .int)) (by decide) rfl (Nat.le_of_ble_eq_true rfl) ?_
  intro pg en sg mg below meth cg ls S hr hlk hX G hl
  have S : CallFix pg mg cg cX9_fault 4 sg _ wsX9_fault RX9 := S
  have hl : lv_has ls 4 [(0, .ref (E.2.2.2 161)), (1, .int (1 : Int32)), (2, .int (2 : Int32)), (3, .int (2 : Int32))] := hl
  refine lv_iload_n S.1 S.2.1 dX9_fault_0 rfl (lv_at hl 1 rfl) ?_
  refine s_callS (As := [.int (1 : Int32)]) (rest := []) S hX G (k_X9_isLoad l E (1 : Int32)) (va_cwS (bytes := cX9_isLoad) (maxL := 1) (ret := (some .boolean)) 1 S.2.2.2.2 gX9_fault_X9_isLoad rfl rfl rfl (by decide +kernel) ⟨Nat.le_of_ble_eq_true rfl, Nat.le_of_ble_eq_true rfl⟩) rfl hl.1 rfl (Nat.le_of_ble_eq_true rfl) ⟨Nat.zero_le _, Nat.zero_le _⟩ dX9_fault_1 (fun v I1 L1 H locs hR G => ?_)
  obtain ⟨hv, hI, hL⟩ := hR
  subst hv
  have G : GS E I L sg H locs := G.same hI hL
  refine W.eq (g2 := F0 mg 4 ls [.int (if ¬ (1 : Int32) < (0 : Int32) ∧ ¬ (1 : Int32) < (1 : Int32) then 1 else 0)]) rfl ?_
  refine s_if_eq_b (P := ¬ (1 : Int32) < (0 : Int32) ∧ ¬ (1 : Int32) < (1 : Int32)) (tgt := 31) S dX9_fault_4 (by decide) (fun h => absurd (by decide) h) (fun _ => ?_)
  refine lv_iload_n S.1 S.2.1 dX9_fault_7 rfl (lv_at hl 2 rfl) ?_
  refine lv_i2l (v := (2 : Int64)) S.1 S.2.1 dX9_fault_8 (by decide) ?_
  refine lv_lconst (v := (0 : Int64)) S.1 S.2.1 dX9_fault_9 (by decide) ?_
  refine lv_ldc2 (v := (2 : Int64)) S.1 S.2.1 S.2.2.2.1 (S.2.2.2.2 _ (List.mem_of_getElem? (i := 1) rfl)) dX9_fault_10 ?_
  refine s_callS (As := [.long (2 : Int64), .long (0 : Int64), .long (2 : Int64)]) (rest := []) S hX G (k_X9_in l E (2 : Int64) (0 : Int64) (2 : Int64)) (va_cwS (bytes := cX9_in) (maxL := 6) (ret := (some .boolean)) 3 S.2.2.2.2 gX9_fault_X9_in rfl rfl rfl (by decide +kernel) ⟨Nat.le_of_ble_eq_true rfl, Nat.le_of_ble_eq_true rfl⟩) rfl hl.1 rfl (Nat.le_of_ble_eq_true rfl) ⟨Nat.zero_le _, Nat.zero_le _⟩ dX9_fault_13 (fun v I1 L1 H locs hR G => ?_)
  obtain ⟨hv, hI, hL⟩ := hR
  subst hv
  have G : GS E I L sg H locs := G.same hI hL
  refine W.eq (g2 := F0 mg 16 ls [.int (if ¬ (2 : Int64) < (0 : Int64) ∧ ¬ (2 : Int64) < (2 : Int64) then 1 else 0)]) rfl ?_
  refine s_if_eq_b (P := ¬ (2 : Int64) < (0 : Int64) ∧ ¬ (2 : Int64) < (2 : Int64)) (tgt := 31) S dX9_fault_16 (by decide) (fun h => absurd (by decide) h) (fun _ => ?_)
  refine lv_iload_n S.1 S.2.1 dX9_fault_19 rfl (lv_at hl 3 rfl) ?_
  refine lv_i2l (v := (2 : Int64)) S.1 S.2.1 dX9_fault_20 (by decide) ?_
  refine lv_lconst (v := (0 : Int64)) S.1 S.2.1 dX9_fault_21 (by decide) ?_
  refine lv_ldc2 (v := (4 : Int64)) S.1 S.2.1 S.2.2.2.1 (S.2.2.2.2 _ (List.mem_of_getElem? (i := 2) rfl)) dX9_fault_22 ?_
  refine s_callS (As := [.long (2 : Int64), .long (0 : Int64), .long (4 : Int64)]) (rest := []) S hX G (k_X9_in l E (2 : Int64) (0 : Int64) (4 : Int64)) (va_cwS (bytes := cX9_in) (maxL := 6) (ret := (some .boolean)) 3 S.2.2.2.2 gX9_fault_X9_in rfl rfl rfl (by decide +kernel) ⟨Nat.le_of_ble_eq_true rfl, Nat.le_of_ble_eq_true rfl⟩) rfl hl.1 rfl (Nat.le_of_ble_eq_true rfl) ⟨Nat.zero_le _, Nat.zero_le _⟩ dX9_fault_25 (fun v I1 L1 H locs hR G => ?_)
  obtain ⟨hv, hI, hL⟩ := hR
  subst hv
  have G : GS E I L sg H locs := G.same hI hL
  refine W.eq (g2 := F0 mg 28 ls [.int (if ¬ (2 : Int64) < (0 : Int64) ∧ ¬ (4 : Int64) < (2 : Int64) then 1 else 0)]) rfl ?_
  refine s_if_ne_b (P := ¬ (2 : Int64) < (0 : Int64) ∧ ¬ (4 : Int64) < (2 : Int64)) (tgt := 34) S dX9_fault_28 (by decide) (fun _ => ?_) (fun h => absurd (by decide) h)
  refine lv_iload_n S.1 S.2.1 dX9_fault_34 rfl (lv_at hl 3 rfl) ?_
  refine lv_iconst (v := (4 : Int32)) S.1 S.2.1 dX9_fault_35 (by decide) ?_
  refine lv_icmp_ne (tgt := 54) S.1 S.2.1 dX9_fault_36 (by decide) (fun _ => ?_) (fun h => absurd h (by decide))
  refine lv_aload_n S.1 S.2.1 dX9_fault_54 rfl (lv_at hl 0 rfl) ?_
  refine lv_iload_n S.1 S.2.1 dX9_fault_55 rfl (lv_at hl 1 rfl) ?_
  refine lv_iload_n S.1 S.2.1 dX9_fault_56 rfl (lv_at hl 2 rfl) ?_
  refine s_callV (C := RX9) (As := [.int (1 : Int32), .int (2 : Int32)]) (rest := []) (i := 161) (kd := 9) S hX G (k_X9_isLatched_1_2 l E d e_d) (cwV (bytes := cX9_isLatched) (maxL := 3) (ret := (some .boolean)) 2 S.2.2.2.2 gX9_fault_X9_isLatched rfl rfl rfl (by decide +kernel) ⟨Nat.le_of_ble_eq_true rfl, Nat.le_of_ble_eq_true rfl⟩) (rfl : sh 161 = 9) rfl rfl rfl (by decide) rfl hl.1 rfl (Nat.le_of_ble_eq_true rfl) ⟨Nat.zero_le _, Nat.zero_le _⟩ dX9_fault_57 (fun v I1 L1 H locs hR G => ?_)
  obtain ⟨hv, hI, hL⟩ := hR
  subst hv
  have G : GS E I L sg H locs := G.same hI hL
  refine W.eq (g2 := F0 mg 60 ls [.int (if ¬ d 88 = -1 then 1 else 0)]) rfl ?_
  refine s_if_ne_b (P := ¬ d 88 = -1) (tgt := 74) S dX9_fault_60 (by decide) (fun c_1 => ?_) (fun c_1 => ?_)
  · refine lv_iload_n S.1 S.2.1 dX9_fault_74 rfl (lv_at hl 3 rfl) ?_
    refine lv_if_ne (tgt := 82) S.1 S.2.1 dX9_fault_75 (by decide) (fun _ => ?_) (fun h => absurd h (by decide))
    refine lv_iload_n S.1 S.2.1 dX9_fault_82 rfl (lv_at hl 3 rfl) ?_
    refine lv_iconst (v := (3 : Int32)) S.1 S.2.1 dX9_fault_83 (by decide) ?_
    refine lv_icmp_ne (tgt := 96) S.1 S.2.1 dX9_fault_84 (by decide) (fun _ => ?_) (fun h => absurd h (by decide))
    refine lv_aload_n S.1 S.2.1 dX9_fault_96 rfl (lv_at hl 0 rfl) ?_
    refine s_get S hX G (i := 161) (kd := 9) (a := (I 161)) (v := .ref (E.2.2.2 162)) (C := RX9) (T := TX9) (N := 13) 0 (rfl : sh 161 = 9) rfl rfl rfl (by decide) rfl (fun _ h => (List.mem_cons_of_mem _ (List.mem_append_right _ h))) (by decide) (List.mem_of_getElem? (i := 5) rfl) (fun _ h => h) dX9_fault_97 ?_
    refine lv_iload_n S.1 S.2.1 dX9_fault_100 rfl (lv_at hl 1 rfl) ?_
    refine s_callS (As := [.int (1 : Int32)]) (rest := [.ref (E.2.2.2 162)]) S hX G (k_X9_loadAt_1 l E) (va_cwS (bytes := cX9_loadAt) (maxL := 1) (ret := (some .int)) 1 S.2.2.2.2 gX9_fault_X9_loadAt rfl rfl rfl (by decide +kernel) ⟨Nat.le_of_ble_eq_true rfl, Nat.le_of_ble_eq_true rfl⟩) rfl hl.1 rfl (Nat.le_of_ble_eq_true rfl) ⟨Nat.zero_le _, Nat.zero_le _⟩ dX9_fault_101 (fun v I1 L1 H locs hR G => ?_)
    obtain ⟨hv, hI, hL⟩ := hR
    subst hv
    have G : GS E I L sg H locs := G.same hI hL
    refine W.eq (g2 := F0 mg 104 ls [.int (70 : Int32), .ref (E.2.2.2 162)]) rfl ?_
    refine lv_bipush (v := (12 : Int32)) S.1 S.2.1 dX9_fault_104 (by decide) ?_
    refine s_iadd (v := (82 : Int32)) S dX9_fault_106 (by decide) ?_
    refine lv_iconst (v := (3 : Int32)) S.1 S.2.1 dX9_fault_107 (by decide) ?_
    refine lv_iload_n S.1 S.2.1 dX9_fault_108 rfl (lv_at hl 2 rfl) ?_
    refine s_imul (v := (6 : Int32)) S dX9_fault_109 (by decide) ?_
    refine s_iadd (v := (88 : Int32)) S dX9_fault_110 (by decide) ?_
    refine lv_iload_n S.1 S.2.1 dX9_fault_111 rfl (lv_at hl 3 rfl) ?_
    refine s_iadd (v := (90 : Int32)) S dX9_fault_112 (by decide) ?_
    refine lv_iconst (v := (1 : Int32)) S.1 S.2.1 dX9_fault_113 (by decide) ?_
    refine s_isub (v := (89 : Int32)) S dX9_fault_114 (by decide) ?_
    refine s_iald S hX G (i := 162) (kd := 284) (n := 270) (a := d) (x := (d 89)) (rfl : sh 162 = 284) e_d rfl (by decide) (by unfold vp_in; decide) (congrArg d (by decide)) dX9_fault_115 ?_
    refine s_iret (x := (d 89)) S G hr hlk dX9_fault_116 ?_
    exact ⟨(congrArg (fun q : Int32 => some (Value.int q)) (show (d 89) = (if ¬ d 88 = -1 then d 89 else (-2000000004 : Int32)) by first | exact (if_pos c_1).symm | exact (if_neg c_1).symm)), rfl, rfl⟩
  · refine lv_iload_n S.1 S.2.1 dX9_fault_63 rfl (lv_at hl 3 rfl) ?_
    refine lv_if_ne (tgt := 71) S.1 S.2.1 dX9_fault_64 (by decide) (fun _ => ?_) (fun h => absurd h (by decide))
    refine lv_ldc (v := (-2000000004 : Int32)) S.1 S.2.1 S.2.2.2.1 (S.2.2.2.2 _ (List.mem_of_getElem? (i := 4) rfl)) dX9_fault_71 ?_
    refine s_iret (x := (-2000000004 : Int32)) S G hr hlk dX9_fault_73 ?_
    exact ⟨(congrArg (fun q : Int32 => some (Value.int q)) (show (-2000000004 : Int32) = (if ¬ d 88 = -1 then d 89 else (-2000000004 : Int32)) by first | exact (if_pos c_1).symm | exact (if_neg c_1).symm)), rfl, rfl⟩
set_option maxHeartbeats 4000000 in
set_option maxRecDepth 100000 in
theorem k_X9_fault_1_2_3 (l : Launch) (E : Ev) {I : SI} {L : SL} (d : Nat → Int32) (e_d : I (162) = d) : CS l yX9_fault wsX9_fault ({ frames := 3, cells := 0, slots := 0, locals := 66 }) E [.ref (E.2.2.2 161), .int (1 : Int32), .int (2 : Int32), .int (3 : Int32)] I L (fun vv I' L' => vv = some (.int (if ¬ d 88 = -1 then plcM d 70 2 else (-2000000004 : Int32))) ∧ I' = I ∧ L' = L) := by
  refine CS.of (cc := cX9_fault) (maxL := 4) (ret := (some .int)) (by decide) rfl (Nat.le_of_ble_eq_true rfl) ?_
  intro pg en sg mg below meth cg ls S hr hlk hX G hl
  have S : CallFix pg mg cg cX9_fault 4 sg _ wsX9_fault RX9 := S
  have hl : lv_has ls 4 [(0, .ref (E.2.2.2 161)), (1, .int (1 : Int32)), (2, .int (2 : Int32)), (3, .int (3 : Int32))] := hl
  refine lv_iload_n S.1 S.2.1 dX9_fault_0 rfl (lv_at hl 1 rfl) ?_
  refine s_callS (As := [.int (1 : Int32)]) (rest := []) S hX G (k_X9_isLoad l E (1 : Int32)) (va_cwS (bytes := cX9_isLoad) (maxL := 1) (ret := (some .boolean)) 1 S.2.2.2.2 gX9_fault_X9_isLoad rfl rfl rfl (by decide +kernel) ⟨Nat.le_of_ble_eq_true rfl, Nat.le_of_ble_eq_true rfl⟩) rfl hl.1 rfl (Nat.le_of_ble_eq_true rfl) ⟨Nat.zero_le _, Nat.zero_le _⟩ dX9_fault_1 (fun v I1 L1 H locs hR G => ?_)
  obtain ⟨hv, hI, hL⟩ := hR
  subst hv
  have G : GS E I L sg H locs := G.same hI hL
  refine W.eq (g2 := F0 mg 4 ls [.int (if ¬ (1 : Int32) < (0 : Int32) ∧ ¬ (1 : Int32) < (1 : Int32) then 1 else 0)]) rfl ?_
  refine s_if_eq_b (P := ¬ (1 : Int32) < (0 : Int32) ∧ ¬ (1 : Int32) < (1 : Int32)) (tgt := 31) S dX9_fault_4 (by decide) (fun h => absurd (by decide) h) (fun _ => ?_)
  refine lv_iload_n S.1 S.2.1 dX9_fault_7 rfl (lv_at hl 2 rfl) ?_
  refine lv_i2l (v := (2 : Int64)) S.1 S.2.1 dX9_fault_8 (by decide) ?_
  refine lv_lconst (v := (0 : Int64)) S.1 S.2.1 dX9_fault_9 (by decide) ?_
  refine lv_ldc2 (v := (2 : Int64)) S.1 S.2.1 S.2.2.2.1 (S.2.2.2.2 _ (List.mem_of_getElem? (i := 1) rfl)) dX9_fault_10 ?_
  refine s_callS (As := [.long (2 : Int64), .long (0 : Int64), .long (2 : Int64)]) (rest := []) S hX G (k_X9_in l E (2 : Int64) (0 : Int64) (2 : Int64)) (va_cwS (bytes := cX9_in) (maxL := 6) (ret := (some .boolean)) 3 S.2.2.2.2 gX9_fault_X9_in rfl rfl rfl (by decide +kernel) ⟨Nat.le_of_ble_eq_true rfl, Nat.le_of_ble_eq_true rfl⟩) rfl hl.1 rfl (Nat.le_of_ble_eq_true rfl) ⟨Nat.zero_le _, Nat.zero_le _⟩ dX9_fault_13 (fun v I1 L1 H locs hR G => ?_)
  obtain ⟨hv, hI, hL⟩ := hR
  subst hv
  have G : GS E I L sg H locs := G.same hI hL
  refine W.eq (g2 := F0 mg 16 ls [.int (if ¬ (2 : Int64) < (0 : Int64) ∧ ¬ (2 : Int64) < (2 : Int64) then 1 else 0)]) rfl ?_
  refine s_if_eq_b (P := ¬ (2 : Int64) < (0 : Int64) ∧ ¬ (2 : Int64) < (2 : Int64)) (tgt := 31) S dX9_fault_16 (by decide) (fun h => absurd (by decide) h) (fun _ => ?_)
  refine lv_iload_n S.1 S.2.1 dX9_fault_19 rfl (lv_at hl 3 rfl) ?_
  refine lv_i2l (v := (3 : Int64)) S.1 S.2.1 dX9_fault_20 (by decide) ?_
  refine lv_lconst (v := (0 : Int64)) S.1 S.2.1 dX9_fault_21 (by decide) ?_
  refine lv_ldc2 (v := (4 : Int64)) S.1 S.2.1 S.2.2.2.1 (S.2.2.2.2 _ (List.mem_of_getElem? (i := 2) rfl)) dX9_fault_22 ?_
  refine s_callS (As := [.long (3 : Int64), .long (0 : Int64), .long (4 : Int64)]) (rest := []) S hX G (k_X9_in l E (3 : Int64) (0 : Int64) (4 : Int64)) (va_cwS (bytes := cX9_in) (maxL := 6) (ret := (some .boolean)) 3 S.2.2.2.2 gX9_fault_X9_in rfl rfl rfl (by decide +kernel) ⟨Nat.le_of_ble_eq_true rfl, Nat.le_of_ble_eq_true rfl⟩) rfl hl.1 rfl (Nat.le_of_ble_eq_true rfl) ⟨Nat.zero_le _, Nat.zero_le _⟩ dX9_fault_25 (fun v I1 L1 H locs hR G => ?_)
  obtain ⟨hv, hI, hL⟩ := hR
  subst hv
  have G : GS E I L sg H locs := G.same hI hL
  refine W.eq (g2 := F0 mg 28 ls [.int (if ¬ (3 : Int64) < (0 : Int64) ∧ ¬ (4 : Int64) < (3 : Int64) then 1 else 0)]) rfl ?_
  refine s_if_ne_b (P := ¬ (3 : Int64) < (0 : Int64) ∧ ¬ (4 : Int64) < (3 : Int64)) (tgt := 34) S dX9_fault_28 (by decide) (fun _ => ?_) (fun h => absurd (by decide) h)
  refine lv_iload_n S.1 S.2.1 dX9_fault_34 rfl (lv_at hl 3 rfl) ?_
  refine lv_iconst (v := (4 : Int32)) S.1 S.2.1 dX9_fault_35 (by decide) ?_
  refine lv_icmp_ne (tgt := 54) S.1 S.2.1 dX9_fault_36 (by decide) (fun _ => ?_) (fun h => absurd h (by decide))
  refine lv_aload_n S.1 S.2.1 dX9_fault_54 rfl (lv_at hl 0 rfl) ?_
  refine lv_iload_n S.1 S.2.1 dX9_fault_55 rfl (lv_at hl 1 rfl) ?_
  refine lv_iload_n S.1 S.2.1 dX9_fault_56 rfl (lv_at hl 2 rfl) ?_
  refine s_callV (C := RX9) (As := [.int (1 : Int32), .int (2 : Int32)]) (rest := []) (i := 161) (kd := 9) S hX G (k_X9_isLatched_1_2 l E d e_d) (cwV (bytes := cX9_isLatched) (maxL := 3) (ret := (some .boolean)) 2 S.2.2.2.2 gX9_fault_X9_isLatched rfl rfl rfl (by decide +kernel) ⟨Nat.le_of_ble_eq_true rfl, Nat.le_of_ble_eq_true rfl⟩) (rfl : sh 161 = 9) rfl rfl rfl (by decide) rfl hl.1 rfl (Nat.le_of_ble_eq_true rfl) ⟨Nat.zero_le _, Nat.zero_le _⟩ dX9_fault_57 (fun v I1 L1 H locs hR G => ?_)
  obtain ⟨hv, hI, hL⟩ := hR
  subst hv
  have G : GS E I L sg H locs := G.same hI hL
  refine W.eq (g2 := F0 mg 60 ls [.int (if ¬ d 88 = -1 then 1 else 0)]) rfl ?_
  refine s_if_ne_b (P := ¬ d 88 = -1) (tgt := 74) S dX9_fault_60 (by decide) (fun c_1 => ?_) (fun c_1 => ?_)
  · refine lv_iload_n S.1 S.2.1 dX9_fault_74 rfl (lv_at hl 3 rfl) ?_
    refine lv_if_ne (tgt := 82) S.1 S.2.1 dX9_fault_75 (by decide) (fun _ => ?_) (fun h => absurd h (by decide))
    refine lv_iload_n S.1 S.2.1 dX9_fault_82 rfl (lv_at hl 3 rfl) ?_
    refine lv_iconst (v := (3 : Int32)) S.1 S.2.1 dX9_fault_83 (by decide) ?_
    refine lv_icmp_ne (tgt := 96) S.1 S.2.1 dX9_fault_84 (by decide) (fun h => absurd (by decide) h) (fun _ => ?_)
    refine lv_aload_n S.1 S.2.1 dX9_fault_87 rfl (lv_at hl 0 rfl) ?_
    refine lv_iload_n S.1 S.2.1 dX9_fault_88 rfl (lv_at hl 1 rfl) ?_
    refine lv_iload_n S.1 S.2.1 dX9_fault_89 rfl (lv_at hl 2 rfl) ?_
    refine s_callV (C := RX9) (As := [.int (1 : Int32), .int (2 : Int32)]) (rest := []) (i := 161) (kd := 9) S hX G (k_X9_placeOf_1_2 l E d e_d) (cwV (bytes := cX9_placeOf) (maxL := 5) (ret := (some .int)) 2 S.2.2.2.2 gX9_fault_X9_placeOf rfl rfl rfl (by decide +kernel) ⟨Nat.le_of_ble_eq_true rfl, Nat.le_of_ble_eq_true rfl⟩) (rfl : sh 161 = 9) rfl rfl rfl (by decide) rfl hl.1 rfl (Nat.le_of_ble_eq_true rfl) ⟨Nat.zero_le _, Nat.zero_le _⟩ dX9_fault_90 (fun v I1 L1 H locs hR G => ?_)
    obtain ⟨hv, hI, hL⟩ := hR
    subst hv
    have G : GS E I L sg H locs := G.same hI hL
    refine W.eq (g2 := F0 mg 93 ls [.int (plcM d 70 2)]) rfl ?_
    refine lv_topi (fun y_2 ey_2 => ?_)
    refine lv_goto (tgt := 116) S.1 S.2.1 dX9_fault_93 (by decide) ?_
    refine s_iret (x := y_2) S G hr hlk dX9_fault_116 ?_
    exact ⟨(congrArg (fun q : Int32 => some (Value.int q)) (show y_2 = (if ¬ d 88 = -1 then plcM d 70 2 else (-2000000004 : Int32)) by subst ey_2; (first | exact (if_pos c_1).symm | exact (if_neg c_1).symm))), rfl, rfl⟩
  · refine lv_iload_n S.1 S.2.1 dX9_fault_63 rfl (lv_at hl 3 rfl) ?_
    refine lv_if_ne (tgt := 71) S.1 S.2.1 dX9_fault_64 (by decide) (fun _ => ?_) (fun h => absurd h (by decide))
    refine lv_ldc (v := (-2000000004 : Int32)) S.1 S.2.1 S.2.2.2.1 (S.2.2.2.2 _ (List.mem_of_getElem? (i := 4) rfl)) dX9_fault_71 ?_
    refine s_iret (x := (-2000000004 : Int32)) S G hr hlk dX9_fault_73 ?_
    exact ⟨(congrArg (fun q : Int32 => some (Value.int q)) (show (-2000000004 : Int32) = (if ¬ d 88 = -1 then plcM d 70 2 else (-2000000004 : Int32)) by first | exact (if_pos c_1).symm | exact (if_neg c_1).symm)), rfl, rfl⟩
set_option maxHeartbeats 4000000 in
set_option maxRecDepth 100000 in
theorem k_X9_fault_1_2_4 (l : Launch) (E : Ev) {I : SI} {L : SL} (d : Nat → Int32) (e_d : I (162) = d) : CS l yX9_fault wsX9_fault ({ frames := 4, cells := 0, slots := 0, locals := 88 }) E [.ref (E.2.2.2 161), .int (1 : Int32), .int (2 : Int32), .int (4 : Int32)] I L (fun vv I' L' => vv = some (.int (if ¬ d 88 = -1 ∧ ¬ ¬ plcM d 70 2 ≤ 0 ∧ ¬ d 5 / 2 < d 75 then 1 else 0)) ∧ I' = I ∧ L' = L) := by
  refine CS.of (cc := cX9_fault) (maxL := 4) (ret := (some .int)) (by decide) rfl (Nat.le_of_ble_eq_true rfl) ?_
  intro pg en sg mg below meth cg ls S hr hlk hX G hl
  have S : CallFix pg mg cg cX9_fault 4 sg _ wsX9_fault RX9 := S
  have hl : lv_has ls 4 [(0, .ref (E.2.2.2 161)), (1, .int (1 : Int32)), (2, .int (2 : Int32)), (3, .int (4 : Int32))] := hl
  refine lv_iload_n S.1 S.2.1 dX9_fault_0 rfl (lv_at hl 1 rfl) ?_
  refine s_callS (As := [.int (1 : Int32)]) (rest := []) S hX G (k_X9_isLoad l E (1 : Int32)) (va_cwS (bytes := cX9_isLoad) (maxL := 1) (ret := (some .boolean)) 1 S.2.2.2.2 gX9_fault_X9_isLoad rfl rfl rfl (by decide +kernel) ⟨Nat.le_of_ble_eq_true rfl, Nat.le_of_ble_eq_true rfl⟩) rfl hl.1 rfl (Nat.le_of_ble_eq_true rfl) ⟨Nat.zero_le _, Nat.zero_le _⟩ dX9_fault_1 (fun v I1 L1 H locs hR G => ?_)
  obtain ⟨hv, hI, hL⟩ := hR
  subst hv
  have G : GS E I L sg H locs := G.same hI hL
  refine W.eq (g2 := F0 mg 4 ls [.int (if ¬ (1 : Int32) < (0 : Int32) ∧ ¬ (1 : Int32) < (1 : Int32) then 1 else 0)]) rfl ?_
  refine s_if_eq_b (P := ¬ (1 : Int32) < (0 : Int32) ∧ ¬ (1 : Int32) < (1 : Int32)) (tgt := 31) S dX9_fault_4 (by decide) (fun h => absurd (by decide) h) (fun _ => ?_)
  refine lv_iload_n S.1 S.2.1 dX9_fault_7 rfl (lv_at hl 2 rfl) ?_
  refine lv_i2l (v := (2 : Int64)) S.1 S.2.1 dX9_fault_8 (by decide) ?_
  refine lv_lconst (v := (0 : Int64)) S.1 S.2.1 dX9_fault_9 (by decide) ?_
  refine lv_ldc2 (v := (2 : Int64)) S.1 S.2.1 S.2.2.2.1 (S.2.2.2.2 _ (List.mem_of_getElem? (i := 1) rfl)) dX9_fault_10 ?_
  refine s_callS (As := [.long (2 : Int64), .long (0 : Int64), .long (2 : Int64)]) (rest := []) S hX G (k_X9_in l E (2 : Int64) (0 : Int64) (2 : Int64)) (va_cwS (bytes := cX9_in) (maxL := 6) (ret := (some .boolean)) 3 S.2.2.2.2 gX9_fault_X9_in rfl rfl rfl (by decide +kernel) ⟨Nat.le_of_ble_eq_true rfl, Nat.le_of_ble_eq_true rfl⟩) rfl hl.1 rfl (Nat.le_of_ble_eq_true rfl) ⟨Nat.zero_le _, Nat.zero_le _⟩ dX9_fault_13 (fun v I1 L1 H locs hR G => ?_)
  obtain ⟨hv, hI, hL⟩ := hR
  subst hv
  have G : GS E I L sg H locs := G.same hI hL
  refine W.eq (g2 := F0 mg 16 ls [.int (if ¬ (2 : Int64) < (0 : Int64) ∧ ¬ (2 : Int64) < (2 : Int64) then 1 else 0)]) rfl ?_
  refine s_if_eq_b (P := ¬ (2 : Int64) < (0 : Int64) ∧ ¬ (2 : Int64) < (2 : Int64)) (tgt := 31) S dX9_fault_16 (by decide) (fun h => absurd (by decide) h) (fun _ => ?_)
  refine lv_iload_n S.1 S.2.1 dX9_fault_19 rfl (lv_at hl 3 rfl) ?_
  refine lv_i2l (v := (4 : Int64)) S.1 S.2.1 dX9_fault_20 (by decide) ?_
  refine lv_lconst (v := (0 : Int64)) S.1 S.2.1 dX9_fault_21 (by decide) ?_
  refine lv_ldc2 (v := (4 : Int64)) S.1 S.2.1 S.2.2.2.1 (S.2.2.2.2 _ (List.mem_of_getElem? (i := 2) rfl)) dX9_fault_22 ?_
  refine s_callS (As := [.long (4 : Int64), .long (0 : Int64), .long (4 : Int64)]) (rest := []) S hX G (k_X9_in l E (4 : Int64) (0 : Int64) (4 : Int64)) (va_cwS (bytes := cX9_in) (maxL := 6) (ret := (some .boolean)) 3 S.2.2.2.2 gX9_fault_X9_in rfl rfl rfl (by decide +kernel) ⟨Nat.le_of_ble_eq_true rfl, Nat.le_of_ble_eq_true rfl⟩) rfl hl.1 rfl (Nat.le_of_ble_eq_true rfl) ⟨Nat.zero_le _, Nat.zero_le _⟩ dX9_fault_25 (fun v I1 L1 H locs hR G => ?_)
  obtain ⟨hv, hI, hL⟩ := hR
  subst hv
  have G : GS E I L sg H locs := G.same hI hL
  refine W.eq (g2 := F0 mg 28 ls [.int (if ¬ (4 : Int64) < (0 : Int64) ∧ ¬ (4 : Int64) < (4 : Int64) then 1 else 0)]) rfl ?_
  refine s_if_ne_b (P := ¬ (4 : Int64) < (0 : Int64) ∧ ¬ (4 : Int64) < (4 : Int64)) (tgt := 34) S dX9_fault_28 (by decide) (fun _ => ?_) (fun h => absurd (by decide) h)
  refine lv_iload_n S.1 S.2.1 dX9_fault_34 rfl (lv_at hl 3 rfl) ?_
  refine lv_iconst (v := (4 : Int32)) S.1 S.2.1 dX9_fault_35 (by decide) ?_
  refine lv_icmp_ne (tgt := 54) S.1 S.2.1 dX9_fault_36 (by decide) (fun h => absurd (by decide) h) (fun _ => ?_)
  refine lv_aload_n S.1 S.2.1 dX9_fault_39 rfl (lv_at hl 0 rfl) ?_
  refine lv_iload_n S.1 S.2.1 dX9_fault_40 rfl (lv_at hl 1 rfl) ?_
  refine lv_iload_n S.1 S.2.1 dX9_fault_41 rfl (lv_at hl 2 rfl) ?_
  refine s_callV (C := RX9) (As := [.int (1 : Int32), .int (2 : Int32)]) (rest := []) (i := 161) (kd := 9) S hX G (k_X9_canClear_1_2 l E d e_d) (cwV (bytes := cX9_canClear) (maxL := 3) (ret := (some .boolean)) 2 S.2.2.2.2 gX9_fault_X9_canClear rfl rfl rfl (by decide +kernel) ⟨Nat.le_of_ble_eq_true rfl, Nat.le_of_ble_eq_true rfl⟩) (rfl : sh 161 = 9) rfl rfl rfl (by decide) rfl hl.1 rfl (Nat.le_of_ble_eq_true rfl) ⟨Nat.zero_le _, Nat.zero_le _⟩ dX9_fault_42 (fun v I1 L1 H locs hR G => ?_)
  obtain ⟨hv, hI, hL⟩ := hR
  subst hv
  have G : GS E I L sg H locs := G.same hI hL
  refine W.eq (g2 := F0 mg 45 ls [.int (if ¬ d 88 = -1 ∧ ¬ ¬ plcM d 70 2 ≤ 0 ∧ ¬ d 5 / 2 < d 75 then 1 else 0)]) rfl ?_
  refine s_if_eq_b (P := ¬ d 88 = -1 ∧ ¬ ¬ plcM d 70 2 ≤ 0 ∧ ¬ d 5 / 2 < d 75) (tgt := 52) S dX9_fault_45 (by decide) (fun c_1 => ?_) (fun c_1 => ?_)
  · refine lv_iconst (v := (0 : Int32)) S.1 S.2.1 dX9_fault_52 (by decide) ?_
    refine s_iret (x := (0 : Int32)) S G hr hlk dX9_fault_53 ?_
    exact ⟨(congrArg (fun q : Int32 => some (Value.int q)) (show (0 : Int32) = (if ¬ d 88 = -1 ∧ ¬ ¬ plcM d 70 2 ≤ 0 ∧ ¬ d 5 / 2 < d 75 then 1 else 0) by first | exact (if_pos c_1).symm | exact (if_neg c_1).symm)), rfl, rfl⟩
  · refine lv_iconst (v := (1 : Int32)) S.1 S.2.1 dX9_fault_48 (by decide) ?_
    refine lv_goto (tgt := 53) S.1 S.2.1 dX9_fault_49 (by decide) ?_
    refine s_iret (x := (1 : Int32)) S G hr hlk dX9_fault_53 ?_
    exact ⟨(congrArg (fun q : Int32 => some (Value.int q)) (show (1 : Int32) = (if ¬ d 88 = -1 ∧ ¬ ¬ plcM d 70 2 ≤ 0 ∧ ¬ d 5 / 2 < d 75 then 1 else 0) by first | exact (if_pos c_1).symm | exact (if_neg c_1).symm)), rfl, rfl⟩
set_option maxHeartbeats 4000000 in
set_option maxRecDepth 100000 in
theorem k_X9_load_no (l : Launch) (E : Ev) {I : SI} {L : SL} (load : Int32) (what : Int32) (ht : ¬ (IN1 load ∧ INR what 0 11)) : CS l yX9_load wsX9_load ({ frames := 2, cells := 0, slots := 0, locals := 45 }) E [.ref (E.2.2.2 161), .int load, .int what] I L (fun vv I' L' => vv = some (.int (-2000000001 : Int32)) ∧ I' = I ∧ L' = L) := by
  refine CS.of (cc := cX9_load) (maxL := 4) (ret := (some .int)) (by decide) rfl (Nat.le_of_ble_eq_true rfl) ?_
  intro pg en sg mg below meth cg ls S hr hlk hX G hl
  have S : CallFix pg mg cg cX9_load 4 sg _ wsX9_load RX9 := S
  have hl : lv_has ls 4 [(0, .ref (E.2.2.2 161)), (1, .int load), (2, .int what)] := hl
  refine lv_iload_n S.1 S.2.1 dX9_load_0 rfl (lv_at hl 1 rfl) ?_
  refine s_callS (As := [.int load]) (rest := []) S hX G (k_X9_isLoad l E load) (va_cwS (bytes := cX9_isLoad) (maxL := 1) (ret := (some .boolean)) 1 S.2.2.2.2 gX9_load_X9_isLoad rfl rfl rfl (by decide +kernel) ⟨Nat.le_of_ble_eq_true rfl, Nat.le_of_ble_eq_true rfl⟩) rfl hl.1 rfl (Nat.le_of_ble_eq_true rfl) ⟨Nat.zero_le _, Nat.zero_le _⟩ dX9_load_1 (fun v I1 L1 H locs hR G => ?_)
  obtain ⟨hv, hI, hL⟩ := hR
  subst hv
  have G : GS E I L sg H locs := G.same hI hL
  refine W.eq (g2 := F0 mg 4 ls [.int (if ¬ load < (0 : Int32) ∧ ¬ (1 : Int32) < load then 1 else 0)]) rfl ?_
  refine s_if_eq_b (P := ¬ load < (0 : Int32) ∧ ¬ (1 : Int32) < load) (tgt := 19) S dX9_load_4 (by decide) (fun c_1 => ?_) (fun c_1 => ?_)
  · refine lv_ldc (v := (-2000000001 : Int32)) S.1 S.2.1 S.2.2.2.1 (S.2.2.2.2 _ (List.mem_of_getElem? (i := 2) rfl)) dX9_load_19 ?_
    refine s_iret (x := (-2000000001 : Int32)) S G hr hlk dX9_load_21 ?_
    exact ⟨rfl, rfl, rfl⟩
  · refine lv_iload_n S.1 S.2.1 dX9_load_7 rfl (lv_at hl 2 rfl) ?_
    refine lv_i2l (v := (Int32.toInt64 what)) S.1 S.2.1 dX9_load_8 rfl ?_
    refine lv_lconst (v := (0 : Int64)) S.1 S.2.1 dX9_load_9 (by decide) ?_
    refine lv_ldc2 (v := (11 : Int64)) S.1 S.2.1 S.2.2.2.1 (S.2.2.2.2 _ (List.mem_of_getElem? (i := 1) rfl)) dX9_load_10 ?_
    refine s_callS (As := [.long (Int32.toInt64 what), .long (0 : Int64), .long (11 : Int64)]) (rest := []) S hX G (k_X9_in l E (Int32.toInt64 what) (0 : Int64) (11 : Int64)) (va_cwS (bytes := cX9_in) (maxL := 6) (ret := (some .boolean)) 3 S.2.2.2.2 gX9_load_X9_in rfl rfl rfl (by decide +kernel) ⟨Nat.le_of_ble_eq_true rfl, Nat.le_of_ble_eq_true rfl⟩) rfl hl.1 rfl (Nat.le_of_ble_eq_true rfl) ⟨Nat.zero_le _, Nat.zero_le _⟩ dX9_load_13 (fun v I1 L1 H locs hR G => ?_)
    obtain ⟨hv, hI, hL⟩ := hR
    subst hv
    have G : GS E I L sg H locs := G.same hI hL
    refine W.eq (g2 := F0 mg 16 ls [.int (if ¬ (Int32.toInt64 what) < (0 : Int64) ∧ ¬ (11 : Int64) < (Int32.toInt64 what) then 1 else 0)]) rfl ?_
    refine s_if_ne_b (P := ¬ (Int32.toInt64 what) < (0 : Int64) ∧ ¬ (11 : Int64) < (Int32.toInt64 what)) (tgt := 22) S dX9_load_16 (by decide) (fun c_2 => ?_) (fun c_2 => ?_)
    · exact absurd (And.intro c_1 (out64 (a := 0) (b := 11) c_2 (by decide) (by decide))) ht
    · refine lv_ldc (v := (-2000000001 : Int32)) S.1 S.2.1 S.2.2.2.1 (S.2.2.2.2 _ (List.mem_of_getElem? (i := 2) rfl)) dX9_load_19 ?_
      refine s_iret (x := (-2000000001 : Int32)) S G hr hlk dX9_load_21 ?_
      exact ⟨rfl, rfl, rfl⟩
set_option maxHeartbeats 4000000 in
set_option maxRecDepth 100000 in
theorem k_X9_fault_no (l : Launch) (E : Ev) {I : SI} {L : SL} (load : Int32) (fault : Int32) (what : Int32) (ht : ¬ (IN1 load ∧ IN2 fault ∧ INR what 0 4)) : CS l yX9_fault wsX9_fault ({ frames := 2, cells := 0, slots := 0, locals := 45 }) E [.ref (E.2.2.2 161), .int load, .int fault, .int what] I L (fun vv I' L' => vv = some (.int (-2000000001 : Int32)) ∧ I' = I ∧ L' = L) := by
  refine CS.of (cc := cX9_fault) (maxL := 4) (ret := (some .int)) (by decide) rfl (Nat.le_of_ble_eq_true rfl) ?_
  intro pg en sg mg below meth cg ls S hr hlk hX G hl
  have S : CallFix pg mg cg cX9_fault 4 sg _ wsX9_fault RX9 := S
  have hl : lv_has ls 4 [(0, .ref (E.2.2.2 161)), (1, .int load), (2, .int fault), (3, .int what)] := hl
  refine lv_iload_n S.1 S.2.1 dX9_fault_0 rfl (lv_at hl 1 rfl) ?_
  refine s_callS (As := [.int load]) (rest := []) S hX G (k_X9_isLoad l E load) (va_cwS (bytes := cX9_isLoad) (maxL := 1) (ret := (some .boolean)) 1 S.2.2.2.2 gX9_fault_X9_isLoad rfl rfl rfl (by decide +kernel) ⟨Nat.le_of_ble_eq_true rfl, Nat.le_of_ble_eq_true rfl⟩) rfl hl.1 rfl (Nat.le_of_ble_eq_true rfl) ⟨Nat.zero_le _, Nat.zero_le _⟩ dX9_fault_1 (fun v I1 L1 H locs hR G => ?_)
  obtain ⟨hv, hI, hL⟩ := hR
  subst hv
  have G : GS E I L sg H locs := G.same hI hL
  refine W.eq (g2 := F0 mg 4 ls [.int (if ¬ load < (0 : Int32) ∧ ¬ (1 : Int32) < load then 1 else 0)]) rfl ?_
  refine s_if_eq_b (P := ¬ load < (0 : Int32) ∧ ¬ (1 : Int32) < load) (tgt := 31) S dX9_fault_4 (by decide) (fun c_1 => ?_) (fun c_1 => ?_)
  · refine lv_ldc (v := (-2000000001 : Int32)) S.1 S.2.1 S.2.2.2.1 (S.2.2.2.2 _ (List.mem_of_getElem? (i := 3) rfl)) dX9_fault_31 ?_
    refine s_iret (x := (-2000000001 : Int32)) S G hr hlk dX9_fault_33 ?_
    exact ⟨rfl, rfl, rfl⟩
  · refine lv_iload_n S.1 S.2.1 dX9_fault_7 rfl (lv_at hl 2 rfl) ?_
    refine lv_i2l (v := (Int32.toInt64 fault)) S.1 S.2.1 dX9_fault_8 rfl ?_
    refine lv_lconst (v := (0 : Int64)) S.1 S.2.1 dX9_fault_9 (by decide) ?_
    refine lv_ldc2 (v := (2 : Int64)) S.1 S.2.1 S.2.2.2.1 (S.2.2.2.2 _ (List.mem_of_getElem? (i := 1) rfl)) dX9_fault_10 ?_
    refine s_callS (As := [.long (Int32.toInt64 fault), .long (0 : Int64), .long (2 : Int64)]) (rest := []) S hX G (k_X9_in l E (Int32.toInt64 fault) (0 : Int64) (2 : Int64)) (va_cwS (bytes := cX9_in) (maxL := 6) (ret := (some .boolean)) 3 S.2.2.2.2 gX9_fault_X9_in rfl rfl rfl (by decide +kernel) ⟨Nat.le_of_ble_eq_true rfl, Nat.le_of_ble_eq_true rfl⟩) rfl hl.1 rfl (Nat.le_of_ble_eq_true rfl) ⟨Nat.zero_le _, Nat.zero_le _⟩ dX9_fault_13 (fun v I1 L1 H locs hR G => ?_)
    obtain ⟨hv, hI, hL⟩ := hR
    subst hv
    have G : GS E I L sg H locs := G.same hI hL
    refine W.eq (g2 := F0 mg 16 ls [.int (if ¬ (Int32.toInt64 fault) < (0 : Int64) ∧ ¬ (2 : Int64) < (Int32.toInt64 fault) then 1 else 0)]) rfl ?_
    refine s_if_eq_b (P := ¬ (Int32.toInt64 fault) < (0 : Int64) ∧ ¬ (2 : Int64) < (Int32.toInt64 fault)) (tgt := 31) S dX9_fault_16 (by decide) (fun c_2 => ?_) (fun c_2 => ?_)
    · refine lv_ldc (v := (-2000000001 : Int32)) S.1 S.2.1 S.2.2.2.1 (S.2.2.2.2 _ (List.mem_of_getElem? (i := 3) rfl)) dX9_fault_31 ?_
      refine s_iret (x := (-2000000001 : Int32)) S G hr hlk dX9_fault_33 ?_
      exact ⟨rfl, rfl, rfl⟩
    · refine lv_iload_n S.1 S.2.1 dX9_fault_19 rfl (lv_at hl 3 rfl) ?_
      refine lv_i2l (v := (Int32.toInt64 what)) S.1 S.2.1 dX9_fault_20 rfl ?_
      refine lv_lconst (v := (0 : Int64)) S.1 S.2.1 dX9_fault_21 (by decide) ?_
      refine lv_ldc2 (v := (4 : Int64)) S.1 S.2.1 S.2.2.2.1 (S.2.2.2.2 _ (List.mem_of_getElem? (i := 2) rfl)) dX9_fault_22 ?_
      refine s_callS (As := [.long (Int32.toInt64 what), .long (0 : Int64), .long (4 : Int64)]) (rest := []) S hX G (k_X9_in l E (Int32.toInt64 what) (0 : Int64) (4 : Int64)) (va_cwS (bytes := cX9_in) (maxL := 6) (ret := (some .boolean)) 3 S.2.2.2.2 gX9_fault_X9_in rfl rfl rfl (by decide +kernel) ⟨Nat.le_of_ble_eq_true rfl, Nat.le_of_ble_eq_true rfl⟩) rfl hl.1 rfl (Nat.le_of_ble_eq_true rfl) ⟨Nat.zero_le _, Nat.zero_le _⟩ dX9_fault_25 (fun v I1 L1 H locs hR G => ?_)
      obtain ⟨hv, hI, hL⟩ := hR
      subst hv
      have G : GS E I L sg H locs := G.same hI hL
      refine W.eq (g2 := F0 mg 28 ls [.int (if ¬ (Int32.toInt64 what) < (0 : Int64) ∧ ¬ (4 : Int64) < (Int32.toInt64 what) then 1 else 0)]) rfl ?_
      refine s_if_ne_b (P := ¬ (Int32.toInt64 what) < (0 : Int64) ∧ ¬ (4 : Int64) < (Int32.toInt64 what)) (tgt := 34) S dX9_fault_28 (by decide) (fun c_3 => ?_) (fun c_3 => ?_)
      · exact absurd (And.intro c_1 (And.intro (out64 (a := 0) (b := 2) c_2 (by decide) (by decide)) (out64 (a := 0) (b := 4) c_3 (by decide) (by decide)))) ht
      · refine lv_ldc (v := (-2000000001 : Int32)) S.1 S.2.1 S.2.2.2.1 (S.2.2.2.2 _ (List.mem_of_getElem? (i := 3) rfl)) dX9_fault_31 ?_
        refine s_iret (x := (-2000000001 : Int32)) S G hr hlk dX9_fault_33 ?_
        exact ⟨rfl, rfl, rfl⟩
