set_option maxHeartbeats 4000000 in
set_option maxRecDepth 100000 in
theorem k_X8_load_0_0 (l : Launch) (E : Ev) {I : SI} {L : SL} (dv : Nat → Int32) (e_dv : I (6) = dv) : CS l yX8_load wsX8_load ({ frames := 2, cells := 0, slots := 0, locals := 42 }) E [.ref (E.2.2.2 0), .int (0 : Int32), .int (0 : Int32)] I L (fun vv I' L' => vv = some (.int (dv 0)) ∧ I' = I ∧ L' = L) := by
  refine CS.of (cc := cX8_load) (maxL := 4) (ret := (some .int)) (by decide) rfl (Nat.le_of_ble_eq_true rfl) ?_
  intro pg en sg mg below meth cg ls S hr hlk hX G hl
  have S : CallFix pg mg cg cX8_load 4 sg _ wsX8_load RX8 := S
  have hl : lv_has ls 4 [(0, .ref (E.2.2.2 0)), (1, .int (0 : Int32)), (2, .int (0 : Int32))] := hl
  refine lv_iload_n S.1 S.2.1 dX8_load_0 rfl (lv_at hl 1 rfl) ?_
  refine s_callS (As := [.int (0 : Int32)]) (rest := []) S hX G (k_X8_isLoad l E (0 : Int32)) (va_cwS (bytes := cX8_isLoad) (maxL := 1) (ret := (some .boolean)) 1 S.2.2.2.2 gX8_load_X8_isLoad rfl rfl rfl (by decide +kernel) ⟨Nat.le_of_ble_eq_true rfl, Nat.le_of_ble_eq_true rfl⟩) rfl hl.1 rfl (Nat.le_of_ble_eq_true rfl) ⟨Nat.zero_le _, Nat.zero_le _⟩ dX8_load_1 (fun v I1 L1 H locs hR G => ?_)
  obtain ⟨hv, hI, hL⟩ := hR
  subst hv
  have G : GS E I L sg H locs := G.same hI hL
  refine W.eq (g2 := F0 mg 4 ls [.int (if ¬ (0 : Int32) < (0 : Int32) ∧ ¬ (1 : Int32) < (0 : Int32) then 1 else 0)]) rfl ?_
  refine s_if_ne_b (P := ¬ (0 : Int32) < (0 : Int32) ∧ ¬ (1 : Int32) < (0 : Int32)) (tgt := 10) S dX8_load_4 (by decide) (fun _ => ?_) (fun h => absurd (by decide) h)
  refine lv_aload_n S.1 S.2.1 dX8_load_10 rfl (lv_at hl 0 rfl) ?_
  refine s_get S hX G (i := 0) (kd := 8) (a := (I 0)) (v := .ref (E.2.2.2 1)) (C := RX8) (T := TX8) (N := 4) 0 (rfl : sh 0 = 8) rfl rfl rfl (by decide) rfl (fun _ h => (List.mem_cons_of_mem _ (List.mem_append_left _ (List.mem_append_left _ (List.mem_append_left _ (List.mem_append_left _ (List.mem_append_right _ h))))))) (by decide) (List.mem_of_getElem? (i := 2) rfl) (fun _ h => h) dX8_load_11 ?_
  refine lv_iload_n S.1 S.2.1 dX8_load_14 rfl (lv_at hl 1 rfl) ?_
  refine s_callV (C := RX0) (As := [.int (0 : Int32)]) (rest := []) (i := 1) (kd := 0) S hX G (k_X0_loadAt_0 l E 1 (by unfold IsB; decide)) (cwV (bytes := cX0_loadAt) (maxL := 2) (ret := (some (.object "BridgeLegs$Load"))) 1 S.2.2.2.2 gX8_load_X0_loadAt rfl rfl rfl (by decide +kernel) ⟨Nat.le_of_ble_eq_true rfl, Nat.le_of_ble_eq_true rfl⟩) (rfl : sh 1 = 0) rfl rfl rfl (by decide) rfl hl.1 rfl (Nat.le_of_ble_eq_true rfl) ⟨Nat.zero_le _, Nat.zero_le _⟩ dX8_load_15 (fun v I1 L1 H locs hR G => ?_)
  obtain ⟨hv, hI, hL⟩ := hR
  subst hv
  have G : GS E I L sg H locs := G.same hI hL
  refine W.eq (g2 := F0 mg 18 ls [.ref (E.2.2.2 2)]) rfl ?_
  refine lv_astore_n (lv' := [(3, .ref (E.2.2.2 2)), (0, .ref (E.2.2.2 0)), (1, .int (0 : Int32)), (2, .int (0 : Int32))]) S.1 S.2.1 dX8_load_18 rfl hl (by decide) rfl (fun ls hl => ?_)
  refine lv_iload_n S.1 S.2.1 dX8_load_19 rfl (lv_at hl 3 rfl) ?_
  refine lv_iconst (v := (0 : Int32)) S.1 S.2.1 dX8_load_20 (by decide) ?_
  refine lv_iconst (v := (3 : Int32)) S.1 S.2.1 dX8_load_21 (by decide) ?_
  refine s_callS (As := [.int (0 : Int32), .int (0 : Int32), .int (3 : Int32)]) (rest := []) S hX G (k_X8_isWithin l E (0 : Int32) (0 : Int32) (3 : Int32)) (va_cwS (bytes := cX8_isWithin) (maxL := 3) (ret := (some .boolean)) 3 S.2.2.2.2 gX8_load_X8_isWithin rfl rfl rfl (by decide +kernel) ⟨Nat.le_of_ble_eq_true rfl, Nat.le_of_ble_eq_true rfl⟩) rfl hl.1 rfl (Nat.le_of_ble_eq_true rfl) ⟨Nat.zero_le _, Nat.zero_le _⟩ dX8_load_22 (fun v I1 L1 H locs hR G => ?_)
  obtain ⟨hv, hI, hL⟩ := hR
  subst hv
  have G : GS E I L sg H locs := G.same hI hL
  refine W.eq (g2 := F0 mg 25 ls [.int (if ¬ (0 : Int32) < (0 : Int32) ∧ ¬ (3 : Int32) < (0 : Int32) then 1 else 0)]) rfl ?_
  refine s_if_eq_b (P := ¬ (0 : Int32) < (0 : Int32) ∧ ¬ (3 : Int32) < (0 : Int32)) (tgt := 37) S dX8_load_25 (by decide) (fun h => absurd (by decide) h) (fun _ => ?_)
  refine lv_aload_n S.1 S.2.1 dX8_load_28 rfl (lv_at hl 0 rfl) ?_
  refine s_getN S hX G (i := 2) (kd := 5) (a := (I 2)) (v := .ref (E.2.2.2 5)) (C := RX5) (T := TX5) (N := 13) 2 (rfl : sh 2 = 5) rfl rfl rfl (by decide) rfl (fun _ h => (List.mem_cons_of_mem _ (List.mem_append_left _ (List.mem_append_left _ (List.mem_append_left _ (List.mem_append_right _ h)))))) (by decide) (List.mem_of_getElem? (i := 18) rfl) (fun _ h => h) dX8_load_29 ?_
  refine lv_iload_n S.1 S.2.1 dX8_load_32 rfl (lv_at hl 3 rfl) ?_
  refine s_callV (C := RX1) (As := [.int (0 : Int32)]) (rest := []) (i := 5) (kd := 1) S hX G (k_X1_value4_0 l E 5 dv (rfl : sh 5 = 1) (rfl : sh 6 = 18) e_dv) (cwV (bytes := cX1_value) (maxL := 2) (ret := (some .int)) 1 S.2.2.2.2 gX8_load_X1_value rfl rfl rfl (by decide +kernel) ⟨Nat.le_of_ble_eq_true rfl, Nat.le_of_ble_eq_true rfl⟩) (rfl : sh 5 = 1) rfl rfl rfl (by decide) rfl hl.1 rfl (Nat.le_of_ble_eq_true rfl) ⟨Nat.zero_le _, Nat.zero_le _⟩ dX8_load_33 (fun v I1 L1 H locs hR G => ?_)
  obtain ⟨hv, hI, hL⟩ := hR
  subst hv
  have G : GS E I L sg H locs := G.same hI hL
  refine W.eq (g2 := F0 mg 36 ls [.int (dv 0)]) rfl ?_
  refine s_iret (x := (dv 0)) S G hr hlk dX8_load_36 ?_
  exact ⟨rfl, rfl, rfl⟩
set_option maxHeartbeats 4000000 in
set_option maxRecDepth 100000 in
theorem k_X8_load_0_1 (l : Launch) (E : Ev) {I : SI} {L : SL} (dv : Nat → Int32) (e_dv : I (6) = dv) : CS l yX8_load wsX8_load ({ frames := 2, cells := 0, slots := 0, locals := 42 }) E [.ref (E.2.2.2 0), .int (0 : Int32), .int (1 : Int32)] I L (fun vv I' L' => vv = some (.int (dv 1)) ∧ I' = I ∧ L' = L) := by
  refine CS.of (cc := cX8_load) (maxL := 4) (ret := (some .int)) (by decide) rfl (Nat.le_of_ble_eq_true rfl) ?_
  intro pg en sg mg below meth cg ls S hr hlk hX G hl
  have S : CallFix pg mg cg cX8_load 4 sg _ wsX8_load RX8 := S
  have hl : lv_has ls 4 [(0, .ref (E.2.2.2 0)), (1, .int (0 : Int32)), (2, .int (1 : Int32))] := hl
  refine lv_iload_n S.1 S.2.1 dX8_load_0 rfl (lv_at hl 1 rfl) ?_
  refine s_callS (As := [.int (0 : Int32)]) (rest := []) S hX G (k_X8_isLoad l E (0 : Int32)) (va_cwS (bytes := cX8_isLoad) (maxL := 1) (ret := (some .boolean)) 1 S.2.2.2.2 gX8_load_X8_isLoad rfl rfl rfl (by decide +kernel) ⟨Nat.le_of_ble_eq_true rfl, Nat.le_of_ble_eq_true rfl⟩) rfl hl.1 rfl (Nat.le_of_ble_eq_true rfl) ⟨Nat.zero_le _, Nat.zero_le _⟩ dX8_load_1 (fun v I1 L1 H locs hR G => ?_)
  obtain ⟨hv, hI, hL⟩ := hR
  subst hv
  have G : GS E I L sg H locs := G.same hI hL
  refine W.eq (g2 := F0 mg 4 ls [.int (if ¬ (0 : Int32) < (0 : Int32) ∧ ¬ (1 : Int32) < (0 : Int32) then 1 else 0)]) rfl ?_
  refine s_if_ne_b (P := ¬ (0 : Int32) < (0 : Int32) ∧ ¬ (1 : Int32) < (0 : Int32)) (tgt := 10) S dX8_load_4 (by decide) (fun _ => ?_) (fun h => absurd (by decide) h)
  refine lv_aload_n S.1 S.2.1 dX8_load_10 rfl (lv_at hl 0 rfl) ?_
  refine s_get S hX G (i := 0) (kd := 8) (a := (I 0)) (v := .ref (E.2.2.2 1)) (C := RX8) (T := TX8) (N := 4) 0 (rfl : sh 0 = 8) rfl rfl rfl (by decide) rfl (fun _ h => (List.mem_cons_of_mem _ (List.mem_append_left _ (List.mem_append_left _ (List.mem_append_left _ (List.mem_append_left _ (List.mem_append_right _ h))))))) (by decide) (List.mem_of_getElem? (i := 2) rfl) (fun _ h => h) dX8_load_11 ?_
  refine lv_iload_n S.1 S.2.1 dX8_load_14 rfl (lv_at hl 1 rfl) ?_
  refine s_callV (C := RX0) (As := [.int (0 : Int32)]) (rest := []) (i := 1) (kd := 0) S hX G (k_X0_loadAt_0 l E 1 (by unfold IsB; decide)) (cwV (bytes := cX0_loadAt) (maxL := 2) (ret := (some (.object "BridgeLegs$Load"))) 1 S.2.2.2.2 gX8_load_X0_loadAt rfl rfl rfl (by decide +kernel) ⟨Nat.le_of_ble_eq_true rfl, Nat.le_of_ble_eq_true rfl⟩) (rfl : sh 1 = 0) rfl rfl rfl (by decide) rfl hl.1 rfl (Nat.le_of_ble_eq_true rfl) ⟨Nat.zero_le _, Nat.zero_le _⟩ dX8_load_15 (fun v I1 L1 H locs hR G => ?_)
  obtain ⟨hv, hI, hL⟩ := hR
  subst hv
  have G : GS E I L sg H locs := G.same hI hL
  refine W.eq (g2 := F0 mg 18 ls [.ref (E.2.2.2 2)]) rfl ?_
  refine lv_astore_n (lv' := [(3, .ref (E.2.2.2 2)), (0, .ref (E.2.2.2 0)), (1, .int (0 : Int32)), (2, .int (1 : Int32))]) S.1 S.2.1 dX8_load_18 rfl hl (by decide) rfl (fun ls hl => ?_)
  refine lv_iload_n S.1 S.2.1 dX8_load_19 rfl (lv_at hl 3 rfl) ?_
  refine lv_iconst (v := (0 : Int32)) S.1 S.2.1 dX8_load_20 (by decide) ?_
  refine lv_iconst (v := (3 : Int32)) S.1 S.2.1 dX8_load_21 (by decide) ?_
  refine s_callS (As := [.int (1 : Int32), .int (0 : Int32), .int (3 : Int32)]) (rest := []) S hX G (k_X8_isWithin l E (1 : Int32) (0 : Int32) (3 : Int32)) (va_cwS (bytes := cX8_isWithin) (maxL := 3) (ret := (some .boolean)) 3 S.2.2.2.2 gX8_load_X8_isWithin rfl rfl rfl (by decide +kernel) ⟨Nat.le_of_ble_eq_true rfl, Nat.le_of_ble_eq_true rfl⟩) rfl hl.1 rfl (Nat.le_of_ble_eq_true rfl) ⟨Nat.zero_le _, Nat.zero_le _⟩ dX8_load_22 (fun v I1 L1 H locs hR G => ?_)
  obtain ⟨hv, hI, hL⟩ := hR
  subst hv
  have G : GS E I L sg H locs := G.same hI hL
  refine W.eq (g2 := F0 mg 25 ls [.int (if ¬ (1 : Int32) < (0 : Int32) ∧ ¬ (3 : Int32) < (1 : Int32) then 1 else 0)]) rfl ?_
  refine s_if_eq_b (P := ¬ (1 : Int32) < (0 : Int32) ∧ ¬ (3 : Int32) < (1 : Int32)) (tgt := 37) S dX8_load_25 (by decide) (fun h => absurd (by decide) h) (fun _ => ?_)
  refine lv_aload_n S.1 S.2.1 dX8_load_28 rfl (lv_at hl 0 rfl) ?_
  refine s_getN S hX G (i := 2) (kd := 5) (a := (I 2)) (v := .ref (E.2.2.2 5)) (C := RX5) (T := TX5) (N := 13) 2 (rfl : sh 2 = 5) rfl rfl rfl (by decide) rfl (fun _ h => (List.mem_cons_of_mem _ (List.mem_append_left _ (List.mem_append_left _ (List.mem_append_left _ (List.mem_append_right _ h)))))) (by decide) (List.mem_of_getElem? (i := 18) rfl) (fun _ h => h) dX8_load_29 ?_
  refine lv_iload_n S.1 S.2.1 dX8_load_32 rfl (lv_at hl 3 rfl) ?_
  refine s_callV (C := RX1) (As := [.int (1 : Int32)]) (rest := []) (i := 5) (kd := 1) S hX G (k_X1_value4_1 l E 5 dv (rfl : sh 5 = 1) (rfl : sh 6 = 18) e_dv) (cwV (bytes := cX1_value) (maxL := 2) (ret := (some .int)) 1 S.2.2.2.2 gX8_load_X1_value rfl rfl rfl (by decide +kernel) ⟨Nat.le_of_ble_eq_true rfl, Nat.le_of_ble_eq_true rfl⟩) (rfl : sh 5 = 1) rfl rfl rfl (by decide) rfl hl.1 rfl (Nat.le_of_ble_eq_true rfl) ⟨Nat.zero_le _, Nat.zero_le _⟩ dX8_load_33 (fun v I1 L1 H locs hR G => ?_)
  obtain ⟨hv, hI, hL⟩ := hR
  subst hv
  have G : GS E I L sg H locs := G.same hI hL
  refine W.eq (g2 := F0 mg 36 ls [.int (dv 1)]) rfl ?_
  refine s_iret (x := (dv 1)) S G hr hlk dX8_load_36 ?_
  exact ⟨rfl, rfl, rfl⟩
set_option maxHeartbeats 4000000 in
set_option maxRecDepth 100000 in
theorem k_X8_load_0_4 (l : Launch) (E : Ev) {I : SI} {L : SL} (b : Nat → Int32) (e_b : I (2) = b) : CS l yX8_load wsX8_load ({ frames := 2, cells := 0, slots := 0, locals := 42 }) E [.ref (E.2.2.2 0), .int (0 : Int32), .int (4 : Int32)] I L (fun vv I' L' => vv = some (.int (b 4)) ∧ I' = I ∧ L' = L) := by
  refine CS.of (cc := cX8_load) (maxL := 4) (ret := (some .int)) (by decide) rfl (Nat.le_of_ble_eq_true rfl) ?_
  intro pg en sg mg below meth cg ls S hr hlk hX G hl
  have S : CallFix pg mg cg cX8_load 4 sg _ wsX8_load RX8 := S
  have hl : lv_has ls 4 [(0, .ref (E.2.2.2 0)), (1, .int (0 : Int32)), (2, .int (4 : Int32))] := hl
  refine lv_iload_n S.1 S.2.1 dX8_load_0 rfl (lv_at hl 1 rfl) ?_
  refine s_callS (As := [.int (0 : Int32)]) (rest := []) S hX G (k_X8_isLoad l E (0 : Int32)) (va_cwS (bytes := cX8_isLoad) (maxL := 1) (ret := (some .boolean)) 1 S.2.2.2.2 gX8_load_X8_isLoad rfl rfl rfl (by decide +kernel) ⟨Nat.le_of_ble_eq_true rfl, Nat.le_of_ble_eq_true rfl⟩) rfl hl.1 rfl (Nat.le_of_ble_eq_true rfl) ⟨Nat.zero_le _, Nat.zero_le _⟩ dX8_load_1 (fun v I1 L1 H locs hR G => ?_)
  obtain ⟨hv, hI, hL⟩ := hR
  subst hv
  have G : GS E I L sg H locs := G.same hI hL
  refine W.eq (g2 := F0 mg 4 ls [.int (if ¬ (0 : Int32) < (0 : Int32) ∧ ¬ (1 : Int32) < (0 : Int32) then 1 else 0)]) rfl ?_
  refine s_if_ne_b (P := ¬ (0 : Int32) < (0 : Int32) ∧ ¬ (1 : Int32) < (0 : Int32)) (tgt := 10) S dX8_load_4 (by decide) (fun _ => ?_) (fun h => absurd (by decide) h)
  refine lv_aload_n S.1 S.2.1 dX8_load_10 rfl (lv_at hl 0 rfl) ?_
  refine s_get S hX G (i := 0) (kd := 8) (a := (I 0)) (v := .ref (E.2.2.2 1)) (C := RX8) (T := TX8) (N := 4) 0 (rfl : sh 0 = 8) rfl rfl rfl (by decide) rfl (fun _ h => (List.mem_cons_of_mem _ (List.mem_append_left _ (List.mem_append_left _ (List.mem_append_left _ (List.mem_append_left _ (List.mem_append_right _ h))))))) (by decide) (List.mem_of_getElem? (i := 2) rfl) (fun _ h => h) dX8_load_11 ?_
  refine lv_iload_n S.1 S.2.1 dX8_load_14 rfl (lv_at hl 1 rfl) ?_
  refine s_callV (C := RX0) (As := [.int (0 : Int32)]) (rest := []) (i := 1) (kd := 0) S hX G (k_X0_loadAt_0 l E 1 (by unfold IsB; decide)) (cwV (bytes := cX0_loadAt) (maxL := 2) (ret := (some (.object "BridgeLegs$Load"))) 1 S.2.2.2.2 gX8_load_X0_loadAt rfl rfl rfl (by decide +kernel) ⟨Nat.le_of_ble_eq_true rfl, Nat.le_of_ble_eq_true rfl⟩) (rfl : sh 1 = 0) rfl rfl rfl (by decide) rfl hl.1 rfl (Nat.le_of_ble_eq_true rfl) ⟨Nat.zero_le _, Nat.zero_le _⟩ dX8_load_15 (fun v I1 L1 H locs hR G => ?_)
  obtain ⟨hv, hI, hL⟩ := hR
  subst hv
  have G : GS E I L sg H locs := G.same hI hL
  refine W.eq (g2 := F0 mg 18 ls [.ref (E.2.2.2 2)]) rfl ?_
  refine lv_astore_n (lv' := [(3, .ref (E.2.2.2 2)), (0, .ref (E.2.2.2 0)), (1, .int (0 : Int32)), (2, .int (4 : Int32))]) S.1 S.2.1 dX8_load_18 rfl hl (by decide) rfl (fun ls hl => ?_)
  refine lv_iload_n S.1 S.2.1 dX8_load_19 rfl (lv_at hl 3 rfl) ?_
  refine lv_iconst (v := (0 : Int32)) S.1 S.2.1 dX8_load_20 (by decide) ?_
  refine lv_iconst (v := (3 : Int32)) S.1 S.2.1 dX8_load_21 (by decide) ?_
  refine s_callS (As := [.int (4 : Int32), .int (0 : Int32), .int (3 : Int32)]) (rest := []) S hX G (k_X8_isWithin l E (4 : Int32) (0 : Int32) (3 : Int32)) (va_cwS (bytes := cX8_isWithin) (maxL := 3) (ret := (some .boolean)) 3 S.2.2.2.2 gX8_load_X8_isWithin rfl rfl rfl (by decide +kernel) ⟨Nat.le_of_ble_eq_true rfl, Nat.le_of_ble_eq_true rfl⟩) rfl hl.1 rfl (Nat.le_of_ble_eq_true rfl) ⟨Nat.zero_le _, Nat.zero_le _⟩ dX8_load_22 (fun v I1 L1 H locs hR G => ?_)
  obtain ⟨hv, hI, hL⟩ := hR
  subst hv
  have G : GS E I L sg H locs := G.same hI hL
  refine W.eq (g2 := F0 mg 25 ls [.int (if ¬ (4 : Int32) < (0 : Int32) ∧ ¬ (3 : Int32) < (4 : Int32) then 1 else 0)]) rfl ?_
  refine s_if_eq_b (P := ¬ (4 : Int32) < (0 : Int32) ∧ ¬ (3 : Int32) < (4 : Int32)) (tgt := 37) S dX8_load_25 (by decide) (fun _ => ?_) (fun h => absurd h (by decide))
  refine lv_iload_n S.1 S.2.1 dX8_load_37 rfl (lv_at hl 3 rfl) ?_
  refine lv_tableIn (off := 46) (tgt := 84) S.1 S.2.1 dX8_load_38 (by decide) (by decide) (by decide) (by decide) ?_
  refine lv_aload_n S.1 S.2.1 dX8_load_84 rfl (lv_at hl 0 rfl) ?_
  refine s_getN S hX G (i := 2) (kd := 5) (a := b) (v := .int (b 4)) (C := RX5) (T := TX5) (N := 13) 4 (rfl : sh 2 = 5) e_b rfl rfl (by decide) rfl (fun _ h => (List.mem_cons_of_mem _ (List.mem_append_left _ (List.mem_append_left _ (List.mem_append_left _ (List.mem_append_right _ h)))))) (by decide) (List.mem_of_getElem? (i := 21) rfl) (fun _ h => h) dX8_load_85 ?_
  refine s_iret (x := (b 4)) S G hr hlk dX8_load_88 ?_
  exact ⟨rfl, rfl, rfl⟩
set_option maxHeartbeats 4000000 in
set_option maxRecDepth 100000 in
theorem k_X8_load_0_5 (l : Launch) (E : Ev) {I : SI} {L : SL} (b : Nat → Int32) (e_b : I (2) = b) : CS l yX8_load wsX8_load ({ frames := 2, cells := 0, slots := 0, locals := 42 }) E [.ref (E.2.2.2 0), .int (0 : Int32), .int (5 : Int32)] I L (fun vv I' L' => vv = some (.int (b 5)) ∧ I' = I ∧ L' = L) := by
  refine CS.of (cc := cX8_load) (maxL := 4) (ret := (some .int)) (by decide) rfl (Nat.le_of_ble_eq_true rfl) ?_
  intro pg en sg mg below meth cg ls S hr hlk hX G hl
  have S : CallFix pg mg cg cX8_load 4 sg _ wsX8_load RX8 := S
  have hl : lv_has ls 4 [(0, .ref (E.2.2.2 0)), (1, .int (0 : Int32)), (2, .int (5 : Int32))] := hl
  refine lv_iload_n S.1 S.2.1 dX8_load_0 rfl (lv_at hl 1 rfl) ?_
  refine s_callS (As := [.int (0 : Int32)]) (rest := []) S hX G (k_X8_isLoad l E (0 : Int32)) (va_cwS (bytes := cX8_isLoad) (maxL := 1) (ret := (some .boolean)) 1 S.2.2.2.2 gX8_load_X8_isLoad rfl rfl rfl (by decide +kernel) ⟨Nat.le_of_ble_eq_true rfl, Nat.le_of_ble_eq_true rfl⟩) rfl hl.1 rfl (Nat.le_of_ble_eq_true rfl) ⟨Nat.zero_le _, Nat.zero_le _⟩ dX8_load_1 (fun v I1 L1 H locs hR G => ?_)
  obtain ⟨hv, hI, hL⟩ := hR
  subst hv
  have G : GS E I L sg H locs := G.same hI hL
  refine W.eq (g2 := F0 mg 4 ls [.int (if ¬ (0 : Int32) < (0 : Int32) ∧ ¬ (1 : Int32) < (0 : Int32) then 1 else 0)]) rfl ?_
  refine s_if_ne_b (P := ¬ (0 : Int32) < (0 : Int32) ∧ ¬ (1 : Int32) < (0 : Int32)) (tgt := 10) S dX8_load_4 (by decide) (fun _ => ?_) (fun h => absurd (by decide) h)
  refine lv_aload_n S.1 S.2.1 dX8_load_10 rfl (lv_at hl 0 rfl) ?_
  refine s_get S hX G (i := 0) (kd := 8) (a := (I 0)) (v := .ref (E.2.2.2 1)) (C := RX8) (T := TX8) (N := 4) 0 (rfl : sh 0 = 8) rfl rfl rfl (by decide) rfl (fun _ h => (List.mem_cons_of_mem _ (List.mem_append_left _ (List.mem_append_left _ (List.mem_append_left _ (List.mem_append_left _ (List.mem_append_right _ h))))))) (by decide) (List.mem_of_getElem? (i := 2) rfl) (fun _ h => h) dX8_load_11 ?_
  refine lv_iload_n S.1 S.2.1 dX8_load_14 rfl (lv_at hl 1 rfl) ?_
  refine s_callV (C := RX0) (As := [.int (0 : Int32)]) (rest := []) (i := 1) (kd := 0) S hX G (k_X0_loadAt_0 l E 1 (by unfold IsB; decide)) (cwV (bytes := cX0_loadAt) (maxL := 2) (ret := (some (.object "BridgeLegs$Load"))) 1 S.2.2.2.2 gX8_load_X0_loadAt rfl rfl rfl (by decide +kernel) ⟨Nat.le_of_ble_eq_true rfl, Nat.le_of_ble_eq_true rfl⟩) (rfl : sh 1 = 0) rfl rfl rfl (by decide) rfl hl.1 rfl (Nat.le_of_ble_eq_true rfl) ⟨Nat.zero_le _, Nat.zero_le _⟩ dX8_load_15 (fun v I1 L1 H locs hR G => ?_)
  obtain ⟨hv, hI, hL⟩ := hR
  subst hv
  have G : GS E I L sg H locs := G.same hI hL
  refine W.eq (g2 := F0 mg 18 ls [.ref (E.2.2.2 2)]) rfl ?_
  refine lv_astore_n (lv' := [(3, .ref (E.2.2.2 2)), (0, .ref (E.2.2.2 0)), (1, .int (0 : Int32)), (2, .int (5 : Int32))]) S.1 S.2.1 dX8_load_18 rfl hl (by decide) rfl (fun ls hl => ?_)
  refine lv_iload_n S.1 S.2.1 dX8_load_19 rfl (lv_at hl 3 rfl) ?_
  refine lv_iconst (v := (0 : Int32)) S.1 S.2.1 dX8_load_20 (by decide) ?_
  refine lv_iconst (v := (3 : Int32)) S.1 S.2.1 dX8_load_21 (by decide) ?_
  refine s_callS (As := [.int (5 : Int32), .int (0 : Int32), .int (3 : Int32)]) (rest := []) S hX G (k_X8_isWithin l E (5 : Int32) (0 : Int32) (3 : Int32)) (va_cwS (bytes := cX8_isWithin) (maxL := 3) (ret := (some .boolean)) 3 S.2.2.2.2 gX8_load_X8_isWithin rfl rfl rfl (by decide +kernel) ⟨Nat.le_of_ble_eq_true rfl, Nat.le_of_ble_eq_true rfl⟩) rfl hl.1 rfl (Nat.le_of_ble_eq_true rfl) ⟨Nat.zero_le _, Nat.zero_le _⟩ dX8_load_22 (fun v I1 L1 H locs hR G => ?_)
  obtain ⟨hv, hI, hL⟩ := hR
  subst hv
  have G : GS E I L sg H locs := G.same hI hL
  refine W.eq (g2 := F0 mg 25 ls [.int (if ¬ (5 : Int32) < (0 : Int32) ∧ ¬ (3 : Int32) < (5 : Int32) then 1 else 0)]) rfl ?_
  refine s_if_eq_b (P := ¬ (5 : Int32) < (0 : Int32) ∧ ¬ (3 : Int32) < (5 : Int32)) (tgt := 37) S dX8_load_25 (by decide) (fun _ => ?_) (fun h => absurd h (by decide))
  refine lv_iload_n S.1 S.2.1 dX8_load_37 rfl (lv_at hl 3 rfl) ?_
  refine lv_tableIn (off := 51) (tgt := 89) S.1 S.2.1 dX8_load_38 (by decide) (by decide) (by decide) (by decide) ?_
  refine lv_aload_n S.1 S.2.1 dX8_load_89 rfl (lv_at hl 0 rfl) ?_
  refine s_getN S hX G (i := 2) (kd := 5) (a := b) (v := .int (b 5)) (C := RX5) (T := TX5) (N := 13) 5 (rfl : sh 2 = 5) e_b rfl rfl (by decide) rfl (fun _ h => (List.mem_cons_of_mem _ (List.mem_append_left _ (List.mem_append_left _ (List.mem_append_left _ (List.mem_append_right _ h)))))) (by decide) (List.mem_of_getElem? (i := 22) rfl) (fun _ h => h) dX8_load_90 ?_
  refine s_iret (x := (b 5)) S G hr hlk dX8_load_93 ?_
  exact ⟨rfl, rfl, rfl⟩
set_option maxHeartbeats 4000000 in
set_option maxRecDepth 100000 in
theorem k_X8_load_0_6 (l : Launch) (E : Ev) {I : SI} {L : SL} (b : Nat → Int32) (e_b : I (2) = b) (g6 : isb (b 6)) : CS l yX8_load wsX8_load ({ frames := 2, cells := 0, slots := 0, locals := 42 }) E [.ref (E.2.2.2 0), .int (0 : Int32), .int (6 : Int32)] I L (fun vv I' L' => vv = some (.int (b 6)) ∧ I' = I ∧ L' = L) := by
  refine CS.of (cc := cX8_load) (maxL := 4) (ret := (some .int)) (by decide) rfl (Nat.le_of_ble_eq_true rfl) ?_
  intro pg en sg mg below meth cg ls S hr hlk hX G hl
  have S : CallFix pg mg cg cX8_load 4 sg _ wsX8_load RX8 := S
  have hl : lv_has ls 4 [(0, .ref (E.2.2.2 0)), (1, .int (0 : Int32)), (2, .int (6 : Int32))] := hl
  refine lv_iload_n S.1 S.2.1 dX8_load_0 rfl (lv_at hl 1 rfl) ?_
  refine s_callS (As := [.int (0 : Int32)]) (rest := []) S hX G (k_X8_isLoad l E (0 : Int32)) (va_cwS (bytes := cX8_isLoad) (maxL := 1) (ret := (some .boolean)) 1 S.2.2.2.2 gX8_load_X8_isLoad rfl rfl rfl (by decide +kernel) ⟨Nat.le_of_ble_eq_true rfl, Nat.le_of_ble_eq_true rfl⟩) rfl hl.1 rfl (Nat.le_of_ble_eq_true rfl) ⟨Nat.zero_le _, Nat.zero_le _⟩ dX8_load_1 (fun v I1 L1 H locs hR G => ?_)
  obtain ⟨hv, hI, hL⟩ := hR
  subst hv
  have G : GS E I L sg H locs := G.same hI hL
  refine W.eq (g2 := F0 mg 4 ls [.int (if ¬ (0 : Int32) < (0 : Int32) ∧ ¬ (1 : Int32) < (0 : Int32) then 1 else 0)]) rfl ?_
  refine s_if_ne_b (P := ¬ (0 : Int32) < (0 : Int32) ∧ ¬ (1 : Int32) < (0 : Int32)) (tgt := 10) S dX8_load_4 (by decide) (fun _ => ?_) (fun h => absurd (by decide) h)
  refine lv_aload_n S.1 S.2.1 dX8_load_10 rfl (lv_at hl 0 rfl) ?_
  refine s_get S hX G (i := 0) (kd := 8) (a := (I 0)) (v := .ref (E.2.2.2 1)) (C := RX8) (T := TX8) (N := 4) 0 (rfl : sh 0 = 8) rfl rfl rfl (by decide) rfl (fun _ h => (List.mem_cons_of_mem _ (List.mem_append_left _ (List.mem_append_left _ (List.mem_append_left _ (List.mem_append_left _ (List.mem_append_right _ h))))))) (by decide) (List.mem_of_getElem? (i := 2) rfl) (fun _ h => h) dX8_load_11 ?_
  refine lv_iload_n S.1 S.2.1 dX8_load_14 rfl (lv_at hl 1 rfl) ?_
  refine s_callV (C := RX0) (As := [.int (0 : Int32)]) (rest := []) (i := 1) (kd := 0) S hX G (k_X0_loadAt_0 l E 1 (by unfold IsB; decide)) (cwV (bytes := cX0_loadAt) (maxL := 2) (ret := (some (.object "BridgeLegs$Load"))) 1 S.2.2.2.2 gX8_load_X0_loadAt rfl rfl rfl (by decide +kernel) ⟨Nat.le_of_ble_eq_true rfl, Nat.le_of_ble_eq_true rfl⟩) (rfl : sh 1 = 0) rfl rfl rfl (by decide) rfl hl.1 rfl (Nat.le_of_ble_eq_true rfl) ⟨Nat.zero_le _, Nat.zero_le _⟩ dX8_load_15 (fun v I1 L1 H locs hR G => ?_)
  obtain ⟨hv, hI, hL⟩ := hR
  subst hv
  have G : GS E I L sg H locs := G.same hI hL
  refine W.eq (g2 := F0 mg 18 ls [.ref (E.2.2.2 2)]) rfl ?_
  refine lv_astore_n (lv' := [(3, .ref (E.2.2.2 2)), (0, .ref (E.2.2.2 0)), (1, .int (0 : Int32)), (2, .int (6 : Int32))]) S.1 S.2.1 dX8_load_18 rfl hl (by decide) rfl (fun ls hl => ?_)
  refine lv_iload_n S.1 S.2.1 dX8_load_19 rfl (lv_at hl 3 rfl) ?_
  refine lv_iconst (v := (0 : Int32)) S.1 S.2.1 dX8_load_20 (by decide) ?_
  refine lv_iconst (v := (3 : Int32)) S.1 S.2.1 dX8_load_21 (by decide) ?_
  refine s_callS (As := [.int (6 : Int32), .int (0 : Int32), .int (3 : Int32)]) (rest := []) S hX G (k_X8_isWithin l E (6 : Int32) (0 : Int32) (3 : Int32)) (va_cwS (bytes := cX8_isWithin) (maxL := 3) (ret := (some .boolean)) 3 S.2.2.2.2 gX8_load_X8_isWithin rfl rfl rfl (by decide +kernel) ⟨Nat.le_of_ble_eq_true rfl, Nat.le_of_ble_eq_true rfl⟩) rfl hl.1 rfl (Nat.le_of_ble_eq_true rfl) ⟨Nat.zero_le _, Nat.zero_le _⟩ dX8_load_22 (fun v I1 L1 H locs hR G => ?_)
  obtain ⟨hv, hI, hL⟩ := hR
  subst hv
  have G : GS E I L sg H locs := G.same hI hL
  refine W.eq (g2 := F0 mg 25 ls [.int (if ¬ (6 : Int32) < (0 : Int32) ∧ ¬ (3 : Int32) < (6 : Int32) then 1 else 0)]) rfl ?_
  refine s_if_eq_b (P := ¬ (6 : Int32) < (0 : Int32) ∧ ¬ (3 : Int32) < (6 : Int32)) (tgt := 37) S dX8_load_25 (by decide) (fun _ => ?_) (fun h => absurd h (by decide))
  refine lv_iload_n S.1 S.2.1 dX8_load_37 rfl (lv_at hl 3 rfl) ?_
  refine lv_tableIn (off := 56) (tgt := 94) S.1 S.2.1 dX8_load_38 (by decide) (by decide) (by decide) (by decide) ?_
  refine lv_aload_n S.1 S.2.1 dX8_load_94 rfl (lv_at hl 0 rfl) ?_
  refine s_getN S hX G (i := 2) (kd := 5) (a := b) (v := .int (b 6)) (C := RX5) (T := TX5) (N := 13) 6 (rfl : sh 2 = 5) e_b rfl rfl (by decide) rfl (fun _ h => (List.mem_cons_of_mem _ (List.mem_append_left _ (List.mem_append_left _ (List.mem_append_left _ (List.mem_append_right _ h)))))) (by decide) (List.mem_of_getElem? (i := 23) rfl) (fun _ h => h) dX8_load_95 ?_
  refine s_callS (As := [.int (b 6)]) (rest := []) S hX G (k_X8_bit l E (b 6) g6) (va_cwS (bytes := cX8_bit) (maxL := 1) (ret := (some .int)) 1 S.2.2.2.2 gX8_load_X8_bit rfl rfl rfl (by decide +kernel) ⟨Nat.le_of_ble_eq_true rfl, Nat.le_of_ble_eq_true rfl⟩) rfl hl.1 rfl (Nat.le_of_ble_eq_true rfl) ⟨Nat.zero_le _, Nat.zero_le _⟩ dX8_load_98 (fun v I1 L1 H locs hR G => ?_)
  obtain ⟨hv, hI, hL⟩ := hR
  subst hv
  have G : GS E I L sg H locs := G.same hI hL
  refine W.eq (g2 := F0 mg 101 ls [.int (b 6)]) rfl ?_
  refine s_iret (x := (b 6)) S G hr hlk dX8_load_101 ?_
  exact ⟨rfl, rfl, rfl⟩
set_option maxHeartbeats 4000000 in
set_option maxRecDepth 100000 in
theorem k_X8_load_0_7 (l : Launch) (E : Ev) {I : SI} {L : SL} (b : Nat → Int32) (e_b : I (2) = b) (g7 : isb (b 7)) : CS l yX8_load wsX8_load ({ frames := 2, cells := 0, slots := 0, locals := 42 }) E [.ref (E.2.2.2 0), .int (0 : Int32), .int (7 : Int32)] I L (fun vv I' L' => vv = some (.int (b 7)) ∧ I' = I ∧ L' = L) := by
  refine CS.of (cc := cX8_load) (maxL := 4) (ret := (some .int)) (by decide) rfl (Nat.le_of_ble_eq_true rfl) ?_
  intro pg en sg mg below meth cg ls S hr hlk hX G hl
  have S : CallFix pg mg cg cX8_load 4 sg _ wsX8_load RX8 := S
  have hl : lv_has ls 4 [(0, .ref (E.2.2.2 0)), (1, .int (0 : Int32)), (2, .int (7 : Int32))] := hl
  refine lv_iload_n S.1 S.2.1 dX8_load_0 rfl (lv_at hl 1 rfl) ?_
  refine s_callS (As := [.int (0 : Int32)]) (rest := []) S hX G (k_X8_isLoad l E (0 : Int32)) (va_cwS (bytes := cX8_isLoad) (maxL := 1) (ret := (some .boolean)) 1 S.2.2.2.2 gX8_load_X8_isLoad rfl rfl rfl (by decide +kernel) ⟨Nat.le_of_ble_eq_true rfl, Nat.le_of_ble_eq_true rfl⟩) rfl hl.1 rfl (Nat.le_of_ble_eq_true rfl) ⟨Nat.zero_le _, Nat.zero_le _⟩ dX8_load_1 (fun v I1 L1 H locs hR G => ?_)
  obtain ⟨hv, hI, hL⟩ := hR
  subst hv
  have G : GS E I L sg H locs := G.same hI hL
  refine W.eq (g2 := F0 mg 4 ls [.int (if ¬ (0 : Int32) < (0 : Int32) ∧ ¬ (1 : Int32) < (0 : Int32) then 1 else 0)]) rfl ?_
  refine s_if_ne_b (P := ¬ (0 : Int32) < (0 : Int32) ∧ ¬ (1 : Int32) < (0 : Int32)) (tgt := 10) S dX8_load_4 (by decide) (fun _ => ?_) (fun h => absurd (by decide) h)
  refine lv_aload_n S.1 S.2.1 dX8_load_10 rfl (lv_at hl 0 rfl) ?_
  refine s_get S hX G (i := 0) (kd := 8) (a := (I 0)) (v := .ref (E.2.2.2 1)) (C := RX8) (T := TX8) (N := 4) 0 (rfl : sh 0 = 8) rfl rfl rfl (by decide) rfl (fun _ h => (List.mem_cons_of_mem _ (List.mem_append_left _ (List.mem_append_left _ (List.mem_append_left _ (List.mem_append_left _ (List.mem_append_right _ h))))))) (by decide) (List.mem_of_getElem? (i := 2) rfl) (fun _ h => h) dX8_load_11 ?_
  refine lv_iload_n S.1 S.2.1 dX8_load_14 rfl (lv_at hl 1 rfl) ?_
  refine s_callV (C := RX0) (As := [.int (0 : Int32)]) (rest := []) (i := 1) (kd := 0) S hX G (k_X0_loadAt_0 l E 1 (by unfold IsB; decide)) (cwV (bytes := cX0_loadAt) (maxL := 2) (ret := (some (.object "BridgeLegs$Load"))) 1 S.2.2.2.2 gX8_load_X0_loadAt rfl rfl rfl (by decide +kernel) ⟨Nat.le_of_ble_eq_true rfl, Nat.le_of_ble_eq_true rfl⟩) (rfl : sh 1 = 0) rfl rfl rfl (by decide) rfl hl.1 rfl (Nat.le_of_ble_eq_true rfl) ⟨Nat.zero_le _, Nat.zero_le _⟩ dX8_load_15 (fun v I1 L1 H locs hR G => ?_)
  obtain ⟨hv, hI, hL⟩ := hR
  subst hv
  have G : GS E I L sg H locs := G.same hI hL
  refine W.eq (g2 := F0 mg 18 ls [.ref (E.2.2.2 2)]) rfl ?_
  refine lv_astore_n (lv' := [(3, .ref (E.2.2.2 2)), (0, .ref (E.2.2.2 0)), (1, .int (0 : Int32)), (2, .int (7 : Int32))]) S.1 S.2.1 dX8_load_18 rfl hl (by decide) rfl (fun ls hl => ?_)
  refine lv_iload_n S.1 S.2.1 dX8_load_19 rfl (lv_at hl 3 rfl) ?_
  refine lv_iconst (v := (0 : Int32)) S.1 S.2.1 dX8_load_20 (by decide) ?_
  refine lv_iconst (v := (3 : Int32)) S.1 S.2.1 dX8_load_21 (by decide) ?_
  refine s_callS (As := [.int (7 : Int32), .int (0 : Int32), .int (3 : Int32)]) (rest := []) S hX G (k_X8_isWithin l E (7 : Int32) (0 : Int32) (3 : Int32)) (va_cwS (bytes := cX8_isWithin) (maxL := 3) (ret := (some .boolean)) 3 S.2.2.2.2 gX8_load_X8_isWithin rfl rfl rfl (by decide +kernel) ⟨Nat.le_of_ble_eq_true rfl, Nat.le_of_ble_eq_true rfl⟩) rfl hl.1 rfl (Nat.le_of_ble_eq_true rfl) ⟨Nat.zero_le _, Nat.zero_le _⟩ dX8_load_22 (fun v I1 L1 H locs hR G => ?_)
  obtain ⟨hv, hI, hL⟩ := hR
  subst hv
  have G : GS E I L sg H locs := G.same hI hL
  refine W.eq (g2 := F0 mg 25 ls [.int (if ¬ (7 : Int32) < (0 : Int32) ∧ ¬ (3 : Int32) < (7 : Int32) then 1 else 0)]) rfl ?_
  refine s_if_eq_b (P := ¬ (7 : Int32) < (0 : Int32) ∧ ¬ (3 : Int32) < (7 : Int32)) (tgt := 37) S dX8_load_25 (by decide) (fun _ => ?_) (fun h => absurd h (by decide))
  refine lv_iload_n S.1 S.2.1 dX8_load_37 rfl (lv_at hl 3 rfl) ?_
  refine lv_tableIn (off := 64) (tgt := 102) S.1 S.2.1 dX8_load_38 (by decide) (by decide) (by decide) (by decide) ?_
  refine lv_aload_n S.1 S.2.1 dX8_load_102 rfl (lv_at hl 0 rfl) ?_
  refine s_getN S hX G (i := 2) (kd := 5) (a := b) (v := .int (b 7)) (C := RX5) (T := TX5) (N := 13) 7 (rfl : sh 2 = 5) e_b rfl rfl (by decide) rfl (fun _ h => (List.mem_cons_of_mem _ (List.mem_append_left _ (List.mem_append_left _ (List.mem_append_left _ (List.mem_append_right _ h)))))) (by decide) (List.mem_of_getElem? (i := 25) rfl) (fun _ h => h) dX8_load_103 ?_
  refine s_callS (As := [.int (b 7)]) (rest := []) S hX G (k_X8_bit l E (b 7) g7) (va_cwS (bytes := cX8_bit) (maxL := 1) (ret := (some .int)) 1 S.2.2.2.2 gX8_load_X8_bit rfl rfl rfl (by decide +kernel) ⟨Nat.le_of_ble_eq_true rfl, Nat.le_of_ble_eq_true rfl⟩) rfl hl.1 rfl (Nat.le_of_ble_eq_true rfl) ⟨Nat.zero_le _, Nat.zero_le _⟩ dX8_load_106 (fun v I1 L1 H locs hR G => ?_)
  obtain ⟨hv, hI, hL⟩ := hR
  subst hv
  have G : GS E I L sg H locs := G.same hI hL
  refine W.eq (g2 := F0 mg 109 ls [.int (b 7)]) rfl ?_
  refine s_iret (x := (b 7)) S G hr hlk dX8_load_109 ?_
  exact ⟨rfl, rfl, rfl⟩
set_option maxHeartbeats 4000000 in
set_option maxRecDepth 100000 in
theorem k_X8_load_0_10 (l : Launch) (E : Ev) {I : SI} {L : SL} (n : Nat → Int32) (e_n : I (7) = n) : CS l yX8_load wsX8_load ({ frames := 2, cells := 0, slots := 0, locals := 42 }) E [.ref (E.2.2.2 0), .int (0 : Int32), .int (10 : Int32)] I L (fun vv I' L' => vv = some (.int (n 3)) ∧ I' = I ∧ L' = L) := by
  refine CS.of (cc := cX8_load) (maxL := 4) (ret := (some .int)) (by decide) rfl (Nat.le_of_ble_eq_true rfl) ?_
  intro pg en sg mg below meth cg ls S hr hlk hX G hl
  have S : CallFix pg mg cg cX8_load 4 sg _ wsX8_load RX8 := S
  have hl : lv_has ls 4 [(0, .ref (E.2.2.2 0)), (1, .int (0 : Int32)), (2, .int (10 : Int32))] := hl
  refine lv_iload_n S.1 S.2.1 dX8_load_0 rfl (lv_at hl 1 rfl) ?_
  refine s_callS (As := [.int (0 : Int32)]) (rest := []) S hX G (k_X8_isLoad l E (0 : Int32)) (va_cwS (bytes := cX8_isLoad) (maxL := 1) (ret := (some .boolean)) 1 S.2.2.2.2 gX8_load_X8_isLoad rfl rfl rfl (by decide +kernel) ⟨Nat.le_of_ble_eq_true rfl, Nat.le_of_ble_eq_true rfl⟩) rfl hl.1 rfl (Nat.le_of_ble_eq_true rfl) ⟨Nat.zero_le _, Nat.zero_le _⟩ dX8_load_1 (fun v I1 L1 H locs hR G => ?_)
  obtain ⟨hv, hI, hL⟩ := hR
  subst hv
  have G : GS E I L sg H locs := G.same hI hL
  refine W.eq (g2 := F0 mg 4 ls [.int (if ¬ (0 : Int32) < (0 : Int32) ∧ ¬ (1 : Int32) < (0 : Int32) then 1 else 0)]) rfl ?_
  refine s_if_ne_b (P := ¬ (0 : Int32) < (0 : Int32) ∧ ¬ (1 : Int32) < (0 : Int32)) (tgt := 10) S dX8_load_4 (by decide) (fun _ => ?_) (fun h => absurd (by decide) h)
  refine lv_aload_n S.1 S.2.1 dX8_load_10 rfl (lv_at hl 0 rfl) ?_
  refine s_get S hX G (i := 0) (kd := 8) (a := (I 0)) (v := .ref (E.2.2.2 1)) (C := RX8) (T := TX8) (N := 4) 0 (rfl : sh 0 = 8) rfl rfl rfl (by decide) rfl (fun _ h => (List.mem_cons_of_mem _ (List.mem_append_left _ (List.mem_append_left _ (List.mem_append_left _ (List.mem_append_left _ (List.mem_append_right _ h))))))) (by decide) (List.mem_of_getElem? (i := 2) rfl) (fun _ h => h) dX8_load_11 ?_
  refine lv_iload_n S.1 S.2.1 dX8_load_14 rfl (lv_at hl 1 rfl) ?_
  refine s_callV (C := RX0) (As := [.int (0 : Int32)]) (rest := []) (i := 1) (kd := 0) S hX G (k_X0_loadAt_0 l E 1 (by unfold IsB; decide)) (cwV (bytes := cX0_loadAt) (maxL := 2) (ret := (some (.object "BridgeLegs$Load"))) 1 S.2.2.2.2 gX8_load_X0_loadAt rfl rfl rfl (by decide +kernel) ⟨Nat.le_of_ble_eq_true rfl, Nat.le_of_ble_eq_true rfl⟩) (rfl : sh 1 = 0) rfl rfl rfl (by decide) rfl hl.1 rfl (Nat.le_of_ble_eq_true rfl) ⟨Nat.zero_le _, Nat.zero_le _⟩ dX8_load_15 (fun v I1 L1 H locs hR G => ?_)
  obtain ⟨hv, hI, hL⟩ := hR
  subst hv
  have G : GS E I L sg H locs := G.same hI hL
  refine W.eq (g2 := F0 mg 18 ls [.ref (E.2.2.2 2)]) rfl ?_
  refine lv_astore_n (lv' := [(3, .ref (E.2.2.2 2)), (0, .ref (E.2.2.2 0)), (1, .int (0 : Int32)), (2, .int (10 : Int32))]) S.1 S.2.1 dX8_load_18 rfl hl (by decide) rfl (fun ls hl => ?_)
  refine lv_iload_n S.1 S.2.1 dX8_load_19 rfl (lv_at hl 3 rfl) ?_
  refine lv_iconst (v := (0 : Int32)) S.1 S.2.1 dX8_load_20 (by decide) ?_
  refine lv_iconst (v := (3 : Int32)) S.1 S.2.1 dX8_load_21 (by decide) ?_
  refine s_callS (As := [.int (10 : Int32), .int (0 : Int32), .int (3 : Int32)]) (rest := []) S hX G (k_X8_isWithin l E (10 : Int32) (0 : Int32) (3 : Int32)) (va_cwS (bytes := cX8_isWithin) (maxL := 3) (ret := (some .boolean)) 3 S.2.2.2.2 gX8_load_X8_isWithin rfl rfl rfl (by decide +kernel) ⟨Nat.le_of_ble_eq_true rfl, Nat.le_of_ble_eq_true rfl⟩) rfl hl.1 rfl (Nat.le_of_ble_eq_true rfl) ⟨Nat.zero_le _, Nat.zero_le _⟩ dX8_load_22 (fun v I1 L1 H locs hR G => ?_)
  obtain ⟨hv, hI, hL⟩ := hR
  subst hv
  have G : GS E I L sg H locs := G.same hI hL
  refine W.eq (g2 := F0 mg 25 ls [.int (if ¬ (10 : Int32) < (0 : Int32) ∧ ¬ (3 : Int32) < (10 : Int32) then 1 else 0)]) rfl ?_
  refine s_if_eq_b (P := ¬ (10 : Int32) < (0 : Int32) ∧ ¬ (3 : Int32) < (10 : Int32)) (tgt := 37) S dX8_load_25 (by decide) (fun _ => ?_) (fun h => absurd h (by decide))
  refine lv_iload_n S.1 S.2.1 dX8_load_37 rfl (lv_at hl 3 rfl) ?_
  refine lv_tableIn (off := 95) (tgt := 133) S.1 S.2.1 dX8_load_38 (by decide) (by decide) (by decide) (by decide) ?_
  refine lv_aload_n S.1 S.2.1 dX8_load_133 rfl (lv_at hl 0 rfl) ?_
  refine s_getN S hX G (i := 2) (kd := 5) (a := (I 2)) (v := .ref (E.2.2.2 7)) (C := RX5) (T := TX5) (N := 13) 3 (rfl : sh 2 = 5) rfl rfl rfl (by decide) rfl (fun _ h => (List.mem_cons_of_mem _ (List.mem_append_left _ (List.mem_append_left _ (List.mem_append_left _ (List.mem_append_right _ h)))))) (by decide) (List.mem_of_getElem? (i := 19) rfl) (fun _ h => h) dX8_load_134 ?_
  refine s_getN S hX G (i := 7) (kd := 3) (a := n) (v := .int (n 3)) (C := RX3) (T := TX3) (N := 4) 3 (rfl : sh 7 = 3) e_n rfl rfl (by decide) rfl (fun _ h => (List.mem_cons_of_mem _ (List.mem_append_left _ (List.mem_append_left _ (List.mem_append_right _ h))))) (by decide) (List.mem_of_getElem? (i := 13) rfl) (fun _ h => h) dX8_load_137 ?_
  refine s_iret (x := (n 3)) S G hr hlk dX8_load_140 ?_
  exact ⟨rfl, rfl, rfl⟩
set_option maxHeartbeats 4000000 in
set_option maxRecDepth 100000 in
theorem k_X8_load_1_0 (l : Launch) (E : Ev) {I : SI} {L : SL} (dv : Nat → Int32) (e_dv : I (15) = dv) : CS l yX8_load wsX8_load ({ frames := 2, cells := 0, slots := 0, locals := 42 }) E [.ref (E.2.2.2 0), .int (1 : Int32), .int (0 : Int32)] I L (fun vv I' L' => vv = some (.int (dv 0)) ∧ I' = I ∧ L' = L) := by
  refine CS.of (cc := cX8_load) (maxL := 4) (ret := (some .int)) (by decide) rfl (Nat.le_of_ble_eq_true rfl) ?_
  intro pg en sg mg below meth cg ls S hr hlk hX G hl
  have S : CallFix pg mg cg cX8_load 4 sg _ wsX8_load RX8 := S
  have hl : lv_has ls 4 [(0, .ref (E.2.2.2 0)), (1, .int (1 : Int32)), (2, .int (0 : Int32))] := hl
  refine lv_iload_n S.1 S.2.1 dX8_load_0 rfl (lv_at hl 1 rfl) ?_
  refine s_callS (As := [.int (1 : Int32)]) (rest := []) S hX G (k_X8_isLoad l E (1 : Int32)) (va_cwS (bytes := cX8_isLoad) (maxL := 1) (ret := (some .boolean)) 1 S.2.2.2.2 gX8_load_X8_isLoad rfl rfl rfl (by decide +kernel) ⟨Nat.le_of_ble_eq_true rfl, Nat.le_of_ble_eq_true rfl⟩) rfl hl.1 rfl (Nat.le_of_ble_eq_true rfl) ⟨Nat.zero_le _, Nat.zero_le _⟩ dX8_load_1 (fun v I1 L1 H locs hR G => ?_)
  obtain ⟨hv, hI, hL⟩ := hR
  subst hv
  have G : GS E I L sg H locs := G.same hI hL
  refine W.eq (g2 := F0 mg 4 ls [.int (if ¬ (1 : Int32) < (0 : Int32) ∧ ¬ (1 : Int32) < (1 : Int32) then 1 else 0)]) rfl ?_
  refine s_if_ne_b (P := ¬ (1 : Int32) < (0 : Int32) ∧ ¬ (1 : Int32) < (1 : Int32)) (tgt := 10) S dX8_load_4 (by decide) (fun _ => ?_) (fun h => absurd (by decide) h)
  refine lv_aload_n S.1 S.2.1 dX8_load_10 rfl (lv_at hl 0 rfl) ?_
  refine s_get S hX G (i := 0) (kd := 8) (a := (I 0)) (v := .ref (E.2.2.2 1)) (C := RX8) (T := TX8) (N := 4) 0 (rfl : sh 0 = 8) rfl rfl rfl (by decide) rfl (fun _ h => (List.mem_cons_of_mem _ (List.mem_append_left _ (List.mem_append_left _ (List.mem_append_left _ (List.mem_append_left _ (List.mem_append_right _ h))))))) (by decide) (List.mem_of_getElem? (i := 2) rfl) (fun _ h => h) dX8_load_11 ?_
  refine lv_iload_n S.1 S.2.1 dX8_load_14 rfl (lv_at hl 1 rfl) ?_
  refine s_callV (C := RX0) (As := [.int (1 : Int32)]) (rest := []) (i := 1) (kd := 0) S hX G (k_X0_loadAt_1 l E 1 (by unfold IsB; decide)) (cwV (bytes := cX0_loadAt) (maxL := 2) (ret := (some (.object "BridgeLegs$Load"))) 1 S.2.2.2.2 gX8_load_X0_loadAt rfl rfl rfl (by decide +kernel) ⟨Nat.le_of_ble_eq_true rfl, Nat.le_of_ble_eq_true rfl⟩) (rfl : sh 1 = 0) rfl rfl rfl (by decide) rfl hl.1 rfl (Nat.le_of_ble_eq_true rfl) ⟨Nat.zero_le _, Nat.zero_le _⟩ dX8_load_15 (fun v I1 L1 H locs hR G => ?_)
  obtain ⟨hv, hI, hL⟩ := hR
  subst hv
  have G : GS E I L sg H locs := G.same hI hL
  refine W.eq (g2 := F0 mg 18 ls [.ref (E.2.2.2 11)]) rfl ?_
  refine lv_astore_n (lv' := [(3, .ref (E.2.2.2 11)), (0, .ref (E.2.2.2 0)), (1, .int (1 : Int32)), (2, .int (0 : Int32))]) S.1 S.2.1 dX8_load_18 rfl hl (by decide) rfl (fun ls hl => ?_)
  refine lv_iload_n S.1 S.2.1 dX8_load_19 rfl (lv_at hl 3 rfl) ?_
  refine lv_iconst (v := (0 : Int32)) S.1 S.2.1 dX8_load_20 (by decide) ?_
  refine lv_iconst (v := (3 : Int32)) S.1 S.2.1 dX8_load_21 (by decide) ?_
  refine s_callS (As := [.int (0 : Int32), .int (0 : Int32), .int (3 : Int32)]) (rest := []) S hX G (k_X8_isWithin l E (0 : Int32) (0 : Int32) (3 : Int32)) (va_cwS (bytes := cX8_isWithin) (maxL := 3) (ret := (some .boolean)) 3 S.2.2.2.2 gX8_load_X8_isWithin rfl rfl rfl (by decide +kernel) ⟨Nat.le_of_ble_eq_true rfl, Nat.le_of_ble_eq_true rfl⟩) rfl hl.1 rfl (Nat.le_of_ble_eq_true rfl) ⟨Nat.zero_le _, Nat.zero_le _⟩ dX8_load_22 (fun v I1 L1 H locs hR G => ?_)
  obtain ⟨hv, hI, hL⟩ := hR
  subst hv
  have G : GS E I L sg H locs := G.same hI hL
  refine W.eq (g2 := F0 mg 25 ls [.int (if ¬ (0 : Int32) < (0 : Int32) ∧ ¬ (3 : Int32) < (0 : Int32) then 1 else 0)]) rfl ?_
  refine s_if_eq_b (P := ¬ (0 : Int32) < (0 : Int32) ∧ ¬ (3 : Int32) < (0 : Int32)) (tgt := 37) S dX8_load_25 (by decide) (fun h => absurd (by decide) h) (fun _ => ?_)
  refine lv_aload_n S.1 S.2.1 dX8_load_28 rfl (lv_at hl 0 rfl) ?_
  refine s_getN S hX G (i := 11) (kd := 5) (a := (I 11)) (v := .ref (E.2.2.2 14)) (C := RX5) (T := TX5) (N := 13) 2 (rfl : sh 11 = 5) rfl rfl rfl (by decide) rfl (fun _ h => (List.mem_cons_of_mem _ (List.mem_append_left _ (List.mem_append_left _ (List.mem_append_left _ (List.mem_append_right _ h)))))) (by decide) (List.mem_of_getElem? (i := 18) rfl) (fun _ h => h) dX8_load_29 ?_
  refine lv_iload_n S.1 S.2.1 dX8_load_32 rfl (lv_at hl 3 rfl) ?_
  refine s_callV (C := RX1) (As := [.int (0 : Int32)]) (rest := []) (i := 14) (kd := 1) S hX G (k_X1_value4_0 l E 14 dv (rfl : sh 14 = 1) (rfl : sh 15 = 18) e_dv) (cwV (bytes := cX1_value) (maxL := 2) (ret := (some .int)) 1 S.2.2.2.2 gX8_load_X1_value rfl rfl rfl (by decide +kernel) ⟨Nat.le_of_ble_eq_true rfl, Nat.le_of_ble_eq_true rfl⟩) (rfl : sh 14 = 1) rfl rfl rfl (by decide) rfl hl.1 rfl (Nat.le_of_ble_eq_true rfl) ⟨Nat.zero_le _, Nat.zero_le _⟩ dX8_load_33 (fun v I1 L1 H locs hR G => ?_)
  obtain ⟨hv, hI, hL⟩ := hR
  subst hv
  have G : GS E I L sg H locs := G.same hI hL
  refine W.eq (g2 := F0 mg 36 ls [.int (dv 0)]) rfl ?_
  refine s_iret (x := (dv 0)) S G hr hlk dX8_load_36 ?_
  exact ⟨rfl, rfl, rfl⟩
set_option maxHeartbeats 4000000 in
set_option maxRecDepth 100000 in
theorem k_X8_load_1_1 (l : Launch) (E : Ev) {I : SI} {L : SL} (dv : Nat → Int32) (e_dv : I (15) = dv) : CS l yX8_load wsX8_load ({ frames := 2, cells := 0, slots := 0, locals := 42 }) E [.ref (E.2.2.2 0), .int (1 : Int32), .int (1 : Int32)] I L (fun vv I' L' => vv = some (.int (dv 1)) ∧ I' = I ∧ L' = L) := by
  refine CS.of (cc := cX8_load) (maxL := 4) (ret := (some .int)) (by decide) rfl (Nat.le_of_ble_eq_true rfl) ?_
  intro pg en sg mg below meth cg ls S hr hlk hX G hl
  have S : CallFix pg mg cg cX8_load 4 sg _ wsX8_load RX8 := S
  have hl : lv_has ls 4 [(0, .ref (E.2.2.2 0)), (1, .int (1 : Int32)), (2, .int (1 : Int32))] := hl
  refine lv_iload_n S.1 S.2.1 dX8_load_0 rfl (lv_at hl 1 rfl) ?_
  refine s_callS (As := [.int (1 : Int32)]) (rest := []) S hX G (k_X8_isLoad l E (1 : Int32)) (va_cwS (bytes := cX8_isLoad) (maxL := 1) (ret := (some .boolean)) 1 S.2.2.2.2 gX8_load_X8_isLoad rfl rfl rfl (by decide +kernel) ⟨Nat.le_of_ble_eq_true rfl, Nat.le_of_ble_eq_true rfl⟩) rfl hl.1 rfl (Nat.le_of_ble_eq_true rfl) ⟨Nat.zero_le _, Nat.zero_le _⟩ dX8_load_1 (fun v I1 L1 H locs hR G => ?_)
  obtain ⟨hv, hI, hL⟩ := hR
  subst hv
  have G : GS E I L sg H locs := G.same hI hL
  refine W.eq (g2 := F0 mg 4 ls [.int (if ¬ (1 : Int32) < (0 : Int32) ∧ ¬ (1 : Int32) < (1 : Int32) then 1 else 0)]) rfl ?_
  refine s_if_ne_b (P := ¬ (1 : Int32) < (0 : Int32) ∧ ¬ (1 : Int32) < (1 : Int32)) (tgt := 10) S dX8_load_4 (by decide) (fun _ => ?_) (fun h => absurd (by decide) h)
  refine lv_aload_n S.1 S.2.1 dX8_load_10 rfl (lv_at hl 0 rfl) ?_
  refine s_get S hX G (i := 0) (kd := 8) (a := (I 0)) (v := .ref (E.2.2.2 1)) (C := RX8) (T := TX8) (N := 4) 0 (rfl : sh 0 = 8) rfl rfl rfl (by decide) rfl (fun _ h => (List.mem_cons_of_mem _ (List.mem_append_left _ (List.mem_append_left _ (List.mem_append_left _ (List.mem_append_left _ (List.mem_append_right _ h))))))) (by decide) (List.mem_of_getElem? (i := 2) rfl) (fun _ h => h) dX8_load_11 ?_
  refine lv_iload_n S.1 S.2.1 dX8_load_14 rfl (lv_at hl 1 rfl) ?_
  refine s_callV (C := RX0) (As := [.int (1 : Int32)]) (rest := []) (i := 1) (kd := 0) S hX G (k_X0_loadAt_1 l E 1 (by unfold IsB; decide)) (cwV (bytes := cX0_loadAt) (maxL := 2) (ret := (some (.object "BridgeLegs$Load"))) 1 S.2.2.2.2 gX8_load_X0_loadAt rfl rfl rfl (by decide +kernel) ⟨Nat.le_of_ble_eq_true rfl, Nat.le_of_ble_eq_true rfl⟩) (rfl : sh 1 = 0) rfl rfl rfl (by decide) rfl hl.1 rfl (Nat.le_of_ble_eq_true rfl) ⟨Nat.zero_le _, Nat.zero_le _⟩ dX8_load_15 (fun v I1 L1 H locs hR G => ?_)
  obtain ⟨hv, hI, hL⟩ := hR
  subst hv
  have G : GS E I L sg H locs := G.same hI hL
  refine W.eq (g2 := F0 mg 18 ls [.ref (E.2.2.2 11)]) rfl ?_
  refine lv_astore_n (lv' := [(3, .ref (E.2.2.2 11)), (0, .ref (E.2.2.2 0)), (1, .int (1 : Int32)), (2, .int (1 : Int32))]) S.1 S.2.1 dX8_load_18 rfl hl (by decide) rfl (fun ls hl => ?_)
  refine lv_iload_n S.1 S.2.1 dX8_load_19 rfl (lv_at hl 3 rfl) ?_
  refine lv_iconst (v := (0 : Int32)) S.1 S.2.1 dX8_load_20 (by decide) ?_
  refine lv_iconst (v := (3 : Int32)) S.1 S.2.1 dX8_load_21 (by decide) ?_
  refine s_callS (As := [.int (1 : Int32), .int (0 : Int32), .int (3 : Int32)]) (rest := []) S hX G (k_X8_isWithin l E (1 : Int32) (0 : Int32) (3 : Int32)) (va_cwS (bytes := cX8_isWithin) (maxL := 3) (ret := (some .boolean)) 3 S.2.2.2.2 gX8_load_X8_isWithin rfl rfl rfl (by decide +kernel) ⟨Nat.le_of_ble_eq_true rfl, Nat.le_of_ble_eq_true rfl⟩) rfl hl.1 rfl (Nat.le_of_ble_eq_true rfl) ⟨Nat.zero_le _, Nat.zero_le _⟩ dX8_load_22 (fun v I1 L1 H locs hR G => ?_)
  obtain ⟨hv, hI, hL⟩ := hR
  subst hv
  have G : GS E I L sg H locs := G.same hI hL
  refine W.eq (g2 := F0 mg 25 ls [.int (if ¬ (1 : Int32) < (0 : Int32) ∧ ¬ (3 : Int32) < (1 : Int32) then 1 else 0)]) rfl ?_
  refine s_if_eq_b (P := ¬ (1 : Int32) < (0 : Int32) ∧ ¬ (3 : Int32) < (1 : Int32)) (tgt := 37) S dX8_load_25 (by decide) (fun h => absurd (by decide) h) (fun _ => ?_)
  refine lv_aload_n S.1 S.2.1 dX8_load_28 rfl (lv_at hl 0 rfl) ?_
  refine s_getN S hX G (i := 11) (kd := 5) (a := (I 11)) (v := .ref (E.2.2.2 14)) (C := RX5) (T := TX5) (N := 13) 2 (rfl : sh 11 = 5) rfl rfl rfl (by decide) rfl (fun _ h => (List.mem_cons_of_mem _ (List.mem_append_left _ (List.mem_append_left _ (List.mem_append_left _ (List.mem_append_right _ h)))))) (by decide) (List.mem_of_getElem? (i := 18) rfl) (fun _ h => h) dX8_load_29 ?_
  refine lv_iload_n S.1 S.2.1 dX8_load_32 rfl (lv_at hl 3 rfl) ?_
  refine s_callV (C := RX1) (As := [.int (1 : Int32)]) (rest := []) (i := 14) (kd := 1) S hX G (k_X1_value4_1 l E 14 dv (rfl : sh 14 = 1) (rfl : sh 15 = 18) e_dv) (cwV (bytes := cX1_value) (maxL := 2) (ret := (some .int)) 1 S.2.2.2.2 gX8_load_X1_value rfl rfl rfl (by decide +kernel) ⟨Nat.le_of_ble_eq_true rfl, Nat.le_of_ble_eq_true rfl⟩) (rfl : sh 14 = 1) rfl rfl rfl (by decide) rfl hl.1 rfl (Nat.le_of_ble_eq_true rfl) ⟨Nat.zero_le _, Nat.zero_le _⟩ dX8_load_33 (fun v I1 L1 H locs hR G => ?_)
  obtain ⟨hv, hI, hL⟩ := hR
  subst hv
  have G : GS E I L sg H locs := G.same hI hL
  refine W.eq (g2 := F0 mg 36 ls [.int (dv 1)]) rfl ?_
  refine s_iret (x := (dv 1)) S G hr hlk dX8_load_36 ?_
  exact ⟨rfl, rfl, rfl⟩
set_option maxHeartbeats 4000000 in
set_option maxRecDepth 100000 in
theorem k_X8_load_1_4 (l : Launch) (E : Ev) {I : SI} {L : SL} (b : Nat → Int32) (e_b : I (11) = b) : CS l yX8_load wsX8_load ({ frames := 2, cells := 0, slots := 0, locals := 42 }) E [.ref (E.2.2.2 0), .int (1 : Int32), .int (4 : Int32)] I L (fun vv I' L' => vv = some (.int (b 4)) ∧ I' = I ∧ L' = L) := by
  refine CS.of (cc := cX8_load) (maxL := 4) (ret := (some .int)) (by decide) rfl (Nat.le_of_ble_eq_true rfl) ?_
  intro pg en sg mg below meth cg ls S hr hlk hX G hl
  have S : CallFix pg mg cg cX8_load 4 sg _ wsX8_load RX8 := S
  have hl : lv_has ls 4 [(0, .ref (E.2.2.2 0)), (1, .int (1 : Int32)), (2, .int (4 : Int32))] := hl
  refine lv_iload_n S.1 S.2.1 dX8_load_0 rfl (lv_at hl 1 rfl) ?_
  refine s_callS (As := [.int (1 : Int32)]) (rest := []) S hX G (k_X8_isLoad l E (1 : Int32)) (va_cwS (bytes := cX8_isLoad) (maxL := 1) (ret := (some .boolean)) 1 S.2.2.2.2 gX8_load_X8_isLoad rfl rfl rfl (by decide +kernel) ⟨Nat.le_of_ble_eq_true rfl, Nat.le_of_ble_eq_true rfl⟩) rfl hl.1 rfl (Nat.le_of_ble_eq_true rfl) ⟨Nat.zero_le _, Nat.zero_le _⟩ dX8_load_1 (fun v I1 L1 H locs hR G => ?_)
  obtain ⟨hv, hI, hL⟩ := hR
  subst hv
  have G : GS E I L sg H locs := G.same hI hL
  refine W.eq (g2 := F0 mg 4 ls [.int (if ¬ (1 : Int32) < (0 : Int32) ∧ ¬ (1 : Int32) < (1 : Int32) then 1 else 0)]) rfl ?_
  refine s_if_ne_b (P := ¬ (1 : Int32) < (0 : Int32) ∧ ¬ (1 : Int32) < (1 : Int32)) (tgt := 10) S dX8_load_4 (by decide) (fun _ => ?_) (fun h => absurd (by decide) h)
  refine lv_aload_n S.1 S.2.1 dX8_load_10 rfl (lv_at hl 0 rfl) ?_
  refine s_get S hX G (i := 0) (kd := 8) (a := (I 0)) (v := .ref (E.2.2.2 1)) (C := RX8) (T := TX8) (N := 4) 0 (rfl : sh 0 = 8) rfl rfl rfl (by decide) rfl (fun _ h => (List.mem_cons_of_mem _ (List.mem_append_left _ (List.mem_append_left _ (List.mem_append_left _ (List.mem_append_left _ (List.mem_append_right _ h))))))) (by decide) (List.mem_of_getElem? (i := 2) rfl) (fun _ h => h) dX8_load_11 ?_
  refine lv_iload_n S.1 S.2.1 dX8_load_14 rfl (lv_at hl 1 rfl) ?_
  refine s_callV (C := RX0) (As := [.int (1 : Int32)]) (rest := []) (i := 1) (kd := 0) S hX G (k_X0_loadAt_1 l E 1 (by unfold IsB; decide)) (cwV (bytes := cX0_loadAt) (maxL := 2) (ret := (some (.object "BridgeLegs$Load"))) 1 S.2.2.2.2 gX8_load_X0_loadAt rfl rfl rfl (by decide +kernel) ⟨Nat.le_of_ble_eq_true rfl, Nat.le_of_ble_eq_true rfl⟩) (rfl : sh 1 = 0) rfl rfl rfl (by decide) rfl hl.1 rfl (Nat.le_of_ble_eq_true rfl) ⟨Nat.zero_le _, Nat.zero_le _⟩ dX8_load_15 (fun v I1 L1 H locs hR G => ?_)
  obtain ⟨hv, hI, hL⟩ := hR
  subst hv
  have G : GS E I L sg H locs := G.same hI hL
  refine W.eq (g2 := F0 mg 18 ls [.ref (E.2.2.2 11)]) rfl ?_
  refine lv_astore_n (lv' := [(3, .ref (E.2.2.2 11)), (0, .ref (E.2.2.2 0)), (1, .int (1 : Int32)), (2, .int (4 : Int32))]) S.1 S.2.1 dX8_load_18 rfl hl (by decide) rfl (fun ls hl => ?_)
  refine lv_iload_n S.1 S.2.1 dX8_load_19 rfl (lv_at hl 3 rfl) ?_
  refine lv_iconst (v := (0 : Int32)) S.1 S.2.1 dX8_load_20 (by decide) ?_
  refine lv_iconst (v := (3 : Int32)) S.1 S.2.1 dX8_load_21 (by decide) ?_
  refine s_callS (As := [.int (4 : Int32), .int (0 : Int32), .int (3 : Int32)]) (rest := []) S hX G (k_X8_isWithin l E (4 : Int32) (0 : Int32) (3 : Int32)) (va_cwS (bytes := cX8_isWithin) (maxL := 3) (ret := (some .boolean)) 3 S.2.2.2.2 gX8_load_X8_isWithin rfl rfl rfl (by decide +kernel) ⟨Nat.le_of_ble_eq_true rfl, Nat.le_of_ble_eq_true rfl⟩) rfl hl.1 rfl (Nat.le_of_ble_eq_true rfl) ⟨Nat.zero_le _, Nat.zero_le _⟩ dX8_load_22 (fun v I1 L1 H locs hR G => ?_)
  obtain ⟨hv, hI, hL⟩ := hR
  subst hv
  have G : GS E I L sg H locs := G.same hI hL
  refine W.eq (g2 := F0 mg 25 ls [.int (if ¬ (4 : Int32) < (0 : Int32) ∧ ¬ (3 : Int32) < (4 : Int32) then 1 else 0)]) rfl ?_
  refine s_if_eq_b (P := ¬ (4 : Int32) < (0 : Int32) ∧ ¬ (3 : Int32) < (4 : Int32)) (tgt := 37) S dX8_load_25 (by decide) (fun _ => ?_) (fun h => absurd h (by decide))
  refine lv_iload_n S.1 S.2.1 dX8_load_37 rfl (lv_at hl 3 rfl) ?_
  refine lv_tableIn (off := 46) (tgt := 84) S.1 S.2.1 dX8_load_38 (by decide) (by decide) (by decide) (by decide) ?_
  refine lv_aload_n S.1 S.2.1 dX8_load_84 rfl (lv_at hl 0 rfl) ?_
  refine s_getN S hX G (i := 11) (kd := 5) (a := b) (v := .int (b 4)) (C := RX5) (T := TX5) (N := 13) 4 (rfl : sh 11 = 5) e_b rfl rfl (by decide) rfl (fun _ h => (List.mem_cons_of_mem _ (List.mem_append_left _ (List.mem_append_left _ (List.mem_append_left _ (List.mem_append_right _ h)))))) (by decide) (List.mem_of_getElem? (i := 21) rfl) (fun _ h => h) dX8_load_85 ?_
  refine s_iret (x := (b 4)) S G hr hlk dX8_load_88 ?_
  exact ⟨rfl, rfl, rfl⟩
set_option maxHeartbeats 4000000 in
set_option maxRecDepth 100000 in
theorem k_X8_load_1_5 (l : Launch) (E : Ev) {I : SI} {L : SL} (b : Nat → Int32) (e_b : I (11) = b) : CS l yX8_load wsX8_load ({ frames := 2, cells := 0, slots := 0, locals := 42 }) E [.ref (E.2.2.2 0), .int (1 : Int32), .int (5 : Int32)] I L (fun vv I' L' => vv = some (.int (b 5)) ∧ I' = I ∧ L' = L) := by
  refine CS.of (cc := cX8_load) (maxL := 4) (ret := (some .int)) (by decide) rfl (Nat.le_of_ble_eq_true rfl) ?_
  intro pg en sg mg below meth cg ls S hr hlk hX G hl
  have S : CallFix pg mg cg cX8_load 4 sg _ wsX8_load RX8 := S
  have hl : lv_has ls 4 [(0, .ref (E.2.2.2 0)), (1, .int (1 : Int32)), (2, .int (5 : Int32))] := hl
  refine lv_iload_n S.1 S.2.1 dX8_load_0 rfl (lv_at hl 1 rfl) ?_
  refine s_callS (As := [.int (1 : Int32)]) (rest := []) S hX G (k_X8_isLoad l E (1 : Int32)) (va_cwS (bytes := cX8_isLoad) (maxL := 1) (ret := (some .boolean)) 1 S.2.2.2.2 gX8_load_X8_isLoad rfl rfl rfl (by decide +kernel) ⟨Nat.le_of_ble_eq_true rfl, Nat.le_of_ble_eq_true rfl⟩) rfl hl.1 rfl (Nat.le_of_ble_eq_true rfl) ⟨Nat.zero_le _, Nat.zero_le _⟩ dX8_load_1 (fun v I1 L1 H locs hR G => ?_)
  obtain ⟨hv, hI, hL⟩ := hR
  subst hv
  have G : GS E I L sg H locs := G.same hI hL
  refine W.eq (g2 := F0 mg 4 ls [.int (if ¬ (1 : Int32) < (0 : Int32) ∧ ¬ (1 : Int32) < (1 : Int32) then 1 else 0)]) rfl ?_
  refine s_if_ne_b (P := ¬ (1 : Int32) < (0 : Int32) ∧ ¬ (1 : Int32) < (1 : Int32)) (tgt := 10) S dX8_load_4 (by decide) (fun _ => ?_) (fun h => absurd (by decide) h)
  refine lv_aload_n S.1 S.2.1 dX8_load_10 rfl (lv_at hl 0 rfl) ?_
  refine s_get S hX G (i := 0) (kd := 8) (a := (I 0)) (v := .ref (E.2.2.2 1)) (C := RX8) (T := TX8) (N := 4) 0 (rfl : sh 0 = 8) rfl rfl rfl (by decide) rfl (fun _ h => (List.mem_cons_of_mem _ (List.mem_append_left _ (List.mem_append_left _ (List.mem_append_left _ (List.mem_append_left _ (List.mem_append_right _ h))))))) (by decide) (List.mem_of_getElem? (i := 2) rfl) (fun _ h => h) dX8_load_11 ?_
  refine lv_iload_n S.1 S.2.1 dX8_load_14 rfl (lv_at hl 1 rfl) ?_
  refine s_callV (C := RX0) (As := [.int (1 : Int32)]) (rest := []) (i := 1) (kd := 0) S hX G (k_X0_loadAt_1 l E 1 (by unfold IsB; decide)) (cwV (bytes := cX0_loadAt) (maxL := 2) (ret := (some (.object "BridgeLegs$Load"))) 1 S.2.2.2.2 gX8_load_X0_loadAt rfl rfl rfl (by decide +kernel) ⟨Nat.le_of_ble_eq_true rfl, Nat.le_of_ble_eq_true rfl⟩) (rfl : sh 1 = 0) rfl rfl rfl (by decide) rfl hl.1 rfl (Nat.le_of_ble_eq_true rfl) ⟨Nat.zero_le _, Nat.zero_le _⟩ dX8_load_15 (fun v I1 L1 H locs hR G => ?_)
  obtain ⟨hv, hI, hL⟩ := hR
  subst hv
  have G : GS E I L sg H locs := G.same hI hL
  refine W.eq (g2 := F0 mg 18 ls [.ref (E.2.2.2 11)]) rfl ?_
  refine lv_astore_n (lv' := [(3, .ref (E.2.2.2 11)), (0, .ref (E.2.2.2 0)), (1, .int (1 : Int32)), (2, .int (5 : Int32))]) S.1 S.2.1 dX8_load_18 rfl hl (by decide) rfl (fun ls hl => ?_)
  refine lv_iload_n S.1 S.2.1 dX8_load_19 rfl (lv_at hl 3 rfl) ?_
  refine lv_iconst (v := (0 : Int32)) S.1 S.2.1 dX8_load_20 (by decide) ?_
  refine lv_iconst (v := (3 : Int32)) S.1 S.2.1 dX8_load_21 (by decide) ?_
  refine s_callS (As := [.int (5 : Int32), .int (0 : Int32), .int (3 : Int32)]) (rest := []) S hX G (k_X8_isWithin l E (5 : Int32) (0 : Int32) (3 : Int32)) (va_cwS (bytes := cX8_isWithin) (maxL := 3) (ret := (some .boolean)) 3 S.2.2.2.2 gX8_load_X8_isWithin rfl rfl rfl (by decide +kernel) ⟨Nat.le_of_ble_eq_true rfl, Nat.le_of_ble_eq_true rfl⟩) rfl hl.1 rfl (Nat.le_of_ble_eq_true rfl) ⟨Nat.zero_le _, Nat.zero_le _⟩ dX8_load_22 (fun v I1 L1 H locs hR G => ?_)
  obtain ⟨hv, hI, hL⟩ := hR
  subst hv
  have G : GS E I L sg H locs := G.same hI hL
  refine W.eq (g2 := F0 mg 25 ls [.int (if ¬ (5 : Int32) < (0 : Int32) ∧ ¬ (3 : Int32) < (5 : Int32) then 1 else 0)]) rfl ?_
  refine s_if_eq_b (P := ¬ (5 : Int32) < (0 : Int32) ∧ ¬ (3 : Int32) < (5 : Int32)) (tgt := 37) S dX8_load_25 (by decide) (fun _ => ?_) (fun h => absurd h (by decide))
  refine lv_iload_n S.1 S.2.1 dX8_load_37 rfl (lv_at hl 3 rfl) ?_
  refine lv_tableIn (off := 51) (tgt := 89) S.1 S.2.1 dX8_load_38 (by decide) (by decide) (by decide) (by decide) ?_
  refine lv_aload_n S.1 S.2.1 dX8_load_89 rfl (lv_at hl 0 rfl) ?_
  refine s_getN S hX G (i := 11) (kd := 5) (a := b) (v := .int (b 5)) (C := RX5) (T := TX5) (N := 13) 5 (rfl : sh 11 = 5) e_b rfl rfl (by decide) rfl (fun _ h => (List.mem_cons_of_mem _ (List.mem_append_left _ (List.mem_append_left _ (List.mem_append_left _ (List.mem_append_right _ h)))))) (by decide) (List.mem_of_getElem? (i := 22) rfl) (fun _ h => h) dX8_load_90 ?_
  refine s_iret (x := (b 5)) S G hr hlk dX8_load_93 ?_
  exact ⟨rfl, rfl, rfl⟩
set_option maxHeartbeats 4000000 in
set_option maxRecDepth 100000 in
theorem k_X8_load_1_6 (l : Launch) (E : Ev) {I : SI} {L : SL} (b : Nat → Int32) (e_b : I (11) = b) (g6 : isb (b 6)) : CS l yX8_load wsX8_load ({ frames := 2, cells := 0, slots := 0, locals := 42 }) E [.ref (E.2.2.2 0), .int (1 : Int32), .int (6 : Int32)] I L (fun vv I' L' => vv = some (.int (b 6)) ∧ I' = I ∧ L' = L) := by
  refine CS.of (cc := cX8_load) (maxL := 4) (ret := (some .int)) (by decide) rfl (Nat.le_of_ble_eq_true rfl) ?_
  intro pg en sg mg below meth cg ls S hr hlk hX G hl
  have S : CallFix pg mg cg cX8_load 4 sg _ wsX8_load RX8 := S
  have hl : lv_has ls 4 [(0, .ref (E.2.2.2 0)), (1, .int (1 : Int32)), (2, .int (6 : Int32))] := hl
  refine lv_iload_n S.1 S.2.1 dX8_load_0 rfl (lv_at hl 1 rfl) ?_
  refine s_callS (As := [.int (1 : Int32)]) (rest := []) S hX G (k_X8_isLoad l E (1 : Int32)) (va_cwS (bytes := cX8_isLoad) (maxL := 1) (ret := (some .boolean)) 1 S.2.2.2.2 gX8_load_X8_isLoad rfl rfl rfl (by decide +kernel) ⟨Nat.le_of_ble_eq_true rfl, Nat.le_of_ble_eq_true rfl⟩) rfl hl.1 rfl (Nat.le_of_ble_eq_true rfl) ⟨Nat.zero_le _, Nat.zero_le _⟩ dX8_load_1 (fun v I1 L1 H locs hR G => ?_)
  obtain ⟨hv, hI, hL⟩ := hR
  subst hv
  have G : GS E I L sg H locs := G.same hI hL
  refine W.eq (g2 := F0 mg 4 ls [.int (if ¬ (1 : Int32) < (0 : Int32) ∧ ¬ (1 : Int32) < (1 : Int32) then 1 else 0)]) rfl ?_
  refine s_if_ne_b (P := ¬ (1 : Int32) < (0 : Int32) ∧ ¬ (1 : Int32) < (1 : Int32)) (tgt := 10) S dX8_load_4 (by decide) (fun _ => ?_) (fun h => absurd (by decide) h)
  refine lv_aload_n S.1 S.2.1 dX8_load_10 rfl (lv_at hl 0 rfl) ?_
  refine s_get S hX G (i := 0) (kd := 8) (a := (I 0)) (v := .ref (E.2.2.2 1)) (C := RX8) (T := TX8) (N := 4) 0 (rfl : sh 0 = 8) rfl rfl rfl (by decide) rfl (fun _ h => (List.mem_cons_of_mem _ (List.mem_append_left _ (List.mem_append_left _ (List.mem_append_left _ (List.mem_append_left _ (List.mem_append_right _ h))))))) (by decide) (List.mem_of_getElem? (i := 2) rfl) (fun _ h => h) dX8_load_11 ?_
  refine lv_iload_n S.1 S.2.1 dX8_load_14 rfl (lv_at hl 1 rfl) ?_
  refine s_callV (C := RX0) (As := [.int (1 : Int32)]) (rest := []) (i := 1) (kd := 0) S hX G (k_X0_loadAt_1 l E 1 (by unfold IsB; decide)) (cwV (bytes := cX0_loadAt) (maxL := 2) (ret := (some (.object "BridgeLegs$Load"))) 1 S.2.2.2.2 gX8_load_X0_loadAt rfl rfl rfl (by decide +kernel) ⟨Nat.le_of_ble_eq_true rfl, Nat.le_of_ble_eq_true rfl⟩) (rfl : sh 1 = 0) rfl rfl rfl (by decide) rfl hl.1 rfl (Nat.le_of_ble_eq_true rfl) ⟨Nat.zero_le _, Nat.zero_le _⟩ dX8_load_15 (fun v I1 L1 H locs hR G => ?_)
  obtain ⟨hv, hI, hL⟩ := hR
  subst hv
  have G : GS E I L sg H locs := G.same hI hL
  refine W.eq (g2 := F0 mg 18 ls [.ref (E.2.2.2 11)]) rfl ?_
  refine lv_astore_n (lv' := [(3, .ref (E.2.2.2 11)), (0, .ref (E.2.2.2 0)), (1, .int (1 : Int32)), (2, .int (6 : Int32))]) S.1 S.2.1 dX8_load_18 rfl hl (by decide) rfl (fun ls hl => ?_)
  refine lv_iload_n S.1 S.2.1 dX8_load_19 rfl (lv_at hl 3 rfl) ?_
  refine lv_iconst (v := (0 : Int32)) S.1 S.2.1 dX8_load_20 (by decide) ?_
  refine lv_iconst (v := (3 : Int32)) S.1 S.2.1 dX8_load_21 (by decide) ?_
  refine s_callS (As := [.int (6 : Int32), .int (0 : Int32), .int (3 : Int32)]) (rest := []) S hX G (k_X8_isWithin l E (6 : Int32) (0 : Int32) (3 : Int32)) (va_cwS (bytes := cX8_isWithin) (maxL := 3) (ret := (some .boolean)) 3 S.2.2.2.2 gX8_load_X8_isWithin rfl rfl rfl (by decide +kernel) ⟨Nat.le_of_ble_eq_true rfl, Nat.le_of_ble_eq_true rfl⟩) rfl hl.1 rfl (Nat.le_of_ble_eq_true rfl) ⟨Nat.zero_le _, Nat.zero_le _⟩ dX8_load_22 (fun v I1 L1 H locs hR G => ?_)
  obtain ⟨hv, hI, hL⟩ := hR
  subst hv
  have G : GS E I L sg H locs := G.same hI hL
  refine W.eq (g2 := F0 mg 25 ls [.int (if ¬ (6 : Int32) < (0 : Int32) ∧ ¬ (3 : Int32) < (6 : Int32) then 1 else 0)]) rfl ?_
  refine s_if_eq_b (P := ¬ (6 : Int32) < (0 : Int32) ∧ ¬ (3 : Int32) < (6 : Int32)) (tgt := 37) S dX8_load_25 (by decide) (fun _ => ?_) (fun h => absurd h (by decide))
  refine lv_iload_n S.1 S.2.1 dX8_load_37 rfl (lv_at hl 3 rfl) ?_
  refine lv_tableIn (off := 56) (tgt := 94) S.1 S.2.1 dX8_load_38 (by decide) (by decide) (by decide) (by decide) ?_
  refine lv_aload_n S.1 S.2.1 dX8_load_94 rfl (lv_at hl 0 rfl) ?_
  refine s_getN S hX G (i := 11) (kd := 5) (a := b) (v := .int (b 6)) (C := RX5) (T := TX5) (N := 13) 6 (rfl : sh 11 = 5) e_b rfl rfl (by decide) rfl (fun _ h => (List.mem_cons_of_mem _ (List.mem_append_left _ (List.mem_append_left _ (List.mem_append_left _ (List.mem_append_right _ h)))))) (by decide) (List.mem_of_getElem? (i := 23) rfl) (fun _ h => h) dX8_load_95 ?_
  refine s_callS (As := [.int (b 6)]) (rest := []) S hX G (k_X8_bit l E (b 6) g6) (va_cwS (bytes := cX8_bit) (maxL := 1) (ret := (some .int)) 1 S.2.2.2.2 gX8_load_X8_bit rfl rfl rfl (by decide +kernel) ⟨Nat.le_of_ble_eq_true rfl, Nat.le_of_ble_eq_true rfl⟩) rfl hl.1 rfl (Nat.le_of_ble_eq_true rfl) ⟨Nat.zero_le _, Nat.zero_le _⟩ dX8_load_98 (fun v I1 L1 H locs hR G => ?_)
  obtain ⟨hv, hI, hL⟩ := hR
  subst hv
  have G : GS E I L sg H locs := G.same hI hL
  refine W.eq (g2 := F0 mg 101 ls [.int (b 6)]) rfl ?_
  refine s_iret (x := (b 6)) S G hr hlk dX8_load_101 ?_
  exact ⟨rfl, rfl, rfl⟩
set_option maxHeartbeats 4000000 in
set_option maxRecDepth 100000 in
theorem k_X8_load_1_7 (l : Launch) (E : Ev) {I : SI} {L : SL} (b : Nat → Int32) (e_b : I (11) = b) (g7 : isb (b 7)) : CS l yX8_load wsX8_load ({ frames := 2, cells := 0, slots := 0, locals := 42 }) E [.ref (E.2.2.2 0), .int (1 : Int32), .int (7 : Int32)] I L (fun vv I' L' => vv = some (.int (b 7)) ∧ I' = I ∧ L' = L) := by
  refine CS.of (cc := cX8_load) (maxL := 4) (ret := (some .int)) (by decide) rfl (Nat.le_of_ble_eq_true rfl) ?_
  intro pg en sg mg below meth cg ls S hr hlk hX G hl
  have S : CallFix pg mg cg cX8_load 4 sg _ wsX8_load RX8 := S
  have hl : lv_has ls 4 [(0, .ref (E.2.2.2 0)), (1, .int (1 : Int32)), (2, .int (7 : Int32))] := hl
  refine lv_iload_n S.1 S.2.1 dX8_load_0 rfl (lv_at hl 1 rfl) ?_
  refine s_callS (As := [.int (1 : Int32)]) (rest := []) S hX G (k_X8_isLoad l E (1 : Int32)) (va_cwS (bytes := cX8_isLoad) (maxL := 1) (ret := (some .boolean)) 1 S.2.2.2.2 gX8_load_X8_isLoad rfl rfl rfl (by decide +kernel) ⟨Nat.le_of_ble_eq_true rfl, Nat.le_of_ble_eq_true rfl⟩) rfl hl.1 rfl (Nat.le_of_ble_eq_true rfl) ⟨Nat.zero_le _, Nat.zero_le _⟩ dX8_load_1 (fun v I1 L1 H locs hR G => ?_)
  obtain ⟨hv, hI, hL⟩ := hR
  subst hv
  have G : GS E I L sg H locs := G.same hI hL
  refine W.eq (g2 := F0 mg 4 ls [.int (if ¬ (1 : Int32) < (0 : Int32) ∧ ¬ (1 : Int32) < (1 : Int32) then 1 else 0)]) rfl ?_
  refine s_if_ne_b (P := ¬ (1 : Int32) < (0 : Int32) ∧ ¬ (1 : Int32) < (1 : Int32)) (tgt := 10) S dX8_load_4 (by decide) (fun _ => ?_) (fun h => absurd (by decide) h)
  refine lv_aload_n S.1 S.2.1 dX8_load_10 rfl (lv_at hl 0 rfl) ?_
  refine s_get S hX G (i := 0) (kd := 8) (a := (I 0)) (v := .ref (E.2.2.2 1)) (C := RX8) (T := TX8) (N := 4) 0 (rfl : sh 0 = 8) rfl rfl rfl (by decide) rfl (fun _ h => (List.mem_cons_of_mem _ (List.mem_append_left _ (List.mem_append_left _ (List.mem_append_left _ (List.mem_append_left _ (List.mem_append_right _ h))))))) (by decide) (List.mem_of_getElem? (i := 2) rfl) (fun _ h => h) dX8_load_11 ?_
  refine lv_iload_n S.1 S.2.1 dX8_load_14 rfl (lv_at hl 1 rfl) ?_
  refine s_callV (C := RX0) (As := [.int (1 : Int32)]) (rest := []) (i := 1) (kd := 0) S hX G (k_X0_loadAt_1 l E 1 (by unfold IsB; decide)) (cwV (bytes := cX0_loadAt) (maxL := 2) (ret := (some (.object "BridgeLegs$Load"))) 1 S.2.2.2.2 gX8_load_X0_loadAt rfl rfl rfl (by decide +kernel) ⟨Nat.le_of_ble_eq_true rfl, Nat.le_of_ble_eq_true rfl⟩) (rfl : sh 1 = 0) rfl rfl rfl (by decide) rfl hl.1 rfl (Nat.le_of_ble_eq_true rfl) ⟨Nat.zero_le _, Nat.zero_le _⟩ dX8_load_15 (fun v I1 L1 H locs hR G => ?_)
  obtain ⟨hv, hI, hL⟩ := hR
  subst hv
  have G : GS E I L sg H locs := G.same hI hL
  refine W.eq (g2 := F0 mg 18 ls [.ref (E.2.2.2 11)]) rfl ?_
  refine lv_astore_n (lv' := [(3, .ref (E.2.2.2 11)), (0, .ref (E.2.2.2 0)), (1, .int (1 : Int32)), (2, .int (7 : Int32))]) S.1 S.2.1 dX8_load_18 rfl hl (by decide) rfl (fun ls hl => ?_)
  refine lv_iload_n S.1 S.2.1 dX8_load_19 rfl (lv_at hl 3 rfl) ?_
  refine lv_iconst (v := (0 : Int32)) S.1 S.2.1 dX8_load_20 (by decide) ?_
  refine lv_iconst (v := (3 : Int32)) S.1 S.2.1 dX8_load_21 (by decide) ?_
  refine s_callS (As := [.int (7 : Int32), .int (0 : Int32), .int (3 : Int32)]) (rest := []) S hX G (k_X8_isWithin l E (7 : Int32) (0 : Int32) (3 : Int32)) (va_cwS (bytes := cX8_isWithin) (maxL := 3) (ret := (some .boolean)) 3 S.2.2.2.2 gX8_load_X8_isWithin rfl rfl rfl (by decide +kernel) ⟨Nat.le_of_ble_eq_true rfl, Nat.le_of_ble_eq_true rfl⟩) rfl hl.1 rfl (Nat.le_of_ble_eq_true rfl) ⟨Nat.zero_le _, Nat.zero_le _⟩ dX8_load_22 (fun v I1 L1 H locs hR G => ?_)
  obtain ⟨hv, hI, hL⟩ := hR
  subst hv
  have G : GS E I L sg H locs := G.same hI hL
  refine W.eq (g2 := F0 mg 25 ls [.int (if ¬ (7 : Int32) < (0 : Int32) ∧ ¬ (3 : Int32) < (7 : Int32) then 1 else 0)]) rfl ?_
  refine s_if_eq_b (P := ¬ (7 : Int32) < (0 : Int32) ∧ ¬ (3 : Int32) < (7 : Int32)) (tgt := 37) S dX8_load_25 (by decide) (fun _ => ?_) (fun h => absurd h (by decide))
  refine lv_iload_n S.1 S.2.1 dX8_load_37 rfl (lv_at hl 3 rfl) ?_
  refine lv_tableIn (off := 64) (tgt := 102) S.1 S.2.1 dX8_load_38 (by decide) (by decide) (by decide) (by decide) ?_
  refine lv_aload_n S.1 S.2.1 dX8_load_102 rfl (lv_at hl 0 rfl) ?_
  refine s_getN S hX G (i := 11) (kd := 5) (a := b) (v := .int (b 7)) (C := RX5) (T := TX5) (N := 13) 7 (rfl : sh 11 = 5) e_b rfl rfl (by decide) rfl (fun _ h => (List.mem_cons_of_mem _ (List.mem_append_left _ (List.mem_append_left _ (List.mem_append_left _ (List.mem_append_right _ h)))))) (by decide) (List.mem_of_getElem? (i := 25) rfl) (fun _ h => h) dX8_load_103 ?_
  refine s_callS (As := [.int (b 7)]) (rest := []) S hX G (k_X8_bit l E (b 7) g7) (va_cwS (bytes := cX8_bit) (maxL := 1) (ret := (some .int)) 1 S.2.2.2.2 gX8_load_X8_bit rfl rfl rfl (by decide +kernel) ⟨Nat.le_of_ble_eq_true rfl, Nat.le_of_ble_eq_true rfl⟩) rfl hl.1 rfl (Nat.le_of_ble_eq_true rfl) ⟨Nat.zero_le _, Nat.zero_le _⟩ dX8_load_106 (fun v I1 L1 H locs hR G => ?_)
  obtain ⟨hv, hI, hL⟩ := hR
  subst hv
  have G : GS E I L sg H locs := G.same hI hL
  refine W.eq (g2 := F0 mg 109 ls [.int (b 7)]) rfl ?_
  refine s_iret (x := (b 7)) S G hr hlk dX8_load_109 ?_
  exact ⟨rfl, rfl, rfl⟩
set_option maxHeartbeats 4000000 in
set_option maxRecDepth 100000 in
theorem k_X8_load_1_10 (l : Launch) (E : Ev) {I : SI} {L : SL} (n : Nat → Int32) (e_n : I (16) = n) : CS l yX8_load wsX8_load ({ frames := 2, cells := 0, slots := 0, locals := 42 }) E [.ref (E.2.2.2 0), .int (1 : Int32), .int (10 : Int32)] I L (fun vv I' L' => vv = some (.int (n 3)) ∧ I' = I ∧ L' = L) := by
  refine CS.of (cc := cX8_load) (maxL := 4) (ret := (some .int)) (by decide) rfl (Nat.le_of_ble_eq_true rfl) ?_
  intro pg en sg mg below meth cg ls S hr hlk hX G hl
  have S : CallFix pg mg cg cX8_load 4 sg _ wsX8_load RX8 := S
  have hl : lv_has ls 4 [(0, .ref (E.2.2.2 0)), (1, .int (1 : Int32)), (2, .int (10 : Int32))] := hl
  refine lv_iload_n S.1 S.2.1 dX8_load_0 rfl (lv_at hl 1 rfl) ?_
  refine s_callS (As := [.int (1 : Int32)]) (rest := []) S hX G (k_X8_isLoad l E (1 : Int32)) (va_cwS (bytes := cX8_isLoad) (maxL := 1) (ret := (some .boolean)) 1 S.2.2.2.2 gX8_load_X8_isLoad rfl rfl rfl (by decide +kernel) ⟨Nat.le_of_ble_eq_true rfl, Nat.le_of_ble_eq_true rfl⟩) rfl hl.1 rfl (Nat.le_of_ble_eq_true rfl) ⟨Nat.zero_le _, Nat.zero_le _⟩ dX8_load_1 (fun v I1 L1 H locs hR G => ?_)
  obtain ⟨hv, hI, hL⟩ := hR
  subst hv
  have G : GS E I L sg H locs := G.same hI hL
  refine W.eq (g2 := F0 mg 4 ls [.int (if ¬ (1 : Int32) < (0 : Int32) ∧ ¬ (1 : Int32) < (1 : Int32) then 1 else 0)]) rfl ?_
  refine s_if_ne_b (P := ¬ (1 : Int32) < (0 : Int32) ∧ ¬ (1 : Int32) < (1 : Int32)) (tgt := 10) S dX8_load_4 (by decide) (fun _ => ?_) (fun h => absurd (by decide) h)
  refine lv_aload_n S.1 S.2.1 dX8_load_10 rfl (lv_at hl 0 rfl) ?_
  refine s_get S hX G (i := 0) (kd := 8) (a := (I 0)) (v := .ref (E.2.2.2 1)) (C := RX8) (T := TX8) (N := 4) 0 (rfl : sh 0 = 8) rfl rfl rfl (by decide) rfl (fun _ h => (List.mem_cons_of_mem _ (List.mem_append_left _ (List.mem_append_left _ (List.mem_append_left _ (List.mem_append_left _ (List.mem_append_right _ h))))))) (by decide) (List.mem_of_getElem? (i := 2) rfl) (fun _ h => h) dX8_load_11 ?_
  refine lv_iload_n S.1 S.2.1 dX8_load_14 rfl (lv_at hl 1 rfl) ?_
  refine s_callV (C := RX0) (As := [.int (1 : Int32)]) (rest := []) (i := 1) (kd := 0) S hX G (k_X0_loadAt_1 l E 1 (by unfold IsB; decide)) (cwV (bytes := cX0_loadAt) (maxL := 2) (ret := (some (.object "BridgeLegs$Load"))) 1 S.2.2.2.2 gX8_load_X0_loadAt rfl rfl rfl (by decide +kernel) ⟨Nat.le_of_ble_eq_true rfl, Nat.le_of_ble_eq_true rfl⟩) (rfl : sh 1 = 0) rfl rfl rfl (by decide) rfl hl.1 rfl (Nat.le_of_ble_eq_true rfl) ⟨Nat.zero_le _, Nat.zero_le _⟩ dX8_load_15 (fun v I1 L1 H locs hR G => ?_)
  obtain ⟨hv, hI, hL⟩ := hR
  subst hv
  have G : GS E I L sg H locs := G.same hI hL
  refine W.eq (g2 := F0 mg 18 ls [.ref (E.2.2.2 11)]) rfl ?_
  refine lv_astore_n (lv' := [(3, .ref (E.2.2.2 11)), (0, .ref (E.2.2.2 0)), (1, .int (1 : Int32)), (2, .int (10 : Int32))]) S.1 S.2.1 dX8_load_18 rfl hl (by decide) rfl (fun ls hl => ?_)
  refine lv_iload_n S.1 S.2.1 dX8_load_19 rfl (lv_at hl 3 rfl) ?_
  refine lv_iconst (v := (0 : Int32)) S.1 S.2.1 dX8_load_20 (by decide) ?_
  refine lv_iconst (v := (3 : Int32)) S.1 S.2.1 dX8_load_21 (by decide) ?_
  refine s_callS (As := [.int (10 : Int32), .int (0 : Int32), .int (3 : Int32)]) (rest := []) S hX G (k_X8_isWithin l E (10 : Int32) (0 : Int32) (3 : Int32)) (va_cwS (bytes := cX8_isWithin) (maxL := 3) (ret := (some .boolean)) 3 S.2.2.2.2 gX8_load_X8_isWithin rfl rfl rfl (by decide +kernel) ⟨Nat.le_of_ble_eq_true rfl, Nat.le_of_ble_eq_true rfl⟩) rfl hl.1 rfl (Nat.le_of_ble_eq_true rfl) ⟨Nat.zero_le _, Nat.zero_le _⟩ dX8_load_22 (fun v I1 L1 H locs hR G => ?_)
  obtain ⟨hv, hI, hL⟩ := hR
  subst hv
  have G : GS E I L sg H locs := G.same hI hL
  refine W.eq (g2 := F0 mg 25 ls [.int (if ¬ (10 : Int32) < (0 : Int32) ∧ ¬ (3 : Int32) < (10 : Int32) then 1 else 0)]) rfl ?_
  refine s_if_eq_b (P := ¬ (10 : Int32) < (0 : Int32) ∧ ¬ (3 : Int32) < (10 : Int32)) (tgt := 37) S dX8_load_25 (by decide) (fun _ => ?_) (fun h => absurd h (by decide))
  refine lv_iload_n S.1 S.2.1 dX8_load_37 rfl (lv_at hl 3 rfl) ?_
  refine lv_tableIn (off := 95) (tgt := 133) S.1 S.2.1 dX8_load_38 (by decide) (by decide) (by decide) (by decide) ?_
  refine lv_aload_n S.1 S.2.1 dX8_load_133 rfl (lv_at hl 0 rfl) ?_
  refine s_getN S hX G (i := 11) (kd := 5) (a := (I 11)) (v := .ref (E.2.2.2 16)) (C := RX5) (T := TX5) (N := 13) 3 (rfl : sh 11 = 5) rfl rfl rfl (by decide) rfl (fun _ h => (List.mem_cons_of_mem _ (List.mem_append_left _ (List.mem_append_left _ (List.mem_append_left _ (List.mem_append_right _ h)))))) (by decide) (List.mem_of_getElem? (i := 19) rfl) (fun _ h => h) dX8_load_134 ?_
  refine s_getN S hX G (i := 16) (kd := 3) (a := n) (v := .int (n 3)) (C := RX3) (T := TX3) (N := 4) 3 (rfl : sh 16 = 3) e_n rfl rfl (by decide) rfl (fun _ h => (List.mem_cons_of_mem _ (List.mem_append_left _ (List.mem_append_left _ (List.mem_append_right _ h))))) (by decide) (List.mem_of_getElem? (i := 13) rfl) (fun _ h => h) dX8_load_137 ?_
  refine s_iret (x := (n 3)) S G hr hlk dX8_load_140 ?_
  exact ⟨rfl, rfl, rfl⟩
set_option maxHeartbeats 4000000 in
set_option maxRecDepth 100000 in
theorem k_X8_load_no (l : Launch) (E : Ev) {I : SI} {L : SL} (load : Int32) (what : Int32) (ht : ¬ (IN1 load ∧ INR what 0 11)) : CS l yX8_load wsX8_load ({ frames := 2, cells := 0, slots := 0, locals := 42 }) E [.ref (E.2.2.2 0), .int load, .int what] I L (fun vv I' L' => vv = some (.int (-2000000001 : Int32)) ∧ I' = I ∧ L' = L) := by
  refine CS.of (cc := cX8_load) (maxL := 4) (ret := (some .int)) (by decide) rfl (Nat.le_of_ble_eq_true rfl) ?_
  intro pg en sg mg below meth cg ls S hr hlk hX G hl
  have S : CallFix pg mg cg cX8_load 4 sg _ wsX8_load RX8 := S
  have hl : lv_has ls 4 [(0, .ref (E.2.2.2 0)), (1, .int load), (2, .int what)] := hl
  refine lv_iload_n S.1 S.2.1 dX8_load_0 rfl (lv_at hl 1 rfl) ?_
  refine s_callS (As := [.int load]) (rest := []) S hX G (k_X8_isLoad l E load) (va_cwS (bytes := cX8_isLoad) (maxL := 1) (ret := (some .boolean)) 1 S.2.2.2.2 gX8_load_X8_isLoad rfl rfl rfl (by decide +kernel) ⟨Nat.le_of_ble_eq_true rfl, Nat.le_of_ble_eq_true rfl⟩) rfl hl.1 rfl (Nat.le_of_ble_eq_true rfl) ⟨Nat.zero_le _, Nat.zero_le _⟩ dX8_load_1 (fun v I1 L1 H locs hR G => ?_)
  obtain ⟨hv, hI, hL⟩ := hR
  subst hv
  have G : GS E I L sg H locs := G.same hI hL
  refine W.eq (g2 := F0 mg 4 ls [.int (if ¬ load < (0 : Int32) ∧ ¬ (1 : Int32) < load then 1 else 0)]) rfl ?_
  refine s_if_ne_b (P := ¬ load < (0 : Int32) ∧ ¬ (1 : Int32) < load) (tgt := 10) S dX8_load_4 (by decide) (fun c_1 => ?_) (fun c_1 => ?_)
  · rcases in_le1 c_1 with rfl | rfl
    · refine lv_aload_n S.1 S.2.1 dX8_load_10 rfl (lv_at hl 0 rfl) ?_
      refine s_get S hX G (i := 0) (kd := 8) (a := (I 0)) (v := .ref (E.2.2.2 1)) (C := RX8) (T := TX8) (N := 4) 0 (rfl : sh 0 = 8) rfl rfl rfl (by decide) rfl (fun _ h => (List.mem_cons_of_mem _ (List.mem_append_left _ (List.mem_append_left _ (List.mem_append_left _ (List.mem_append_left _ (List.mem_append_right _ h))))))) (by decide) (List.mem_of_getElem? (i := 2) rfl) (fun _ h => h) dX8_load_11 ?_
      refine lv_iload_n S.1 S.2.1 dX8_load_14 rfl (lv_at hl 1 rfl) ?_
      refine s_callV (C := RX0) (As := [.int (0 : Int32)]) (rest := []) (i := 1) (kd := 0) S hX G (k_X0_loadAt_0 l E 1 (by unfold IsB; decide)) (cwV (bytes := cX0_loadAt) (maxL := 2) (ret := (some (.object "BridgeLegs$Load"))) 1 S.2.2.2.2 gX8_load_X0_loadAt rfl rfl rfl (by decide +kernel) ⟨Nat.le_of_ble_eq_true rfl, Nat.le_of_ble_eq_true rfl⟩) (rfl : sh 1 = 0) rfl rfl rfl (by decide) rfl hl.1 rfl (Nat.le_of_ble_eq_true rfl) ⟨Nat.zero_le _, Nat.zero_le _⟩ dX8_load_15 (fun v I1 L1 H locs hR G => ?_)
      obtain ⟨hv, hI, hL⟩ := hR
      subst hv
      have G : GS E I L sg H locs := G.same hI hL
      refine W.eq (g2 := F0 mg 18 ls [.ref (E.2.2.2 2)]) rfl ?_
      refine lv_astore_n (lv' := [(3, .ref (E.2.2.2 2)), (0, .ref (E.2.2.2 0)), (1, .int (0 : Int32)), (2, .int what)]) S.1 S.2.1 dX8_load_18 rfl hl (by decide) rfl (fun ls hl => ?_)
      refine lv_iload_n S.1 S.2.1 dX8_load_19 rfl (lv_at hl 3 rfl) ?_
      refine lv_iconst (v := (0 : Int32)) S.1 S.2.1 dX8_load_20 (by decide) ?_
      refine lv_iconst (v := (3 : Int32)) S.1 S.2.1 dX8_load_21 (by decide) ?_
      refine s_callS (As := [.int what, .int (0 : Int32), .int (3 : Int32)]) (rest := []) S hX G (k_X8_isWithin l E what (0 : Int32) (3 : Int32)) (va_cwS (bytes := cX8_isWithin) (maxL := 3) (ret := (some .boolean)) 3 S.2.2.2.2 gX8_load_X8_isWithin rfl rfl rfl (by decide +kernel) ⟨Nat.le_of_ble_eq_true rfl, Nat.le_of_ble_eq_true rfl⟩) rfl hl.1 rfl (Nat.le_of_ble_eq_true rfl) ⟨Nat.zero_le _, Nat.zero_le _⟩ dX8_load_22 (fun v I1 L1 H locs hR G => ?_)
      obtain ⟨hv, hI, hL⟩ := hR
      subst hv
      have G : GS E I L sg H locs := G.same hI hL
      refine W.eq (g2 := F0 mg 25 ls [.int (if ¬ what < (0 : Int32) ∧ ¬ (3 : Int32) < what then 1 else 0)]) rfl ?_
      refine s_if_eq_b (P := ¬ what < (0 : Int32) ∧ ¬ (3 : Int32) < what) (tgt := 37) S dX8_load_25 (by decide) (fun _ => ?_) (fun h => absurd h (out_h (a := 0) (b := 3) (by decide) (by decide) (by have := out_g (a := 0) (b := 11) (by decide) (by decide) (fun q => ht ⟨(by decide), q⟩); omega)))
      refine lv_iload_n S.1 S.2.1 dX8_load_37 rfl (lv_at hl 3 rfl) ?_
      refine lv_tableOut (tgt := 146) S.1 S.2.1 dX8_load_38 (by have := out_g (a := 0) (b := 11) (by decide) (by decide) (fun q => ht ⟨(by decide), q⟩); omega) (by decide) ?_
      refine lv_ldc (v := (-2000000001 : Int32)) S.1 S.2.1 S.2.2.2.1 (S.2.2.2.2 _ (List.mem_of_getElem? (i := 1) rfl)) dX8_load_146 ?_
      refine s_iret (x := (-2000000001 : Int32)) S G hr hlk dX8_load_148 ?_
      exact ⟨rfl, rfl, rfl⟩
    · refine lv_aload_n S.1 S.2.1 dX8_load_10 rfl (lv_at hl 0 rfl) ?_
      refine s_get S hX G (i := 0) (kd := 8) (a := (I 0)) (v := .ref (E.2.2.2 1)) (C := RX8) (T := TX8) (N := 4) 0 (rfl : sh 0 = 8) rfl rfl rfl (by decide) rfl (fun _ h => (List.mem_cons_of_mem _ (List.mem_append_left _ (List.mem_append_left _ (List.mem_append_left _ (List.mem_append_left _ (List.mem_append_right _ h))))))) (by decide) (List.mem_of_getElem? (i := 2) rfl) (fun _ h => h) dX8_load_11 ?_
      refine lv_iload_n S.1 S.2.1 dX8_load_14 rfl (lv_at hl 1 rfl) ?_
      refine s_callV (C := RX0) (As := [.int (1 : Int32)]) (rest := []) (i := 1) (kd := 0) S hX G (k_X0_loadAt_1 l E 1 (by unfold IsB; decide)) (cwV (bytes := cX0_loadAt) (maxL := 2) (ret := (some (.object "BridgeLegs$Load"))) 1 S.2.2.2.2 gX8_load_X0_loadAt rfl rfl rfl (by decide +kernel) ⟨Nat.le_of_ble_eq_true rfl, Nat.le_of_ble_eq_true rfl⟩) (rfl : sh 1 = 0) rfl rfl rfl (by decide) rfl hl.1 rfl (Nat.le_of_ble_eq_true rfl) ⟨Nat.zero_le _, Nat.zero_le _⟩ dX8_load_15 (fun v I1 L1 H locs hR G => ?_)
      obtain ⟨hv, hI, hL⟩ := hR
      subst hv
      have G : GS E I L sg H locs := G.same hI hL
      refine W.eq (g2 := F0 mg 18 ls [.ref (E.2.2.2 11)]) rfl ?_
      refine lv_astore_n (lv' := [(3, .ref (E.2.2.2 11)), (0, .ref (E.2.2.2 0)), (1, .int (1 : Int32)), (2, .int what)]) S.1 S.2.1 dX8_load_18 rfl hl (by decide) rfl (fun ls hl => ?_)
      refine lv_iload_n S.1 S.2.1 dX8_load_19 rfl (lv_at hl 3 rfl) ?_
      refine lv_iconst (v := (0 : Int32)) S.1 S.2.1 dX8_load_20 (by decide) ?_
      refine lv_iconst (v := (3 : Int32)) S.1 S.2.1 dX8_load_21 (by decide) ?_
      refine s_callS (As := [.int what, .int (0 : Int32), .int (3 : Int32)]) (rest := []) S hX G (k_X8_isWithin l E what (0 : Int32) (3 : Int32)) (va_cwS (bytes := cX8_isWithin) (maxL := 3) (ret := (some .boolean)) 3 S.2.2.2.2 gX8_load_X8_isWithin rfl rfl rfl (by decide +kernel) ⟨Nat.le_of_ble_eq_true rfl, Nat.le_of_ble_eq_true rfl⟩) rfl hl.1 rfl (Nat.le_of_ble_eq_true rfl) ⟨Nat.zero_le _, Nat.zero_le _⟩ dX8_load_22 (fun v I1 L1 H locs hR G => ?_)
      obtain ⟨hv, hI, hL⟩ := hR
      subst hv
      have G : GS E I L sg H locs := G.same hI hL
      refine W.eq (g2 := F0 mg 25 ls [.int (if ¬ what < (0 : Int32) ∧ ¬ (3 : Int32) < what then 1 else 0)]) rfl ?_
      refine s_if_eq_b (P := ¬ what < (0 : Int32) ∧ ¬ (3 : Int32) < what) (tgt := 37) S dX8_load_25 (by decide) (fun _ => ?_) (fun h => absurd h (out_h (a := 0) (b := 3) (by decide) (by decide) (by have := out_g (a := 0) (b := 11) (by decide) (by decide) (fun q => ht ⟨(by decide), q⟩); omega)))
      refine lv_iload_n S.1 S.2.1 dX8_load_37 rfl (lv_at hl 3 rfl) ?_
      refine lv_tableOut (tgt := 146) S.1 S.2.1 dX8_load_38 (by have := out_g (a := 0) (b := 11) (by decide) (by decide) (fun q => ht ⟨(by decide), q⟩); omega) (by decide) ?_
      refine lv_ldc (v := (-2000000001 : Int32)) S.1 S.2.1 S.2.2.2.1 (S.2.2.2.2 _ (List.mem_of_getElem? (i := 1) rfl)) dX8_load_146 ?_
      refine s_iret (x := (-2000000001 : Int32)) S G hr hlk dX8_load_148 ?_
      exact ⟨rfl, rfl, rfl⟩
  · refine lv_ldc (v := (-2000000001 : Int32)) S.1 S.2.1 S.2.2.2.1 (S.2.2.2.2 _ (List.mem_of_getElem? (i := 1) rfl)) dX8_load_7 ?_
    refine s_iret (x := (-2000000001 : Int32)) S G hr hlk dX8_load_9 ?_
    exact ⟨rfl, rfl, rfl⟩
set_option maxHeartbeats 4000000 in
set_option maxRecDepth 100000 in
theorem k_X8_fault_0_0_0 (l : Launch) (E : Ev) {I : SI} {L : SL} (t : Nat → Int32) (e_t : I (8) = t) : CS l yX8_fault wsX8_fault ({ frames := 3, cells := 0, slots := 0, locals := 63 }) E [.ref (E.2.2.2 0), .int (0 : Int32), .int (0 : Int32), .int (0 : Int32)] I L (fun vv I' L' => vv = some (.int (if ¬ t 0 = 0 then 1 else 0)) ∧ I' = I ∧ L' = L) := by
  refine CS.of (cc := cX8_fault) (maxL := 6) (ret := (some .int)) (by decide) rfl (Nat.le_of_ble_eq_true rfl) ?_
  intro pg en sg mg below meth cg ls S hr hlk hX G hl
  have S : CallFix pg mg cg cX8_fault 6 sg _ wsX8_fault RX8 := S
  have hl : lv_has ls 6 [(0, .ref (E.2.2.2 0)), (1, .int (0 : Int32)), (2, .int (0 : Int32)), (3, .int (0 : Int32))] := hl
  refine lv_iload_n S.1 S.2.1 dX8_fault_0 rfl (lv_at hl 1 rfl) ?_
  refine s_callS (As := [.int (0 : Int32)]) (rest := []) S hX G (k_X8_isLoad l E (0 : Int32)) (va_cwS (bytes := cX8_isLoad) (maxL := 1) (ret := (some .boolean)) 1 S.2.2.2.2 gX8_fault_X8_isLoad rfl rfl rfl (by decide +kernel) ⟨Nat.le_of_ble_eq_true rfl, Nat.le_of_ble_eq_true rfl⟩) rfl hl.1 rfl (Nat.le_of_ble_eq_true rfl) ⟨Nat.zero_le _, Nat.zero_le _⟩ dX8_fault_1 (fun v I1 L1 H locs hR G => ?_)
  obtain ⟨hv, hI, hL⟩ := hR
  subst hv
  have G : GS E I L sg H locs := G.same hI hL
  refine W.eq (g2 := F0 mg 4 ls [.int (if ¬ (0 : Int32) < (0 : Int32) ∧ ¬ (1 : Int32) < (0 : Int32) then 1 else 0)]) rfl ?_
  refine s_if_eq_b (P := ¬ (0 : Int32) < (0 : Int32) ∧ ¬ (1 : Int32) < (0 : Int32)) (tgt := 23) S dX8_fault_4 (by decide) (fun h => absurd (by decide) h) (fun _ => ?_)
  refine lv_iload_n S.1 S.2.1 dX8_fault_7 rfl (lv_at hl 2 rfl) ?_
  refine s_callS (As := [.int (0 : Int32)]) (rest := []) S hX G (k_X8_isFault l E (0 : Int32)) (va_cwS (bytes := cX8_isFault) (maxL := 1) (ret := (some .boolean)) 1 S.2.2.2.2 gX8_fault_X8_isFault rfl rfl rfl (by decide +kernel) ⟨Nat.le_of_ble_eq_true rfl, Nat.le_of_ble_eq_true rfl⟩) rfl hl.1 rfl (Nat.le_of_ble_eq_true rfl) ⟨Nat.zero_le _, Nat.zero_le _⟩ dX8_fault_8 (fun v I1 L1 H locs hR G => ?_)
  obtain ⟨hv, hI, hL⟩ := hR
  subst hv
  have G : GS E I L sg H locs := G.same hI hL
  refine W.eq (g2 := F0 mg 11 ls [.int (if ¬ (0 : Int32) < (0 : Int32) ∧ ¬ (2 : Int32) < (0 : Int32) then 1 else 0)]) rfl ?_
  refine s_if_eq_b (P := ¬ (0 : Int32) < (0 : Int32) ∧ ¬ (2 : Int32) < (0 : Int32)) (tgt := 23) S dX8_fault_11 (by decide) (fun h => absurd (by decide) h) (fun _ => ?_)
  refine lv_iload_n S.1 S.2.1 dX8_fault_14 rfl (lv_at hl 3 rfl) ?_
  refine lv_iconst (v := (0 : Int32)) S.1 S.2.1 dX8_fault_15 (by decide) ?_
  refine lv_iconst (v := (4 : Int32)) S.1 S.2.1 dX8_fault_16 (by decide) ?_
  refine s_callS (As := [.int (0 : Int32), .int (0 : Int32), .int (4 : Int32)]) (rest := []) S hX G (k_X8_isWithin l E (0 : Int32) (0 : Int32) (4 : Int32)) (va_cwS (bytes := cX8_isWithin) (maxL := 3) (ret := (some .boolean)) 3 S.2.2.2.2 gX8_fault_X8_isWithin rfl rfl rfl (by decide +kernel) ⟨Nat.le_of_ble_eq_true rfl, Nat.le_of_ble_eq_true rfl⟩) rfl hl.1 rfl (Nat.le_of_ble_eq_true rfl) ⟨Nat.zero_le _, Nat.zero_le _⟩ dX8_fault_17 (fun v I1 L1 H locs hR G => ?_)
  obtain ⟨hv, hI, hL⟩ := hR
  subst hv
  have G : GS E I L sg H locs := G.same hI hL
  refine W.eq (g2 := F0 mg 20 ls [.int (if ¬ (0 : Int32) < (0 : Int32) ∧ ¬ (4 : Int32) < (0 : Int32) then 1 else 0)]) rfl ?_
  refine s_if_ne_b (P := ¬ (0 : Int32) < (0 : Int32) ∧ ¬ (4 : Int32) < (0 : Int32)) (tgt := 26) S dX8_fault_20 (by decide) (fun _ => ?_) (fun h => absurd (by decide) h)
  refine lv_aload_n S.1 S.2.1 dX8_fault_26 rfl (lv_at hl 0 rfl) ?_
  refine s_get S hX G (i := 0) (kd := 8) (a := (I 0)) (v := .ref (E.2.2.2 1)) (C := RX8) (T := TX8) (N := 4) 0 (rfl : sh 0 = 8) rfl rfl rfl (by decide) rfl (fun _ h => (List.mem_cons_of_mem _ (List.mem_append_left _ (List.mem_append_left _ (List.mem_append_left _ (List.mem_append_left _ (List.mem_append_right _ h))))))) (by decide) (List.mem_of_getElem? (i := 2) rfl) (fun _ h => h) dX8_fault_27 ?_
  refine lv_iload_n S.1 S.2.1 dX8_fault_30 rfl (lv_at hl 1 rfl) ?_
  refine s_callV (C := RX0) (As := [.int (0 : Int32)]) (rest := []) (i := 1) (kd := 0) S hX G (k_X0_loadAt_0 l E 1 (by unfold IsB; decide)) (cwV (bytes := cX0_loadAt) (maxL := 2) (ret := (some (.object "BridgeLegs$Load"))) 1 S.2.2.2.2 gX8_fault_X0_loadAt rfl rfl rfl (by decide +kernel) ⟨Nat.le_of_ble_eq_true rfl, Nat.le_of_ble_eq_true rfl⟩) (rfl : sh 1 = 0) rfl rfl rfl (by decide) rfl hl.1 rfl (Nat.le_of_ble_eq_true rfl) ⟨Nat.zero_le _, Nat.zero_le _⟩ dX8_fault_31 (fun v I1 L1 H locs hR G => ?_)
  obtain ⟨hv, hI, hL⟩ := hR
  subst hv
  have G : GS E I L sg H locs := G.same hI hL
  refine W.eq (g2 := F0 mg 34 ls [.ref (E.2.2.2 2)]) rfl ?_
  refine lv_astore (lv' := [(4, .ref (E.2.2.2 2)), (0, .ref (E.2.2.2 0)), (1, .int (0 : Int32)), (2, .int (0 : Int32)), (3, .int (0 : Int32))]) S.1 S.2.1 dX8_fault_34 hl (by decide) rfl (fun ls hl => ?_)
  refine lv_aload S.1 S.2.1 dX8_fault_36 (lv_at hl 0 rfl) ?_
  refine s_getN S hX G (i := 2) (kd := 5) (a := (I 2)) (v := .ref (E.2.2.2 7)) (C := RX5) (T := TX5) (N := 13) 3 (rfl : sh 2 = 5) rfl rfl rfl (by decide) rfl (fun _ h => (List.mem_cons_of_mem _ (List.mem_append_left _ (List.mem_append_left _ (List.mem_append_left _ (List.mem_append_right _ h)))))) (by decide) (List.mem_of_getElem? (i := 19) rfl) (fun _ h => h) dX8_fault_38 ?_
  refine lv_iload_n S.1 S.2.1 dX8_fault_41 rfl (lv_at hl 3 rfl) ?_
  refine s_callV (C := RX3) (As := [.int (0 : Int32)]) (rest := []) (i := 7) (kd := 3) S hX G (k_X3_isLatched_0 l E 7 t (rfl : sh 7 = 3) (rfl : sh 8 = 10) (rfl : sh 9 = 17) (rfl : sh 10 = 17) e_t) (cwV (bytes := cX3_isLatched) (maxL := 2) (ret := (some .boolean)) 1 S.2.2.2.2 gX8_fault_X3_isLatched rfl rfl rfl (by decide +kernel) ⟨Nat.le_of_ble_eq_true rfl, Nat.le_of_ble_eq_true rfl⟩) (rfl : sh 7 = 3) rfl rfl rfl (by decide) rfl hl.1 rfl (Nat.le_of_ble_eq_true rfl) ⟨Nat.zero_le _, Nat.zero_le _⟩ dX8_fault_42 (fun v I1 L1 H locs hR G => ?_)
  obtain ⟨hv, hI, hL⟩ := hR
  subst hv
  have G : GS E I L sg H locs := G.same hI hL
  refine W.eq (g2 := F0 mg 45 ls [.int (if ¬ t 0 = 0 then 1 else 0)]) rfl ?_
  refine lv_istore (lv' := [(5, .int (if ¬ t 0 = 0 then 1 else 0)), (4, .ref (E.2.2.2 2)), (0, .ref (E.2.2.2 0)), (1, .int (0 : Int32)), (2, .int (0 : Int32)), (3, .int (0 : Int32))]) S.1 S.2.1 dX8_fault_45 hl (by decide) rfl (fun ls hl => ?_)
  refine lv_iload_n S.1 S.2.1 dX8_fault_47 rfl (lv_at hl 5 rfl) ?_
  refine lv_if_ne (tgt := 57) S.1 S.2.1 dX8_fault_48 (by decide) (fun h => absurd (by decide) h) (fun _ => ?_)
  refine lv_iload S.1 S.2.1 dX8_fault_51 (lv_at hl 0 rfl) ?_
  refine s_callS (As := [.int (if ¬ t 0 = 0 then 1 else 0)]) (rest := []) S hX G (k_X8_bit l E (if ¬ t 0 = 0 then 1 else 0) isb_ite) (va_cwS (bytes := cX8_bit) (maxL := 1) (ret := (some .int)) 1 S.2.2.2.2 gX8_fault_X8_bit rfl rfl rfl (by decide +kernel) ⟨Nat.le_of_ble_eq_true rfl, Nat.le_of_ble_eq_true rfl⟩) rfl hl.1 rfl (Nat.le_of_ble_eq_true rfl) ⟨Nat.zero_le _, Nat.zero_le _⟩ dX8_fault_53 (fun v I1 L1 H locs hR G => ?_)
  obtain ⟨hv, hI, hL⟩ := hR
  subst hv
  have G : GS E I L sg H locs := G.same hI hL
  refine W.eq (g2 := F0 mg 56 ls [.int (if ¬ t 0 = 0 then 1 else 0)]) rfl ?_
  refine s_iret (x := (if ¬ t 0 = 0 then 1 else 0)) S G hr hlk dX8_fault_56 ?_
  exact ⟨rfl, rfl, rfl⟩
set_option maxHeartbeats 4000000 in
set_option maxRecDepth 100000 in
theorem k_X8_fault_0_0_1 (l : Launch) (E : Ev) {I : SI} {L : SL} (t : Nat → Int32) (u : Nat → Int32) (e_t : I (8) = t) (e_u : I (9) = u) : CS l yX8_fault wsX8_fault ({ frames := 3, cells := 0, slots := 0, locals := 63 }) E [.ref (E.2.2.2 0), .int (0 : Int32), .int (0 : Int32), .int (1 : Int32)] I L (fun vv I' L' => vv = some (.int (if ¬ t 0 = 0 then u 0 else (-2000000004 : Int32))) ∧ I' = I ∧ L' = L) := by
  refine CS.of (cc := cX8_fault) (maxL := 6) (ret := (some .int)) (by decide) rfl (Nat.le_of_ble_eq_true rfl) ?_
  intro pg en sg mg below meth cg ls S hr hlk hX G hl
  have S : CallFix pg mg cg cX8_fault 6 sg _ wsX8_fault RX8 := S
  have hl : lv_has ls 6 [(0, .ref (E.2.2.2 0)), (1, .int (0 : Int32)), (2, .int (0 : Int32)), (3, .int (1 : Int32))] := hl
  refine lv_iload_n S.1 S.2.1 dX8_fault_0 rfl (lv_at hl 1 rfl) ?_
  refine s_callS (As := [.int (0 : Int32)]) (rest := []) S hX G (k_X8_isLoad l E (0 : Int32)) (va_cwS (bytes := cX8_isLoad) (maxL := 1) (ret := (some .boolean)) 1 S.2.2.2.2 gX8_fault_X8_isLoad rfl rfl rfl (by decide +kernel) ⟨Nat.le_of_ble_eq_true rfl, Nat.le_of_ble_eq_true rfl⟩) rfl hl.1 rfl (Nat.le_of_ble_eq_true rfl) ⟨Nat.zero_le _, Nat.zero_le _⟩ dX8_fault_1 (fun v I1 L1 H locs hR G => ?_)
  obtain ⟨hv, hI, hL⟩ := hR
  subst hv
  have G : GS E I L sg H locs := G.same hI hL
  refine W.eq (g2 := F0 mg 4 ls [.int (if ¬ (0 : Int32) < (0 : Int32) ∧ ¬ (1 : Int32) < (0 : Int32) then 1 else 0)]) rfl ?_
  refine s_if_eq_b (P := ¬ (0 : Int32) < (0 : Int32) ∧ ¬ (1 : Int32) < (0 : Int32)) (tgt := 23) S dX8_fault_4 (by decide) (fun h => absurd (by decide) h) (fun _ => ?_)
  refine lv_iload_n S.1 S.2.1 dX8_fault_7 rfl (lv_at hl 2 rfl) ?_
  refine s_callS (As := [.int (0 : Int32)]) (rest := []) S hX G (k_X8_isFault l E (0 : Int32)) (va_cwS (bytes := cX8_isFault) (maxL := 1) (ret := (some .boolean)) 1 S.2.2.2.2 gX8_fault_X8_isFault rfl rfl rfl (by decide +kernel) ⟨Nat.le_of_ble_eq_true rfl, Nat.le_of_ble_eq_true rfl⟩) rfl hl.1 rfl (Nat.le_of_ble_eq_true rfl) ⟨Nat.zero_le _, Nat.zero_le _⟩ dX8_fault_8 (fun v I1 L1 H locs hR G => ?_)
  obtain ⟨hv, hI, hL⟩ := hR
  subst hv
  have G : GS E I L sg H locs := G.same hI hL
  refine W.eq (g2 := F0 mg 11 ls [.int (if ¬ (0 : Int32) < (0 : Int32) ∧ ¬ (2 : Int32) < (0 : Int32) then 1 else 0)]) rfl ?_
  refine s_if_eq_b (P := ¬ (0 : Int32) < (0 : Int32) ∧ ¬ (2 : Int32) < (0 : Int32)) (tgt := 23) S dX8_fault_11 (by decide) (fun h => absurd (by decide) h) (fun _ => ?_)
  refine lv_iload_n S.1 S.2.1 dX8_fault_14 rfl (lv_at hl 3 rfl) ?_
  refine lv_iconst (v := (0 : Int32)) S.1 S.2.1 dX8_fault_15 (by decide) ?_
  refine lv_iconst (v := (4 : Int32)) S.1 S.2.1 dX8_fault_16 (by decide) ?_
  refine s_callS (As := [.int (1 : Int32), .int (0 : Int32), .int (4 : Int32)]) (rest := []) S hX G (k_X8_isWithin l E (1 : Int32) (0 : Int32) (4 : Int32)) (va_cwS (bytes := cX8_isWithin) (maxL := 3) (ret := (some .boolean)) 3 S.2.2.2.2 gX8_fault_X8_isWithin rfl rfl rfl (by decide +kernel) ⟨Nat.le_of_ble_eq_true rfl, Nat.le_of_ble_eq_true rfl⟩) rfl hl.1 rfl (Nat.le_of_ble_eq_true rfl) ⟨Nat.zero_le _, Nat.zero_le _⟩ dX8_fault_17 (fun v I1 L1 H locs hR G => ?_)
  obtain ⟨hv, hI, hL⟩ := hR
  subst hv
  have G : GS E I L sg H locs := G.same hI hL
  refine W.eq (g2 := F0 mg 20 ls [.int (if ¬ (1 : Int32) < (0 : Int32) ∧ ¬ (4 : Int32) < (1 : Int32) then 1 else 0)]) rfl ?_
  refine s_if_ne_b (P := ¬ (1 : Int32) < (0 : Int32) ∧ ¬ (4 : Int32) < (1 : Int32)) (tgt := 26) S dX8_fault_20 (by decide) (fun _ => ?_) (fun h => absurd (by decide) h)
  refine lv_aload_n S.1 S.2.1 dX8_fault_26 rfl (lv_at hl 0 rfl) ?_
  refine s_get S hX G (i := 0) (kd := 8) (a := (I 0)) (v := .ref (E.2.2.2 1)) (C := RX8) (T := TX8) (N := 4) 0 (rfl : sh 0 = 8) rfl rfl rfl (by decide) rfl (fun _ h => (List.mem_cons_of_mem _ (List.mem_append_left _ (List.mem_append_left _ (List.mem_append_left _ (List.mem_append_left _ (List.mem_append_right _ h))))))) (by decide) (List.mem_of_getElem? (i := 2) rfl) (fun _ h => h) dX8_fault_27 ?_
  refine lv_iload_n S.1 S.2.1 dX8_fault_30 rfl (lv_at hl 1 rfl) ?_
  refine s_callV (C := RX0) (As := [.int (0 : Int32)]) (rest := []) (i := 1) (kd := 0) S hX G (k_X0_loadAt_0 l E 1 (by unfold IsB; decide)) (cwV (bytes := cX0_loadAt) (maxL := 2) (ret := (some (.object "BridgeLegs$Load"))) 1 S.2.2.2.2 gX8_fault_X0_loadAt rfl rfl rfl (by decide +kernel) ⟨Nat.le_of_ble_eq_true rfl, Nat.le_of_ble_eq_true rfl⟩) (rfl : sh 1 = 0) rfl rfl rfl (by decide) rfl hl.1 rfl (Nat.le_of_ble_eq_true rfl) ⟨Nat.zero_le _, Nat.zero_le _⟩ dX8_fault_31 (fun v I1 L1 H locs hR G => ?_)
  obtain ⟨hv, hI, hL⟩ := hR
  subst hv
  have G : GS E I L sg H locs := G.same hI hL
  refine W.eq (g2 := F0 mg 34 ls [.ref (E.2.2.2 2)]) rfl ?_
  refine lv_astore (lv' := [(4, .ref (E.2.2.2 2)), (0, .ref (E.2.2.2 0)), (1, .int (0 : Int32)), (2, .int (0 : Int32)), (3, .int (1 : Int32))]) S.1 S.2.1 dX8_fault_34 hl (by decide) rfl (fun ls hl => ?_)
  refine lv_aload S.1 S.2.1 dX8_fault_36 (lv_at hl 0 rfl) ?_
  refine s_getN S hX G (i := 2) (kd := 5) (a := (I 2)) (v := .ref (E.2.2.2 7)) (C := RX5) (T := TX5) (N := 13) 3 (rfl : sh 2 = 5) rfl rfl rfl (by decide) rfl (fun _ h => (List.mem_cons_of_mem _ (List.mem_append_left _ (List.mem_append_left _ (List.mem_append_left _ (List.mem_append_right _ h)))))) (by decide) (List.mem_of_getElem? (i := 19) rfl) (fun _ h => h) dX8_fault_38 ?_
  refine lv_iload_n S.1 S.2.1 dX8_fault_41 rfl (lv_at hl 3 rfl) ?_
  refine s_callV (C := RX3) (As := [.int (0 : Int32)]) (rest := []) (i := 7) (kd := 3) S hX G (k_X3_isLatched_0 l E 7 t (rfl : sh 7 = 3) (rfl : sh 8 = 10) (rfl : sh 9 = 17) (rfl : sh 10 = 17) e_t) (cwV (bytes := cX3_isLatched) (maxL := 2) (ret := (some .boolean)) 1 S.2.2.2.2 gX8_fault_X3_isLatched rfl rfl rfl (by decide +kernel) ⟨Nat.le_of_ble_eq_true rfl, Nat.le_of_ble_eq_true rfl⟩) (rfl : sh 7 = 3) rfl rfl rfl (by decide) rfl hl.1 rfl (Nat.le_of_ble_eq_true rfl) ⟨Nat.zero_le _, Nat.zero_le _⟩ dX8_fault_42 (fun v I1 L1 H locs hR G => ?_)
  obtain ⟨hv, hI, hL⟩ := hR
  subst hv
  have G : GS E I L sg H locs := G.same hI hL
  refine W.eq (g2 := F0 mg 45 ls [.int (if ¬ t 0 = 0 then 1 else 0)]) rfl ?_
  refine lv_istore (lv' := [(5, .int (if ¬ t 0 = 0 then 1 else 0)), (4, .ref (E.2.2.2 2)), (0, .ref (E.2.2.2 0)), (1, .int (0 : Int32)), (2, .int (0 : Int32)), (3, .int (1 : Int32))]) S.1 S.2.1 dX8_fault_45 hl (by decide) rfl (fun ls hl => ?_)
  refine lv_iload_n S.1 S.2.1 dX8_fault_47 rfl (lv_at hl 5 rfl) ?_
  refine lv_if_ne (tgt := 57) S.1 S.2.1 dX8_fault_48 (by decide) (fun _ => ?_) (fun h => absurd h (by decide))
  refine lv_iload_n S.1 S.2.1 dX8_fault_57 rfl (lv_at hl 5 rfl) ?_
  refine lv_iconst (v := (4 : Int32)) S.1 S.2.1 dX8_fault_58 (by decide) ?_
  refine lv_icmp_ne (tgt := 79) S.1 S.2.1 dX8_fault_59 (by decide) (fun _ => ?_) (fun h => absurd h (by decide))
  refine lv_iload S.1 S.2.1 dX8_fault_79 (lv_at hl 0 rfl) ?_
  refine s_if_ne_b (P := ¬ t 0 = 0) (tgt := 87) S dX8_fault_81 (by decide) (fun c_1 => ?_) (fun c_1 => ?_)
  · refine lv_iload_n S.1 S.2.1 dX8_fault_87 rfl (lv_at hl 5 rfl) ?_
    refine lv_lookup (off := 28) (tgt := 116) S.1 S.2.1 dX8_fault_88 (by decide) (by decide) (by decide) ?_
    refine lv_aload S.1 S.2.1 dX8_fault_116 (lv_at hl 1 rfl) ?_
    refine s_getN S hX G (i := 2) (kd := 5) (a := (I 2)) (v := .ref (E.2.2.2 7)) (C := RX5) (T := TX5) (N := 13) 3 (rfl : sh 2 = 5) rfl rfl rfl (by decide) rfl (fun _ h => (List.mem_cons_of_mem _ (List.mem_append_left _ (List.mem_append_left _ (List.mem_append_left _ (List.mem_append_right _ h)))))) (by decide) (List.mem_of_getElem? (i := 19) rfl) (fun _ h => h) dX8_fault_118 ?_
    refine lv_iload_n S.1 S.2.1 dX8_fault_121 rfl (lv_at hl 4 rfl) ?_
    refine s_callV (C := RX3) (As := [.int (0 : Int32)]) (rest := []) (i := 7) (kd := 3) S hX G (k_X3_slotOf_0 l E 7 u (rfl : sh 7 = 3) (rfl : sh 8 = 10) (rfl : sh 9 = 17) (rfl : sh 10 = 17) e_u) (cwV (bytes := cX3_slotOf) (maxL := 2) (ret := (some .int)) 1 S.2.2.2.2 gX8_fault_X3_slotOf rfl rfl rfl (by decide +kernel) ⟨Nat.le_of_ble_eq_true rfl, Nat.le_of_ble_eq_true rfl⟩) (rfl : sh 7 = 3) rfl rfl rfl (by decide) rfl hl.1 rfl (Nat.le_of_ble_eq_true rfl) ⟨Nat.zero_le _, Nat.zero_le _⟩ dX8_fault_122 (fun v I1 L1 H locs hR G => ?_)
    obtain ⟨hv, hI, hL⟩ := hR
    subst hv
    have G : GS E I L sg H locs := G.same hI hL
    refine W.eq (g2 := F0 mg 125 ls [.int (u 0)]) rfl ?_
    refine s_iret (x := (u 0)) S G hr hlk dX8_fault_125 ?_
    exact ⟨(congrArg (fun q : Int32 => some (Value.int q)) (show (u 0) = (if ¬ t 0 = 0 then u 0 else (-2000000004 : Int32)) by first | rfl | exact (if_pos c_1).symm | exact (if_neg c_1).symm)), rfl, rfl⟩
  · refine lv_ldc (v := (-2000000004 : Int32)) S.1 S.2.1 S.2.2.2.1 (S.2.2.2.2 _ (List.mem_of_getElem? (i := 3) rfl)) dX8_fault_84 ?_
    refine s_iret (x := (-2000000004 : Int32)) S G hr hlk dX8_fault_86 ?_
    exact ⟨(congrArg (fun q : Int32 => some (Value.int q)) (show (-2000000004 : Int32) = (if ¬ t 0 = 0 then u 0 else (-2000000004 : Int32)) by first | rfl | exact (if_pos c_1).symm | exact (if_neg c_1).symm)), rfl, rfl⟩
set_option maxHeartbeats 4000000 in
set_option maxRecDepth 100000 in
theorem k_X8_fault_0_0_3 (l : Launch) (E : Ev) {I : SI} {L : SL} (t : Nat → Int32) (u : Nat → Int32) (e_t : I (8) = t) (e_u : I (9) = u) : CS l yX8_fault wsX8_fault ({ frames := 4, cells := 0, slots := 0, locals := 88 }) E [.ref (E.2.2.2 0), .int (0 : Int32), .int (0 : Int32), .int (3 : Int32)] I L (fun vv I' L' => vv = some (.int (if ¬ t 0 = 0 then plcF t u 0 else (-2000000004 : Int32))) ∧ I' = I ∧ L' = L) := by
  refine CS.of (cc := cX8_fault) (maxL := 6) (ret := (some .int)) (by decide) rfl (Nat.le_of_ble_eq_true rfl) ?_
  intro pg en sg mg below meth cg ls S hr hlk hX G hl
  have S : CallFix pg mg cg cX8_fault 6 sg _ wsX8_fault RX8 := S
  have hl : lv_has ls 6 [(0, .ref (E.2.2.2 0)), (1, .int (0 : Int32)), (2, .int (0 : Int32)), (3, .int (3 : Int32))] := hl
  refine lv_iload_n S.1 S.2.1 dX8_fault_0 rfl (lv_at hl 1 rfl) ?_
  refine s_callS (As := [.int (0 : Int32)]) (rest := []) S hX G (k_X8_isLoad l E (0 : Int32)) (va_cwS (bytes := cX8_isLoad) (maxL := 1) (ret := (some .boolean)) 1 S.2.2.2.2 gX8_fault_X8_isLoad rfl rfl rfl (by decide +kernel) ⟨Nat.le_of_ble_eq_true rfl, Nat.le_of_ble_eq_true rfl⟩) rfl hl.1 rfl (Nat.le_of_ble_eq_true rfl) ⟨Nat.zero_le _, Nat.zero_le _⟩ dX8_fault_1 (fun v I1 L1 H locs hR G => ?_)
  obtain ⟨hv, hI, hL⟩ := hR
  subst hv
  have G : GS E I L sg H locs := G.same hI hL
  refine W.eq (g2 := F0 mg 4 ls [.int (if ¬ (0 : Int32) < (0 : Int32) ∧ ¬ (1 : Int32) < (0 : Int32) then 1 else 0)]) rfl ?_
  refine s_if_eq_b (P := ¬ (0 : Int32) < (0 : Int32) ∧ ¬ (1 : Int32) < (0 : Int32)) (tgt := 23) S dX8_fault_4 (by decide) (fun h => absurd (by decide) h) (fun _ => ?_)
  refine lv_iload_n S.1 S.2.1 dX8_fault_7 rfl (lv_at hl 2 rfl) ?_
  refine s_callS (As := [.int (0 : Int32)]) (rest := []) S hX G (k_X8_isFault l E (0 : Int32)) (va_cwS (bytes := cX8_isFault) (maxL := 1) (ret := (some .boolean)) 1 S.2.2.2.2 gX8_fault_X8_isFault rfl rfl rfl (by decide +kernel) ⟨Nat.le_of_ble_eq_true rfl, Nat.le_of_ble_eq_true rfl⟩) rfl hl.1 rfl (Nat.le_of_ble_eq_true rfl) ⟨Nat.zero_le _, Nat.zero_le _⟩ dX8_fault_8 (fun v I1 L1 H locs hR G => ?_)
  obtain ⟨hv, hI, hL⟩ := hR
  subst hv
  have G : GS E I L sg H locs := G.same hI hL
  refine W.eq (g2 := F0 mg 11 ls [.int (if ¬ (0 : Int32) < (0 : Int32) ∧ ¬ (2 : Int32) < (0 : Int32) then 1 else 0)]) rfl ?_
  refine s_if_eq_b (P := ¬ (0 : Int32) < (0 : Int32) ∧ ¬ (2 : Int32) < (0 : Int32)) (tgt := 23) S dX8_fault_11 (by decide) (fun h => absurd (by decide) h) (fun _ => ?_)
  refine lv_iload_n S.1 S.2.1 dX8_fault_14 rfl (lv_at hl 3 rfl) ?_
  refine lv_iconst (v := (0 : Int32)) S.1 S.2.1 dX8_fault_15 (by decide) ?_
  refine lv_iconst (v := (4 : Int32)) S.1 S.2.1 dX8_fault_16 (by decide) ?_
  refine s_callS (As := [.int (3 : Int32), .int (0 : Int32), .int (4 : Int32)]) (rest := []) S hX G (k_X8_isWithin l E (3 : Int32) (0 : Int32) (4 : Int32)) (va_cwS (bytes := cX8_isWithin) (maxL := 3) (ret := (some .boolean)) 3 S.2.2.2.2 gX8_fault_X8_isWithin rfl rfl rfl (by decide +kernel) ⟨Nat.le_of_ble_eq_true rfl, Nat.le_of_ble_eq_true rfl⟩) rfl hl.1 rfl (Nat.le_of_ble_eq_true rfl) ⟨Nat.zero_le _, Nat.zero_le _⟩ dX8_fault_17 (fun v I1 L1 H locs hR G => ?_)
  obtain ⟨hv, hI, hL⟩ := hR
  subst hv
  have G : GS E I L sg H locs := G.same hI hL
  refine W.eq (g2 := F0 mg 20 ls [.int (if ¬ (3 : Int32) < (0 : Int32) ∧ ¬ (4 : Int32) < (3 : Int32) then 1 else 0)]) rfl ?_
  refine s_if_ne_b (P := ¬ (3 : Int32) < (0 : Int32) ∧ ¬ (4 : Int32) < (3 : Int32)) (tgt := 26) S dX8_fault_20 (by decide) (fun _ => ?_) (fun h => absurd (by decide) h)
  refine lv_aload_n S.1 S.2.1 dX8_fault_26 rfl (lv_at hl 0 rfl) ?_
  refine s_get S hX G (i := 0) (kd := 8) (a := (I 0)) (v := .ref (E.2.2.2 1)) (C := RX8) (T := TX8) (N := 4) 0 (rfl : sh 0 = 8) rfl rfl rfl (by decide) rfl (fun _ h => (List.mem_cons_of_mem _ (List.mem_append_left _ (List.mem_append_left _ (List.mem_append_left _ (List.mem_append_left _ (List.mem_append_right _ h))))))) (by decide) (List.mem_of_getElem? (i := 2) rfl) (fun _ h => h) dX8_fault_27 ?_
  refine lv_iload_n S.1 S.2.1 dX8_fault_30 rfl (lv_at hl 1 rfl) ?_
  refine s_callV (C := RX0) (As := [.int (0 : Int32)]) (rest := []) (i := 1) (kd := 0) S hX G (k_X0_loadAt_0 l E 1 (by unfold IsB; decide)) (cwV (bytes := cX0_loadAt) (maxL := 2) (ret := (some (.object "BridgeLegs$Load"))) 1 S.2.2.2.2 gX8_fault_X0_loadAt rfl rfl rfl (by decide +kernel) ⟨Nat.le_of_ble_eq_true rfl, Nat.le_of_ble_eq_true rfl⟩) (rfl : sh 1 = 0) rfl rfl rfl (by decide) rfl hl.1 rfl (Nat.le_of_ble_eq_true rfl) ⟨Nat.zero_le _, Nat.zero_le _⟩ dX8_fault_31 (fun v I1 L1 H locs hR G => ?_)
  obtain ⟨hv, hI, hL⟩ := hR
  subst hv
  have G : GS E I L sg H locs := G.same hI hL
  refine W.eq (g2 := F0 mg 34 ls [.ref (E.2.2.2 2)]) rfl ?_
  refine lv_astore (lv' := [(4, .ref (E.2.2.2 2)), (0, .ref (E.2.2.2 0)), (1, .int (0 : Int32)), (2, .int (0 : Int32)), (3, .int (3 : Int32))]) S.1 S.2.1 dX8_fault_34 hl (by decide) rfl (fun ls hl => ?_)
  refine lv_aload S.1 S.2.1 dX8_fault_36 (lv_at hl 0 rfl) ?_
  refine s_getN S hX G (i := 2) (kd := 5) (a := (I 2)) (v := .ref (E.2.2.2 7)) (C := RX5) (T := TX5) (N := 13) 3 (rfl : sh 2 = 5) rfl rfl rfl (by decide) rfl (fun _ h => (List.mem_cons_of_mem _ (List.mem_append_left _ (List.mem_append_left _ (List.mem_append_left _ (List.mem_append_right _ h)))))) (by decide) (List.mem_of_getElem? (i := 19) rfl) (fun _ h => h) dX8_fault_38 ?_
  refine lv_iload_n S.1 S.2.1 dX8_fault_41 rfl (lv_at hl 3 rfl) ?_
  refine s_callV (C := RX3) (As := [.int (0 : Int32)]) (rest := []) (i := 7) (kd := 3) S hX G (k_X3_isLatched_0 l E 7 t (rfl : sh 7 = 3) (rfl : sh 8 = 10) (rfl : sh 9 = 17) (rfl : sh 10 = 17) e_t) (cwV (bytes := cX3_isLatched) (maxL := 2) (ret := (some .boolean)) 1 S.2.2.2.2 gX8_fault_X3_isLatched rfl rfl rfl (by decide +kernel) ⟨Nat.le_of_ble_eq_true rfl, Nat.le_of_ble_eq_true rfl⟩) (rfl : sh 7 = 3) rfl rfl rfl (by decide) rfl hl.1 rfl (Nat.le_of_ble_eq_true rfl) ⟨Nat.zero_le _, Nat.zero_le _⟩ dX8_fault_42 (fun v I1 L1 H locs hR G => ?_)
  obtain ⟨hv, hI, hL⟩ := hR
  subst hv
  have G : GS E I L sg H locs := G.same hI hL
  refine W.eq (g2 := F0 mg 45 ls [.int (if ¬ t 0 = 0 then 1 else 0)]) rfl ?_
  refine lv_istore (lv' := [(5, .int (if ¬ t 0 = 0 then 1 else 0)), (4, .ref (E.2.2.2 2)), (0, .ref (E.2.2.2 0)), (1, .int (0 : Int32)), (2, .int (0 : Int32)), (3, .int (3 : Int32))]) S.1 S.2.1 dX8_fault_45 hl (by decide) rfl (fun ls hl => ?_)
  refine lv_iload_n S.1 S.2.1 dX8_fault_47 rfl (lv_at hl 5 rfl) ?_
  refine lv_if_ne (tgt := 57) S.1 S.2.1 dX8_fault_48 (by decide) (fun _ => ?_) (fun h => absurd h (by decide))
  refine lv_iload_n S.1 S.2.1 dX8_fault_57 rfl (lv_at hl 5 rfl) ?_
  refine lv_iconst (v := (4 : Int32)) S.1 S.2.1 dX8_fault_58 (by decide) ?_
  refine lv_icmp_ne (tgt := 79) S.1 S.2.1 dX8_fault_59 (by decide) (fun _ => ?_) (fun h => absurd h (by decide))
  refine lv_iload S.1 S.2.1 dX8_fault_79 (lv_at hl 0 rfl) ?_
  refine s_if_ne_b (P := ¬ t 0 = 0) (tgt := 87) S dX8_fault_81 (by decide) (fun c_1 => ?_) (fun c_1 => ?_)
  · refine lv_iload_n S.1 S.2.1 dX8_fault_87 rfl (lv_at hl 5 rfl) ?_
    refine lv_lookup (off := 48) (tgt := 136) S.1 S.2.1 dX8_fault_88 (by decide) (by decide) (by decide) ?_
    refine lv_aload S.1 S.2.1 dX8_fault_136 (lv_at hl 1 rfl) ?_
    refine s_getN S hX G (i := 2) (kd := 5) (a := (I 2)) (v := .ref (E.2.2.2 7)) (C := RX5) (T := TX5) (N := 13) 3 (rfl : sh 2 = 5) rfl rfl rfl (by decide) rfl (fun _ h => (List.mem_cons_of_mem _ (List.mem_append_left _ (List.mem_append_left _ (List.mem_append_left _ (List.mem_append_right _ h)))))) (by decide) (List.mem_of_getElem? (i := 19) rfl) (fun _ h => h) dX8_fault_138 ?_
    refine lv_iload_n S.1 S.2.1 dX8_fault_141 rfl (lv_at hl 4 rfl) ?_
    refine s_callV (C := RX3) (As := [.int (0 : Int32)]) (rest := []) (i := 7) (kd := 3) S hX G (k_X3_placeOf_0 l E 7 t u (rfl : sh 7 = 3) (rfl : sh 8 = 10) (rfl : sh 9 = 17) (rfl : sh 10 = 17) e_t e_u) (cwV (bytes := cX3_placeOf) (maxL := 6) (ret := (some .int)) 1 S.2.2.2.2 gX8_fault_X3_placeOf rfl rfl rfl (by decide +kernel) ⟨Nat.le_of_ble_eq_true rfl, Nat.le_of_ble_eq_true rfl⟩) (rfl : sh 7 = 3) rfl rfl rfl (by decide) rfl hl.1 rfl (Nat.le_of_ble_eq_true rfl) ⟨Nat.zero_le _, Nat.zero_le _⟩ dX8_fault_142 (fun v I1 L1 H locs hR G => ?_)
    obtain ⟨hv, hI, hL⟩ := hR
    subst hv
    have G : GS E I L sg H locs := G.same hI hL
    refine W.eq (g2 := F0 mg 145 ls [.int (plcF t u 0)]) rfl ?_
    refine lv_topi (fun y_2 ey_2 => ?_)
    refine s_iret (x := y_2) S G hr hlk dX8_fault_145 ?_
    exact ⟨(congrArg (fun q : Int32 => some (Value.int q)) (show y_2 = (if ¬ t 0 = 0 then plcF t u 0 else (-2000000004 : Int32)) by subst ey_2; (first | rfl | exact (if_pos c_1).symm | exact (if_neg c_1).symm))), rfl, rfl⟩
  · refine lv_ldc (v := (-2000000004 : Int32)) S.1 S.2.1 S.2.2.2.1 (S.2.2.2.2 _ (List.mem_of_getElem? (i := 3) rfl)) dX8_fault_84 ?_
    refine s_iret (x := (-2000000004 : Int32)) S G hr hlk dX8_fault_86 ?_
    exact ⟨(congrArg (fun q : Int32 => some (Value.int q)) (show (-2000000004 : Int32) = (if ¬ t 0 = 0 then plcF t u 0 else (-2000000004 : Int32)) by first | rfl | exact (if_pos c_1).symm | exact (if_neg c_1).symm)), rfl, rfl⟩
set_option maxHeartbeats 4000000 in
set_option maxRecDepth 100000 in
theorem k_X8_fault_0_0_4 (l : Launch) (E : Ev) {I : SI} {L : SL} (t : Nat → Int32) (b : Nat → Int32) (u : Nat → Int32) (sv : Nat → Int32) (e_t : I (8) = t) (e_b : I (2) = b) (e_u : I (9) = u) (e_sv : I (21) = sv) : CS l yX8_fault wsX8_fault ({ frames := 5, cells := 0, slots := 0, locals := 110 }) E [.ref (E.2.2.2 0), .int (0 : Int32), .int (0 : Int32), .int (4 : Int32)] I L (fun vv I' L' => vv = some (.int (if ¬ t 0 = 0 ∧ plcF t u 0 = 0 ∧ ¬ sv 2 ≤ absI (b 4) then 1 else 0)) ∧ I' = I ∧ L' = L) := by
  refine CS.of (cc := cX8_fault) (maxL := 6) (ret := (some .int)) (by decide) rfl (Nat.le_of_ble_eq_true rfl) ?_
  intro pg en sg mg below meth cg ls S hr hlk hX G hl
  have S : CallFix pg mg cg cX8_fault 6 sg _ wsX8_fault RX8 := S
  have hl : lv_has ls 6 [(0, .ref (E.2.2.2 0)), (1, .int (0 : Int32)), (2, .int (0 : Int32)), (3, .int (4 : Int32))] := hl
  refine lv_iload_n S.1 S.2.1 dX8_fault_0 rfl (lv_at hl 1 rfl) ?_
  refine s_callS (As := [.int (0 : Int32)]) (rest := []) S hX G (k_X8_isLoad l E (0 : Int32)) (va_cwS (bytes := cX8_isLoad) (maxL := 1) (ret := (some .boolean)) 1 S.2.2.2.2 gX8_fault_X8_isLoad rfl rfl rfl (by decide +kernel) ⟨Nat.le_of_ble_eq_true rfl, Nat.le_of_ble_eq_true rfl⟩) rfl hl.1 rfl (Nat.le_of_ble_eq_true rfl) ⟨Nat.zero_le _, Nat.zero_le _⟩ dX8_fault_1 (fun v I1 L1 H locs hR G => ?_)
  obtain ⟨hv, hI, hL⟩ := hR
  subst hv
  have G : GS E I L sg H locs := G.same hI hL
  refine W.eq (g2 := F0 mg 4 ls [.int (if ¬ (0 : Int32) < (0 : Int32) ∧ ¬ (1 : Int32) < (0 : Int32) then 1 else 0)]) rfl ?_
  refine s_if_eq_b (P := ¬ (0 : Int32) < (0 : Int32) ∧ ¬ (1 : Int32) < (0 : Int32)) (tgt := 23) S dX8_fault_4 (by decide) (fun h => absurd (by decide) h) (fun _ => ?_)
  refine lv_iload_n S.1 S.2.1 dX8_fault_7 rfl (lv_at hl 2 rfl) ?_
  refine s_callS (As := [.int (0 : Int32)]) (rest := []) S hX G (k_X8_isFault l E (0 : Int32)) (va_cwS (bytes := cX8_isFault) (maxL := 1) (ret := (some .boolean)) 1 S.2.2.2.2 gX8_fault_X8_isFault rfl rfl rfl (by decide +kernel) ⟨Nat.le_of_ble_eq_true rfl, Nat.le_of_ble_eq_true rfl⟩) rfl hl.1 rfl (Nat.le_of_ble_eq_true rfl) ⟨Nat.zero_le _, Nat.zero_le _⟩ dX8_fault_8 (fun v I1 L1 H locs hR G => ?_)
  obtain ⟨hv, hI, hL⟩ := hR
  subst hv
  have G : GS E I L sg H locs := G.same hI hL
  refine W.eq (g2 := F0 mg 11 ls [.int (if ¬ (0 : Int32) < (0 : Int32) ∧ ¬ (2 : Int32) < (0 : Int32) then 1 else 0)]) rfl ?_
  refine s_if_eq_b (P := ¬ (0 : Int32) < (0 : Int32) ∧ ¬ (2 : Int32) < (0 : Int32)) (tgt := 23) S dX8_fault_11 (by decide) (fun h => absurd (by decide) h) (fun _ => ?_)
  refine lv_iload_n S.1 S.2.1 dX8_fault_14 rfl (lv_at hl 3 rfl) ?_
  refine lv_iconst (v := (0 : Int32)) S.1 S.2.1 dX8_fault_15 (by decide) ?_
  refine lv_iconst (v := (4 : Int32)) S.1 S.2.1 dX8_fault_16 (by decide) ?_
  refine s_callS (As := [.int (4 : Int32), .int (0 : Int32), .int (4 : Int32)]) (rest := []) S hX G (k_X8_isWithin l E (4 : Int32) (0 : Int32) (4 : Int32)) (va_cwS (bytes := cX8_isWithin) (maxL := 3) (ret := (some .boolean)) 3 S.2.2.2.2 gX8_fault_X8_isWithin rfl rfl rfl (by decide +kernel) ⟨Nat.le_of_ble_eq_true rfl, Nat.le_of_ble_eq_true rfl⟩) rfl hl.1 rfl (Nat.le_of_ble_eq_true rfl) ⟨Nat.zero_le _, Nat.zero_le _⟩ dX8_fault_17 (fun v I1 L1 H locs hR G => ?_)
  obtain ⟨hv, hI, hL⟩ := hR
  subst hv
  have G : GS E I L sg H locs := G.same hI hL
  refine W.eq (g2 := F0 mg 20 ls [.int (if ¬ (4 : Int32) < (0 : Int32) ∧ ¬ (4 : Int32) < (4 : Int32) then 1 else 0)]) rfl ?_
  refine s_if_ne_b (P := ¬ (4 : Int32) < (0 : Int32) ∧ ¬ (4 : Int32) < (4 : Int32)) (tgt := 26) S dX8_fault_20 (by decide) (fun _ => ?_) (fun h => absurd (by decide) h)
  refine lv_aload_n S.1 S.2.1 dX8_fault_26 rfl (lv_at hl 0 rfl) ?_
  refine s_get S hX G (i := 0) (kd := 8) (a := (I 0)) (v := .ref (E.2.2.2 1)) (C := RX8) (T := TX8) (N := 4) 0 (rfl : sh 0 = 8) rfl rfl rfl (by decide) rfl (fun _ h => (List.mem_cons_of_mem _ (List.mem_append_left _ (List.mem_append_left _ (List.mem_append_left _ (List.mem_append_left _ (List.mem_append_right _ h))))))) (by decide) (List.mem_of_getElem? (i := 2) rfl) (fun _ h => h) dX8_fault_27 ?_
  refine lv_iload_n S.1 S.2.1 dX8_fault_30 rfl (lv_at hl 1 rfl) ?_
  refine s_callV (C := RX0) (As := [.int (0 : Int32)]) (rest := []) (i := 1) (kd := 0) S hX G (k_X0_loadAt_0 l E 1 (by unfold IsB; decide)) (cwV (bytes := cX0_loadAt) (maxL := 2) (ret := (some (.object "BridgeLegs$Load"))) 1 S.2.2.2.2 gX8_fault_X0_loadAt rfl rfl rfl (by decide +kernel) ⟨Nat.le_of_ble_eq_true rfl, Nat.le_of_ble_eq_true rfl⟩) (rfl : sh 1 = 0) rfl rfl rfl (by decide) rfl hl.1 rfl (Nat.le_of_ble_eq_true rfl) ⟨Nat.zero_le _, Nat.zero_le _⟩ dX8_fault_31 (fun v I1 L1 H locs hR G => ?_)
  obtain ⟨hv, hI, hL⟩ := hR
  subst hv
  have G : GS E I L sg H locs := G.same hI hL
  refine W.eq (g2 := F0 mg 34 ls [.ref (E.2.2.2 2)]) rfl ?_
  refine lv_astore (lv' := [(4, .ref (E.2.2.2 2)), (0, .ref (E.2.2.2 0)), (1, .int (0 : Int32)), (2, .int (0 : Int32)), (3, .int (4 : Int32))]) S.1 S.2.1 dX8_fault_34 hl (by decide) rfl (fun ls hl => ?_)
  refine lv_aload S.1 S.2.1 dX8_fault_36 (lv_at hl 0 rfl) ?_
  refine s_getN S hX G (i := 2) (kd := 5) (a := b) (v := .ref (E.2.2.2 7)) (C := RX5) (T := TX5) (N := 13) 3 (rfl : sh 2 = 5) e_b rfl rfl (by decide) rfl (fun _ h => (List.mem_cons_of_mem _ (List.mem_append_left _ (List.mem_append_left _ (List.mem_append_left _ (List.mem_append_right _ h)))))) (by decide) (List.mem_of_getElem? (i := 19) rfl) (fun _ h => h) dX8_fault_38 ?_
  refine lv_iload_n S.1 S.2.1 dX8_fault_41 rfl (lv_at hl 3 rfl) ?_
  refine s_callV (C := RX3) (As := [.int (0 : Int32)]) (rest := []) (i := 7) (kd := 3) S hX G (k_X3_isLatched_0 l E 7 t (rfl : sh 7 = 3) (rfl : sh 8 = 10) (rfl : sh 9 = 17) (rfl : sh 10 = 17) e_t) (cwV (bytes := cX3_isLatched) (maxL := 2) (ret := (some .boolean)) 1 S.2.2.2.2 gX8_fault_X3_isLatched rfl rfl rfl (by decide +kernel) ⟨Nat.le_of_ble_eq_true rfl, Nat.le_of_ble_eq_true rfl⟩) (rfl : sh 7 = 3) rfl rfl rfl (by decide) rfl hl.1 rfl (Nat.le_of_ble_eq_true rfl) ⟨Nat.zero_le _, Nat.zero_le _⟩ dX8_fault_42 (fun v I1 L1 H locs hR G => ?_)
  obtain ⟨hv, hI, hL⟩ := hR
  subst hv
  have G : GS E I L sg H locs := G.same hI hL
  refine W.eq (g2 := F0 mg 45 ls [.int (if ¬ t 0 = 0 then 1 else 0)]) rfl ?_
  refine lv_istore (lv' := [(5, .int (if ¬ t 0 = 0 then 1 else 0)), (4, .ref (E.2.2.2 2)), (0, .ref (E.2.2.2 0)), (1, .int (0 : Int32)), (2, .int (0 : Int32)), (3, .int (4 : Int32))]) S.1 S.2.1 dX8_fault_45 hl (by decide) rfl (fun ls hl => ?_)
  refine lv_iload_n S.1 S.2.1 dX8_fault_47 rfl (lv_at hl 5 rfl) ?_
  refine lv_if_ne (tgt := 57) S.1 S.2.1 dX8_fault_48 (by decide) (fun _ => ?_) (fun h => absurd h (by decide))
  refine lv_iload_n S.1 S.2.1 dX8_fault_57 rfl (lv_at hl 5 rfl) ?_
  refine lv_iconst (v := (4 : Int32)) S.1 S.2.1 dX8_fault_58 (by decide) ?_
  refine lv_icmp_ne (tgt := 79) S.1 S.2.1 dX8_fault_59 (by decide) (fun h => absurd (by decide) h) (fun _ => ?_)
  refine lv_aload S.1 S.2.1 dX8_fault_62 (lv_at hl 1 rfl) ?_
  refine lv_iload_n S.1 S.2.1 dX8_fault_64 rfl (lv_at hl 4 rfl) ?_
  refine lv_aload_n S.1 S.2.1 dX8_fault_65 rfl (lv_at hl 2 rfl) ?_
  refine s_get S hX G (i := 0) (kd := 8) (a := (I 0)) (v := .ref (E.2.2.2 1)) (C := RX8) (T := TX8) (N := 4) 0 (rfl : sh 0 = 8) rfl rfl rfl (by decide) rfl (fun _ h => (List.mem_cons_of_mem _ (List.mem_append_left _ (List.mem_append_left _ (List.mem_append_left _ (List.mem_append_left _ (List.mem_append_right _ h))))))) (by decide) (List.mem_of_getElem? (i := 2) rfl) (fun _ h => h) dX8_fault_66 ?_
  refine s_getN S hX G (i := 1) (kd := 0) (a := (I 1)) (v := .ref (E.2.2.2 20)) (C := RX0) (T := TX0) (N := 5) 2 (rfl : sh 1 = 0) rfl rfl rfl (by decide) rfl (fun _ h => (List.mem_cons_of_mem _ (List.mem_append_left _ (List.mem_append_left _ (List.mem_append_right _ h))))) (by decide) (List.mem_of_getElem? (i := 33) rfl) (fun _ h => h) dX8_fault_69 ?_
  refine s_callV (C := RX5) (As := [.int (0 : Int32), .ref (E.2.2.2 20)]) (rest := []) (i := 2) (kd := 5) S hX G (k_X5_isClearable_0 l E 2 20 b t u sv (by unfold IsLd; decide) (rfl : sh 20 = 1) (rfl : sh 21 = 20) e_b e_t e_u e_sv) (cwV (bytes := cX5_isClearable) (maxL := 3) (ret := (some .boolean)) 2 S.2.2.2.2 gX8_fault_X5_isClearable rfl rfl rfl (by decide +kernel) ⟨Nat.le_of_ble_eq_true rfl, Nat.le_of_ble_eq_true rfl⟩) (rfl : sh 2 = 5) rfl rfl rfl (by decide) rfl hl.1 rfl (Nat.le_of_ble_eq_true rfl) ⟨Nat.zero_le _, Nat.zero_le _⟩ dX8_fault_72 (fun v I1 L1 H locs hR G => ?_)
  obtain ⟨hv, hI, hL⟩ := hR
  subst hv
  have G : GS E I L sg H locs := G.same hI hL
  refine W.eq (g2 := F0 mg 75 ls [.int (if ¬ t 0 = 0 ∧ plcF t u 0 = 0 ∧ ¬ sv 2 ≤ absI (b 4) then 1 else 0)]) rfl ?_
  refine s_callS (As := [.int (if ¬ t 0 = 0 ∧ plcF t u 0 = 0 ∧ ¬ sv 2 ≤ absI (b 4) then 1 else 0)]) (rest := []) S hX G (k_X8_bit l E (if ¬ t 0 = 0 ∧ plcF t u 0 = 0 ∧ ¬ sv 2 ≤ absI (b 4) then 1 else 0) isb_ite) (va_cwS (bytes := cX8_bit) (maxL := 1) (ret := (some .int)) 1 S.2.2.2.2 gX8_fault_X8_bit rfl rfl rfl (by decide +kernel) ⟨Nat.le_of_ble_eq_true rfl, Nat.le_of_ble_eq_true rfl⟩) rfl hl.1 rfl (Nat.le_of_ble_eq_true rfl) ⟨Nat.zero_le _, Nat.zero_le _⟩ dX8_fault_75 (fun v I1 L1 H locs hR G => ?_)
  obtain ⟨hv, hI, hL⟩ := hR
  subst hv
  have G : GS E I L sg H locs := G.same hI hL
  refine W.eq (g2 := F0 mg 78 ls [.int (if ¬ t 0 = 0 ∧ plcF t u 0 = 0 ∧ ¬ sv 2 ≤ absI (b 4) then 1 else 0)]) rfl ?_
  refine s_iret (x := (if ¬ t 0 = 0 ∧ plcF t u 0 = 0 ∧ ¬ sv 2 ≤ absI (b 4) then 1 else 0)) S G hr hlk dX8_fault_78 ?_
  exact ⟨rfl, rfl, rfl⟩
set_option maxHeartbeats 4000000 in
set_option maxRecDepth 100000 in
theorem k_X8_fault_0_1_0 (l : Launch) (E : Ev) {I : SI} {L : SL} (t : Nat → Int32) (e_t : I (8) = t) : CS l yX8_fault wsX8_fault ({ frames := 3, cells := 0, slots := 0, locals := 63 }) E [.ref (E.2.2.2 0), .int (0 : Int32), .int (1 : Int32), .int (0 : Int32)] I L (fun vv I' L' => vv = some (.int (if ¬ t 1 = 0 then 1 else 0)) ∧ I' = I ∧ L' = L) := by
  refine CS.of (cc := cX8_fault) (maxL := 6) (ret := (some .int)) (by decide) rfl (Nat.le_of_ble_eq_true rfl) ?_
  intro pg en sg mg below meth cg ls S hr hlk hX G hl
  have S : CallFix pg mg cg cX8_fault 6 sg _ wsX8_fault RX8 := S
  have hl : lv_has ls 6 [(0, .ref (E.2.2.2 0)), (1, .int (0 : Int32)), (2, .int (1 : Int32)), (3, .int (0 : Int32))] := hl
  refine lv_iload_n S.1 S.2.1 dX8_fault_0 rfl (lv_at hl 1 rfl) ?_
  refine s_callS (As := [.int (0 : Int32)]) (rest := []) S hX G (k_X8_isLoad l E (0 : Int32)) (va_cwS (bytes := cX8_isLoad) (maxL := 1) (ret := (some .boolean)) 1 S.2.2.2.2 gX8_fault_X8_isLoad rfl rfl rfl (by decide +kernel) ⟨Nat.le_of_ble_eq_true rfl, Nat.le_of_ble_eq_true rfl⟩) rfl hl.1 rfl (Nat.le_of_ble_eq_true rfl) ⟨Nat.zero_le _, Nat.zero_le _⟩ dX8_fault_1 (fun v I1 L1 H locs hR G => ?_)
  obtain ⟨hv, hI, hL⟩ := hR
  subst hv
  have G : GS E I L sg H locs := G.same hI hL
  refine W.eq (g2 := F0 mg 4 ls [.int (if ¬ (0 : Int32) < (0 : Int32) ∧ ¬ (1 : Int32) < (0 : Int32) then 1 else 0)]) rfl ?_
  refine s_if_eq_b (P := ¬ (0 : Int32) < (0 : Int32) ∧ ¬ (1 : Int32) < (0 : Int32)) (tgt := 23) S dX8_fault_4 (by decide) (fun h => absurd (by decide) h) (fun _ => ?_)
  refine lv_iload_n S.1 S.2.1 dX8_fault_7 rfl (lv_at hl 2 rfl) ?_
  refine s_callS (As := [.int (1 : Int32)]) (rest := []) S hX G (k_X8_isFault l E (1 : Int32)) (va_cwS (bytes := cX8_isFault) (maxL := 1) (ret := (some .boolean)) 1 S.2.2.2.2 gX8_fault_X8_isFault rfl rfl rfl (by decide +kernel) ⟨Nat.le_of_ble_eq_true rfl, Nat.le_of_ble_eq_true rfl⟩) rfl hl.1 rfl (Nat.le_of_ble_eq_true rfl) ⟨Nat.zero_le _, Nat.zero_le _⟩ dX8_fault_8 (fun v I1 L1 H locs hR G => ?_)
  obtain ⟨hv, hI, hL⟩ := hR
  subst hv
  have G : GS E I L sg H locs := G.same hI hL
  refine W.eq (g2 := F0 mg 11 ls [.int (if ¬ (1 : Int32) < (0 : Int32) ∧ ¬ (2 : Int32) < (1 : Int32) then 1 else 0)]) rfl ?_
  refine s_if_eq_b (P := ¬ (1 : Int32) < (0 : Int32) ∧ ¬ (2 : Int32) < (1 : Int32)) (tgt := 23) S dX8_fault_11 (by decide) (fun h => absurd (by decide) h) (fun _ => ?_)
  refine lv_iload_n S.1 S.2.1 dX8_fault_14 rfl (lv_at hl 3 rfl) ?_
  refine lv_iconst (v := (0 : Int32)) S.1 S.2.1 dX8_fault_15 (by decide) ?_
  refine lv_iconst (v := (4 : Int32)) S.1 S.2.1 dX8_fault_16 (by decide) ?_
  refine s_callS (As := [.int (0 : Int32), .int (0 : Int32), .int (4 : Int32)]) (rest := []) S hX G (k_X8_isWithin l E (0 : Int32) (0 : Int32) (4 : Int32)) (va_cwS (bytes := cX8_isWithin) (maxL := 3) (ret := (some .boolean)) 3 S.2.2.2.2 gX8_fault_X8_isWithin rfl rfl rfl (by decide +kernel) ⟨Nat.le_of_ble_eq_true rfl, Nat.le_of_ble_eq_true rfl⟩) rfl hl.1 rfl (Nat.le_of_ble_eq_true rfl) ⟨Nat.zero_le _, Nat.zero_le _⟩ dX8_fault_17 (fun v I1 L1 H locs hR G => ?_)
  obtain ⟨hv, hI, hL⟩ := hR
  subst hv
  have G : GS E I L sg H locs := G.same hI hL
  refine W.eq (g2 := F0 mg 20 ls [.int (if ¬ (0 : Int32) < (0 : Int32) ∧ ¬ (4 : Int32) < (0 : Int32) then 1 else 0)]) rfl ?_
  refine s_if_ne_b (P := ¬ (0 : Int32) < (0 : Int32) ∧ ¬ (4 : Int32) < (0 : Int32)) (tgt := 26) S dX8_fault_20 (by decide) (fun _ => ?_) (fun h => absurd (by decide) h)
  refine lv_aload_n S.1 S.2.1 dX8_fault_26 rfl (lv_at hl 0 rfl) ?_
  refine s_get S hX G (i := 0) (kd := 8) (a := (I 0)) (v := .ref (E.2.2.2 1)) (C := RX8) (T := TX8) (N := 4) 0 (rfl : sh 0 = 8) rfl rfl rfl (by decide) rfl (fun _ h => (List.mem_cons_of_mem _ (List.mem_append_left _ (List.mem_append_left _ (List.mem_append_left _ (List.mem_append_left _ (List.mem_append_right _ h))))))) (by decide) (List.mem_of_getElem? (i := 2) rfl) (fun _ h => h) dX8_fault_27 ?_
  refine lv_iload_n S.1 S.2.1 dX8_fault_30 rfl (lv_at hl 1 rfl) ?_
  refine s_callV (C := RX0) (As := [.int (0 : Int32)]) (rest := []) (i := 1) (kd := 0) S hX G (k_X0_loadAt_0 l E 1 (by unfold IsB; decide)) (cwV (bytes := cX0_loadAt) (maxL := 2) (ret := (some (.object "BridgeLegs$Load"))) 1 S.2.2.2.2 gX8_fault_X0_loadAt rfl rfl rfl (by decide +kernel) ⟨Nat.le_of_ble_eq_true rfl, Nat.le_of_ble_eq_true rfl⟩) (rfl : sh 1 = 0) rfl rfl rfl (by decide) rfl hl.1 rfl (Nat.le_of_ble_eq_true rfl) ⟨Nat.zero_le _, Nat.zero_le _⟩ dX8_fault_31 (fun v I1 L1 H locs hR G => ?_)
  obtain ⟨hv, hI, hL⟩ := hR
  subst hv
  have G : GS E I L sg H locs := G.same hI hL
  refine W.eq (g2 := F0 mg 34 ls [.ref (E.2.2.2 2)]) rfl ?_
  refine lv_astore (lv' := [(4, .ref (E.2.2.2 2)), (0, .ref (E.2.2.2 0)), (1, .int (0 : Int32)), (2, .int (1 : Int32)), (3, .int (0 : Int32))]) S.1 S.2.1 dX8_fault_34 hl (by decide) rfl (fun ls hl => ?_)
  refine lv_aload S.1 S.2.1 dX8_fault_36 (lv_at hl 0 rfl) ?_
  refine s_getN S hX G (i := 2) (kd := 5) (a := (I 2)) (v := .ref (E.2.2.2 7)) (C := RX5) (T := TX5) (N := 13) 3 (rfl : sh 2 = 5) rfl rfl rfl (by decide) rfl (fun _ h => (List.mem_cons_of_mem _ (List.mem_append_left _ (List.mem_append_left _ (List.mem_append_left _ (List.mem_append_right _ h)))))) (by decide) (List.mem_of_getElem? (i := 19) rfl) (fun _ h => h) dX8_fault_38 ?_
  refine lv_iload_n S.1 S.2.1 dX8_fault_41 rfl (lv_at hl 3 rfl) ?_
  refine s_callV (C := RX3) (As := [.int (1 : Int32)]) (rest := []) (i := 7) (kd := 3) S hX G (k_X3_isLatched_1 l E 7 t (rfl : sh 7 = 3) (rfl : sh 8 = 10) (rfl : sh 9 = 17) (rfl : sh 10 = 17) e_t) (cwV (bytes := cX3_isLatched) (maxL := 2) (ret := (some .boolean)) 1 S.2.2.2.2 gX8_fault_X3_isLatched rfl rfl rfl (by decide +kernel) ⟨Nat.le_of_ble_eq_true rfl, Nat.le_of_ble_eq_true rfl⟩) (rfl : sh 7 = 3) rfl rfl rfl (by decide) rfl hl.1 rfl (Nat.le_of_ble_eq_true rfl) ⟨Nat.zero_le _, Nat.zero_le _⟩ dX8_fault_42 (fun v I1 L1 H locs hR G => ?_)
  obtain ⟨hv, hI, hL⟩ := hR
  subst hv
  have G : GS E I L sg H locs := G.same hI hL
  refine W.eq (g2 := F0 mg 45 ls [.int (if ¬ t 1 = 0 then 1 else 0)]) rfl ?_
  refine lv_istore (lv' := [(5, .int (if ¬ t 1 = 0 then 1 else 0)), (4, .ref (E.2.2.2 2)), (0, .ref (E.2.2.2 0)), (1, .int (0 : Int32)), (2, .int (1 : Int32)), (3, .int (0 : Int32))]) S.1 S.2.1 dX8_fault_45 hl (by decide) rfl (fun ls hl => ?_)
  refine lv_iload_n S.1 S.2.1 dX8_fault_47 rfl (lv_at hl 5 rfl) ?_
  refine lv_if_ne (tgt := 57) S.1 S.2.1 dX8_fault_48 (by decide) (fun h => absurd (by decide) h) (fun _ => ?_)
  refine lv_iload S.1 S.2.1 dX8_fault_51 (lv_at hl 0 rfl) ?_
  refine s_callS (As := [.int (if ¬ t 1 = 0 then 1 else 0)]) (rest := []) S hX G (k_X8_bit l E (if ¬ t 1 = 0 then 1 else 0) isb_ite) (va_cwS (bytes := cX8_bit) (maxL := 1) (ret := (some .int)) 1 S.2.2.2.2 gX8_fault_X8_bit rfl rfl rfl (by decide +kernel) ⟨Nat.le_of_ble_eq_true rfl, Nat.le_of_ble_eq_true rfl⟩) rfl hl.1 rfl (Nat.le_of_ble_eq_true rfl) ⟨Nat.zero_le _, Nat.zero_le _⟩ dX8_fault_53 (fun v I1 L1 H locs hR G => ?_)
  obtain ⟨hv, hI, hL⟩ := hR
  subst hv
  have G : GS E I L sg H locs := G.same hI hL
  refine W.eq (g2 := F0 mg 56 ls [.int (if ¬ t 1 = 0 then 1 else 0)]) rfl ?_
  refine s_iret (x := (if ¬ t 1 = 0 then 1 else 0)) S G hr hlk dX8_fault_56 ?_
  exact ⟨rfl, rfl, rfl⟩
set_option maxHeartbeats 4000000 in
set_option maxRecDepth 100000 in
theorem k_X8_fault_0_1_1 (l : Launch) (E : Ev) {I : SI} {L : SL} (t : Nat → Int32) (u : Nat → Int32) (e_t : I (8) = t) (e_u : I (9) = u) : CS l yX8_fault wsX8_fault ({ frames := 3, cells := 0, slots := 0, locals := 63 }) E [.ref (E.2.2.2 0), .int (0 : Int32), .int (1 : Int32), .int (1 : Int32)] I L (fun vv I' L' => vv = some (.int (if ¬ t 1 = 0 then u 1 else (-2000000004 : Int32))) ∧ I' = I ∧ L' = L) := by
  refine CS.of (cc := cX8_fault) (maxL := 6) (ret := (some .int)) (by decide) rfl (Nat.le_of_ble_eq_true rfl) ?_
  intro pg en sg mg below meth cg ls S hr hlk hX G hl
  have S : CallFix pg mg cg cX8_fault 6 sg _ wsX8_fault RX8 := S
  have hl : lv_has ls 6 [(0, .ref (E.2.2.2 0)), (1, .int (0 : Int32)), (2, .int (1 : Int32)), (3, .int (1 : Int32))] := hl
  refine lv_iload_n S.1 S.2.1 dX8_fault_0 rfl (lv_at hl 1 rfl) ?_
  refine s_callS (As := [.int (0 : Int32)]) (rest := []) S hX G (k_X8_isLoad l E (0 : Int32)) (va_cwS (bytes := cX8_isLoad) (maxL := 1) (ret := (some .boolean)) 1 S.2.2.2.2 gX8_fault_X8_isLoad rfl rfl rfl (by decide +kernel) ⟨Nat.le_of_ble_eq_true rfl, Nat.le_of_ble_eq_true rfl⟩) rfl hl.1 rfl (Nat.le_of_ble_eq_true rfl) ⟨Nat.zero_le _, Nat.zero_le _⟩ dX8_fault_1 (fun v I1 L1 H locs hR G => ?_)
  obtain ⟨hv, hI, hL⟩ := hR
  subst hv
  have G : GS E I L sg H locs := G.same hI hL
  refine W.eq (g2 := F0 mg 4 ls [.int (if ¬ (0 : Int32) < (0 : Int32) ∧ ¬ (1 : Int32) < (0 : Int32) then 1 else 0)]) rfl ?_
  refine s_if_eq_b (P := ¬ (0 : Int32) < (0 : Int32) ∧ ¬ (1 : Int32) < (0 : Int32)) (tgt := 23) S dX8_fault_4 (by decide) (fun h => absurd (by decide) h) (fun _ => ?_)
  refine lv_iload_n S.1 S.2.1 dX8_fault_7 rfl (lv_at hl 2 rfl) ?_
  refine s_callS (As := [.int (1 : Int32)]) (rest := []) S hX G (k_X8_isFault l E (1 : Int32)) (va_cwS (bytes := cX8_isFault) (maxL := 1) (ret := (some .boolean)) 1 S.2.2.2.2 gX8_fault_X8_isFault rfl rfl rfl (by decide +kernel) ⟨Nat.le_of_ble_eq_true rfl, Nat.le_of_ble_eq_true rfl⟩) rfl hl.1 rfl (Nat.le_of_ble_eq_true rfl) ⟨Nat.zero_le _, Nat.zero_le _⟩ dX8_fault_8 (fun v I1 L1 H locs hR G => ?_)
  obtain ⟨hv, hI, hL⟩ := hR
  subst hv
  have G : GS E I L sg H locs := G.same hI hL
  refine W.eq (g2 := F0 mg 11 ls [.int (if ¬ (1 : Int32) < (0 : Int32) ∧ ¬ (2 : Int32) < (1 : Int32) then 1 else 0)]) rfl ?_
  refine s_if_eq_b (P := ¬ (1 : Int32) < (0 : Int32) ∧ ¬ (2 : Int32) < (1 : Int32)) (tgt := 23) S dX8_fault_11 (by decide) (fun h => absurd (by decide) h) (fun _ => ?_)
  refine lv_iload_n S.1 S.2.1 dX8_fault_14 rfl (lv_at hl 3 rfl) ?_
  refine lv_iconst (v := (0 : Int32)) S.1 S.2.1 dX8_fault_15 (by decide) ?_
  refine lv_iconst (v := (4 : Int32)) S.1 S.2.1 dX8_fault_16 (by decide) ?_
  refine s_callS (As := [.int (1 : Int32), .int (0 : Int32), .int (4 : Int32)]) (rest := []) S hX G (k_X8_isWithin l E (1 : Int32) (0 : Int32) (4 : Int32)) (va_cwS (bytes := cX8_isWithin) (maxL := 3) (ret := (some .boolean)) 3 S.2.2.2.2 gX8_fault_X8_isWithin rfl rfl rfl (by decide +kernel) ⟨Nat.le_of_ble_eq_true rfl, Nat.le_of_ble_eq_true rfl⟩) rfl hl.1 rfl (Nat.le_of_ble_eq_true rfl) ⟨Nat.zero_le _, Nat.zero_le _⟩ dX8_fault_17 (fun v I1 L1 H locs hR G => ?_)
  obtain ⟨hv, hI, hL⟩ := hR
  subst hv
  have G : GS E I L sg H locs := G.same hI hL
  refine W.eq (g2 := F0 mg 20 ls [.int (if ¬ (1 : Int32) < (0 : Int32) ∧ ¬ (4 : Int32) < (1 : Int32) then 1 else 0)]) rfl ?_
  refine s_if_ne_b (P := ¬ (1 : Int32) < (0 : Int32) ∧ ¬ (4 : Int32) < (1 : Int32)) (tgt := 26) S dX8_fault_20 (by decide) (fun _ => ?_) (fun h => absurd (by decide) h)
  refine lv_aload_n S.1 S.2.1 dX8_fault_26 rfl (lv_at hl 0 rfl) ?_
  refine s_get S hX G (i := 0) (kd := 8) (a := (I 0)) (v := .ref (E.2.2.2 1)) (C := RX8) (T := TX8) (N := 4) 0 (rfl : sh 0 = 8) rfl rfl rfl (by decide) rfl (fun _ h => (List.mem_cons_of_mem _ (List.mem_append_left _ (List.mem_append_left _ (List.mem_append_left _ (List.mem_append_left _ (List.mem_append_right _ h))))))) (by decide) (List.mem_of_getElem? (i := 2) rfl) (fun _ h => h) dX8_fault_27 ?_
  refine lv_iload_n S.1 S.2.1 dX8_fault_30 rfl (lv_at hl 1 rfl) ?_
  refine s_callV (C := RX0) (As := [.int (0 : Int32)]) (rest := []) (i := 1) (kd := 0) S hX G (k_X0_loadAt_0 l E 1 (by unfold IsB; decide)) (cwV (bytes := cX0_loadAt) (maxL := 2) (ret := (some (.object "BridgeLegs$Load"))) 1 S.2.2.2.2 gX8_fault_X0_loadAt rfl rfl rfl (by decide +kernel) ⟨Nat.le_of_ble_eq_true rfl, Nat.le_of_ble_eq_true rfl⟩) (rfl : sh 1 = 0) rfl rfl rfl (by decide) rfl hl.1 rfl (Nat.le_of_ble_eq_true rfl) ⟨Nat.zero_le _, Nat.zero_le _⟩ dX8_fault_31 (fun v I1 L1 H locs hR G => ?_)
  obtain ⟨hv, hI, hL⟩ := hR
  subst hv
  have G : GS E I L sg H locs := G.same hI hL
  refine W.eq (g2 := F0 mg 34 ls [.ref (E.2.2.2 2)]) rfl ?_
  refine lv_astore (lv' := [(4, .ref (E.2.2.2 2)), (0, .ref (E.2.2.2 0)), (1, .int (0 : Int32)), (2, .int (1 : Int32)), (3, .int (1 : Int32))]) S.1 S.2.1 dX8_fault_34 hl (by decide) rfl (fun ls hl => ?_)
  refine lv_aload S.1 S.2.1 dX8_fault_36 (lv_at hl 0 rfl) ?_
  refine s_getN S hX G (i := 2) (kd := 5) (a := (I 2)) (v := .ref (E.2.2.2 7)) (C := RX5) (T := TX5) (N := 13) 3 (rfl : sh 2 = 5) rfl rfl rfl (by decide) rfl (fun _ h => (List.mem_cons_of_mem _ (List.mem_append_left _ (List.mem_append_left _ (List.mem_append_left _ (List.mem_append_right _ h)))))) (by decide) (List.mem_of_getElem? (i := 19) rfl) (fun _ h => h) dX8_fault_38 ?_
  refine lv_iload_n S.1 S.2.1 dX8_fault_41 rfl (lv_at hl 3 rfl) ?_
  refine s_callV (C := RX3) (As := [.int (1 : Int32)]) (rest := []) (i := 7) (kd := 3) S hX G (k_X3_isLatched_1 l E 7 t (rfl : sh 7 = 3) (rfl : sh 8 = 10) (rfl : sh 9 = 17) (rfl : sh 10 = 17) e_t) (cwV (bytes := cX3_isLatched) (maxL := 2) (ret := (some .boolean)) 1 S.2.2.2.2 gX8_fault_X3_isLatched rfl rfl rfl (by decide +kernel) ⟨Nat.le_of_ble_eq_true rfl, Nat.le_of_ble_eq_true rfl⟩) (rfl : sh 7 = 3) rfl rfl rfl (by decide) rfl hl.1 rfl (Nat.le_of_ble_eq_true rfl) ⟨Nat.zero_le _, Nat.zero_le _⟩ dX8_fault_42 (fun v I1 L1 H locs hR G => ?_)
  obtain ⟨hv, hI, hL⟩ := hR
  subst hv
  have G : GS E I L sg H locs := G.same hI hL
  refine W.eq (g2 := F0 mg 45 ls [.int (if ¬ t 1 = 0 then 1 else 0)]) rfl ?_
  refine lv_istore (lv' := [(5, .int (if ¬ t 1 = 0 then 1 else 0)), (4, .ref (E.2.2.2 2)), (0, .ref (E.2.2.2 0)), (1, .int (0 : Int32)), (2, .int (1 : Int32)), (3, .int (1 : Int32))]) S.1 S.2.1 dX8_fault_45 hl (by decide) rfl (fun ls hl => ?_)
  refine lv_iload_n S.1 S.2.1 dX8_fault_47 rfl (lv_at hl 5 rfl) ?_
  refine lv_if_ne (tgt := 57) S.1 S.2.1 dX8_fault_48 (by decide) (fun _ => ?_) (fun h => absurd h (by decide))
  refine lv_iload_n S.1 S.2.1 dX8_fault_57 rfl (lv_at hl 5 rfl) ?_
  refine lv_iconst (v := (4 : Int32)) S.1 S.2.1 dX8_fault_58 (by decide) ?_
  refine lv_icmp_ne (tgt := 79) S.1 S.2.1 dX8_fault_59 (by decide) (fun _ => ?_) (fun h => absurd h (by decide))
  refine lv_iload S.1 S.2.1 dX8_fault_79 (lv_at hl 0 rfl) ?_
  refine s_if_ne_b (P := ¬ t 1 = 0) (tgt := 87) S dX8_fault_81 (by decide) (fun c_1 => ?_) (fun c_1 => ?_)
  · refine lv_iload_n S.1 S.2.1 dX8_fault_87 rfl (lv_at hl 5 rfl) ?_
    refine lv_lookup (off := 28) (tgt := 116) S.1 S.2.1 dX8_fault_88 (by decide) (by decide) (by decide) ?_
    refine lv_aload S.1 S.2.1 dX8_fault_116 (lv_at hl 1 rfl) ?_
    refine s_getN S hX G (i := 2) (kd := 5) (a := (I 2)) (v := .ref (E.2.2.2 7)) (C := RX5) (T := TX5) (N := 13) 3 (rfl : sh 2 = 5) rfl rfl rfl (by decide) rfl (fun _ h => (List.mem_cons_of_mem _ (List.mem_append_left _ (List.mem_append_left _ (List.mem_append_left _ (List.mem_append_right _ h)))))) (by decide) (List.mem_of_getElem? (i := 19) rfl) (fun _ h => h) dX8_fault_118 ?_
    refine lv_iload_n S.1 S.2.1 dX8_fault_121 rfl (lv_at hl 4 rfl) ?_
    refine s_callV (C := RX3) (As := [.int (1 : Int32)]) (rest := []) (i := 7) (kd := 3) S hX G (k_X3_slotOf_1 l E 7 u (rfl : sh 7 = 3) (rfl : sh 8 = 10) (rfl : sh 9 = 17) (rfl : sh 10 = 17) e_u) (cwV (bytes := cX3_slotOf) (maxL := 2) (ret := (some .int)) 1 S.2.2.2.2 gX8_fault_X3_slotOf rfl rfl rfl (by decide +kernel) ⟨Nat.le_of_ble_eq_true rfl, Nat.le_of_ble_eq_true rfl⟩) (rfl : sh 7 = 3) rfl rfl rfl (by decide) rfl hl.1 rfl (Nat.le_of_ble_eq_true rfl) ⟨Nat.zero_le _, Nat.zero_le _⟩ dX8_fault_122 (fun v I1 L1 H locs hR G => ?_)
    obtain ⟨hv, hI, hL⟩ := hR
    subst hv
    have G : GS E I L sg H locs := G.same hI hL
    refine W.eq (g2 := F0 mg 125 ls [.int (u 1)]) rfl ?_
    refine s_iret (x := (u 1)) S G hr hlk dX8_fault_125 ?_
    exact ⟨(congrArg (fun q : Int32 => some (Value.int q)) (show (u 1) = (if ¬ t 1 = 0 then u 1 else (-2000000004 : Int32)) by first | rfl | exact (if_pos c_1).symm | exact (if_neg c_1).symm)), rfl, rfl⟩
  · refine lv_ldc (v := (-2000000004 : Int32)) S.1 S.2.1 S.2.2.2.1 (S.2.2.2.2 _ (List.mem_of_getElem? (i := 3) rfl)) dX8_fault_84 ?_
    refine s_iret (x := (-2000000004 : Int32)) S G hr hlk dX8_fault_86 ?_
    exact ⟨(congrArg (fun q : Int32 => some (Value.int q)) (show (-2000000004 : Int32) = (if ¬ t 1 = 0 then u 1 else (-2000000004 : Int32)) by first | rfl | exact (if_pos c_1).symm | exact (if_neg c_1).symm)), rfl, rfl⟩
set_option maxHeartbeats 4000000 in
set_option maxRecDepth 100000 in
theorem k_X8_fault_0_1_3 (l : Launch) (E : Ev) {I : SI} {L : SL} (t : Nat → Int32) (u : Nat → Int32) (e_t : I (8) = t) (e_u : I (9) = u) : CS l yX8_fault wsX8_fault ({ frames := 4, cells := 0, slots := 0, locals := 88 }) E [.ref (E.2.2.2 0), .int (0 : Int32), .int (1 : Int32), .int (3 : Int32)] I L (fun vv I' L' => vv = some (.int (if ¬ t 1 = 0 then plcF t u 1 else (-2000000004 : Int32))) ∧ I' = I ∧ L' = L) := by
  refine CS.of (cc := cX8_fault) (maxL := 6) (ret := (some .int)) (by decide) rfl (Nat.le_of_ble_eq_true rfl) ?_
  intro pg en sg mg below meth cg ls S hr hlk hX G hl
  have S : CallFix pg mg cg cX8_fault 6 sg _ wsX8_fault RX8 := S
  have hl : lv_has ls 6 [(0, .ref (E.2.2.2 0)), (1, .int (0 : Int32)), (2, .int (1 : Int32)), (3, .int (3 : Int32))] := hl
  refine lv_iload_n S.1 S.2.1 dX8_fault_0 rfl (lv_at hl 1 rfl) ?_
  refine s_callS (As := [.int (0 : Int32)]) (rest := []) S hX G (k_X8_isLoad l E (0 : Int32)) (va_cwS (bytes := cX8_isLoad) (maxL := 1) (ret := (some .boolean)) 1 S.2.2.2.2 gX8_fault_X8_isLoad rfl rfl rfl (by decide +kernel) ⟨Nat.le_of_ble_eq_true rfl, Nat.le_of_ble_eq_true rfl⟩) rfl hl.1 rfl (Nat.le_of_ble_eq_true rfl) ⟨Nat.zero_le _, Nat.zero_le _⟩ dX8_fault_1 (fun v I1 L1 H locs hR G => ?_)
  obtain ⟨hv, hI, hL⟩ := hR
  subst hv
  have G : GS E I L sg H locs := G.same hI hL
  refine W.eq (g2 := F0 mg 4 ls [.int (if ¬ (0 : Int32) < (0 : Int32) ∧ ¬ (1 : Int32) < (0 : Int32) then 1 else 0)]) rfl ?_
  refine s_if_eq_b (P := ¬ (0 : Int32) < (0 : Int32) ∧ ¬ (1 : Int32) < (0 : Int32)) (tgt := 23) S dX8_fault_4 (by decide) (fun h => absurd (by decide) h) (fun _ => ?_)
  refine lv_iload_n S.1 S.2.1 dX8_fault_7 rfl (lv_at hl 2 rfl) ?_
  refine s_callS (As := [.int (1 : Int32)]) (rest := []) S hX G (k_X8_isFault l E (1 : Int32)) (va_cwS (bytes := cX8_isFault) (maxL := 1) (ret := (some .boolean)) 1 S.2.2.2.2 gX8_fault_X8_isFault rfl rfl rfl (by decide +kernel) ⟨Nat.le_of_ble_eq_true rfl, Nat.le_of_ble_eq_true rfl⟩) rfl hl.1 rfl (Nat.le_of_ble_eq_true rfl) ⟨Nat.zero_le _, Nat.zero_le _⟩ dX8_fault_8 (fun v I1 L1 H locs hR G => ?_)
  obtain ⟨hv, hI, hL⟩ := hR
  subst hv
  have G : GS E I L sg H locs := G.same hI hL
  refine W.eq (g2 := F0 mg 11 ls [.int (if ¬ (1 : Int32) < (0 : Int32) ∧ ¬ (2 : Int32) < (1 : Int32) then 1 else 0)]) rfl ?_
  refine s_if_eq_b (P := ¬ (1 : Int32) < (0 : Int32) ∧ ¬ (2 : Int32) < (1 : Int32)) (tgt := 23) S dX8_fault_11 (by decide) (fun h => absurd (by decide) h) (fun _ => ?_)
  refine lv_iload_n S.1 S.2.1 dX8_fault_14 rfl (lv_at hl 3 rfl) ?_
  refine lv_iconst (v := (0 : Int32)) S.1 S.2.1 dX8_fault_15 (by decide) ?_
  refine lv_iconst (v := (4 : Int32)) S.1 S.2.1 dX8_fault_16 (by decide) ?_
  refine s_callS (As := [.int (3 : Int32), .int (0 : Int32), .int (4 : Int32)]) (rest := []) S hX G (k_X8_isWithin l E (3 : Int32) (0 : Int32) (4 : Int32)) (va_cwS (bytes := cX8_isWithin) (maxL := 3) (ret := (some .boolean)) 3 S.2.2.2.2 gX8_fault_X8_isWithin rfl rfl rfl (by decide +kernel) ⟨Nat.le_of_ble_eq_true rfl, Nat.le_of_ble_eq_true rfl⟩) rfl hl.1 rfl (Nat.le_of_ble_eq_true rfl) ⟨Nat.zero_le _, Nat.zero_le _⟩ dX8_fault_17 (fun v I1 L1 H locs hR G => ?_)
  obtain ⟨hv, hI, hL⟩ := hR
  subst hv
  have G : GS E I L sg H locs := G.same hI hL
  refine W.eq (g2 := F0 mg 20 ls [.int (if ¬ (3 : Int32) < (0 : Int32) ∧ ¬ (4 : Int32) < (3 : Int32) then 1 else 0)]) rfl ?_
  refine s_if_ne_b (P := ¬ (3 : Int32) < (0 : Int32) ∧ ¬ (4 : Int32) < (3 : Int32)) (tgt := 26) S dX8_fault_20 (by decide) (fun _ => ?_) (fun h => absurd (by decide) h)
  refine lv_aload_n S.1 S.2.1 dX8_fault_26 rfl (lv_at hl 0 rfl) ?_
  refine s_get S hX G (i := 0) (kd := 8) (a := (I 0)) (v := .ref (E.2.2.2 1)) (C := RX8) (T := TX8) (N := 4) 0 (rfl : sh 0 = 8) rfl rfl rfl (by decide) rfl (fun _ h => (List.mem_cons_of_mem _ (List.mem_append_left _ (List.mem_append_left _ (List.mem_append_left _ (List.mem_append_left _ (List.mem_append_right _ h))))))) (by decide) (List.mem_of_getElem? (i := 2) rfl) (fun _ h => h) dX8_fault_27 ?_
  refine lv_iload_n S.1 S.2.1 dX8_fault_30 rfl (lv_at hl 1 rfl) ?_
  refine s_callV (C := RX0) (As := [.int (0 : Int32)]) (rest := []) (i := 1) (kd := 0) S hX G (k_X0_loadAt_0 l E 1 (by unfold IsB; decide)) (cwV (bytes := cX0_loadAt) (maxL := 2) (ret := (some (.object "BridgeLegs$Load"))) 1 S.2.2.2.2 gX8_fault_X0_loadAt rfl rfl rfl (by decide +kernel) ⟨Nat.le_of_ble_eq_true rfl, Nat.le_of_ble_eq_true rfl⟩) (rfl : sh 1 = 0) rfl rfl rfl (by decide) rfl hl.1 rfl (Nat.le_of_ble_eq_true rfl) ⟨Nat.zero_le _, Nat.zero_le _⟩ dX8_fault_31 (fun v I1 L1 H locs hR G => ?_)
  obtain ⟨hv, hI, hL⟩ := hR
  subst hv
  have G : GS E I L sg H locs := G.same hI hL
  refine W.eq (g2 := F0 mg 34 ls [.ref (E.2.2.2 2)]) rfl ?_
  refine lv_astore (lv' := [(4, .ref (E.2.2.2 2)), (0, .ref (E.2.2.2 0)), (1, .int (0 : Int32)), (2, .int (1 : Int32)), (3, .int (3 : Int32))]) S.1 S.2.1 dX8_fault_34 hl (by decide) rfl (fun ls hl => ?_)
  refine lv_aload S.1 S.2.1 dX8_fault_36 (lv_at hl 0 rfl) ?_
  refine s_getN S hX G (i := 2) (kd := 5) (a := (I 2)) (v := .ref (E.2.2.2 7)) (C := RX5) (T := TX5) (N := 13) 3 (rfl : sh 2 = 5) rfl rfl rfl (by decide) rfl (fun _ h => (List.mem_cons_of_mem _ (List.mem_append_left _ (List.mem_append_left _ (List.mem_append_left _ (List.mem_append_right _ h)))))) (by decide) (List.mem_of_getElem? (i := 19) rfl) (fun _ h => h) dX8_fault_38 ?_
  refine lv_iload_n S.1 S.2.1 dX8_fault_41 rfl (lv_at hl 3 rfl) ?_
  refine s_callV (C := RX3) (As := [.int (1 : Int32)]) (rest := []) (i := 7) (kd := 3) S hX G (k_X3_isLatched_1 l E 7 t (rfl : sh 7 = 3) (rfl : sh 8 = 10) (rfl : sh 9 = 17) (rfl : sh 10 = 17) e_t) (cwV (bytes := cX3_isLatched) (maxL := 2) (ret := (some .boolean)) 1 S.2.2.2.2 gX8_fault_X3_isLatched rfl rfl rfl (by decide +kernel) ⟨Nat.le_of_ble_eq_true rfl, Nat.le_of_ble_eq_true rfl⟩) (rfl : sh 7 = 3) rfl rfl rfl (by decide) rfl hl.1 rfl (Nat.le_of_ble_eq_true rfl) ⟨Nat.zero_le _, Nat.zero_le _⟩ dX8_fault_42 (fun v I1 L1 H locs hR G => ?_)
  obtain ⟨hv, hI, hL⟩ := hR
  subst hv
  have G : GS E I L sg H locs := G.same hI hL
  refine W.eq (g2 := F0 mg 45 ls [.int (if ¬ t 1 = 0 then 1 else 0)]) rfl ?_
  refine lv_istore (lv' := [(5, .int (if ¬ t 1 = 0 then 1 else 0)), (4, .ref (E.2.2.2 2)), (0, .ref (E.2.2.2 0)), (1, .int (0 : Int32)), (2, .int (1 : Int32)), (3, .int (3 : Int32))]) S.1 S.2.1 dX8_fault_45 hl (by decide) rfl (fun ls hl => ?_)
  refine lv_iload_n S.1 S.2.1 dX8_fault_47 rfl (lv_at hl 5 rfl) ?_
  refine lv_if_ne (tgt := 57) S.1 S.2.1 dX8_fault_48 (by decide) (fun _ => ?_) (fun h => absurd h (by decide))
  refine lv_iload_n S.1 S.2.1 dX8_fault_57 rfl (lv_at hl 5 rfl) ?_
  refine lv_iconst (v := (4 : Int32)) S.1 S.2.1 dX8_fault_58 (by decide) ?_
  refine lv_icmp_ne (tgt := 79) S.1 S.2.1 dX8_fault_59 (by decide) (fun _ => ?_) (fun h => absurd h (by decide))
  refine lv_iload S.1 S.2.1 dX8_fault_79 (lv_at hl 0 rfl) ?_
  refine s_if_ne_b (P := ¬ t 1 = 0) (tgt := 87) S dX8_fault_81 (by decide) (fun c_1 => ?_) (fun c_1 => ?_)
  · refine lv_iload_n S.1 S.2.1 dX8_fault_87 rfl (lv_at hl 5 rfl) ?_
    refine lv_lookup (off := 48) (tgt := 136) S.1 S.2.1 dX8_fault_88 (by decide) (by decide) (by decide) ?_
    refine lv_aload S.1 S.2.1 dX8_fault_136 (lv_at hl 1 rfl) ?_
    refine s_getN S hX G (i := 2) (kd := 5) (a := (I 2)) (v := .ref (E.2.2.2 7)) (C := RX5) (T := TX5) (N := 13) 3 (rfl : sh 2 = 5) rfl rfl rfl (by decide) rfl (fun _ h => (List.mem_cons_of_mem _ (List.mem_append_left _ (List.mem_append_left _ (List.mem_append_left _ (List.mem_append_right _ h)))))) (by decide) (List.mem_of_getElem? (i := 19) rfl) (fun _ h => h) dX8_fault_138 ?_
    refine lv_iload_n S.1 S.2.1 dX8_fault_141 rfl (lv_at hl 4 rfl) ?_
    refine s_callV (C := RX3) (As := [.int (1 : Int32)]) (rest := []) (i := 7) (kd := 3) S hX G (k_X3_placeOf_1 l E 7 t u (rfl : sh 7 = 3) (rfl : sh 8 = 10) (rfl : sh 9 = 17) (rfl : sh 10 = 17) e_t e_u) (cwV (bytes := cX3_placeOf) (maxL := 6) (ret := (some .int)) 1 S.2.2.2.2 gX8_fault_X3_placeOf rfl rfl rfl (by decide +kernel) ⟨Nat.le_of_ble_eq_true rfl, Nat.le_of_ble_eq_true rfl⟩) (rfl : sh 7 = 3) rfl rfl rfl (by decide) rfl hl.1 rfl (Nat.le_of_ble_eq_true rfl) ⟨Nat.zero_le _, Nat.zero_le _⟩ dX8_fault_142 (fun v I1 L1 H locs hR G => ?_)
    obtain ⟨hv, hI, hL⟩ := hR
    subst hv
    have G : GS E I L sg H locs := G.same hI hL
    refine W.eq (g2 := F0 mg 145 ls [.int (plcF t u 1)]) rfl ?_
    refine lv_topi (fun y_2 ey_2 => ?_)
    refine s_iret (x := y_2) S G hr hlk dX8_fault_145 ?_
    exact ⟨(congrArg (fun q : Int32 => some (Value.int q)) (show y_2 = (if ¬ t 1 = 0 then plcF t u 1 else (-2000000004 : Int32)) by subst ey_2; (first | rfl | exact (if_pos c_1).symm | exact (if_neg c_1).symm))), rfl, rfl⟩
  · refine lv_ldc (v := (-2000000004 : Int32)) S.1 S.2.1 S.2.2.2.1 (S.2.2.2.2 _ (List.mem_of_getElem? (i := 3) rfl)) dX8_fault_84 ?_
    refine s_iret (x := (-2000000004 : Int32)) S G hr hlk dX8_fault_86 ?_
    exact ⟨(congrArg (fun q : Int32 => some (Value.int q)) (show (-2000000004 : Int32) = (if ¬ t 1 = 0 then plcF t u 1 else (-2000000004 : Int32)) by first | rfl | exact (if_pos c_1).symm | exact (if_neg c_1).symm)), rfl, rfl⟩
set_option maxHeartbeats 4000000 in
set_option maxRecDepth 100000 in
theorem k_X8_fault_0_1_4 (l : Launch) (E : Ev) {I : SI} {L : SL} (t : Nat → Int32) (b : Nat → Int32) (u : Nat → Int32) (sv : Nat → Int32) (e_t : I (8) = t) (e_b : I (2) = b) (e_u : I (9) = u) (e_sv : I (21) = sv) : CS l yX8_fault wsX8_fault ({ frames := 5, cells := 0, slots := 0, locals := 110 }) E [.ref (E.2.2.2 0), .int (0 : Int32), .int (1 : Int32), .int (4 : Int32)] I L (fun vv I' L' => vv = some (.int (if ¬ t 1 = 0 ∧ plcF t u 1 = 0 then 1 else 0)) ∧ I' = I ∧ L' = L) := by
  refine CS.of (cc := cX8_fault) (maxL := 6) (ret := (some .int)) (by decide) rfl (Nat.le_of_ble_eq_true rfl) ?_
  intro pg en sg mg below meth cg ls S hr hlk hX G hl
  have S : CallFix pg mg cg cX8_fault 6 sg _ wsX8_fault RX8 := S
  have hl : lv_has ls 6 [(0, .ref (E.2.2.2 0)), (1, .int (0 : Int32)), (2, .int (1 : Int32)), (3, .int (4 : Int32))] := hl
  refine lv_iload_n S.1 S.2.1 dX8_fault_0 rfl (lv_at hl 1 rfl) ?_
  refine s_callS (As := [.int (0 : Int32)]) (rest := []) S hX G (k_X8_isLoad l E (0 : Int32)) (va_cwS (bytes := cX8_isLoad) (maxL := 1) (ret := (some .boolean)) 1 S.2.2.2.2 gX8_fault_X8_isLoad rfl rfl rfl (by decide +kernel) ⟨Nat.le_of_ble_eq_true rfl, Nat.le_of_ble_eq_true rfl⟩) rfl hl.1 rfl (Nat.le_of_ble_eq_true rfl) ⟨Nat.zero_le _, Nat.zero_le _⟩ dX8_fault_1 (fun v I1 L1 H locs hR G => ?_)
  obtain ⟨hv, hI, hL⟩ := hR
  subst hv
  have G : GS E I L sg H locs := G.same hI hL
  refine W.eq (g2 := F0 mg 4 ls [.int (if ¬ (0 : Int32) < (0 : Int32) ∧ ¬ (1 : Int32) < (0 : Int32) then 1 else 0)]) rfl ?_
  refine s_if_eq_b (P := ¬ (0 : Int32) < (0 : Int32) ∧ ¬ (1 : Int32) < (0 : Int32)) (tgt := 23) S dX8_fault_4 (by decide) (fun h => absurd (by decide) h) (fun _ => ?_)
  refine lv_iload_n S.1 S.2.1 dX8_fault_7 rfl (lv_at hl 2 rfl) ?_
  refine s_callS (As := [.int (1 : Int32)]) (rest := []) S hX G (k_X8_isFault l E (1 : Int32)) (va_cwS (bytes := cX8_isFault) (maxL := 1) (ret := (some .boolean)) 1 S.2.2.2.2 gX8_fault_X8_isFault rfl rfl rfl (by decide +kernel) ⟨Nat.le_of_ble_eq_true rfl, Nat.le_of_ble_eq_true rfl⟩) rfl hl.1 rfl (Nat.le_of_ble_eq_true rfl) ⟨Nat.zero_le _, Nat.zero_le _⟩ dX8_fault_8 (fun v I1 L1 H locs hR G => ?_)
  obtain ⟨hv, hI, hL⟩ := hR
  subst hv
  have G : GS E I L sg H locs := G.same hI hL
  refine W.eq (g2 := F0 mg 11 ls [.int (if ¬ (1 : Int32) < (0 : Int32) ∧ ¬ (2 : Int32) < (1 : Int32) then 1 else 0)]) rfl ?_
  refine s_if_eq_b (P := ¬ (1 : Int32) < (0 : Int32) ∧ ¬ (2 : Int32) < (1 : Int32)) (tgt := 23) S dX8_fault_11 (by decide) (fun h => absurd (by decide) h) (fun _ => ?_)
  refine lv_iload_n S.1 S.2.1 dX8_fault_14 rfl (lv_at hl 3 rfl) ?_
  refine lv_iconst (v := (0 : Int32)) S.1 S.2.1 dX8_fault_15 (by decide) ?_
  refine lv_iconst (v := (4 : Int32)) S.1 S.2.1 dX8_fault_16 (by decide) ?_
  refine s_callS (As := [.int (4 : Int32), .int (0 : Int32), .int (4 : Int32)]) (rest := []) S hX G (k_X8_isWithin l E (4 : Int32) (0 : Int32) (4 : Int32)) (va_cwS (bytes := cX8_isWithin) (maxL := 3) (ret := (some .boolean)) 3 S.2.2.2.2 gX8_fault_X8_isWithin rfl rfl rfl (by decide +kernel) ⟨Nat.le_of_ble_eq_true rfl, Nat.le_of_ble_eq_true rfl⟩) rfl hl.1 rfl (Nat.le_of_ble_eq_true rfl) ⟨Nat.zero_le _, Nat.zero_le _⟩ dX8_fault_17 (fun v I1 L1 H locs hR G => ?_)
  obtain ⟨hv, hI, hL⟩ := hR
  subst hv
  have G : GS E I L sg H locs := G.same hI hL
  refine W.eq (g2 := F0 mg 20 ls [.int (if ¬ (4 : Int32) < (0 : Int32) ∧ ¬ (4 : Int32) < (4 : Int32) then 1 else 0)]) rfl ?_
  refine s_if_ne_b (P := ¬ (4 : Int32) < (0 : Int32) ∧ ¬ (4 : Int32) < (4 : Int32)) (tgt := 26) S dX8_fault_20 (by decide) (fun _ => ?_) (fun h => absurd (by decide) h)
  refine lv_aload_n S.1 S.2.1 dX8_fault_26 rfl (lv_at hl 0 rfl) ?_
  refine s_get S hX G (i := 0) (kd := 8) (a := (I 0)) (v := .ref (E.2.2.2 1)) (C := RX8) (T := TX8) (N := 4) 0 (rfl : sh 0 = 8) rfl rfl rfl (by decide) rfl (fun _ h => (List.mem_cons_of_mem _ (List.mem_append_left _ (List.mem_append_left _ (List.mem_append_left _ (List.mem_append_left _ (List.mem_append_right _ h))))))) (by decide) (List.mem_of_getElem? (i := 2) rfl) (fun _ h => h) dX8_fault_27 ?_
  refine lv_iload_n S.1 S.2.1 dX8_fault_30 rfl (lv_at hl 1 rfl) ?_
  refine s_callV (C := RX0) (As := [.int (0 : Int32)]) (rest := []) (i := 1) (kd := 0) S hX G (k_X0_loadAt_0 l E 1 (by unfold IsB; decide)) (cwV (bytes := cX0_loadAt) (maxL := 2) (ret := (some (.object "BridgeLegs$Load"))) 1 S.2.2.2.2 gX8_fault_X0_loadAt rfl rfl rfl (by decide +kernel) ⟨Nat.le_of_ble_eq_true rfl, Nat.le_of_ble_eq_true rfl⟩) (rfl : sh 1 = 0) rfl rfl rfl (by decide) rfl hl.1 rfl (Nat.le_of_ble_eq_true rfl) ⟨Nat.zero_le _, Nat.zero_le _⟩ dX8_fault_31 (fun v I1 L1 H locs hR G => ?_)
  obtain ⟨hv, hI, hL⟩ := hR
  subst hv
  have G : GS E I L sg H locs := G.same hI hL
  refine W.eq (g2 := F0 mg 34 ls [.ref (E.2.2.2 2)]) rfl ?_
  refine lv_astore (lv' := [(4, .ref (E.2.2.2 2)), (0, .ref (E.2.2.2 0)), (1, .int (0 : Int32)), (2, .int (1 : Int32)), (3, .int (4 : Int32))]) S.1 S.2.1 dX8_fault_34 hl (by decide) rfl (fun ls hl => ?_)
  refine lv_aload S.1 S.2.1 dX8_fault_36 (lv_at hl 0 rfl) ?_
  refine s_getN S hX G (i := 2) (kd := 5) (a := b) (v := .ref (E.2.2.2 7)) (C := RX5) (T := TX5) (N := 13) 3 (rfl : sh 2 = 5) e_b rfl rfl (by decide) rfl (fun _ h => (List.mem_cons_of_mem _ (List.mem_append_left _ (List.mem_append_left _ (List.mem_append_left _ (List.mem_append_right _ h)))))) (by decide) (List.mem_of_getElem? (i := 19) rfl) (fun _ h => h) dX8_fault_38 ?_
  refine lv_iload_n S.1 S.2.1 dX8_fault_41 rfl (lv_at hl 3 rfl) ?_
  refine s_callV (C := RX3) (As := [.int (1 : Int32)]) (rest := []) (i := 7) (kd := 3) S hX G (k_X3_isLatched_1 l E 7 t (rfl : sh 7 = 3) (rfl : sh 8 = 10) (rfl : sh 9 = 17) (rfl : sh 10 = 17) e_t) (cwV (bytes := cX3_isLatched) (maxL := 2) (ret := (some .boolean)) 1 S.2.2.2.2 gX8_fault_X3_isLatched rfl rfl rfl (by decide +kernel) ⟨Nat.le_of_ble_eq_true rfl, Nat.le_of_ble_eq_true rfl⟩) (rfl : sh 7 = 3) rfl rfl rfl (by decide) rfl hl.1 rfl (Nat.le_of_ble_eq_true rfl) ⟨Nat.zero_le _, Nat.zero_le _⟩ dX8_fault_42 (fun v I1 L1 H locs hR G => ?_)
  obtain ⟨hv, hI, hL⟩ := hR
  subst hv
  have G : GS E I L sg H locs := G.same hI hL
  refine W.eq (g2 := F0 mg 45 ls [.int (if ¬ t 1 = 0 then 1 else 0)]) rfl ?_
  refine lv_istore (lv' := [(5, .int (if ¬ t 1 = 0 then 1 else 0)), (4, .ref (E.2.2.2 2)), (0, .ref (E.2.2.2 0)), (1, .int (0 : Int32)), (2, .int (1 : Int32)), (3, .int (4 : Int32))]) S.1 S.2.1 dX8_fault_45 hl (by decide) rfl (fun ls hl => ?_)
  refine lv_iload_n S.1 S.2.1 dX8_fault_47 rfl (lv_at hl 5 rfl) ?_
  refine lv_if_ne (tgt := 57) S.1 S.2.1 dX8_fault_48 (by decide) (fun _ => ?_) (fun h => absurd h (by decide))
  refine lv_iload_n S.1 S.2.1 dX8_fault_57 rfl (lv_at hl 5 rfl) ?_
  refine lv_iconst (v := (4 : Int32)) S.1 S.2.1 dX8_fault_58 (by decide) ?_
  refine lv_icmp_ne (tgt := 79) S.1 S.2.1 dX8_fault_59 (by decide) (fun h => absurd (by decide) h) (fun _ => ?_)
  refine lv_aload S.1 S.2.1 dX8_fault_62 (lv_at hl 1 rfl) ?_
  refine lv_iload_n S.1 S.2.1 dX8_fault_64 rfl (lv_at hl 4 rfl) ?_
  refine lv_aload_n S.1 S.2.1 dX8_fault_65 rfl (lv_at hl 2 rfl) ?_
  refine s_get S hX G (i := 0) (kd := 8) (a := (I 0)) (v := .ref (E.2.2.2 1)) (C := RX8) (T := TX8) (N := 4) 0 (rfl : sh 0 = 8) rfl rfl rfl (by decide) rfl (fun _ h => (List.mem_cons_of_mem _ (List.mem_append_left _ (List.mem_append_left _ (List.mem_append_left _ (List.mem_append_left _ (List.mem_append_right _ h))))))) (by decide) (List.mem_of_getElem? (i := 2) rfl) (fun _ h => h) dX8_fault_66 ?_
  refine s_getN S hX G (i := 1) (kd := 0) (a := (I 1)) (v := .ref (E.2.2.2 20)) (C := RX0) (T := TX0) (N := 5) 2 (rfl : sh 1 = 0) rfl rfl rfl (by decide) rfl (fun _ h => (List.mem_cons_of_mem _ (List.mem_append_left _ (List.mem_append_left _ (List.mem_append_right _ h))))) (by decide) (List.mem_of_getElem? (i := 33) rfl) (fun _ h => h) dX8_fault_69 ?_
  refine s_callV (C := RX5) (As := [.int (1 : Int32), .ref (E.2.2.2 20)]) (rest := []) (i := 2) (kd := 5) S hX G (k_X5_isClearable_1 l E 2 20 b t u sv (by unfold IsLd; decide) (rfl : sh 20 = 1) (rfl : sh 21 = 20) e_b e_t e_u e_sv) (cwV (bytes := cX5_isClearable) (maxL := 3) (ret := (some .boolean)) 2 S.2.2.2.2 gX8_fault_X5_isClearable rfl rfl rfl (by decide +kernel) ⟨Nat.le_of_ble_eq_true rfl, Nat.le_of_ble_eq_true rfl⟩) (rfl : sh 2 = 5) rfl rfl rfl (by decide) rfl hl.1 rfl (Nat.le_of_ble_eq_true rfl) ⟨Nat.zero_le _, Nat.zero_le _⟩ dX8_fault_72 (fun v I1 L1 H locs hR G => ?_)
  obtain ⟨hv, hI, hL⟩ := hR
  subst hv
  have G : GS E I L sg H locs := G.same hI hL
  refine W.eq (g2 := F0 mg 75 ls [.int (if ¬ t 1 = 0 ∧ plcF t u 1 = 0 then 1 else 0)]) rfl ?_
  refine s_callS (As := [.int (if ¬ t 1 = 0 ∧ plcF t u 1 = 0 then 1 else 0)]) (rest := []) S hX G (k_X8_bit l E (if ¬ t 1 = 0 ∧ plcF t u 1 = 0 then 1 else 0) isb_ite) (va_cwS (bytes := cX8_bit) (maxL := 1) (ret := (some .int)) 1 S.2.2.2.2 gX8_fault_X8_bit rfl rfl rfl (by decide +kernel) ⟨Nat.le_of_ble_eq_true rfl, Nat.le_of_ble_eq_true rfl⟩) rfl hl.1 rfl (Nat.le_of_ble_eq_true rfl) ⟨Nat.zero_le _, Nat.zero_le _⟩ dX8_fault_75 (fun v I1 L1 H locs hR G => ?_)
  obtain ⟨hv, hI, hL⟩ := hR
  subst hv
  have G : GS E I L sg H locs := G.same hI hL
  refine W.eq (g2 := F0 mg 78 ls [.int (if ¬ t 1 = 0 ∧ plcF t u 1 = 0 then 1 else 0)]) rfl ?_
  refine s_iret (x := (if ¬ t 1 = 0 ∧ plcF t u 1 = 0 then 1 else 0)) S G hr hlk dX8_fault_78 ?_
  exact ⟨rfl, rfl, rfl⟩
set_option maxHeartbeats 4000000 in
set_option maxRecDepth 100000 in
theorem k_X8_fault_0_2_0 (l : Launch) (E : Ev) {I : SI} {L : SL} (t : Nat → Int32) (e_t : I (8) = t) : CS l yX8_fault wsX8_fault ({ frames := 3, cells := 0, slots := 0, locals := 63 }) E [.ref (E.2.2.2 0), .int (0 : Int32), .int (2 : Int32), .int (0 : Int32)] I L (fun vv I' L' => vv = some (.int (if ¬ t 2 = 0 then 1 else 0)) ∧ I' = I ∧ L' = L) := by
  refine CS.of (cc := cX8_fault) (maxL := 6) (ret := (some .int)) (by decide) rfl (Nat.le_of_ble_eq_true rfl) ?_
  intro pg en sg mg below meth cg ls S hr hlk hX G hl
  have S : CallFix pg mg cg cX8_fault 6 sg _ wsX8_fault RX8 := S
  have hl : lv_has ls 6 [(0, .ref (E.2.2.2 0)), (1, .int (0 : Int32)), (2, .int (2 : Int32)), (3, .int (0 : Int32))] := hl
  refine lv_iload_n S.1 S.2.1 dX8_fault_0 rfl (lv_at hl 1 rfl) ?_
  refine s_callS (As := [.int (0 : Int32)]) (rest := []) S hX G (k_X8_isLoad l E (0 : Int32)) (va_cwS (bytes := cX8_isLoad) (maxL := 1) (ret := (some .boolean)) 1 S.2.2.2.2 gX8_fault_X8_isLoad rfl rfl rfl (by decide +kernel) ⟨Nat.le_of_ble_eq_true rfl, Nat.le_of_ble_eq_true rfl⟩) rfl hl.1 rfl (Nat.le_of_ble_eq_true rfl) ⟨Nat.zero_le _, Nat.zero_le _⟩ dX8_fault_1 (fun v I1 L1 H locs hR G => ?_)
  obtain ⟨hv, hI, hL⟩ := hR
  subst hv
  have G : GS E I L sg H locs := G.same hI hL
  refine W.eq (g2 := F0 mg 4 ls [.int (if ¬ (0 : Int32) < (0 : Int32) ∧ ¬ (1 : Int32) < (0 : Int32) then 1 else 0)]) rfl ?_
  refine s_if_eq_b (P := ¬ (0 : Int32) < (0 : Int32) ∧ ¬ (1 : Int32) < (0 : Int32)) (tgt := 23) S dX8_fault_4 (by decide) (fun h => absurd (by decide) h) (fun _ => ?_)
  refine lv_iload_n S.1 S.2.1 dX8_fault_7 rfl (lv_at hl 2 rfl) ?_
  refine s_callS (As := [.int (2 : Int32)]) (rest := []) S hX G (k_X8_isFault l E (2 : Int32)) (va_cwS (bytes := cX8_isFault) (maxL := 1) (ret := (some .boolean)) 1 S.2.2.2.2 gX8_fault_X8_isFault rfl rfl rfl (by decide +kernel) ⟨Nat.le_of_ble_eq_true rfl, Nat.le_of_ble_eq_true rfl⟩) rfl hl.1 rfl (Nat.le_of_ble_eq_true rfl) ⟨Nat.zero_le _, Nat.zero_le _⟩ dX8_fault_8 (fun v I1 L1 H locs hR G => ?_)
  obtain ⟨hv, hI, hL⟩ := hR
  subst hv
  have G : GS E I L sg H locs := G.same hI hL
  refine W.eq (g2 := F0 mg 11 ls [.int (if ¬ (2 : Int32) < (0 : Int32) ∧ ¬ (2 : Int32) < (2 : Int32) then 1 else 0)]) rfl ?_
  refine s_if_eq_b (P := ¬ (2 : Int32) < (0 : Int32) ∧ ¬ (2 : Int32) < (2 : Int32)) (tgt := 23) S dX8_fault_11 (by decide) (fun h => absurd (by decide) h) (fun _ => ?_)
  refine lv_iload_n S.1 S.2.1 dX8_fault_14 rfl (lv_at hl 3 rfl) ?_
  refine lv_iconst (v := (0 : Int32)) S.1 S.2.1 dX8_fault_15 (by decide) ?_
  refine lv_iconst (v := (4 : Int32)) S.1 S.2.1 dX8_fault_16 (by decide) ?_
  refine s_callS (As := [.int (0 : Int32), .int (0 : Int32), .int (4 : Int32)]) (rest := []) S hX G (k_X8_isWithin l E (0 : Int32) (0 : Int32) (4 : Int32)) (va_cwS (bytes := cX8_isWithin) (maxL := 3) (ret := (some .boolean)) 3 S.2.2.2.2 gX8_fault_X8_isWithin rfl rfl rfl (by decide +kernel) ⟨Nat.le_of_ble_eq_true rfl, Nat.le_of_ble_eq_true rfl⟩) rfl hl.1 rfl (Nat.le_of_ble_eq_true rfl) ⟨Nat.zero_le _, Nat.zero_le _⟩ dX8_fault_17 (fun v I1 L1 H locs hR G => ?_)
  obtain ⟨hv, hI, hL⟩ := hR
  subst hv
  have G : GS E I L sg H locs := G.same hI hL
  refine W.eq (g2 := F0 mg 20 ls [.int (if ¬ (0 : Int32) < (0 : Int32) ∧ ¬ (4 : Int32) < (0 : Int32) then 1 else 0)]) rfl ?_
  refine s_if_ne_b (P := ¬ (0 : Int32) < (0 : Int32) ∧ ¬ (4 : Int32) < (0 : Int32)) (tgt := 26) S dX8_fault_20 (by decide) (fun _ => ?_) (fun h => absurd (by decide) h)
  refine lv_aload_n S.1 S.2.1 dX8_fault_26 rfl (lv_at hl 0 rfl) ?_
  refine s_get S hX G (i := 0) (kd := 8) (a := (I 0)) (v := .ref (E.2.2.2 1)) (C := RX8) (T := TX8) (N := 4) 0 (rfl : sh 0 = 8) rfl rfl rfl (by decide) rfl (fun _ h => (List.mem_cons_of_mem _ (List.mem_append_left _ (List.mem_append_left _ (List.mem_append_left _ (List.mem_append_left _ (List.mem_append_right _ h))))))) (by decide) (List.mem_of_getElem? (i := 2) rfl) (fun _ h => h) dX8_fault_27 ?_
  refine lv_iload_n S.1 S.2.1 dX8_fault_30 rfl (lv_at hl 1 rfl) ?_
  refine s_callV (C := RX0) (As := [.int (0 : Int32)]) (rest := []) (i := 1) (kd := 0) S hX G (k_X0_loadAt_0 l E 1 (by unfold IsB; decide)) (cwV (bytes := cX0_loadAt) (maxL := 2) (ret := (some (.object "BridgeLegs$Load"))) 1 S.2.2.2.2 gX8_fault_X0_loadAt rfl rfl rfl (by decide +kernel) ⟨Nat.le_of_ble_eq_true rfl, Nat.le_of_ble_eq_true rfl⟩) (rfl : sh 1 = 0) rfl rfl rfl (by decide) rfl hl.1 rfl (Nat.le_of_ble_eq_true rfl) ⟨Nat.zero_le _, Nat.zero_le _⟩ dX8_fault_31 (fun v I1 L1 H locs hR G => ?_)
  obtain ⟨hv, hI, hL⟩ := hR
  subst hv
  have G : GS E I L sg H locs := G.same hI hL
  refine W.eq (g2 := F0 mg 34 ls [.ref (E.2.2.2 2)]) rfl ?_
  refine lv_astore (lv' := [(4, .ref (E.2.2.2 2)), (0, .ref (E.2.2.2 0)), (1, .int (0 : Int32)), (2, .int (2 : Int32)), (3, .int (0 : Int32))]) S.1 S.2.1 dX8_fault_34 hl (by decide) rfl (fun ls hl => ?_)
  refine lv_aload S.1 S.2.1 dX8_fault_36 (lv_at hl 0 rfl) ?_
  refine s_getN S hX G (i := 2) (kd := 5) (a := (I 2)) (v := .ref (E.2.2.2 7)) (C := RX5) (T := TX5) (N := 13) 3 (rfl : sh 2 = 5) rfl rfl rfl (by decide) rfl (fun _ h => (List.mem_cons_of_mem _ (List.mem_append_left _ (List.mem_append_left _ (List.mem_append_left _ (List.mem_append_right _ h)))))) (by decide) (List.mem_of_getElem? (i := 19) rfl) (fun _ h => h) dX8_fault_38 ?_
  refine lv_iload_n S.1 S.2.1 dX8_fault_41 rfl (lv_at hl 3 rfl) ?_
  refine s_callV (C := RX3) (As := [.int (2 : Int32)]) (rest := []) (i := 7) (kd := 3) S hX G (k_X3_isLatched_2 l E 7 t (rfl : sh 7 = 3) (rfl : sh 8 = 10) (rfl : sh 9 = 17) (rfl : sh 10 = 17) e_t) (cwV (bytes := cX3_isLatched) (maxL := 2) (ret := (some .boolean)) 1 S.2.2.2.2 gX8_fault_X3_isLatched rfl rfl rfl (by decide +kernel) ⟨Nat.le_of_ble_eq_true rfl, Nat.le_of_ble_eq_true rfl⟩) (rfl : sh 7 = 3) rfl rfl rfl (by decide) rfl hl.1 rfl (Nat.le_of_ble_eq_true rfl) ⟨Nat.zero_le _, Nat.zero_le _⟩ dX8_fault_42 (fun v I1 L1 H locs hR G => ?_)
  obtain ⟨hv, hI, hL⟩ := hR
  subst hv
  have G : GS E I L sg H locs := G.same hI hL
  refine W.eq (g2 := F0 mg 45 ls [.int (if ¬ t 2 = 0 then 1 else 0)]) rfl ?_
  refine lv_istore (lv' := [(5, .int (if ¬ t 2 = 0 then 1 else 0)), (4, .ref (E.2.2.2 2)), (0, .ref (E.2.2.2 0)), (1, .int (0 : Int32)), (2, .int (2 : Int32)), (3, .int (0 : Int32))]) S.1 S.2.1 dX8_fault_45 hl (by decide) rfl (fun ls hl => ?_)
  refine lv_iload_n S.1 S.2.1 dX8_fault_47 rfl (lv_at hl 5 rfl) ?_
  refine lv_if_ne (tgt := 57) S.1 S.2.1 dX8_fault_48 (by decide) (fun h => absurd (by decide) h) (fun _ => ?_)
  refine lv_iload S.1 S.2.1 dX8_fault_51 (lv_at hl 0 rfl) ?_
  refine s_callS (As := [.int (if ¬ t 2 = 0 then 1 else 0)]) (rest := []) S hX G (k_X8_bit l E (if ¬ t 2 = 0 then 1 else 0) isb_ite) (va_cwS (bytes := cX8_bit) (maxL := 1) (ret := (some .int)) 1 S.2.2.2.2 gX8_fault_X8_bit rfl rfl rfl (by decide +kernel) ⟨Nat.le_of_ble_eq_true rfl, Nat.le_of_ble_eq_true rfl⟩) rfl hl.1 rfl (Nat.le_of_ble_eq_true rfl) ⟨Nat.zero_le _, Nat.zero_le _⟩ dX8_fault_53 (fun v I1 L1 H locs hR G => ?_)
  obtain ⟨hv, hI, hL⟩ := hR
  subst hv
  have G : GS E I L sg H locs := G.same hI hL
  refine W.eq (g2 := F0 mg 56 ls [.int (if ¬ t 2 = 0 then 1 else 0)]) rfl ?_
  refine s_iret (x := (if ¬ t 2 = 0 then 1 else 0)) S G hr hlk dX8_fault_56 ?_
  exact ⟨rfl, rfl, rfl⟩
set_option maxHeartbeats 4000000 in
set_option maxRecDepth 100000 in
theorem k_X8_fault_0_2_1 (l : Launch) (E : Ev) {I : SI} {L : SL} (t : Nat → Int32) (u : Nat → Int32) (e_t : I (8) = t) (e_u : I (9) = u) : CS l yX8_fault wsX8_fault ({ frames := 3, cells := 0, slots := 0, locals := 63 }) E [.ref (E.2.2.2 0), .int (0 : Int32), .int (2 : Int32), .int (1 : Int32)] I L (fun vv I' L' => vv = some (.int (if ¬ t 2 = 0 then u 2 else (-2000000004 : Int32))) ∧ I' = I ∧ L' = L) := by
  refine CS.of (cc := cX8_fault) (maxL := 6) (ret := (some .int)) (by decide) rfl (Nat.le_of_ble_eq_true rfl) ?_
  intro pg en sg mg below meth cg ls S hr hlk hX G hl
  have S : CallFix pg mg cg cX8_fault 6 sg _ wsX8_fault RX8 := S
  have hl : lv_has ls 6 [(0, .ref (E.2.2.2 0)), (1, .int (0 : Int32)), (2, .int (2 : Int32)), (3, .int (1 : Int32))] := hl
  refine lv_iload_n S.1 S.2.1 dX8_fault_0 rfl (lv_at hl 1 rfl) ?_
  refine s_callS (As := [.int (0 : Int32)]) (rest := []) S hX G (k_X8_isLoad l E (0 : Int32)) (va_cwS (bytes := cX8_isLoad) (maxL := 1) (ret := (some .boolean)) 1 S.2.2.2.2 gX8_fault_X8_isLoad rfl rfl rfl (by decide +kernel) ⟨Nat.le_of_ble_eq_true rfl, Nat.le_of_ble_eq_true rfl⟩) rfl hl.1 rfl (Nat.le_of_ble_eq_true rfl) ⟨Nat.zero_le _, Nat.zero_le _⟩ dX8_fault_1 (fun v I1 L1 H locs hR G => ?_)
  obtain ⟨hv, hI, hL⟩ := hR
  subst hv
  have G : GS E I L sg H locs := G.same hI hL
  refine W.eq (g2 := F0 mg 4 ls [.int (if ¬ (0 : Int32) < (0 : Int32) ∧ ¬ (1 : Int32) < (0 : Int32) then 1 else 0)]) rfl ?_
  refine s_if_eq_b (P := ¬ (0 : Int32) < (0 : Int32) ∧ ¬ (1 : Int32) < (0 : Int32)) (tgt := 23) S dX8_fault_4 (by decide) (fun h => absurd (by decide) h) (fun _ => ?_)
  refine lv_iload_n S.1 S.2.1 dX8_fault_7 rfl (lv_at hl 2 rfl) ?_
  refine s_callS (As := [.int (2 : Int32)]) (rest := []) S hX G (k_X8_isFault l E (2 : Int32)) (va_cwS (bytes := cX8_isFault) (maxL := 1) (ret := (some .boolean)) 1 S.2.2.2.2 gX8_fault_X8_isFault rfl rfl rfl (by decide +kernel) ⟨Nat.le_of_ble_eq_true rfl, Nat.le_of_ble_eq_true rfl⟩) rfl hl.1 rfl (Nat.le_of_ble_eq_true rfl) ⟨Nat.zero_le _, Nat.zero_le _⟩ dX8_fault_8 (fun v I1 L1 H locs hR G => ?_)
  obtain ⟨hv, hI, hL⟩ := hR
  subst hv
  have G : GS E I L sg H locs := G.same hI hL
  refine W.eq (g2 := F0 mg 11 ls [.int (if ¬ (2 : Int32) < (0 : Int32) ∧ ¬ (2 : Int32) < (2 : Int32) then 1 else 0)]) rfl ?_
  refine s_if_eq_b (P := ¬ (2 : Int32) < (0 : Int32) ∧ ¬ (2 : Int32) < (2 : Int32)) (tgt := 23) S dX8_fault_11 (by decide) (fun h => absurd (by decide) h) (fun _ => ?_)
  refine lv_iload_n S.1 S.2.1 dX8_fault_14 rfl (lv_at hl 3 rfl) ?_
  refine lv_iconst (v := (0 : Int32)) S.1 S.2.1 dX8_fault_15 (by decide) ?_
  refine lv_iconst (v := (4 : Int32)) S.1 S.2.1 dX8_fault_16 (by decide) ?_
  refine s_callS (As := [.int (1 : Int32), .int (0 : Int32), .int (4 : Int32)]) (rest := []) S hX G (k_X8_isWithin l E (1 : Int32) (0 : Int32) (4 : Int32)) (va_cwS (bytes := cX8_isWithin) (maxL := 3) (ret := (some .boolean)) 3 S.2.2.2.2 gX8_fault_X8_isWithin rfl rfl rfl (by decide +kernel) ⟨Nat.le_of_ble_eq_true rfl, Nat.le_of_ble_eq_true rfl⟩) rfl hl.1 rfl (Nat.le_of_ble_eq_true rfl) ⟨Nat.zero_le _, Nat.zero_le _⟩ dX8_fault_17 (fun v I1 L1 H locs hR G => ?_)
  obtain ⟨hv, hI, hL⟩ := hR
  subst hv
  have G : GS E I L sg H locs := G.same hI hL
  refine W.eq (g2 := F0 mg 20 ls [.int (if ¬ (1 : Int32) < (0 : Int32) ∧ ¬ (4 : Int32) < (1 : Int32) then 1 else 0)]) rfl ?_
  refine s_if_ne_b (P := ¬ (1 : Int32) < (0 : Int32) ∧ ¬ (4 : Int32) < (1 : Int32)) (tgt := 26) S dX8_fault_20 (by decide) (fun _ => ?_) (fun h => absurd (by decide) h)
  refine lv_aload_n S.1 S.2.1 dX8_fault_26 rfl (lv_at hl 0 rfl) ?_
  refine s_get S hX G (i := 0) (kd := 8) (a := (I 0)) (v := .ref (E.2.2.2 1)) (C := RX8) (T := TX8) (N := 4) 0 (rfl : sh 0 = 8) rfl rfl rfl (by decide) rfl (fun _ h => (List.mem_cons_of_mem _ (List.mem_append_left _ (List.mem_append_left _ (List.mem_append_left _ (List.mem_append_left _ (List.mem_append_right _ h))))))) (by decide) (List.mem_of_getElem? (i := 2) rfl) (fun _ h => h) dX8_fault_27 ?_
  refine lv_iload_n S.1 S.2.1 dX8_fault_30 rfl (lv_at hl 1 rfl) ?_
  refine s_callV (C := RX0) (As := [.int (0 : Int32)]) (rest := []) (i := 1) (kd := 0) S hX G (k_X0_loadAt_0 l E 1 (by unfold IsB; decide)) (cwV (bytes := cX0_loadAt) (maxL := 2) (ret := (some (.object "BridgeLegs$Load"))) 1 S.2.2.2.2 gX8_fault_X0_loadAt rfl rfl rfl (by decide +kernel) ⟨Nat.le_of_ble_eq_true rfl, Nat.le_of_ble_eq_true rfl⟩) (rfl : sh 1 = 0) rfl rfl rfl (by decide) rfl hl.1 rfl (Nat.le_of_ble_eq_true rfl) ⟨Nat.zero_le _, Nat.zero_le _⟩ dX8_fault_31 (fun v I1 L1 H locs hR G => ?_)
  obtain ⟨hv, hI, hL⟩ := hR
  subst hv
  have G : GS E I L sg H locs := G.same hI hL
  refine W.eq (g2 := F0 mg 34 ls [.ref (E.2.2.2 2)]) rfl ?_
  refine lv_astore (lv' := [(4, .ref (E.2.2.2 2)), (0, .ref (E.2.2.2 0)), (1, .int (0 : Int32)), (2, .int (2 : Int32)), (3, .int (1 : Int32))]) S.1 S.2.1 dX8_fault_34 hl (by decide) rfl (fun ls hl => ?_)
  refine lv_aload S.1 S.2.1 dX8_fault_36 (lv_at hl 0 rfl) ?_
  refine s_getN S hX G (i := 2) (kd := 5) (a := (I 2)) (v := .ref (E.2.2.2 7)) (C := RX5) (T := TX5) (N := 13) 3 (rfl : sh 2 = 5) rfl rfl rfl (by decide) rfl (fun _ h => (List.mem_cons_of_mem _ (List.mem_append_left _ (List.mem_append_left _ (List.mem_append_left _ (List.mem_append_right _ h)))))) (by decide) (List.mem_of_getElem? (i := 19) rfl) (fun _ h => h) dX8_fault_38 ?_
  refine lv_iload_n S.1 S.2.1 dX8_fault_41 rfl (lv_at hl 3 rfl) ?_
  refine s_callV (C := RX3) (As := [.int (2 : Int32)]) (rest := []) (i := 7) (kd := 3) S hX G (k_X3_isLatched_2 l E 7 t (rfl : sh 7 = 3) (rfl : sh 8 = 10) (rfl : sh 9 = 17) (rfl : sh 10 = 17) e_t) (cwV (bytes := cX3_isLatched) (maxL := 2) (ret := (some .boolean)) 1 S.2.2.2.2 gX8_fault_X3_isLatched rfl rfl rfl (by decide +kernel) ⟨Nat.le_of_ble_eq_true rfl, Nat.le_of_ble_eq_true rfl⟩) (rfl : sh 7 = 3) rfl rfl rfl (by decide) rfl hl.1 rfl (Nat.le_of_ble_eq_true rfl) ⟨Nat.zero_le _, Nat.zero_le _⟩ dX8_fault_42 (fun v I1 L1 H locs hR G => ?_)
  obtain ⟨hv, hI, hL⟩ := hR
  subst hv
  have G : GS E I L sg H locs := G.same hI hL
  refine W.eq (g2 := F0 mg 45 ls [.int (if ¬ t 2 = 0 then 1 else 0)]) rfl ?_
  refine lv_istore (lv' := [(5, .int (if ¬ t 2 = 0 then 1 else 0)), (4, .ref (E.2.2.2 2)), (0, .ref (E.2.2.2 0)), (1, .int (0 : Int32)), (2, .int (2 : Int32)), (3, .int (1 : Int32))]) S.1 S.2.1 dX8_fault_45 hl (by decide) rfl (fun ls hl => ?_)
  refine lv_iload_n S.1 S.2.1 dX8_fault_47 rfl (lv_at hl 5 rfl) ?_
  refine lv_if_ne (tgt := 57) S.1 S.2.1 dX8_fault_48 (by decide) (fun _ => ?_) (fun h => absurd h (by decide))
  refine lv_iload_n S.1 S.2.1 dX8_fault_57 rfl (lv_at hl 5 rfl) ?_
  refine lv_iconst (v := (4 : Int32)) S.1 S.2.1 dX8_fault_58 (by decide) ?_
  refine lv_icmp_ne (tgt := 79) S.1 S.2.1 dX8_fault_59 (by decide) (fun _ => ?_) (fun h => absurd h (by decide))
  refine lv_iload S.1 S.2.1 dX8_fault_79 (lv_at hl 0 rfl) ?_
  refine s_if_ne_b (P := ¬ t 2 = 0) (tgt := 87) S dX8_fault_81 (by decide) (fun c_1 => ?_) (fun c_1 => ?_)
  · refine lv_iload_n S.1 S.2.1 dX8_fault_87 rfl (lv_at hl 5 rfl) ?_
    refine lv_lookup (off := 28) (tgt := 116) S.1 S.2.1 dX8_fault_88 (by decide) (by decide) (by decide) ?_
    refine lv_aload S.1 S.2.1 dX8_fault_116 (lv_at hl 1 rfl) ?_
    refine s_getN S hX G (i := 2) (kd := 5) (a := (I 2)) (v := .ref (E.2.2.2 7)) (C := RX5) (T := TX5) (N := 13) 3 (rfl : sh 2 = 5) rfl rfl rfl (by decide) rfl (fun _ h => (List.mem_cons_of_mem _ (List.mem_append_left _ (List.mem_append_left _ (List.mem_append_left _ (List.mem_append_right _ h)))))) (by decide) (List.mem_of_getElem? (i := 19) rfl) (fun _ h => h) dX8_fault_118 ?_
    refine lv_iload_n S.1 S.2.1 dX8_fault_121 rfl (lv_at hl 4 rfl) ?_
    refine s_callV (C := RX3) (As := [.int (2 : Int32)]) (rest := []) (i := 7) (kd := 3) S hX G (k_X3_slotOf_2 l E 7 u (rfl : sh 7 = 3) (rfl : sh 8 = 10) (rfl : sh 9 = 17) (rfl : sh 10 = 17) e_u) (cwV (bytes := cX3_slotOf) (maxL := 2) (ret := (some .int)) 1 S.2.2.2.2 gX8_fault_X3_slotOf rfl rfl rfl (by decide +kernel) ⟨Nat.le_of_ble_eq_true rfl, Nat.le_of_ble_eq_true rfl⟩) (rfl : sh 7 = 3) rfl rfl rfl (by decide) rfl hl.1 rfl (Nat.le_of_ble_eq_true rfl) ⟨Nat.zero_le _, Nat.zero_le _⟩ dX8_fault_122 (fun v I1 L1 H locs hR G => ?_)
    obtain ⟨hv, hI, hL⟩ := hR
    subst hv
    have G : GS E I L sg H locs := G.same hI hL
    refine W.eq (g2 := F0 mg 125 ls [.int (u 2)]) rfl ?_
    refine s_iret (x := (u 2)) S G hr hlk dX8_fault_125 ?_
    exact ⟨(congrArg (fun q : Int32 => some (Value.int q)) (show (u 2) = (if ¬ t 2 = 0 then u 2 else (-2000000004 : Int32)) by first | rfl | exact (if_pos c_1).symm | exact (if_neg c_1).symm)), rfl, rfl⟩
  · refine lv_ldc (v := (-2000000004 : Int32)) S.1 S.2.1 S.2.2.2.1 (S.2.2.2.2 _ (List.mem_of_getElem? (i := 3) rfl)) dX8_fault_84 ?_
    refine s_iret (x := (-2000000004 : Int32)) S G hr hlk dX8_fault_86 ?_
    exact ⟨(congrArg (fun q : Int32 => some (Value.int q)) (show (-2000000004 : Int32) = (if ¬ t 2 = 0 then u 2 else (-2000000004 : Int32)) by first | rfl | exact (if_pos c_1).symm | exact (if_neg c_1).symm)), rfl, rfl⟩
set_option maxHeartbeats 4000000 in
set_option maxRecDepth 100000 in
theorem k_X8_fault_0_2_3 (l : Launch) (E : Ev) {I : SI} {L : SL} (t : Nat → Int32) (u : Nat → Int32) (e_t : I (8) = t) (e_u : I (9) = u) : CS l yX8_fault wsX8_fault ({ frames := 4, cells := 0, slots := 0, locals := 88 }) E [.ref (E.2.2.2 0), .int (0 : Int32), .int (2 : Int32), .int (3 : Int32)] I L (fun vv I' L' => vv = some (.int (if ¬ t 2 = 0 then plcF t u 2 else (-2000000004 : Int32))) ∧ I' = I ∧ L' = L) := by
  refine CS.of (cc := cX8_fault) (maxL := 6) (ret := (some .int)) (by decide) rfl (Nat.le_of_ble_eq_true rfl) ?_
  intro pg en sg mg below meth cg ls S hr hlk hX G hl
  have S : CallFix pg mg cg cX8_fault 6 sg _ wsX8_fault RX8 := S
  have hl : lv_has ls 6 [(0, .ref (E.2.2.2 0)), (1, .int (0 : Int32)), (2, .int (2 : Int32)), (3, .int (3 : Int32))] := hl
  refine lv_iload_n S.1 S.2.1 dX8_fault_0 rfl (lv_at hl 1 rfl) ?_
  refine s_callS (As := [.int (0 : Int32)]) (rest := []) S hX G (k_X8_isLoad l E (0 : Int32)) (va_cwS (bytes := cX8_isLoad) (maxL := 1) (ret := (some .boolean)) 1 S.2.2.2.2 gX8_fault_X8_isLoad rfl rfl rfl (by decide +kernel) ⟨Nat.le_of_ble_eq_true rfl, Nat.le_of_ble_eq_true rfl⟩) rfl hl.1 rfl (Nat.le_of_ble_eq_true rfl) ⟨Nat.zero_le _, Nat.zero_le _⟩ dX8_fault_1 (fun v I1 L1 H locs hR G => ?_)
  obtain ⟨hv, hI, hL⟩ := hR
  subst hv
  have G : GS E I L sg H locs := G.same hI hL
  refine W.eq (g2 := F0 mg 4 ls [.int (if ¬ (0 : Int32) < (0 : Int32) ∧ ¬ (1 : Int32) < (0 : Int32) then 1 else 0)]) rfl ?_
  refine s_if_eq_b (P := ¬ (0 : Int32) < (0 : Int32) ∧ ¬ (1 : Int32) < (0 : Int32)) (tgt := 23) S dX8_fault_4 (by decide) (fun h => absurd (by decide) h) (fun _ => ?_)
  refine lv_iload_n S.1 S.2.1 dX8_fault_7 rfl (lv_at hl 2 rfl) ?_
  refine s_callS (As := [.int (2 : Int32)]) (rest := []) S hX G (k_X8_isFault l E (2 : Int32)) (va_cwS (bytes := cX8_isFault) (maxL := 1) (ret := (some .boolean)) 1 S.2.2.2.2 gX8_fault_X8_isFault rfl rfl rfl (by decide +kernel) ⟨Nat.le_of_ble_eq_true rfl, Nat.le_of_ble_eq_true rfl⟩) rfl hl.1 rfl (Nat.le_of_ble_eq_true rfl) ⟨Nat.zero_le _, Nat.zero_le _⟩ dX8_fault_8 (fun v I1 L1 H locs hR G => ?_)
  obtain ⟨hv, hI, hL⟩ := hR
  subst hv
  have G : GS E I L sg H locs := G.same hI hL
  refine W.eq (g2 := F0 mg 11 ls [.int (if ¬ (2 : Int32) < (0 : Int32) ∧ ¬ (2 : Int32) < (2 : Int32) then 1 else 0)]) rfl ?_
  refine s_if_eq_b (P := ¬ (2 : Int32) < (0 : Int32) ∧ ¬ (2 : Int32) < (2 : Int32)) (tgt := 23) S dX8_fault_11 (by decide) (fun h => absurd (by decide) h) (fun _ => ?_)
  refine lv_iload_n S.1 S.2.1 dX8_fault_14 rfl (lv_at hl 3 rfl) ?_
  refine lv_iconst (v := (0 : Int32)) S.1 S.2.1 dX8_fault_15 (by decide) ?_
  refine lv_iconst (v := (4 : Int32)) S.1 S.2.1 dX8_fault_16 (by decide) ?_
  refine s_callS (As := [.int (3 : Int32), .int (0 : Int32), .int (4 : Int32)]) (rest := []) S hX G (k_X8_isWithin l E (3 : Int32) (0 : Int32) (4 : Int32)) (va_cwS (bytes := cX8_isWithin) (maxL := 3) (ret := (some .boolean)) 3 S.2.2.2.2 gX8_fault_X8_isWithin rfl rfl rfl (by decide +kernel) ⟨Nat.le_of_ble_eq_true rfl, Nat.le_of_ble_eq_true rfl⟩) rfl hl.1 rfl (Nat.le_of_ble_eq_true rfl) ⟨Nat.zero_le _, Nat.zero_le _⟩ dX8_fault_17 (fun v I1 L1 H locs hR G => ?_)
  obtain ⟨hv, hI, hL⟩ := hR
  subst hv
  have G : GS E I L sg H locs := G.same hI hL
  refine W.eq (g2 := F0 mg 20 ls [.int (if ¬ (3 : Int32) < (0 : Int32) ∧ ¬ (4 : Int32) < (3 : Int32) then 1 else 0)]) rfl ?_
  refine s_if_ne_b (P := ¬ (3 : Int32) < (0 : Int32) ∧ ¬ (4 : Int32) < (3 : Int32)) (tgt := 26) S dX8_fault_20 (by decide) (fun _ => ?_) (fun h => absurd (by decide) h)
  refine lv_aload_n S.1 S.2.1 dX8_fault_26 rfl (lv_at hl 0 rfl) ?_
  refine s_get S hX G (i := 0) (kd := 8) (a := (I 0)) (v := .ref (E.2.2.2 1)) (C := RX8) (T := TX8) (N := 4) 0 (rfl : sh 0 = 8) rfl rfl rfl (by decide) rfl (fun _ h => (List.mem_cons_of_mem _ (List.mem_append_left _ (List.mem_append_left _ (List.mem_append_left _ (List.mem_append_left _ (List.mem_append_right _ h))))))) (by decide) (List.mem_of_getElem? (i := 2) rfl) (fun _ h => h) dX8_fault_27 ?_
  refine lv_iload_n S.1 S.2.1 dX8_fault_30 rfl (lv_at hl 1 rfl) ?_
  refine s_callV (C := RX0) (As := [.int (0 : Int32)]) (rest := []) (i := 1) (kd := 0) S hX G (k_X0_loadAt_0 l E 1 (by unfold IsB; decide)) (cwV (bytes := cX0_loadAt) (maxL := 2) (ret := (some (.object "BridgeLegs$Load"))) 1 S.2.2.2.2 gX8_fault_X0_loadAt rfl rfl rfl (by decide +kernel) ⟨Nat.le_of_ble_eq_true rfl, Nat.le_of_ble_eq_true rfl⟩) (rfl : sh 1 = 0) rfl rfl rfl (by decide) rfl hl.1 rfl (Nat.le_of_ble_eq_true rfl) ⟨Nat.zero_le _, Nat.zero_le _⟩ dX8_fault_31 (fun v I1 L1 H locs hR G => ?_)
  obtain ⟨hv, hI, hL⟩ := hR
  subst hv
  have G : GS E I L sg H locs := G.same hI hL
  refine W.eq (g2 := F0 mg 34 ls [.ref (E.2.2.2 2)]) rfl ?_
  refine lv_astore (lv' := [(4, .ref (E.2.2.2 2)), (0, .ref (E.2.2.2 0)), (1, .int (0 : Int32)), (2, .int (2 : Int32)), (3, .int (3 : Int32))]) S.1 S.2.1 dX8_fault_34 hl (by decide) rfl (fun ls hl => ?_)
  refine lv_aload S.1 S.2.1 dX8_fault_36 (lv_at hl 0 rfl) ?_
  refine s_getN S hX G (i := 2) (kd := 5) (a := (I 2)) (v := .ref (E.2.2.2 7)) (C := RX5) (T := TX5) (N := 13) 3 (rfl : sh 2 = 5) rfl rfl rfl (by decide) rfl (fun _ h => (List.mem_cons_of_mem _ (List.mem_append_left _ (List.mem_append_left _ (List.mem_append_left _ (List.mem_append_right _ h)))))) (by decide) (List.mem_of_getElem? (i := 19) rfl) (fun _ h => h) dX8_fault_38 ?_
  refine lv_iload_n S.1 S.2.1 dX8_fault_41 rfl (lv_at hl 3 rfl) ?_
  refine s_callV (C := RX3) (As := [.int (2 : Int32)]) (rest := []) (i := 7) (kd := 3) S hX G (k_X3_isLatched_2 l E 7 t (rfl : sh 7 = 3) (rfl : sh 8 = 10) (rfl : sh 9 = 17) (rfl : sh 10 = 17) e_t) (cwV (bytes := cX3_isLatched) (maxL := 2) (ret := (some .boolean)) 1 S.2.2.2.2 gX8_fault_X3_isLatched rfl rfl rfl (by decide +kernel) ⟨Nat.le_of_ble_eq_true rfl, Nat.le_of_ble_eq_true rfl⟩) (rfl : sh 7 = 3) rfl rfl rfl (by decide) rfl hl.1 rfl (Nat.le_of_ble_eq_true rfl) ⟨Nat.zero_le _, Nat.zero_le _⟩ dX8_fault_42 (fun v I1 L1 H locs hR G => ?_)
  obtain ⟨hv, hI, hL⟩ := hR
  subst hv
  have G : GS E I L sg H locs := G.same hI hL
  refine W.eq (g2 := F0 mg 45 ls [.int (if ¬ t 2 = 0 then 1 else 0)]) rfl ?_
  refine lv_istore (lv' := [(5, .int (if ¬ t 2 = 0 then 1 else 0)), (4, .ref (E.2.2.2 2)), (0, .ref (E.2.2.2 0)), (1, .int (0 : Int32)), (2, .int (2 : Int32)), (3, .int (3 : Int32))]) S.1 S.2.1 dX8_fault_45 hl (by decide) rfl (fun ls hl => ?_)
  refine lv_iload_n S.1 S.2.1 dX8_fault_47 rfl (lv_at hl 5 rfl) ?_
  refine lv_if_ne (tgt := 57) S.1 S.2.1 dX8_fault_48 (by decide) (fun _ => ?_) (fun h => absurd h (by decide))
  refine lv_iload_n S.1 S.2.1 dX8_fault_57 rfl (lv_at hl 5 rfl) ?_
  refine lv_iconst (v := (4 : Int32)) S.1 S.2.1 dX8_fault_58 (by decide) ?_
  refine lv_icmp_ne (tgt := 79) S.1 S.2.1 dX8_fault_59 (by decide) (fun _ => ?_) (fun h => absurd h (by decide))
  refine lv_iload S.1 S.2.1 dX8_fault_79 (lv_at hl 0 rfl) ?_
  refine s_if_ne_b (P := ¬ t 2 = 0) (tgt := 87) S dX8_fault_81 (by decide) (fun c_1 => ?_) (fun c_1 => ?_)
  · refine lv_iload_n S.1 S.2.1 dX8_fault_87 rfl (lv_at hl 5 rfl) ?_
    refine lv_lookup (off := 48) (tgt := 136) S.1 S.2.1 dX8_fault_88 (by decide) (by decide) (by decide) ?_
    refine lv_aload S.1 S.2.1 dX8_fault_136 (lv_at hl 1 rfl) ?_
    refine s_getN S hX G (i := 2) (kd := 5) (a := (I 2)) (v := .ref (E.2.2.2 7)) (C := RX5) (T := TX5) (N := 13) 3 (rfl : sh 2 = 5) rfl rfl rfl (by decide) rfl (fun _ h => (List.mem_cons_of_mem _ (List.mem_append_left _ (List.mem_append_left _ (List.mem_append_left _ (List.mem_append_right _ h)))))) (by decide) (List.mem_of_getElem? (i := 19) rfl) (fun _ h => h) dX8_fault_138 ?_
    refine lv_iload_n S.1 S.2.1 dX8_fault_141 rfl (lv_at hl 4 rfl) ?_
    refine s_callV (C := RX3) (As := [.int (2 : Int32)]) (rest := []) (i := 7) (kd := 3) S hX G (k_X3_placeOf_2 l E 7 t u (rfl : sh 7 = 3) (rfl : sh 8 = 10) (rfl : sh 9 = 17) (rfl : sh 10 = 17) e_t e_u) (cwV (bytes := cX3_placeOf) (maxL := 6) (ret := (some .int)) 1 S.2.2.2.2 gX8_fault_X3_placeOf rfl rfl rfl (by decide +kernel) ⟨Nat.le_of_ble_eq_true rfl, Nat.le_of_ble_eq_true rfl⟩) (rfl : sh 7 = 3) rfl rfl rfl (by decide) rfl hl.1 rfl (Nat.le_of_ble_eq_true rfl) ⟨Nat.zero_le _, Nat.zero_le _⟩ dX8_fault_142 (fun v I1 L1 H locs hR G => ?_)
    obtain ⟨hv, hI, hL⟩ := hR
    subst hv
    have G : GS E I L sg H locs := G.same hI hL
    refine W.eq (g2 := F0 mg 145 ls [.int (plcF t u 2)]) rfl ?_
    refine lv_topi (fun y_2 ey_2 => ?_)
    refine s_iret (x := y_2) S G hr hlk dX8_fault_145 ?_
    exact ⟨(congrArg (fun q : Int32 => some (Value.int q)) (show y_2 = (if ¬ t 2 = 0 then plcF t u 2 else (-2000000004 : Int32)) by subst ey_2; (first | rfl | exact (if_pos c_1).symm | exact (if_neg c_1).symm))), rfl, rfl⟩
  · refine lv_ldc (v := (-2000000004 : Int32)) S.1 S.2.1 S.2.2.2.1 (S.2.2.2.2 _ (List.mem_of_getElem? (i := 3) rfl)) dX8_fault_84 ?_
    refine s_iret (x := (-2000000004 : Int32)) S G hr hlk dX8_fault_86 ?_
    exact ⟨(congrArg (fun q : Int32 => some (Value.int q)) (show (-2000000004 : Int32) = (if ¬ t 2 = 0 then plcF t u 2 else (-2000000004 : Int32)) by first | rfl | exact (if_pos c_1).symm | exact (if_neg c_1).symm)), rfl, rfl⟩
set_option maxHeartbeats 4000000 in
set_option maxRecDepth 100000 in
theorem k_X8_fault_0_2_4 (l : Launch) (E : Ev) {I : SI} {L : SL} (t : Nat → Int32) (b : Nat → Int32) (u : Nat → Int32) (sv : Nat → Int32) (e_t : I (8) = t) (e_b : I (2) = b) (e_u : I (9) = u) (e_sv : I (21) = sv) : CS l yX8_fault wsX8_fault ({ frames := 5, cells := 0, slots := 0, locals := 110 }) E [.ref (E.2.2.2 0), .int (0 : Int32), .int (2 : Int32), .int (4 : Int32)] I L (fun vv I' L' => vv = some (.int (if ¬ t 2 = 0 ∧ plcF t u 2 = 0 ∧ ¬ sv 4 / 2 < b 5 then 1 else 0)) ∧ I' = I ∧ L' = L) := by
  refine CS.of (cc := cX8_fault) (maxL := 6) (ret := (some .int)) (by decide) rfl (Nat.le_of_ble_eq_true rfl) ?_
  intro pg en sg mg below meth cg ls S hr hlk hX G hl
  have S : CallFix pg mg cg cX8_fault 6 sg _ wsX8_fault RX8 := S
  have hl : lv_has ls 6 [(0, .ref (E.2.2.2 0)), (1, .int (0 : Int32)), (2, .int (2 : Int32)), (3, .int (4 : Int32))] := hl
  refine lv_iload_n S.1 S.2.1 dX8_fault_0 rfl (lv_at hl 1 rfl) ?_
  refine s_callS (As := [.int (0 : Int32)]) (rest := []) S hX G (k_X8_isLoad l E (0 : Int32)) (va_cwS (bytes := cX8_isLoad) (maxL := 1) (ret := (some .boolean)) 1 S.2.2.2.2 gX8_fault_X8_isLoad rfl rfl rfl (by decide +kernel) ⟨Nat.le_of_ble_eq_true rfl, Nat.le_of_ble_eq_true rfl⟩) rfl hl.1 rfl (Nat.le_of_ble_eq_true rfl) ⟨Nat.zero_le _, Nat.zero_le _⟩ dX8_fault_1 (fun v I1 L1 H locs hR G => ?_)
  obtain ⟨hv, hI, hL⟩ := hR
  subst hv
  have G : GS E I L sg H locs := G.same hI hL
  refine W.eq (g2 := F0 mg 4 ls [.int (if ¬ (0 : Int32) < (0 : Int32) ∧ ¬ (1 : Int32) < (0 : Int32) then 1 else 0)]) rfl ?_
  refine s_if_eq_b (P := ¬ (0 : Int32) < (0 : Int32) ∧ ¬ (1 : Int32) < (0 : Int32)) (tgt := 23) S dX8_fault_4 (by decide) (fun h => absurd (by decide) h) (fun _ => ?_)
  refine lv_iload_n S.1 S.2.1 dX8_fault_7 rfl (lv_at hl 2 rfl) ?_
  refine s_callS (As := [.int (2 : Int32)]) (rest := []) S hX G (k_X8_isFault l E (2 : Int32)) (va_cwS (bytes := cX8_isFault) (maxL := 1) (ret := (some .boolean)) 1 S.2.2.2.2 gX8_fault_X8_isFault rfl rfl rfl (by decide +kernel) ⟨Nat.le_of_ble_eq_true rfl, Nat.le_of_ble_eq_true rfl⟩) rfl hl.1 rfl (Nat.le_of_ble_eq_true rfl) ⟨Nat.zero_le _, Nat.zero_le _⟩ dX8_fault_8 (fun v I1 L1 H locs hR G => ?_)
  obtain ⟨hv, hI, hL⟩ := hR
  subst hv
  have G : GS E I L sg H locs := G.same hI hL
  refine W.eq (g2 := F0 mg 11 ls [.int (if ¬ (2 : Int32) < (0 : Int32) ∧ ¬ (2 : Int32) < (2 : Int32) then 1 else 0)]) rfl ?_
  refine s_if_eq_b (P := ¬ (2 : Int32) < (0 : Int32) ∧ ¬ (2 : Int32) < (2 : Int32)) (tgt := 23) S dX8_fault_11 (by decide) (fun h => absurd (by decide) h) (fun _ => ?_)
  refine lv_iload_n S.1 S.2.1 dX8_fault_14 rfl (lv_at hl 3 rfl) ?_
  refine lv_iconst (v := (0 : Int32)) S.1 S.2.1 dX8_fault_15 (by decide) ?_
  refine lv_iconst (v := (4 : Int32)) S.1 S.2.1 dX8_fault_16 (by decide) ?_
  refine s_callS (As := [.int (4 : Int32), .int (0 : Int32), .int (4 : Int32)]) (rest := []) S hX G (k_X8_isWithin l E (4 : Int32) (0 : Int32) (4 : Int32)) (va_cwS (bytes := cX8_isWithin) (maxL := 3) (ret := (some .boolean)) 3 S.2.2.2.2 gX8_fault_X8_isWithin rfl rfl rfl (by decide +kernel) ⟨Nat.le_of_ble_eq_true rfl, Nat.le_of_ble_eq_true rfl⟩) rfl hl.1 rfl (Nat.le_of_ble_eq_true rfl) ⟨Nat.zero_le _, Nat.zero_le _⟩ dX8_fault_17 (fun v I1 L1 H locs hR G => ?_)
  obtain ⟨hv, hI, hL⟩ := hR
  subst hv
  have G : GS E I L sg H locs := G.same hI hL
  refine W.eq (g2 := F0 mg 20 ls [.int (if ¬ (4 : Int32) < (0 : Int32) ∧ ¬ (4 : Int32) < (4 : Int32) then 1 else 0)]) rfl ?_
  refine s_if_ne_b (P := ¬ (4 : Int32) < (0 : Int32) ∧ ¬ (4 : Int32) < (4 : Int32)) (tgt := 26) S dX8_fault_20 (by decide) (fun _ => ?_) (fun h => absurd (by decide) h)
  refine lv_aload_n S.1 S.2.1 dX8_fault_26 rfl (lv_at hl 0 rfl) ?_
  refine s_get S hX G (i := 0) (kd := 8) (a := (I 0)) (v := .ref (E.2.2.2 1)) (C := RX8) (T := TX8) (N := 4) 0 (rfl : sh 0 = 8) rfl rfl rfl (by decide) rfl (fun _ h => (List.mem_cons_of_mem _ (List.mem_append_left _ (List.mem_append_left _ (List.mem_append_left _ (List.mem_append_left _ (List.mem_append_right _ h))))))) (by decide) (List.mem_of_getElem? (i := 2) rfl) (fun _ h => h) dX8_fault_27 ?_
  refine lv_iload_n S.1 S.2.1 dX8_fault_30 rfl (lv_at hl 1 rfl) ?_
  refine s_callV (C := RX0) (As := [.int (0 : Int32)]) (rest := []) (i := 1) (kd := 0) S hX G (k_X0_loadAt_0 l E 1 (by unfold IsB; decide)) (cwV (bytes := cX0_loadAt) (maxL := 2) (ret := (some (.object "BridgeLegs$Load"))) 1 S.2.2.2.2 gX8_fault_X0_loadAt rfl rfl rfl (by decide +kernel) ⟨Nat.le_of_ble_eq_true rfl, Nat.le_of_ble_eq_true rfl⟩) (rfl : sh 1 = 0) rfl rfl rfl (by decide) rfl hl.1 rfl (Nat.le_of_ble_eq_true rfl) ⟨Nat.zero_le _, Nat.zero_le _⟩ dX8_fault_31 (fun v I1 L1 H locs hR G => ?_)
  obtain ⟨hv, hI, hL⟩ := hR
  subst hv
  have G : GS E I L sg H locs := G.same hI hL
  refine W.eq (g2 := F0 mg 34 ls [.ref (E.2.2.2 2)]) rfl ?_
  refine lv_astore (lv' := [(4, .ref (E.2.2.2 2)), (0, .ref (E.2.2.2 0)), (1, .int (0 : Int32)), (2, .int (2 : Int32)), (3, .int (4 : Int32))]) S.1 S.2.1 dX8_fault_34 hl (by decide) rfl (fun ls hl => ?_)
  refine lv_aload S.1 S.2.1 dX8_fault_36 (lv_at hl 0 rfl) ?_
  refine s_getN S hX G (i := 2) (kd := 5) (a := b) (v := .ref (E.2.2.2 7)) (C := RX5) (T := TX5) (N := 13) 3 (rfl : sh 2 = 5) e_b rfl rfl (by decide) rfl (fun _ h => (List.mem_cons_of_mem _ (List.mem_append_left _ (List.mem_append_left _ (List.mem_append_left _ (List.mem_append_right _ h)))))) (by decide) (List.mem_of_getElem? (i := 19) rfl) (fun _ h => h) dX8_fault_38 ?_
  refine lv_iload_n S.1 S.2.1 dX8_fault_41 rfl (lv_at hl 3 rfl) ?_
  refine s_callV (C := RX3) (As := [.int (2 : Int32)]) (rest := []) (i := 7) (kd := 3) S hX G (k_X3_isLatched_2 l E 7 t (rfl : sh 7 = 3) (rfl : sh 8 = 10) (rfl : sh 9 = 17) (rfl : sh 10 = 17) e_t) (cwV (bytes := cX3_isLatched) (maxL := 2) (ret := (some .boolean)) 1 S.2.2.2.2 gX8_fault_X3_isLatched rfl rfl rfl (by decide +kernel) ⟨Nat.le_of_ble_eq_true rfl, Nat.le_of_ble_eq_true rfl⟩) (rfl : sh 7 = 3) rfl rfl rfl (by decide) rfl hl.1 rfl (Nat.le_of_ble_eq_true rfl) ⟨Nat.zero_le _, Nat.zero_le _⟩ dX8_fault_42 (fun v I1 L1 H locs hR G => ?_)
  obtain ⟨hv, hI, hL⟩ := hR
  subst hv
  have G : GS E I L sg H locs := G.same hI hL
  refine W.eq (g2 := F0 mg 45 ls [.int (if ¬ t 2 = 0 then 1 else 0)]) rfl ?_
  refine lv_istore (lv' := [(5, .int (if ¬ t 2 = 0 then 1 else 0)), (4, .ref (E.2.2.2 2)), (0, .ref (E.2.2.2 0)), (1, .int (0 : Int32)), (2, .int (2 : Int32)), (3, .int (4 : Int32))]) S.1 S.2.1 dX8_fault_45 hl (by decide) rfl (fun ls hl => ?_)
  refine lv_iload_n S.1 S.2.1 dX8_fault_47 rfl (lv_at hl 5 rfl) ?_
  refine lv_if_ne (tgt := 57) S.1 S.2.1 dX8_fault_48 (by decide) (fun _ => ?_) (fun h => absurd h (by decide))
  refine lv_iload_n S.1 S.2.1 dX8_fault_57 rfl (lv_at hl 5 rfl) ?_
  refine lv_iconst (v := (4 : Int32)) S.1 S.2.1 dX8_fault_58 (by decide) ?_
  refine lv_icmp_ne (tgt := 79) S.1 S.2.1 dX8_fault_59 (by decide) (fun h => absurd (by decide) h) (fun _ => ?_)
  refine lv_aload S.1 S.2.1 dX8_fault_62 (lv_at hl 1 rfl) ?_
  refine lv_iload_n S.1 S.2.1 dX8_fault_64 rfl (lv_at hl 4 rfl) ?_
  refine lv_aload_n S.1 S.2.1 dX8_fault_65 rfl (lv_at hl 2 rfl) ?_
  refine s_get S hX G (i := 0) (kd := 8) (a := (I 0)) (v := .ref (E.2.2.2 1)) (C := RX8) (T := TX8) (N := 4) 0 (rfl : sh 0 = 8) rfl rfl rfl (by decide) rfl (fun _ h => (List.mem_cons_of_mem _ (List.mem_append_left _ (List.mem_append_left _ (List.mem_append_left _ (List.mem_append_left _ (List.mem_append_right _ h))))))) (by decide) (List.mem_of_getElem? (i := 2) rfl) (fun _ h => h) dX8_fault_66 ?_
  refine s_getN S hX G (i := 1) (kd := 0) (a := (I 1)) (v := .ref (E.2.2.2 20)) (C := RX0) (T := TX0) (N := 5) 2 (rfl : sh 1 = 0) rfl rfl rfl (by decide) rfl (fun _ h => (List.mem_cons_of_mem _ (List.mem_append_left _ (List.mem_append_left _ (List.mem_append_right _ h))))) (by decide) (List.mem_of_getElem? (i := 33) rfl) (fun _ h => h) dX8_fault_69 ?_
  refine s_callV (C := RX5) (As := [.int (2 : Int32), .ref (E.2.2.2 20)]) (rest := []) (i := 2) (kd := 5) S hX G (k_X5_isClearable_2 l E 2 20 b t u sv (by unfold IsLd; decide) (rfl : sh 20 = 1) (rfl : sh 21 = 20) e_b e_t e_u e_sv) (cwV (bytes := cX5_isClearable) (maxL := 3) (ret := (some .boolean)) 2 S.2.2.2.2 gX8_fault_X5_isClearable rfl rfl rfl (by decide +kernel) ⟨Nat.le_of_ble_eq_true rfl, Nat.le_of_ble_eq_true rfl⟩) (rfl : sh 2 = 5) rfl rfl rfl (by decide) rfl hl.1 rfl (Nat.le_of_ble_eq_true rfl) ⟨Nat.zero_le _, Nat.zero_le _⟩ dX8_fault_72 (fun v I1 L1 H locs hR G => ?_)
  obtain ⟨hv, hI, hL⟩ := hR
  subst hv
  have G : GS E I L sg H locs := G.same hI hL
  refine W.eq (g2 := F0 mg 75 ls [.int (if ¬ t 2 = 0 ∧ plcF t u 2 = 0 ∧ ¬ sv 4 / 2 < b 5 then 1 else 0)]) rfl ?_
  refine s_callS (As := [.int (if ¬ t 2 = 0 ∧ plcF t u 2 = 0 ∧ ¬ sv 4 / 2 < b 5 then 1 else 0)]) (rest := []) S hX G (k_X8_bit l E (if ¬ t 2 = 0 ∧ plcF t u 2 = 0 ∧ ¬ sv 4 / 2 < b 5 then 1 else 0) isb_ite) (va_cwS (bytes := cX8_bit) (maxL := 1) (ret := (some .int)) 1 S.2.2.2.2 gX8_fault_X8_bit rfl rfl rfl (by decide +kernel) ⟨Nat.le_of_ble_eq_true rfl, Nat.le_of_ble_eq_true rfl⟩) rfl hl.1 rfl (Nat.le_of_ble_eq_true rfl) ⟨Nat.zero_le _, Nat.zero_le _⟩ dX8_fault_75 (fun v I1 L1 H locs hR G => ?_)
  obtain ⟨hv, hI, hL⟩ := hR
  subst hv
  have G : GS E I L sg H locs := G.same hI hL
  refine W.eq (g2 := F0 mg 78 ls [.int (if ¬ t 2 = 0 ∧ plcF t u 2 = 0 ∧ ¬ sv 4 / 2 < b 5 then 1 else 0)]) rfl ?_
  refine s_iret (x := (if ¬ t 2 = 0 ∧ plcF t u 2 = 0 ∧ ¬ sv 4 / 2 < b 5 then 1 else 0)) S G hr hlk dX8_fault_78 ?_
  exact ⟨rfl, rfl, rfl⟩
set_option maxHeartbeats 4000000 in
set_option maxRecDepth 100000 in
theorem k_X8_fault_1_0_0 (l : Launch) (E : Ev) {I : SI} {L : SL} (t : Nat → Int32) (e_t : I (17) = t) : CS l yX8_fault wsX8_fault ({ frames := 3, cells := 0, slots := 0, locals := 63 }) E [.ref (E.2.2.2 0), .int (1 : Int32), .int (0 : Int32), .int (0 : Int32)] I L (fun vv I' L' => vv = some (.int (if ¬ t 0 = 0 then 1 else 0)) ∧ I' = I ∧ L' = L) := by
  refine CS.of (cc := cX8_fault) (maxL := 6) (ret := (some .int)) (by decide) rfl (Nat.le_of_ble_eq_true rfl) ?_
  intro pg en sg mg below meth cg ls S hr hlk hX G hl
  have S : CallFix pg mg cg cX8_fault 6 sg _ wsX8_fault RX8 := S
  have hl : lv_has ls 6 [(0, .ref (E.2.2.2 0)), (1, .int (1 : Int32)), (2, .int (0 : Int32)), (3, .int (0 : Int32))] := hl
  refine lv_iload_n S.1 S.2.1 dX8_fault_0 rfl (lv_at hl 1 rfl) ?_
  refine s_callS (As := [.int (1 : Int32)]) (rest := []) S hX G (k_X8_isLoad l E (1 : Int32)) (va_cwS (bytes := cX8_isLoad) (maxL := 1) (ret := (some .boolean)) 1 S.2.2.2.2 gX8_fault_X8_isLoad rfl rfl rfl (by decide +kernel) ⟨Nat.le_of_ble_eq_true rfl, Nat.le_of_ble_eq_true rfl⟩) rfl hl.1 rfl (Nat.le_of_ble_eq_true rfl) ⟨Nat.zero_le _, Nat.zero_le _⟩ dX8_fault_1 (fun v I1 L1 H locs hR G => ?_)
  obtain ⟨hv, hI, hL⟩ := hR
  subst hv
  have G : GS E I L sg H locs := G.same hI hL
  refine W.eq (g2 := F0 mg 4 ls [.int (if ¬ (1 : Int32) < (0 : Int32) ∧ ¬ (1 : Int32) < (1 : Int32) then 1 else 0)]) rfl ?_
  refine s_if_eq_b (P := ¬ (1 : Int32) < (0 : Int32) ∧ ¬ (1 : Int32) < (1 : Int32)) (tgt := 23) S dX8_fault_4 (by decide) (fun h => absurd (by decide) h) (fun _ => ?_)
  refine lv_iload_n S.1 S.2.1 dX8_fault_7 rfl (lv_at hl 2 rfl) ?_
  refine s_callS (As := [.int (0 : Int32)]) (rest := []) S hX G (k_X8_isFault l E (0 : Int32)) (va_cwS (bytes := cX8_isFault) (maxL := 1) (ret := (some .boolean)) 1 S.2.2.2.2 gX8_fault_X8_isFault rfl rfl rfl (by decide +kernel) ⟨Nat.le_of_ble_eq_true rfl, Nat.le_of_ble_eq_true rfl⟩) rfl hl.1 rfl (Nat.le_of_ble_eq_true rfl) ⟨Nat.zero_le _, Nat.zero_le _⟩ dX8_fault_8 (fun v I1 L1 H locs hR G => ?_)
  obtain ⟨hv, hI, hL⟩ := hR
  subst hv
  have G : GS E I L sg H locs := G.same hI hL
  refine W.eq (g2 := F0 mg 11 ls [.int (if ¬ (0 : Int32) < (0 : Int32) ∧ ¬ (2 : Int32) < (0 : Int32) then 1 else 0)]) rfl ?_
  refine s_if_eq_b (P := ¬ (0 : Int32) < (0 : Int32) ∧ ¬ (2 : Int32) < (0 : Int32)) (tgt := 23) S dX8_fault_11 (by decide) (fun h => absurd (by decide) h) (fun _ => ?_)
  refine lv_iload_n S.1 S.2.1 dX8_fault_14 rfl (lv_at hl 3 rfl) ?_
  refine lv_iconst (v := (0 : Int32)) S.1 S.2.1 dX8_fault_15 (by decide) ?_
  refine lv_iconst (v := (4 : Int32)) S.1 S.2.1 dX8_fault_16 (by decide) ?_
  refine s_callS (As := [.int (0 : Int32), .int (0 : Int32), .int (4 : Int32)]) (rest := []) S hX G (k_X8_isWithin l E (0 : Int32) (0 : Int32) (4 : Int32)) (va_cwS (bytes := cX8_isWithin) (maxL := 3) (ret := (some .boolean)) 3 S.2.2.2.2 gX8_fault_X8_isWithin rfl rfl rfl (by decide +kernel) ⟨Nat.le_of_ble_eq_true rfl, Nat.le_of_ble_eq_true rfl⟩) rfl hl.1 rfl (Nat.le_of_ble_eq_true rfl) ⟨Nat.zero_le _, Nat.zero_le _⟩ dX8_fault_17 (fun v I1 L1 H locs hR G => ?_)
  obtain ⟨hv, hI, hL⟩ := hR
  subst hv
  have G : GS E I L sg H locs := G.same hI hL
  refine W.eq (g2 := F0 mg 20 ls [.int (if ¬ (0 : Int32) < (0 : Int32) ∧ ¬ (4 : Int32) < (0 : Int32) then 1 else 0)]) rfl ?_
  refine s_if_ne_b (P := ¬ (0 : Int32) < (0 : Int32) ∧ ¬ (4 : Int32) < (0 : Int32)) (tgt := 26) S dX8_fault_20 (by decide) (fun _ => ?_) (fun h => absurd (by decide) h)
  refine lv_aload_n S.1 S.2.1 dX8_fault_26 rfl (lv_at hl 0 rfl) ?_
  refine s_get S hX G (i := 0) (kd := 8) (a := (I 0)) (v := .ref (E.2.2.2 1)) (C := RX8) (T := TX8) (N := 4) 0 (rfl : sh 0 = 8) rfl rfl rfl (by decide) rfl (fun _ h => (List.mem_cons_of_mem _ (List.mem_append_left _ (List.mem_append_left _ (List.mem_append_left _ (List.mem_append_left _ (List.mem_append_right _ h))))))) (by decide) (List.mem_of_getElem? (i := 2) rfl) (fun _ h => h) dX8_fault_27 ?_
  refine lv_iload_n S.1 S.2.1 dX8_fault_30 rfl (lv_at hl 1 rfl) ?_
  refine s_callV (C := RX0) (As := [.int (1 : Int32)]) (rest := []) (i := 1) (kd := 0) S hX G (k_X0_loadAt_1 l E 1 (by unfold IsB; decide)) (cwV (bytes := cX0_loadAt) (maxL := 2) (ret := (some (.object "BridgeLegs$Load"))) 1 S.2.2.2.2 gX8_fault_X0_loadAt rfl rfl rfl (by decide +kernel) ⟨Nat.le_of_ble_eq_true rfl, Nat.le_of_ble_eq_true rfl⟩) (rfl : sh 1 = 0) rfl rfl rfl (by decide) rfl hl.1 rfl (Nat.le_of_ble_eq_true rfl) ⟨Nat.zero_le _, Nat.zero_le _⟩ dX8_fault_31 (fun v I1 L1 H locs hR G => ?_)
  obtain ⟨hv, hI, hL⟩ := hR
  subst hv
  have G : GS E I L sg H locs := G.same hI hL
  refine W.eq (g2 := F0 mg 34 ls [.ref (E.2.2.2 11)]) rfl ?_
  refine lv_astore (lv' := [(4, .ref (E.2.2.2 11)), (0, .ref (E.2.2.2 0)), (1, .int (1 : Int32)), (2, .int (0 : Int32)), (3, .int (0 : Int32))]) S.1 S.2.1 dX8_fault_34 hl (by decide) rfl (fun ls hl => ?_)
  refine lv_aload S.1 S.2.1 dX8_fault_36 (lv_at hl 0 rfl) ?_
  refine s_getN S hX G (i := 11) (kd := 5) (a := (I 11)) (v := .ref (E.2.2.2 16)) (C := RX5) (T := TX5) (N := 13) 3 (rfl : sh 11 = 5) rfl rfl rfl (by decide) rfl (fun _ h => (List.mem_cons_of_mem _ (List.mem_append_left _ (List.mem_append_left _ (List.mem_append_left _ (List.mem_append_right _ h)))))) (by decide) (List.mem_of_getElem? (i := 19) rfl) (fun _ h => h) dX8_fault_38 ?_
  refine lv_iload_n S.1 S.2.1 dX8_fault_41 rfl (lv_at hl 3 rfl) ?_
  refine s_callV (C := RX3) (As := [.int (0 : Int32)]) (rest := []) (i := 16) (kd := 3) S hX G (k_X3_isLatched_0 l E 16 t (rfl : sh 16 = 3) (rfl : sh 17 = 10) (rfl : sh 18 = 17) (rfl : sh 19 = 17) e_t) (cwV (bytes := cX3_isLatched) (maxL := 2) (ret := (some .boolean)) 1 S.2.2.2.2 gX8_fault_X3_isLatched rfl rfl rfl (by decide +kernel) ⟨Nat.le_of_ble_eq_true rfl, Nat.le_of_ble_eq_true rfl⟩) (rfl : sh 16 = 3) rfl rfl rfl (by decide) rfl hl.1 rfl (Nat.le_of_ble_eq_true rfl) ⟨Nat.zero_le _, Nat.zero_le _⟩ dX8_fault_42 (fun v I1 L1 H locs hR G => ?_)
  obtain ⟨hv, hI, hL⟩ := hR
  subst hv
  have G : GS E I L sg H locs := G.same hI hL
  refine W.eq (g2 := F0 mg 45 ls [.int (if ¬ t 0 = 0 then 1 else 0)]) rfl ?_
  refine lv_istore (lv' := [(5, .int (if ¬ t 0 = 0 then 1 else 0)), (4, .ref (E.2.2.2 11)), (0, .ref (E.2.2.2 0)), (1, .int (1 : Int32)), (2, .int (0 : Int32)), (3, .int (0 : Int32))]) S.1 S.2.1 dX8_fault_45 hl (by decide) rfl (fun ls hl => ?_)
  refine lv_iload_n S.1 S.2.1 dX8_fault_47 rfl (lv_at hl 5 rfl) ?_
  refine lv_if_ne (tgt := 57) S.1 S.2.1 dX8_fault_48 (by decide) (fun h => absurd (by decide) h) (fun _ => ?_)
  refine lv_iload S.1 S.2.1 dX8_fault_51 (lv_at hl 0 rfl) ?_
  refine s_callS (As := [.int (if ¬ t 0 = 0 then 1 else 0)]) (rest := []) S hX G (k_X8_bit l E (if ¬ t 0 = 0 then 1 else 0) isb_ite) (va_cwS (bytes := cX8_bit) (maxL := 1) (ret := (some .int)) 1 S.2.2.2.2 gX8_fault_X8_bit rfl rfl rfl (by decide +kernel) ⟨Nat.le_of_ble_eq_true rfl, Nat.le_of_ble_eq_true rfl⟩) rfl hl.1 rfl (Nat.le_of_ble_eq_true rfl) ⟨Nat.zero_le _, Nat.zero_le _⟩ dX8_fault_53 (fun v I1 L1 H locs hR G => ?_)
  obtain ⟨hv, hI, hL⟩ := hR
  subst hv
  have G : GS E I L sg H locs := G.same hI hL
  refine W.eq (g2 := F0 mg 56 ls [.int (if ¬ t 0 = 0 then 1 else 0)]) rfl ?_
  refine s_iret (x := (if ¬ t 0 = 0 then 1 else 0)) S G hr hlk dX8_fault_56 ?_
  exact ⟨rfl, rfl, rfl⟩
set_option maxHeartbeats 4000000 in
set_option maxRecDepth 100000 in
theorem k_X8_fault_1_0_1 (l : Launch) (E : Ev) {I : SI} {L : SL} (t : Nat → Int32) (u : Nat → Int32) (e_t : I (17) = t) (e_u : I (18) = u) : CS l yX8_fault wsX8_fault ({ frames := 3, cells := 0, slots := 0, locals := 63 }) E [.ref (E.2.2.2 0), .int (1 : Int32), .int (0 : Int32), .int (1 : Int32)] I L (fun vv I' L' => vv = some (.int (if ¬ t 0 = 0 then u 0 else (-2000000004 : Int32))) ∧ I' = I ∧ L' = L) := by
  refine CS.of (cc := cX8_fault) (maxL := 6) (ret := (some .int)) (by decide) rfl (Nat.le_of_ble_eq_true rfl) ?_
  intro pg en sg mg below meth cg ls S hr hlk hX G hl
  have S : CallFix pg mg cg cX8_fault 6 sg _ wsX8_fault RX8 := S
  have hl : lv_has ls 6 [(0, .ref (E.2.2.2 0)), (1, .int (1 : Int32)), (2, .int (0 : Int32)), (3, .int (1 : Int32))] := hl
  refine lv_iload_n S.1 S.2.1 dX8_fault_0 rfl (lv_at hl 1 rfl) ?_
  refine s_callS (As := [.int (1 : Int32)]) (rest := []) S hX G (k_X8_isLoad l E (1 : Int32)) (va_cwS (bytes := cX8_isLoad) (maxL := 1) (ret := (some .boolean)) 1 S.2.2.2.2 gX8_fault_X8_isLoad rfl rfl rfl (by decide +kernel) ⟨Nat.le_of_ble_eq_true rfl, Nat.le_of_ble_eq_true rfl⟩) rfl hl.1 rfl (Nat.le_of_ble_eq_true rfl) ⟨Nat.zero_le _, Nat.zero_le _⟩ dX8_fault_1 (fun v I1 L1 H locs hR G => ?_)
  obtain ⟨hv, hI, hL⟩ := hR
  subst hv
  have G : GS E I L sg H locs := G.same hI hL
  refine W.eq (g2 := F0 mg 4 ls [.int (if ¬ (1 : Int32) < (0 : Int32) ∧ ¬ (1 : Int32) < (1 : Int32) then 1 else 0)]) rfl ?_
  refine s_if_eq_b (P := ¬ (1 : Int32) < (0 : Int32) ∧ ¬ (1 : Int32) < (1 : Int32)) (tgt := 23) S dX8_fault_4 (by decide) (fun h => absurd (by decide) h) (fun _ => ?_)
  refine lv_iload_n S.1 S.2.1 dX8_fault_7 rfl (lv_at hl 2 rfl) ?_
  refine s_callS (As := [.int (0 : Int32)]) (rest := []) S hX G (k_X8_isFault l E (0 : Int32)) (va_cwS (bytes := cX8_isFault) (maxL := 1) (ret := (some .boolean)) 1 S.2.2.2.2 gX8_fault_X8_isFault rfl rfl rfl (by decide +kernel) ⟨Nat.le_of_ble_eq_true rfl, Nat.le_of_ble_eq_true rfl⟩) rfl hl.1 rfl (Nat.le_of_ble_eq_true rfl) ⟨Nat.zero_le _, Nat.zero_le _⟩ dX8_fault_8 (fun v I1 L1 H locs hR G => ?_)
  obtain ⟨hv, hI, hL⟩ := hR
  subst hv
  have G : GS E I L sg H locs := G.same hI hL
  refine W.eq (g2 := F0 mg 11 ls [.int (if ¬ (0 : Int32) < (0 : Int32) ∧ ¬ (2 : Int32) < (0 : Int32) then 1 else 0)]) rfl ?_
  refine s_if_eq_b (P := ¬ (0 : Int32) < (0 : Int32) ∧ ¬ (2 : Int32) < (0 : Int32)) (tgt := 23) S dX8_fault_11 (by decide) (fun h => absurd (by decide) h) (fun _ => ?_)
  refine lv_iload_n S.1 S.2.1 dX8_fault_14 rfl (lv_at hl 3 rfl) ?_
  refine lv_iconst (v := (0 : Int32)) S.1 S.2.1 dX8_fault_15 (by decide) ?_
  refine lv_iconst (v := (4 : Int32)) S.1 S.2.1 dX8_fault_16 (by decide) ?_
  refine s_callS (As := [.int (1 : Int32), .int (0 : Int32), .int (4 : Int32)]) (rest := []) S hX G (k_X8_isWithin l E (1 : Int32) (0 : Int32) (4 : Int32)) (va_cwS (bytes := cX8_isWithin) (maxL := 3) (ret := (some .boolean)) 3 S.2.2.2.2 gX8_fault_X8_isWithin rfl rfl rfl (by decide +kernel) ⟨Nat.le_of_ble_eq_true rfl, Nat.le_of_ble_eq_true rfl⟩) rfl hl.1 rfl (Nat.le_of_ble_eq_true rfl) ⟨Nat.zero_le _, Nat.zero_le _⟩ dX8_fault_17 (fun v I1 L1 H locs hR G => ?_)
  obtain ⟨hv, hI, hL⟩ := hR
  subst hv
  have G : GS E I L sg H locs := G.same hI hL
  refine W.eq (g2 := F0 mg 20 ls [.int (if ¬ (1 : Int32) < (0 : Int32) ∧ ¬ (4 : Int32) < (1 : Int32) then 1 else 0)]) rfl ?_
  refine s_if_ne_b (P := ¬ (1 : Int32) < (0 : Int32) ∧ ¬ (4 : Int32) < (1 : Int32)) (tgt := 26) S dX8_fault_20 (by decide) (fun _ => ?_) (fun h => absurd (by decide) h)
  refine lv_aload_n S.1 S.2.1 dX8_fault_26 rfl (lv_at hl 0 rfl) ?_
  refine s_get S hX G (i := 0) (kd := 8) (a := (I 0)) (v := .ref (E.2.2.2 1)) (C := RX8) (T := TX8) (N := 4) 0 (rfl : sh 0 = 8) rfl rfl rfl (by decide) rfl (fun _ h => (List.mem_cons_of_mem _ (List.mem_append_left _ (List.mem_append_left _ (List.mem_append_left _ (List.mem_append_left _ (List.mem_append_right _ h))))))) (by decide) (List.mem_of_getElem? (i := 2) rfl) (fun _ h => h) dX8_fault_27 ?_
  refine lv_iload_n S.1 S.2.1 dX8_fault_30 rfl (lv_at hl 1 rfl) ?_
  refine s_callV (C := RX0) (As := [.int (1 : Int32)]) (rest := []) (i := 1) (kd := 0) S hX G (k_X0_loadAt_1 l E 1 (by unfold IsB; decide)) (cwV (bytes := cX0_loadAt) (maxL := 2) (ret := (some (.object "BridgeLegs$Load"))) 1 S.2.2.2.2 gX8_fault_X0_loadAt rfl rfl rfl (by decide +kernel) ⟨Nat.le_of_ble_eq_true rfl, Nat.le_of_ble_eq_true rfl⟩) (rfl : sh 1 = 0) rfl rfl rfl (by decide) rfl hl.1 rfl (Nat.le_of_ble_eq_true rfl) ⟨Nat.zero_le _, Nat.zero_le _⟩ dX8_fault_31 (fun v I1 L1 H locs hR G => ?_)
  obtain ⟨hv, hI, hL⟩ := hR
  subst hv
  have G : GS E I L sg H locs := G.same hI hL
  refine W.eq (g2 := F0 mg 34 ls [.ref (E.2.2.2 11)]) rfl ?_
  refine lv_astore (lv' := [(4, .ref (E.2.2.2 11)), (0, .ref (E.2.2.2 0)), (1, .int (1 : Int32)), (2, .int (0 : Int32)), (3, .int (1 : Int32))]) S.1 S.2.1 dX8_fault_34 hl (by decide) rfl (fun ls hl => ?_)
  refine lv_aload S.1 S.2.1 dX8_fault_36 (lv_at hl 0 rfl) ?_
  refine s_getN S hX G (i := 11) (kd := 5) (a := (I 11)) (v := .ref (E.2.2.2 16)) (C := RX5) (T := TX5) (N := 13) 3 (rfl : sh 11 = 5) rfl rfl rfl (by decide) rfl (fun _ h => (List.mem_cons_of_mem _ (List.mem_append_left _ (List.mem_append_left _ (List.mem_append_left _ (List.mem_append_right _ h)))))) (by decide) (List.mem_of_getElem? (i := 19) rfl) (fun _ h => h) dX8_fault_38 ?_
  refine lv_iload_n S.1 S.2.1 dX8_fault_41 rfl (lv_at hl 3 rfl) ?_
  refine s_callV (C := RX3) (As := [.int (0 : Int32)]) (rest := []) (i := 16) (kd := 3) S hX G (k_X3_isLatched_0 l E 16 t (rfl : sh 16 = 3) (rfl : sh 17 = 10) (rfl : sh 18 = 17) (rfl : sh 19 = 17) e_t) (cwV (bytes := cX3_isLatched) (maxL := 2) (ret := (some .boolean)) 1 S.2.2.2.2 gX8_fault_X3_isLatched rfl rfl rfl (by decide +kernel) ⟨Nat.le_of_ble_eq_true rfl, Nat.le_of_ble_eq_true rfl⟩) (rfl : sh 16 = 3) rfl rfl rfl (by decide) rfl hl.1 rfl (Nat.le_of_ble_eq_true rfl) ⟨Nat.zero_le _, Nat.zero_le _⟩ dX8_fault_42 (fun v I1 L1 H locs hR G => ?_)
  obtain ⟨hv, hI, hL⟩ := hR
  subst hv
  have G : GS E I L sg H locs := G.same hI hL
  refine W.eq (g2 := F0 mg 45 ls [.int (if ¬ t 0 = 0 then 1 else 0)]) rfl ?_
  refine lv_istore (lv' := [(5, .int (if ¬ t 0 = 0 then 1 else 0)), (4, .ref (E.2.2.2 11)), (0, .ref (E.2.2.2 0)), (1, .int (1 : Int32)), (2, .int (0 : Int32)), (3, .int (1 : Int32))]) S.1 S.2.1 dX8_fault_45 hl (by decide) rfl (fun ls hl => ?_)
  refine lv_iload_n S.1 S.2.1 dX8_fault_47 rfl (lv_at hl 5 rfl) ?_
  refine lv_if_ne (tgt := 57) S.1 S.2.1 dX8_fault_48 (by decide) (fun _ => ?_) (fun h => absurd h (by decide))
  refine lv_iload_n S.1 S.2.1 dX8_fault_57 rfl (lv_at hl 5 rfl) ?_
  refine lv_iconst (v := (4 : Int32)) S.1 S.2.1 dX8_fault_58 (by decide) ?_
  refine lv_icmp_ne (tgt := 79) S.1 S.2.1 dX8_fault_59 (by decide) (fun _ => ?_) (fun h => absurd h (by decide))
  refine lv_iload S.1 S.2.1 dX8_fault_79 (lv_at hl 0 rfl) ?_
  refine s_if_ne_b (P := ¬ t 0 = 0) (tgt := 87) S dX8_fault_81 (by decide) (fun c_1 => ?_) (fun c_1 => ?_)
  · refine lv_iload_n S.1 S.2.1 dX8_fault_87 rfl (lv_at hl 5 rfl) ?_
    refine lv_lookup (off := 28) (tgt := 116) S.1 S.2.1 dX8_fault_88 (by decide) (by decide) (by decide) ?_
    refine lv_aload S.1 S.2.1 dX8_fault_116 (lv_at hl 1 rfl) ?_
    refine s_getN S hX G (i := 11) (kd := 5) (a := (I 11)) (v := .ref (E.2.2.2 16)) (C := RX5) (T := TX5) (N := 13) 3 (rfl : sh 11 = 5) rfl rfl rfl (by decide) rfl (fun _ h => (List.mem_cons_of_mem _ (List.mem_append_left _ (List.mem_append_left _ (List.mem_append_left _ (List.mem_append_right _ h)))))) (by decide) (List.mem_of_getElem? (i := 19) rfl) (fun _ h => h) dX8_fault_118 ?_
    refine lv_iload_n S.1 S.2.1 dX8_fault_121 rfl (lv_at hl 4 rfl) ?_
    refine s_callV (C := RX3) (As := [.int (0 : Int32)]) (rest := []) (i := 16) (kd := 3) S hX G (k_X3_slotOf_0 l E 16 u (rfl : sh 16 = 3) (rfl : sh 17 = 10) (rfl : sh 18 = 17) (rfl : sh 19 = 17) e_u) (cwV (bytes := cX3_slotOf) (maxL := 2) (ret := (some .int)) 1 S.2.2.2.2 gX8_fault_X3_slotOf rfl rfl rfl (by decide +kernel) ⟨Nat.le_of_ble_eq_true rfl, Nat.le_of_ble_eq_true rfl⟩) (rfl : sh 16 = 3) rfl rfl rfl (by decide) rfl hl.1 rfl (Nat.le_of_ble_eq_true rfl) ⟨Nat.zero_le _, Nat.zero_le _⟩ dX8_fault_122 (fun v I1 L1 H locs hR G => ?_)
    obtain ⟨hv, hI, hL⟩ := hR
    subst hv
    have G : GS E I L sg H locs := G.same hI hL
    refine W.eq (g2 := F0 mg 125 ls [.int (u 0)]) rfl ?_
    refine s_iret (x := (u 0)) S G hr hlk dX8_fault_125 ?_
    exact ⟨(congrArg (fun q : Int32 => some (Value.int q)) (show (u 0) = (if ¬ t 0 = 0 then u 0 else (-2000000004 : Int32)) by first | rfl | exact (if_pos c_1).symm | exact (if_neg c_1).symm)), rfl, rfl⟩
  · refine lv_ldc (v := (-2000000004 : Int32)) S.1 S.2.1 S.2.2.2.1 (S.2.2.2.2 _ (List.mem_of_getElem? (i := 3) rfl)) dX8_fault_84 ?_
    refine s_iret (x := (-2000000004 : Int32)) S G hr hlk dX8_fault_86 ?_
    exact ⟨(congrArg (fun q : Int32 => some (Value.int q)) (show (-2000000004 : Int32) = (if ¬ t 0 = 0 then u 0 else (-2000000004 : Int32)) by first | rfl | exact (if_pos c_1).symm | exact (if_neg c_1).symm)), rfl, rfl⟩
set_option maxHeartbeats 4000000 in
set_option maxRecDepth 100000 in
theorem k_X8_fault_1_0_3 (l : Launch) (E : Ev) {I : SI} {L : SL} (t : Nat → Int32) (u : Nat → Int32) (e_t : I (17) = t) (e_u : I (18) = u) : CS l yX8_fault wsX8_fault ({ frames := 4, cells := 0, slots := 0, locals := 88 }) E [.ref (E.2.2.2 0), .int (1 : Int32), .int (0 : Int32), .int (3 : Int32)] I L (fun vv I' L' => vv = some (.int (if ¬ t 0 = 0 then plcF t u 0 else (-2000000004 : Int32))) ∧ I' = I ∧ L' = L) := by
  refine CS.of (cc := cX8_fault) (maxL := 6) (ret := (some .int)) (by decide) rfl (Nat.le_of_ble_eq_true rfl) ?_
  intro pg en sg mg below meth cg ls S hr hlk hX G hl
  have S : CallFix pg mg cg cX8_fault 6 sg _ wsX8_fault RX8 := S
  have hl : lv_has ls 6 [(0, .ref (E.2.2.2 0)), (1, .int (1 : Int32)), (2, .int (0 : Int32)), (3, .int (3 : Int32))] := hl
  refine lv_iload_n S.1 S.2.1 dX8_fault_0 rfl (lv_at hl 1 rfl) ?_
  refine s_callS (As := [.int (1 : Int32)]) (rest := []) S hX G (k_X8_isLoad l E (1 : Int32)) (va_cwS (bytes := cX8_isLoad) (maxL := 1) (ret := (some .boolean)) 1 S.2.2.2.2 gX8_fault_X8_isLoad rfl rfl rfl (by decide +kernel) ⟨Nat.le_of_ble_eq_true rfl, Nat.le_of_ble_eq_true rfl⟩) rfl hl.1 rfl (Nat.le_of_ble_eq_true rfl) ⟨Nat.zero_le _, Nat.zero_le _⟩ dX8_fault_1 (fun v I1 L1 H locs hR G => ?_)
  obtain ⟨hv, hI, hL⟩ := hR
  subst hv
  have G : GS E I L sg H locs := G.same hI hL
  refine W.eq (g2 := F0 mg 4 ls [.int (if ¬ (1 : Int32) < (0 : Int32) ∧ ¬ (1 : Int32) < (1 : Int32) then 1 else 0)]) rfl ?_
  refine s_if_eq_b (P := ¬ (1 : Int32) < (0 : Int32) ∧ ¬ (1 : Int32) < (1 : Int32)) (tgt := 23) S dX8_fault_4 (by decide) (fun h => absurd (by decide) h) (fun _ => ?_)
  refine lv_iload_n S.1 S.2.1 dX8_fault_7 rfl (lv_at hl 2 rfl) ?_
  refine s_callS (As := [.int (0 : Int32)]) (rest := []) S hX G (k_X8_isFault l E (0 : Int32)) (va_cwS (bytes := cX8_isFault) (maxL := 1) (ret := (some .boolean)) 1 S.2.2.2.2 gX8_fault_X8_isFault rfl rfl rfl (by decide +kernel) ⟨Nat.le_of_ble_eq_true rfl, Nat.le_of_ble_eq_true rfl⟩) rfl hl.1 rfl (Nat.le_of_ble_eq_true rfl) ⟨Nat.zero_le _, Nat.zero_le _⟩ dX8_fault_8 (fun v I1 L1 H locs hR G => ?_)
  obtain ⟨hv, hI, hL⟩ := hR
  subst hv
  have G : GS E I L sg H locs := G.same hI hL
  refine W.eq (g2 := F0 mg 11 ls [.int (if ¬ (0 : Int32) < (0 : Int32) ∧ ¬ (2 : Int32) < (0 : Int32) then 1 else 0)]) rfl ?_
  refine s_if_eq_b (P := ¬ (0 : Int32) < (0 : Int32) ∧ ¬ (2 : Int32) < (0 : Int32)) (tgt := 23) S dX8_fault_11 (by decide) (fun h => absurd (by decide) h) (fun _ => ?_)
  refine lv_iload_n S.1 S.2.1 dX8_fault_14 rfl (lv_at hl 3 rfl) ?_
  refine lv_iconst (v := (0 : Int32)) S.1 S.2.1 dX8_fault_15 (by decide) ?_
  refine lv_iconst (v := (4 : Int32)) S.1 S.2.1 dX8_fault_16 (by decide) ?_
  refine s_callS (As := [.int (3 : Int32), .int (0 : Int32), .int (4 : Int32)]) (rest := []) S hX G (k_X8_isWithin l E (3 : Int32) (0 : Int32) (4 : Int32)) (va_cwS (bytes := cX8_isWithin) (maxL := 3) (ret := (some .boolean)) 3 S.2.2.2.2 gX8_fault_X8_isWithin rfl rfl rfl (by decide +kernel) ⟨Nat.le_of_ble_eq_true rfl, Nat.le_of_ble_eq_true rfl⟩) rfl hl.1 rfl (Nat.le_of_ble_eq_true rfl) ⟨Nat.zero_le _, Nat.zero_le _⟩ dX8_fault_17 (fun v I1 L1 H locs hR G => ?_)
  obtain ⟨hv, hI, hL⟩ := hR
  subst hv
  have G : GS E I L sg H locs := G.same hI hL
  refine W.eq (g2 := F0 mg 20 ls [.int (if ¬ (3 : Int32) < (0 : Int32) ∧ ¬ (4 : Int32) < (3 : Int32) then 1 else 0)]) rfl ?_
  refine s_if_ne_b (P := ¬ (3 : Int32) < (0 : Int32) ∧ ¬ (4 : Int32) < (3 : Int32)) (tgt := 26) S dX8_fault_20 (by decide) (fun _ => ?_) (fun h => absurd (by decide) h)
  refine lv_aload_n S.1 S.2.1 dX8_fault_26 rfl (lv_at hl 0 rfl) ?_
  refine s_get S hX G (i := 0) (kd := 8) (a := (I 0)) (v := .ref (E.2.2.2 1)) (C := RX8) (T := TX8) (N := 4) 0 (rfl : sh 0 = 8) rfl rfl rfl (by decide) rfl (fun _ h => (List.mem_cons_of_mem _ (List.mem_append_left _ (List.mem_append_left _ (List.mem_append_left _ (List.mem_append_left _ (List.mem_append_right _ h))))))) (by decide) (List.mem_of_getElem? (i := 2) rfl) (fun _ h => h) dX8_fault_27 ?_
  refine lv_iload_n S.1 S.2.1 dX8_fault_30 rfl (lv_at hl 1 rfl) ?_
  refine s_callV (C := RX0) (As := [.int (1 : Int32)]) (rest := []) (i := 1) (kd := 0) S hX G (k_X0_loadAt_1 l E 1 (by unfold IsB; decide)) (cwV (bytes := cX0_loadAt) (maxL := 2) (ret := (some (.object "BridgeLegs$Load"))) 1 S.2.2.2.2 gX8_fault_X0_loadAt rfl rfl rfl (by decide +kernel) ⟨Nat.le_of_ble_eq_true rfl, Nat.le_of_ble_eq_true rfl⟩) (rfl : sh 1 = 0) rfl rfl rfl (by decide) rfl hl.1 rfl (Nat.le_of_ble_eq_true rfl) ⟨Nat.zero_le _, Nat.zero_le _⟩ dX8_fault_31 (fun v I1 L1 H locs hR G => ?_)
  obtain ⟨hv, hI, hL⟩ := hR
  subst hv
  have G : GS E I L sg H locs := G.same hI hL
  refine W.eq (g2 := F0 mg 34 ls [.ref (E.2.2.2 11)]) rfl ?_
  refine lv_astore (lv' := [(4, .ref (E.2.2.2 11)), (0, .ref (E.2.2.2 0)), (1, .int (1 : Int32)), (2, .int (0 : Int32)), (3, .int (3 : Int32))]) S.1 S.2.1 dX8_fault_34 hl (by decide) rfl (fun ls hl => ?_)
  refine lv_aload S.1 S.2.1 dX8_fault_36 (lv_at hl 0 rfl) ?_
  refine s_getN S hX G (i := 11) (kd := 5) (a := (I 11)) (v := .ref (E.2.2.2 16)) (C := RX5) (T := TX5) (N := 13) 3 (rfl : sh 11 = 5) rfl rfl rfl (by decide) rfl (fun _ h => (List.mem_cons_of_mem _ (List.mem_append_left _ (List.mem_append_left _ (List.mem_append_left _ (List.mem_append_right _ h)))))) (by decide) (List.mem_of_getElem? (i := 19) rfl) (fun _ h => h) dX8_fault_38 ?_
  refine lv_iload_n S.1 S.2.1 dX8_fault_41 rfl (lv_at hl 3 rfl) ?_
  refine s_callV (C := RX3) (As := [.int (0 : Int32)]) (rest := []) (i := 16) (kd := 3) S hX G (k_X3_isLatched_0 l E 16 t (rfl : sh 16 = 3) (rfl : sh 17 = 10) (rfl : sh 18 = 17) (rfl : sh 19 = 17) e_t) (cwV (bytes := cX3_isLatched) (maxL := 2) (ret := (some .boolean)) 1 S.2.2.2.2 gX8_fault_X3_isLatched rfl rfl rfl (by decide +kernel) ⟨Nat.le_of_ble_eq_true rfl, Nat.le_of_ble_eq_true rfl⟩) (rfl : sh 16 = 3) rfl rfl rfl (by decide) rfl hl.1 rfl (Nat.le_of_ble_eq_true rfl) ⟨Nat.zero_le _, Nat.zero_le _⟩ dX8_fault_42 (fun v I1 L1 H locs hR G => ?_)
  obtain ⟨hv, hI, hL⟩ := hR
  subst hv
  have G : GS E I L sg H locs := G.same hI hL
  refine W.eq (g2 := F0 mg 45 ls [.int (if ¬ t 0 = 0 then 1 else 0)]) rfl ?_
  refine lv_istore (lv' := [(5, .int (if ¬ t 0 = 0 then 1 else 0)), (4, .ref (E.2.2.2 11)), (0, .ref (E.2.2.2 0)), (1, .int (1 : Int32)), (2, .int (0 : Int32)), (3, .int (3 : Int32))]) S.1 S.2.1 dX8_fault_45 hl (by decide) rfl (fun ls hl => ?_)
  refine lv_iload_n S.1 S.2.1 dX8_fault_47 rfl (lv_at hl 5 rfl) ?_
  refine lv_if_ne (tgt := 57) S.1 S.2.1 dX8_fault_48 (by decide) (fun _ => ?_) (fun h => absurd h (by decide))
  refine lv_iload_n S.1 S.2.1 dX8_fault_57 rfl (lv_at hl 5 rfl) ?_
  refine lv_iconst (v := (4 : Int32)) S.1 S.2.1 dX8_fault_58 (by decide) ?_
  refine lv_icmp_ne (tgt := 79) S.1 S.2.1 dX8_fault_59 (by decide) (fun _ => ?_) (fun h => absurd h (by decide))
  refine lv_iload S.1 S.2.1 dX8_fault_79 (lv_at hl 0 rfl) ?_
  refine s_if_ne_b (P := ¬ t 0 = 0) (tgt := 87) S dX8_fault_81 (by decide) (fun c_1 => ?_) (fun c_1 => ?_)
  · refine lv_iload_n S.1 S.2.1 dX8_fault_87 rfl (lv_at hl 5 rfl) ?_
    refine lv_lookup (off := 48) (tgt := 136) S.1 S.2.1 dX8_fault_88 (by decide) (by decide) (by decide) ?_
    refine lv_aload S.1 S.2.1 dX8_fault_136 (lv_at hl 1 rfl) ?_
    refine s_getN S hX G (i := 11) (kd := 5) (a := (I 11)) (v := .ref (E.2.2.2 16)) (C := RX5) (T := TX5) (N := 13) 3 (rfl : sh 11 = 5) rfl rfl rfl (by decide) rfl (fun _ h => (List.mem_cons_of_mem _ (List.mem_append_left _ (List.mem_append_left _ (List.mem_append_left _ (List.mem_append_right _ h)))))) (by decide) (List.mem_of_getElem? (i := 19) rfl) (fun _ h => h) dX8_fault_138 ?_
    refine lv_iload_n S.1 S.2.1 dX8_fault_141 rfl (lv_at hl 4 rfl) ?_
    refine s_callV (C := RX3) (As := [.int (0 : Int32)]) (rest := []) (i := 16) (kd := 3) S hX G (k_X3_placeOf_0 l E 16 t u (rfl : sh 16 = 3) (rfl : sh 17 = 10) (rfl : sh 18 = 17) (rfl : sh 19 = 17) e_t e_u) (cwV (bytes := cX3_placeOf) (maxL := 6) (ret := (some .int)) 1 S.2.2.2.2 gX8_fault_X3_placeOf rfl rfl rfl (by decide +kernel) ⟨Nat.le_of_ble_eq_true rfl, Nat.le_of_ble_eq_true rfl⟩) (rfl : sh 16 = 3) rfl rfl rfl (by decide) rfl hl.1 rfl (Nat.le_of_ble_eq_true rfl) ⟨Nat.zero_le _, Nat.zero_le _⟩ dX8_fault_142 (fun v I1 L1 H locs hR G => ?_)
    obtain ⟨hv, hI, hL⟩ := hR
    subst hv
    have G : GS E I L sg H locs := G.same hI hL
    refine W.eq (g2 := F0 mg 145 ls [.int (plcF t u 0)]) rfl ?_
    refine lv_topi (fun y_2 ey_2 => ?_)
    refine s_iret (x := y_2) S G hr hlk dX8_fault_145 ?_
    exact ⟨(congrArg (fun q : Int32 => some (Value.int q)) (show y_2 = (if ¬ t 0 = 0 then plcF t u 0 else (-2000000004 : Int32)) by subst ey_2; (first | rfl | exact (if_pos c_1).symm | exact (if_neg c_1).symm))), rfl, rfl⟩
  · refine lv_ldc (v := (-2000000004 : Int32)) S.1 S.2.1 S.2.2.2.1 (S.2.2.2.2 _ (List.mem_of_getElem? (i := 3) rfl)) dX8_fault_84 ?_
    refine s_iret (x := (-2000000004 : Int32)) S G hr hlk dX8_fault_86 ?_
    exact ⟨(congrArg (fun q : Int32 => some (Value.int q)) (show (-2000000004 : Int32) = (if ¬ t 0 = 0 then plcF t u 0 else (-2000000004 : Int32)) by first | rfl | exact (if_pos c_1).symm | exact (if_neg c_1).symm)), rfl, rfl⟩
set_option maxHeartbeats 4000000 in
set_option maxRecDepth 100000 in
theorem k_X8_fault_1_0_4 (l : Launch) (E : Ev) {I : SI} {L : SL} (t : Nat → Int32) (b : Nat → Int32) (u : Nat → Int32) (sv : Nat → Int32) (e_t : I (17) = t) (e_b : I (11) = b) (e_u : I (18) = u) (e_sv : I (21) = sv) : CS l yX8_fault wsX8_fault ({ frames := 5, cells := 0, slots := 0, locals := 110 }) E [.ref (E.2.2.2 0), .int (1 : Int32), .int (0 : Int32), .int (4 : Int32)] I L (fun vv I' L' => vv = some (.int (if ¬ t 0 = 0 ∧ plcF t u 0 = 0 ∧ ¬ sv 2 ≤ absI (b 4) then 1 else 0)) ∧ I' = I ∧ L' = L) := by
  refine CS.of (cc := cX8_fault) (maxL := 6) (ret := (some .int)) (by decide) rfl (Nat.le_of_ble_eq_true rfl) ?_
  intro pg en sg mg below meth cg ls S hr hlk hX G hl
  have S : CallFix pg mg cg cX8_fault 6 sg _ wsX8_fault RX8 := S
  have hl : lv_has ls 6 [(0, .ref (E.2.2.2 0)), (1, .int (1 : Int32)), (2, .int (0 : Int32)), (3, .int (4 : Int32))] := hl
  refine lv_iload_n S.1 S.2.1 dX8_fault_0 rfl (lv_at hl 1 rfl) ?_
  refine s_callS (As := [.int (1 : Int32)]) (rest := []) S hX G (k_X8_isLoad l E (1 : Int32)) (va_cwS (bytes := cX8_isLoad) (maxL := 1) (ret := (some .boolean)) 1 S.2.2.2.2 gX8_fault_X8_isLoad rfl rfl rfl (by decide +kernel) ⟨Nat.le_of_ble_eq_true rfl, Nat.le_of_ble_eq_true rfl⟩) rfl hl.1 rfl (Nat.le_of_ble_eq_true rfl) ⟨Nat.zero_le _, Nat.zero_le _⟩ dX8_fault_1 (fun v I1 L1 H locs hR G => ?_)
  obtain ⟨hv, hI, hL⟩ := hR
  subst hv
  have G : GS E I L sg H locs := G.same hI hL
  refine W.eq (g2 := F0 mg 4 ls [.int (if ¬ (1 : Int32) < (0 : Int32) ∧ ¬ (1 : Int32) < (1 : Int32) then 1 else 0)]) rfl ?_
  refine s_if_eq_b (P := ¬ (1 : Int32) < (0 : Int32) ∧ ¬ (1 : Int32) < (1 : Int32)) (tgt := 23) S dX8_fault_4 (by decide) (fun h => absurd (by decide) h) (fun _ => ?_)
  refine lv_iload_n S.1 S.2.1 dX8_fault_7 rfl (lv_at hl 2 rfl) ?_
  refine s_callS (As := [.int (0 : Int32)]) (rest := []) S hX G (k_X8_isFault l E (0 : Int32)) (va_cwS (bytes := cX8_isFault) (maxL := 1) (ret := (some .boolean)) 1 S.2.2.2.2 gX8_fault_X8_isFault rfl rfl rfl (by decide +kernel) ⟨Nat.le_of_ble_eq_true rfl, Nat.le_of_ble_eq_true rfl⟩) rfl hl.1 rfl (Nat.le_of_ble_eq_true rfl) ⟨Nat.zero_le _, Nat.zero_le _⟩ dX8_fault_8 (fun v I1 L1 H locs hR G => ?_)
  obtain ⟨hv, hI, hL⟩ := hR
  subst hv
  have G : GS E I L sg H locs := G.same hI hL
  refine W.eq (g2 := F0 mg 11 ls [.int (if ¬ (0 : Int32) < (0 : Int32) ∧ ¬ (2 : Int32) < (0 : Int32) then 1 else 0)]) rfl ?_
  refine s_if_eq_b (P := ¬ (0 : Int32) < (0 : Int32) ∧ ¬ (2 : Int32) < (0 : Int32)) (tgt := 23) S dX8_fault_11 (by decide) (fun h => absurd (by decide) h) (fun _ => ?_)
  refine lv_iload_n S.1 S.2.1 dX8_fault_14 rfl (lv_at hl 3 rfl) ?_
  refine lv_iconst (v := (0 : Int32)) S.1 S.2.1 dX8_fault_15 (by decide) ?_
  refine lv_iconst (v := (4 : Int32)) S.1 S.2.1 dX8_fault_16 (by decide) ?_
  refine s_callS (As := [.int (4 : Int32), .int (0 : Int32), .int (4 : Int32)]) (rest := []) S hX G (k_X8_isWithin l E (4 : Int32) (0 : Int32) (4 : Int32)) (va_cwS (bytes := cX8_isWithin) (maxL := 3) (ret := (some .boolean)) 3 S.2.2.2.2 gX8_fault_X8_isWithin rfl rfl rfl (by decide +kernel) ⟨Nat.le_of_ble_eq_true rfl, Nat.le_of_ble_eq_true rfl⟩) rfl hl.1 rfl (Nat.le_of_ble_eq_true rfl) ⟨Nat.zero_le _, Nat.zero_le _⟩ dX8_fault_17 (fun v I1 L1 H locs hR G => ?_)
  obtain ⟨hv, hI, hL⟩ := hR
  subst hv
  have G : GS E I L sg H locs := G.same hI hL
  refine W.eq (g2 := F0 mg 20 ls [.int (if ¬ (4 : Int32) < (0 : Int32) ∧ ¬ (4 : Int32) < (4 : Int32) then 1 else 0)]) rfl ?_
  refine s_if_ne_b (P := ¬ (4 : Int32) < (0 : Int32) ∧ ¬ (4 : Int32) < (4 : Int32)) (tgt := 26) S dX8_fault_20 (by decide) (fun _ => ?_) (fun h => absurd (by decide) h)
  refine lv_aload_n S.1 S.2.1 dX8_fault_26 rfl (lv_at hl 0 rfl) ?_
  refine s_get S hX G (i := 0) (kd := 8) (a := (I 0)) (v := .ref (E.2.2.2 1)) (C := RX8) (T := TX8) (N := 4) 0 (rfl : sh 0 = 8) rfl rfl rfl (by decide) rfl (fun _ h => (List.mem_cons_of_mem _ (List.mem_append_left _ (List.mem_append_left _ (List.mem_append_left _ (List.mem_append_left _ (List.mem_append_right _ h))))))) (by decide) (List.mem_of_getElem? (i := 2) rfl) (fun _ h => h) dX8_fault_27 ?_
  refine lv_iload_n S.1 S.2.1 dX8_fault_30 rfl (lv_at hl 1 rfl) ?_
  refine s_callV (C := RX0) (As := [.int (1 : Int32)]) (rest := []) (i := 1) (kd := 0) S hX G (k_X0_loadAt_1 l E 1 (by unfold IsB; decide)) (cwV (bytes := cX0_loadAt) (maxL := 2) (ret := (some (.object "BridgeLegs$Load"))) 1 S.2.2.2.2 gX8_fault_X0_loadAt rfl rfl rfl (by decide +kernel) ⟨Nat.le_of_ble_eq_true rfl, Nat.le_of_ble_eq_true rfl⟩) (rfl : sh 1 = 0) rfl rfl rfl (by decide) rfl hl.1 rfl (Nat.le_of_ble_eq_true rfl) ⟨Nat.zero_le _, Nat.zero_le _⟩ dX8_fault_31 (fun v I1 L1 H locs hR G => ?_)
  obtain ⟨hv, hI, hL⟩ := hR
  subst hv
  have G : GS E I L sg H locs := G.same hI hL
  refine W.eq (g2 := F0 mg 34 ls [.ref (E.2.2.2 11)]) rfl ?_
  refine lv_astore (lv' := [(4, .ref (E.2.2.2 11)), (0, .ref (E.2.2.2 0)), (1, .int (1 : Int32)), (2, .int (0 : Int32)), (3, .int (4 : Int32))]) S.1 S.2.1 dX8_fault_34 hl (by decide) rfl (fun ls hl => ?_)
  refine lv_aload S.1 S.2.1 dX8_fault_36 (lv_at hl 0 rfl) ?_
  refine s_getN S hX G (i := 11) (kd := 5) (a := b) (v := .ref (E.2.2.2 16)) (C := RX5) (T := TX5) (N := 13) 3 (rfl : sh 11 = 5) e_b rfl rfl (by decide) rfl (fun _ h => (List.mem_cons_of_mem _ (List.mem_append_left _ (List.mem_append_left _ (List.mem_append_left _ (List.mem_append_right _ h)))))) (by decide) (List.mem_of_getElem? (i := 19) rfl) (fun _ h => h) dX8_fault_38 ?_
  refine lv_iload_n S.1 S.2.1 dX8_fault_41 rfl (lv_at hl 3 rfl) ?_
  refine s_callV (C := RX3) (As := [.int (0 : Int32)]) (rest := []) (i := 16) (kd := 3) S hX G (k_X3_isLatched_0 l E 16 t (rfl : sh 16 = 3) (rfl : sh 17 = 10) (rfl : sh 18 = 17) (rfl : sh 19 = 17) e_t) (cwV (bytes := cX3_isLatched) (maxL := 2) (ret := (some .boolean)) 1 S.2.2.2.2 gX8_fault_X3_isLatched rfl rfl rfl (by decide +kernel) ⟨Nat.le_of_ble_eq_true rfl, Nat.le_of_ble_eq_true rfl⟩) (rfl : sh 16 = 3) rfl rfl rfl (by decide) rfl hl.1 rfl (Nat.le_of_ble_eq_true rfl) ⟨Nat.zero_le _, Nat.zero_le _⟩ dX8_fault_42 (fun v I1 L1 H locs hR G => ?_)
  obtain ⟨hv, hI, hL⟩ := hR
  subst hv
  have G : GS E I L sg H locs := G.same hI hL
  refine W.eq (g2 := F0 mg 45 ls [.int (if ¬ t 0 = 0 then 1 else 0)]) rfl ?_
  refine lv_istore (lv' := [(5, .int (if ¬ t 0 = 0 then 1 else 0)), (4, .ref (E.2.2.2 11)), (0, .ref (E.2.2.2 0)), (1, .int (1 : Int32)), (2, .int (0 : Int32)), (3, .int (4 : Int32))]) S.1 S.2.1 dX8_fault_45 hl (by decide) rfl (fun ls hl => ?_)
  refine lv_iload_n S.1 S.2.1 dX8_fault_47 rfl (lv_at hl 5 rfl) ?_
  refine lv_if_ne (tgt := 57) S.1 S.2.1 dX8_fault_48 (by decide) (fun _ => ?_) (fun h => absurd h (by decide))
  refine lv_iload_n S.1 S.2.1 dX8_fault_57 rfl (lv_at hl 5 rfl) ?_
  refine lv_iconst (v := (4 : Int32)) S.1 S.2.1 dX8_fault_58 (by decide) ?_
  refine lv_icmp_ne (tgt := 79) S.1 S.2.1 dX8_fault_59 (by decide) (fun h => absurd (by decide) h) (fun _ => ?_)
  refine lv_aload S.1 S.2.1 dX8_fault_62 (lv_at hl 1 rfl) ?_
  refine lv_iload_n S.1 S.2.1 dX8_fault_64 rfl (lv_at hl 4 rfl) ?_
  refine lv_aload_n S.1 S.2.1 dX8_fault_65 rfl (lv_at hl 2 rfl) ?_
  refine s_get S hX G (i := 0) (kd := 8) (a := (I 0)) (v := .ref (E.2.2.2 1)) (C := RX8) (T := TX8) (N := 4) 0 (rfl : sh 0 = 8) rfl rfl rfl (by decide) rfl (fun _ h => (List.mem_cons_of_mem _ (List.mem_append_left _ (List.mem_append_left _ (List.mem_append_left _ (List.mem_append_left _ (List.mem_append_right _ h))))))) (by decide) (List.mem_of_getElem? (i := 2) rfl) (fun _ h => h) dX8_fault_66 ?_
  refine s_getN S hX G (i := 1) (kd := 0) (a := (I 1)) (v := .ref (E.2.2.2 20)) (C := RX0) (T := TX0) (N := 5) 2 (rfl : sh 1 = 0) rfl rfl rfl (by decide) rfl (fun _ h => (List.mem_cons_of_mem _ (List.mem_append_left _ (List.mem_append_left _ (List.mem_append_right _ h))))) (by decide) (List.mem_of_getElem? (i := 33) rfl) (fun _ h => h) dX8_fault_69 ?_
  refine s_callV (C := RX5) (As := [.int (0 : Int32), .ref (E.2.2.2 20)]) (rest := []) (i := 11) (kd := 5) S hX G (k_X5_isClearable_0 l E 11 20 b t u sv (by unfold IsLd; decide) (rfl : sh 20 = 1) (rfl : sh 21 = 20) e_b e_t e_u e_sv) (cwV (bytes := cX5_isClearable) (maxL := 3) (ret := (some .boolean)) 2 S.2.2.2.2 gX8_fault_X5_isClearable rfl rfl rfl (by decide +kernel) ⟨Nat.le_of_ble_eq_true rfl, Nat.le_of_ble_eq_true rfl⟩) (rfl : sh 11 = 5) rfl rfl rfl (by decide) rfl hl.1 rfl (Nat.le_of_ble_eq_true rfl) ⟨Nat.zero_le _, Nat.zero_le _⟩ dX8_fault_72 (fun v I1 L1 H locs hR G => ?_)
  obtain ⟨hv, hI, hL⟩ := hR
  subst hv
  have G : GS E I L sg H locs := G.same hI hL
  refine W.eq (g2 := F0 mg 75 ls [.int (if ¬ t 0 = 0 ∧ plcF t u 0 = 0 ∧ ¬ sv 2 ≤ absI (b 4) then 1 else 0)]) rfl ?_
  refine s_callS (As := [.int (if ¬ t 0 = 0 ∧ plcF t u 0 = 0 ∧ ¬ sv 2 ≤ absI (b 4) then 1 else 0)]) (rest := []) S hX G (k_X8_bit l E (if ¬ t 0 = 0 ∧ plcF t u 0 = 0 ∧ ¬ sv 2 ≤ absI (b 4) then 1 else 0) isb_ite) (va_cwS (bytes := cX8_bit) (maxL := 1) (ret := (some .int)) 1 S.2.2.2.2 gX8_fault_X8_bit rfl rfl rfl (by decide +kernel) ⟨Nat.le_of_ble_eq_true rfl, Nat.le_of_ble_eq_true rfl⟩) rfl hl.1 rfl (Nat.le_of_ble_eq_true rfl) ⟨Nat.zero_le _, Nat.zero_le _⟩ dX8_fault_75 (fun v I1 L1 H locs hR G => ?_)
  obtain ⟨hv, hI, hL⟩ := hR
  subst hv
  have G : GS E I L sg H locs := G.same hI hL
  refine W.eq (g2 := F0 mg 78 ls [.int (if ¬ t 0 = 0 ∧ plcF t u 0 = 0 ∧ ¬ sv 2 ≤ absI (b 4) then 1 else 0)]) rfl ?_
  refine s_iret (x := (if ¬ t 0 = 0 ∧ plcF t u 0 = 0 ∧ ¬ sv 2 ≤ absI (b 4) then 1 else 0)) S G hr hlk dX8_fault_78 ?_
  exact ⟨rfl, rfl, rfl⟩
set_option maxHeartbeats 4000000 in
set_option maxRecDepth 100000 in
theorem k_X8_fault_1_1_0 (l : Launch) (E : Ev) {I : SI} {L : SL} (t : Nat → Int32) (e_t : I (17) = t) : CS l yX8_fault wsX8_fault ({ frames := 3, cells := 0, slots := 0, locals := 63 }) E [.ref (E.2.2.2 0), .int (1 : Int32), .int (1 : Int32), .int (0 : Int32)] I L (fun vv I' L' => vv = some (.int (if ¬ t 1 = 0 then 1 else 0)) ∧ I' = I ∧ L' = L) := by
  refine CS.of (cc := cX8_fault) (maxL := 6) (ret := (some .int)) (by decide) rfl (Nat.le_of_ble_eq_true rfl) ?_
  intro pg en sg mg below meth cg ls S hr hlk hX G hl
  have S : CallFix pg mg cg cX8_fault 6 sg _ wsX8_fault RX8 := S
  have hl : lv_has ls 6 [(0, .ref (E.2.2.2 0)), (1, .int (1 : Int32)), (2, .int (1 : Int32)), (3, .int (0 : Int32))] := hl
  refine lv_iload_n S.1 S.2.1 dX8_fault_0 rfl (lv_at hl 1 rfl) ?_
  refine s_callS (As := [.int (1 : Int32)]) (rest := []) S hX G (k_X8_isLoad l E (1 : Int32)) (va_cwS (bytes := cX8_isLoad) (maxL := 1) (ret := (some .boolean)) 1 S.2.2.2.2 gX8_fault_X8_isLoad rfl rfl rfl (by decide +kernel) ⟨Nat.le_of_ble_eq_true rfl, Nat.le_of_ble_eq_true rfl⟩) rfl hl.1 rfl (Nat.le_of_ble_eq_true rfl) ⟨Nat.zero_le _, Nat.zero_le _⟩ dX8_fault_1 (fun v I1 L1 H locs hR G => ?_)
  obtain ⟨hv, hI, hL⟩ := hR
  subst hv
  have G : GS E I L sg H locs := G.same hI hL
  refine W.eq (g2 := F0 mg 4 ls [.int (if ¬ (1 : Int32) < (0 : Int32) ∧ ¬ (1 : Int32) < (1 : Int32) then 1 else 0)]) rfl ?_
  refine s_if_eq_b (P := ¬ (1 : Int32) < (0 : Int32) ∧ ¬ (1 : Int32) < (1 : Int32)) (tgt := 23) S dX8_fault_4 (by decide) (fun h => absurd (by decide) h) (fun _ => ?_)
  refine lv_iload_n S.1 S.2.1 dX8_fault_7 rfl (lv_at hl 2 rfl) ?_
  refine s_callS (As := [.int (1 : Int32)]) (rest := []) S hX G (k_X8_isFault l E (1 : Int32)) (va_cwS (bytes := cX8_isFault) (maxL := 1) (ret := (some .boolean)) 1 S.2.2.2.2 gX8_fault_X8_isFault rfl rfl rfl (by decide +kernel) ⟨Nat.le_of_ble_eq_true rfl, Nat.le_of_ble_eq_true rfl⟩) rfl hl.1 rfl (Nat.le_of_ble_eq_true rfl) ⟨Nat.zero_le _, Nat.zero_le _⟩ dX8_fault_8 (fun v I1 L1 H locs hR G => ?_)
  obtain ⟨hv, hI, hL⟩ := hR
  subst hv
  have G : GS E I L sg H locs := G.same hI hL
  refine W.eq (g2 := F0 mg 11 ls [.int (if ¬ (1 : Int32) < (0 : Int32) ∧ ¬ (2 : Int32) < (1 : Int32) then 1 else 0)]) rfl ?_
  refine s_if_eq_b (P := ¬ (1 : Int32) < (0 : Int32) ∧ ¬ (2 : Int32) < (1 : Int32)) (tgt := 23) S dX8_fault_11 (by decide) (fun h => absurd (by decide) h) (fun _ => ?_)
  refine lv_iload_n S.1 S.2.1 dX8_fault_14 rfl (lv_at hl 3 rfl) ?_
  refine lv_iconst (v := (0 : Int32)) S.1 S.2.1 dX8_fault_15 (by decide) ?_
  refine lv_iconst (v := (4 : Int32)) S.1 S.2.1 dX8_fault_16 (by decide) ?_
  refine s_callS (As := [.int (0 : Int32), .int (0 : Int32), .int (4 : Int32)]) (rest := []) S hX G (k_X8_isWithin l E (0 : Int32) (0 : Int32) (4 : Int32)) (va_cwS (bytes := cX8_isWithin) (maxL := 3) (ret := (some .boolean)) 3 S.2.2.2.2 gX8_fault_X8_isWithin rfl rfl rfl (by decide +kernel) ⟨Nat.le_of_ble_eq_true rfl, Nat.le_of_ble_eq_true rfl⟩) rfl hl.1 rfl (Nat.le_of_ble_eq_true rfl) ⟨Nat.zero_le _, Nat.zero_le _⟩ dX8_fault_17 (fun v I1 L1 H locs hR G => ?_)
  obtain ⟨hv, hI, hL⟩ := hR
  subst hv
  have G : GS E I L sg H locs := G.same hI hL
  refine W.eq (g2 := F0 mg 20 ls [.int (if ¬ (0 : Int32) < (0 : Int32) ∧ ¬ (4 : Int32) < (0 : Int32) then 1 else 0)]) rfl ?_
  refine s_if_ne_b (P := ¬ (0 : Int32) < (0 : Int32) ∧ ¬ (4 : Int32) < (0 : Int32)) (tgt := 26) S dX8_fault_20 (by decide) (fun _ => ?_) (fun h => absurd (by decide) h)
  refine lv_aload_n S.1 S.2.1 dX8_fault_26 rfl (lv_at hl 0 rfl) ?_
  refine s_get S hX G (i := 0) (kd := 8) (a := (I 0)) (v := .ref (E.2.2.2 1)) (C := RX8) (T := TX8) (N := 4) 0 (rfl : sh 0 = 8) rfl rfl rfl (by decide) rfl (fun _ h => (List.mem_cons_of_mem _ (List.mem_append_left _ (List.mem_append_left _ (List.mem_append_left _ (List.mem_append_left _ (List.mem_append_right _ h))))))) (by decide) (List.mem_of_getElem? (i := 2) rfl) (fun _ h => h) dX8_fault_27 ?_
  refine lv_iload_n S.1 S.2.1 dX8_fault_30 rfl (lv_at hl 1 rfl) ?_
  refine s_callV (C := RX0) (As := [.int (1 : Int32)]) (rest := []) (i := 1) (kd := 0) S hX G (k_X0_loadAt_1 l E 1 (by unfold IsB; decide)) (cwV (bytes := cX0_loadAt) (maxL := 2) (ret := (some (.object "BridgeLegs$Load"))) 1 S.2.2.2.2 gX8_fault_X0_loadAt rfl rfl rfl (by decide +kernel) ⟨Nat.le_of_ble_eq_true rfl, Nat.le_of_ble_eq_true rfl⟩) (rfl : sh 1 = 0) rfl rfl rfl (by decide) rfl hl.1 rfl (Nat.le_of_ble_eq_true rfl) ⟨Nat.zero_le _, Nat.zero_le _⟩ dX8_fault_31 (fun v I1 L1 H locs hR G => ?_)
  obtain ⟨hv, hI, hL⟩ := hR
  subst hv
  have G : GS E I L sg H locs := G.same hI hL
  refine W.eq (g2 := F0 mg 34 ls [.ref (E.2.2.2 11)]) rfl ?_
  refine lv_astore (lv' := [(4, .ref (E.2.2.2 11)), (0, .ref (E.2.2.2 0)), (1, .int (1 : Int32)), (2, .int (1 : Int32)), (3, .int (0 : Int32))]) S.1 S.2.1 dX8_fault_34 hl (by decide) rfl (fun ls hl => ?_)
  refine lv_aload S.1 S.2.1 dX8_fault_36 (lv_at hl 0 rfl) ?_
  refine s_getN S hX G (i := 11) (kd := 5) (a := (I 11)) (v := .ref (E.2.2.2 16)) (C := RX5) (T := TX5) (N := 13) 3 (rfl : sh 11 = 5) rfl rfl rfl (by decide) rfl (fun _ h => (List.mem_cons_of_mem _ (List.mem_append_left _ (List.mem_append_left _ (List.mem_append_left _ (List.mem_append_right _ h)))))) (by decide) (List.mem_of_getElem? (i := 19) rfl) (fun _ h => h) dX8_fault_38 ?_
  refine lv_iload_n S.1 S.2.1 dX8_fault_41 rfl (lv_at hl 3 rfl) ?_
  refine s_callV (C := RX3) (As := [.int (1 : Int32)]) (rest := []) (i := 16) (kd := 3) S hX G (k_X3_isLatched_1 l E 16 t (rfl : sh 16 = 3) (rfl : sh 17 = 10) (rfl : sh 18 = 17) (rfl : sh 19 = 17) e_t) (cwV (bytes := cX3_isLatched) (maxL := 2) (ret := (some .boolean)) 1 S.2.2.2.2 gX8_fault_X3_isLatched rfl rfl rfl (by decide +kernel) ⟨Nat.le_of_ble_eq_true rfl, Nat.le_of_ble_eq_true rfl⟩) (rfl : sh 16 = 3) rfl rfl rfl (by decide) rfl hl.1 rfl (Nat.le_of_ble_eq_true rfl) ⟨Nat.zero_le _, Nat.zero_le _⟩ dX8_fault_42 (fun v I1 L1 H locs hR G => ?_)
  obtain ⟨hv, hI, hL⟩ := hR
  subst hv
  have G : GS E I L sg H locs := G.same hI hL
  refine W.eq (g2 := F0 mg 45 ls [.int (if ¬ t 1 = 0 then 1 else 0)]) rfl ?_
  refine lv_istore (lv' := [(5, .int (if ¬ t 1 = 0 then 1 else 0)), (4, .ref (E.2.2.2 11)), (0, .ref (E.2.2.2 0)), (1, .int (1 : Int32)), (2, .int (1 : Int32)), (3, .int (0 : Int32))]) S.1 S.2.1 dX8_fault_45 hl (by decide) rfl (fun ls hl => ?_)
  refine lv_iload_n S.1 S.2.1 dX8_fault_47 rfl (lv_at hl 5 rfl) ?_
  refine lv_if_ne (tgt := 57) S.1 S.2.1 dX8_fault_48 (by decide) (fun h => absurd (by decide) h) (fun _ => ?_)
  refine lv_iload S.1 S.2.1 dX8_fault_51 (lv_at hl 0 rfl) ?_
  refine s_callS (As := [.int (if ¬ t 1 = 0 then 1 else 0)]) (rest := []) S hX G (k_X8_bit l E (if ¬ t 1 = 0 then 1 else 0) isb_ite) (va_cwS (bytes := cX8_bit) (maxL := 1) (ret := (some .int)) 1 S.2.2.2.2 gX8_fault_X8_bit rfl rfl rfl (by decide +kernel) ⟨Nat.le_of_ble_eq_true rfl, Nat.le_of_ble_eq_true rfl⟩) rfl hl.1 rfl (Nat.le_of_ble_eq_true rfl) ⟨Nat.zero_le _, Nat.zero_le _⟩ dX8_fault_53 (fun v I1 L1 H locs hR G => ?_)
  obtain ⟨hv, hI, hL⟩ := hR
  subst hv
  have G : GS E I L sg H locs := G.same hI hL
  refine W.eq (g2 := F0 mg 56 ls [.int (if ¬ t 1 = 0 then 1 else 0)]) rfl ?_
  refine s_iret (x := (if ¬ t 1 = 0 then 1 else 0)) S G hr hlk dX8_fault_56 ?_
  exact ⟨rfl, rfl, rfl⟩
set_option maxHeartbeats 4000000 in
set_option maxRecDepth 100000 in
theorem k_X8_fault_1_1_1 (l : Launch) (E : Ev) {I : SI} {L : SL} (t : Nat → Int32) (u : Nat → Int32) (e_t : I (17) = t) (e_u : I (18) = u) : CS l yX8_fault wsX8_fault ({ frames := 3, cells := 0, slots := 0, locals := 63 }) E [.ref (E.2.2.2 0), .int (1 : Int32), .int (1 : Int32), .int (1 : Int32)] I L (fun vv I' L' => vv = some (.int (if ¬ t 1 = 0 then u 1 else (-2000000004 : Int32))) ∧ I' = I ∧ L' = L) := by
  refine CS.of (cc := cX8_fault) (maxL := 6) (ret := (some .int)) (by decide) rfl (Nat.le_of_ble_eq_true rfl) ?_
  intro pg en sg mg below meth cg ls S hr hlk hX G hl
  have S : CallFix pg mg cg cX8_fault 6 sg _ wsX8_fault RX8 := S
  have hl : lv_has ls 6 [(0, .ref (E.2.2.2 0)), (1, .int (1 : Int32)), (2, .int (1 : Int32)), (3, .int (1 : Int32))] := hl
  refine lv_iload_n S.1 S.2.1 dX8_fault_0 rfl (lv_at hl 1 rfl) ?_
  refine s_callS (As := [.int (1 : Int32)]) (rest := []) S hX G (k_X8_isLoad l E (1 : Int32)) (va_cwS (bytes := cX8_isLoad) (maxL := 1) (ret := (some .boolean)) 1 S.2.2.2.2 gX8_fault_X8_isLoad rfl rfl rfl (by decide +kernel) ⟨Nat.le_of_ble_eq_true rfl, Nat.le_of_ble_eq_true rfl⟩) rfl hl.1 rfl (Nat.le_of_ble_eq_true rfl) ⟨Nat.zero_le _, Nat.zero_le _⟩ dX8_fault_1 (fun v I1 L1 H locs hR G => ?_)
  obtain ⟨hv, hI, hL⟩ := hR
  subst hv
  have G : GS E I L sg H locs := G.same hI hL
  refine W.eq (g2 := F0 mg 4 ls [.int (if ¬ (1 : Int32) < (0 : Int32) ∧ ¬ (1 : Int32) < (1 : Int32) then 1 else 0)]) rfl ?_
  refine s_if_eq_b (P := ¬ (1 : Int32) < (0 : Int32) ∧ ¬ (1 : Int32) < (1 : Int32)) (tgt := 23) S dX8_fault_4 (by decide) (fun h => absurd (by decide) h) (fun _ => ?_)
  refine lv_iload_n S.1 S.2.1 dX8_fault_7 rfl (lv_at hl 2 rfl) ?_
  refine s_callS (As := [.int (1 : Int32)]) (rest := []) S hX G (k_X8_isFault l E (1 : Int32)) (va_cwS (bytes := cX8_isFault) (maxL := 1) (ret := (some .boolean)) 1 S.2.2.2.2 gX8_fault_X8_isFault rfl rfl rfl (by decide +kernel) ⟨Nat.le_of_ble_eq_true rfl, Nat.le_of_ble_eq_true rfl⟩) rfl hl.1 rfl (Nat.le_of_ble_eq_true rfl) ⟨Nat.zero_le _, Nat.zero_le _⟩ dX8_fault_8 (fun v I1 L1 H locs hR G => ?_)
  obtain ⟨hv, hI, hL⟩ := hR
  subst hv
  have G : GS E I L sg H locs := G.same hI hL
  refine W.eq (g2 := F0 mg 11 ls [.int (if ¬ (1 : Int32) < (0 : Int32) ∧ ¬ (2 : Int32) < (1 : Int32) then 1 else 0)]) rfl ?_
  refine s_if_eq_b (P := ¬ (1 : Int32) < (0 : Int32) ∧ ¬ (2 : Int32) < (1 : Int32)) (tgt := 23) S dX8_fault_11 (by decide) (fun h => absurd (by decide) h) (fun _ => ?_)
  refine lv_iload_n S.1 S.2.1 dX8_fault_14 rfl (lv_at hl 3 rfl) ?_
  refine lv_iconst (v := (0 : Int32)) S.1 S.2.1 dX8_fault_15 (by decide) ?_
  refine lv_iconst (v := (4 : Int32)) S.1 S.2.1 dX8_fault_16 (by decide) ?_
  refine s_callS (As := [.int (1 : Int32), .int (0 : Int32), .int (4 : Int32)]) (rest := []) S hX G (k_X8_isWithin l E (1 : Int32) (0 : Int32) (4 : Int32)) (va_cwS (bytes := cX8_isWithin) (maxL := 3) (ret := (some .boolean)) 3 S.2.2.2.2 gX8_fault_X8_isWithin rfl rfl rfl (by decide +kernel) ⟨Nat.le_of_ble_eq_true rfl, Nat.le_of_ble_eq_true rfl⟩) rfl hl.1 rfl (Nat.le_of_ble_eq_true rfl) ⟨Nat.zero_le _, Nat.zero_le _⟩ dX8_fault_17 (fun v I1 L1 H locs hR G => ?_)
  obtain ⟨hv, hI, hL⟩ := hR
  subst hv
  have G : GS E I L sg H locs := G.same hI hL
  refine W.eq (g2 := F0 mg 20 ls [.int (if ¬ (1 : Int32) < (0 : Int32) ∧ ¬ (4 : Int32) < (1 : Int32) then 1 else 0)]) rfl ?_
  refine s_if_ne_b (P := ¬ (1 : Int32) < (0 : Int32) ∧ ¬ (4 : Int32) < (1 : Int32)) (tgt := 26) S dX8_fault_20 (by decide) (fun _ => ?_) (fun h => absurd (by decide) h)
  refine lv_aload_n S.1 S.2.1 dX8_fault_26 rfl (lv_at hl 0 rfl) ?_
  refine s_get S hX G (i := 0) (kd := 8) (a := (I 0)) (v := .ref (E.2.2.2 1)) (C := RX8) (T := TX8) (N := 4) 0 (rfl : sh 0 = 8) rfl rfl rfl (by decide) rfl (fun _ h => (List.mem_cons_of_mem _ (List.mem_append_left _ (List.mem_append_left _ (List.mem_append_left _ (List.mem_append_left _ (List.mem_append_right _ h))))))) (by decide) (List.mem_of_getElem? (i := 2) rfl) (fun _ h => h) dX8_fault_27 ?_
  refine lv_iload_n S.1 S.2.1 dX8_fault_30 rfl (lv_at hl 1 rfl) ?_
  refine s_callV (C := RX0) (As := [.int (1 : Int32)]) (rest := []) (i := 1) (kd := 0) S hX G (k_X0_loadAt_1 l E 1 (by unfold IsB; decide)) (cwV (bytes := cX0_loadAt) (maxL := 2) (ret := (some (.object "BridgeLegs$Load"))) 1 S.2.2.2.2 gX8_fault_X0_loadAt rfl rfl rfl (by decide +kernel) ⟨Nat.le_of_ble_eq_true rfl, Nat.le_of_ble_eq_true rfl⟩) (rfl : sh 1 = 0) rfl rfl rfl (by decide) rfl hl.1 rfl (Nat.le_of_ble_eq_true rfl) ⟨Nat.zero_le _, Nat.zero_le _⟩ dX8_fault_31 (fun v I1 L1 H locs hR G => ?_)
  obtain ⟨hv, hI, hL⟩ := hR
  subst hv
  have G : GS E I L sg H locs := G.same hI hL
  refine W.eq (g2 := F0 mg 34 ls [.ref (E.2.2.2 11)]) rfl ?_
  refine lv_astore (lv' := [(4, .ref (E.2.2.2 11)), (0, .ref (E.2.2.2 0)), (1, .int (1 : Int32)), (2, .int (1 : Int32)), (3, .int (1 : Int32))]) S.1 S.2.1 dX8_fault_34 hl (by decide) rfl (fun ls hl => ?_)
  refine lv_aload S.1 S.2.1 dX8_fault_36 (lv_at hl 0 rfl) ?_
  refine s_getN S hX G (i := 11) (kd := 5) (a := (I 11)) (v := .ref (E.2.2.2 16)) (C := RX5) (T := TX5) (N := 13) 3 (rfl : sh 11 = 5) rfl rfl rfl (by decide) rfl (fun _ h => (List.mem_cons_of_mem _ (List.mem_append_left _ (List.mem_append_left _ (List.mem_append_left _ (List.mem_append_right _ h)))))) (by decide) (List.mem_of_getElem? (i := 19) rfl) (fun _ h => h) dX8_fault_38 ?_
  refine lv_iload_n S.1 S.2.1 dX8_fault_41 rfl (lv_at hl 3 rfl) ?_
  refine s_callV (C := RX3) (As := [.int (1 : Int32)]) (rest := []) (i := 16) (kd := 3) S hX G (k_X3_isLatched_1 l E 16 t (rfl : sh 16 = 3) (rfl : sh 17 = 10) (rfl : sh 18 = 17) (rfl : sh 19 = 17) e_t) (cwV (bytes := cX3_isLatched) (maxL := 2) (ret := (some .boolean)) 1 S.2.2.2.2 gX8_fault_X3_isLatched rfl rfl rfl (by decide +kernel) ⟨Nat.le_of_ble_eq_true rfl, Nat.le_of_ble_eq_true rfl⟩) (rfl : sh 16 = 3) rfl rfl rfl (by decide) rfl hl.1 rfl (Nat.le_of_ble_eq_true rfl) ⟨Nat.zero_le _, Nat.zero_le _⟩ dX8_fault_42 (fun v I1 L1 H locs hR G => ?_)
  obtain ⟨hv, hI, hL⟩ := hR
  subst hv
  have G : GS E I L sg H locs := G.same hI hL
  refine W.eq (g2 := F0 mg 45 ls [.int (if ¬ t 1 = 0 then 1 else 0)]) rfl ?_
  refine lv_istore (lv' := [(5, .int (if ¬ t 1 = 0 then 1 else 0)), (4, .ref (E.2.2.2 11)), (0, .ref (E.2.2.2 0)), (1, .int (1 : Int32)), (2, .int (1 : Int32)), (3, .int (1 : Int32))]) S.1 S.2.1 dX8_fault_45 hl (by decide) rfl (fun ls hl => ?_)
  refine lv_iload_n S.1 S.2.1 dX8_fault_47 rfl (lv_at hl 5 rfl) ?_
  refine lv_if_ne (tgt := 57) S.1 S.2.1 dX8_fault_48 (by decide) (fun _ => ?_) (fun h => absurd h (by decide))
  refine lv_iload_n S.1 S.2.1 dX8_fault_57 rfl (lv_at hl 5 rfl) ?_
  refine lv_iconst (v := (4 : Int32)) S.1 S.2.1 dX8_fault_58 (by decide) ?_
  refine lv_icmp_ne (tgt := 79) S.1 S.2.1 dX8_fault_59 (by decide) (fun _ => ?_) (fun h => absurd h (by decide))
  refine lv_iload S.1 S.2.1 dX8_fault_79 (lv_at hl 0 rfl) ?_
  refine s_if_ne_b (P := ¬ t 1 = 0) (tgt := 87) S dX8_fault_81 (by decide) (fun c_1 => ?_) (fun c_1 => ?_)
  · refine lv_iload_n S.1 S.2.1 dX8_fault_87 rfl (lv_at hl 5 rfl) ?_
    refine lv_lookup (off := 28) (tgt := 116) S.1 S.2.1 dX8_fault_88 (by decide) (by decide) (by decide) ?_
    refine lv_aload S.1 S.2.1 dX8_fault_116 (lv_at hl 1 rfl) ?_
    refine s_getN S hX G (i := 11) (kd := 5) (a := (I 11)) (v := .ref (E.2.2.2 16)) (C := RX5) (T := TX5) (N := 13) 3 (rfl : sh 11 = 5) rfl rfl rfl (by decide) rfl (fun _ h => (List.mem_cons_of_mem _ (List.mem_append_left _ (List.mem_append_left _ (List.mem_append_left _ (List.mem_append_right _ h)))))) (by decide) (List.mem_of_getElem? (i := 19) rfl) (fun _ h => h) dX8_fault_118 ?_
    refine lv_iload_n S.1 S.2.1 dX8_fault_121 rfl (lv_at hl 4 rfl) ?_
    refine s_callV (C := RX3) (As := [.int (1 : Int32)]) (rest := []) (i := 16) (kd := 3) S hX G (k_X3_slotOf_1 l E 16 u (rfl : sh 16 = 3) (rfl : sh 17 = 10) (rfl : sh 18 = 17) (rfl : sh 19 = 17) e_u) (cwV (bytes := cX3_slotOf) (maxL := 2) (ret := (some .int)) 1 S.2.2.2.2 gX8_fault_X3_slotOf rfl rfl rfl (by decide +kernel) ⟨Nat.le_of_ble_eq_true rfl, Nat.le_of_ble_eq_true rfl⟩) (rfl : sh 16 = 3) rfl rfl rfl (by decide) rfl hl.1 rfl (Nat.le_of_ble_eq_true rfl) ⟨Nat.zero_le _, Nat.zero_le _⟩ dX8_fault_122 (fun v I1 L1 H locs hR G => ?_)
    obtain ⟨hv, hI, hL⟩ := hR
    subst hv
    have G : GS E I L sg H locs := G.same hI hL
    refine W.eq (g2 := F0 mg 125 ls [.int (u 1)]) rfl ?_
    refine s_iret (x := (u 1)) S G hr hlk dX8_fault_125 ?_
    exact ⟨(congrArg (fun q : Int32 => some (Value.int q)) (show (u 1) = (if ¬ t 1 = 0 then u 1 else (-2000000004 : Int32)) by first | rfl | exact (if_pos c_1).symm | exact (if_neg c_1).symm)), rfl, rfl⟩
  · refine lv_ldc (v := (-2000000004 : Int32)) S.1 S.2.1 S.2.2.2.1 (S.2.2.2.2 _ (List.mem_of_getElem? (i := 3) rfl)) dX8_fault_84 ?_
    refine s_iret (x := (-2000000004 : Int32)) S G hr hlk dX8_fault_86 ?_
    exact ⟨(congrArg (fun q : Int32 => some (Value.int q)) (show (-2000000004 : Int32) = (if ¬ t 1 = 0 then u 1 else (-2000000004 : Int32)) by first | rfl | exact (if_pos c_1).symm | exact (if_neg c_1).symm)), rfl, rfl⟩
set_option maxHeartbeats 4000000 in
set_option maxRecDepth 100000 in
theorem k_X8_fault_1_1_3 (l : Launch) (E : Ev) {I : SI} {L : SL} (t : Nat → Int32) (u : Nat → Int32) (e_t : I (17) = t) (e_u : I (18) = u) : CS l yX8_fault wsX8_fault ({ frames := 4, cells := 0, slots := 0, locals := 88 }) E [.ref (E.2.2.2 0), .int (1 : Int32), .int (1 : Int32), .int (3 : Int32)] I L (fun vv I' L' => vv = some (.int (if ¬ t 1 = 0 then plcF t u 1 else (-2000000004 : Int32))) ∧ I' = I ∧ L' = L) := by
  refine CS.of (cc := cX8_fault) (maxL := 6) (ret := (some .int)) (by decide) rfl (Nat.le_of_ble_eq_true rfl) ?_
  intro pg en sg mg below meth cg ls S hr hlk hX G hl
  have S : CallFix pg mg cg cX8_fault 6 sg _ wsX8_fault RX8 := S
  have hl : lv_has ls 6 [(0, .ref (E.2.2.2 0)), (1, .int (1 : Int32)), (2, .int (1 : Int32)), (3, .int (3 : Int32))] := hl
  refine lv_iload_n S.1 S.2.1 dX8_fault_0 rfl (lv_at hl 1 rfl) ?_
  refine s_callS (As := [.int (1 : Int32)]) (rest := []) S hX G (k_X8_isLoad l E (1 : Int32)) (va_cwS (bytes := cX8_isLoad) (maxL := 1) (ret := (some .boolean)) 1 S.2.2.2.2 gX8_fault_X8_isLoad rfl rfl rfl (by decide +kernel) ⟨Nat.le_of_ble_eq_true rfl, Nat.le_of_ble_eq_true rfl⟩) rfl hl.1 rfl (Nat.le_of_ble_eq_true rfl) ⟨Nat.zero_le _, Nat.zero_le _⟩ dX8_fault_1 (fun v I1 L1 H locs hR G => ?_)
  obtain ⟨hv, hI, hL⟩ := hR
  subst hv
  have G : GS E I L sg H locs := G.same hI hL
  refine W.eq (g2 := F0 mg 4 ls [.int (if ¬ (1 : Int32) < (0 : Int32) ∧ ¬ (1 : Int32) < (1 : Int32) then 1 else 0)]) rfl ?_
  refine s_if_eq_b (P := ¬ (1 : Int32) < (0 : Int32) ∧ ¬ (1 : Int32) < (1 : Int32)) (tgt := 23) S dX8_fault_4 (by decide) (fun h => absurd (by decide) h) (fun _ => ?_)
  refine lv_iload_n S.1 S.2.1 dX8_fault_7 rfl (lv_at hl 2 rfl) ?_
  refine s_callS (As := [.int (1 : Int32)]) (rest := []) S hX G (k_X8_isFault l E (1 : Int32)) (va_cwS (bytes := cX8_isFault) (maxL := 1) (ret := (some .boolean)) 1 S.2.2.2.2 gX8_fault_X8_isFault rfl rfl rfl (by decide +kernel) ⟨Nat.le_of_ble_eq_true rfl, Nat.le_of_ble_eq_true rfl⟩) rfl hl.1 rfl (Nat.le_of_ble_eq_true rfl) ⟨Nat.zero_le _, Nat.zero_le _⟩ dX8_fault_8 (fun v I1 L1 H locs hR G => ?_)
  obtain ⟨hv, hI, hL⟩ := hR
  subst hv
  have G : GS E I L sg H locs := G.same hI hL
  refine W.eq (g2 := F0 mg 11 ls [.int (if ¬ (1 : Int32) < (0 : Int32) ∧ ¬ (2 : Int32) < (1 : Int32) then 1 else 0)]) rfl ?_
  refine s_if_eq_b (P := ¬ (1 : Int32) < (0 : Int32) ∧ ¬ (2 : Int32) < (1 : Int32)) (tgt := 23) S dX8_fault_11 (by decide) (fun h => absurd (by decide) h) (fun _ => ?_)
  refine lv_iload_n S.1 S.2.1 dX8_fault_14 rfl (lv_at hl 3 rfl) ?_
  refine lv_iconst (v := (0 : Int32)) S.1 S.2.1 dX8_fault_15 (by decide) ?_
  refine lv_iconst (v := (4 : Int32)) S.1 S.2.1 dX8_fault_16 (by decide) ?_
  refine s_callS (As := [.int (3 : Int32), .int (0 : Int32), .int (4 : Int32)]) (rest := []) S hX G (k_X8_isWithin l E (3 : Int32) (0 : Int32) (4 : Int32)) (va_cwS (bytes := cX8_isWithin) (maxL := 3) (ret := (some .boolean)) 3 S.2.2.2.2 gX8_fault_X8_isWithin rfl rfl rfl (by decide +kernel) ⟨Nat.le_of_ble_eq_true rfl, Nat.le_of_ble_eq_true rfl⟩) rfl hl.1 rfl (Nat.le_of_ble_eq_true rfl) ⟨Nat.zero_le _, Nat.zero_le _⟩ dX8_fault_17 (fun v I1 L1 H locs hR G => ?_)
  obtain ⟨hv, hI, hL⟩ := hR
  subst hv
  have G : GS E I L sg H locs := G.same hI hL
  refine W.eq (g2 := F0 mg 20 ls [.int (if ¬ (3 : Int32) < (0 : Int32) ∧ ¬ (4 : Int32) < (3 : Int32) then 1 else 0)]) rfl ?_
  refine s_if_ne_b (P := ¬ (3 : Int32) < (0 : Int32) ∧ ¬ (4 : Int32) < (3 : Int32)) (tgt := 26) S dX8_fault_20 (by decide) (fun _ => ?_) (fun h => absurd (by decide) h)
  refine lv_aload_n S.1 S.2.1 dX8_fault_26 rfl (lv_at hl 0 rfl) ?_
  refine s_get S hX G (i := 0) (kd := 8) (a := (I 0)) (v := .ref (E.2.2.2 1)) (C := RX8) (T := TX8) (N := 4) 0 (rfl : sh 0 = 8) rfl rfl rfl (by decide) rfl (fun _ h => (List.mem_cons_of_mem _ (List.mem_append_left _ (List.mem_append_left _ (List.mem_append_left _ (List.mem_append_left _ (List.mem_append_right _ h))))))) (by decide) (List.mem_of_getElem? (i := 2) rfl) (fun _ h => h) dX8_fault_27 ?_
  refine lv_iload_n S.1 S.2.1 dX8_fault_30 rfl (lv_at hl 1 rfl) ?_
  refine s_callV (C := RX0) (As := [.int (1 : Int32)]) (rest := []) (i := 1) (kd := 0) S hX G (k_X0_loadAt_1 l E 1 (by unfold IsB; decide)) (cwV (bytes := cX0_loadAt) (maxL := 2) (ret := (some (.object "BridgeLegs$Load"))) 1 S.2.2.2.2 gX8_fault_X0_loadAt rfl rfl rfl (by decide +kernel) ⟨Nat.le_of_ble_eq_true rfl, Nat.le_of_ble_eq_true rfl⟩) (rfl : sh 1 = 0) rfl rfl rfl (by decide) rfl hl.1 rfl (Nat.le_of_ble_eq_true rfl) ⟨Nat.zero_le _, Nat.zero_le _⟩ dX8_fault_31 (fun v I1 L1 H locs hR G => ?_)
  obtain ⟨hv, hI, hL⟩ := hR
  subst hv
  have G : GS E I L sg H locs := G.same hI hL
  refine W.eq (g2 := F0 mg 34 ls [.ref (E.2.2.2 11)]) rfl ?_
  refine lv_astore (lv' := [(4, .ref (E.2.2.2 11)), (0, .ref (E.2.2.2 0)), (1, .int (1 : Int32)), (2, .int (1 : Int32)), (3, .int (3 : Int32))]) S.1 S.2.1 dX8_fault_34 hl (by decide) rfl (fun ls hl => ?_)
  refine lv_aload S.1 S.2.1 dX8_fault_36 (lv_at hl 0 rfl) ?_
  refine s_getN S hX G (i := 11) (kd := 5) (a := (I 11)) (v := .ref (E.2.2.2 16)) (C := RX5) (T := TX5) (N := 13) 3 (rfl : sh 11 = 5) rfl rfl rfl (by decide) rfl (fun _ h => (List.mem_cons_of_mem _ (List.mem_append_left _ (List.mem_append_left _ (List.mem_append_left _ (List.mem_append_right _ h)))))) (by decide) (List.mem_of_getElem? (i := 19) rfl) (fun _ h => h) dX8_fault_38 ?_
  refine lv_iload_n S.1 S.2.1 dX8_fault_41 rfl (lv_at hl 3 rfl) ?_
  refine s_callV (C := RX3) (As := [.int (1 : Int32)]) (rest := []) (i := 16) (kd := 3) S hX G (k_X3_isLatched_1 l E 16 t (rfl : sh 16 = 3) (rfl : sh 17 = 10) (rfl : sh 18 = 17) (rfl : sh 19 = 17) e_t) (cwV (bytes := cX3_isLatched) (maxL := 2) (ret := (some .boolean)) 1 S.2.2.2.2 gX8_fault_X3_isLatched rfl rfl rfl (by decide +kernel) ⟨Nat.le_of_ble_eq_true rfl, Nat.le_of_ble_eq_true rfl⟩) (rfl : sh 16 = 3) rfl rfl rfl (by decide) rfl hl.1 rfl (Nat.le_of_ble_eq_true rfl) ⟨Nat.zero_le _, Nat.zero_le _⟩ dX8_fault_42 (fun v I1 L1 H locs hR G => ?_)
  obtain ⟨hv, hI, hL⟩ := hR
  subst hv
  have G : GS E I L sg H locs := G.same hI hL
  refine W.eq (g2 := F0 mg 45 ls [.int (if ¬ t 1 = 0 then 1 else 0)]) rfl ?_
  refine lv_istore (lv' := [(5, .int (if ¬ t 1 = 0 then 1 else 0)), (4, .ref (E.2.2.2 11)), (0, .ref (E.2.2.2 0)), (1, .int (1 : Int32)), (2, .int (1 : Int32)), (3, .int (3 : Int32))]) S.1 S.2.1 dX8_fault_45 hl (by decide) rfl (fun ls hl => ?_)
  refine lv_iload_n S.1 S.2.1 dX8_fault_47 rfl (lv_at hl 5 rfl) ?_
  refine lv_if_ne (tgt := 57) S.1 S.2.1 dX8_fault_48 (by decide) (fun _ => ?_) (fun h => absurd h (by decide))
  refine lv_iload_n S.1 S.2.1 dX8_fault_57 rfl (lv_at hl 5 rfl) ?_
  refine lv_iconst (v := (4 : Int32)) S.1 S.2.1 dX8_fault_58 (by decide) ?_
  refine lv_icmp_ne (tgt := 79) S.1 S.2.1 dX8_fault_59 (by decide) (fun _ => ?_) (fun h => absurd h (by decide))
  refine lv_iload S.1 S.2.1 dX8_fault_79 (lv_at hl 0 rfl) ?_
  refine s_if_ne_b (P := ¬ t 1 = 0) (tgt := 87) S dX8_fault_81 (by decide) (fun c_1 => ?_) (fun c_1 => ?_)
  · refine lv_iload_n S.1 S.2.1 dX8_fault_87 rfl (lv_at hl 5 rfl) ?_
    refine lv_lookup (off := 48) (tgt := 136) S.1 S.2.1 dX8_fault_88 (by decide) (by decide) (by decide) ?_
    refine lv_aload S.1 S.2.1 dX8_fault_136 (lv_at hl 1 rfl) ?_
    refine s_getN S hX G (i := 11) (kd := 5) (a := (I 11)) (v := .ref (E.2.2.2 16)) (C := RX5) (T := TX5) (N := 13) 3 (rfl : sh 11 = 5) rfl rfl rfl (by decide) rfl (fun _ h => (List.mem_cons_of_mem _ (List.mem_append_left _ (List.mem_append_left _ (List.mem_append_left _ (List.mem_append_right _ h)))))) (by decide) (List.mem_of_getElem? (i := 19) rfl) (fun _ h => h) dX8_fault_138 ?_
    refine lv_iload_n S.1 S.2.1 dX8_fault_141 rfl (lv_at hl 4 rfl) ?_
    refine s_callV (C := RX3) (As := [.int (1 : Int32)]) (rest := []) (i := 16) (kd := 3) S hX G (k_X3_placeOf_1 l E 16 t u (rfl : sh 16 = 3) (rfl : sh 17 = 10) (rfl : sh 18 = 17) (rfl : sh 19 = 17) e_t e_u) (cwV (bytes := cX3_placeOf) (maxL := 6) (ret := (some .int)) 1 S.2.2.2.2 gX8_fault_X3_placeOf rfl rfl rfl (by decide +kernel) ⟨Nat.le_of_ble_eq_true rfl, Nat.le_of_ble_eq_true rfl⟩) (rfl : sh 16 = 3) rfl rfl rfl (by decide) rfl hl.1 rfl (Nat.le_of_ble_eq_true rfl) ⟨Nat.zero_le _, Nat.zero_le _⟩ dX8_fault_142 (fun v I1 L1 H locs hR G => ?_)
    obtain ⟨hv, hI, hL⟩ := hR
    subst hv
    have G : GS E I L sg H locs := G.same hI hL
    refine W.eq (g2 := F0 mg 145 ls [.int (plcF t u 1)]) rfl ?_
    refine lv_topi (fun y_2 ey_2 => ?_)
    refine s_iret (x := y_2) S G hr hlk dX8_fault_145 ?_
    exact ⟨(congrArg (fun q : Int32 => some (Value.int q)) (show y_2 = (if ¬ t 1 = 0 then plcF t u 1 else (-2000000004 : Int32)) by subst ey_2; (first | rfl | exact (if_pos c_1).symm | exact (if_neg c_1).symm))), rfl, rfl⟩
  · refine lv_ldc (v := (-2000000004 : Int32)) S.1 S.2.1 S.2.2.2.1 (S.2.2.2.2 _ (List.mem_of_getElem? (i := 3) rfl)) dX8_fault_84 ?_
    refine s_iret (x := (-2000000004 : Int32)) S G hr hlk dX8_fault_86 ?_
    exact ⟨(congrArg (fun q : Int32 => some (Value.int q)) (show (-2000000004 : Int32) = (if ¬ t 1 = 0 then plcF t u 1 else (-2000000004 : Int32)) by first | rfl | exact (if_pos c_1).symm | exact (if_neg c_1).symm)), rfl, rfl⟩
set_option maxHeartbeats 4000000 in
set_option maxRecDepth 100000 in
theorem k_X8_fault_1_1_4 (l : Launch) (E : Ev) {I : SI} {L : SL} (t : Nat → Int32) (b : Nat → Int32) (u : Nat → Int32) (sv : Nat → Int32) (e_t : I (17) = t) (e_b : I (11) = b) (e_u : I (18) = u) (e_sv : I (21) = sv) : CS l yX8_fault wsX8_fault ({ frames := 5, cells := 0, slots := 0, locals := 110 }) E [.ref (E.2.2.2 0), .int (1 : Int32), .int (1 : Int32), .int (4 : Int32)] I L (fun vv I' L' => vv = some (.int (if ¬ t 1 = 0 ∧ plcF t u 1 = 0 then 1 else 0)) ∧ I' = I ∧ L' = L) := by
  refine CS.of (cc := cX8_fault) (maxL := 6) (ret := (some .int)) (by decide) rfl (Nat.le_of_ble_eq_true rfl) ?_
  intro pg en sg mg below meth cg ls S hr hlk hX G hl
  have S : CallFix pg mg cg cX8_fault 6 sg _ wsX8_fault RX8 := S
  have hl : lv_has ls 6 [(0, .ref (E.2.2.2 0)), (1, .int (1 : Int32)), (2, .int (1 : Int32)), (3, .int (4 : Int32))] := hl
  refine lv_iload_n S.1 S.2.1 dX8_fault_0 rfl (lv_at hl 1 rfl) ?_
  refine s_callS (As := [.int (1 : Int32)]) (rest := []) S hX G (k_X8_isLoad l E (1 : Int32)) (va_cwS (bytes := cX8_isLoad) (maxL := 1) (ret := (some .boolean)) 1 S.2.2.2.2 gX8_fault_X8_isLoad rfl rfl rfl (by decide +kernel) ⟨Nat.le_of_ble_eq_true rfl, Nat.le_of_ble_eq_true rfl⟩) rfl hl.1 rfl (Nat.le_of_ble_eq_true rfl) ⟨Nat.zero_le _, Nat.zero_le _⟩ dX8_fault_1 (fun v I1 L1 H locs hR G => ?_)
  obtain ⟨hv, hI, hL⟩ := hR
  subst hv
  have G : GS E I L sg H locs := G.same hI hL
  refine W.eq (g2 := F0 mg 4 ls [.int (if ¬ (1 : Int32) < (0 : Int32) ∧ ¬ (1 : Int32) < (1 : Int32) then 1 else 0)]) rfl ?_
  refine s_if_eq_b (P := ¬ (1 : Int32) < (0 : Int32) ∧ ¬ (1 : Int32) < (1 : Int32)) (tgt := 23) S dX8_fault_4 (by decide) (fun h => absurd (by decide) h) (fun _ => ?_)
  refine lv_iload_n S.1 S.2.1 dX8_fault_7 rfl (lv_at hl 2 rfl) ?_
  refine s_callS (As := [.int (1 : Int32)]) (rest := []) S hX G (k_X8_isFault l E (1 : Int32)) (va_cwS (bytes := cX8_isFault) (maxL := 1) (ret := (some .boolean)) 1 S.2.2.2.2 gX8_fault_X8_isFault rfl rfl rfl (by decide +kernel) ⟨Nat.le_of_ble_eq_true rfl, Nat.le_of_ble_eq_true rfl⟩) rfl hl.1 rfl (Nat.le_of_ble_eq_true rfl) ⟨Nat.zero_le _, Nat.zero_le _⟩ dX8_fault_8 (fun v I1 L1 H locs hR G => ?_)
  obtain ⟨hv, hI, hL⟩ := hR
  subst hv
  have G : GS E I L sg H locs := G.same hI hL
  refine W.eq (g2 := F0 mg 11 ls [.int (if ¬ (1 : Int32) < (0 : Int32) ∧ ¬ (2 : Int32) < (1 : Int32) then 1 else 0)]) rfl ?_
  refine s_if_eq_b (P := ¬ (1 : Int32) < (0 : Int32) ∧ ¬ (2 : Int32) < (1 : Int32)) (tgt := 23) S dX8_fault_11 (by decide) (fun h => absurd (by decide) h) (fun _ => ?_)
  refine lv_iload_n S.1 S.2.1 dX8_fault_14 rfl (lv_at hl 3 rfl) ?_
  refine lv_iconst (v := (0 : Int32)) S.1 S.2.1 dX8_fault_15 (by decide) ?_
  refine lv_iconst (v := (4 : Int32)) S.1 S.2.1 dX8_fault_16 (by decide) ?_
  refine s_callS (As := [.int (4 : Int32), .int (0 : Int32), .int (4 : Int32)]) (rest := []) S hX G (k_X8_isWithin l E (4 : Int32) (0 : Int32) (4 : Int32)) (va_cwS (bytes := cX8_isWithin) (maxL := 3) (ret := (some .boolean)) 3 S.2.2.2.2 gX8_fault_X8_isWithin rfl rfl rfl (by decide +kernel) ⟨Nat.le_of_ble_eq_true rfl, Nat.le_of_ble_eq_true rfl⟩) rfl hl.1 rfl (Nat.le_of_ble_eq_true rfl) ⟨Nat.zero_le _, Nat.zero_le _⟩ dX8_fault_17 (fun v I1 L1 H locs hR G => ?_)
  obtain ⟨hv, hI, hL⟩ := hR
  subst hv
  have G : GS E I L sg H locs := G.same hI hL
  refine W.eq (g2 := F0 mg 20 ls [.int (if ¬ (4 : Int32) < (0 : Int32) ∧ ¬ (4 : Int32) < (4 : Int32) then 1 else 0)]) rfl ?_
  refine s_if_ne_b (P := ¬ (4 : Int32) < (0 : Int32) ∧ ¬ (4 : Int32) < (4 : Int32)) (tgt := 26) S dX8_fault_20 (by decide) (fun _ => ?_) (fun h => absurd (by decide) h)
  refine lv_aload_n S.1 S.2.1 dX8_fault_26 rfl (lv_at hl 0 rfl) ?_
  refine s_get S hX G (i := 0) (kd := 8) (a := (I 0)) (v := .ref (E.2.2.2 1)) (C := RX8) (T := TX8) (N := 4) 0 (rfl : sh 0 = 8) rfl rfl rfl (by decide) rfl (fun _ h => (List.mem_cons_of_mem _ (List.mem_append_left _ (List.mem_append_left _ (List.mem_append_left _ (List.mem_append_left _ (List.mem_append_right _ h))))))) (by decide) (List.mem_of_getElem? (i := 2) rfl) (fun _ h => h) dX8_fault_27 ?_
  refine lv_iload_n S.1 S.2.1 dX8_fault_30 rfl (lv_at hl 1 rfl) ?_
  refine s_callV (C := RX0) (As := [.int (1 : Int32)]) (rest := []) (i := 1) (kd := 0) S hX G (k_X0_loadAt_1 l E 1 (by unfold IsB; decide)) (cwV (bytes := cX0_loadAt) (maxL := 2) (ret := (some (.object "BridgeLegs$Load"))) 1 S.2.2.2.2 gX8_fault_X0_loadAt rfl rfl rfl (by decide +kernel) ⟨Nat.le_of_ble_eq_true rfl, Nat.le_of_ble_eq_true rfl⟩) (rfl : sh 1 = 0) rfl rfl rfl (by decide) rfl hl.1 rfl (Nat.le_of_ble_eq_true rfl) ⟨Nat.zero_le _, Nat.zero_le _⟩ dX8_fault_31 (fun v I1 L1 H locs hR G => ?_)
  obtain ⟨hv, hI, hL⟩ := hR
  subst hv
  have G : GS E I L sg H locs := G.same hI hL
  refine W.eq (g2 := F0 mg 34 ls [.ref (E.2.2.2 11)]) rfl ?_
  refine lv_astore (lv' := [(4, .ref (E.2.2.2 11)), (0, .ref (E.2.2.2 0)), (1, .int (1 : Int32)), (2, .int (1 : Int32)), (3, .int (4 : Int32))]) S.1 S.2.1 dX8_fault_34 hl (by decide) rfl (fun ls hl => ?_)
  refine lv_aload S.1 S.2.1 dX8_fault_36 (lv_at hl 0 rfl) ?_
  refine s_getN S hX G (i := 11) (kd := 5) (a := b) (v := .ref (E.2.2.2 16)) (C := RX5) (T := TX5) (N := 13) 3 (rfl : sh 11 = 5) e_b rfl rfl (by decide) rfl (fun _ h => (List.mem_cons_of_mem _ (List.mem_append_left _ (List.mem_append_left _ (List.mem_append_left _ (List.mem_append_right _ h)))))) (by decide) (List.mem_of_getElem? (i := 19) rfl) (fun _ h => h) dX8_fault_38 ?_
  refine lv_iload_n S.1 S.2.1 dX8_fault_41 rfl (lv_at hl 3 rfl) ?_
  refine s_callV (C := RX3) (As := [.int (1 : Int32)]) (rest := []) (i := 16) (kd := 3) S hX G (k_X3_isLatched_1 l E 16 t (rfl : sh 16 = 3) (rfl : sh 17 = 10) (rfl : sh 18 = 17) (rfl : sh 19 = 17) e_t) (cwV (bytes := cX3_isLatched) (maxL := 2) (ret := (some .boolean)) 1 S.2.2.2.2 gX8_fault_X3_isLatched rfl rfl rfl (by decide +kernel) ⟨Nat.le_of_ble_eq_true rfl, Nat.le_of_ble_eq_true rfl⟩) (rfl : sh 16 = 3) rfl rfl rfl (by decide) rfl hl.1 rfl (Nat.le_of_ble_eq_true rfl) ⟨Nat.zero_le _, Nat.zero_le _⟩ dX8_fault_42 (fun v I1 L1 H locs hR G => ?_)
  obtain ⟨hv, hI, hL⟩ := hR
  subst hv
  have G : GS E I L sg H locs := G.same hI hL
  refine W.eq (g2 := F0 mg 45 ls [.int (if ¬ t 1 = 0 then 1 else 0)]) rfl ?_
  refine lv_istore (lv' := [(5, .int (if ¬ t 1 = 0 then 1 else 0)), (4, .ref (E.2.2.2 11)), (0, .ref (E.2.2.2 0)), (1, .int (1 : Int32)), (2, .int (1 : Int32)), (3, .int (4 : Int32))]) S.1 S.2.1 dX8_fault_45 hl (by decide) rfl (fun ls hl => ?_)
  refine lv_iload_n S.1 S.2.1 dX8_fault_47 rfl (lv_at hl 5 rfl) ?_
  refine lv_if_ne (tgt := 57) S.1 S.2.1 dX8_fault_48 (by decide) (fun _ => ?_) (fun h => absurd h (by decide))
  refine lv_iload_n S.1 S.2.1 dX8_fault_57 rfl (lv_at hl 5 rfl) ?_
  refine lv_iconst (v := (4 : Int32)) S.1 S.2.1 dX8_fault_58 (by decide) ?_
  refine lv_icmp_ne (tgt := 79) S.1 S.2.1 dX8_fault_59 (by decide) (fun h => absurd (by decide) h) (fun _ => ?_)
  refine lv_aload S.1 S.2.1 dX8_fault_62 (lv_at hl 1 rfl) ?_
  refine lv_iload_n S.1 S.2.1 dX8_fault_64 rfl (lv_at hl 4 rfl) ?_
  refine lv_aload_n S.1 S.2.1 dX8_fault_65 rfl (lv_at hl 2 rfl) ?_
  refine s_get S hX G (i := 0) (kd := 8) (a := (I 0)) (v := .ref (E.2.2.2 1)) (C := RX8) (T := TX8) (N := 4) 0 (rfl : sh 0 = 8) rfl rfl rfl (by decide) rfl (fun _ h => (List.mem_cons_of_mem _ (List.mem_append_left _ (List.mem_append_left _ (List.mem_append_left _ (List.mem_append_left _ (List.mem_append_right _ h))))))) (by decide) (List.mem_of_getElem? (i := 2) rfl) (fun _ h => h) dX8_fault_66 ?_
  refine s_getN S hX G (i := 1) (kd := 0) (a := (I 1)) (v := .ref (E.2.2.2 20)) (C := RX0) (T := TX0) (N := 5) 2 (rfl : sh 1 = 0) rfl rfl rfl (by decide) rfl (fun _ h => (List.mem_cons_of_mem _ (List.mem_append_left _ (List.mem_append_left _ (List.mem_append_right _ h))))) (by decide) (List.mem_of_getElem? (i := 33) rfl) (fun _ h => h) dX8_fault_69 ?_
  refine s_callV (C := RX5) (As := [.int (1 : Int32), .ref (E.2.2.2 20)]) (rest := []) (i := 11) (kd := 5) S hX G (k_X5_isClearable_1 l E 11 20 b t u sv (by unfold IsLd; decide) (rfl : sh 20 = 1) (rfl : sh 21 = 20) e_b e_t e_u e_sv) (cwV (bytes := cX5_isClearable) (maxL := 3) (ret := (some .boolean)) 2 S.2.2.2.2 gX8_fault_X5_isClearable rfl rfl rfl (by decide +kernel) ⟨Nat.le_of_ble_eq_true rfl, Nat.le_of_ble_eq_true rfl⟩) (rfl : sh 11 = 5) rfl rfl rfl (by decide) rfl hl.1 rfl (Nat.le_of_ble_eq_true rfl) ⟨Nat.zero_le _, Nat.zero_le _⟩ dX8_fault_72 (fun v I1 L1 H locs hR G => ?_)
  obtain ⟨hv, hI, hL⟩ := hR
  subst hv
  have G : GS E I L sg H locs := G.same hI hL
  refine W.eq (g2 := F0 mg 75 ls [.int (if ¬ t 1 = 0 ∧ plcF t u 1 = 0 then 1 else 0)]) rfl ?_
  refine s_callS (As := [.int (if ¬ t 1 = 0 ∧ plcF t u 1 = 0 then 1 else 0)]) (rest := []) S hX G (k_X8_bit l E (if ¬ t 1 = 0 ∧ plcF t u 1 = 0 then 1 else 0) isb_ite) (va_cwS (bytes := cX8_bit) (maxL := 1) (ret := (some .int)) 1 S.2.2.2.2 gX8_fault_X8_bit rfl rfl rfl (by decide +kernel) ⟨Nat.le_of_ble_eq_true rfl, Nat.le_of_ble_eq_true rfl⟩) rfl hl.1 rfl (Nat.le_of_ble_eq_true rfl) ⟨Nat.zero_le _, Nat.zero_le _⟩ dX8_fault_75 (fun v I1 L1 H locs hR G => ?_)
  obtain ⟨hv, hI, hL⟩ := hR
  subst hv
  have G : GS E I L sg H locs := G.same hI hL
  refine W.eq (g2 := F0 mg 78 ls [.int (if ¬ t 1 = 0 ∧ plcF t u 1 = 0 then 1 else 0)]) rfl ?_
  refine s_iret (x := (if ¬ t 1 = 0 ∧ plcF t u 1 = 0 then 1 else 0)) S G hr hlk dX8_fault_78 ?_
  exact ⟨rfl, rfl, rfl⟩
set_option maxHeartbeats 4000000 in
set_option maxRecDepth 100000 in
theorem k_X8_fault_1_2_0 (l : Launch) (E : Ev) {I : SI} {L : SL} (t : Nat → Int32) (e_t : I (17) = t) : CS l yX8_fault wsX8_fault ({ frames := 3, cells := 0, slots := 0, locals := 63 }) E [.ref (E.2.2.2 0), .int (1 : Int32), .int (2 : Int32), .int (0 : Int32)] I L (fun vv I' L' => vv = some (.int (if ¬ t 2 = 0 then 1 else 0)) ∧ I' = I ∧ L' = L) := by
  refine CS.of (cc := cX8_fault) (maxL := 6) (ret := (some .int)) (by decide) rfl (Nat.le_of_ble_eq_true rfl) ?_
  intro pg en sg mg below meth cg ls S hr hlk hX G hl
  have S : CallFix pg mg cg cX8_fault 6 sg _ wsX8_fault RX8 := S
  have hl : lv_has ls 6 [(0, .ref (E.2.2.2 0)), (1, .int (1 : Int32)), (2, .int (2 : Int32)), (3, .int (0 : Int32))] := hl
  refine lv_iload_n S.1 S.2.1 dX8_fault_0 rfl (lv_at hl 1 rfl) ?_
  refine s_callS (As := [.int (1 : Int32)]) (rest := []) S hX G (k_X8_isLoad l E (1 : Int32)) (va_cwS (bytes := cX8_isLoad) (maxL := 1) (ret := (some .boolean)) 1 S.2.2.2.2 gX8_fault_X8_isLoad rfl rfl rfl (by decide +kernel) ⟨Nat.le_of_ble_eq_true rfl, Nat.le_of_ble_eq_true rfl⟩) rfl hl.1 rfl (Nat.le_of_ble_eq_true rfl) ⟨Nat.zero_le _, Nat.zero_le _⟩ dX8_fault_1 (fun v I1 L1 H locs hR G => ?_)
  obtain ⟨hv, hI, hL⟩ := hR
  subst hv
  have G : GS E I L sg H locs := G.same hI hL
  refine W.eq (g2 := F0 mg 4 ls [.int (if ¬ (1 : Int32) < (0 : Int32) ∧ ¬ (1 : Int32) < (1 : Int32) then 1 else 0)]) rfl ?_
  refine s_if_eq_b (P := ¬ (1 : Int32) < (0 : Int32) ∧ ¬ (1 : Int32) < (1 : Int32)) (tgt := 23) S dX8_fault_4 (by decide) (fun h => absurd (by decide) h) (fun _ => ?_)
  refine lv_iload_n S.1 S.2.1 dX8_fault_7 rfl (lv_at hl 2 rfl) ?_
  refine s_callS (As := [.int (2 : Int32)]) (rest := []) S hX G (k_X8_isFault l E (2 : Int32)) (va_cwS (bytes := cX8_isFault) (maxL := 1) (ret := (some .boolean)) 1 S.2.2.2.2 gX8_fault_X8_isFault rfl rfl rfl (by decide +kernel) ⟨Nat.le_of_ble_eq_true rfl, Nat.le_of_ble_eq_true rfl⟩) rfl hl.1 rfl (Nat.le_of_ble_eq_true rfl) ⟨Nat.zero_le _, Nat.zero_le _⟩ dX8_fault_8 (fun v I1 L1 H locs hR G => ?_)
  obtain ⟨hv, hI, hL⟩ := hR
  subst hv
  have G : GS E I L sg H locs := G.same hI hL
  refine W.eq (g2 := F0 mg 11 ls [.int (if ¬ (2 : Int32) < (0 : Int32) ∧ ¬ (2 : Int32) < (2 : Int32) then 1 else 0)]) rfl ?_
  refine s_if_eq_b (P := ¬ (2 : Int32) < (0 : Int32) ∧ ¬ (2 : Int32) < (2 : Int32)) (tgt := 23) S dX8_fault_11 (by decide) (fun h => absurd (by decide) h) (fun _ => ?_)
  refine lv_iload_n S.1 S.2.1 dX8_fault_14 rfl (lv_at hl 3 rfl) ?_
  refine lv_iconst (v := (0 : Int32)) S.1 S.2.1 dX8_fault_15 (by decide) ?_
  refine lv_iconst (v := (4 : Int32)) S.1 S.2.1 dX8_fault_16 (by decide) ?_
  refine s_callS (As := [.int (0 : Int32), .int (0 : Int32), .int (4 : Int32)]) (rest := []) S hX G (k_X8_isWithin l E (0 : Int32) (0 : Int32) (4 : Int32)) (va_cwS (bytes := cX8_isWithin) (maxL := 3) (ret := (some .boolean)) 3 S.2.2.2.2 gX8_fault_X8_isWithin rfl rfl rfl (by decide +kernel) ⟨Nat.le_of_ble_eq_true rfl, Nat.le_of_ble_eq_true rfl⟩) rfl hl.1 rfl (Nat.le_of_ble_eq_true rfl) ⟨Nat.zero_le _, Nat.zero_le _⟩ dX8_fault_17 (fun v I1 L1 H locs hR G => ?_)
  obtain ⟨hv, hI, hL⟩ := hR
  subst hv
  have G : GS E I L sg H locs := G.same hI hL
  refine W.eq (g2 := F0 mg 20 ls [.int (if ¬ (0 : Int32) < (0 : Int32) ∧ ¬ (4 : Int32) < (0 : Int32) then 1 else 0)]) rfl ?_
  refine s_if_ne_b (P := ¬ (0 : Int32) < (0 : Int32) ∧ ¬ (4 : Int32) < (0 : Int32)) (tgt := 26) S dX8_fault_20 (by decide) (fun _ => ?_) (fun h => absurd (by decide) h)
  refine lv_aload_n S.1 S.2.1 dX8_fault_26 rfl (lv_at hl 0 rfl) ?_
  refine s_get S hX G (i := 0) (kd := 8) (a := (I 0)) (v := .ref (E.2.2.2 1)) (C := RX8) (T := TX8) (N := 4) 0 (rfl : sh 0 = 8) rfl rfl rfl (by decide) rfl (fun _ h => (List.mem_cons_of_mem _ (List.mem_append_left _ (List.mem_append_left _ (List.mem_append_left _ (List.mem_append_left _ (List.mem_append_right _ h))))))) (by decide) (List.mem_of_getElem? (i := 2) rfl) (fun _ h => h) dX8_fault_27 ?_
  refine lv_iload_n S.1 S.2.1 dX8_fault_30 rfl (lv_at hl 1 rfl) ?_
  refine s_callV (C := RX0) (As := [.int (1 : Int32)]) (rest := []) (i := 1) (kd := 0) S hX G (k_X0_loadAt_1 l E 1 (by unfold IsB; decide)) (cwV (bytes := cX0_loadAt) (maxL := 2) (ret := (some (.object "BridgeLegs$Load"))) 1 S.2.2.2.2 gX8_fault_X0_loadAt rfl rfl rfl (by decide +kernel) ⟨Nat.le_of_ble_eq_true rfl, Nat.le_of_ble_eq_true rfl⟩) (rfl : sh 1 = 0) rfl rfl rfl (by decide) rfl hl.1 rfl (Nat.le_of_ble_eq_true rfl) ⟨Nat.zero_le _, Nat.zero_le _⟩ dX8_fault_31 (fun v I1 L1 H locs hR G => ?_)
  obtain ⟨hv, hI, hL⟩ := hR
  subst hv
  have G : GS E I L sg H locs := G.same hI hL
  refine W.eq (g2 := F0 mg 34 ls [.ref (E.2.2.2 11)]) rfl ?_
  refine lv_astore (lv' := [(4, .ref (E.2.2.2 11)), (0, .ref (E.2.2.2 0)), (1, .int (1 : Int32)), (2, .int (2 : Int32)), (3, .int (0 : Int32))]) S.1 S.2.1 dX8_fault_34 hl (by decide) rfl (fun ls hl => ?_)
  refine lv_aload S.1 S.2.1 dX8_fault_36 (lv_at hl 0 rfl) ?_
  refine s_getN S hX G (i := 11) (kd := 5) (a := (I 11)) (v := .ref (E.2.2.2 16)) (C := RX5) (T := TX5) (N := 13) 3 (rfl : sh 11 = 5) rfl rfl rfl (by decide) rfl (fun _ h => (List.mem_cons_of_mem _ (List.mem_append_left _ (List.mem_append_left _ (List.mem_append_left _ (List.mem_append_right _ h)))))) (by decide) (List.mem_of_getElem? (i := 19) rfl) (fun _ h => h) dX8_fault_38 ?_
  refine lv_iload_n S.1 S.2.1 dX8_fault_41 rfl (lv_at hl 3 rfl) ?_
  refine s_callV (C := RX3) (As := [.int (2 : Int32)]) (rest := []) (i := 16) (kd := 3) S hX G (k_X3_isLatched_2 l E 16 t (rfl : sh 16 = 3) (rfl : sh 17 = 10) (rfl : sh 18 = 17) (rfl : sh 19 = 17) e_t) (cwV (bytes := cX3_isLatched) (maxL := 2) (ret := (some .boolean)) 1 S.2.2.2.2 gX8_fault_X3_isLatched rfl rfl rfl (by decide +kernel) ⟨Nat.le_of_ble_eq_true rfl, Nat.le_of_ble_eq_true rfl⟩) (rfl : sh 16 = 3) rfl rfl rfl (by decide) rfl hl.1 rfl (Nat.le_of_ble_eq_true rfl) ⟨Nat.zero_le _, Nat.zero_le _⟩ dX8_fault_42 (fun v I1 L1 H locs hR G => ?_)
  obtain ⟨hv, hI, hL⟩ := hR
  subst hv
  have G : GS E I L sg H locs := G.same hI hL
  refine W.eq (g2 := F0 mg 45 ls [.int (if ¬ t 2 = 0 then 1 else 0)]) rfl ?_
  refine lv_istore (lv' := [(5, .int (if ¬ t 2 = 0 then 1 else 0)), (4, .ref (E.2.2.2 11)), (0, .ref (E.2.2.2 0)), (1, .int (1 : Int32)), (2, .int (2 : Int32)), (3, .int (0 : Int32))]) S.1 S.2.1 dX8_fault_45 hl (by decide) rfl (fun ls hl => ?_)
  refine lv_iload_n S.1 S.2.1 dX8_fault_47 rfl (lv_at hl 5 rfl) ?_
  refine lv_if_ne (tgt := 57) S.1 S.2.1 dX8_fault_48 (by decide) (fun h => absurd (by decide) h) (fun _ => ?_)
  refine lv_iload S.1 S.2.1 dX8_fault_51 (lv_at hl 0 rfl) ?_
  refine s_callS (As := [.int (if ¬ t 2 = 0 then 1 else 0)]) (rest := []) S hX G (k_X8_bit l E (if ¬ t 2 = 0 then 1 else 0) isb_ite) (va_cwS (bytes := cX8_bit) (maxL := 1) (ret := (some .int)) 1 S.2.2.2.2 gX8_fault_X8_bit rfl rfl rfl (by decide +kernel) ⟨Nat.le_of_ble_eq_true rfl, Nat.le_of_ble_eq_true rfl⟩) rfl hl.1 rfl (Nat.le_of_ble_eq_true rfl) ⟨Nat.zero_le _, Nat.zero_le _⟩ dX8_fault_53 (fun v I1 L1 H locs hR G => ?_)
  obtain ⟨hv, hI, hL⟩ := hR
  subst hv
  have G : GS E I L sg H locs := G.same hI hL
  refine W.eq (g2 := F0 mg 56 ls [.int (if ¬ t 2 = 0 then 1 else 0)]) rfl ?_
  refine s_iret (x := (if ¬ t 2 = 0 then 1 else 0)) S G hr hlk dX8_fault_56 ?_
  exact ⟨rfl, rfl, rfl⟩
set_option maxHeartbeats 4000000 in
set_option maxRecDepth 100000 in
theorem k_X8_fault_1_2_1 (l : Launch) (E : Ev) {I : SI} {L : SL} (t : Nat → Int32) (u : Nat → Int32) (e_t : I (17) = t) (e_u : I (18) = u) : CS l yX8_fault wsX8_fault ({ frames := 3, cells := 0, slots := 0, locals := 63 }) E [.ref (E.2.2.2 0), .int (1 : Int32), .int (2 : Int32), .int (1 : Int32)] I L (fun vv I' L' => vv = some (.int (if ¬ t 2 = 0 then u 2 else (-2000000004 : Int32))) ∧ I' = I ∧ L' = L) := by
  refine CS.of (cc := cX8_fault) (maxL := 6) (ret := (some .int)) (by decide) rfl (Nat.le_of_ble_eq_true rfl) ?_
  intro pg en sg mg below meth cg ls S hr hlk hX G hl
  have S : CallFix pg mg cg cX8_fault 6 sg _ wsX8_fault RX8 := S
  have hl : lv_has ls 6 [(0, .ref (E.2.2.2 0)), (1, .int (1 : Int32)), (2, .int (2 : Int32)), (3, .int (1 : Int32))] := hl
  refine lv_iload_n S.1 S.2.1 dX8_fault_0 rfl (lv_at hl 1 rfl) ?_
  refine s_callS (As := [.int (1 : Int32)]) (rest := []) S hX G (k_X8_isLoad l E (1 : Int32)) (va_cwS (bytes := cX8_isLoad) (maxL := 1) (ret := (some .boolean)) 1 S.2.2.2.2 gX8_fault_X8_isLoad rfl rfl rfl (by decide +kernel) ⟨Nat.le_of_ble_eq_true rfl, Nat.le_of_ble_eq_true rfl⟩) rfl hl.1 rfl (Nat.le_of_ble_eq_true rfl) ⟨Nat.zero_le _, Nat.zero_le _⟩ dX8_fault_1 (fun v I1 L1 H locs hR G => ?_)
  obtain ⟨hv, hI, hL⟩ := hR
  subst hv
  have G : GS E I L sg H locs := G.same hI hL
  refine W.eq (g2 := F0 mg 4 ls [.int (if ¬ (1 : Int32) < (0 : Int32) ∧ ¬ (1 : Int32) < (1 : Int32) then 1 else 0)]) rfl ?_
  refine s_if_eq_b (P := ¬ (1 : Int32) < (0 : Int32) ∧ ¬ (1 : Int32) < (1 : Int32)) (tgt := 23) S dX8_fault_4 (by decide) (fun h => absurd (by decide) h) (fun _ => ?_)
  refine lv_iload_n S.1 S.2.1 dX8_fault_7 rfl (lv_at hl 2 rfl) ?_
  refine s_callS (As := [.int (2 : Int32)]) (rest := []) S hX G (k_X8_isFault l E (2 : Int32)) (va_cwS (bytes := cX8_isFault) (maxL := 1) (ret := (some .boolean)) 1 S.2.2.2.2 gX8_fault_X8_isFault rfl rfl rfl (by decide +kernel) ⟨Nat.le_of_ble_eq_true rfl, Nat.le_of_ble_eq_true rfl⟩) rfl hl.1 rfl (Nat.le_of_ble_eq_true rfl) ⟨Nat.zero_le _, Nat.zero_le _⟩ dX8_fault_8 (fun v I1 L1 H locs hR G => ?_)
  obtain ⟨hv, hI, hL⟩ := hR
  subst hv
  have G : GS E I L sg H locs := G.same hI hL
  refine W.eq (g2 := F0 mg 11 ls [.int (if ¬ (2 : Int32) < (0 : Int32) ∧ ¬ (2 : Int32) < (2 : Int32) then 1 else 0)]) rfl ?_
  refine s_if_eq_b (P := ¬ (2 : Int32) < (0 : Int32) ∧ ¬ (2 : Int32) < (2 : Int32)) (tgt := 23) S dX8_fault_11 (by decide) (fun h => absurd (by decide) h) (fun _ => ?_)
  refine lv_iload_n S.1 S.2.1 dX8_fault_14 rfl (lv_at hl 3 rfl) ?_
  refine lv_iconst (v := (0 : Int32)) S.1 S.2.1 dX8_fault_15 (by decide) ?_
  refine lv_iconst (v := (4 : Int32)) S.1 S.2.1 dX8_fault_16 (by decide) ?_
  refine s_callS (As := [.int (1 : Int32), .int (0 : Int32), .int (4 : Int32)]) (rest := []) S hX G (k_X8_isWithin l E (1 : Int32) (0 : Int32) (4 : Int32)) (va_cwS (bytes := cX8_isWithin) (maxL := 3) (ret := (some .boolean)) 3 S.2.2.2.2 gX8_fault_X8_isWithin rfl rfl rfl (by decide +kernel) ⟨Nat.le_of_ble_eq_true rfl, Nat.le_of_ble_eq_true rfl⟩) rfl hl.1 rfl (Nat.le_of_ble_eq_true rfl) ⟨Nat.zero_le _, Nat.zero_le _⟩ dX8_fault_17 (fun v I1 L1 H locs hR G => ?_)
  obtain ⟨hv, hI, hL⟩ := hR
  subst hv
  have G : GS E I L sg H locs := G.same hI hL
  refine W.eq (g2 := F0 mg 20 ls [.int (if ¬ (1 : Int32) < (0 : Int32) ∧ ¬ (4 : Int32) < (1 : Int32) then 1 else 0)]) rfl ?_
  refine s_if_ne_b (P := ¬ (1 : Int32) < (0 : Int32) ∧ ¬ (4 : Int32) < (1 : Int32)) (tgt := 26) S dX8_fault_20 (by decide) (fun _ => ?_) (fun h => absurd (by decide) h)
  refine lv_aload_n S.1 S.2.1 dX8_fault_26 rfl (lv_at hl 0 rfl) ?_
  refine s_get S hX G (i := 0) (kd := 8) (a := (I 0)) (v := .ref (E.2.2.2 1)) (C := RX8) (T := TX8) (N := 4) 0 (rfl : sh 0 = 8) rfl rfl rfl (by decide) rfl (fun _ h => (List.mem_cons_of_mem _ (List.mem_append_left _ (List.mem_append_left _ (List.mem_append_left _ (List.mem_append_left _ (List.mem_append_right _ h))))))) (by decide) (List.mem_of_getElem? (i := 2) rfl) (fun _ h => h) dX8_fault_27 ?_
  refine lv_iload_n S.1 S.2.1 dX8_fault_30 rfl (lv_at hl 1 rfl) ?_
  refine s_callV (C := RX0) (As := [.int (1 : Int32)]) (rest := []) (i := 1) (kd := 0) S hX G (k_X0_loadAt_1 l E 1 (by unfold IsB; decide)) (cwV (bytes := cX0_loadAt) (maxL := 2) (ret := (some (.object "BridgeLegs$Load"))) 1 S.2.2.2.2 gX8_fault_X0_loadAt rfl rfl rfl (by decide +kernel) ⟨Nat.le_of_ble_eq_true rfl, Nat.le_of_ble_eq_true rfl⟩) (rfl : sh 1 = 0) rfl rfl rfl (by decide) rfl hl.1 rfl (Nat.le_of_ble_eq_true rfl) ⟨Nat.zero_le _, Nat.zero_le _⟩ dX8_fault_31 (fun v I1 L1 H locs hR G => ?_)
  obtain ⟨hv, hI, hL⟩ := hR
  subst hv
  have G : GS E I L sg H locs := G.same hI hL
  refine W.eq (g2 := F0 mg 34 ls [.ref (E.2.2.2 11)]) rfl ?_
  refine lv_astore (lv' := [(4, .ref (E.2.2.2 11)), (0, .ref (E.2.2.2 0)), (1, .int (1 : Int32)), (2, .int (2 : Int32)), (3, .int (1 : Int32))]) S.1 S.2.1 dX8_fault_34 hl (by decide) rfl (fun ls hl => ?_)
  refine lv_aload S.1 S.2.1 dX8_fault_36 (lv_at hl 0 rfl) ?_
  refine s_getN S hX G (i := 11) (kd := 5) (a := (I 11)) (v := .ref (E.2.2.2 16)) (C := RX5) (T := TX5) (N := 13) 3 (rfl : sh 11 = 5) rfl rfl rfl (by decide) rfl (fun _ h => (List.mem_cons_of_mem _ (List.mem_append_left _ (List.mem_append_left _ (List.mem_append_left _ (List.mem_append_right _ h)))))) (by decide) (List.mem_of_getElem? (i := 19) rfl) (fun _ h => h) dX8_fault_38 ?_
  refine lv_iload_n S.1 S.2.1 dX8_fault_41 rfl (lv_at hl 3 rfl) ?_
  refine s_callV (C := RX3) (As := [.int (2 : Int32)]) (rest := []) (i := 16) (kd := 3) S hX G (k_X3_isLatched_2 l E 16 t (rfl : sh 16 = 3) (rfl : sh 17 = 10) (rfl : sh 18 = 17) (rfl : sh 19 = 17) e_t) (cwV (bytes := cX3_isLatched) (maxL := 2) (ret := (some .boolean)) 1 S.2.2.2.2 gX8_fault_X3_isLatched rfl rfl rfl (by decide +kernel) ⟨Nat.le_of_ble_eq_true rfl, Nat.le_of_ble_eq_true rfl⟩) (rfl : sh 16 = 3) rfl rfl rfl (by decide) rfl hl.1 rfl (Nat.le_of_ble_eq_true rfl) ⟨Nat.zero_le _, Nat.zero_le _⟩ dX8_fault_42 (fun v I1 L1 H locs hR G => ?_)
  obtain ⟨hv, hI, hL⟩ := hR
  subst hv
  have G : GS E I L sg H locs := G.same hI hL
  refine W.eq (g2 := F0 mg 45 ls [.int (if ¬ t 2 = 0 then 1 else 0)]) rfl ?_
  refine lv_istore (lv' := [(5, .int (if ¬ t 2 = 0 then 1 else 0)), (4, .ref (E.2.2.2 11)), (0, .ref (E.2.2.2 0)), (1, .int (1 : Int32)), (2, .int (2 : Int32)), (3, .int (1 : Int32))]) S.1 S.2.1 dX8_fault_45 hl (by decide) rfl (fun ls hl => ?_)
  refine lv_iload_n S.1 S.2.1 dX8_fault_47 rfl (lv_at hl 5 rfl) ?_
  refine lv_if_ne (tgt := 57) S.1 S.2.1 dX8_fault_48 (by decide) (fun _ => ?_) (fun h => absurd h (by decide))
  refine lv_iload_n S.1 S.2.1 dX8_fault_57 rfl (lv_at hl 5 rfl) ?_
  refine lv_iconst (v := (4 : Int32)) S.1 S.2.1 dX8_fault_58 (by decide) ?_
  refine lv_icmp_ne (tgt := 79) S.1 S.2.1 dX8_fault_59 (by decide) (fun _ => ?_) (fun h => absurd h (by decide))
  refine lv_iload S.1 S.2.1 dX8_fault_79 (lv_at hl 0 rfl) ?_
  refine s_if_ne_b (P := ¬ t 2 = 0) (tgt := 87) S dX8_fault_81 (by decide) (fun c_1 => ?_) (fun c_1 => ?_)
  · refine lv_iload_n S.1 S.2.1 dX8_fault_87 rfl (lv_at hl 5 rfl) ?_
    refine lv_lookup (off := 28) (tgt := 116) S.1 S.2.1 dX8_fault_88 (by decide) (by decide) (by decide) ?_
    refine lv_aload S.1 S.2.1 dX8_fault_116 (lv_at hl 1 rfl) ?_
    refine s_getN S hX G (i := 11) (kd := 5) (a := (I 11)) (v := .ref (E.2.2.2 16)) (C := RX5) (T := TX5) (N := 13) 3 (rfl : sh 11 = 5) rfl rfl rfl (by decide) rfl (fun _ h => (List.mem_cons_of_mem _ (List.mem_append_left _ (List.mem_append_left _ (List.mem_append_left _ (List.mem_append_right _ h)))))) (by decide) (List.mem_of_getElem? (i := 19) rfl) (fun _ h => h) dX8_fault_118 ?_
    refine lv_iload_n S.1 S.2.1 dX8_fault_121 rfl (lv_at hl 4 rfl) ?_
    refine s_callV (C := RX3) (As := [.int (2 : Int32)]) (rest := []) (i := 16) (kd := 3) S hX G (k_X3_slotOf_2 l E 16 u (rfl : sh 16 = 3) (rfl : sh 17 = 10) (rfl : sh 18 = 17) (rfl : sh 19 = 17) e_u) (cwV (bytes := cX3_slotOf) (maxL := 2) (ret := (some .int)) 1 S.2.2.2.2 gX8_fault_X3_slotOf rfl rfl rfl (by decide +kernel) ⟨Nat.le_of_ble_eq_true rfl, Nat.le_of_ble_eq_true rfl⟩) (rfl : sh 16 = 3) rfl rfl rfl (by decide) rfl hl.1 rfl (Nat.le_of_ble_eq_true rfl) ⟨Nat.zero_le _, Nat.zero_le _⟩ dX8_fault_122 (fun v I1 L1 H locs hR G => ?_)
    obtain ⟨hv, hI, hL⟩ := hR
    subst hv
    have G : GS E I L sg H locs := G.same hI hL
    refine W.eq (g2 := F0 mg 125 ls [.int (u 2)]) rfl ?_
    refine s_iret (x := (u 2)) S G hr hlk dX8_fault_125 ?_
    exact ⟨(congrArg (fun q : Int32 => some (Value.int q)) (show (u 2) = (if ¬ t 2 = 0 then u 2 else (-2000000004 : Int32)) by first | rfl | exact (if_pos c_1).symm | exact (if_neg c_1).symm)), rfl, rfl⟩
  · refine lv_ldc (v := (-2000000004 : Int32)) S.1 S.2.1 S.2.2.2.1 (S.2.2.2.2 _ (List.mem_of_getElem? (i := 3) rfl)) dX8_fault_84 ?_
    refine s_iret (x := (-2000000004 : Int32)) S G hr hlk dX8_fault_86 ?_
    exact ⟨(congrArg (fun q : Int32 => some (Value.int q)) (show (-2000000004 : Int32) = (if ¬ t 2 = 0 then u 2 else (-2000000004 : Int32)) by first | rfl | exact (if_pos c_1).symm | exact (if_neg c_1).symm)), rfl, rfl⟩
set_option maxHeartbeats 4000000 in
set_option maxRecDepth 100000 in
theorem k_X8_fault_1_2_3 (l : Launch) (E : Ev) {I : SI} {L : SL} (t : Nat → Int32) (u : Nat → Int32) (e_t : I (17) = t) (e_u : I (18) = u) : CS l yX8_fault wsX8_fault ({ frames := 4, cells := 0, slots := 0, locals := 88 }) E [.ref (E.2.2.2 0), .int (1 : Int32), .int (2 : Int32), .int (3 : Int32)] I L (fun vv I' L' => vv = some (.int (if ¬ t 2 = 0 then plcF t u 2 else (-2000000004 : Int32))) ∧ I' = I ∧ L' = L) := by
  refine CS.of (cc := cX8_fault) (maxL := 6) (ret := (some .int)) (by decide) rfl (Nat.le_of_ble_eq_true rfl) ?_
  intro pg en sg mg below meth cg ls S hr hlk hX G hl
  have S : CallFix pg mg cg cX8_fault 6 sg _ wsX8_fault RX8 := S
  have hl : lv_has ls 6 [(0, .ref (E.2.2.2 0)), (1, .int (1 : Int32)), (2, .int (2 : Int32)), (3, .int (3 : Int32))] := hl
  refine lv_iload_n S.1 S.2.1 dX8_fault_0 rfl (lv_at hl 1 rfl) ?_
  refine s_callS (As := [.int (1 : Int32)]) (rest := []) S hX G (k_X8_isLoad l E (1 : Int32)) (va_cwS (bytes := cX8_isLoad) (maxL := 1) (ret := (some .boolean)) 1 S.2.2.2.2 gX8_fault_X8_isLoad rfl rfl rfl (by decide +kernel) ⟨Nat.le_of_ble_eq_true rfl, Nat.le_of_ble_eq_true rfl⟩) rfl hl.1 rfl (Nat.le_of_ble_eq_true rfl) ⟨Nat.zero_le _, Nat.zero_le _⟩ dX8_fault_1 (fun v I1 L1 H locs hR G => ?_)
  obtain ⟨hv, hI, hL⟩ := hR
  subst hv
  have G : GS E I L sg H locs := G.same hI hL
  refine W.eq (g2 := F0 mg 4 ls [.int (if ¬ (1 : Int32) < (0 : Int32) ∧ ¬ (1 : Int32) < (1 : Int32) then 1 else 0)]) rfl ?_
  refine s_if_eq_b (P := ¬ (1 : Int32) < (0 : Int32) ∧ ¬ (1 : Int32) < (1 : Int32)) (tgt := 23) S dX8_fault_4 (by decide) (fun h => absurd (by decide) h) (fun _ => ?_)
  refine lv_iload_n S.1 S.2.1 dX8_fault_7 rfl (lv_at hl 2 rfl) ?_
  refine s_callS (As := [.int (2 : Int32)]) (rest := []) S hX G (k_X8_isFault l E (2 : Int32)) (va_cwS (bytes := cX8_isFault) (maxL := 1) (ret := (some .boolean)) 1 S.2.2.2.2 gX8_fault_X8_isFault rfl rfl rfl (by decide +kernel) ⟨Nat.le_of_ble_eq_true rfl, Nat.le_of_ble_eq_true rfl⟩) rfl hl.1 rfl (Nat.le_of_ble_eq_true rfl) ⟨Nat.zero_le _, Nat.zero_le _⟩ dX8_fault_8 (fun v I1 L1 H locs hR G => ?_)
  obtain ⟨hv, hI, hL⟩ := hR
  subst hv
  have G : GS E I L sg H locs := G.same hI hL
  refine W.eq (g2 := F0 mg 11 ls [.int (if ¬ (2 : Int32) < (0 : Int32) ∧ ¬ (2 : Int32) < (2 : Int32) then 1 else 0)]) rfl ?_
  refine s_if_eq_b (P := ¬ (2 : Int32) < (0 : Int32) ∧ ¬ (2 : Int32) < (2 : Int32)) (tgt := 23) S dX8_fault_11 (by decide) (fun h => absurd (by decide) h) (fun _ => ?_)
  refine lv_iload_n S.1 S.2.1 dX8_fault_14 rfl (lv_at hl 3 rfl) ?_
  refine lv_iconst (v := (0 : Int32)) S.1 S.2.1 dX8_fault_15 (by decide) ?_
  refine lv_iconst (v := (4 : Int32)) S.1 S.2.1 dX8_fault_16 (by decide) ?_
  refine s_callS (As := [.int (3 : Int32), .int (0 : Int32), .int (4 : Int32)]) (rest := []) S hX G (k_X8_isWithin l E (3 : Int32) (0 : Int32) (4 : Int32)) (va_cwS (bytes := cX8_isWithin) (maxL := 3) (ret := (some .boolean)) 3 S.2.2.2.2 gX8_fault_X8_isWithin rfl rfl rfl (by decide +kernel) ⟨Nat.le_of_ble_eq_true rfl, Nat.le_of_ble_eq_true rfl⟩) rfl hl.1 rfl (Nat.le_of_ble_eq_true rfl) ⟨Nat.zero_le _, Nat.zero_le _⟩ dX8_fault_17 (fun v I1 L1 H locs hR G => ?_)
  obtain ⟨hv, hI, hL⟩ := hR
  subst hv
  have G : GS E I L sg H locs := G.same hI hL
  refine W.eq (g2 := F0 mg 20 ls [.int (if ¬ (3 : Int32) < (0 : Int32) ∧ ¬ (4 : Int32) < (3 : Int32) then 1 else 0)]) rfl ?_
  refine s_if_ne_b (P := ¬ (3 : Int32) < (0 : Int32) ∧ ¬ (4 : Int32) < (3 : Int32)) (tgt := 26) S dX8_fault_20 (by decide) (fun _ => ?_) (fun h => absurd (by decide) h)
  refine lv_aload_n S.1 S.2.1 dX8_fault_26 rfl (lv_at hl 0 rfl) ?_
  refine s_get S hX G (i := 0) (kd := 8) (a := (I 0)) (v := .ref (E.2.2.2 1)) (C := RX8) (T := TX8) (N := 4) 0 (rfl : sh 0 = 8) rfl rfl rfl (by decide) rfl (fun _ h => (List.mem_cons_of_mem _ (List.mem_append_left _ (List.mem_append_left _ (List.mem_append_left _ (List.mem_append_left _ (List.mem_append_right _ h))))))) (by decide) (List.mem_of_getElem? (i := 2) rfl) (fun _ h => h) dX8_fault_27 ?_
  refine lv_iload_n S.1 S.2.1 dX8_fault_30 rfl (lv_at hl 1 rfl) ?_
  refine s_callV (C := RX0) (As := [.int (1 : Int32)]) (rest := []) (i := 1) (kd := 0) S hX G (k_X0_loadAt_1 l E 1 (by unfold IsB; decide)) (cwV (bytes := cX0_loadAt) (maxL := 2) (ret := (some (.object "BridgeLegs$Load"))) 1 S.2.2.2.2 gX8_fault_X0_loadAt rfl rfl rfl (by decide +kernel) ⟨Nat.le_of_ble_eq_true rfl, Nat.le_of_ble_eq_true rfl⟩) (rfl : sh 1 = 0) rfl rfl rfl (by decide) rfl hl.1 rfl (Nat.le_of_ble_eq_true rfl) ⟨Nat.zero_le _, Nat.zero_le _⟩ dX8_fault_31 (fun v I1 L1 H locs hR G => ?_)
  obtain ⟨hv, hI, hL⟩ := hR
  subst hv
  have G : GS E I L sg H locs := G.same hI hL
  refine W.eq (g2 := F0 mg 34 ls [.ref (E.2.2.2 11)]) rfl ?_
  refine lv_astore (lv' := [(4, .ref (E.2.2.2 11)), (0, .ref (E.2.2.2 0)), (1, .int (1 : Int32)), (2, .int (2 : Int32)), (3, .int (3 : Int32))]) S.1 S.2.1 dX8_fault_34 hl (by decide) rfl (fun ls hl => ?_)
  refine lv_aload S.1 S.2.1 dX8_fault_36 (lv_at hl 0 rfl) ?_
  refine s_getN S hX G (i := 11) (kd := 5) (a := (I 11)) (v := .ref (E.2.2.2 16)) (C := RX5) (T := TX5) (N := 13) 3 (rfl : sh 11 = 5) rfl rfl rfl (by decide) rfl (fun _ h => (List.mem_cons_of_mem _ (List.mem_append_left _ (List.mem_append_left _ (List.mem_append_left _ (List.mem_append_right _ h)))))) (by decide) (List.mem_of_getElem? (i := 19) rfl) (fun _ h => h) dX8_fault_38 ?_
  refine lv_iload_n S.1 S.2.1 dX8_fault_41 rfl (lv_at hl 3 rfl) ?_
  refine s_callV (C := RX3) (As := [.int (2 : Int32)]) (rest := []) (i := 16) (kd := 3) S hX G (k_X3_isLatched_2 l E 16 t (rfl : sh 16 = 3) (rfl : sh 17 = 10) (rfl : sh 18 = 17) (rfl : sh 19 = 17) e_t) (cwV (bytes := cX3_isLatched) (maxL := 2) (ret := (some .boolean)) 1 S.2.2.2.2 gX8_fault_X3_isLatched rfl rfl rfl (by decide +kernel) ⟨Nat.le_of_ble_eq_true rfl, Nat.le_of_ble_eq_true rfl⟩) (rfl : sh 16 = 3) rfl rfl rfl (by decide) rfl hl.1 rfl (Nat.le_of_ble_eq_true rfl) ⟨Nat.zero_le _, Nat.zero_le _⟩ dX8_fault_42 (fun v I1 L1 H locs hR G => ?_)
  obtain ⟨hv, hI, hL⟩ := hR
  subst hv
  have G : GS E I L sg H locs := G.same hI hL
  refine W.eq (g2 := F0 mg 45 ls [.int (if ¬ t 2 = 0 then 1 else 0)]) rfl ?_
  refine lv_istore (lv' := [(5, .int (if ¬ t 2 = 0 then 1 else 0)), (4, .ref (E.2.2.2 11)), (0, .ref (E.2.2.2 0)), (1, .int (1 : Int32)), (2, .int (2 : Int32)), (3, .int (3 : Int32))]) S.1 S.2.1 dX8_fault_45 hl (by decide) rfl (fun ls hl => ?_)
  refine lv_iload_n S.1 S.2.1 dX8_fault_47 rfl (lv_at hl 5 rfl) ?_
  refine lv_if_ne (tgt := 57) S.1 S.2.1 dX8_fault_48 (by decide) (fun _ => ?_) (fun h => absurd h (by decide))
  refine lv_iload_n S.1 S.2.1 dX8_fault_57 rfl (lv_at hl 5 rfl) ?_
  refine lv_iconst (v := (4 : Int32)) S.1 S.2.1 dX8_fault_58 (by decide) ?_
  refine lv_icmp_ne (tgt := 79) S.1 S.2.1 dX8_fault_59 (by decide) (fun _ => ?_) (fun h => absurd h (by decide))
  refine lv_iload S.1 S.2.1 dX8_fault_79 (lv_at hl 0 rfl) ?_
  refine s_if_ne_b (P := ¬ t 2 = 0) (tgt := 87) S dX8_fault_81 (by decide) (fun c_1 => ?_) (fun c_1 => ?_)
  · refine lv_iload_n S.1 S.2.1 dX8_fault_87 rfl (lv_at hl 5 rfl) ?_
    refine lv_lookup (off := 48) (tgt := 136) S.1 S.2.1 dX8_fault_88 (by decide) (by decide) (by decide) ?_
    refine lv_aload S.1 S.2.1 dX8_fault_136 (lv_at hl 1 rfl) ?_
    refine s_getN S hX G (i := 11) (kd := 5) (a := (I 11)) (v := .ref (E.2.2.2 16)) (C := RX5) (T := TX5) (N := 13) 3 (rfl : sh 11 = 5) rfl rfl rfl (by decide) rfl (fun _ h => (List.mem_cons_of_mem _ (List.mem_append_left _ (List.mem_append_left _ (List.mem_append_left _ (List.mem_append_right _ h)))))) (by decide) (List.mem_of_getElem? (i := 19) rfl) (fun _ h => h) dX8_fault_138 ?_
    refine lv_iload_n S.1 S.2.1 dX8_fault_141 rfl (lv_at hl 4 rfl) ?_
    refine s_callV (C := RX3) (As := [.int (2 : Int32)]) (rest := []) (i := 16) (kd := 3) S hX G (k_X3_placeOf_2 l E 16 t u (rfl : sh 16 = 3) (rfl : sh 17 = 10) (rfl : sh 18 = 17) (rfl : sh 19 = 17) e_t e_u) (cwV (bytes := cX3_placeOf) (maxL := 6) (ret := (some .int)) 1 S.2.2.2.2 gX8_fault_X3_placeOf rfl rfl rfl (by decide +kernel) ⟨Nat.le_of_ble_eq_true rfl, Nat.le_of_ble_eq_true rfl⟩) (rfl : sh 16 = 3) rfl rfl rfl (by decide) rfl hl.1 rfl (Nat.le_of_ble_eq_true rfl) ⟨Nat.zero_le _, Nat.zero_le _⟩ dX8_fault_142 (fun v I1 L1 H locs hR G => ?_)
    obtain ⟨hv, hI, hL⟩ := hR
    subst hv
    have G : GS E I L sg H locs := G.same hI hL
    refine W.eq (g2 := F0 mg 145 ls [.int (plcF t u 2)]) rfl ?_
    refine lv_topi (fun y_2 ey_2 => ?_)
    refine s_iret (x := y_2) S G hr hlk dX8_fault_145 ?_
    exact ⟨(congrArg (fun q : Int32 => some (Value.int q)) (show y_2 = (if ¬ t 2 = 0 then plcF t u 2 else (-2000000004 : Int32)) by subst ey_2; (first | rfl | exact (if_pos c_1).symm | exact (if_neg c_1).symm))), rfl, rfl⟩
  · refine lv_ldc (v := (-2000000004 : Int32)) S.1 S.2.1 S.2.2.2.1 (S.2.2.2.2 _ (List.mem_of_getElem? (i := 3) rfl)) dX8_fault_84 ?_
    refine s_iret (x := (-2000000004 : Int32)) S G hr hlk dX8_fault_86 ?_
    exact ⟨(congrArg (fun q : Int32 => some (Value.int q)) (show (-2000000004 : Int32) = (if ¬ t 2 = 0 then plcF t u 2 else (-2000000004 : Int32)) by first | rfl | exact (if_pos c_1).symm | exact (if_neg c_1).symm)), rfl, rfl⟩
set_option maxHeartbeats 4000000 in
set_option maxRecDepth 100000 in
theorem k_X8_fault_1_2_4 (l : Launch) (E : Ev) {I : SI} {L : SL} (t : Nat → Int32) (b : Nat → Int32) (u : Nat → Int32) (sv : Nat → Int32) (e_t : I (17) = t) (e_b : I (11) = b) (e_u : I (18) = u) (e_sv : I (21) = sv) : CS l yX8_fault wsX8_fault ({ frames := 5, cells := 0, slots := 0, locals := 110 }) E [.ref (E.2.2.2 0), .int (1 : Int32), .int (2 : Int32), .int (4 : Int32)] I L (fun vv I' L' => vv = some (.int (if ¬ t 2 = 0 ∧ plcF t u 2 = 0 ∧ ¬ sv 4 / 2 < b 5 then 1 else 0)) ∧ I' = I ∧ L' = L) := by
  refine CS.of (cc := cX8_fault) (maxL := 6) (ret := (some .int)) (by decide) rfl (Nat.le_of_ble_eq_true rfl) ?_
  intro pg en sg mg below meth cg ls S hr hlk hX G hl
  have S : CallFix pg mg cg cX8_fault 6 sg _ wsX8_fault RX8 := S
  have hl : lv_has ls 6 [(0, .ref (E.2.2.2 0)), (1, .int (1 : Int32)), (2, .int (2 : Int32)), (3, .int (4 : Int32))] := hl
  refine lv_iload_n S.1 S.2.1 dX8_fault_0 rfl (lv_at hl 1 rfl) ?_
  refine s_callS (As := [.int (1 : Int32)]) (rest := []) S hX G (k_X8_isLoad l E (1 : Int32)) (va_cwS (bytes := cX8_isLoad) (maxL := 1) (ret := (some .boolean)) 1 S.2.2.2.2 gX8_fault_X8_isLoad rfl rfl rfl (by decide +kernel) ⟨Nat.le_of_ble_eq_true rfl, Nat.le_of_ble_eq_true rfl⟩) rfl hl.1 rfl (Nat.le_of_ble_eq_true rfl) ⟨Nat.zero_le _, Nat.zero_le _⟩ dX8_fault_1 (fun v I1 L1 H locs hR G => ?_)
  obtain ⟨hv, hI, hL⟩ := hR
  subst hv
  have G : GS E I L sg H locs := G.same hI hL
  refine W.eq (g2 := F0 mg 4 ls [.int (if ¬ (1 : Int32) < (0 : Int32) ∧ ¬ (1 : Int32) < (1 : Int32) then 1 else 0)]) rfl ?_
  refine s_if_eq_b (P := ¬ (1 : Int32) < (0 : Int32) ∧ ¬ (1 : Int32) < (1 : Int32)) (tgt := 23) S dX8_fault_4 (by decide) (fun h => absurd (by decide) h) (fun _ => ?_)
  refine lv_iload_n S.1 S.2.1 dX8_fault_7 rfl (lv_at hl 2 rfl) ?_
  refine s_callS (As := [.int (2 : Int32)]) (rest := []) S hX G (k_X8_isFault l E (2 : Int32)) (va_cwS (bytes := cX8_isFault) (maxL := 1) (ret := (some .boolean)) 1 S.2.2.2.2 gX8_fault_X8_isFault rfl rfl rfl (by decide +kernel) ⟨Nat.le_of_ble_eq_true rfl, Nat.le_of_ble_eq_true rfl⟩) rfl hl.1 rfl (Nat.le_of_ble_eq_true rfl) ⟨Nat.zero_le _, Nat.zero_le _⟩ dX8_fault_8 (fun v I1 L1 H locs hR G => ?_)
  obtain ⟨hv, hI, hL⟩ := hR
  subst hv
  have G : GS E I L sg H locs := G.same hI hL
  refine W.eq (g2 := F0 mg 11 ls [.int (if ¬ (2 : Int32) < (0 : Int32) ∧ ¬ (2 : Int32) < (2 : Int32) then 1 else 0)]) rfl ?_
  refine s_if_eq_b (P := ¬ (2 : Int32) < (0 : Int32) ∧ ¬ (2 : Int32) < (2 : Int32)) (tgt := 23) S dX8_fault_11 (by decide) (fun h => absurd (by decide) h) (fun _ => ?_)
  refine lv_iload_n S.1 S.2.1 dX8_fault_14 rfl (lv_at hl 3 rfl) ?_
  refine lv_iconst (v := (0 : Int32)) S.1 S.2.1 dX8_fault_15 (by decide) ?_
  refine lv_iconst (v := (4 : Int32)) S.1 S.2.1 dX8_fault_16 (by decide) ?_
  refine s_callS (As := [.int (4 : Int32), .int (0 : Int32), .int (4 : Int32)]) (rest := []) S hX G (k_X8_isWithin l E (4 : Int32) (0 : Int32) (4 : Int32)) (va_cwS (bytes := cX8_isWithin) (maxL := 3) (ret := (some .boolean)) 3 S.2.2.2.2 gX8_fault_X8_isWithin rfl rfl rfl (by decide +kernel) ⟨Nat.le_of_ble_eq_true rfl, Nat.le_of_ble_eq_true rfl⟩) rfl hl.1 rfl (Nat.le_of_ble_eq_true rfl) ⟨Nat.zero_le _, Nat.zero_le _⟩ dX8_fault_17 (fun v I1 L1 H locs hR G => ?_)
  obtain ⟨hv, hI, hL⟩ := hR
  subst hv
  have G : GS E I L sg H locs := G.same hI hL
  refine W.eq (g2 := F0 mg 20 ls [.int (if ¬ (4 : Int32) < (0 : Int32) ∧ ¬ (4 : Int32) < (4 : Int32) then 1 else 0)]) rfl ?_
  refine s_if_ne_b (P := ¬ (4 : Int32) < (0 : Int32) ∧ ¬ (4 : Int32) < (4 : Int32)) (tgt := 26) S dX8_fault_20 (by decide) (fun _ => ?_) (fun h => absurd (by decide) h)
  refine lv_aload_n S.1 S.2.1 dX8_fault_26 rfl (lv_at hl 0 rfl) ?_
  refine s_get S hX G (i := 0) (kd := 8) (a := (I 0)) (v := .ref (E.2.2.2 1)) (C := RX8) (T := TX8) (N := 4) 0 (rfl : sh 0 = 8) rfl rfl rfl (by decide) rfl (fun _ h => (List.mem_cons_of_mem _ (List.mem_append_left _ (List.mem_append_left _ (List.mem_append_left _ (List.mem_append_left _ (List.mem_append_right _ h))))))) (by decide) (List.mem_of_getElem? (i := 2) rfl) (fun _ h => h) dX8_fault_27 ?_
  refine lv_iload_n S.1 S.2.1 dX8_fault_30 rfl (lv_at hl 1 rfl) ?_
  refine s_callV (C := RX0) (As := [.int (1 : Int32)]) (rest := []) (i := 1) (kd := 0) S hX G (k_X0_loadAt_1 l E 1 (by unfold IsB; decide)) (cwV (bytes := cX0_loadAt) (maxL := 2) (ret := (some (.object "BridgeLegs$Load"))) 1 S.2.2.2.2 gX8_fault_X0_loadAt rfl rfl rfl (by decide +kernel) ⟨Nat.le_of_ble_eq_true rfl, Nat.le_of_ble_eq_true rfl⟩) (rfl : sh 1 = 0) rfl rfl rfl (by decide) rfl hl.1 rfl (Nat.le_of_ble_eq_true rfl) ⟨Nat.zero_le _, Nat.zero_le _⟩ dX8_fault_31 (fun v I1 L1 H locs hR G => ?_)
  obtain ⟨hv, hI, hL⟩ := hR
  subst hv
  have G : GS E I L sg H locs := G.same hI hL
  refine W.eq (g2 := F0 mg 34 ls [.ref (E.2.2.2 11)]) rfl ?_
  refine lv_astore (lv' := [(4, .ref (E.2.2.2 11)), (0, .ref (E.2.2.2 0)), (1, .int (1 : Int32)), (2, .int (2 : Int32)), (3, .int (4 : Int32))]) S.1 S.2.1 dX8_fault_34 hl (by decide) rfl (fun ls hl => ?_)
  refine lv_aload S.1 S.2.1 dX8_fault_36 (lv_at hl 0 rfl) ?_
  refine s_getN S hX G (i := 11) (kd := 5) (a := b) (v := .ref (E.2.2.2 16)) (C := RX5) (T := TX5) (N := 13) 3 (rfl : sh 11 = 5) e_b rfl rfl (by decide) rfl (fun _ h => (List.mem_cons_of_mem _ (List.mem_append_left _ (List.mem_append_left _ (List.mem_append_left _ (List.mem_append_right _ h)))))) (by decide) (List.mem_of_getElem? (i := 19) rfl) (fun _ h => h) dX8_fault_38 ?_
  refine lv_iload_n S.1 S.2.1 dX8_fault_41 rfl (lv_at hl 3 rfl) ?_
  refine s_callV (C := RX3) (As := [.int (2 : Int32)]) (rest := []) (i := 16) (kd := 3) S hX G (k_X3_isLatched_2 l E 16 t (rfl : sh 16 = 3) (rfl : sh 17 = 10) (rfl : sh 18 = 17) (rfl : sh 19 = 17) e_t) (cwV (bytes := cX3_isLatched) (maxL := 2) (ret := (some .boolean)) 1 S.2.2.2.2 gX8_fault_X3_isLatched rfl rfl rfl (by decide +kernel) ⟨Nat.le_of_ble_eq_true rfl, Nat.le_of_ble_eq_true rfl⟩) (rfl : sh 16 = 3) rfl rfl rfl (by decide) rfl hl.1 rfl (Nat.le_of_ble_eq_true rfl) ⟨Nat.zero_le _, Nat.zero_le _⟩ dX8_fault_42 (fun v I1 L1 H locs hR G => ?_)
  obtain ⟨hv, hI, hL⟩ := hR
  subst hv
  have G : GS E I L sg H locs := G.same hI hL
  refine W.eq (g2 := F0 mg 45 ls [.int (if ¬ t 2 = 0 then 1 else 0)]) rfl ?_
  refine lv_istore (lv' := [(5, .int (if ¬ t 2 = 0 then 1 else 0)), (4, .ref (E.2.2.2 11)), (0, .ref (E.2.2.2 0)), (1, .int (1 : Int32)), (2, .int (2 : Int32)), (3, .int (4 : Int32))]) S.1 S.2.1 dX8_fault_45 hl (by decide) rfl (fun ls hl => ?_)
  refine lv_iload_n S.1 S.2.1 dX8_fault_47 rfl (lv_at hl 5 rfl) ?_
  refine lv_if_ne (tgt := 57) S.1 S.2.1 dX8_fault_48 (by decide) (fun _ => ?_) (fun h => absurd h (by decide))
  refine lv_iload_n S.1 S.2.1 dX8_fault_57 rfl (lv_at hl 5 rfl) ?_
  refine lv_iconst (v := (4 : Int32)) S.1 S.2.1 dX8_fault_58 (by decide) ?_
  refine lv_icmp_ne (tgt := 79) S.1 S.2.1 dX8_fault_59 (by decide) (fun h => absurd (by decide) h) (fun _ => ?_)
  refine lv_aload S.1 S.2.1 dX8_fault_62 (lv_at hl 1 rfl) ?_
  refine lv_iload_n S.1 S.2.1 dX8_fault_64 rfl (lv_at hl 4 rfl) ?_
  refine lv_aload_n S.1 S.2.1 dX8_fault_65 rfl (lv_at hl 2 rfl) ?_
  refine s_get S hX G (i := 0) (kd := 8) (a := (I 0)) (v := .ref (E.2.2.2 1)) (C := RX8) (T := TX8) (N := 4) 0 (rfl : sh 0 = 8) rfl rfl rfl (by decide) rfl (fun _ h => (List.mem_cons_of_mem _ (List.mem_append_left _ (List.mem_append_left _ (List.mem_append_left _ (List.mem_append_left _ (List.mem_append_right _ h))))))) (by decide) (List.mem_of_getElem? (i := 2) rfl) (fun _ h => h) dX8_fault_66 ?_
  refine s_getN S hX G (i := 1) (kd := 0) (a := (I 1)) (v := .ref (E.2.2.2 20)) (C := RX0) (T := TX0) (N := 5) 2 (rfl : sh 1 = 0) rfl rfl rfl (by decide) rfl (fun _ h => (List.mem_cons_of_mem _ (List.mem_append_left _ (List.mem_append_left _ (List.mem_append_right _ h))))) (by decide) (List.mem_of_getElem? (i := 33) rfl) (fun _ h => h) dX8_fault_69 ?_
  refine s_callV (C := RX5) (As := [.int (2 : Int32), .ref (E.2.2.2 20)]) (rest := []) (i := 11) (kd := 5) S hX G (k_X5_isClearable_2 l E 11 20 b t u sv (by unfold IsLd; decide) (rfl : sh 20 = 1) (rfl : sh 21 = 20) e_b e_t e_u e_sv) (cwV (bytes := cX5_isClearable) (maxL := 3) (ret := (some .boolean)) 2 S.2.2.2.2 gX8_fault_X5_isClearable rfl rfl rfl (by decide +kernel) ⟨Nat.le_of_ble_eq_true rfl, Nat.le_of_ble_eq_true rfl⟩) (rfl : sh 11 = 5) rfl rfl rfl (by decide) rfl hl.1 rfl (Nat.le_of_ble_eq_true rfl) ⟨Nat.zero_le _, Nat.zero_le _⟩ dX8_fault_72 (fun v I1 L1 H locs hR G => ?_)
  obtain ⟨hv, hI, hL⟩ := hR
  subst hv
  have G : GS E I L sg H locs := G.same hI hL
  refine W.eq (g2 := F0 mg 75 ls [.int (if ¬ t 2 = 0 ∧ plcF t u 2 = 0 ∧ ¬ sv 4 / 2 < b 5 then 1 else 0)]) rfl ?_
  refine s_callS (As := [.int (if ¬ t 2 = 0 ∧ plcF t u 2 = 0 ∧ ¬ sv 4 / 2 < b 5 then 1 else 0)]) (rest := []) S hX G (k_X8_bit l E (if ¬ t 2 = 0 ∧ plcF t u 2 = 0 ∧ ¬ sv 4 / 2 < b 5 then 1 else 0) isb_ite) (va_cwS (bytes := cX8_bit) (maxL := 1) (ret := (some .int)) 1 S.2.2.2.2 gX8_fault_X8_bit rfl rfl rfl (by decide +kernel) ⟨Nat.le_of_ble_eq_true rfl, Nat.le_of_ble_eq_true rfl⟩) rfl hl.1 rfl (Nat.le_of_ble_eq_true rfl) ⟨Nat.zero_le _, Nat.zero_le _⟩ dX8_fault_75 (fun v I1 L1 H locs hR G => ?_)
  obtain ⟨hv, hI, hL⟩ := hR
  subst hv
  have G : GS E I L sg H locs := G.same hI hL
  refine W.eq (g2 := F0 mg 78 ls [.int (if ¬ t 2 = 0 ∧ plcF t u 2 = 0 ∧ ¬ sv 4 / 2 < b 5 then 1 else 0)]) rfl ?_
  refine s_iret (x := (if ¬ t 2 = 0 ∧ plcF t u 2 = 0 ∧ ¬ sv 4 / 2 < b 5 then 1 else 0)) S G hr hlk dX8_fault_78 ?_
  exact ⟨rfl, rfl, rfl⟩
set_option maxHeartbeats 4000000 in
set_option maxRecDepth 100000 in
theorem k_X8_fault_no (l : Launch) (E : Ev) {I : SI} {L : SL} (load : Int32) (fault : Int32) (what : Int32) (ht : ¬ (IN1 load ∧ IN2 fault ∧ INR what 0 4)) : CS l yX8_fault wsX8_fault ({ frames := 2, cells := 0, slots := 0, locals := 42 }) E [.ref (E.2.2.2 0), .int load, .int fault, .int what] I L (fun vv I' L' => vv = some (.int (-2000000001 : Int32)) ∧ I' = I ∧ L' = L) := by
  refine CS.of (cc := cX8_fault) (maxL := 6) (ret := (some .int)) (by decide) rfl (Nat.le_of_ble_eq_true rfl) ?_
  intro pg en sg mg below meth cg ls S hr hlk hX G hl
  have S : CallFix pg mg cg cX8_fault 6 sg _ wsX8_fault RX8 := S
  have hl : lv_has ls 6 [(0, .ref (E.2.2.2 0)), (1, .int load), (2, .int fault), (3, .int what)] := hl
  refine lv_iload_n S.1 S.2.1 dX8_fault_0 rfl (lv_at hl 1 rfl) ?_
  refine s_callS (As := [.int load]) (rest := []) S hX G (k_X8_isLoad l E load) (va_cwS (bytes := cX8_isLoad) (maxL := 1) (ret := (some .boolean)) 1 S.2.2.2.2 gX8_fault_X8_isLoad rfl rfl rfl (by decide +kernel) ⟨Nat.le_of_ble_eq_true rfl, Nat.le_of_ble_eq_true rfl⟩) rfl hl.1 rfl (Nat.le_of_ble_eq_true rfl) ⟨Nat.zero_le _, Nat.zero_le _⟩ dX8_fault_1 (fun v I1 L1 H locs hR G => ?_)
  obtain ⟨hv, hI, hL⟩ := hR
  subst hv
  have G : GS E I L sg H locs := G.same hI hL
  refine W.eq (g2 := F0 mg 4 ls [.int (if ¬ load < (0 : Int32) ∧ ¬ (1 : Int32) < load then 1 else 0)]) rfl ?_
  refine s_if_eq_b (P := ¬ load < (0 : Int32) ∧ ¬ (1 : Int32) < load) (tgt := 23) S dX8_fault_4 (by decide) (fun c_1 => ?_) (fun c_1 => ?_)
  · refine lv_ldc (v := (-2000000001 : Int32)) S.1 S.2.1 S.2.2.2.1 (S.2.2.2.2 _ (List.mem_of_getElem? (i := 1) rfl)) dX8_fault_23 ?_
    refine s_iret (x := (-2000000001 : Int32)) S G hr hlk dX8_fault_25 ?_
    exact ⟨rfl, rfl, rfl⟩
  · refine lv_iload_n S.1 S.2.1 dX8_fault_7 rfl (lv_at hl 2 rfl) ?_
    refine s_callS (As := [.int fault]) (rest := []) S hX G (k_X8_isFault l E fault) (va_cwS (bytes := cX8_isFault) (maxL := 1) (ret := (some .boolean)) 1 S.2.2.2.2 gX8_fault_X8_isFault rfl rfl rfl (by decide +kernel) ⟨Nat.le_of_ble_eq_true rfl, Nat.le_of_ble_eq_true rfl⟩) rfl hl.1 rfl (Nat.le_of_ble_eq_true rfl) ⟨Nat.zero_le _, Nat.zero_le _⟩ dX8_fault_8 (fun v I1 L1 H locs hR G => ?_)
    obtain ⟨hv, hI, hL⟩ := hR
    subst hv
    have G : GS E I L sg H locs := G.same hI hL
    refine W.eq (g2 := F0 mg 11 ls [.int (if ¬ fault < (0 : Int32) ∧ ¬ (2 : Int32) < fault then 1 else 0)]) rfl ?_
    refine s_if_eq_b (P := ¬ fault < (0 : Int32) ∧ ¬ (2 : Int32) < fault) (tgt := 23) S dX8_fault_11 (by decide) (fun c_2 => ?_) (fun c_2 => ?_)
    · refine lv_ldc (v := (-2000000001 : Int32)) S.1 S.2.1 S.2.2.2.1 (S.2.2.2.2 _ (List.mem_of_getElem? (i := 1) rfl)) dX8_fault_23 ?_
      refine s_iret (x := (-2000000001 : Int32)) S G hr hlk dX8_fault_25 ?_
      exact ⟨rfl, rfl, rfl⟩
    · refine lv_iload_n S.1 S.2.1 dX8_fault_14 rfl (lv_at hl 3 rfl) ?_
      refine lv_iconst (v := (0 : Int32)) S.1 S.2.1 dX8_fault_15 (by decide) ?_
      refine lv_iconst (v := (4 : Int32)) S.1 S.2.1 dX8_fault_16 (by decide) ?_
      refine s_callS (As := [.int what, .int (0 : Int32), .int (4 : Int32)]) (rest := []) S hX G (k_X8_isWithin l E what (0 : Int32) (4 : Int32)) (va_cwS (bytes := cX8_isWithin) (maxL := 3) (ret := (some .boolean)) 3 S.2.2.2.2 gX8_fault_X8_isWithin rfl rfl rfl (by decide +kernel) ⟨Nat.le_of_ble_eq_true rfl, Nat.le_of_ble_eq_true rfl⟩) rfl hl.1 rfl (Nat.le_of_ble_eq_true rfl) ⟨Nat.zero_le _, Nat.zero_le _⟩ dX8_fault_17 (fun v I1 L1 H locs hR G => ?_)
      obtain ⟨hv, hI, hL⟩ := hR
      subst hv
      have G : GS E I L sg H locs := G.same hI hL
      refine W.eq (g2 := F0 mg 20 ls [.int (if ¬ what < (0 : Int32) ∧ ¬ (4 : Int32) < what then 1 else 0)]) rfl ?_
      refine s_if_ne_b (P := ¬ what < (0 : Int32) ∧ ¬ (4 : Int32) < what) (tgt := 26) S dX8_fault_20 (by decide) (fun c_3 => ?_) (fun c_3 => ?_)
      · exact absurd (And.intro c_1 (And.intro c_2 c_3)) ht
      · refine lv_ldc (v := (-2000000001 : Int32)) S.1 S.2.1 S.2.2.2.1 (S.2.2.2.2 _ (List.mem_of_getElem? (i := 1) rfl)) dX8_fault_23 ?_
        refine s_iret (x := (-2000000001 : Int32)) S G hr hlk dX8_fault_25 ?_
        exact ⟨rfl, rfl, rfl⟩
