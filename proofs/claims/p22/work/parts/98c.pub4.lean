theorem min32 {k : Nat} (hk : k < 2 ^ 31) : minI (nI k) 32 = nI (Nat.min k 32) := by
  unfold minI
  rcases Nat.lt_or_ge 32 k with h | h
  · rw [if_pos (show (32 : Int32) < nI k from Int32.not_le.mp (nI_ge (b := k) (a := 32) h hk)), show Nat.min k 32 = 32 from Nat.min_eq_right (by omega)]
    rfl
  · rw [if_neg (show ¬ (32 : Int32) < nI k from nI_nlt (a := 32) (b := k) h (by decide)), show Nat.min k 32 = k from Nat.min_eq_left h]
theorem min_le {k : Nat} : Nat.min k 32 ≤ 32 ∧ Nat.min k 32 ≤ k := ⟨Nat.min_le_right _ _, Nat.min_le_left _ _⟩
set_option maxHeartbeats 4000000 in
set_option maxRecDepth 100000 in
theorem k_X8_scope_ok_1 (l : Launch) (E : Ev) {I : SI} {L : SL} (b : Nat) (br : Nat → Int32) (a : Nat → Int32) (k0 : Nat) (e_br : I (1) = br) (e_a : I (23) = a) (hs : br 4 = nI k0) (hk : k0 < 2 ^ 30) (hb : b < Nat.min k0 32) : CS l yX8_scope wsX8_scope ({ frames := 2, cells := 0, slots := 0, locals := 45 }) E [.ref (E.2.2.2 0), .int (nI b), .int (1 : Int32)] I L (fun vv I' L' => vv = some (.int (a ((k0 - 1 - b) % 32))) ∧ I' = I ∧ L' = L) := by
  refine CS.of (cc := cX8_scope) (maxL := 4) (ret := (some .int)) (by decide) rfl (Nat.le_of_ble_eq_true rfl) ?_
  intro pg en sg mg below meth cg ls S hr hlk hX G hl
  have S : CallFix pg mg cg cX8_scope 4 sg _ wsX8_scope RX8 := S
  have hl : lv_has ls 4 [(0, .ref (E.2.2.2 0)), (1, .int (nI b)), (2, .int (1 : Int32))] := hl
  refine lv_iload_n S.1 S.2.1 dX8_scope_0 rfl (lv_at hl 1 rfl) ?_
  refine lv_if_lt (tgt := 13) S.1 S.2.1 dX8_scope_1 (by decide) (fun h => absurd h (nI_pos (by have := @min_le k0; omega))) (fun _ => ?_)
  refine lv_iload_n S.1 S.2.1 dX8_scope_4 rfl (lv_at hl 2 rfl) ?_
  refine lv_iconst (v := (0 : Int32)) S.1 S.2.1 dX8_scope_5 (by decide) ?_
  refine lv_iconst (v := (4 : Int32)) S.1 S.2.1 dX8_scope_6 (by decide) ?_
  refine s_callS (As := [.int (1 : Int32), .int (0 : Int32), .int (4 : Int32)]) (rest := []) S hX G (k_X8_isWithin l E (1 : Int32) (0 : Int32) (4 : Int32)) (va_cwS (bytes := cX8_isWithin) (maxL := 3) (ret := (some .boolean)) 3 S.2.2.2.2 gX8_scope_X8_isWithin rfl rfl rfl (by decide +kernel) ⟨Nat.le_of_ble_eq_true rfl, Nat.le_of_ble_eq_true rfl⟩) rfl hl.1 rfl (Nat.le_of_ble_eq_true rfl) ⟨Nat.zero_le _, Nat.zero_le _⟩ dX8_scope_7 (fun v I1 L1 H locs hR G => ?_)
  obtain ⟨hv, hI, hL⟩ := hR
  subst hv
  have G : GS E I L sg H locs := G.same hI hL
  refine W.eq (g2 := F0 mg 10 ls [.int (if ¬ (1 : Int32) < (0 : Int32) ∧ ¬ (4 : Int32) < (1 : Int32) then 1 else 0)]) rfl ?_
  refine s_if_ne_b (P := ¬ (1 : Int32) < (0 : Int32) ∧ ¬ (4 : Int32) < (1 : Int32)) (tgt := 16) S dX8_scope_10 (by decide) (fun _ => ?_) (fun h => absurd (by decide) h)
  refine lv_iload_n S.1 S.2.1 dX8_scope_16 rfl (lv_at hl 1 rfl) ?_
  refine lv_aload_n S.1 S.2.1 dX8_scope_17 rfl (lv_at hl 0 rfl) ?_
  refine s_get S hX G (i := 0) (kd := 8) (a := (I 0)) (v := .ref (E.2.2.2 1)) (C := RX8) (T := TX8) (N := 4) 0 (rfl : sh 0 = 8) rfl rfl rfl (by decide) rfl (fun _ h => (List.mem_cons_of_mem _ (List.mem_append_left _ (List.mem_append_left _ (List.mem_append_right _ h))))) (by decide) (List.mem_of_getElem? (i := 2) rfl) (fun _ h => h) dX8_scope_18 ?_
  refine s_callV (C := RX0) (As := []) (rest := [.int (nI b)]) (i := 1) (kd := 0) S hX G (k_X0_slotsInScope l E 1 br (by unfold IsB; decide) e_br) (cwV (bytes := cX0_slotsInScope) (maxL := 1) (ret := (some .int)) 0 S.2.2.2.2 gX8_scope_X0_slotsInScope rfl rfl rfl (by decide +kernel) ⟨Nat.le_of_ble_eq_true rfl, Nat.le_of_ble_eq_true rfl⟩) (rfl : sh 1 = 0) rfl rfl rfl (by decide) rfl hl.1 rfl (Nat.le_of_ble_eq_true rfl) ⟨Nat.zero_le _, Nat.zero_le _⟩ dX8_scope_21 (fun v I1 L1 H locs hR G => ?_)
  obtain ⟨hv, hI, hL⟩ := hR
  subst hv
  have G : GS E I L sg H locs := G.same hI hL
  refine W.eq (g2 := F0 mg 24 ls [.int (minI (br 4) 32), .int (nI b)]) rfl ?_
  refine s_conv (y := (nI (Nat.min k0 32))) (by rw [hs]; exact min32 (by omega)) ?_
  refine lv_icmp_lt (tgt := 30) S.1 S.2.1 dX8_scope_24 (by decide) (fun _ => ?_) (fun h => absurd (Int32.not_le.mp (nI_ge hb (by have := @min_le k0; omega))) h)
  refine lv_aload_n S.1 S.2.1 dX8_scope_30 rfl (lv_at hl 0 rfl) ?_
  refine s_get S hX G (i := 0) (kd := 8) (a := (I 0)) (v := .ref (E.2.2.2 1)) (C := RX8) (T := TX8) (N := 4) 0 (rfl : sh 0 = 8) rfl rfl rfl (by decide) rfl (fun _ h => (List.mem_cons_of_mem _ (List.mem_append_left _ (List.mem_append_left _ (List.mem_append_right _ h))))) (by decide) (List.mem_of_getElem? (i := 2) rfl) (fun _ h => h) dX8_scope_31 ?_
  refine s_getN S hX G (i := 1) (kd := 0) (a := br) (v := .int (br 4)) (C := RX0) (T := TX0) (N := 5) 4 (rfl : sh 1 = 0) e_br rfl rfl (by decide) rfl (fun _ h => (List.mem_cons_of_mem _ (List.mem_append_left _ (List.mem_append_right _ h)))) (by decide) (List.mem_of_getElem? (i := 35) rfl) (fun _ h => h) dX8_scope_34 ?_
  refine s_conv (y := (nI k0)) hs ?_
  refine lv_iconst (v := (1 : Int32)) S.1 S.2.1 dX8_scope_37 (by decide) ?_
  refine s_isub (v := (nI (k0 - 1))) S dX8_scope_38 (pk_sub (a := k0) (b := 1) (by have := @min_le k0; omega)) ?_
  refine lv_iload_n S.1 S.2.1 dX8_scope_39 rfl (lv_at hl 1 rfl) ?_
  refine s_isub (v := (nI (k0 - 1 - b))) S dX8_scope_40 (pk_sub (a := k0 - 1) (b := b) (by have := @min_le k0; omega)) ?_
  refine lv_istore_n (lv' := [(3, .int (nI (k0 - 1 - b))), (0, .ref (E.2.2.2 0)), (1, .int (nI b)), (2, .int (1 : Int32))]) S.1 S.2.1 dX8_scope_41 rfl hl (by decide) rfl (fun ls hl => ?_)
  refine lv_iload_n S.1 S.2.1 dX8_scope_42 rfl (lv_at hl 3 rfl) ?_
  refine lv_if_ne (tgt := 50) S.1 S.2.1 dX8_scope_43 (by decide) (fun _ => ?_) (fun h => absurd h (by decide))
  refine lv_aload_n S.1 S.2.1 dX8_scope_50 rfl (lv_at hl 1 rfl) ?_
  refine s_get S hX G (i := 0) (kd := 8) (a := (I 0)) (v := .ref (E.2.2.2 1)) (C := RX8) (T := TX8) (N := 4) 0 (rfl : sh 0 = 8) rfl rfl rfl (by decide) rfl (fun _ h => (List.mem_cons_of_mem _ (List.mem_append_left _ (List.mem_append_left _ (List.mem_append_right _ h))))) (by decide) (List.mem_of_getElem? (i := 2) rfl) (fun _ h => h) dX8_scope_51 ?_
  refine s_getN S hX G (i := 1) (kd := 0) (a := br) (v := .ref (E.2.2.2 22)) (C := RX0) (T := TX0) (N := 5) 3 (rfl : sh 1 = 0) e_br rfl rfl (by decide) rfl (fun _ h => (List.mem_cons_of_mem _ (List.mem_append_left _ (List.mem_append_right _ h)))) (by decide) (List.mem_of_getElem? (i := 34) rfl) (fun _ h => h) dX8_scope_54 ?_
  refine lv_iload_n S.1 S.2.1 dX8_scope_57 rfl (lv_at hl 0 rfl) ?_
  refine lv_iload_n S.1 S.2.1 dX8_scope_58 rfl (lv_at hl 3 rfl) ?_
  refine s_callV (C := RX6) (As := [.int (nI (k0 - 1 - b)), .int (1 : Int32)]) (rest := []) (i := 22) (kd := 6) S hX G (k_X6_value_1 l E 22 (k0 - 1 - b) a (rfl : sh 22 = 6) (rfl : sh 23 = 46) (rfl : sh 24 = 46) (rfl : sh 25 = 46) (rfl : sh 26 = 46) e_a (by omega)) (cwV (bytes := cX6_value) (maxL := 4) (ret := (some .int)) 2 S.2.2.2.2 gX8_scope_X6_value rfl rfl rfl (by decide +kernel) ⟨Nat.le_of_ble_eq_true rfl, Nat.le_of_ble_eq_true rfl⟩) (rfl : sh 22 = 6) rfl rfl rfl (by decide) rfl hl.1 rfl (Nat.le_of_ble_eq_true rfl) ⟨Nat.zero_le _, Nat.zero_le _⟩ dX8_scope_59 (fun v I1 L1 H locs hR G => ?_)
  obtain ⟨hv, hI, hL⟩ := hR
  subst hv
  have G : GS E I L sg H locs := G.same hI hL
  refine W.eq (g2 := F0 mg 62 ls [.int (a ((k0 - 1 - b) % 32))]) rfl ?_
  refine lv_topi (fun y_1 ey_1 => ?_)
  refine s_iret (x := y_1) S G hr hlk dX8_scope_62 ?_
  exact ⟨(congrArg (fun q : Int32 => some (Value.int q)) (show y_1 = (a ((k0 - 1 - b) % 32)) by subst ey_1; rfl)), rfl, rfl⟩
set_option maxHeartbeats 4000000 in
set_option maxRecDepth 100000 in
theorem k_X8_scope_ok_2 (l : Launch) (E : Ev) {I : SI} {L : SL} (b : Nat) (br : Nat → Int32) (a : Nat → Int32) (k0 : Nat) (e_br : I (1) = br) (e_a : I (24) = a) (hs : br 4 = nI k0) (hk : k0 < 2 ^ 30) (hb : b < Nat.min k0 32) : CS l yX8_scope wsX8_scope ({ frames := 2, cells := 0, slots := 0, locals := 45 }) E [.ref (E.2.2.2 0), .int (nI b), .int (2 : Int32)] I L (fun vv I' L' => vv = some (.int (a ((k0 - 1 - b) % 32))) ∧ I' = I ∧ L' = L) := by
  refine CS.of (cc := cX8_scope) (maxL := 4) (ret := (some .int)) (by decide) rfl (Nat.le_of_ble_eq_true rfl) ?_
  intro pg en sg mg below meth cg ls S hr hlk hX G hl
  have S : CallFix pg mg cg cX8_scope 4 sg _ wsX8_scope RX8 := S
  have hl : lv_has ls 4 [(0, .ref (E.2.2.2 0)), (1, .int (nI b)), (2, .int (2 : Int32))] := hl
  refine lv_iload_n S.1 S.2.1 dX8_scope_0 rfl (lv_at hl 1 rfl) ?_
  refine lv_if_lt (tgt := 13) S.1 S.2.1 dX8_scope_1 (by decide) (fun h => absurd h (nI_pos (by have := @min_le k0; omega))) (fun _ => ?_)
  refine lv_iload_n S.1 S.2.1 dX8_scope_4 rfl (lv_at hl 2 rfl) ?_
  refine lv_iconst (v := (0 : Int32)) S.1 S.2.1 dX8_scope_5 (by decide) ?_
  refine lv_iconst (v := (4 : Int32)) S.1 S.2.1 dX8_scope_6 (by decide) ?_
  refine s_callS (As := [.int (2 : Int32), .int (0 : Int32), .int (4 : Int32)]) (rest := []) S hX G (k_X8_isWithin l E (2 : Int32) (0 : Int32) (4 : Int32)) (va_cwS (bytes := cX8_isWithin) (maxL := 3) (ret := (some .boolean)) 3 S.2.2.2.2 gX8_scope_X8_isWithin rfl rfl rfl (by decide +kernel) ⟨Nat.le_of_ble_eq_true rfl, Nat.le_of_ble_eq_true rfl⟩) rfl hl.1 rfl (Nat.le_of_ble_eq_true rfl) ⟨Nat.zero_le _, Nat.zero_le _⟩ dX8_scope_7 (fun v I1 L1 H locs hR G => ?_)
  obtain ⟨hv, hI, hL⟩ := hR
  subst hv
  have G : GS E I L sg H locs := G.same hI hL
  refine W.eq (g2 := F0 mg 10 ls [.int (if ¬ (2 : Int32) < (0 : Int32) ∧ ¬ (4 : Int32) < (2 : Int32) then 1 else 0)]) rfl ?_
  refine s_if_ne_b (P := ¬ (2 : Int32) < (0 : Int32) ∧ ¬ (4 : Int32) < (2 : Int32)) (tgt := 16) S dX8_scope_10 (by decide) (fun _ => ?_) (fun h => absurd (by decide) h)
  refine lv_iload_n S.1 S.2.1 dX8_scope_16 rfl (lv_at hl 1 rfl) ?_
  refine lv_aload_n S.1 S.2.1 dX8_scope_17 rfl (lv_at hl 0 rfl) ?_
  refine s_get S hX G (i := 0) (kd := 8) (a := (I 0)) (v := .ref (E.2.2.2 1)) (C := RX8) (T := TX8) (N := 4) 0 (rfl : sh 0 = 8) rfl rfl rfl (by decide) rfl (fun _ h => (List.mem_cons_of_mem _ (List.mem_append_left _ (List.mem_append_left _ (List.mem_append_right _ h))))) (by decide) (List.mem_of_getElem? (i := 2) rfl) (fun _ h => h) dX8_scope_18 ?_
  refine s_callV (C := RX0) (As := []) (rest := [.int (nI b)]) (i := 1) (kd := 0) S hX G (k_X0_slotsInScope l E 1 br (by unfold IsB; decide) e_br) (cwV (bytes := cX0_slotsInScope) (maxL := 1) (ret := (some .int)) 0 S.2.2.2.2 gX8_scope_X0_slotsInScope rfl rfl rfl (by decide +kernel) ⟨Nat.le_of_ble_eq_true rfl, Nat.le_of_ble_eq_true rfl⟩) (rfl : sh 1 = 0) rfl rfl rfl (by decide) rfl hl.1 rfl (Nat.le_of_ble_eq_true rfl) ⟨Nat.zero_le _, Nat.zero_le _⟩ dX8_scope_21 (fun v I1 L1 H locs hR G => ?_)
  obtain ⟨hv, hI, hL⟩ := hR
  subst hv
  have G : GS E I L sg H locs := G.same hI hL
  refine W.eq (g2 := F0 mg 24 ls [.int (minI (br 4) 32), .int (nI b)]) rfl ?_
  refine s_conv (y := (nI (Nat.min k0 32))) (by rw [hs]; exact min32 (by omega)) ?_
  refine lv_icmp_lt (tgt := 30) S.1 S.2.1 dX8_scope_24 (by decide) (fun _ => ?_) (fun h => absurd (Int32.not_le.mp (nI_ge hb (by have := @min_le k0; omega))) h)
  refine lv_aload_n S.1 S.2.1 dX8_scope_30 rfl (lv_at hl 0 rfl) ?_
  refine s_get S hX G (i := 0) (kd := 8) (a := (I 0)) (v := .ref (E.2.2.2 1)) (C := RX8) (T := TX8) (N := 4) 0 (rfl : sh 0 = 8) rfl rfl rfl (by decide) rfl (fun _ h => (List.mem_cons_of_mem _ (List.mem_append_left _ (List.mem_append_left _ (List.mem_append_right _ h))))) (by decide) (List.mem_of_getElem? (i := 2) rfl) (fun _ h => h) dX8_scope_31 ?_
  refine s_getN S hX G (i := 1) (kd := 0) (a := br) (v := .int (br 4)) (C := RX0) (T := TX0) (N := 5) 4 (rfl : sh 1 = 0) e_br rfl rfl (by decide) rfl (fun _ h => (List.mem_cons_of_mem _ (List.mem_append_left _ (List.mem_append_right _ h)))) (by decide) (List.mem_of_getElem? (i := 35) rfl) (fun _ h => h) dX8_scope_34 ?_
  refine s_conv (y := (nI k0)) hs ?_
  refine lv_iconst (v := (1 : Int32)) S.1 S.2.1 dX8_scope_37 (by decide) ?_
  refine s_isub (v := (nI (k0 - 1))) S dX8_scope_38 (pk_sub (a := k0) (b := 1) (by have := @min_le k0; omega)) ?_
  refine lv_iload_n S.1 S.2.1 dX8_scope_39 rfl (lv_at hl 1 rfl) ?_
  refine s_isub (v := (nI (k0 - 1 - b))) S dX8_scope_40 (pk_sub (a := k0 - 1) (b := b) (by have := @min_le k0; omega)) ?_
  refine lv_istore_n (lv' := [(3, .int (nI (k0 - 1 - b))), (0, .ref (E.2.2.2 0)), (1, .int (nI b)), (2, .int (2 : Int32))]) S.1 S.2.1 dX8_scope_41 rfl hl (by decide) rfl (fun ls hl => ?_)
  refine lv_iload_n S.1 S.2.1 dX8_scope_42 rfl (lv_at hl 3 rfl) ?_
  refine lv_if_ne (tgt := 50) S.1 S.2.1 dX8_scope_43 (by decide) (fun _ => ?_) (fun h => absurd h (by decide))
  refine lv_aload_n S.1 S.2.1 dX8_scope_50 rfl (lv_at hl 1 rfl) ?_
  refine s_get S hX G (i := 0) (kd := 8) (a := (I 0)) (v := .ref (E.2.2.2 1)) (C := RX8) (T := TX8) (N := 4) 0 (rfl : sh 0 = 8) rfl rfl rfl (by decide) rfl (fun _ h => (List.mem_cons_of_mem _ (List.mem_append_left _ (List.mem_append_left _ (List.mem_append_right _ h))))) (by decide) (List.mem_of_getElem? (i := 2) rfl) (fun _ h => h) dX8_scope_51 ?_
  refine s_getN S hX G (i := 1) (kd := 0) (a := br) (v := .ref (E.2.2.2 22)) (C := RX0) (T := TX0) (N := 5) 3 (rfl : sh 1 = 0) e_br rfl rfl (by decide) rfl (fun _ h => (List.mem_cons_of_mem _ (List.mem_append_left _ (List.mem_append_right _ h)))) (by decide) (List.mem_of_getElem? (i := 34) rfl) (fun _ h => h) dX8_scope_54 ?_
  refine lv_iload_n S.1 S.2.1 dX8_scope_57 rfl (lv_at hl 0 rfl) ?_
  refine lv_iload_n S.1 S.2.1 dX8_scope_58 rfl (lv_at hl 3 rfl) ?_
  refine s_callV (C := RX6) (As := [.int (nI (k0 - 1 - b)), .int (2 : Int32)]) (rest := []) (i := 22) (kd := 6) S hX G (k_X6_value_2 l E 22 (k0 - 1 - b) a (rfl : sh 22 = 6) (rfl : sh 23 = 46) (rfl : sh 24 = 46) (rfl : sh 25 = 46) (rfl : sh 26 = 46) e_a (by omega)) (cwV (bytes := cX6_value) (maxL := 4) (ret := (some .int)) 2 S.2.2.2.2 gX8_scope_X6_value rfl rfl rfl (by decide +kernel) ⟨Nat.le_of_ble_eq_true rfl, Nat.le_of_ble_eq_true rfl⟩) (rfl : sh 22 = 6) rfl rfl rfl (by decide) rfl hl.1 rfl (Nat.le_of_ble_eq_true rfl) ⟨Nat.zero_le _, Nat.zero_le _⟩ dX8_scope_59 (fun v I1 L1 H locs hR G => ?_)
  obtain ⟨hv, hI, hL⟩ := hR
  subst hv
  have G : GS E I L sg H locs := G.same hI hL
  refine W.eq (g2 := F0 mg 62 ls [.int (a ((k0 - 1 - b) % 32))]) rfl ?_
  refine lv_topi (fun y_1 ey_1 => ?_)
  refine s_iret (x := y_1) S G hr hlk dX8_scope_62 ?_
  exact ⟨(congrArg (fun q : Int32 => some (Value.int q)) (show y_1 = (a ((k0 - 1 - b) % 32)) by subst ey_1; rfl)), rfl, rfl⟩
set_option maxHeartbeats 4000000 in
set_option maxRecDepth 100000 in
theorem k_X8_scope_ok_3 (l : Launch) (E : Ev) {I : SI} {L : SL} (b : Nat) (br : Nat → Int32) (a : Nat → Int32) (k0 : Nat) (e_br : I (1) = br) (e_a : I (25) = a) (hs : br 4 = nI k0) (hk : k0 < 2 ^ 30) (hb : b < Nat.min k0 32) : CS l yX8_scope wsX8_scope ({ frames := 2, cells := 0, slots := 0, locals := 45 }) E [.ref (E.2.2.2 0), .int (nI b), .int (3 : Int32)] I L (fun vv I' L' => vv = some (.int (a ((k0 - 1 - b) % 32))) ∧ I' = I ∧ L' = L) := by
  refine CS.of (cc := cX8_scope) (maxL := 4) (ret := (some .int)) (by decide) rfl (Nat.le_of_ble_eq_true rfl) ?_
  intro pg en sg mg below meth cg ls S hr hlk hX G hl
  have S : CallFix pg mg cg cX8_scope 4 sg _ wsX8_scope RX8 := S
  have hl : lv_has ls 4 [(0, .ref (E.2.2.2 0)), (1, .int (nI b)), (2, .int (3 : Int32))] := hl
  refine lv_iload_n S.1 S.2.1 dX8_scope_0 rfl (lv_at hl 1 rfl) ?_
  refine lv_if_lt (tgt := 13) S.1 S.2.1 dX8_scope_1 (by decide) (fun h => absurd h (nI_pos (by have := @min_le k0; omega))) (fun _ => ?_)
  refine lv_iload_n S.1 S.2.1 dX8_scope_4 rfl (lv_at hl 2 rfl) ?_
  refine lv_iconst (v := (0 : Int32)) S.1 S.2.1 dX8_scope_5 (by decide) ?_
  refine lv_iconst (v := (4 : Int32)) S.1 S.2.1 dX8_scope_6 (by decide) ?_
  refine s_callS (As := [.int (3 : Int32), .int (0 : Int32), .int (4 : Int32)]) (rest := []) S hX G (k_X8_isWithin l E (3 : Int32) (0 : Int32) (4 : Int32)) (va_cwS (bytes := cX8_isWithin) (maxL := 3) (ret := (some .boolean)) 3 S.2.2.2.2 gX8_scope_X8_isWithin rfl rfl rfl (by decide +kernel) ⟨Nat.le_of_ble_eq_true rfl, Nat.le_of_ble_eq_true rfl⟩) rfl hl.1 rfl (Nat.le_of_ble_eq_true rfl) ⟨Nat.zero_le _, Nat.zero_le _⟩ dX8_scope_7 (fun v I1 L1 H locs hR G => ?_)
  obtain ⟨hv, hI, hL⟩ := hR
  subst hv
  have G : GS E I L sg H locs := G.same hI hL
  refine W.eq (g2 := F0 mg 10 ls [.int (if ¬ (3 : Int32) < (0 : Int32) ∧ ¬ (4 : Int32) < (3 : Int32) then 1 else 0)]) rfl ?_
  refine s_if_ne_b (P := ¬ (3 : Int32) < (0 : Int32) ∧ ¬ (4 : Int32) < (3 : Int32)) (tgt := 16) S dX8_scope_10 (by decide) (fun _ => ?_) (fun h => absurd (by decide) h)
  refine lv_iload_n S.1 S.2.1 dX8_scope_16 rfl (lv_at hl 1 rfl) ?_
  refine lv_aload_n S.1 S.2.1 dX8_scope_17 rfl (lv_at hl 0 rfl) ?_
  refine s_get S hX G (i := 0) (kd := 8) (a := (I 0)) (v := .ref (E.2.2.2 1)) (C := RX8) (T := TX8) (N := 4) 0 (rfl : sh 0 = 8) rfl rfl rfl (by decide) rfl (fun _ h => (List.mem_cons_of_mem _ (List.mem_append_left _ (List.mem_append_left _ (List.mem_append_right _ h))))) (by decide) (List.mem_of_getElem? (i := 2) rfl) (fun _ h => h) dX8_scope_18 ?_
  refine s_callV (C := RX0) (As := []) (rest := [.int (nI b)]) (i := 1) (kd := 0) S hX G (k_X0_slotsInScope l E 1 br (by unfold IsB; decide) e_br) (cwV (bytes := cX0_slotsInScope) (maxL := 1) (ret := (some .int)) 0 S.2.2.2.2 gX8_scope_X0_slotsInScope rfl rfl rfl (by decide +kernel) ⟨Nat.le_of_ble_eq_true rfl, Nat.le_of_ble_eq_true rfl⟩) (rfl : sh 1 = 0) rfl rfl rfl (by decide) rfl hl.1 rfl (Nat.le_of_ble_eq_true rfl) ⟨Nat.zero_le _, Nat.zero_le _⟩ dX8_scope_21 (fun v I1 L1 H locs hR G => ?_)
  obtain ⟨hv, hI, hL⟩ := hR
  subst hv
  have G : GS E I L sg H locs := G.same hI hL
  refine W.eq (g2 := F0 mg 24 ls [.int (minI (br 4) 32), .int (nI b)]) rfl ?_
  refine s_conv (y := (nI (Nat.min k0 32))) (by rw [hs]; exact min32 (by omega)) ?_
  refine lv_icmp_lt (tgt := 30) S.1 S.2.1 dX8_scope_24 (by decide) (fun _ => ?_) (fun h => absurd (Int32.not_le.mp (nI_ge hb (by have := @min_le k0; omega))) h)
  refine lv_aload_n S.1 S.2.1 dX8_scope_30 rfl (lv_at hl 0 rfl) ?_
  refine s_get S hX G (i := 0) (kd := 8) (a := (I 0)) (v := .ref (E.2.2.2 1)) (C := RX8) (T := TX8) (N := 4) 0 (rfl : sh 0 = 8) rfl rfl rfl (by decide) rfl (fun _ h => (List.mem_cons_of_mem _ (List.mem_append_left _ (List.mem_append_left _ (List.mem_append_right _ h))))) (by decide) (List.mem_of_getElem? (i := 2) rfl) (fun _ h => h) dX8_scope_31 ?_
  refine s_getN S hX G (i := 1) (kd := 0) (a := br) (v := .int (br 4)) (C := RX0) (T := TX0) (N := 5) 4 (rfl : sh 1 = 0) e_br rfl rfl (by decide) rfl (fun _ h => (List.mem_cons_of_mem _ (List.mem_append_left _ (List.mem_append_right _ h)))) (by decide) (List.mem_of_getElem? (i := 35) rfl) (fun _ h => h) dX8_scope_34 ?_
  refine s_conv (y := (nI k0)) hs ?_
  refine lv_iconst (v := (1 : Int32)) S.1 S.2.1 dX8_scope_37 (by decide) ?_
  refine s_isub (v := (nI (k0 - 1))) S dX8_scope_38 (pk_sub (a := k0) (b := 1) (by have := @min_le k0; omega)) ?_
  refine lv_iload_n S.1 S.2.1 dX8_scope_39 rfl (lv_at hl 1 rfl) ?_
  refine s_isub (v := (nI (k0 - 1 - b))) S dX8_scope_40 (pk_sub (a := k0 - 1) (b := b) (by have := @min_le k0; omega)) ?_
  refine lv_istore_n (lv' := [(3, .int (nI (k0 - 1 - b))), (0, .ref (E.2.2.2 0)), (1, .int (nI b)), (2, .int (3 : Int32))]) S.1 S.2.1 dX8_scope_41 rfl hl (by decide) rfl (fun ls hl => ?_)
  refine lv_iload_n S.1 S.2.1 dX8_scope_42 rfl (lv_at hl 3 rfl) ?_
  refine lv_if_ne (tgt := 50) S.1 S.2.1 dX8_scope_43 (by decide) (fun _ => ?_) (fun h => absurd h (by decide))
  refine lv_aload_n S.1 S.2.1 dX8_scope_50 rfl (lv_at hl 1 rfl) ?_
  refine s_get S hX G (i := 0) (kd := 8) (a := (I 0)) (v := .ref (E.2.2.2 1)) (C := RX8) (T := TX8) (N := 4) 0 (rfl : sh 0 = 8) rfl rfl rfl (by decide) rfl (fun _ h => (List.mem_cons_of_mem _ (List.mem_append_left _ (List.mem_append_left _ (List.mem_append_right _ h))))) (by decide) (List.mem_of_getElem? (i := 2) rfl) (fun _ h => h) dX8_scope_51 ?_
  refine s_getN S hX G (i := 1) (kd := 0) (a := br) (v := .ref (E.2.2.2 22)) (C := RX0) (T := TX0) (N := 5) 3 (rfl : sh 1 = 0) e_br rfl rfl (by decide) rfl (fun _ h => (List.mem_cons_of_mem _ (List.mem_append_left _ (List.mem_append_right _ h)))) (by decide) (List.mem_of_getElem? (i := 34) rfl) (fun _ h => h) dX8_scope_54 ?_
  refine lv_iload_n S.1 S.2.1 dX8_scope_57 rfl (lv_at hl 0 rfl) ?_
  refine lv_iload_n S.1 S.2.1 dX8_scope_58 rfl (lv_at hl 3 rfl) ?_
  refine s_callV (C := RX6) (As := [.int (nI (k0 - 1 - b)), .int (3 : Int32)]) (rest := []) (i := 22) (kd := 6) S hX G (k_X6_value_3 l E 22 (k0 - 1 - b) a (rfl : sh 22 = 6) (rfl : sh 23 = 46) (rfl : sh 24 = 46) (rfl : sh 25 = 46) (rfl : sh 26 = 46) e_a (by omega)) (cwV (bytes := cX6_value) (maxL := 4) (ret := (some .int)) 2 S.2.2.2.2 gX8_scope_X6_value rfl rfl rfl (by decide +kernel) ⟨Nat.le_of_ble_eq_true rfl, Nat.le_of_ble_eq_true rfl⟩) (rfl : sh 22 = 6) rfl rfl rfl (by decide) rfl hl.1 rfl (Nat.le_of_ble_eq_true rfl) ⟨Nat.zero_le _, Nat.zero_le _⟩ dX8_scope_59 (fun v I1 L1 H locs hR G => ?_)
  obtain ⟨hv, hI, hL⟩ := hR
  subst hv
  have G : GS E I L sg H locs := G.same hI hL
  refine W.eq (g2 := F0 mg 62 ls [.int (a ((k0 - 1 - b) % 32))]) rfl ?_
  refine lv_topi (fun y_1 ey_1 => ?_)
  refine s_iret (x := y_1) S G hr hlk dX8_scope_62 ?_
  exact ⟨(congrArg (fun q : Int32 => some (Value.int q)) (show y_1 = (a ((k0 - 1 - b) % 32)) by subst ey_1; rfl)), rfl, rfl⟩
