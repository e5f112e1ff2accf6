set_option maxHeartbeats 4000000 in
set_option maxRecDepth 100000 in
theorem k_X9_scope_ok_0 (l : Launch) (E : Ev) {I : SI} {L : SL} (b : Nat) (d : Nat → Int32) (s : Nat) (e_d : I (162) = d) (hs : d 102 = nI s) (hs2 : s ≤ 32) (hb : b < s) : CS l yX9_scope wsX9_scope ({ frames := 1, cells := 0, slots := 0, locals := 25 }) E [.ref (E.2.2.2 161), .int (nI b), .int (0 : Int32)] I L (fun vv I' L' => vv = some (.int (d (110 + 5 * b + 0))) ∧ I' = I ∧ L' = L) := by
  refine CS.of (cc := cX9_scope) (maxL := 3) (ret := (some .int)) (by decide) rfl (Nat.le_of_ble_eq_true rfl) ?_
  intro pg en sg mg below meth cg ls S hr hlk hX G hl
  have S : CallFix pg mg cg cX9_scope 3 sg _ wsX9_scope RX9 := S
  have hl : lv_has ls 3 [(0, .ref (E.2.2.2 161)), (1, .int (nI b)), (2, .int (0 : Int32))] := hl
  refine lv_iload_n S.1 S.2.1 dX9_scope_0 rfl (lv_at hl 1 rfl) ?_
  refine lv_if_lt (tgt := 16) S.1 S.2.1 dX9_scope_1 (by decide) (fun h => absurd h (nI_pos (by omega))) (fun _ => ?_)
  refine lv_iload_n S.1 S.2.1 dX9_scope_4 rfl (lv_at hl 2 rfl) ?_
  refine lv_i2l (v := (0 : Int64)) S.1 S.2.1 dX9_scope_5 (by decide) ?_
  refine lv_lconst (v := (0 : Int64)) S.1 S.2.1 dX9_scope_6 (by decide) ?_
  refine lv_ldc2 (v := (4 : Int64)) S.1 S.2.1 S.2.2.2.1 (S.2.2.2.2 _ (List.mem_of_getElem? (i := 1) rfl)) dX9_scope_7 ?_
  refine s_callS (As := [.long (0 : Int64), .long (0 : Int64), .long (4 : Int64)]) (rest := []) S hX G (k_X9_in l E (0 : Int64) (0 : Int64) (4 : Int64)) (va_cwS (bytes := cX9_in) (maxL := 6) (ret := (some .boolean)) 3 S.2.2.2.2 gX9_scope_X9_in rfl rfl rfl (by decide +kernel) ⟨Nat.le_of_ble_eq_true rfl, Nat.le_of_ble_eq_true rfl⟩) rfl hl.1 rfl (Nat.le_of_ble_eq_true rfl) ⟨Nat.zero_le _, Nat.zero_le _⟩ dX9_scope_10 (fun v I1 L1 H locs hR G => ?_)
  obtain ⟨hv, hI, hL⟩ := hR
  subst hv
  have G : GS E I L sg H locs := G.same hI hL
  refine W.eq (g2 := F0 mg 13 ls [.int (if ¬ (0 : Int64) < (0 : Int64) ∧ ¬ (4 : Int64) < (0 : Int64) then 1 else 0)]) rfl ?_
  refine s_if_ne_b (P := ¬ (0 : Int64) < (0 : Int64) ∧ ¬ (4 : Int64) < (0 : Int64)) (tgt := 19) S dX9_scope_13 (by decide) (fun _ => ?_) (fun h => absurd (by decide) h)
  refine lv_iload_n S.1 S.2.1 dX9_scope_19 rfl (lv_at hl 1 rfl) ?_
  refine lv_aload_n S.1 S.2.1 dX9_scope_20 rfl (lv_at hl 0 rfl) ?_
  refine s_get S hX G (i := 161) (kd := 9) (a := (I 161)) (v := .ref (E.2.2.2 162)) (C := RX9) (T := TX9) (N := 13) 0 (rfl : sh 161 = 9) rfl rfl rfl (by decide) rfl (fun _ h => (List.mem_cons_of_mem _ (List.mem_append_right _ h))) (by decide) (List.mem_of_getElem? (i := 3) rfl) (fun _ h => h) dX9_scope_21 ?_
  refine lv_bipush (v := (102 : Int32)) S.1 S.2.1 dX9_scope_24 (by decide) ?_
  refine s_iald S hX G (i := 162) (kd := 284) (n := 270) (a := d) (x := (d 102)) (rfl : sh 162 = 284) e_d rfl (by decide) (by unfold vp_in; decide) (congrArg d (by decide)) dX9_scope_26 ?_
  refine s_conv (y := (nI s)) hs ?_
  refine lv_icmp_ge (tgt := 46) S.1 S.2.1 dX9_scope_27 (by decide) (fun h => absurd h (nI_ge hb (by omega))) (fun _ => ?_)
  refine lv_aload_n S.1 S.2.1 dX9_scope_30 rfl (lv_at hl 0 rfl) ?_
  refine s_get S hX G (i := 161) (kd := 9) (a := (I 161)) (v := .ref (E.2.2.2 162)) (C := RX9) (T := TX9) (N := 13) 0 (rfl : sh 161 = 9) rfl rfl rfl (by decide) rfl (fun _ h => (List.mem_cons_of_mem _ (List.mem_append_right _ h))) (by decide) (List.mem_of_getElem? (i := 3) rfl) (fun _ h => h) dX9_scope_31 ?_
  refine lv_bipush (v := (110 : Int32)) S.1 S.2.1 dX9_scope_34 (by decide) ?_
  refine lv_iconst (v := (5 : Int32)) S.1 S.2.1 dX9_scope_36 (by decide) ?_
  refine lv_iload_n S.1 S.2.1 dX9_scope_37 rfl (lv_at hl 1 rfl) ?_
  refine s_imul (v := (nI (5 * b))) S dX9_scope_38 (pk_mul 5 b) ?_
  refine s_iadd (v := (nI (110 + (5 * b)))) S dX9_scope_39 (nI_add 110 (5 * b)) ?_
  refine lv_iload_n S.1 S.2.1 dX9_scope_40 rfl (lv_at hl 2 rfl) ?_
  refine s_iadd (v := (nI ((110 + (5 * b)) + 0))) S dX9_scope_41 (nI_add (110 + (5 * b)) 0) ?_
  refine s_iald S hX G (i := 162) (kd := 284) (n := 270) (a := d) (x := (d ((110 + (5 * b)) + 0))) (rfl : sh 162 = 284) e_d rfl (by decide) (vp_in_nI (by omega) (by decide)) (congrArg d (nI_clamp (by omega))) dX9_scope_42 ?_
  refine lv_goto (tgt := 48) S.1 S.2.1 dX9_scope_43 (by decide) ?_
  refine s_iret (x := (d ((110 + (5 * b)) + 0))) S G hr hlk dX9_scope_48 ?_
  exact ⟨(congrArg (fun q : Int32 => some (Value.int q)) (show (d ((110 + (5 * b)) + 0)) = (d (110 + 5 * b + 0)) by rfl)), rfl, rfl⟩
set_option maxHeartbeats 4000000 in
set_option maxRecDepth 100000 in
theorem k_X9_scope_nf_0 (l : Launch) (E : Ev) {I : SI} {L : SL} (b : Nat) (d : Nat → Int32) (s : Nat) (e_d : I (162) = d) (hs : d 102 = nI s) (hb : s ≤ b) (hb2 : b < 2 ^ 31) : CS l yX9_scope wsX9_scope ({ frames := 1, cells := 0, slots := 0, locals := 25 }) E [.ref (E.2.2.2 161), .int (nI b), .int (0 : Int32)] I L (fun vv I' L' => vv = some (.int (-2000000004 : Int32)) ∧ I' = I ∧ L' = L) := by
  refine CS.of (cc := cX9_scope) (maxL := 3) (ret := (some .int)) (by decide) rfl (Nat.le_of_ble_eq_true rfl) ?_
  intro pg en sg mg below meth cg ls S hr hlk hX G hl
  have S : CallFix pg mg cg cX9_scope 3 sg _ wsX9_scope RX9 := S
  have hl : lv_has ls 3 [(0, .ref (E.2.2.2 161)), (1, .int (nI b)), (2, .int (0 : Int32))] := hl
  refine lv_iload_n S.1 S.2.1 dX9_scope_0 rfl (lv_at hl 1 rfl) ?_
  refine lv_if_lt (tgt := 16) S.1 S.2.1 dX9_scope_1 (by decide) (fun h => absurd h (nI_pos (by omega))) (fun _ => ?_)
  refine lv_iload_n S.1 S.2.1 dX9_scope_4 rfl (lv_at hl 2 rfl) ?_
  refine lv_i2l (v := (0 : Int64)) S.1 S.2.1 dX9_scope_5 (by decide) ?_
  refine lv_lconst (v := (0 : Int64)) S.1 S.2.1 dX9_scope_6 (by decide) ?_
  refine lv_ldc2 (v := (4 : Int64)) S.1 S.2.1 S.2.2.2.1 (S.2.2.2.2 _ (List.mem_of_getElem? (i := 1) rfl)) dX9_scope_7 ?_
  refine s_callS (As := [.long (0 : Int64), .long (0 : Int64), .long (4 : Int64)]) (rest := []) S hX G (k_X9_in l E (0 : Int64) (0 : Int64) (4 : Int64)) (va_cwS (bytes := cX9_in) (maxL := 6) (ret := (some .boolean)) 3 S.2.2.2.2 gX9_scope_X9_in rfl rfl rfl (by decide +kernel) ⟨Nat.le_of_ble_eq_true rfl, Nat.le_of_ble_eq_true rfl⟩) rfl hl.1 rfl (Nat.le_of_ble_eq_true rfl) ⟨Nat.zero_le _, Nat.zero_le _⟩ dX9_scope_10 (fun v I1 L1 H locs hR G => ?_)
  obtain ⟨hv, hI, hL⟩ := hR
  subst hv
  have G : GS E I L sg H locs := G.same hI hL
  refine W.eq (g2 := F0 mg 13 ls [.int (if ¬ (0 : Int64) < (0 : Int64) ∧ ¬ (4 : Int64) < (0 : Int64) then 1 else 0)]) rfl ?_
  refine s_if_ne_b (P := ¬ (0 : Int64) < (0 : Int64) ∧ ¬ (4 : Int64) < (0 : Int64)) (tgt := 19) S dX9_scope_13 (by decide) (fun _ => ?_) (fun h => absurd (by decide) h)
  refine lv_iload_n S.1 S.2.1 dX9_scope_19 rfl (lv_at hl 1 rfl) ?_
  refine lv_aload_n S.1 S.2.1 dX9_scope_20 rfl (lv_at hl 0 rfl) ?_
  refine s_get S hX G (i := 161) (kd := 9) (a := (I 161)) (v := .ref (E.2.2.2 162)) (C := RX9) (T := TX9) (N := 13) 0 (rfl : sh 161 = 9) rfl rfl rfl (by decide) rfl (fun _ h => (List.mem_cons_of_mem _ (List.mem_append_right _ h))) (by decide) (List.mem_of_getElem? (i := 3) rfl) (fun _ h => h) dX9_scope_21 ?_
  refine lv_bipush (v := (102 : Int32)) S.1 S.2.1 dX9_scope_24 (by decide) ?_
  refine s_iald S hX G (i := 162) (kd := 284) (n := 270) (a := d) (x := (d 102)) (rfl : sh 162 = 284) e_d rfl (by decide) (by unfold vp_in; decide) (congrArg d (by decide)) dX9_scope_26 ?_
  refine s_conv (y := (nI s)) hs ?_
  refine lv_icmp_ge (tgt := 46) S.1 S.2.1 dX9_scope_27 (by decide) (fun _ => ?_) (fun h => absurd (nI_le hb (by omega)) h)
  refine lv_ldc (v := (-2000000004 : Int32)) S.1 S.2.1 S.2.2.2.1 (S.2.2.2.2 _ (List.mem_of_getElem? (i := 4) rfl)) dX9_scope_46 ?_
  refine s_iret (x := (-2000000004 : Int32)) S G hr hlk dX9_scope_48 ?_
  exact ⟨rfl, rfl, rfl⟩
set_option maxHeartbeats 4000000 in
set_option maxRecDepth 100000 in
theorem k_X9_scope_ok_1 (l : Launch) (E : Ev) {I : SI} {L : SL} (b : Nat) (d : Nat → Int32) (s : Nat) (e_d : I (162) = d) (hs : d 102 = nI s) (hs2 : s ≤ 32) (hb : b < s) : CS l yX9_scope wsX9_scope ({ frames := 1, cells := 0, slots := 0, locals := 25 }) E [.ref (E.2.2.2 161), .int (nI b), .int (1 : Int32)] I L (fun vv I' L' => vv = some (.int (d (110 + 5 * b + 1))) ∧ I' = I ∧ L' = L) := by
  refine CS.of (cc := cX9_scope) (maxL := 3) (ret := (some .int)) (by decide) rfl (Nat.le_of_ble_eq_true rfl) ?_
  intro pg en sg mg below meth cg ls S hr hlk hX G hl
  have S : CallFix pg mg cg cX9_scope 3 sg _ wsX9_scope RX9 := S
  have hl : lv_has ls 3 [(0, .ref (E.2.2.2 161)), (1, .int (nI b)), (2, .int (1 : Int32))] := hl
  refine lv_iload_n S.1 S.2.1 dX9_scope_0 rfl (lv_at hl 1 rfl) ?_
  refine lv_if_lt (tgt := 16) S.1 S.2.1 dX9_scope_1 (by decide) (fun h => absurd h (nI_pos (by omega))) (fun _ => ?_)
  refine lv_iload_n S.1 S.2.1 dX9_scope_4 rfl (lv_at hl 2 rfl) ?_
  refine lv_i2l (v := (1 : Int64)) S.1 S.2.1 dX9_scope_5 (by decide) ?_
  refine lv_lconst (v := (0 : Int64)) S.1 S.2.1 dX9_scope_6 (by decide) ?_
  refine lv_ldc2 (v := (4 : Int64)) S.1 S.2.1 S.2.2.2.1 (S.2.2.2.2 _ (List.mem_of_getElem? (i := 1) rfl)) dX9_scope_7 ?_
  refine s_callS (As := [.long (1 : Int64), .long (0 : Int64), .long (4 : Int64)]) (rest := []) S hX G (k_X9_in l E (1 : Int64) (0 : Int64) (4 : Int64)) (va_cwS (bytes := cX9_in) (maxL := 6) (ret := (some .boolean)) 3 S.2.2.2.2 gX9_scope_X9_in rfl rfl rfl (by decide +kernel) ⟨Nat.le_of_ble_eq_true rfl, Nat.le_of_ble_eq_true rfl⟩) rfl hl.1 rfl (Nat.le_of_ble_eq_true rfl) ⟨Nat.zero_le _, Nat.zero_le _⟩ dX9_scope_10 (fun v I1 L1 H locs hR G => ?_)
  obtain ⟨hv, hI, hL⟩ := hR
  subst hv
  have G : GS E I L sg H locs := G.same hI hL
  refine W.eq (g2 := F0 mg 13 ls [.int (if ¬ (1 : Int64) < (0 : Int64) ∧ ¬ (4 : Int64) < (1 : Int64) then 1 else 0)]) rfl ?_
  refine s_if_ne_b (P := ¬ (1 : Int64) < (0 : Int64) ∧ ¬ (4 : Int64) < (1 : Int64)) (tgt := 19) S dX9_scope_13 (by decide) (fun _ => ?_) (fun h => absurd (by decide) h)
  refine lv_iload_n S.1 S.2.1 dX9_scope_19 rfl (lv_at hl 1 rfl) ?_
  refine lv_aload_n S.1 S.2.1 dX9_scope_20 rfl (lv_at hl 0 rfl) ?_
  refine s_get S hX G (i := 161) (kd := 9) (a := (I 161)) (v := .ref (E.2.2.2 162)) (C := RX9) (T := TX9) (N := 13) 0 (rfl : sh 161 = 9) rfl rfl rfl (by decide) rfl (fun _ h => (List.mem_cons_of_mem _ (List.mem_append_right _ h))) (by decide) (List.mem_of_getElem? (i := 3) rfl) (fun _ h => h) dX9_scope_21 ?_
  refine lv_bipush (v := (102 : Int32)) S.1 S.2.1 dX9_scope_24 (by decide) ?_
  refine s_iald S hX G (i := 162) (kd := 284) (n := 270) (a := d) (x := (d 102)) (rfl : sh 162 = 284) e_d rfl (by decide) (by unfold vp_in; decide) (congrArg d (by decide)) dX9_scope_26 ?_
  refine s_conv (y := (nI s)) hs ?_
  refine lv_icmp_ge (tgt := 46) S.1 S.2.1 dX9_scope_27 (by decide) (fun h => absurd h (nI_ge hb (by omega))) (fun _ => ?_)
  refine lv_aload_n S.1 S.2.1 dX9_scope_30 rfl (lv_at hl 0 rfl) ?_
  refine s_get S hX G (i := 161) (kd := 9) (a := (I 161)) (v := .ref (E.2.2.2 162)) (C := RX9) (T := TX9) (N := 13) 0 (rfl : sh 161 = 9) rfl rfl rfl (by decide) rfl (fun _ h => (List.mem_cons_of_mem _ (List.mem_append_right _ h))) (by decide) (List.mem_of_getElem? (i := 3) rfl) (fun _ h => h) dX9_scope_31 ?_
  refine lv_bipush (v := (110 : Int32)) S.1 S.2.1 dX9_scope_34 (by decide) ?_
  refine lv_iconst (v := (5 : Int32)) S.1 S.2.1 dX9_scope_36 (by decide) ?_
  refine lv_iload_n S.1 S.2.1 dX9_scope_37 rfl (lv_at hl 1 rfl) ?_
  refine s_imul (v := (nI (5 * b))) S dX9_scope_38 (pk_mul 5 b) ?_
  refine s_iadd (v := (nI (110 + (5 * b)))) S dX9_scope_39 (nI_add 110 (5 * b)) ?_
  refine lv_iload_n S.1 S.2.1 dX9_scope_40 rfl (lv_at hl 2 rfl) ?_
  refine s_iadd (v := (nI ((110 + (5 * b)) + 1))) S dX9_scope_41 (nI_add (110 + (5 * b)) 1) ?_
  refine s_iald S hX G (i := 162) (kd := 284) (n := 270) (a := d) (x := (d ((110 + (5 * b)) + 1))) (rfl : sh 162 = 284) e_d rfl (by decide) (vp_in_nI (by omega) (by decide)) (congrArg d (nI_clamp (by omega))) dX9_scope_42 ?_
  refine lv_goto (tgt := 48) S.1 S.2.1 dX9_scope_43 (by decide) ?_
  refine s_iret (x := (d ((110 + (5 * b)) + 1))) S G hr hlk dX9_scope_48 ?_
  exact ⟨(congrArg (fun q : Int32 => some (Value.int q)) (show (d ((110 + (5 * b)) + 1)) = (d (110 + 5 * b + 1)) by rfl)), rfl, rfl⟩
set_option maxHeartbeats 4000000 in
set_option maxRecDepth 100000 in
theorem k_X9_scope_nf_1 (l : Launch) (E : Ev) {I : SI} {L : SL} (b : Nat) (d : Nat → Int32) (s : Nat) (e_d : I (162) = d) (hs : d 102 = nI s) (hb : s ≤ b) (hb2 : b < 2 ^ 31) : CS l yX9_scope wsX9_scope ({ frames := 1, cells := 0, slots := 0, locals := 25 }) E [.ref (E.2.2.2 161), .int (nI b), .int (1 : Int32)] I L (fun vv I' L' => vv = some (.int (-2000000004 : Int32)) ∧ I' = I ∧ L' = L) := by
  refine CS.of (cc := cX9_scope) (maxL := 3) (ret := (some .int)) (by decide) rfl (Nat.le_of_ble_eq_true rfl) ?_
  intro pg en sg mg below meth cg ls S hr hlk hX G hl
  have S : CallFix pg mg cg cX9_scope 3 sg _ wsX9_scope RX9 := S
  have hl : lv_has ls 3 [(0, .ref (E.2.2.2 161)), (1, .int (nI b)), (2, .int (1 : Int32))] := hl
  refine lv_iload_n S.1 S.2.1 dX9_scope_0 rfl (lv_at hl 1 rfl) ?_
  refine lv_if_lt (tgt := 16) S.1 S.2.1 dX9_scope_1 (by decide) (fun h => absurd h (nI_pos (by omega))) (fun _ => ?_)
  refine lv_iload_n S.1 S.2.1 dX9_scope_4 rfl (lv_at hl 2 rfl) ?_
  refine lv_i2l (v := (1 : Int64)) S.1 S.2.1 dX9_scope_5 (by decide) ?_
  refine lv_lconst (v := (0 : Int64)) S.1 S.2.1 dX9_scope_6 (by decide) ?_
  refine lv_ldc2 (v := (4 : Int64)) S.1 S.2.1 S.2.2.2.1 (S.2.2.2.2 _ (List.mem_of_getElem? (i := 1) rfl)) dX9_scope_7 ?_
  refine s_callS (As := [.long (1 : Int64), .long (0 : Int64), .long (4 : Int64)]) (rest := []) S hX G (k_X9_in l E (1 : Int64) (0 : Int64) (4 : Int64)) (va_cwS (bytes := cX9_in) (maxL := 6) (ret := (some .boolean)) 3 S.2.2.2.2 gX9_scope_X9_in rfl rfl rfl (by decide +kernel) ⟨Nat.le_of_ble_eq_true rfl, Nat.le_of_ble_eq_true rfl⟩) rfl hl.1 rfl (Nat.le_of_ble_eq_true rfl) ⟨Nat.zero_le _, Nat.zero_le _⟩ dX9_scope_10 (fun v I1 L1 H locs hR G => ?_)
  obtain ⟨hv, hI, hL⟩ := hR
  subst hv
  have G : GS E I L sg H locs := G.same hI hL
  refine W.eq (g2 := F0 mg 13 ls [.int (if ¬ (1 : Int64) < (0 : Int64) ∧ ¬ (4 : Int64) < (1 : Int64) then 1 else 0)]) rfl ?_
  refine s_if_ne_b (P := ¬ (1 : Int64) < (0 : Int64) ∧ ¬ (4 : Int64) < (1 : Int64)) (tgt := 19) S dX9_scope_13 (by decide) (fun _ => ?_) (fun h => absurd (by decide) h)
  refine lv_iload_n S.1 S.2.1 dX9_scope_19 rfl (lv_at hl 1 rfl) ?_
  refine lv_aload_n S.1 S.2.1 dX9_scope_20 rfl (lv_at hl 0 rfl) ?_
  refine s_get S hX G (i := 161) (kd := 9) (a := (I 161)) (v := .ref (E.2.2.2 162)) (C := RX9) (T := TX9) (N := 13) 0 (rfl : sh 161 = 9) rfl rfl rfl (by decide) rfl (fun _ h => (List.mem_cons_of_mem _ (List.mem_append_right _ h))) (by decide) (List.mem_of_getElem? (i := 3) rfl) (fun _ h => h) dX9_scope_21 ?_
  refine lv_bipush (v := (102 : Int32)) S.1 S.2.1 dX9_scope_24 (by decide) ?_
  refine s_iald S hX G (i := 162) (kd := 284) (n := 270) (a := d) (x := (d 102)) (rfl : sh 162 = 284) e_d rfl (by decide) (by unfold vp_in; decide) (congrArg d (by decide)) dX9_scope_26 ?_
  refine s_conv (y := (nI s)) hs ?_
  refine lv_icmp_ge (tgt := 46) S.1 S.2.1 dX9_scope_27 (by decide) (fun _ => ?_) (fun h => absurd (nI_le hb (by omega)) h)
  refine lv_ldc (v := (-2000000004 : Int32)) S.1 S.2.1 S.2.2.2.1 (S.2.2.2.2 _ (List.mem_of_getElem? (i := 4) rfl)) dX9_scope_46 ?_
  refine s_iret (x := (-2000000004 : Int32)) S G hr hlk dX9_scope_48 ?_
  exact ⟨rfl, rfl, rfl⟩
set_option maxHeartbeats 4000000 in
set_option maxRecDepth 100000 in
theorem k_X9_scope_ok_2 (l : Launch) (E : Ev) {I : SI} {L : SL} (b : Nat) (d : Nat → Int32) (s : Nat) (e_d : I (162) = d) (hs : d 102 = nI s) (hs2 : s ≤ 32) (hb : b < s) : CS l yX9_scope wsX9_scope ({ frames := 1, cells := 0, slots := 0, locals := 25 }) E [.ref (E.2.2.2 161), .int (nI b), .int (2 : Int32)] I L (fun vv I' L' => vv = some (.int (d (110 + 5 * b + 2))) ∧ I' = I ∧ L' = L) := by
  refine CS.of (cc := cX9_scope) (maxL := 3) (ret := (some .int)) (by decide) rfl (Nat.le_of_ble_eq_true rfl) ?_
  intro pg en sg mg below meth cg ls S hr hlk hX G hl
  have S : CallFix pg mg cg cX9_scope 3 sg _ wsX9_scope RX9 := S
  have hl : lv_has ls 3 [(0, .ref (E.2.2.2 161)), (1, .int (nI b)), (2, .int (2 : Int32))] := hl
  refine lv_iload_n S.1 S.2.1 dX9_scope_0 rfl (lv_at hl 1 rfl) ?_
  refine lv_if_lt (tgt := 16) S.1 S.2.1 dX9_scope_1 (by decide) (fun h => absurd h (nI_pos (by omega))) (fun _ => ?_)
  refine lv_iload_n S.1 S.2.1 dX9_scope_4 rfl (lv_at hl 2 rfl) ?_
  refine lv_i2l (v := (2 : Int64)) S.1 S.2.1 dX9_scope_5 (by decide) ?_
  refine lv_lconst (v := (0 : Int64)) S.1 S.2.1 dX9_scope_6 (by decide) ?_
  refine lv_ldc2 (v := (4 : Int64)) S.1 S.2.1 S.2.2.2.1 (S.2.2.2.2 _ (List.mem_of_getElem? (i := 1) rfl)) dX9_scope_7 ?_
  refine s_callS (As := [.long (2 : Int64), .long (0 : Int64), .long (4 : Int64)]) (rest := []) S hX G (k_X9_in l E (2 : Int64) (0 : Int64) (4 : Int64)) (va_cwS (bytes := cX9_in) (maxL := 6) (ret := (some .boolean)) 3 S.2.2.2.2 gX9_scope_X9_in rfl rfl rfl (by decide +kernel) ⟨Nat.le_of_ble_eq_true rfl, Nat.le_of_ble_eq_true rfl⟩) rfl hl.1 rfl (Nat.le_of_ble_eq_true rfl) ⟨Nat.zero_le _, Nat.zero_le _⟩ dX9_scope_10 (fun v I1 L1 H locs hR G => ?_)
  obtain ⟨hv, hI, hL⟩ := hR
  subst hv
  have G : GS E I L sg H locs := G.same hI hL
  refine W.eq (g2 := F0 mg 13 ls [.int (if ¬ (2 : Int64) < (0 : Int64) ∧ ¬ (4 : Int64) < (2 : Int64) then 1 else 0)]) rfl ?_
  refine s_if_ne_b (P := ¬ (2 : Int64) < (0 : Int64) ∧ ¬ (4 : Int64) < (2 : Int64)) (tgt := 19) S dX9_scope_13 (by decide) (fun _ => ?_) (fun h => absurd (by decide) h)
  refine lv_iload_n S.1 S.2.1 dX9_scope_19 rfl (lv_at hl 1 rfl) ?_
  refine lv_aload_n S.1 S.2.1 dX9_scope_20 rfl (lv_at hl 0 rfl) ?_
  refine s_get S hX G (i := 161) (kd := 9) (a := (I 161)) (v := .ref (E.2.2.2 162)) (C := RX9) (T := TX9) (N := 13) 0 (rfl : sh 161 = 9) rfl rfl rfl (by decide) rfl (fun _ h => (List.mem_cons_of_mem _ (List.mem_append_right _ h))) (by decide) (List.mem_of_getElem? (i := 3) rfl) (fun _ h => h) dX9_scope_21 ?_
  refine lv_bipush (v := (102 : Int32)) S.1 S.2.1 dX9_scope_24 (by decide) ?_
  refine s_iald S hX G (i := 162) (kd := 284) (n := 270) (a := d) (x := (d 102)) (rfl : sh 162 = 284) e_d rfl (by decide) (by unfold vp_in; decide) (congrArg d (by decide)) dX9_scope_26 ?_
  refine s_conv (y := (nI s)) hs ?_
  refine lv_icmp_ge (tgt := 46) S.1 S.2.1 dX9_scope_27 (by decide) (fun h => absurd h (nI_ge hb (by omega))) (fun _ => ?_)
  refine lv_aload_n S.1 S.2.1 dX9_scope_30 rfl (lv_at hl 0 rfl) ?_
  refine s_get S hX G (i := 161) (kd := 9) (a := (I 161)) (v := .ref (E.2.2.2 162)) (C := RX9) (T := TX9) (N := 13) 0 (rfl : sh 161 = 9) rfl rfl rfl (by decide) rfl (fun _ h => (List.mem_cons_of_mem _ (List.mem_append_right _ h))) (by decide) (List.mem_of_getElem? (i := 3) rfl) (fun _ h => h) dX9_scope_31 ?_
  refine lv_bipush (v := (110 : Int32)) S.1 S.2.1 dX9_scope_34 (by decide) ?_
  refine lv_iconst (v := (5 : Int32)) S.1 S.2.1 dX9_scope_36 (by decide) ?_
  refine lv_iload_n S.1 S.2.1 dX9_scope_37 rfl (lv_at hl 1 rfl) ?_
  refine s_imul (v := (nI (5 * b))) S dX9_scope_38 (pk_mul 5 b) ?_
  refine s_iadd (v := (nI (110 + (5 * b)))) S dX9_scope_39 (nI_add 110 (5 * b)) ?_
  refine lv_iload_n S.1 S.2.1 dX9_scope_40 rfl (lv_at hl 2 rfl) ?_
  refine s_iadd (v := (nI ((110 + (5 * b)) + 2))) S dX9_scope_41 (nI_add (110 + (5 * b)) 2) ?_
  refine s_iald S hX G (i := 162) (kd := 284) (n := 270) (a := d) (x := (d ((110 + (5 * b)) + 2))) (rfl : sh 162 = 284) e_d rfl (by decide) (vp_in_nI (by omega) (by decide)) (congrArg d (nI_clamp (by omega))) dX9_scope_42 ?_
  refine lv_goto (tgt := 48) S.1 S.2.1 dX9_scope_43 (by decide) ?_
  refine s_iret (x := (d ((110 + (5 * b)) + 2))) S G hr hlk dX9_scope_48 ?_
  exact ⟨(congrArg (fun q : Int32 => some (Value.int q)) (show (d ((110 + (5 * b)) + 2)) = (d (110 + 5 * b + 2)) by rfl)), rfl, rfl⟩
set_option maxHeartbeats 4000000 in
set_option maxRecDepth 100000 in
theorem k_X9_scope_nf_2 (l : Launch) (E : Ev) {I : SI} {L : SL} (b : Nat) (d : Nat → Int32) (s : Nat) (e_d : I (162) = d) (hs : d 102 = nI s) (hb : s ≤ b) (hb2 : b < 2 ^ 31) : CS l yX9_scope wsX9_scope ({ frames := 1, cells := 0, slots := 0, locals := 25 }) E [.ref (E.2.2.2 161), .int (nI b), .int (2 : Int32)] I L (fun vv I' L' => vv = some (.int (-2000000004 : Int32)) ∧ I' = I ∧ L' = L) := by
  refine CS.of (cc := cX9_scope) (maxL := 3) (ret := (some .int)) (by decide) rfl (Nat.le_of_ble_eq_true rfl) ?_
  intro pg en sg mg below meth cg ls S hr hlk hX G hl
  have S : CallFix pg mg cg cX9_scope 3 sg _ wsX9_scope RX9 := S
  have hl : lv_has ls 3 [(0, .ref (E.2.2.2 161)), (1, .int (nI b)), (2, .int (2 : Int32))] := hl
  refine lv_iload_n S.1 S.2.1 dX9_scope_0 rfl (lv_at hl 1 rfl) ?_
  refine lv_if_lt (tgt := 16) S.1 S.2.1 dX9_scope_1 (by decide) (fun h => absurd h (nI_pos (by omega))) (fun _ => ?_)
  refine lv_iload_n S.1 S.2.1 dX9_scope_4 rfl (lv_at hl 2 rfl) ?_
  refine lv_i2l (v := (2 : Int64)) S.1 S.2.1 dX9_scope_5 (by decide) ?_
  refine lv_lconst (v := (0 : Int64)) S.1 S.2.1 dX9_scope_6 (by decide) ?_
  refine lv_ldc2 (v := (4 : Int64)) S.1 S.2.1 S.2.2.2.1 (S.2.2.2.2 _ (List.mem_of_getElem? (i := 1) rfl)) dX9_scope_7 ?_
  refine s_callS (As := [.long (2 : Int64), .long (0 : Int64), .long (4 : Int64)]) (rest := []) S hX G (k_X9_in l E (2 : Int64) (0 : Int64) (4 : Int64)) (va_cwS (bytes := cX9_in) (maxL := 6) (ret := (some .boolean)) 3 S.2.2.2.2 gX9_scope_X9_in rfl rfl rfl (by decide +kernel) ⟨Nat.le_of_ble_eq_true rfl, Nat.le_of_ble_eq_true rfl⟩) rfl hl.1 rfl (Nat.le_of_ble_eq_true rfl) ⟨Nat.zero_le _, Nat.zero_le _⟩ dX9_scope_10 (fun v I1 L1 H locs hR G => ?_)
  obtain ⟨hv, hI, hL⟩ := hR
  subst hv
  have G : GS E I L sg H locs := G.same hI hL
  refine W.eq (g2 := F0 mg 13 ls [.int (if ¬ (2 : Int64) < (0 : Int64) ∧ ¬ (4 : Int64) < (2 : Int64) then 1 else 0)]) rfl ?_
  refine s_if_ne_b (P := ¬ (2 : Int64) < (0 : Int64) ∧ ¬ (4 : Int64) < (2 : Int64)) (tgt := 19) S dX9_scope_13 (by decide) (fun _ => ?_) (fun h => absurd (by decide) h)
  refine lv_iload_n S.1 S.2.1 dX9_scope_19 rfl (lv_at hl 1 rfl) ?_
  refine lv_aload_n S.1 S.2.1 dX9_scope_20 rfl (lv_at hl 0 rfl) ?_
  refine s_get S hX G (i := 161) (kd := 9) (a := (I 161)) (v := .ref (E.2.2.2 162)) (C := RX9) (T := TX9) (N := 13) 0 (rfl : sh 161 = 9) rfl rfl rfl (by decide) rfl (fun _ h => (List.mem_cons_of_mem _ (List.mem_append_right _ h))) (by decide) (List.mem_of_getElem? (i := 3) rfl) (fun _ h => h) dX9_scope_21 ?_
  refine lv_bipush (v := (102 : Int32)) S.1 S.2.1 dX9_scope_24 (by decide) ?_
  refine s_iald S hX G (i := 162) (kd := 284) (n := 270) (a := d) (x := (d 102)) (rfl : sh 162 = 284) e_d rfl (by decide) (by unfold vp_in; decide) (congrArg d (by decide)) dX9_scope_26 ?_
  refine s_conv (y := (nI s)) hs ?_
  refine lv_icmp_ge (tgt := 46) S.1 S.2.1 dX9_scope_27 (by decide) (fun _ => ?_) (fun h => absurd (nI_le hb (by omega)) h)
  refine lv_ldc (v := (-2000000004 : Int32)) S.1 S.2.1 S.2.2.2.1 (S.2.2.2.2 _ (List.mem_of_getElem? (i := 4) rfl)) dX9_scope_46 ?_
  refine s_iret (x := (-2000000004 : Int32)) S G hr hlk dX9_scope_48 ?_
  exact ⟨rfl, rfl, rfl⟩
set_option maxHeartbeats 4000000 in
set_option maxRecDepth 100000 in
theorem k_X9_scope_ok_3 (l : Launch) (E : Ev) {I : SI} {L : SL} (b : Nat) (d : Nat → Int32) (s : Nat) (e_d : I (162) = d) (hs : d 102 = nI s) (hs2 : s ≤ 32) (hb : b < s) : CS l yX9_scope wsX9_scope ({ frames := 1, cells := 0, slots := 0, locals := 25 }) E [.ref (E.2.2.2 161), .int (nI b), .int (3 : Int32)] I L (fun vv I' L' => vv = some (.int (d (110 + 5 * b + 3))) ∧ I' = I ∧ L' = L) := by
  refine CS.of (cc := cX9_scope) (maxL := 3) (ret := (some .int)) (by decide) rfl (Nat.le_of_ble_eq_true rfl) ?_
  intro pg en sg mg below meth cg ls S hr hlk hX G hl
  have S : CallFix pg mg cg cX9_scope 3 sg _ wsX9_scope RX9 := S
  have hl : lv_has ls 3 [(0, .ref (E.2.2.2 161)), (1, .int (nI b)), (2, .int (3 : Int32))] := hl
  refine lv_iload_n S.1 S.2.1 dX9_scope_0 rfl (lv_at hl 1 rfl) ?_
  refine lv_if_lt (tgt := 16) S.1 S.2.1 dX9_scope_1 (by decide) (fun h => absurd h (nI_pos (by omega))) (fun _ => ?_)
  refine lv_iload_n S.1 S.2.1 dX9_scope_4 rfl (lv_at hl 2 rfl) ?_
  refine lv_i2l (v := (3 : Int64)) S.1 S.2.1 dX9_scope_5 (by decide) ?_
  refine lv_lconst (v := (0 : Int64)) S.1 S.2.1 dX9_scope_6 (by decide) ?_
  refine lv_ldc2 (v := (4 : Int64)) S.1 S.2.1 S.2.2.2.1 (S.2.2.2.2 _ (List.mem_of_getElem? (i := 1) rfl)) dX9_scope_7 ?_
  refine s_callS (As := [.long (3 : Int64), .long (0 : Int64), .long (4 : Int64)]) (rest := []) S hX G (k_X9_in l E (3 : Int64) (0 : Int64) (4 : Int64)) (va_cwS (bytes := cX9_in) (maxL := 6) (ret := (some .boolean)) 3 S.2.2.2.2 gX9_scope_X9_in rfl rfl rfl (by decide +kernel) ⟨Nat.le_of_ble_eq_true rfl, Nat.le_of_ble_eq_true rfl⟩) rfl hl.1 rfl (Nat.le_of_ble_eq_true rfl) ⟨Nat.zero_le _, Nat.zero_le _⟩ dX9_scope_10 (fun v I1 L1 H locs hR G => ?_)
  obtain ⟨hv, hI, hL⟩ := hR
  subst hv
  have G : GS E I L sg H locs := G.same hI hL
  refine W.eq (g2 := F0 mg 13 ls [.int (if ¬ (3 : Int64) < (0 : Int64) ∧ ¬ (4 : Int64) < (3 : Int64) then 1 else 0)]) rfl ?_
  refine s_if_ne_b (P := ¬ (3 : Int64) < (0 : Int64) ∧ ¬ (4 : Int64) < (3 : Int64)) (tgt := 19) S dX9_scope_13 (by decide) (fun _ => ?_) (fun h => absurd (by decide) h)
  refine lv_iload_n S.1 S.2.1 dX9_scope_19 rfl (lv_at hl 1 rfl) ?_
  refine lv_aload_n S.1 S.2.1 dX9_scope_20 rfl (lv_at hl 0 rfl) ?_
  refine s_get S hX G (i := 161) (kd := 9) (a := (I 161)) (v := .ref (E.2.2.2 162)) (C := RX9) (T := TX9) (N := 13) 0 (rfl : sh 161 = 9) rfl rfl rfl (by decide) rfl (fun _ h => (List.mem_cons_of_mem _ (List.mem_append_right _ h))) (by decide) (List.mem_of_getElem? (i := 3) rfl) (fun _ h => h) dX9_scope_21 ?_
  refine lv_bipush (v := (102 : Int32)) S.1 S.2.1 dX9_scope_24 (by decide) ?_
  refine s_iald S hX G (i := 162) (kd := 284) (n := 270) (a := d) (x := (d 102)) (rfl : sh 162 = 284) e_d rfl (by decide) (by unfold vp_in; decide) (congrArg d (by decide)) dX9_scope_26 ?_
  refine s_conv (y := (nI s)) hs ?_
  refine lv_icmp_ge (tgt := 46) S.1 S.2.1 dX9_scope_27 (by decide) (fun h => absurd h (nI_ge hb (by omega))) (fun _ => ?_)
  refine lv_aload_n S.1 S.2.1 dX9_scope_30 rfl (lv_at hl 0 rfl) ?_
  refine s_get S hX G (i := 161) (kd := 9) (a := (I 161)) (v := .ref (E.2.2.2 162)) (C := RX9) (T := TX9) (N := 13) 0 (rfl : sh 161 = 9) rfl rfl rfl (by decide) rfl (fun _ h => (List.mem_cons_of_mem _ (List.mem_append_right _ h))) (by decide) (List.mem_of_getElem? (i := 3) rfl) (fun _ h => h) dX9_scope_31 ?_
  refine lv_bipush (v := (110 : Int32)) S.1 S.2.1 dX9_scope_34 (by decide) ?_
  refine lv_iconst (v := (5 : Int32)) S.1 S.2.1 dX9_scope_36 (by decide) ?_
  refine lv_iload_n S.1 S.2.1 dX9_scope_37 rfl (lv_at hl 1 rfl) ?_
  refine s_imul (v := (nI (5 * b))) S dX9_scope_38 (pk_mul 5 b) ?_
  refine s_iadd (v := (nI (110 + (5 * b)))) S dX9_scope_39 (nI_add 110 (5 * b)) ?_
  refine lv_iload_n S.1 S.2.1 dX9_scope_40 rfl (lv_at hl 2 rfl) ?_
  refine s_iadd (v := (nI ((110 + (5 * b)) + 3))) S dX9_scope_41 (nI_add (110 + (5 * b)) 3) ?_
  refine s_iald S hX G (i := 162) (kd := 284) (n := 270) (a := d) (x := (d ((110 + (5 * b)) + 3))) (rfl : sh 162 = 284) e_d rfl (by decide) (vp_in_nI (by omega) (by decide)) (congrArg d (nI_clamp (by omega))) dX9_scope_42 ?_
  refine lv_goto (tgt := 48) S.1 S.2.1 dX9_scope_43 (by decide) ?_
  refine s_iret (x := (d ((110 + (5 * b)) + 3))) S G hr hlk dX9_scope_48 ?_
  exact ⟨(congrArg (fun q : Int32 => some (Value.int q)) (show (d ((110 + (5 * b)) + 3)) = (d (110 + 5 * b + 3)) by rfl)), rfl, rfl⟩
set_option maxHeartbeats 4000000 in
set_option maxRecDepth 100000 in
theorem k_X9_scope_nf_3 (l : Launch) (E : Ev) {I : SI} {L : SL} (b : Nat) (d : Nat → Int32) (s : Nat) (e_d : I (162) = d) (hs : d 102 = nI s) (hb : s ≤ b) (hb2 : b < 2 ^ 31) : CS l yX9_scope wsX9_scope ({ frames := 1, cells := 0, slots := 0, locals := 25 }) E [.ref (E.2.2.2 161), .int (nI b), .int (3 : Int32)] I L (fun vv I' L' => vv = some (.int (-2000000004 : Int32)) ∧ I' = I ∧ L' = L) := by
  refine CS.of (cc := cX9_scope) (maxL := 3) (ret := (some .int)) (by decide) rfl (Nat.le_of_ble_eq_true rfl) ?_
  intro pg en sg mg below meth cg ls S hr hlk hX G hl
  have S : CallFix pg mg cg cX9_scope 3 sg _ wsX9_scope RX9 := S
  have hl : lv_has ls 3 [(0, .ref (E.2.2.2 161)), (1, .int (nI b)), (2, .int (3 : Int32))] := hl
  refine lv_iload_n S.1 S.2.1 dX9_scope_0 rfl (lv_at hl 1 rfl) ?_
  refine lv_if_lt (tgt := 16) S.1 S.2.1 dX9_scope_1 (by decide) (fun h => absurd h (nI_pos (by omega))) (fun _ => ?_)
  refine lv_iload_n S.1 S.2.1 dX9_scope_4 rfl (lv_at hl 2 rfl) ?_
  refine lv_i2l (v := (3 : Int64)) S.1 S.2.1 dX9_scope_5 (by decide) ?_
  refine lv_lconst (v := (0 : Int64)) S.1 S.2.1 dX9_scope_6 (by decide) ?_
  refine lv_ldc2 (v := (4 : Int64)) S.1 S.2.1 S.2.2.2.1 (S.2.2.2.2 _ (List.mem_of_getElem? (i := 1) rfl)) dX9_scope_7 ?_
  refine s_callS (As := [.long (3 : Int64), .long (0 : Int64), .long (4 : Int64)]) (rest := []) S hX G (k_X9_in l E (3 : Int64) (0 : Int64) (4 : Int64)) (va_cwS (bytes := cX9_in) (maxL := 6) (ret := (some .boolean)) 3 S.2.2.2.2 gX9_scope_X9_in rfl rfl rfl (by decide +kernel) ⟨Nat.le_of_ble_eq_true rfl, Nat.le_of_ble_eq_true rfl⟩) rfl hl.1 rfl (Nat.le_of_ble_eq_true rfl) ⟨Nat.zero_le _, Nat.zero_le _⟩ dX9_scope_10 (fun v I1 L1 H locs hR G => ?_)
  obtain ⟨hv, hI, hL⟩ := hR
  subst hv
  have G : GS E I L sg H locs := G.same hI hL
  refine W.eq (g2 := F0 mg 13 ls [.int (if ¬ (3 : Int64) < (0 : Int64) ∧ ¬ (4 : Int64) < (3 : Int64) then 1 else 0)]) rfl ?_
  refine s_if_ne_b (P := ¬ (3 : Int64) < (0 : Int64) ∧ ¬ (4 : Int64) < (3 : Int64)) (tgt := 19) S dX9_scope_13 (by decide) (fun _ => ?_) (fun h => absurd (by decide) h)
  refine lv_iload_n S.1 S.2.1 dX9_scope_19 rfl (lv_at hl 1 rfl) ?_
  refine lv_aload_n S.1 S.2.1 dX9_scope_20 rfl (lv_at hl 0 rfl) ?_
  refine s_get S hX G (i := 161) (kd := 9) (a := (I 161)) (v := .ref (E.2.2.2 162)) (C := RX9) (T := TX9) (N := 13) 0 (rfl : sh 161 = 9) rfl rfl rfl (by decide) rfl (fun _ h => (List.mem_cons_of_mem _ (List.mem_append_right _ h))) (by decide) (List.mem_of_getElem? (i := 3) rfl) (fun _ h => h) dX9_scope_21 ?_
  refine lv_bipush (v := (102 : Int32)) S.1 S.2.1 dX9_scope_24 (by decide) ?_
  refine s_iald S hX G (i := 162) (kd := 284) (n := 270) (a := d) (x := (d 102)) (rfl : sh 162 = 284) e_d rfl (by decide) (by unfold vp_in; decide) (congrArg d (by decide)) dX9_scope_26 ?_
  refine s_conv (y := (nI s)) hs ?_
  refine lv_icmp_ge (tgt := 46) S.1 S.2.1 dX9_scope_27 (by decide) (fun _ => ?_) (fun h => absurd (nI_le hb (by omega)) h)
  refine lv_ldc (v := (-2000000004 : Int32)) S.1 S.2.1 S.2.2.2.1 (S.2.2.2.2 _ (List.mem_of_getElem? (i := 4) rfl)) dX9_scope_46 ?_
  refine s_iret (x := (-2000000004 : Int32)) S G hr hlk dX9_scope_48 ?_
  exact ⟨rfl, rfl, rfl⟩
set_option maxHeartbeats 4000000 in
set_option maxRecDepth 100000 in
theorem k_X9_scope_ok_4 (l : Launch) (E : Ev) {I : SI} {L : SL} (b : Nat) (d : Nat → Int32) (s : Nat) (e_d : I (162) = d) (hs : d 102 = nI s) (hs2 : s ≤ 32) (hb : b < s) : CS l yX9_scope wsX9_scope ({ frames := 1, cells := 0, slots := 0, locals := 25 }) E [.ref (E.2.2.2 161), .int (nI b), .int (4 : Int32)] I L (fun vv I' L' => vv = some (.int (d (110 + 5 * b + 4))) ∧ I' = I ∧ L' = L) := by
  refine CS.of (cc := cX9_scope) (maxL := 3) (ret := (some .int)) (by decide) rfl (Nat.le_of_ble_eq_true rfl) ?_
  intro pg en sg mg below meth cg ls S hr hlk hX G hl
  have S : CallFix pg mg cg cX9_scope 3 sg _ wsX9_scope RX9 := S
  have hl : lv_has ls 3 [(0, .ref (E.2.2.2 161)), (1, .int (nI b)), (2, .int (4 : Int32))] := hl
  refine lv_iload_n S.1 S.2.1 dX9_scope_0 rfl (lv_at hl 1 rfl) ?_
  refine lv_if_lt (tgt := 16) S.1 S.2.1 dX9_scope_1 (by decide) (fun h => absurd h (nI_pos (by omega))) (fun _ => ?_)
  refine lv_iload_n S.1 S.2.1 dX9_scope_4 rfl (lv_at hl 2 rfl) ?_
  refine lv_i2l (v := (4 : Int64)) S.1 S.2.1 dX9_scope_5 (by decide) ?_
  refine lv_lconst (v := (0 : Int64)) S.1 S.2.1 dX9_scope_6 (by decide) ?_
  refine lv_ldc2 (v := (4 : Int64)) S.1 S.2.1 S.2.2.2.1 (S.2.2.2.2 _ (List.mem_of_getElem? (i := 1) rfl)) dX9_scope_7 ?_
  refine s_callS (As := [.long (4 : Int64), .long (0 : Int64), .long (4 : Int64)]) (rest := []) S hX G (k_X9_in l E (4 : Int64) (0 : Int64) (4 : Int64)) (va_cwS (bytes := cX9_in) (maxL := 6) (ret := (some .boolean)) 3 S.2.2.2.2 gX9_scope_X9_in rfl rfl rfl (by decide +kernel) ⟨Nat.le_of_ble_eq_true rfl, Nat.le_of_ble_eq_true rfl⟩) rfl hl.1 rfl (Nat.le_of_ble_eq_true rfl) ⟨Nat.zero_le _, Nat.zero_le _⟩ dX9_scope_10 (fun v I1 L1 H locs hR G => ?_)
  obtain ⟨hv, hI, hL⟩ := hR
  subst hv
  have G : GS E I L sg H locs := G.same hI hL
  refine W.eq (g2 := F0 mg 13 ls [.int (if ¬ (4 : Int64) < (0 : Int64) ∧ ¬ (4 : Int64) < (4 : Int64) then 1 else 0)]) rfl ?_
  refine s_if_ne_b (P := ¬ (4 : Int64) < (0 : Int64) ∧ ¬ (4 : Int64) < (4 : Int64)) (tgt := 19) S dX9_scope_13 (by decide) (fun _ => ?_) (fun h => absurd (by decide) h)
  refine lv_iload_n S.1 S.2.1 dX9_scope_19 rfl (lv_at hl 1 rfl) ?_
  refine lv_aload_n S.1 S.2.1 dX9_scope_20 rfl (lv_at hl 0 rfl) ?_
  refine s_get S hX G (i := 161) (kd := 9) (a := (I 161)) (v := .ref (E.2.2.2 162)) (C := RX9) (T := TX9) (N := 13) 0 (rfl : sh 161 = 9) rfl rfl rfl (by decide) rfl (fun _ h => (List.mem_cons_of_mem _ (List.mem_append_right _ h))) (by decide) (List.mem_of_getElem? (i := 3) rfl) (fun _ h => h) dX9_scope_21 ?_
  refine lv_bipush (v := (102 : Int32)) S.1 S.2.1 dX9_scope_24 (by decide) ?_
  refine s_iald S hX G (i := 162) (kd := 284) (n := 270) (a := d) (x := (d 102)) (rfl : sh 162 = 284) e_d rfl (by decide) (by unfold vp_in; decide) (congrArg d (by decide)) dX9_scope_26 ?_
  refine s_conv (y := (nI s)) hs ?_
  refine lv_icmp_ge (tgt := 46) S.1 S.2.1 dX9_scope_27 (by decide) (fun h => absurd h (nI_ge hb (by omega))) (fun _ => ?_)
  refine lv_aload_n S.1 S.2.1 dX9_scope_30 rfl (lv_at hl 0 rfl) ?_
  refine s_get S hX G (i := 161) (kd := 9) (a := (I 161)) (v := .ref (E.2.2.2 162)) (C := RX9) (T := TX9) (N := 13) 0 (rfl : sh 161 = 9) rfl rfl rfl (by decide) rfl (fun _ h => (List.mem_cons_of_mem _ (List.mem_append_right _ h))) (by decide) (List.mem_of_getElem? (i := 3) rfl) (fun _ h => h) dX9_scope_31 ?_
  refine lv_bipush (v := (110 : Int32)) S.1 S.2.1 dX9_scope_34 (by decide) ?_
  refine lv_iconst (v := (5 : Int32)) S.1 S.2.1 dX9_scope_36 (by decide) ?_
  refine lv_iload_n S.1 S.2.1 dX9_scope_37 rfl (lv_at hl 1 rfl) ?_
  refine s_imul (v := (nI (5 * b))) S dX9_scope_38 (pk_mul 5 b) ?_
  refine s_iadd (v := (nI (110 + (5 * b)))) S dX9_scope_39 (nI_add 110 (5 * b)) ?_
  refine lv_iload_n S.1 S.2.1 dX9_scope_40 rfl (lv_at hl 2 rfl) ?_
  refine s_iadd (v := (nI ((110 + (5 * b)) + 4))) S dX9_scope_41 (nI_add (110 + (5 * b)) 4) ?_
  refine s_iald S hX G (i := 162) (kd := 284) (n := 270) (a := d) (x := (d ((110 + (5 * b)) + 4))) (rfl : sh 162 = 284) e_d rfl (by decide) (vp_in_nI (by omega) (by decide)) (congrArg d (nI_clamp (by omega))) dX9_scope_42 ?_
  refine lv_goto (tgt := 48) S.1 S.2.1 dX9_scope_43 (by decide) ?_
  refine s_iret (x := (d ((110 + (5 * b)) + 4))) S G hr hlk dX9_scope_48 ?_
  exact ⟨(congrArg (fun q : Int32 => some (Value.int q)) (show (d ((110 + (5 * b)) + 4)) = (d (110 + 5 * b + 4)) by rfl)), rfl, rfl⟩
set_option maxHeartbeats 4000000 in
set_option maxRecDepth 100000 in
theorem k_X9_scope_nf_4 (l : Launch) (E : Ev) {I : SI} {L : SL} (b : Nat) (d : Nat → Int32) (s : Nat) (e_d : I (162) = d) (hs : d 102 = nI s) (hb : s ≤ b) (hb2 : b < 2 ^ 31) : CS l yX9_scope wsX9_scope ({ frames := 1, cells := 0, slots := 0, locals := 25 }) E [.ref (E.2.2.2 161), .int (nI b), .int (4 : Int32)] I L (fun vv I' L' => vv = some (.int (-2000000004 : Int32)) ∧ I' = I ∧ L' = L) := by
  refine CS.of (cc := cX9_scope) (maxL := 3) (ret := (some .int)) (by decide) rfl (Nat.le_of_ble_eq_true rfl) ?_
  intro pg en sg mg below meth cg ls S hr hlk hX G hl
  have S : CallFix pg mg cg cX9_scope 3 sg _ wsX9_scope RX9 := S
  have hl : lv_has ls 3 [(0, .ref (E.2.2.2 161)), (1, .int (nI b)), (2, .int (4 : Int32))] := hl
  refine lv_iload_n S.1 S.2.1 dX9_scope_0 rfl (lv_at hl 1 rfl) ?_
  refine lv_if_lt (tgt := 16) S.1 S.2.1 dX9_scope_1 (by decide) (fun h => absurd h (nI_pos (by omega))) (fun _ => ?_)
  refine lv_iload_n S.1 S.2.1 dX9_scope_4 rfl (lv_at hl 2 rfl) ?_
  refine lv_i2l (v := (4 : Int64)) S.1 S.2.1 dX9_scope_5 (by decide) ?_
  refine lv_lconst (v := (0 : Int64)) S.1 S.2.1 dX9_scope_6 (by decide) ?_
  refine lv_ldc2 (v := (4 : Int64)) S.1 S.2.1 S.2.2.2.1 (S.2.2.2.2 _ (List.mem_of_getElem? (i := 1) rfl)) dX9_scope_7 ?_
  refine s_callS (As := [.long (4 : Int64), .long (0 : Int64), .long (4 : Int64)]) (rest := []) S hX G (k_X9_in l E (4 : Int64) (0 : Int64) (4 : Int64)) (va_cwS (bytes := cX9_in) (maxL := 6) (ret := (some .boolean)) 3 S.2.2.2.2 gX9_scope_X9_in rfl rfl rfl (by decide +kernel) ⟨Nat.le_of_ble_eq_true rfl, Nat.le_of_ble_eq_true rfl⟩) rfl hl.1 rfl (Nat.le_of_ble_eq_true rfl) ⟨Nat.zero_le _, Nat.zero_le _⟩ dX9_scope_10 (fun v I1 L1 H locs hR G => ?_)
  obtain ⟨hv, hI, hL⟩ := hR
  subst hv
  have G : GS E I L sg H locs := G.same hI hL
  refine W.eq (g2 := F0 mg 13 ls [.int (if ¬ (4 : Int64) < (0 : Int64) ∧ ¬ (4 : Int64) < (4 : Int64) then 1 else 0)]) rfl ?_
  refine s_if_ne_b (P := ¬ (4 : Int64) < (0 : Int64) ∧ ¬ (4 : Int64) < (4 : Int64)) (tgt := 19) S dX9_scope_13 (by decide) (fun _ => ?_) (fun h => absurd (by decide) h)
  refine lv_iload_n S.1 S.2.1 dX9_scope_19 rfl (lv_at hl 1 rfl) ?_
  refine lv_aload_n S.1 S.2.1 dX9_scope_20 rfl (lv_at hl 0 rfl) ?_
  refine s_get S hX G (i := 161) (kd := 9) (a := (I 161)) (v := .ref (E.2.2.2 162)) (C := RX9) (T := TX9) (N := 13) 0 (rfl : sh 161 = 9) rfl rfl rfl (by decide) rfl (fun _ h => (List.mem_cons_of_mem _ (List.mem_append_right _ h))) (by decide) (List.mem_of_getElem? (i := 3) rfl) (fun _ h => h) dX9_scope_21 ?_
  refine lv_bipush (v := (102 : Int32)) S.1 S.2.1 dX9_scope_24 (by decide) ?_
  refine s_iald S hX G (i := 162) (kd := 284) (n := 270) (a := d) (x := (d 102)) (rfl : sh 162 = 284) e_d rfl (by decide) (by unfold vp_in; decide) (congrArg d (by decide)) dX9_scope_26 ?_
  refine s_conv (y := (nI s)) hs ?_
  refine lv_icmp_ge (tgt := 46) S.1 S.2.1 dX9_scope_27 (by decide) (fun _ => ?_) (fun h => absurd (nI_le hb (by omega)) h)
  refine lv_ldc (v := (-2000000004 : Int32)) S.1 S.2.1 S.2.2.2.1 (S.2.2.2.2 _ (List.mem_of_getElem? (i := 4) rfl)) dX9_scope_46 ?_
  refine s_iret (x := (-2000000004 : Int32)) S G hr hlk dX9_scope_48 ?_
  exact ⟨rfl, rfl, rfl⟩
set_option maxHeartbeats 4000000 in
set_option maxRecDepth 100000 in
theorem k_X9_scope_no (l : Launch) (E : Ev) {I : SI} {L : SL} (back : Int32) (what : Int32) (ht : ¬ (¬ back < 0 ∧ INR what 0 4)) : CS l yX9_scope wsX9_scope ({ frames := 1, cells := 0, slots := 0, locals := 25 }) E [.ref (E.2.2.2 161), .int back, .int what] I L (fun vv I' L' => vv = some (.int (-2000000001 : Int32)) ∧ I' = I ∧ L' = L) := by
  refine CS.of (cc := cX9_scope) (maxL := 3) (ret := (some .int)) (by decide) rfl (Nat.le_of_ble_eq_true rfl) ?_
  intro pg en sg mg below meth cg ls S hr hlk hX G hl
  have S : CallFix pg mg cg cX9_scope 3 sg _ wsX9_scope RX9 := S
  have hl : lv_has ls 3 [(0, .ref (E.2.2.2 161)), (1, .int back), (2, .int what)] := hl
  refine lv_iload_n S.1 S.2.1 dX9_scope_0 rfl (lv_at hl 1 rfl) ?_
  refine lv_if_lt (tgt := 16) S.1 S.2.1 dX9_scope_1 (by decide) (fun c_1 => ?_) (fun c_1 => ?_)
  · refine lv_ldc (v := (-2000000001 : Int32)) S.1 S.2.1 S.2.2.2.1 (S.2.2.2.2 _ (List.mem_of_getElem? (i := 2) rfl)) dX9_scope_16 ?_
    refine s_iret (x := (-2000000001 : Int32)) S G hr hlk dX9_scope_18 ?_
    exact ⟨rfl, rfl, rfl⟩
  · refine lv_iload_n S.1 S.2.1 dX9_scope_4 rfl (lv_at hl 2 rfl) ?_
    refine lv_i2l (v := (Int32.toInt64 what)) S.1 S.2.1 dX9_scope_5 rfl ?_
    refine lv_lconst (v := (0 : Int64)) S.1 S.2.1 dX9_scope_6 (by decide) ?_
    refine lv_ldc2 (v := (4 : Int64)) S.1 S.2.1 S.2.2.2.1 (S.2.2.2.2 _ (List.mem_of_getElem? (i := 1) rfl)) dX9_scope_7 ?_
    refine s_callS (As := [.long (Int32.toInt64 what), .long (0 : Int64), .long (4 : Int64)]) (rest := []) S hX G (k_X9_in l E (Int32.toInt64 what) (0 : Int64) (4 : Int64)) (va_cwS (bytes := cX9_in) (maxL := 6) (ret := (some .boolean)) 3 S.2.2.2.2 gX9_scope_X9_in rfl rfl rfl (by decide +kernel) ⟨Nat.le_of_ble_eq_true rfl, Nat.le_of_ble_eq_true rfl⟩) rfl hl.1 rfl (Nat.le_of_ble_eq_true rfl) ⟨Nat.zero_le _, Nat.zero_le _⟩ dX9_scope_10 (fun v I1 L1 H locs hR G => ?_)
    obtain ⟨hv, hI, hL⟩ := hR
    subst hv
    have G : GS E I L sg H locs := G.same hI hL
    refine W.eq (g2 := F0 mg 13 ls [.int (if ¬ (Int32.toInt64 what) < (0 : Int64) ∧ ¬ (4 : Int64) < (Int32.toInt64 what) then 1 else 0)]) rfl ?_
    refine s_if_ne_b (P := ¬ (Int32.toInt64 what) < (0 : Int64) ∧ ¬ (4 : Int64) < (Int32.toInt64 what)) (tgt := 19) S dX9_scope_13 (by decide) (fun c_2 => ?_) (fun c_2 => ?_)
    · exact absurd (And.intro c_1 (out64 (a := 0) (b := 4) c_2 (by decide) (by decide))) ht
    · refine lv_ldc (v := (-2000000001 : Int32)) S.1 S.2.1 S.2.2.2.1 (S.2.2.2.2 _ (List.mem_of_getElem? (i := 2) rfl)) dX9_scope_16 ?_
      refine s_iret (x := (-2000000001 : Int32)) S G hr hlk dX9_scope_18 ?_
      exact ⟨rfl, rfl, rfl⟩
theorem i2c_n {c : Nat} (h : c < 65536) : ((nI c).toUInt32 % 65536).toInt32 = nI c := by
  unfold nI
  apply Int32.toBitVec_inj.mp
  simp
  apply BitVec.eq_of_toNat_eq
  simp
  omega
theorem nar_c {c : Nat} (h : c < 65536) : vp_nar .char (nI c) = nI c := i2c_n h
set_option maxHeartbeats 4000000 in
set_option maxRecDepth 100000 in
theorem k_X9_type_ok (l : Launch) (E : Ev) {I : SI} {L : SL} (ch : Nat) (mx : Nat → Int32) (g : Nat → Int32) (n : Nat) (e_mx : I (161) = mx) (e_g : I (166) = g) (hx : mx 8 = nI n) (hn : n < 80) (h1 : 32 ≤ ch) (h2 : ch ≤ 126) : CS l yX9_type wsX9_type ({ frames := 1, cells := 0, slots := 0, locals := 25 }) E [.ref (E.2.2.2 161), .int (nI ch)] I L (fun vv I' L' => vv = some (.int (nI (n + 1))) ∧ I' = (up (up I (166) (upd g n (nI ch))) (161) (upd mx 8 (nI (n + 1)))) ∧ L' = L) := by
  refine CS.of (cc := cX9_type) (maxL := 2) (ret := (some .int)) (by decide) rfl (Nat.le_of_ble_eq_true rfl) ?_
  intro pg en sg mg below meth cg ls S hr hlk hX G hl
  have S : CallFix pg mg cg cX9_type 2 sg _ wsX9_type RX9 := S
  have hl : lv_has ls 2 [(0, .ref (E.2.2.2 161)), (1, .int (nI ch))] := hl
  refine lv_iload_n S.1 S.2.1 dX9_type_0 rfl (lv_at hl 1 rfl) ?_
  refine lv_i2l (v := (Int32.toInt64 (nI ch))) S.1 S.2.1 dX9_type_1 rfl ?_
  refine lv_ldc2 (v := (32 : Int64)) S.1 S.2.1 S.2.2.2.1 (S.2.2.2.2 _ (List.mem_of_getElem? (i := 1) rfl)) dX9_type_2 ?_
  refine lv_ldc2 (v := (126 : Int64)) S.1 S.2.1 S.2.2.2.1 (S.2.2.2.2 _ (List.mem_of_getElem? (i := 2) rfl)) dX9_type_5 ?_
  refine s_callS (As := [.long (Int32.toInt64 (nI ch)), .long (32 : Int64), .long (126 : Int64)]) (rest := []) S hX G (k_X9_in l E (Int32.toInt64 (nI ch)) (32 : Int64) (126 : Int64)) (va_cwS (bytes := cX9_in) (maxL := 6) (ret := (some .boolean)) 3 S.2.2.2.2 gX9_type_X9_in rfl rfl rfl (by decide +kernel) ⟨Nat.le_of_ble_eq_true rfl, Nat.le_of_ble_eq_true rfl⟩) rfl hl.1 rfl (Nat.le_of_ble_eq_true rfl) ⟨Nat.zero_le _, Nat.zero_le _⟩ dX9_type_8 (fun v I1 L1 H locs hR G => ?_)
  obtain ⟨hv, hI, hL⟩ := hR
  subst hv
  have G : GS E I L sg H locs := G.same hI hL
  refine W.eq (g2 := F0 mg 11 ls [.int (if ¬ (Int32.toInt64 (nI ch)) < (32 : Int64) ∧ ¬ (126 : Int64) < (Int32.toInt64 (nI ch)) then 1 else 0)]) rfl ?_
  refine s_if_ne_b (P := ¬ (Int32.toInt64 (nI ch)) < (32 : Int64) ∧ ¬ (126 : Int64) < (Int32.toInt64 (nI ch))) (tgt := 17) S dX9_type_11 (by decide) (fun _ => ?_) (fun h => absurd (in64 (a := nI 32) (b := nI 126) (inR h1 h2 (by decide)) (by decide) (by decide)) h)
  refine lv_aload_n S.1 S.2.1 dX9_type_17 rfl (lv_at hl 0 rfl) ?_
  refine s_get S hX G (i := 161) (kd := 9) (a := mx) (v := .int (mx 8)) (C := RX9) (T := TX9) (N := 13) 8 (rfl : sh 161 = 9) e_mx rfl rfl (by decide) rfl (fun _ h => (List.mem_cons_of_mem _ (List.mem_append_right _ h))) (by decide) (List.mem_of_getElem? (i := 4) rfl) (fun _ h => h) dX9_type_18 ?_
  refine s_conv (y := (nI n)) hx ?_
  refine lv_bipush (v := (80 : Int32)) S.1 S.2.1 dX9_type_21 (by decide) ?_
  refine lv_icmp_ne (tgt := 29) S.1 S.2.1 dX9_type_23 (by decide) (fun _ => ?_) (fun h => absurd h (nI_ne (b := 80) (by omega) (by decide) (by omega)))
  refine lv_aload_n S.1 S.2.1 dX9_type_29 rfl (lv_at hl 0 rfl) ?_
  refine s_get S hX G (i := 161) (kd := 9) (a := mx) (v := .ref (E.2.2.2 166)) (C := RX9) (T := TX9) (N := 13) 7 (rfl : sh 161 = 9) e_mx rfl rfl (by decide) rfl (fun _ h => (List.mem_cons_of_mem _ (List.mem_append_right _ h))) (by decide) (List.mem_of_getElem? (i := 6) rfl) (fun _ h => h) dX9_type_30 ?_
  refine lv_aload_n S.1 S.2.1 dX9_type_33 rfl (lv_at hl 0 rfl) ?_
  refine s_get S hX G (i := 161) (kd := 9) (a := mx) (v := .int (mx 8)) (C := RX9) (T := TX9) (N := 13) 8 (rfl : sh 161 = 9) e_mx rfl rfl (by decide) rfl (fun _ h => (List.mem_cons_of_mem _ (List.mem_append_right _ h))) (by decide) (List.mem_of_getElem? (i := 4) rfl) (fun _ h => h) dX9_type_34 ?_
  refine s_conv (y := (nI n)) hx ?_
  refine lv_iload_n S.1 S.2.1 dX9_type_37 rfl (lv_at hl 1 rfl) ?_
  refine lv_i2c (v := (nI ch)) S.1 S.2.1 dX9_type_38 (i2c_n (by omega)) ?_
  refine s_cast S hX G (i := 166) (jn := n) (a := g) (I' := (up I 166 (upd g n (nI ch)))) (rfl : sh 166 = 11) e_g (vp_in_nI (by omega) (by decide)) (nI_clamp (by omega)) (nar_c (by omega)) rfl dX9_type_39 (fun H locs G => ?_)
  refine lv_aload_n S.1 S.2.1 dX9_type_40 rfl (lv_at hl 0 rfl) ?_
  refine lv_dup S.1 S.2.1 dX9_type_41 rfl ?_
  refine s_get S hX G (i := 161) (kd := 9) (a := mx) (v := .int (mx 8)) (C := RX9) (T := TX9) (N := 13) 8 (rfl : sh 161 = 9) ((up_ne (by decide)).trans e_mx) rfl rfl (by decide) rfl (fun _ h => (List.mem_cons_of_mem _ (List.mem_append_right _ h))) (by decide) (List.mem_of_getElem? (i := 4) rfl) (fun _ h => h) dX9_type_42 ?_
  refine s_conv (y := (nI n)) hx ?_
  refine lv_iconst (v := (1 : Int32)) S.1 S.2.1 dX9_type_45 (by decide) ?_
  refine s_iadd (v := (nI (n + 1))) S dX9_type_46 (nI_add n 1) ?_
  refine s_put S hX G (i := 161) (kd := 9) (a := mx) (a' := (upd mx 8 (nI (n + 1)))) (I' := (up (up I 166 (upd g n (nI ch))) 161 (upd mx 8 (nI (n + 1))))) (v := .int (nI (n + 1))) (ty := .int) (ty0 := tyX9) (C := RX9) (T := TX9) (N := 13) 8 (rfl : sh 161 = 9) ((up_ne (by decide)).trans e_mx) rfl rfl rfl (by decide) rfl (fun _ h => (List.mem_cons_of_mem _ (List.mem_append_right _ h))) tyX9_ok nmX9 (by decide) (List.mem_of_getElem? (i := 4) rfl) (fun _ h => h) rfl (by decide +kernel) rfl rfl (Nat.le_of_ble_eq_true rfl) dX9_type_47 (fun H locs G => ?_)
  refine lv_aload_n S.1 S.2.1 dX9_type_50 rfl (lv_at hl 0 rfl) ?_
  refine s_get S hX G (i := 161) (kd := 9) (a := (upd mx 8 (nI (n + 1)))) (v := .int (nI (n + 1))) (C := RX9) (T := TX9) (N := 13) 8 (rfl : sh 161 = 9) up_eq rfl rfl (by decide) rfl (fun _ h => (List.mem_cons_of_mem _ (List.mem_append_right _ h))) (by decide) (List.mem_of_getElem? (i := 4) rfl) (fun _ h => h) dX9_type_51 ?_
  refine s_iret (x := (nI (n + 1))) S G hr hlk dX9_type_54 ?_
  exact ⟨rfl, (st_eq2 ((up_ne (by decide)).trans up_eq) up_eq (fun _ g0 g1 => ((up_ne g1).trans (up_ne g0)))), rfl⟩
set_option maxHeartbeats 4000000 in
set_option maxRecDepth 100000 in
theorem k_X9_type_lim (l : Launch) (E : Ev) {I : SI} {L : SL} (ch : Nat) (mx : Nat → Int32) (e_mx : I (161) = mx) (hx : mx 8 = nI 80) (h1 : 32 ≤ ch) (h2 : ch ≤ 126) : CS l yX9_type wsX9_type ({ frames := 1, cells := 0, slots := 0, locals := 25 }) E [.ref (E.2.2.2 161), .int (nI ch)] I L (fun vv I' L' => vv = some (.int (-2000000003 : Int32)) ∧ I' = I ∧ L' = L) := by
  refine CS.of (cc := cX9_type) (maxL := 2) (ret := (some .int)) (by decide) rfl (Nat.le_of_ble_eq_true rfl) ?_
  intro pg en sg mg below meth cg ls S hr hlk hX G hl
  have S : CallFix pg mg cg cX9_type 2 sg _ wsX9_type RX9 := S
  have hl : lv_has ls 2 [(0, .ref (E.2.2.2 161)), (1, .int (nI ch))] := hl
  refine lv_iload_n S.1 S.2.1 dX9_type_0 rfl (lv_at hl 1 rfl) ?_
  refine lv_i2l (v := (Int32.toInt64 (nI ch))) S.1 S.2.1 dX9_type_1 rfl ?_
  refine lv_ldc2 (v := (32 : Int64)) S.1 S.2.1 S.2.2.2.1 (S.2.2.2.2 _ (List.mem_of_getElem? (i := 1) rfl)) dX9_type_2 ?_
  refine lv_ldc2 (v := (126 : Int64)) S.1 S.2.1 S.2.2.2.1 (S.2.2.2.2 _ (List.mem_of_getElem? (i := 2) rfl)) dX9_type_5 ?_
  refine s_callS (As := [.long (Int32.toInt64 (nI ch)), .long (32 : Int64), .long (126 : Int64)]) (rest := []) S hX G (k_X9_in l E (Int32.toInt64 (nI ch)) (32 : Int64) (126 : Int64)) (va_cwS (bytes := cX9_in) (maxL := 6) (ret := (some .boolean)) 3 S.2.2.2.2 gX9_type_X9_in rfl rfl rfl (by decide +kernel) ⟨Nat.le_of_ble_eq_true rfl, Nat.le_of_ble_eq_true rfl⟩) rfl hl.1 rfl (Nat.le_of_ble_eq_true rfl) ⟨Nat.zero_le _, Nat.zero_le _⟩ dX9_type_8 (fun v I1 L1 H locs hR G => ?_)
  obtain ⟨hv, hI, hL⟩ := hR
  subst hv
  have G : GS E I L sg H locs := G.same hI hL
  refine W.eq (g2 := F0 mg 11 ls [.int (if ¬ (Int32.toInt64 (nI ch)) < (32 : Int64) ∧ ¬ (126 : Int64) < (Int32.toInt64 (nI ch)) then 1 else 0)]) rfl ?_
  refine s_if_ne_b (P := ¬ (Int32.toInt64 (nI ch)) < (32 : Int64) ∧ ¬ (126 : Int64) < (Int32.toInt64 (nI ch))) (tgt := 17) S dX9_type_11 (by decide) (fun _ => ?_) (fun h => absurd (in64 (a := nI 32) (b := nI 126) (inR h1 h2 (by decide)) (by decide) (by decide)) h)
  refine lv_aload_n S.1 S.2.1 dX9_type_17 rfl (lv_at hl 0 rfl) ?_
  refine s_get S hX G (i := 161) (kd := 9) (a := mx) (v := .int (mx 8)) (C := RX9) (T := TX9) (N := 13) 8 (rfl : sh 161 = 9) e_mx rfl rfl (by decide) rfl (fun _ h => (List.mem_cons_of_mem _ (List.mem_append_right _ h))) (by decide) (List.mem_of_getElem? (i := 4) rfl) (fun _ h => h) dX9_type_18 ?_
  refine lv_bipush (v := (80 : Int32)) S.1 S.2.1 dX9_type_21 (by decide) ?_
  refine lv_icmp_ne (tgt := 29) S.1 S.2.1 dX9_type_23 (by decide) (fun h => absurd hx h) (fun _ => ?_)
  refine lv_ldc (v := (-2000000003 : Int32)) S.1 S.2.1 S.2.2.2.1 (S.2.2.2.2 _ (List.mem_of_getElem? (i := 5) rfl)) dX9_type_26 ?_
  refine s_iret (x := (-2000000003 : Int32)) S G hr hlk dX9_type_28 ?_
  exact ⟨rfl, rfl, rfl⟩
set_option maxHeartbeats 4000000 in
set_option maxRecDepth 100000 in
theorem k_X9_type_no (l : Launch) (E : Ev) {I : SI} {L : SL} (ch : Int32) (ht : ¬ INR ch 32 126) : CS l yX9_type wsX9_type ({ frames := 1, cells := 0, slots := 0, locals := 25 }) E [.ref (E.2.2.2 161), .int ch] I L (fun vv I' L' => vv = some (.int (-2000000001 : Int32)) ∧ I' = I ∧ L' = L) := by
  refine CS.of (cc := cX9_type) (maxL := 2) (ret := (some .int)) (by decide) rfl (Nat.le_of_ble_eq_true rfl) ?_
  intro pg en sg mg below meth cg ls S hr hlk hX G hl
  have S : CallFix pg mg cg cX9_type 2 sg _ wsX9_type RX9 := S
  have hl : lv_has ls 2 [(0, .ref (E.2.2.2 161)), (1, .int ch)] := hl
  refine lv_iload_n S.1 S.2.1 dX9_type_0 rfl (lv_at hl 1 rfl) ?_
  refine lv_i2l (v := (Int32.toInt64 ch)) S.1 S.2.1 dX9_type_1 rfl ?_
  refine lv_ldc2 (v := (32 : Int64)) S.1 S.2.1 S.2.2.2.1 (S.2.2.2.2 _ (List.mem_of_getElem? (i := 1) rfl)) dX9_type_2 ?_
  refine lv_ldc2 (v := (126 : Int64)) S.1 S.2.1 S.2.2.2.1 (S.2.2.2.2 _ (List.mem_of_getElem? (i := 2) rfl)) dX9_type_5 ?_
  refine s_callS (As := [.long (Int32.toInt64 ch), .long (32 : Int64), .long (126 : Int64)]) (rest := []) S hX G (k_X9_in l E (Int32.toInt64 ch) (32 : Int64) (126 : Int64)) (va_cwS (bytes := cX9_in) (maxL := 6) (ret := (some .boolean)) 3 S.2.2.2.2 gX9_type_X9_in rfl rfl rfl (by decide +kernel) ⟨Nat.le_of_ble_eq_true rfl, Nat.le_of_ble_eq_true rfl⟩) rfl hl.1 rfl (Nat.le_of_ble_eq_true rfl) ⟨Nat.zero_le _, Nat.zero_le _⟩ dX9_type_8 (fun v I1 L1 H locs hR G => ?_)
  obtain ⟨hv, hI, hL⟩ := hR
  subst hv
  have G : GS E I L sg H locs := G.same hI hL
  refine W.eq (g2 := F0 mg 11 ls [.int (if ¬ (Int32.toInt64 ch) < (32 : Int64) ∧ ¬ (126 : Int64) < (Int32.toInt64 ch) then 1 else 0)]) rfl ?_
  refine s_if_ne_b (P := ¬ (Int32.toInt64 ch) < (32 : Int64) ∧ ¬ (126 : Int64) < (Int32.toInt64 ch)) (tgt := 17) S dX9_type_11 (by decide) (fun h => absurd h (nin64 (a := 32) (b := 126) ht (by decide) (by decide))) (fun _ => ?_)
  refine lv_ldc (v := (-2000000001 : Int32)) S.1 S.2.1 S.2.2.2.1 (S.2.2.2.2 _ (List.mem_of_getElem? (i := 3) rfl)) dX9_type_14 ?_
  refine s_iret (x := (-2000000001 : Int32)) S G hr hlk dX9_type_16 ?_
  exact ⟨rfl, rfl, rfl⟩
set_option maxHeartbeats 4000000 in
set_option maxRecDepth 100000 in
theorem k_X9_clearText (l : Launch) (E : Ev) {I : SI} {L : SL} (mx : Nat → Int32) (e_mx : I (161) = mx) : CS l yX9_clearText wsX9_clearText ({ frames := 0, cells := 0, slots := 0, locals := 0 }) E [.ref (E.2.2.2 161)] I L (fun vv I' L' => vv = some (.int (mx 8)) ∧ I' = (up I (161) (upd mx 8 0)) ∧ L' = L) := by
  refine CS.of (cc := cX9_clearText) (maxL := 2) (ret := (some .int)) (by decide) rfl (Nat.le_of_ble_eq_true rfl) ?_
  intro pg en sg mg below meth cg ls S hr hlk hX G hl
  have S : CallFix pg mg cg cX9_clearText 2 sg _ wsX9_clearText RX9 := S
  have hl : lv_has ls 2 [(0, .ref (E.2.2.2 161))] := hl
  refine lv_aload_n S.1 S.2.1 dX9_clearText_0 rfl (lv_at hl 0 rfl) ?_
  refine s_get S hX G (i := 161) (kd := 9) (a := mx) (v := .int (mx 8)) (C := RX9) (T := TX9) (N := 13) 8 (rfl : sh 161 = 9) e_mx rfl rfl (by decide) rfl (fun _ h => (List.mem_cons_of_mem _ (List.mem_append_right _ h))) (by decide) (List.mem_of_getElem? (i := 1) rfl) (fun _ h => h) dX9_clearText_1 ?_
  refine lv_istore_n (lv' := [(1, .int (mx 8)), (0, .ref (E.2.2.2 161))]) S.1 S.2.1 dX9_clearText_4 rfl hl (by decide) rfl (fun ls hl => ?_)
  refine lv_aload_n S.1 S.2.1 dX9_clearText_5 rfl (lv_at hl 1 rfl) ?_
  refine lv_iconst (v := (0 : Int32)) S.1 S.2.1 dX9_clearText_6 (by decide) ?_
  refine s_put S hX G (i := 161) (kd := 9) (a := mx) (a' := (upd mx 8 (0 : Int32))) (I' := (up I 161 (upd mx 8 (0 : Int32)))) (v := .int (0 : Int32)) (ty := .int) (ty0 := tyX9) (C := RX9) (T := TX9) (N := 13) 8 (rfl : sh 161 = 9) e_mx rfl rfl rfl (by decide) rfl (fun _ h => (List.mem_cons_of_mem _ (List.mem_append_right _ h))) tyX9_ok nmX9 (by decide) (List.mem_of_getElem? (i := 1) rfl) (fun _ h => h) rfl (by decide +kernel) rfl rfl (Nat.le_of_ble_eq_true rfl) dX9_clearText_7 (fun H locs G => ?_)
  refine lv_iload_n S.1 S.2.1 dX9_clearText_10 rfl (lv_at hl 0 rfl) ?_
  refine s_iret (x := (mx 8)) S G hr hlk dX9_clearText_11 ?_
  exact ⟨rfl, (st_eq1 (Eq.trans up_eq (show (upd mx 8 (0 : Int32)) = (upd mx 8 0) by rfl)) (fun _ g0 => (up_ne g0))), rfl⟩
