set_option maxHeartbeats 4000000 in
set_option maxRecDepth 100000 in
theorem k_X9_count_0 (l : Launch) (E : Ev) {I : SI} {L : SL} (d : Nat → Int32) (e_d : I (162) = d) : CS l yX9_count wsX9_count ({ frames := 1, cells := 0, slots := 0, locals := 25 }) E [.ref (E.2.2.2 161), .int (0 : Int32)] I L (fun vv I' L' => vv = some (.long (Int32.toInt64 (d 0))) ∧ I' = I ∧ L' = L) := by
  refine CS.of (cc := cX9_count) (maxL := 2) (ret := (some .long)) (by decide) rfl (Nat.le_of_ble_eq_true rfl) ?_
  intro pg en sg mg below meth cg ls S hr hlk hX G hl
  have S : CallFix pg mg cg cX9_count 2 sg _ wsX9_count RX9 := S
  have hl : lv_has ls 2 [(0, .ref (E.2.2.2 161)), (1, .int (0 : Int32))] := hl
  refine lv_iload_n S.1 S.2.1 dX9_count_0 rfl (lv_at hl 1 rfl) ?_
  refine lv_i2l (v := (0 : Int64)) S.1 S.2.1 dX9_count_1 (by decide) ?_
  refine lv_ldc2 (v := (10 : Int64)) S.1 S.2.1 S.2.2.2.1 (S.2.2.2.2 _ (List.mem_of_getElem? (i := 1) rfl)) dX9_count_2 ?_
  refine lv_ldc2 (v := (15 : Int64)) S.1 S.2.1 S.2.2.2.1 (S.2.2.2.2 _ (List.mem_of_getElem? (i := 2) rfl)) dX9_count_5 ?_
  refine s_callS (As := [.long (0 : Int64), .long (10 : Int64), .long (15 : Int64)]) (rest := []) S hX G (k_X9_in l E (0 : Int64) (10 : Int64) (15 : Int64)) (va_cwS (bytes := cX9_in) (maxL := 6) (ret := (some .boolean)) 3 S.2.2.2.2 gX9_count_X9_in rfl rfl rfl (by decide +kernel) ⟨Nat.le_of_ble_eq_true rfl, Nat.le_of_ble_eq_true rfl⟩) rfl hl.1 rfl (Nat.le_of_ble_eq_true rfl) ⟨Nat.zero_le _, Nat.zero_le _⟩ dX9_count_8 (fun v I1 L1 H locs hR G => ?_)
  obtain ⟨hv, hI, hL⟩ := hR
  subst hv
  have G : GS E I L sg H locs := G.same hI hL
  refine W.eq (g2 := F0 mg 11 ls [.int (if ¬ (0 : Int64) < (10 : Int64) ∧ ¬ (15 : Int64) < (0 : Int64) then 1 else 0)]) rfl ?_
  refine s_if_eq_b (P := ¬ (0 : Int64) < (10 : Int64) ∧ ¬ (15 : Int64) < (0 : Int64)) (tgt := 27) S dX9_count_11 (by decide) (fun _ => ?_) (fun h => absurd h (by decide))
  refine lv_iload_n S.1 S.2.1 dX9_count_27 rfl (lv_at hl 1 rfl) ?_
  refine lv_tableIn (off := 100) (tgt := 128) S.1 S.2.1 dX9_count_28 (by decide) (by decide) (by decide) (by decide) ?_
  refine lv_aload_n S.1 S.2.1 dX9_count_128 rfl (lv_at hl 0 rfl) ?_
  refine s_get S hX G (i := 161) (kd := 9) (a := (I 161)) (v := .ref (E.2.2.2 162)) (C := RX9) (T := TX9) (N := 13) 0 (rfl : sh 161 = 9) rfl rfl rfl (by decide) rfl (fun _ h => (List.mem_cons_of_mem _ (List.mem_append_right _ h))) (by decide) (List.mem_of_getElem? (i := 3) rfl) (fun _ h => h) dX9_count_129 ?_
  refine lv_iconst (v := (0 : Int32)) S.1 S.2.1 dX9_count_132 (by decide) ?_
  refine s_iald S hX G (i := 162) (kd := 284) (n := 270) (a := d) (x := (d 0)) (rfl : sh 162 = 284) e_d rfl (by decide) (by unfold vp_in; decide) (congrArg d (by decide)) dX9_count_133 ?_
  refine lv_i2l (v := (Int32.toInt64 (d 0))) S.1 S.2.1 dX9_count_134 rfl ?_
  refine s_lret (x := (Int32.toInt64 (d 0))) S G hr hlk dX9_count_135 ?_
  exact ⟨rfl, rfl, rfl⟩
set_option maxHeartbeats 4000000 in
set_option maxRecDepth 100000 in
theorem k_X9_count_1 (l : Launch) (E : Ev) {I : SI} {L : SL} (d : Nat → Int32) (e_d : I (162) = d) : CS l yX9_count wsX9_count ({ frames := 3, cells := 0, slots := 0, locals := 65 }) E [.ref (E.2.2.2 161), .int (1 : Int32)] I L (fun vv I' L' => vv = some (.long (Int32.toInt64 (ltdF d 40 + ltdF d 70))) ∧ I' = I ∧ L' = L) := by
  refine CS.of (cc := cX9_count) (maxL := 2) (ret := (some .long)) (by decide) rfl (Nat.le_of_ble_eq_true rfl) ?_
  intro pg en sg mg below meth cg ls S hr hlk hX G hl
  have S : CallFix pg mg cg cX9_count 2 sg _ wsX9_count RX9 := S
  have hl : lv_has ls 2 [(0, .ref (E.2.2.2 161)), (1, .int (1 : Int32))] := hl
  refine lv_iload_n S.1 S.2.1 dX9_count_0 rfl (lv_at hl 1 rfl) ?_
  refine lv_i2l (v := (1 : Int64)) S.1 S.2.1 dX9_count_1 (by decide) ?_
  refine lv_ldc2 (v := (10 : Int64)) S.1 S.2.1 S.2.2.2.1 (S.2.2.2.2 _ (List.mem_of_getElem? (i := 1) rfl)) dX9_count_2 ?_
  refine lv_ldc2 (v := (15 : Int64)) S.1 S.2.1 S.2.2.2.1 (S.2.2.2.2 _ (List.mem_of_getElem? (i := 2) rfl)) dX9_count_5 ?_
  refine s_callS (As := [.long (1 : Int64), .long (10 : Int64), .long (15 : Int64)]) (rest := []) S hX G (k_X9_in l E (1 : Int64) (10 : Int64) (15 : Int64)) (va_cwS (bytes := cX9_in) (maxL := 6) (ret := (some .boolean)) 3 S.2.2.2.2 gX9_count_X9_in rfl rfl rfl (by decide +kernel) ⟨Nat.le_of_ble_eq_true rfl, Nat.le_of_ble_eq_true rfl⟩) rfl hl.1 rfl (Nat.le_of_ble_eq_true rfl) ⟨Nat.zero_le _, Nat.zero_le _⟩ dX9_count_8 (fun v I1 L1 H locs hR G => ?_)
  obtain ⟨hv, hI, hL⟩ := hR
  subst hv
  have G : GS E I L sg H locs := G.same hI hL
  refine W.eq (g2 := F0 mg 11 ls [.int (if ¬ (1 : Int64) < (10 : Int64) ∧ ¬ (15 : Int64) < (1 : Int64) then 1 else 0)]) rfl ?_
  refine s_if_eq_b (P := ¬ (1 : Int64) < (10 : Int64) ∧ ¬ (15 : Int64) < (1 : Int64)) (tgt := 27) S dX9_count_11 (by decide) (fun _ => ?_) (fun h => absurd h (by decide))
  refine lv_iload_n S.1 S.2.1 dX9_count_27 rfl (lv_at hl 1 rfl) ?_
  refine lv_tableIn (off := 108) (tgt := 136) S.1 S.2.1 dX9_count_28 (by decide) (by decide) (by decide) (by decide) ?_
  refine lv_aload_n S.1 S.2.1 dX9_count_136 rfl (lv_at hl 0 rfl) ?_
  refine lv_iconst (v := (0 : Int32)) S.1 S.2.1 dX9_count_137 (by decide) ?_
  refine s_callV (C := RX9) (As := [.int (0 : Int32)]) (rest := []) (i := 161) (kd := 9) S hX G (k_X9_latched_0 l E d e_d) (cwV (bytes := cX9_latched) (maxL := 4) (ret := (some .int)) 1 S.2.2.2.2 gX9_count_X9_latched rfl rfl rfl (by decide +kernel) ⟨Nat.le_of_ble_eq_true rfl, Nat.le_of_ble_eq_true rfl⟩) (rfl : sh 161 = 9) rfl rfl rfl (by decide) rfl hl.1 rfl (Nat.le_of_ble_eq_true rfl) ⟨Nat.zero_le _, Nat.zero_le _⟩ dX9_count_138 (fun v I1 L1 H locs hR G => ?_)
  obtain ⟨hv, hI, hL⟩ := hR
  subst hv
  have G : GS E I L sg H locs := G.same hI hL
  refine W.eq (g2 := F0 mg 141 ls [.int (ltdF d 40)]) rfl ?_
  refine lv_topi (fun y_1 ey_1 => ?_)
  refine lv_aload_n S.1 S.2.1 dX9_count_141 rfl (lv_at hl 0 rfl) ?_
  refine lv_iconst (v := (1 : Int32)) S.1 S.2.1 dX9_count_142 (by decide) ?_
  refine s_callV (C := RX9) (As := [.int (1 : Int32)]) (rest := [.int y_1]) (i := 161) (kd := 9) S hX G (k_X9_latched_1 l E d e_d) (cwV (bytes := cX9_latched) (maxL := 4) (ret := (some .int)) 1 S.2.2.2.2 gX9_count_X9_latched rfl rfl rfl (by decide +kernel) ⟨Nat.le_of_ble_eq_true rfl, Nat.le_of_ble_eq_true rfl⟩) (rfl : sh 161 = 9) rfl rfl rfl (by decide) rfl hl.1 rfl (Nat.le_of_ble_eq_true rfl) ⟨Nat.zero_le _, Nat.zero_le _⟩ dX9_count_143 (fun v I1 L1 H locs hR G => ?_)
  obtain ⟨hv, hI, hL⟩ := hR
  subst hv
  have G : GS E I L sg H locs := G.same hI hL
  refine W.eq (g2 := F0 mg 146 ls [.int (ltdF d 70), .int y_1]) rfl ?_
  refine lv_topi (fun y_2 ey_2 => ?_)
  refine s_iadd (v := (y_1 + y_2)) S dX9_count_146 rfl ?_
  refine lv_i2l (v := (Int32.toInt64 (y_1 + y_2))) S.1 S.2.1 dX9_count_147 rfl ?_
  refine s_lret (x := (Int32.toInt64 (y_1 + y_2))) S G hr hlk dX9_count_148 ?_
  exact ⟨(congrArg (fun q : Int64 => some (Value.long q)) (show (Int32.toInt64 (y_1 + y_2)) = (Int32.toInt64 (ltdF d 40 + ltdF d 70)) by subst ey_2 ey_1; (first | (simp []; done) | (clear S hX G hl; grind [])))), rfl, rfl⟩
set_option maxHeartbeats 4000000 in
set_option maxRecDepth 100000 in
theorem k_X9_count_2 (l : Launch) (E : Ev) {I : SI} {L : SL} (d : Nat → Int32) (e_d : I (162) = d) : CS l yX9_count wsX9_count ({ frames := 1, cells := 0, slots := 0, locals := 25 }) E [.ref (E.2.2.2 161), .int (2 : Int32)] I L (fun vv I' L' => vv = some (.long (Int32.toInt64 (d 102))) ∧ I' = I ∧ L' = L) := by
  refine CS.of (cc := cX9_count) (maxL := 2) (ret := (some .long)) (by decide) rfl (Nat.le_of_ble_eq_true rfl) ?_
  intro pg en sg mg below meth cg ls S hr hlk hX G hl
  have S : CallFix pg mg cg cX9_count 2 sg _ wsX9_count RX9 := S
  have hl : lv_has ls 2 [(0, .ref (E.2.2.2 161)), (1, .int (2 : Int32))] := hl
  refine lv_iload_n S.1 S.2.1 dX9_count_0 rfl (lv_at hl 1 rfl) ?_
  refine lv_i2l (v := (2 : Int64)) S.1 S.2.1 dX9_count_1 (by decide) ?_
  refine lv_ldc2 (v := (10 : Int64)) S.1 S.2.1 S.2.2.2.1 (S.2.2.2.2 _ (List.mem_of_getElem? (i := 1) rfl)) dX9_count_2 ?_
  refine lv_ldc2 (v := (15 : Int64)) S.1 S.2.1 S.2.2.2.1 (S.2.2.2.2 _ (List.mem_of_getElem? (i := 2) rfl)) dX9_count_5 ?_
  refine s_callS (As := [.long (2 : Int64), .long (10 : Int64), .long (15 : Int64)]) (rest := []) S hX G (k_X9_in l E (2 : Int64) (10 : Int64) (15 : Int64)) (va_cwS (bytes := cX9_in) (maxL := 6) (ret := (some .boolean)) 3 S.2.2.2.2 gX9_count_X9_in rfl rfl rfl (by decide +kernel) ⟨Nat.le_of_ble_eq_true rfl, Nat.le_of_ble_eq_true rfl⟩) rfl hl.1 rfl (Nat.le_of_ble_eq_true rfl) ⟨Nat.zero_le _, Nat.zero_le _⟩ dX9_count_8 (fun v I1 L1 H locs hR G => ?_)
  obtain ⟨hv, hI, hL⟩ := hR
  subst hv
  have G : GS E I L sg H locs := G.same hI hL
  refine W.eq (g2 := F0 mg 11 ls [.int (if ¬ (2 : Int64) < (10 : Int64) ∧ ¬ (15 : Int64) < (2 : Int64) then 1 else 0)]) rfl ?_
  refine s_if_eq_b (P := ¬ (2 : Int64) < (10 : Int64) ∧ ¬ (15 : Int64) < (2 : Int64)) (tgt := 27) S dX9_count_11 (by decide) (fun _ => ?_) (fun h => absurd h (by decide))
  refine lv_iload_n S.1 S.2.1 dX9_count_27 rfl (lv_at hl 1 rfl) ?_
  refine lv_tableIn (off := 121) (tgt := 149) S.1 S.2.1 dX9_count_28 (by decide) (by decide) (by decide) (by decide) ?_
  refine lv_aload_n S.1 S.2.1 dX9_count_149 rfl (lv_at hl 0 rfl) ?_
  refine s_get S hX G (i := 161) (kd := 9) (a := (I 161)) (v := .ref (E.2.2.2 162)) (C := RX9) (T := TX9) (N := 13) 0 (rfl : sh 161 = 9) rfl rfl rfl (by decide) rfl (fun _ h => (List.mem_cons_of_mem _ (List.mem_append_right _ h))) (by decide) (List.mem_of_getElem? (i := 3) rfl) (fun _ h => h) dX9_count_150 ?_
  refine lv_bipush (v := (102 : Int32)) S.1 S.2.1 dX9_count_153 (by decide) ?_
  refine s_iald S hX G (i := 162) (kd := 284) (n := 270) (a := d) (x := (d 102)) (rfl : sh 162 = 284) e_d rfl (by decide) (by unfold vp_in; decide) (congrArg d (by decide)) dX9_count_155 ?_
  refine lv_i2l (v := (Int32.toInt64 (d 102))) S.1 S.2.1 dX9_count_156 rfl ?_
  refine s_lret (x := (Int32.toInt64 (d 102))) S G hr hlk dX9_count_157 ?_
  exact ⟨rfl, rfl, rfl⟩
set_option maxHeartbeats 4000000 in
set_option maxRecDepth 100000 in
theorem k_X9_count_3 (l : Launch) (E : Ev) {I : SI} {L : SL} (d : Nat → Int32) (e_d : I (162) = d) : CS l yX9_count wsX9_count ({ frames := 1, cells := 0, slots := 0, locals := 25 }) E [.ref (E.2.2.2 161), .int (3 : Int32)] I L (fun vv I' L' => vv = some (.long (Int32.toInt64 (d 100))) ∧ I' = I ∧ L' = L) := by
  refine CS.of (cc := cX9_count) (maxL := 2) (ret := (some .long)) (by decide) rfl (Nat.le_of_ble_eq_true rfl) ?_
  intro pg en sg mg below meth cg ls S hr hlk hX G hl
  have S : CallFix pg mg cg cX9_count 2 sg _ wsX9_count RX9 := S
  have hl : lv_has ls 2 [(0, .ref (E.2.2.2 161)), (1, .int (3 : Int32))] := hl
  refine lv_iload_n S.1 S.2.1 dX9_count_0 rfl (lv_at hl 1 rfl) ?_
  refine lv_i2l (v := (3 : Int64)) S.1 S.2.1 dX9_count_1 (by decide) ?_
  refine lv_ldc2 (v := (10 : Int64)) S.1 S.2.1 S.2.2.2.1 (S.2.2.2.2 _ (List.mem_of_getElem? (i := 1) rfl)) dX9_count_2 ?_
  refine lv_ldc2 (v := (15 : Int64)) S.1 S.2.1 S.2.2.2.1 (S.2.2.2.2 _ (List.mem_of_getElem? (i := 2) rfl)) dX9_count_5 ?_
  refine s_callS (As := [.long (3 : Int64), .long (10 : Int64), .long (15 : Int64)]) (rest := []) S hX G (k_X9_in l E (3 : Int64) (10 : Int64) (15 : Int64)) (va_cwS (bytes := cX9_in) (maxL := 6) (ret := (some .boolean)) 3 S.2.2.2.2 gX9_count_X9_in rfl rfl rfl (by decide +kernel) ⟨Nat.le_of_ble_eq_true rfl, Nat.le_of_ble_eq_true rfl⟩) rfl hl.1 rfl (Nat.le_of_ble_eq_true rfl) ⟨Nat.zero_le _, Nat.zero_le _⟩ dX9_count_8 (fun v I1 L1 H locs hR G => ?_)
  obtain ⟨hv, hI, hL⟩ := hR
  subst hv
  have G : GS E I L sg H locs := G.same hI hL
  refine W.eq (g2 := F0 mg 11 ls [.int (if ¬ (3 : Int64) < (10 : Int64) ∧ ¬ (15 : Int64) < (3 : Int64) then 1 else 0)]) rfl ?_
  refine s_if_eq_b (P := ¬ (3 : Int64) < (10 : Int64) ∧ ¬ (15 : Int64) < (3 : Int64)) (tgt := 27) S dX9_count_11 (by decide) (fun _ => ?_) (fun h => absurd h (by decide))
  refine lv_iload_n S.1 S.2.1 dX9_count_27 rfl (lv_at hl 1 rfl) ?_
  refine lv_tableIn (off := 130) (tgt := 158) S.1 S.2.1 dX9_count_28 (by decide) (by decide) (by decide) (by decide) ?_
  refine lv_aload_n S.1 S.2.1 dX9_count_158 rfl (lv_at hl 0 rfl) ?_
  refine s_get S hX G (i := 161) (kd := 9) (a := (I 161)) (v := .ref (E.2.2.2 162)) (C := RX9) (T := TX9) (N := 13) 0 (rfl : sh 161 = 9) rfl rfl rfl (by decide) rfl (fun _ h => (List.mem_cons_of_mem _ (List.mem_append_right _ h))) (by decide) (List.mem_of_getElem? (i := 3) rfl) (fun _ h => h) dX9_count_159 ?_
  refine lv_bipush (v := (100 : Int32)) S.1 S.2.1 dX9_count_162 (by decide) ?_
  refine s_iald S hX G (i := 162) (kd := 284) (n := 270) (a := d) (x := (d 100)) (rfl : sh 162 = 284) e_d rfl (by decide) (by unfold vp_in; decide) (congrArg d (by decide)) dX9_count_164 ?_
  refine lv_i2l (v := (Int32.toInt64 (d 100))) S.1 S.2.1 dX9_count_165 rfl ?_
  refine s_lret (x := (Int32.toInt64 (d 100))) S G hr hlk dX9_count_166 ?_
  exact ⟨rfl, rfl, rfl⟩
set_option maxHeartbeats 4000000 in
set_option maxRecDepth 100000 in
theorem k_X9_count_4 (l : Launch) (E : Ev) {I : SI} {L : SL} (d : Nat → Int32) (e_d : I (162) = d) : CS l yX9_count wsX9_count ({ frames := 1, cells := 0, slots := 0, locals := 25 }) E [.ref (E.2.2.2 161), .int (4 : Int32)] I L (fun vv I' L' => vv = some (.long (Int32.toInt64 (d 101))) ∧ I' = I ∧ L' = L) := by
  refine CS.of (cc := cX9_count) (maxL := 2) (ret := (some .long)) (by decide) rfl (Nat.le_of_ble_eq_true rfl) ?_
  intro pg en sg mg below meth cg ls S hr hlk hX G hl
  have S : CallFix pg mg cg cX9_count 2 sg _ wsX9_count RX9 := S
  have hl : lv_has ls 2 [(0, .ref (E.2.2.2 161)), (1, .int (4 : Int32))] := hl
  refine lv_iload_n S.1 S.2.1 dX9_count_0 rfl (lv_at hl 1 rfl) ?_
  refine lv_i2l (v := (4 : Int64)) S.1 S.2.1 dX9_count_1 (by decide) ?_
  refine lv_ldc2 (v := (10 : Int64)) S.1 S.2.1 S.2.2.2.1 (S.2.2.2.2 _ (List.mem_of_getElem? (i := 1) rfl)) dX9_count_2 ?_
  refine lv_ldc2 (v := (15 : Int64)) S.1 S.2.1 S.2.2.2.1 (S.2.2.2.2 _ (List.mem_of_getElem? (i := 2) rfl)) dX9_count_5 ?_
  refine s_callS (As := [.long (4 : Int64), .long (10 : Int64), .long (15 : Int64)]) (rest := []) S hX G (k_X9_in l E (4 : Int64) (10 : Int64) (15 : Int64)) (va_cwS (bytes := cX9_in) (maxL := 6) (ret := (some .boolean)) 3 S.2.2.2.2 gX9_count_X9_in rfl rfl rfl (by decide +kernel) ⟨Nat.le_of_ble_eq_true rfl, Nat.le_of_ble_eq_true rfl⟩) rfl hl.1 rfl (Nat.le_of_ble_eq_true rfl) ⟨Nat.zero_le _, Nat.zero_le _⟩ dX9_count_8 (fun v I1 L1 H locs hR G => ?_)
  obtain ⟨hv, hI, hL⟩ := hR
  subst hv
  have G : GS E I L sg H locs := G.same hI hL
  refine W.eq (g2 := F0 mg 11 ls [.int (if ¬ (4 : Int64) < (10 : Int64) ∧ ¬ (15 : Int64) < (4 : Int64) then 1 else 0)]) rfl ?_
  refine s_if_eq_b (P := ¬ (4 : Int64) < (10 : Int64) ∧ ¬ (15 : Int64) < (4 : Int64)) (tgt := 27) S dX9_count_11 (by decide) (fun _ => ?_) (fun h => absurd h (by decide))
  refine lv_iload_n S.1 S.2.1 dX9_count_27 rfl (lv_at hl 1 rfl) ?_
  refine lv_tableIn (off := 139) (tgt := 167) S.1 S.2.1 dX9_count_28 (by decide) (by decide) (by decide) (by decide) ?_
  refine lv_aload_n S.1 S.2.1 dX9_count_167 rfl (lv_at hl 0 rfl) ?_
  refine s_get S hX G (i := 161) (kd := 9) (a := (I 161)) (v := .ref (E.2.2.2 162)) (C := RX9) (T := TX9) (N := 13) 0 (rfl : sh 161 = 9) rfl rfl rfl (by decide) rfl (fun _ h => (List.mem_cons_of_mem _ (List.mem_append_right _ h))) (by decide) (List.mem_of_getElem? (i := 3) rfl) (fun _ h => h) dX9_count_168 ?_
  refine lv_bipush (v := (101 : Int32)) S.1 S.2.1 dX9_count_171 (by decide) ?_
  refine s_iald S hX G (i := 162) (kd := 284) (n := 270) (a := d) (x := (d 101)) (rfl : sh 162 = 284) e_d rfl (by decide) (by unfold vp_in; decide) (congrArg d (by decide)) dX9_count_173 ?_
  refine lv_i2l (v := (Int32.toInt64 (d 101))) S.1 S.2.1 dX9_count_174 rfl ?_
  refine s_lret (x := (Int32.toInt64 (d 101))) S G hr hlk dX9_count_175 ?_
  exact ⟨rfl, rfl, rfl⟩
set_option maxHeartbeats 4000000 in
set_option maxRecDepth 100000 in
theorem k_X9_count_5 (l : Launch) (E : Ev) {I : SI} {L : SL} (mx : Nat → Int32) (e_mx : I (161) = mx) : CS l yX9_count wsX9_count ({ frames := 1, cells := 0, slots := 0, locals := 25 }) E [.ref (E.2.2.2 161), .int (5 : Int32)] I L (fun vv I' L' => vv = some (.long (Int32.toInt64 (mx 2))) ∧ I' = I ∧ L' = L) := by
  refine CS.of (cc := cX9_count) (maxL := 2) (ret := (some .long)) (by decide) rfl (Nat.le_of_ble_eq_true rfl) ?_
  intro pg en sg mg below meth cg ls S hr hlk hX G hl
  have S : CallFix pg mg cg cX9_count 2 sg _ wsX9_count RX9 := S
  have hl : lv_has ls 2 [(0, .ref (E.2.2.2 161)), (1, .int (5 : Int32))] := hl
  refine lv_iload_n S.1 S.2.1 dX9_count_0 rfl (lv_at hl 1 rfl) ?_
  refine lv_i2l (v := (5 : Int64)) S.1 S.2.1 dX9_count_1 (by decide) ?_
  refine lv_ldc2 (v := (10 : Int64)) S.1 S.2.1 S.2.2.2.1 (S.2.2.2.2 _ (List.mem_of_getElem? (i := 1) rfl)) dX9_count_2 ?_
  refine lv_ldc2 (v := (15 : Int64)) S.1 S.2.1 S.2.2.2.1 (S.2.2.2.2 _ (List.mem_of_getElem? (i := 2) rfl)) dX9_count_5 ?_
  refine s_callS (As := [.long (5 : Int64), .long (10 : Int64), .long (15 : Int64)]) (rest := []) S hX G (k_X9_in l E (5 : Int64) (10 : Int64) (15 : Int64)) (va_cwS (bytes := cX9_in) (maxL := 6) (ret := (some .boolean)) 3 S.2.2.2.2 gX9_count_X9_in rfl rfl rfl (by decide +kernel) ⟨Nat.le_of_ble_eq_true rfl, Nat.le_of_ble_eq_true rfl⟩) rfl hl.1 rfl (Nat.le_of_ble_eq_true rfl) ⟨Nat.zero_le _, Nat.zero_le _⟩ dX9_count_8 (fun v I1 L1 H locs hR G => ?_)
  obtain ⟨hv, hI, hL⟩ := hR
  subst hv
  have G : GS E I L sg H locs := G.same hI hL
  refine W.eq (g2 := F0 mg 11 ls [.int (if ¬ (5 : Int64) < (10 : Int64) ∧ ¬ (15 : Int64) < (5 : Int64) then 1 else 0)]) rfl ?_
  refine s_if_eq_b (P := ¬ (5 : Int64) < (10 : Int64) ∧ ¬ (15 : Int64) < (5 : Int64)) (tgt := 27) S dX9_count_11 (by decide) (fun _ => ?_) (fun h => absurd h (by decide))
  refine lv_iload_n S.1 S.2.1 dX9_count_27 rfl (lv_at hl 1 rfl) ?_
  refine lv_tableIn (off := 148) (tgt := 176) S.1 S.2.1 dX9_count_28 (by decide) (by decide) (by decide) (by decide) ?_
  refine lv_aload_n S.1 S.2.1 dX9_count_176 rfl (lv_at hl 0 rfl) ?_
  refine s_get S hX G (i := 161) (kd := 9) (a := mx) (v := .int (mx 2)) (C := RX9) (T := TX9) (N := 13) 2 (rfl : sh 161 = 9) e_mx rfl rfl (by decide) rfl (fun _ h => (List.mem_cons_of_mem _ (List.mem_append_right _ h))) (by decide) (List.mem_of_getElem? (i := 4) rfl) (fun _ h => h) dX9_count_177 ?_
  refine lv_i2l (v := (Int32.toInt64 (mx 2))) S.1 S.2.1 dX9_count_180 rfl ?_
  refine s_lret (x := (Int32.toInt64 (mx 2))) S G hr hlk dX9_count_181 ?_
  exact ⟨rfl, rfl, rfl⟩
set_option maxHeartbeats 4000000 in
set_option maxRecDepth 100000 in
theorem k_X9_count_6 (l : Launch) (E : Ev) {I : SI} {L : SL} (mx : Nat → Int32) (e_mx : I (161) = mx) : CS l yX9_count wsX9_count ({ frames := 1, cells := 0, slots := 0, locals := 25 }) E [.ref (E.2.2.2 161), .int (6 : Int32)] I L (fun vv I' L' => vv = some (.long (Int32.toInt64 (mx 8))) ∧ I' = I ∧ L' = L) := by
  refine CS.of (cc := cX9_count) (maxL := 2) (ret := (some .long)) (by decide) rfl (Nat.le_of_ble_eq_true rfl) ?_
  intro pg en sg mg below meth cg ls S hr hlk hX G hl
  have S : CallFix pg mg cg cX9_count 2 sg _ wsX9_count RX9 := S
  have hl : lv_has ls 2 [(0, .ref (E.2.2.2 161)), (1, .int (6 : Int32))] := hl
  refine lv_iload_n S.1 S.2.1 dX9_count_0 rfl (lv_at hl 1 rfl) ?_
  refine lv_i2l (v := (6 : Int64)) S.1 S.2.1 dX9_count_1 (by decide) ?_
  refine lv_ldc2 (v := (10 : Int64)) S.1 S.2.1 S.2.2.2.1 (S.2.2.2.2 _ (List.mem_of_getElem? (i := 1) rfl)) dX9_count_2 ?_
  refine lv_ldc2 (v := (15 : Int64)) S.1 S.2.1 S.2.2.2.1 (S.2.2.2.2 _ (List.mem_of_getElem? (i := 2) rfl)) dX9_count_5 ?_
  refine s_callS (As := [.long (6 : Int64), .long (10 : Int64), .long (15 : Int64)]) (rest := []) S hX G (k_X9_in l E (6 : Int64) (10 : Int64) (15 : Int64)) (va_cwS (bytes := cX9_in) (maxL := 6) (ret := (some .boolean)) 3 S.2.2.2.2 gX9_count_X9_in rfl rfl rfl (by decide +kernel) ⟨Nat.le_of_ble_eq_true rfl, Nat.le_of_ble_eq_true rfl⟩) rfl hl.1 rfl (Nat.le_of_ble_eq_true rfl) ⟨Nat.zero_le _, Nat.zero_le _⟩ dX9_count_8 (fun v I1 L1 H locs hR G => ?_)
  obtain ⟨hv, hI, hL⟩ := hR
  subst hv
  have G : GS E I L sg H locs := G.same hI hL
  refine W.eq (g2 := F0 mg 11 ls [.int (if ¬ (6 : Int64) < (10 : Int64) ∧ ¬ (15 : Int64) < (6 : Int64) then 1 else 0)]) rfl ?_
  refine s_if_eq_b (P := ¬ (6 : Int64) < (10 : Int64) ∧ ¬ (15 : Int64) < (6 : Int64)) (tgt := 27) S dX9_count_11 (by decide) (fun _ => ?_) (fun h => absurd h (by decide))
  refine lv_iload_n S.1 S.2.1 dX9_count_27 rfl (lv_at hl 1 rfl) ?_
  refine lv_tableIn (off := 154) (tgt := 182) S.1 S.2.1 dX9_count_28 (by decide) (by decide) (by decide) (by decide) ?_
  refine lv_aload_n S.1 S.2.1 dX9_count_182 rfl (lv_at hl 0 rfl) ?_
  refine s_get S hX G (i := 161) (kd := 9) (a := mx) (v := .int (mx 8)) (C := RX9) (T := TX9) (N := 13) 8 (rfl : sh 161 = 9) e_mx rfl rfl (by decide) rfl (fun _ h => (List.mem_cons_of_mem _ (List.mem_append_right _ h))) (by decide) (List.mem_of_getElem? (i := 5) rfl) (fun _ h => h) dX9_count_183 ?_
  refine lv_i2l (v := (Int32.toInt64 (mx 8))) S.1 S.2.1 dX9_count_186 rfl ?_
  refine s_lret (x := (Int32.toInt64 (mx 8))) S G hr hlk dX9_count_187 ?_
  exact ⟨rfl, rfl, rfl⟩
set_option maxHeartbeats 4000000 in
set_option maxRecDepth 100000 in
theorem k_X9_count_7 (l : Launch) (E : Ev) {I : SI} {L : SL} : CS l yX9_count wsX9_count ({ frames := 1, cells := 0, slots := 0, locals := 25 }) E [.ref (E.2.2.2 161), .int (7 : Int32)] I L (fun vv I' L' => vv = some (.long (-2000000001 : Int64)) ∧ I' = I ∧ L' = L) := by
  refine CS.of (cc := cX9_count) (maxL := 2) (ret := (some .long)) (by decide) rfl (Nat.le_of_ble_eq_true rfl) ?_
  intro pg en sg mg below meth cg ls S hr hlk hX G hl
  have S : CallFix pg mg cg cX9_count 2 sg _ wsX9_count RX9 := S
  have hl : lv_has ls 2 [(0, .ref (E.2.2.2 161)), (1, .int (7 : Int32))] := hl
  refine lv_iload_n S.1 S.2.1 dX9_count_0 rfl (lv_at hl 1 rfl) ?_
  refine lv_i2l (v := (7 : Int64)) S.1 S.2.1 dX9_count_1 (by decide) ?_
  refine lv_ldc2 (v := (10 : Int64)) S.1 S.2.1 S.2.2.2.1 (S.2.2.2.2 _ (List.mem_of_getElem? (i := 1) rfl)) dX9_count_2 ?_
  refine lv_ldc2 (v := (15 : Int64)) S.1 S.2.1 S.2.2.2.1 (S.2.2.2.2 _ (List.mem_of_getElem? (i := 2) rfl)) dX9_count_5 ?_
  refine s_callS (As := [.long (7 : Int64), .long (10 : Int64), .long (15 : Int64)]) (rest := []) S hX G (k_X9_in l E (7 : Int64) (10 : Int64) (15 : Int64)) (va_cwS (bytes := cX9_in) (maxL := 6) (ret := (some .boolean)) 3 S.2.2.2.2 gX9_count_X9_in rfl rfl rfl (by decide +kernel) ⟨Nat.le_of_ble_eq_true rfl, Nat.le_of_ble_eq_true rfl⟩) rfl hl.1 rfl (Nat.le_of_ble_eq_true rfl) ⟨Nat.zero_le _, Nat.zero_le _⟩ dX9_count_8 (fun v I1 L1 H locs hR G => ?_)
  obtain ⟨hv, hI, hL⟩ := hR
  subst hv
  have G : GS E I L sg H locs := G.same hI hL
  refine W.eq (g2 := F0 mg 11 ls [.int (if ¬ (7 : Int64) < (10 : Int64) ∧ ¬ (15 : Int64) < (7 : Int64) then 1 else 0)]) rfl ?_
  refine s_if_eq_b (P := ¬ (7 : Int64) < (10 : Int64) ∧ ¬ (15 : Int64) < (7 : Int64)) (tgt := 27) S dX9_count_11 (by decide) (fun _ => ?_) (fun h => absurd h (by decide))
  refine lv_iload_n S.1 S.2.1 dX9_count_27 rfl (lv_at hl 1 rfl) ?_
  refine lv_tableIn (off := 165) (tgt := 193) S.1 S.2.1 dX9_count_28 (by decide) (by decide) (by decide) (by decide) ?_
  refine lv_ldc2 (v := (-2000000001 : Int64)) S.1 S.2.1 S.2.2.2.1 (S.2.2.2.2 _ (List.mem_of_getElem? (i := 7) rfl)) dX9_count_193 ?_
  refine s_lret (x := (-2000000001 : Int64)) S G hr hlk dX9_count_196 ?_
  exact ⟨rfl, rfl, rfl⟩
set_option maxHeartbeats 4000000 in
set_option maxRecDepth 100000 in
theorem k_X9_count_8 (l : Launch) (E : Ev) {I : SI} {L : SL} : CS l yX9_count wsX9_count ({ frames := 1, cells := 0, slots := 0, locals := 25 }) E [.ref (E.2.2.2 161), .int (8 : Int32)] I L (fun vv I' L' => vv = some (.long (-2000000001 : Int64)) ∧ I' = I ∧ L' = L) := by
  refine CS.of (cc := cX9_count) (maxL := 2) (ret := (some .long)) (by decide) rfl (Nat.le_of_ble_eq_true rfl) ?_
  intro pg en sg mg below meth cg ls S hr hlk hX G hl
  have S : CallFix pg mg cg cX9_count 2 sg _ wsX9_count RX9 := S
  have hl : lv_has ls 2 [(0, .ref (E.2.2.2 161)), (1, .int (8 : Int32))] := hl
  refine lv_iload_n S.1 S.2.1 dX9_count_0 rfl (lv_at hl 1 rfl) ?_
  refine lv_i2l (v := (8 : Int64)) S.1 S.2.1 dX9_count_1 (by decide) ?_
  refine lv_ldc2 (v := (10 : Int64)) S.1 S.2.1 S.2.2.2.1 (S.2.2.2.2 _ (List.mem_of_getElem? (i := 1) rfl)) dX9_count_2 ?_
  refine lv_ldc2 (v := (15 : Int64)) S.1 S.2.1 S.2.2.2.1 (S.2.2.2.2 _ (List.mem_of_getElem? (i := 2) rfl)) dX9_count_5 ?_
  refine s_callS (As := [.long (8 : Int64), .long (10 : Int64), .long (15 : Int64)]) (rest := []) S hX G (k_X9_in l E (8 : Int64) (10 : Int64) (15 : Int64)) (va_cwS (bytes := cX9_in) (maxL := 6) (ret := (some .boolean)) 3 S.2.2.2.2 gX9_count_X9_in rfl rfl rfl (by decide +kernel) ⟨Nat.le_of_ble_eq_true rfl, Nat.le_of_ble_eq_true rfl⟩) rfl hl.1 rfl (Nat.le_of_ble_eq_true rfl) ⟨Nat.zero_le _, Nat.zero_le _⟩ dX9_count_8 (fun v I1 L1 H locs hR G => ?_)
  obtain ⟨hv, hI, hL⟩ := hR
  subst hv
  have G : GS E I L sg H locs := G.same hI hL
  refine W.eq (g2 := F0 mg 11 ls [.int (if ¬ (8 : Int64) < (10 : Int64) ∧ ¬ (15 : Int64) < (8 : Int64) then 1 else 0)]) rfl ?_
  refine s_if_eq_b (P := ¬ (8 : Int64) < (10 : Int64) ∧ ¬ (15 : Int64) < (8 : Int64)) (tgt := 27) S dX9_count_11 (by decide) (fun _ => ?_) (fun h => absurd h (by decide))
  refine lv_iload_n S.1 S.2.1 dX9_count_27 rfl (lv_at hl 1 rfl) ?_
  refine lv_tableIn (off := 165) (tgt := 193) S.1 S.2.1 dX9_count_28 (by decide) (by decide) (by decide) (by decide) ?_
  refine lv_ldc2 (v := (-2000000001 : Int64)) S.1 S.2.1 S.2.2.2.1 (S.2.2.2.2 _ (List.mem_of_getElem? (i := 7) rfl)) dX9_count_193 ?_
  refine s_lret (x := (-2000000001 : Int64)) S G hr hlk dX9_count_196 ?_
  exact ⟨rfl, rfl, rfl⟩
set_option maxHeartbeats 4000000 in
set_option maxRecDepth 100000 in
theorem k_X9_count_9 (l : Launch) (E : Ev) {I : SI} {L : SL} : CS l yX9_count wsX9_count ({ frames := 1, cells := 0, slots := 0, locals := 25 }) E [.ref (E.2.2.2 161), .int (9 : Int32)] I L (fun vv I' L' => vv = some (.long (-2000000001 : Int64)) ∧ I' = I ∧ L' = L) := by
  refine CS.of (cc := cX9_count) (maxL := 2) (ret := (some .long)) (by decide) rfl (Nat.le_of_ble_eq_true rfl) ?_
  intro pg en sg mg below meth cg ls S hr hlk hX G hl
  have S : CallFix pg mg cg cX9_count 2 sg _ wsX9_count RX9 := S
  have hl : lv_has ls 2 [(0, .ref (E.2.2.2 161)), (1, .int (9 : Int32))] := hl
  refine lv_iload_n S.1 S.2.1 dX9_count_0 rfl (lv_at hl 1 rfl) ?_
  refine lv_i2l (v := (9 : Int64)) S.1 S.2.1 dX9_count_1 (by decide) ?_
  refine lv_ldc2 (v := (10 : Int64)) S.1 S.2.1 S.2.2.2.1 (S.2.2.2.2 _ (List.mem_of_getElem? (i := 1) rfl)) dX9_count_2 ?_
  refine lv_ldc2 (v := (15 : Int64)) S.1 S.2.1 S.2.2.2.1 (S.2.2.2.2 _ (List.mem_of_getElem? (i := 2) rfl)) dX9_count_5 ?_
  refine s_callS (As := [.long (9 : Int64), .long (10 : Int64), .long (15 : Int64)]) (rest := []) S hX G (k_X9_in l E (9 : Int64) (10 : Int64) (15 : Int64)) (va_cwS (bytes := cX9_in) (maxL := 6) (ret := (some .boolean)) 3 S.2.2.2.2 gX9_count_X9_in rfl rfl rfl (by decide +kernel) ⟨Nat.le_of_ble_eq_true rfl, Nat.le_of_ble_eq_true rfl⟩) rfl hl.1 rfl (Nat.le_of_ble_eq_true rfl) ⟨Nat.zero_le _, Nat.zero_le _⟩ dX9_count_8 (fun v I1 L1 H locs hR G => ?_)
  obtain ⟨hv, hI, hL⟩ := hR
  subst hv
  have G : GS E I L sg H locs := G.same hI hL
  refine W.eq (g2 := F0 mg 11 ls [.int (if ¬ (9 : Int64) < (10 : Int64) ∧ ¬ (15 : Int64) < (9 : Int64) then 1 else 0)]) rfl ?_
  refine s_if_eq_b (P := ¬ (9 : Int64) < (10 : Int64) ∧ ¬ (15 : Int64) < (9 : Int64)) (tgt := 27) S dX9_count_11 (by decide) (fun _ => ?_) (fun h => absurd h (by decide))
  refine lv_iload_n S.1 S.2.1 dX9_count_27 rfl (lv_at hl 1 rfl) ?_
  refine lv_tableIn (off := 165) (tgt := 193) S.1 S.2.1 dX9_count_28 (by decide) (by decide) (by decide) (by decide) ?_
  refine lv_ldc2 (v := (-2000000001 : Int64)) S.1 S.2.1 S.2.2.2.1 (S.2.2.2.2 _ (List.mem_of_getElem? (i := 7) rfl)) dX9_count_193 ?_
  refine s_lret (x := (-2000000001 : Int64)) S G hr hlk dX9_count_196 ?_
  exact ⟨rfl, rfl, rfl⟩
set_option maxHeartbeats 4000000 in
set_option maxRecDepth 100000 in
theorem k_X9_count_10 (l : Launch) (E : Ev) {I : SI} {L : SL} (d : Nat → Int32) (e_d : I (162) = d) : CS l yX9_count wsX9_count ({ frames := 1, cells := 0, slots := 0, locals := 25 }) E [.ref (E.2.2.2 161), .int (10 : Int32)] I L (fun vv I' L' => vv = some (.long (Int32.toInt64 (d 1))) ∧ I' = I ∧ L' = L) := by
  refine CS.of (cc := cX9_count) (maxL := 2) (ret := (some .long)) (by decide) rfl (Nat.le_of_ble_eq_true rfl) ?_
  intro pg en sg mg below meth cg ls S hr hlk hX G hl
  have S : CallFix pg mg cg cX9_count 2 sg _ wsX9_count RX9 := S
  have hl : lv_has ls 2 [(0, .ref (E.2.2.2 161)), (1, .int (10 : Int32))] := hl
  refine lv_iload_n S.1 S.2.1 dX9_count_0 rfl (lv_at hl 1 rfl) ?_
  refine lv_i2l (v := (10 : Int64)) S.1 S.2.1 dX9_count_1 (by decide) ?_
  refine lv_ldc2 (v := (10 : Int64)) S.1 S.2.1 S.2.2.2.1 (S.2.2.2.2 _ (List.mem_of_getElem? (i := 1) rfl)) dX9_count_2 ?_
  refine lv_ldc2 (v := (15 : Int64)) S.1 S.2.1 S.2.2.2.1 (S.2.2.2.2 _ (List.mem_of_getElem? (i := 2) rfl)) dX9_count_5 ?_
  refine s_callS (As := [.long (10 : Int64), .long (10 : Int64), .long (15 : Int64)]) (rest := []) S hX G (k_X9_in l E (10 : Int64) (10 : Int64) (15 : Int64)) (va_cwS (bytes := cX9_in) (maxL := 6) (ret := (some .boolean)) 3 S.2.2.2.2 gX9_count_X9_in rfl rfl rfl (by decide +kernel) ⟨Nat.le_of_ble_eq_true rfl, Nat.le_of_ble_eq_true rfl⟩) rfl hl.1 rfl (Nat.le_of_ble_eq_true rfl) ⟨Nat.zero_le _, Nat.zero_le _⟩ dX9_count_8 (fun v I1 L1 H locs hR G => ?_)
  obtain ⟨hv, hI, hL⟩ := hR
  subst hv
  have G : GS E I L sg H locs := G.same hI hL
  refine W.eq (g2 := F0 mg 11 ls [.int (if ¬ (10 : Int64) < (10 : Int64) ∧ ¬ (15 : Int64) < (10 : Int64) then 1 else 0)]) rfl ?_
  refine s_if_eq_b (P := ¬ (10 : Int64) < (10 : Int64) ∧ ¬ (15 : Int64) < (10 : Int64)) (tgt := 27) S dX9_count_11 (by decide) (fun h => absurd (by decide) h) (fun _ => ?_)
  refine lv_aload_n S.1 S.2.1 dX9_count_14 rfl (lv_at hl 0 rfl) ?_
  refine s_get S hX G (i := 161) (kd := 9) (a := (I 161)) (v := .ref (E.2.2.2 162)) (C := RX9) (T := TX9) (N := 13) 0 (rfl : sh 161 = 9) rfl rfl rfl (by decide) rfl (fun _ h => (List.mem_cons_of_mem _ (List.mem_append_right _ h))) (by decide) (List.mem_of_getElem? (i := 3) rfl) (fun _ h => h) dX9_count_15 ?_
  refine lv_iconst (v := (1 : Int32)) S.1 S.2.1 dX9_count_18 (by decide) ?_
  refine lv_iload_n S.1 S.2.1 dX9_count_19 rfl (lv_at hl 1 rfl) ?_
  refine s_iadd (v := (11 : Int32)) S dX9_count_20 (by decide) ?_
  refine lv_bipush (v := (10 : Int32)) S.1 S.2.1 dX9_count_21 (by decide) ?_
  refine s_isub (v := (1 : Int32)) S dX9_count_23 (by decide) ?_
  refine s_iald S hX G (i := 162) (kd := 284) (n := 270) (a := d) (x := (d 1)) (rfl : sh 162 = 284) e_d rfl (by decide) (by unfold vp_in; decide) (congrArg d (by decide)) dX9_count_24 ?_
  refine lv_i2l (v := (Int32.toInt64 (d 1))) S.1 S.2.1 dX9_count_25 rfl ?_
  refine s_lret (x := (Int32.toInt64 (d 1))) S G hr hlk dX9_count_26 ?_
  exact ⟨rfl, rfl, rfl⟩
set_option maxHeartbeats 4000000 in
set_option maxRecDepth 100000 in
theorem k_X9_count_11 (l : Launch) (E : Ev) {I : SI} {L : SL} (d : Nat → Int32) (e_d : I (162) = d) : CS l yX9_count wsX9_count ({ frames := 1, cells := 0, slots := 0, locals := 25 }) E [.ref (E.2.2.2 161), .int (11 : Int32)] I L (fun vv I' L' => vv = some (.long (Int32.toInt64 (d 2))) ∧ I' = I ∧ L' = L) := by
  refine CS.of (cc := cX9_count) (maxL := 2) (ret := (some .long)) (by decide) rfl (Nat.le_of_ble_eq_true rfl) ?_
  intro pg en sg mg below meth cg ls S hr hlk hX G hl
  have S : CallFix pg mg cg cX9_count 2 sg _ wsX9_count RX9 := S
  have hl : lv_has ls 2 [(0, .ref (E.2.2.2 161)), (1, .int (11 : Int32))] := hl
  refine lv_iload_n S.1 S.2.1 dX9_count_0 rfl (lv_at hl 1 rfl) ?_
  refine lv_i2l (v := (11 : Int64)) S.1 S.2.1 dX9_count_1 (by decide) ?_
  refine lv_ldc2 (v := (10 : Int64)) S.1 S.2.1 S.2.2.2.1 (S.2.2.2.2 _ (List.mem_of_getElem? (i := 1) rfl)) dX9_count_2 ?_
  refine lv_ldc2 (v := (15 : Int64)) S.1 S.2.1 S.2.2.2.1 (S.2.2.2.2 _ (List.mem_of_getElem? (i := 2) rfl)) dX9_count_5 ?_
  refine s_callS (As := [.long (11 : Int64), .long (10 : Int64), .long (15 : Int64)]) (rest := []) S hX G (k_X9_in l E (11 : Int64) (10 : Int64) (15 : Int64)) (va_cwS (bytes := cX9_in) (maxL := 6) (ret := (some .boolean)) 3 S.2.2.2.2 gX9_count_X9_in rfl rfl rfl (by decide +kernel) ⟨Nat.le_of_ble_eq_true rfl, Nat.le_of_ble_eq_true rfl⟩) rfl hl.1 rfl (Nat.le_of_ble_eq_true rfl) ⟨Nat.zero_le _, Nat.zero_le _⟩ dX9_count_8 (fun v I1 L1 H locs hR G => ?_)
  obtain ⟨hv, hI, hL⟩ := hR
  subst hv
  have G : GS E I L sg H locs := G.same hI hL
  refine W.eq (g2 := F0 mg 11 ls [.int (if ¬ (11 : Int64) < (10 : Int64) ∧ ¬ (15 : Int64) < (11 : Int64) then 1 else 0)]) rfl ?_
  refine s_if_eq_b (P := ¬ (11 : Int64) < (10 : Int64) ∧ ¬ (15 : Int64) < (11 : Int64)) (tgt := 27) S dX9_count_11 (by decide) (fun h => absurd (by decide) h) (fun _ => ?_)
  refine lv_aload_n S.1 S.2.1 dX9_count_14 rfl (lv_at hl 0 rfl) ?_
  refine s_get S hX G (i := 161) (kd := 9) (a := (I 161)) (v := .ref (E.2.2.2 162)) (C := RX9) (T := TX9) (N := 13) 0 (rfl : sh 161 = 9) rfl rfl rfl (by decide) rfl (fun _ h => (List.mem_cons_of_mem _ (List.mem_append_right _ h))) (by decide) (List.mem_of_getElem? (i := 3) rfl) (fun _ h => h) dX9_count_15 ?_
  refine lv_iconst (v := (1 : Int32)) S.1 S.2.1 dX9_count_18 (by decide) ?_
  refine lv_iload_n S.1 S.2.1 dX9_count_19 rfl (lv_at hl 1 rfl) ?_
  refine s_iadd (v := (12 : Int32)) S dX9_count_20 (by decide) ?_
  refine lv_bipush (v := (10 : Int32)) S.1 S.2.1 dX9_count_21 (by decide) ?_
  refine s_isub (v := (2 : Int32)) S dX9_count_23 (by decide) ?_
  refine s_iald S hX G (i := 162) (kd := 284) (n := 270) (a := d) (x := (d 2)) (rfl : sh 162 = 284) e_d rfl (by decide) (by unfold vp_in; decide) (congrArg d (by decide)) dX9_count_24 ?_
  refine lv_i2l (v := (Int32.toInt64 (d 2))) S.1 S.2.1 dX9_count_25 rfl ?_
  refine s_lret (x := (Int32.toInt64 (d 2))) S G hr hlk dX9_count_26 ?_
  exact ⟨rfl, rfl, rfl⟩
set_option maxHeartbeats 4000000 in
set_option maxRecDepth 100000 in
theorem k_X9_count_12 (l : Launch) (E : Ev) {I : SI} {L : SL} (d : Nat → Int32) (e_d : I (162) = d) : CS l yX9_count wsX9_count ({ frames := 1, cells := 0, slots := 0, locals := 25 }) E [.ref (E.2.2.2 161), .int (12 : Int32)] I L (fun vv I' L' => vv = some (.long (Int32.toInt64 (d 3))) ∧ I' = I ∧ L' = L) := by
  refine CS.of (cc := cX9_count) (maxL := 2) (ret := (some .long)) (by decide) rfl (Nat.le_of_ble_eq_true rfl) ?_
  intro pg en sg mg below meth cg ls S hr hlk hX G hl
  have S : CallFix pg mg cg cX9_count 2 sg _ wsX9_count RX9 := S
  have hl : lv_has ls 2 [(0, .ref (E.2.2.2 161)), (1, .int (12 : Int32))] := hl
  refine lv_iload_n S.1 S.2.1 dX9_count_0 rfl (lv_at hl 1 rfl) ?_
  refine lv_i2l (v := (12 : Int64)) S.1 S.2.1 dX9_count_1 (by decide) ?_
  refine lv_ldc2 (v := (10 : Int64)) S.1 S.2.1 S.2.2.2.1 (S.2.2.2.2 _ (List.mem_of_getElem? (i := 1) rfl)) dX9_count_2 ?_
  refine lv_ldc2 (v := (15 : Int64)) S.1 S.2.1 S.2.2.2.1 (S.2.2.2.2 _ (List.mem_of_getElem? (i := 2) rfl)) dX9_count_5 ?_
  refine s_callS (As := [.long (12 : Int64), .long (10 : Int64), .long (15 : Int64)]) (rest := []) S hX G (k_X9_in l E (12 : Int64) (10 : Int64) (15 : Int64)) (va_cwS (bytes := cX9_in) (maxL := 6) (ret := (some .boolean)) 3 S.2.2.2.2 gX9_count_X9_in rfl rfl rfl (by decide +kernel) ⟨Nat.le_of_ble_eq_true rfl, Nat.le_of_ble_eq_true rfl⟩) rfl hl.1 rfl (Nat.le_of_ble_eq_true rfl) ⟨Nat.zero_le _, Nat.zero_le _⟩ dX9_count_8 (fun v I1 L1 H locs hR G => ?_)
  obtain ⟨hv, hI, hL⟩ := hR
  subst hv
  have G : GS E I L sg H locs := G.same hI hL
  refine W.eq (g2 := F0 mg 11 ls [.int (if ¬ (12 : Int64) < (10 : Int64) ∧ ¬ (15 : Int64) < (12 : Int64) then 1 else 0)]) rfl ?_
  refine s_if_eq_b (P := ¬ (12 : Int64) < (10 : Int64) ∧ ¬ (15 : Int64) < (12 : Int64)) (tgt := 27) S dX9_count_11 (by decide) (fun h => absurd (by decide) h) (fun _ => ?_)
  refine lv_aload_n S.1 S.2.1 dX9_count_14 rfl (lv_at hl 0 rfl) ?_
  refine s_get S hX G (i := 161) (kd := 9) (a := (I 161)) (v := .ref (E.2.2.2 162)) (C := RX9) (T := TX9) (N := 13) 0 (rfl : sh 161 = 9) rfl rfl rfl (by decide) rfl (fun _ h => (List.mem_cons_of_mem _ (List.mem_append_right _ h))) (by decide) (List.mem_of_getElem? (i := 3) rfl) (fun _ h => h) dX9_count_15 ?_
  refine lv_iconst (v := (1 : Int32)) S.1 S.2.1 dX9_count_18 (by decide) ?_
  refine lv_iload_n S.1 S.2.1 dX9_count_19 rfl (lv_at hl 1 rfl) ?_
  refine s_iadd (v := (13 : Int32)) S dX9_count_20 (by decide) ?_
  refine lv_bipush (v := (10 : Int32)) S.1 S.2.1 dX9_count_21 (by decide) ?_
  refine s_isub (v := (3 : Int32)) S dX9_count_23 (by decide) ?_
  refine s_iald S hX G (i := 162) (kd := 284) (n := 270) (a := d) (x := (d 3)) (rfl : sh 162 = 284) e_d rfl (by decide) (by unfold vp_in; decide) (congrArg d (by decide)) dX9_count_24 ?_
  refine lv_i2l (v := (Int32.toInt64 (d 3))) S.1 S.2.1 dX9_count_25 rfl ?_
  refine s_lret (x := (Int32.toInt64 (d 3))) S G hr hlk dX9_count_26 ?_
  exact ⟨rfl, rfl, rfl⟩
set_option maxHeartbeats 4000000 in
set_option maxRecDepth 100000 in
theorem k_X9_count_13 (l : Launch) (E : Ev) {I : SI} {L : SL} (d : Nat → Int32) (e_d : I (162) = d) : CS l yX9_count wsX9_count ({ frames := 1, cells := 0, slots := 0, locals := 25 }) E [.ref (E.2.2.2 161), .int (13 : Int32)] I L (fun vv I' L' => vv = some (.long (Int32.toInt64 (d 4))) ∧ I' = I ∧ L' = L) := by
  refine CS.of (cc := cX9_count) (maxL := 2) (ret := (some .long)) (by decide) rfl (Nat.le_of_ble_eq_true rfl) ?_
  intro pg en sg mg below meth cg ls S hr hlk hX G hl
  have S : CallFix pg mg cg cX9_count 2 sg _ wsX9_count RX9 := S
  have hl : lv_has ls 2 [(0, .ref (E.2.2.2 161)), (1, .int (13 : Int32))] := hl
  refine lv_iload_n S.1 S.2.1 dX9_count_0 rfl (lv_at hl 1 rfl) ?_
  refine lv_i2l (v := (13 : Int64)) S.1 S.2.1 dX9_count_1 (by decide) ?_
  refine lv_ldc2 (v := (10 : Int64)) S.1 S.2.1 S.2.2.2.1 (S.2.2.2.2 _ (List.mem_of_getElem? (i := 1) rfl)) dX9_count_2 ?_
  refine lv_ldc2 (v := (15 : Int64)) S.1 S.2.1 S.2.2.2.1 (S.2.2.2.2 _ (List.mem_of_getElem? (i := 2) rfl)) dX9_count_5 ?_
  refine s_callS (As := [.long (13 : Int64), .long (10 : Int64), .long (15 : Int64)]) (rest := []) S hX G (k_X9_in l E (13 : Int64) (10 : Int64) (15 : Int64)) (va_cwS (bytes := cX9_in) (maxL := 6) (ret := (some .boolean)) 3 S.2.2.2.2 gX9_count_X9_in rfl rfl rfl (by decide +kernel) ⟨Nat.le_of_ble_eq_true rfl, Nat.le_of_ble_eq_true rfl⟩) rfl hl.1 rfl (Nat.le_of_ble_eq_true rfl) ⟨Nat.zero_le _, Nat.zero_le _⟩ dX9_count_8 (fun v I1 L1 H locs hR G => ?_)
  obtain ⟨hv, hI, hL⟩ := hR
  subst hv
  have G : GS E I L sg H locs := G.same hI hL
  refine W.eq (g2 := F0 mg 11 ls [.int (if ¬ (13 : Int64) < (10 : Int64) ∧ ¬ (15 : Int64) < (13 : Int64) then 1 else 0)]) rfl ?_
  refine s_if_eq_b (P := ¬ (13 : Int64) < (10 : Int64) ∧ ¬ (15 : Int64) < (13 : Int64)) (tgt := 27) S dX9_count_11 (by decide) (fun h => absurd (by decide) h) (fun _ => ?_)
  refine lv_aload_n S.1 S.2.1 dX9_count_14 rfl (lv_at hl 0 rfl) ?_
  refine s_get S hX G (i := 161) (kd := 9) (a := (I 161)) (v := .ref (E.2.2.2 162)) (C := RX9) (T := TX9) (N := 13) 0 (rfl : sh 161 = 9) rfl rfl rfl (by decide) rfl (fun _ h => (List.mem_cons_of_mem _ (List.mem_append_right _ h))) (by decide) (List.mem_of_getElem? (i := 3) rfl) (fun _ h => h) dX9_count_15 ?_
  refine lv_iconst (v := (1 : Int32)) S.1 S.2.1 dX9_count_18 (by decide) ?_
  refine lv_iload_n S.1 S.2.1 dX9_count_19 rfl (lv_at hl 1 rfl) ?_
  refine s_iadd (v := (14 : Int32)) S dX9_count_20 (by decide) ?_
  refine lv_bipush (v := (10 : Int32)) S.1 S.2.1 dX9_count_21 (by decide) ?_
  refine s_isub (v := (4 : Int32)) S dX9_count_23 (by decide) ?_
  refine s_iald S hX G (i := 162) (kd := 284) (n := 270) (a := d) (x := (d 4)) (rfl : sh 162 = 284) e_d rfl (by decide) (by unfold vp_in; decide) (congrArg d (by decide)) dX9_count_24 ?_
  refine lv_i2l (v := (Int32.toInt64 (d 4))) S.1 S.2.1 dX9_count_25 rfl ?_
  refine s_lret (x := (Int32.toInt64 (d 4))) S G hr hlk dX9_count_26 ?_
  exact ⟨rfl, rfl, rfl⟩
set_option maxHeartbeats 4000000 in
set_option maxRecDepth 100000 in
theorem k_X9_count_14 (l : Launch) (E : Ev) {I : SI} {L : SL} (d : Nat → Int32) (e_d : I (162) = d) : CS l yX9_count wsX9_count ({ frames := 1, cells := 0, slots := 0, locals := 25 }) E [.ref (E.2.2.2 161), .int (14 : Int32)] I L (fun vv I' L' => vv = some (.long (Int32.toInt64 (d 5))) ∧ I' = I ∧ L' = L) := by
  refine CS.of (cc := cX9_count) (maxL := 2) (ret := (some .long)) (by decide) rfl (Nat.le_of_ble_eq_true rfl) ?_
  intro pg en sg mg below meth cg ls S hr hlk hX G hl
  have S : CallFix pg mg cg cX9_count 2 sg _ wsX9_count RX9 := S
  have hl : lv_has ls 2 [(0, .ref (E.2.2.2 161)), (1, .int (14 : Int32))] := hl
  refine lv_iload_n S.1 S.2.1 dX9_count_0 rfl (lv_at hl 1 rfl) ?_
  refine lv_i2l (v := (14 : Int64)) S.1 S.2.1 dX9_count_1 (by decide) ?_
  refine lv_ldc2 (v := (10 : Int64)) S.1 S.2.1 S.2.2.2.1 (S.2.2.2.2 _ (List.mem_of_getElem? (i := 1) rfl)) dX9_count_2 ?_
  refine lv_ldc2 (v := (15 : Int64)) S.1 S.2.1 S.2.2.2.1 (S.2.2.2.2 _ (List.mem_of_getElem? (i := 2) rfl)) dX9_count_5 ?_
  refine s_callS (As := [.long (14 : Int64), .long (10 : Int64), .long (15 : Int64)]) (rest := []) S hX G (k_X9_in l E (14 : Int64) (10 : Int64) (15 : Int64)) (va_cwS (bytes := cX9_in) (maxL := 6) (ret := (some .boolean)) 3 S.2.2.2.2 gX9_count_X9_in rfl rfl rfl (by decide +kernel) ⟨Nat.le_of_ble_eq_true rfl, Nat.le_of_ble_eq_true rfl⟩) rfl hl.1 rfl (Nat.le_of_ble_eq_true rfl) ⟨Nat.zero_le _, Nat.zero_le _⟩ dX9_count_8 (fun v I1 L1 H locs hR G => ?_)
  obtain ⟨hv, hI, hL⟩ := hR
  subst hv
  have G : GS E I L sg H locs := G.same hI hL
  refine W.eq (g2 := F0 mg 11 ls [.int (if ¬ (14 : Int64) < (10 : Int64) ∧ ¬ (15 : Int64) < (14 : Int64) then 1 else 0)]) rfl ?_
  refine s_if_eq_b (P := ¬ (14 : Int64) < (10 : Int64) ∧ ¬ (15 : Int64) < (14 : Int64)) (tgt := 27) S dX9_count_11 (by decide) (fun h => absurd (by decide) h) (fun _ => ?_)
  refine lv_aload_n S.1 S.2.1 dX9_count_14 rfl (lv_at hl 0 rfl) ?_
  refine s_get S hX G (i := 161) (kd := 9) (a := (I 161)) (v := .ref (E.2.2.2 162)) (C := RX9) (T := TX9) (N := 13) 0 (rfl : sh 161 = 9) rfl rfl rfl (by decide) rfl (fun _ h => (List.mem_cons_of_mem _ (List.mem_append_right _ h))) (by decide) (List.mem_of_getElem? (i := 3) rfl) (fun _ h => h) dX9_count_15 ?_
  refine lv_iconst (v := (1 : Int32)) S.1 S.2.1 dX9_count_18 (by decide) ?_
  refine lv_iload_n S.1 S.2.1 dX9_count_19 rfl (lv_at hl 1 rfl) ?_
  refine s_iadd (v := (15 : Int32)) S dX9_count_20 (by decide) ?_
  refine lv_bipush (v := (10 : Int32)) S.1 S.2.1 dX9_count_21 (by decide) ?_
  refine s_isub (v := (5 : Int32)) S dX9_count_23 (by decide) ?_
  refine s_iald S hX G (i := 162) (kd := 284) (n := 270) (a := d) (x := (d 5)) (rfl : sh 162 = 284) e_d rfl (by decide) (by unfold vp_in; decide) (congrArg d (by decide)) dX9_count_24 ?_
  refine lv_i2l (v := (Int32.toInt64 (d 5))) S.1 S.2.1 dX9_count_25 rfl ?_
  refine s_lret (x := (Int32.toInt64 (d 5))) S G hr hlk dX9_count_26 ?_
  exact ⟨rfl, rfl, rfl⟩
set_option maxHeartbeats 4000000 in
set_option maxRecDepth 100000 in
theorem k_X9_count_15 (l : Launch) (E : Ev) {I : SI} {L : SL} (d : Nat → Int32) (e_d : I (162) = d) : CS l yX9_count wsX9_count ({ frames := 1, cells := 0, slots := 0, locals := 25 }) E [.ref (E.2.2.2 161), .int (15 : Int32)] I L (fun vv I' L' => vv = some (.long (Int32.toInt64 (d 6))) ∧ I' = I ∧ L' = L) := by
  refine CS.of (cc := cX9_count) (maxL := 2) (ret := (some .long)) (by decide) rfl (Nat.le_of_ble_eq_true rfl) ?_
  intro pg en sg mg below meth cg ls S hr hlk hX G hl
  have S : CallFix pg mg cg cX9_count 2 sg _ wsX9_count RX9 := S
  have hl : lv_has ls 2 [(0, .ref (E.2.2.2 161)), (1, .int (15 : Int32))] := hl
  refine lv_iload_n S.1 S.2.1 dX9_count_0 rfl (lv_at hl 1 rfl) ?_
  refine lv_i2l (v := (15 : Int64)) S.1 S.2.1 dX9_count_1 (by decide) ?_
  refine lv_ldc2 (v := (10 : Int64)) S.1 S.2.1 S.2.2.2.1 (S.2.2.2.2 _ (List.mem_of_getElem? (i := 1) rfl)) dX9_count_2 ?_
  refine lv_ldc2 (v := (15 : Int64)) S.1 S.2.1 S.2.2.2.1 (S.2.2.2.2 _ (List.mem_of_getElem? (i := 2) rfl)) dX9_count_5 ?_
  refine s_callS (As := [.long (15 : Int64), .long (10 : Int64), .long (15 : Int64)]) (rest := []) S hX G (k_X9_in l E (15 : Int64) (10 : Int64) (15 : Int64)) (va_cwS (bytes := cX9_in) (maxL := 6) (ret := (some .boolean)) 3 S.2.2.2.2 gX9_count_X9_in rfl rfl rfl (by decide +kernel) ⟨Nat.le_of_ble_eq_true rfl, Nat.le_of_ble_eq_true rfl⟩) rfl hl.1 rfl (Nat.le_of_ble_eq_true rfl) ⟨Nat.zero_le _, Nat.zero_le _⟩ dX9_count_8 (fun v I1 L1 H locs hR G => ?_)
  obtain ⟨hv, hI, hL⟩ := hR
  subst hv
  have G : GS E I L sg H locs := G.same hI hL
  refine W.eq (g2 := F0 mg 11 ls [.int (if ¬ (15 : Int64) < (10 : Int64) ∧ ¬ (15 : Int64) < (15 : Int64) then 1 else 0)]) rfl ?_
  refine s_if_eq_b (P := ¬ (15 : Int64) < (10 : Int64) ∧ ¬ (15 : Int64) < (15 : Int64)) (tgt := 27) S dX9_count_11 (by decide) (fun h => absurd (by decide) h) (fun _ => ?_)
  refine lv_aload_n S.1 S.2.1 dX9_count_14 rfl (lv_at hl 0 rfl) ?_
  refine s_get S hX G (i := 161) (kd := 9) (a := (I 161)) (v := .ref (E.2.2.2 162)) (C := RX9) (T := TX9) (N := 13) 0 (rfl : sh 161 = 9) rfl rfl rfl (by decide) rfl (fun _ h => (List.mem_cons_of_mem _ (List.mem_append_right _ h))) (by decide) (List.mem_of_getElem? (i := 3) rfl) (fun _ h => h) dX9_count_15 ?_
  refine lv_iconst (v := (1 : Int32)) S.1 S.2.1 dX9_count_18 (by decide) ?_
  refine lv_iload_n S.1 S.2.1 dX9_count_19 rfl (lv_at hl 1 rfl) ?_
  refine s_iadd (v := (16 : Int32)) S dX9_count_20 (by decide) ?_
  refine lv_bipush (v := (10 : Int32)) S.1 S.2.1 dX9_count_21 (by decide) ?_
  refine s_isub (v := (6 : Int32)) S dX9_count_23 (by decide) ?_
  refine s_iald S hX G (i := 162) (kd := 284) (n := 270) (a := d) (x := (d 6)) (rfl : sh 162 = 284) e_d rfl (by decide) (by unfold vp_in; decide) (congrArg d (by decide)) dX9_count_24 ?_
  refine lv_i2l (v := (Int32.toInt64 (d 6))) S.1 S.2.1 dX9_count_25 rfl ?_
  refine s_lret (x := (Int32.toInt64 (d 6))) S G hr hlk dX9_count_26 ?_
  exact ⟨rfl, rfl, rfl⟩
set_option maxHeartbeats 4000000 in
set_option maxRecDepth 100000 in
theorem k_X9_count_16 (l : Launch) (E : Ev) {I : SI} {L : SL} : CS l yX9_count wsX9_count ({ frames := 1, cells := 0, slots := 0, locals := 25 }) E [.ref (E.2.2.2 161), .int (16 : Int32)] I L (fun vv I' L' => vv = some (.long (-2000000001 : Int64)) ∧ I' = I ∧ L' = L) := by
  refine CS.of (cc := cX9_count) (maxL := 2) (ret := (some .long)) (by decide) rfl (Nat.le_of_ble_eq_true rfl) ?_
  intro pg en sg mg below meth cg ls S hr hlk hX G hl
  have S : CallFix pg mg cg cX9_count 2 sg _ wsX9_count RX9 := S
  have hl : lv_has ls 2 [(0, .ref (E.2.2.2 161)), (1, .int (16 : Int32))] := hl
  refine lv_iload_n S.1 S.2.1 dX9_count_0 rfl (lv_at hl 1 rfl) ?_
  refine lv_i2l (v := (16 : Int64)) S.1 S.2.1 dX9_count_1 (by decide) ?_
  refine lv_ldc2 (v := (10 : Int64)) S.1 S.2.1 S.2.2.2.1 (S.2.2.2.2 _ (List.mem_of_getElem? (i := 1) rfl)) dX9_count_2 ?_
  refine lv_ldc2 (v := (15 : Int64)) S.1 S.2.1 S.2.2.2.1 (S.2.2.2.2 _ (List.mem_of_getElem? (i := 2) rfl)) dX9_count_5 ?_
  refine s_callS (As := [.long (16 : Int64), .long (10 : Int64), .long (15 : Int64)]) (rest := []) S hX G (k_X9_in l E (16 : Int64) (10 : Int64) (15 : Int64)) (va_cwS (bytes := cX9_in) (maxL := 6) (ret := (some .boolean)) 3 S.2.2.2.2 gX9_count_X9_in rfl rfl rfl (by decide +kernel) ⟨Nat.le_of_ble_eq_true rfl, Nat.le_of_ble_eq_true rfl⟩) rfl hl.1 rfl (Nat.le_of_ble_eq_true rfl) ⟨Nat.zero_le _, Nat.zero_le _⟩ dX9_count_8 (fun v I1 L1 H locs hR G => ?_)
  obtain ⟨hv, hI, hL⟩ := hR
  subst hv
  have G : GS E I L sg H locs := G.same hI hL
  refine W.eq (g2 := F0 mg 11 ls [.int (if ¬ (16 : Int64) < (10 : Int64) ∧ ¬ (15 : Int64) < (16 : Int64) then 1 else 0)]) rfl ?_
  refine s_if_eq_b (P := ¬ (16 : Int64) < (10 : Int64) ∧ ¬ (15 : Int64) < (16 : Int64)) (tgt := 27) S dX9_count_11 (by decide) (fun _ => ?_) (fun h => absurd h (by decide))
  refine lv_iload_n S.1 S.2.1 dX9_count_27 rfl (lv_at hl 1 rfl) ?_
  refine lv_tableIn (off := 165) (tgt := 193) S.1 S.2.1 dX9_count_28 (by decide) (by decide) (by decide) (by decide) ?_
  refine lv_ldc2 (v := (-2000000001 : Int64)) S.1 S.2.1 S.2.2.2.1 (S.2.2.2.2 _ (List.mem_of_getElem? (i := 7) rfl)) dX9_count_193 ?_
  refine s_lret (x := (-2000000001 : Int64)) S G hr hlk dX9_count_196 ?_
  exact ⟨rfl, rfl, rfl⟩
set_option maxHeartbeats 4000000 in
set_option maxRecDepth 100000 in
theorem k_X9_count_17 (l : Launch) (E : Ev) {I : SI} {L : SL} : CS l yX9_count wsX9_count ({ frames := 1, cells := 0, slots := 0, locals := 25 }) E [.ref (E.2.2.2 161), .int (17 : Int32)] I L (fun vv I' L' => vv = some (.long (-2000000001 : Int64)) ∧ I' = I ∧ L' = L) := by
  refine CS.of (cc := cX9_count) (maxL := 2) (ret := (some .long)) (by decide) rfl (Nat.le_of_ble_eq_true rfl) ?_
  intro pg en sg mg below meth cg ls S hr hlk hX G hl
  have S : CallFix pg mg cg cX9_count 2 sg _ wsX9_count RX9 := S
  have hl : lv_has ls 2 [(0, .ref (E.2.2.2 161)), (1, .int (17 : Int32))] := hl
  refine lv_iload_n S.1 S.2.1 dX9_count_0 rfl (lv_at hl 1 rfl) ?_
  refine lv_i2l (v := (17 : Int64)) S.1 S.2.1 dX9_count_1 (by decide) ?_
  refine lv_ldc2 (v := (10 : Int64)) S.1 S.2.1 S.2.2.2.1 (S.2.2.2.2 _ (List.mem_of_getElem? (i := 1) rfl)) dX9_count_2 ?_
  refine lv_ldc2 (v := (15 : Int64)) S.1 S.2.1 S.2.2.2.1 (S.2.2.2.2 _ (List.mem_of_getElem? (i := 2) rfl)) dX9_count_5 ?_
  refine s_callS (As := [.long (17 : Int64), .long (10 : Int64), .long (15 : Int64)]) (rest := []) S hX G (k_X9_in l E (17 : Int64) (10 : Int64) (15 : Int64)) (va_cwS (bytes := cX9_in) (maxL := 6) (ret := (some .boolean)) 3 S.2.2.2.2 gX9_count_X9_in rfl rfl rfl (by decide +kernel) ⟨Nat.le_of_ble_eq_true rfl, Nat.le_of_ble_eq_true rfl⟩) rfl hl.1 rfl (Nat.le_of_ble_eq_true rfl) ⟨Nat.zero_le _, Nat.zero_le _⟩ dX9_count_8 (fun v I1 L1 H locs hR G => ?_)
  obtain ⟨hv, hI, hL⟩ := hR
  subst hv
  have G : GS E I L sg H locs := G.same hI hL
  refine W.eq (g2 := F0 mg 11 ls [.int (if ¬ (17 : Int64) < (10 : Int64) ∧ ¬ (15 : Int64) < (17 : Int64) then 1 else 0)]) rfl ?_
  refine s_if_eq_b (P := ¬ (17 : Int64) < (10 : Int64) ∧ ¬ (15 : Int64) < (17 : Int64)) (tgt := 27) S dX9_count_11 (by decide) (fun _ => ?_) (fun h => absurd h (by decide))
  refine lv_iload_n S.1 S.2.1 dX9_count_27 rfl (lv_at hl 1 rfl) ?_
  refine lv_tableIn (off := 165) (tgt := 193) S.1 S.2.1 dX9_count_28 (by decide) (by decide) (by decide) (by decide) ?_
  refine lv_ldc2 (v := (-2000000001 : Int64)) S.1 S.2.1 S.2.2.2.1 (S.2.2.2.2 _ (List.mem_of_getElem? (i := 7) rfl)) dX9_count_193 ?_
  refine s_lret (x := (-2000000001 : Int64)) S G hr hlk dX9_count_196 ?_
  exact ⟨rfl, rfl, rfl⟩
set_option maxHeartbeats 4000000 in
set_option maxRecDepth 100000 in
theorem k_X9_count_18 (l : Launch) (E : Ev) {I : SI} {L : SL} : CS l yX9_count wsX9_count ({ frames := 1, cells := 0, slots := 0, locals := 25 }) E [.ref (E.2.2.2 161), .int (18 : Int32)] I L (fun vv I' L' => vv = some (.long (-2000000001 : Int64)) ∧ I' = I ∧ L' = L) := by
  refine CS.of (cc := cX9_count) (maxL := 2) (ret := (some .long)) (by decide) rfl (Nat.le_of_ble_eq_true rfl) ?_
  intro pg en sg mg below meth cg ls S hr hlk hX G hl
  have S : CallFix pg mg cg cX9_count 2 sg _ wsX9_count RX9 := S
  have hl : lv_has ls 2 [(0, .ref (E.2.2.2 161)), (1, .int (18 : Int32))] := hl
  refine lv_iload_n S.1 S.2.1 dX9_count_0 rfl (lv_at hl 1 rfl) ?_
  refine lv_i2l (v := (18 : Int64)) S.1 S.2.1 dX9_count_1 (by decide) ?_
  refine lv_ldc2 (v := (10 : Int64)) S.1 S.2.1 S.2.2.2.1 (S.2.2.2.2 _ (List.mem_of_getElem? (i := 1) rfl)) dX9_count_2 ?_
  refine lv_ldc2 (v := (15 : Int64)) S.1 S.2.1 S.2.2.2.1 (S.2.2.2.2 _ (List.mem_of_getElem? (i := 2) rfl)) dX9_count_5 ?_
  refine s_callS (As := [.long (18 : Int64), .long (10 : Int64), .long (15 : Int64)]) (rest := []) S hX G (k_X9_in l E (18 : Int64) (10 : Int64) (15 : Int64)) (va_cwS (bytes := cX9_in) (maxL := 6) (ret := (some .boolean)) 3 S.2.2.2.2 gX9_count_X9_in rfl rfl rfl (by decide +kernel) ⟨Nat.le_of_ble_eq_true rfl, Nat.le_of_ble_eq_true rfl⟩) rfl hl.1 rfl (Nat.le_of_ble_eq_true rfl) ⟨Nat.zero_le _, Nat.zero_le _⟩ dX9_count_8 (fun v I1 L1 H locs hR G => ?_)
  obtain ⟨hv, hI, hL⟩ := hR
  subst hv
  have G : GS E I L sg H locs := G.same hI hL
  refine W.eq (g2 := F0 mg 11 ls [.int (if ¬ (18 : Int64) < (10 : Int64) ∧ ¬ (15 : Int64) < (18 : Int64) then 1 else 0)]) rfl ?_
  refine s_if_eq_b (P := ¬ (18 : Int64) < (10 : Int64) ∧ ¬ (15 : Int64) < (18 : Int64)) (tgt := 27) S dX9_count_11 (by decide) (fun _ => ?_) (fun h => absurd h (by decide))
  refine lv_iload_n S.1 S.2.1 dX9_count_27 rfl (lv_at hl 1 rfl) ?_
  refine lv_tableIn (off := 165) (tgt := 193) S.1 S.2.1 dX9_count_28 (by decide) (by decide) (by decide) (by decide) ?_
  refine lv_ldc2 (v := (-2000000001 : Int64)) S.1 S.2.1 S.2.2.2.1 (S.2.2.2.2 _ (List.mem_of_getElem? (i := 7) rfl)) dX9_count_193 ?_
  refine s_lret (x := (-2000000001 : Int64)) S G hr hlk dX9_count_196 ?_
  exact ⟨rfl, rfl, rfl⟩
set_option maxHeartbeats 4000000 in
set_option maxRecDepth 100000 in
theorem k_X9_count_19 (l : Launch) (E : Ev) {I : SI} {L : SL} : CS l yX9_count wsX9_count ({ frames := 1, cells := 0, slots := 0, locals := 25 }) E [.ref (E.2.2.2 161), .int (19 : Int32)] I L (fun vv I' L' => vv = some (.long (-2000000001 : Int64)) ∧ I' = I ∧ L' = L) := by
  refine CS.of (cc := cX9_count) (maxL := 2) (ret := (some .long)) (by decide) rfl (Nat.le_of_ble_eq_true rfl) ?_
  intro pg en sg mg below meth cg ls S hr hlk hX G hl
  have S : CallFix pg mg cg cX9_count 2 sg _ wsX9_count RX9 := S
  have hl : lv_has ls 2 [(0, .ref (E.2.2.2 161)), (1, .int (19 : Int32))] := hl
  refine lv_iload_n S.1 S.2.1 dX9_count_0 rfl (lv_at hl 1 rfl) ?_
  refine lv_i2l (v := (19 : Int64)) S.1 S.2.1 dX9_count_1 (by decide) ?_
  refine lv_ldc2 (v := (10 : Int64)) S.1 S.2.1 S.2.2.2.1 (S.2.2.2.2 _ (List.mem_of_getElem? (i := 1) rfl)) dX9_count_2 ?_
  refine lv_ldc2 (v := (15 : Int64)) S.1 S.2.1 S.2.2.2.1 (S.2.2.2.2 _ (List.mem_of_getElem? (i := 2) rfl)) dX9_count_5 ?_
  refine s_callS (As := [.long (19 : Int64), .long (10 : Int64), .long (15 : Int64)]) (rest := []) S hX G (k_X9_in l E (19 : Int64) (10 : Int64) (15 : Int64)) (va_cwS (bytes := cX9_in) (maxL := 6) (ret := (some .boolean)) 3 S.2.2.2.2 gX9_count_X9_in rfl rfl rfl (by decide +kernel) ⟨Nat.le_of_ble_eq_true rfl, Nat.le_of_ble_eq_true rfl⟩) rfl hl.1 rfl (Nat.le_of_ble_eq_true rfl) ⟨Nat.zero_le _, Nat.zero_le _⟩ dX9_count_8 (fun v I1 L1 H locs hR G => ?_)
  obtain ⟨hv, hI, hL⟩ := hR
  subst hv
  have G : GS E I L sg H locs := G.same hI hL
  refine W.eq (g2 := F0 mg 11 ls [.int (if ¬ (19 : Int64) < (10 : Int64) ∧ ¬ (15 : Int64) < (19 : Int64) then 1 else 0)]) rfl ?_
  refine s_if_eq_b (P := ¬ (19 : Int64) < (10 : Int64) ∧ ¬ (15 : Int64) < (19 : Int64)) (tgt := 27) S dX9_count_11 (by decide) (fun _ => ?_) (fun h => absurd h (by decide))
  refine lv_iload_n S.1 S.2.1 dX9_count_27 rfl (lv_at hl 1 rfl) ?_
  refine lv_tableIn (off := 165) (tgt := 193) S.1 S.2.1 dX9_count_28 (by decide) (by decide) (by decide) (by decide) ?_
  refine lv_ldc2 (v := (-2000000001 : Int64)) S.1 S.2.1 S.2.2.2.1 (S.2.2.2.2 _ (List.mem_of_getElem? (i := 7) rfl)) dX9_count_193 ?_
  refine s_lret (x := (-2000000001 : Int64)) S G hr hlk dX9_count_196 ?_
  exact ⟨rfl, rfl, rfl⟩
set_option maxHeartbeats 4000000 in
set_option maxRecDepth 100000 in
theorem k_X9_count_20 (l : Launch) (E : Ev) {I : SI} {L : SL} (lx : Nat → Int64) (e_lx : L (161) = lx) : CS l yX9_count wsX9_count ({ frames := 1, cells := 0, slots := 0, locals := 25 }) E [.ref (E.2.2.2 161), .int (20 : Int32)] I L (fun vv I' L' => vv = some (.long (lx 3)) ∧ I' = I ∧ L' = L) := by
  refine CS.of (cc := cX9_count) (maxL := 2) (ret := (some .long)) (by decide) rfl (Nat.le_of_ble_eq_true rfl) ?_
  intro pg en sg mg below meth cg ls S hr hlk hX G hl
  have S : CallFix pg mg cg cX9_count 2 sg _ wsX9_count RX9 := S
  have hl : lv_has ls 2 [(0, .ref (E.2.2.2 161)), (1, .int (20 : Int32))] := hl
  refine lv_iload_n S.1 S.2.1 dX9_count_0 rfl (lv_at hl 1 rfl) ?_
  refine lv_i2l (v := (20 : Int64)) S.1 S.2.1 dX9_count_1 (by decide) ?_
  refine lv_ldc2 (v := (10 : Int64)) S.1 S.2.1 S.2.2.2.1 (S.2.2.2.2 _ (List.mem_of_getElem? (i := 1) rfl)) dX9_count_2 ?_
  refine lv_ldc2 (v := (15 : Int64)) S.1 S.2.1 S.2.2.2.1 (S.2.2.2.2 _ (List.mem_of_getElem? (i := 2) rfl)) dX9_count_5 ?_
  refine s_callS (As := [.long (20 : Int64), .long (10 : Int64), .long (15 : Int64)]) (rest := []) S hX G (k_X9_in l E (20 : Int64) (10 : Int64) (15 : Int64)) (va_cwS (bytes := cX9_in) (maxL := 6) (ret := (some .boolean)) 3 S.2.2.2.2 gX9_count_X9_in rfl rfl rfl (by decide +kernel) ⟨Nat.le_of_ble_eq_true rfl, Nat.le_of_ble_eq_true rfl⟩) rfl hl.1 rfl (Nat.le_of_ble_eq_true rfl) ⟨Nat.zero_le _, Nat.zero_le _⟩ dX9_count_8 (fun v I1 L1 H locs hR G => ?_)
  obtain ⟨hv, hI, hL⟩ := hR
  subst hv
  have G : GS E I L sg H locs := G.same hI hL
  refine W.eq (g2 := F0 mg 11 ls [.int (if ¬ (20 : Int64) < (10 : Int64) ∧ ¬ (15 : Int64) < (20 : Int64) then 1 else 0)]) rfl ?_
  refine s_if_eq_b (P := ¬ (20 : Int64) < (10 : Int64) ∧ ¬ (15 : Int64) < (20 : Int64)) (tgt := 27) S dX9_count_11 (by decide) (fun _ => ?_) (fun h => absurd h (by decide))
  refine lv_iload_n S.1 S.2.1 dX9_count_27 rfl (lv_at hl 1 rfl) ?_
  refine lv_tableIn (off := 160) (tgt := 188) S.1 S.2.1 dX9_count_28 (by decide) (by decide) (by decide) (by decide) ?_
  refine lv_aload_n S.1 S.2.1 dX9_count_188 rfl (lv_at hl 0 rfl) ?_
  refine s_getl S hX G (i := 161) (kd := 9) (b := lx) (v := .long (lx 3)) (C := RX9) (T := TX9) (N := 13) 3 (rfl : sh 161 = 9) e_lx rfl rfl (by decide) rfl (fun _ h => (List.mem_cons_of_mem _ (List.mem_append_right _ h))) (by decide) (List.mem_of_getElem? (i := 6) rfl) (fun _ h => h) dX9_count_189 ?_
  refine s_lret (x := (lx 3)) S G hr hlk dX9_count_192 ?_
  exact ⟨rfl, rfl, rfl⟩
theorem out_r {x : Int32} {a b : Nat} (h : x.toInt < 0 ∨ 20 < x.toInt) (hb : b ≤ 20) (hab : a ≤ b) : ¬ (¬ x < nI a ∧ ¬ nI b < x) := by
  intro q
  obtain ⟨n, h1, h2, rfl⟩ := ofR (by omega) hab q
  rw [nI_toInt (by omega)] at h
  omega
set_option maxHeartbeats 4000000 in
set_option maxRecDepth 100000 in
theorem k_X9_count_out (l : Launch) (E : Ev) {I : SI} {L : SL} (what : Int32) (ho : what.toInt < 0 ∨ 20 < what.toInt) : CS l yX9_count wsX9_count ({ frames := 1, cells := 0, slots := 0, locals := 25 }) E [.ref (E.2.2.2 161), .int what] I L (fun vv I' L' => vv = some (.long (-2000000001 : Int64)) ∧ I' = I ∧ L' = L) := by
  refine CS.of (cc := cX9_count) (maxL := 2) (ret := (some .long)) (by decide) rfl (Nat.le_of_ble_eq_true rfl) ?_
  intro pg en sg mg below meth cg ls S hr hlk hX G hl
  have S : CallFix pg mg cg cX9_count 2 sg _ wsX9_count RX9 := S
  have hl : lv_has ls 2 [(0, .ref (E.2.2.2 161)), (1, .int what)] := hl
  refine lv_iload_n S.1 S.2.1 dX9_count_0 rfl (lv_at hl 1 rfl) ?_
  refine lv_i2l (v := (Int32.toInt64 what)) S.1 S.2.1 dX9_count_1 rfl ?_
  refine lv_ldc2 (v := (10 : Int64)) S.1 S.2.1 S.2.2.2.1 (S.2.2.2.2 _ (List.mem_of_getElem? (i := 1) rfl)) dX9_count_2 ?_
  refine lv_ldc2 (v := (15 : Int64)) S.1 S.2.1 S.2.2.2.1 (S.2.2.2.2 _ (List.mem_of_getElem? (i := 2) rfl)) dX9_count_5 ?_
  refine s_callS (As := [.long (Int32.toInt64 what), .long (10 : Int64), .long (15 : Int64)]) (rest := []) S hX G (k_X9_in l E (Int32.toInt64 what) (10 : Int64) (15 : Int64)) (va_cwS (bytes := cX9_in) (maxL := 6) (ret := (some .boolean)) 3 S.2.2.2.2 gX9_count_X9_in rfl rfl rfl (by decide +kernel) ⟨Nat.le_of_ble_eq_true rfl, Nat.le_of_ble_eq_true rfl⟩) rfl hl.1 rfl (Nat.le_of_ble_eq_true rfl) ⟨Nat.zero_le _, Nat.zero_le _⟩ dX9_count_8 (fun v I1 L1 H locs hR G => ?_)
  obtain ⟨hv, hI, hL⟩ := hR
  subst hv
  have G : GS E I L sg H locs := G.same hI hL
  refine W.eq (g2 := F0 mg 11 ls [.int (if ¬ (Int32.toInt64 what) < (10 : Int64) ∧ ¬ (15 : Int64) < (Int32.toInt64 what) then 1 else 0)]) rfl ?_
  refine s_if_eq_b (P := ¬ (Int32.toInt64 what) < (10 : Int64) ∧ ¬ (15 : Int64) < (Int32.toInt64 what)) (tgt := 27) S dX9_count_11 (by decide) (fun _ => ?_) (fun h => absurd h (nin64 (a := nI 10) (b := nI 15) (out_r ho (by decide) (by decide)) (by decide) (by decide)))
  refine lv_iload_n S.1 S.2.1 dX9_count_27 rfl (lv_at hl 1 rfl) ?_
  refine lv_tableOut (tgt := 193) S.1 S.2.1 dX9_count_28 ho (by decide) ?_
  refine lv_ldc2 (v := (-2000000001 : Int64)) S.1 S.2.1 S.2.2.2.1 (S.2.2.2.2 _ (List.mem_of_getElem? (i := 7) rfl)) dX9_count_193 ?_
  refine s_lret (x := (-2000000001 : Int64)) S G hr hlk dX9_count_196 ?_
  exact ⟨rfl, rfl, rfl⟩
set_option maxHeartbeats 4000000 in
set_option maxRecDepth 100000 in
theorem k_X9_leg_0_0 (l : Launch) (E : Ev) {I : SI} {L : SL} (d : Nat → Int32) (e_d : I (162) = d) : CS l yX9_leg wsX9_leg ({ frames := 2, cells := 0, slots := 0, locals := 45 }) E [.ref (E.2.2.2 161), .int (0 : Int32), .int (0 : Int32)] I L (fun vv I' L' => vv = some (.int (d 8)) ∧ I' = I ∧ L' = L) := by
  refine CS.of (cc := cX9_leg) (maxL := 4) (ret := (some .int)) (by decide) rfl (Nat.le_of_ble_eq_true rfl) ?_
  intro pg en sg mg below meth cg ls S hr hlk hX G hl
  have S : CallFix pg mg cg cX9_leg 4 sg _ wsX9_leg RX9 := S
  have hl : lv_has ls 4 [(0, .ref (E.2.2.2 161)), (1, .int (0 : Int32)), (2, .int (0 : Int32))] := hl
  refine lv_iload_n S.1 S.2.1 dX9_leg_0 rfl (lv_at hl 1 rfl) ?_
  refine s_callS (As := [.int (0 : Int32)]) (rest := []) S hX G (k_X9_isLeg l E (0 : Int32)) (va_cwS (bytes := cX9_isLeg) (maxL := 1) (ret := (some .boolean)) 1 S.2.2.2.2 gX9_leg_X9_isLeg rfl rfl rfl (by decide +kernel) ⟨Nat.le_of_ble_eq_true rfl, Nat.le_of_ble_eq_true rfl⟩) rfl hl.1 rfl (Nat.le_of_ble_eq_true rfl) ⟨Nat.zero_le _, Nat.zero_le _⟩ dX9_leg_1 (fun v I1 L1 H locs hR G => ?_)
  obtain ⟨hv, hI, hL⟩ := hR
  subst hv
  have G : GS E I L sg H locs := G.same hI hL
  refine W.eq (g2 := F0 mg 4 ls [.int (if ¬ (0 : Int32) < (0 : Int32) ∧ ¬ (3 : Int32) < (0 : Int32) then 1 else 0)]) rfl ?_
  refine s_if_eq_b (P := ¬ (0 : Int32) < (0 : Int32) ∧ ¬ (3 : Int32) < (0 : Int32)) (tgt := 19) S dX9_leg_4 (by decide) (fun h => absurd (by decide) h) (fun _ => ?_)
  refine lv_iload_n S.1 S.2.1 dX9_leg_7 rfl (lv_at hl 2 rfl) ?_
  refine lv_i2l (v := (0 : Int64)) S.1 S.2.1 dX9_leg_8 (by decide) ?_
  refine lv_lconst (v := (0 : Int64)) S.1 S.2.1 dX9_leg_9 (by decide) ?_
  refine lv_ldc2 (v := (7 : Int64)) S.1 S.2.1 S.2.2.2.1 (S.2.2.2.2 _ (List.mem_of_getElem? (i := 1) rfl)) dX9_leg_10 ?_
  refine s_callS (As := [.long (0 : Int64), .long (0 : Int64), .long (7 : Int64)]) (rest := []) S hX G (k_X9_in l E (0 : Int64) (0 : Int64) (7 : Int64)) (va_cwS (bytes := cX9_in) (maxL := 6) (ret := (some .boolean)) 3 S.2.2.2.2 gX9_leg_X9_in rfl rfl rfl (by decide +kernel) ⟨Nat.le_of_ble_eq_true rfl, Nat.le_of_ble_eq_true rfl⟩) rfl hl.1 rfl (Nat.le_of_ble_eq_true rfl) ⟨Nat.zero_le _, Nat.zero_le _⟩ dX9_leg_13 (fun v I1 L1 H locs hR G => ?_)
  obtain ⟨hv, hI, hL⟩ := hR
  subst hv
  have G : GS E I L sg H locs := G.same hI hL
  refine W.eq (g2 := F0 mg 16 ls [.int (if ¬ (0 : Int64) < (0 : Int64) ∧ ¬ (7 : Int64) < (0 : Int64) then 1 else 0)]) rfl ?_
  refine s_if_ne_b (P := ¬ (0 : Int64) < (0 : Int64) ∧ ¬ (7 : Int64) < (0 : Int64)) (tgt := 22) S dX9_leg_16 (by decide) (fun _ => ?_) (fun h => absurd (by decide) h)
  refine lv_iload_n S.1 S.2.1 dX9_leg_22 rfl (lv_at hl 1 rfl) ?_
  refine s_callS (As := [.int (0 : Int32)]) (rest := []) S hX G (k_X9_legAt_0 l E) (va_cwS (bytes := cX9_legAt) (maxL := 1) (ret := (some .int)) 1 S.2.2.2.2 gX9_leg_X9_legAt rfl rfl rfl (by decide +kernel) ⟨Nat.le_of_ble_eq_true rfl, Nat.le_of_ble_eq_true rfl⟩) rfl hl.1 rfl (Nat.le_of_ble_eq_true rfl) ⟨Nat.zero_le _, Nat.zero_le _⟩ dX9_leg_23 (fun v I1 L1 H locs hR G => ?_)
  obtain ⟨hv, hI, hL⟩ := hR
  subst hv
  have G : GS E I L sg H locs := G.same hI hL
  refine W.eq (g2 := F0 mg 26 ls [.int (8 : Int32)]) rfl ?_
  refine lv_istore_n (lv' := [(3, .int (8 : Int32)), (0, .ref (E.2.2.2 161)), (1, .int (0 : Int32)), (2, .int (0 : Int32))]) S.1 S.2.1 dX9_leg_26 rfl hl (by decide) rfl (fun ls hl => ?_)
  refine lv_iload_n S.1 S.2.1 dX9_leg_27 rfl (lv_at hl 3 rfl) ?_
  refine lv_tableIn (off := 36) (tgt := 64) S.1 S.2.1 dX9_leg_28 (by decide) (by decide) (by decide) (by decide) ?_
  refine lv_aload_n S.1 S.2.1 dX9_leg_64 rfl (lv_at hl 1 rfl) ?_
  refine s_get S hX G (i := 161) (kd := 9) (a := (I 161)) (v := .ref (E.2.2.2 162)) (C := RX9) (T := TX9) (N := 13) 0 (rfl : sh 161 = 9) rfl rfl rfl (by decide) rfl (fun _ h => (List.mem_cons_of_mem _ (List.mem_append_right _ h))) (by decide) (List.mem_of_getElem? (i := 3) rfl) (fun _ h => h) dX9_leg_65 ?_
  refine lv_iload_n S.1 S.2.1 dX9_leg_68 rfl (lv_at hl 0 rfl) ?_
  refine lv_iload_n S.1 S.2.1 dX9_leg_69 rfl (lv_at hl 3 rfl) ?_
  refine s_iadd (v := (8 : Int32)) S dX9_leg_70 (by decide) ?_
  refine s_iald S hX G (i := 162) (kd := 284) (n := 270) (a := d) (x := (d 8)) (rfl : sh 162 = 284) e_d rfl (by decide) (by unfold vp_in; decide) (congrArg d (by decide)) dX9_leg_71 ?_
  refine s_iret (x := (d 8)) S G hr hlk dX9_leg_72 ?_
  exact ⟨rfl, rfl, rfl⟩
set_option maxHeartbeats 4000000 in
set_option maxRecDepth 100000 in
theorem k_X9_leg_0_1 (l : Launch) (E : Ev) {I : SI} {L : SL} (d : Nat → Int32) (e_d : I (162) = d) : CS l yX9_leg wsX9_leg ({ frames := 2, cells := 0, slots := 0, locals := 45 }) E [.ref (E.2.2.2 161), .int (0 : Int32), .int (1 : Int32)] I L (fun vv I' L' => vv = some (.int (d 9)) ∧ I' = I ∧ L' = L) := by
  refine CS.of (cc := cX9_leg) (maxL := 4) (ret := (some .int)) (by decide) rfl (Nat.le_of_ble_eq_true rfl) ?_
  intro pg en sg mg below meth cg ls S hr hlk hX G hl
  have S : CallFix pg mg cg cX9_leg 4 sg _ wsX9_leg RX9 := S
  have hl : lv_has ls 4 [(0, .ref (E.2.2.2 161)), (1, .int (0 : Int32)), (2, .int (1 : Int32))] := hl
  refine lv_iload_n S.1 S.2.1 dX9_leg_0 rfl (lv_at hl 1 rfl) ?_
  refine s_callS (As := [.int (0 : Int32)]) (rest := []) S hX G (k_X9_isLeg l E (0 : Int32)) (va_cwS (bytes := cX9_isLeg) (maxL := 1) (ret := (some .boolean)) 1 S.2.2.2.2 gX9_leg_X9_isLeg rfl rfl rfl (by decide +kernel) ⟨Nat.le_of_ble_eq_true rfl, Nat.le_of_ble_eq_true rfl⟩) rfl hl.1 rfl (Nat.le_of_ble_eq_true rfl) ⟨Nat.zero_le _, Nat.zero_le _⟩ dX9_leg_1 (fun v I1 L1 H locs hR G => ?_)
  obtain ⟨hv, hI, hL⟩ := hR
  subst hv
  have G : GS E I L sg H locs := G.same hI hL
  refine W.eq (g2 := F0 mg 4 ls [.int (if ¬ (0 : Int32) < (0 : Int32) ∧ ¬ (3 : Int32) < (0 : Int32) then 1 else 0)]) rfl ?_
  refine s_if_eq_b (P := ¬ (0 : Int32) < (0 : Int32) ∧ ¬ (3 : Int32) < (0 : Int32)) (tgt := 19) S dX9_leg_4 (by decide) (fun h => absurd (by decide) h) (fun _ => ?_)
  refine lv_iload_n S.1 S.2.1 dX9_leg_7 rfl (lv_at hl 2 rfl) ?_
  refine lv_i2l (v := (1 : Int64)) S.1 S.2.1 dX9_leg_8 (by decide) ?_
  refine lv_lconst (v := (0 : Int64)) S.1 S.2.1 dX9_leg_9 (by decide) ?_
  refine lv_ldc2 (v := (7 : Int64)) S.1 S.2.1 S.2.2.2.1 (S.2.2.2.2 _ (List.mem_of_getElem? (i := 1) rfl)) dX9_leg_10 ?_
  refine s_callS (As := [.long (1 : Int64), .long (0 : Int64), .long (7 : Int64)]) (rest := []) S hX G (k_X9_in l E (1 : Int64) (0 : Int64) (7 : Int64)) (va_cwS (bytes := cX9_in) (maxL := 6) (ret := (some .boolean)) 3 S.2.2.2.2 gX9_leg_X9_in rfl rfl rfl (by decide +kernel) ⟨Nat.le_of_ble_eq_true rfl, Nat.le_of_ble_eq_true rfl⟩) rfl hl.1 rfl (Nat.le_of_ble_eq_true rfl) ⟨Nat.zero_le _, Nat.zero_le _⟩ dX9_leg_13 (fun v I1 L1 H locs hR G => ?_)
  obtain ⟨hv, hI, hL⟩ := hR
  subst hv
  have G : GS E I L sg H locs := G.same hI hL
  refine W.eq (g2 := F0 mg 16 ls [.int (if ¬ (1 : Int64) < (0 : Int64) ∧ ¬ (7 : Int64) < (1 : Int64) then 1 else 0)]) rfl ?_
  refine s_if_ne_b (P := ¬ (1 : Int64) < (0 : Int64) ∧ ¬ (7 : Int64) < (1 : Int64)) (tgt := 22) S dX9_leg_16 (by decide) (fun _ => ?_) (fun h => absurd (by decide) h)
  refine lv_iload_n S.1 S.2.1 dX9_leg_22 rfl (lv_at hl 1 rfl) ?_
  refine s_callS (As := [.int (0 : Int32)]) (rest := []) S hX G (k_X9_legAt_0 l E) (va_cwS (bytes := cX9_legAt) (maxL := 1) (ret := (some .int)) 1 S.2.2.2.2 gX9_leg_X9_legAt rfl rfl rfl (by decide +kernel) ⟨Nat.le_of_ble_eq_true rfl, Nat.le_of_ble_eq_true rfl⟩) rfl hl.1 rfl (Nat.le_of_ble_eq_true rfl) ⟨Nat.zero_le _, Nat.zero_le _⟩ dX9_leg_23 (fun v I1 L1 H locs hR G => ?_)
  obtain ⟨hv, hI, hL⟩ := hR
  subst hv
  have G : GS E I L sg H locs := G.same hI hL
  refine W.eq (g2 := F0 mg 26 ls [.int (8 : Int32)]) rfl ?_
  refine lv_istore_n (lv' := [(3, .int (8 : Int32)), (0, .ref (E.2.2.2 161)), (1, .int (0 : Int32)), (2, .int (1 : Int32))]) S.1 S.2.1 dX9_leg_26 rfl hl (by decide) rfl (fun ls hl => ?_)
  refine lv_iload_n S.1 S.2.1 dX9_leg_27 rfl (lv_at hl 3 rfl) ?_
  refine lv_tableIn (off := 36) (tgt := 64) S.1 S.2.1 dX9_leg_28 (by decide) (by decide) (by decide) (by decide) ?_
  refine lv_aload_n S.1 S.2.1 dX9_leg_64 rfl (lv_at hl 1 rfl) ?_
  refine s_get S hX G (i := 161) (kd := 9) (a := (I 161)) (v := .ref (E.2.2.2 162)) (C := RX9) (T := TX9) (N := 13) 0 (rfl : sh 161 = 9) rfl rfl rfl (by decide) rfl (fun _ h => (List.mem_cons_of_mem _ (List.mem_append_right _ h))) (by decide) (List.mem_of_getElem? (i := 3) rfl) (fun _ h => h) dX9_leg_65 ?_
  refine lv_iload_n S.1 S.2.1 dX9_leg_68 rfl (lv_at hl 0 rfl) ?_
  refine lv_iload_n S.1 S.2.1 dX9_leg_69 rfl (lv_at hl 3 rfl) ?_
  refine s_iadd (v := (9 : Int32)) S dX9_leg_70 (by decide) ?_
  refine s_iald S hX G (i := 162) (kd := 284) (n := 270) (a := d) (x := (d 9)) (rfl : sh 162 = 284) e_d rfl (by decide) (by unfold vp_in; decide) (congrArg d (by decide)) dX9_leg_71 ?_
  refine s_iret (x := (d 9)) S G hr hlk dX9_leg_72 ?_
  exact ⟨rfl, rfl, rfl⟩
set_option maxHeartbeats 4000000 in
set_option maxRecDepth 100000 in
theorem k_X9_leg_0_2 (l : Launch) (E : Ev) {I : SI} {L : SL} (d : Nat → Int32) (e_d : I (162) = d) : CS l yX9_leg wsX9_leg ({ frames := 4, cells := 0, slots := 0, locals := 88 }) E [.ref (E.2.2.2 161), .int (0 : Int32), .int (2 : Int32)] I L (fun vv I' L' => vv = some (.int (wshF d 0 8 40)) ∧ I' = I ∧ L' = L) := by
  refine CS.of (cc := cX9_leg) (maxL := 4) (ret := (some .int)) (by decide) rfl (Nat.le_of_ble_eq_true rfl) ?_
  intro pg en sg mg below meth cg ls S hr hlk hX G hl
  have S : CallFix pg mg cg cX9_leg 4 sg _ wsX9_leg RX9 := S
  have hl : lv_has ls 4 [(0, .ref (E.2.2.2 161)), (1, .int (0 : Int32)), (2, .int (2 : Int32))] := hl
  refine lv_iload_n S.1 S.2.1 dX9_leg_0 rfl (lv_at hl 1 rfl) ?_
  refine s_callS (As := [.int (0 : Int32)]) (rest := []) S hX G (k_X9_isLeg l E (0 : Int32)) (va_cwS (bytes := cX9_isLeg) (maxL := 1) (ret := (some .boolean)) 1 S.2.2.2.2 gX9_leg_X9_isLeg rfl rfl rfl (by decide +kernel) ⟨Nat.le_of_ble_eq_true rfl, Nat.le_of_ble_eq_true rfl⟩) rfl hl.1 rfl (Nat.le_of_ble_eq_true rfl) ⟨Nat.zero_le _, Nat.zero_le _⟩ dX9_leg_1 (fun v I1 L1 H locs hR G => ?_)
  obtain ⟨hv, hI, hL⟩ := hR
  subst hv
  have G : GS E I L sg H locs := G.same hI hL
  refine W.eq (g2 := F0 mg 4 ls [.int (if ¬ (0 : Int32) < (0 : Int32) ∧ ¬ (3 : Int32) < (0 : Int32) then 1 else 0)]) rfl ?_
  refine s_if_eq_b (P := ¬ (0 : Int32) < (0 : Int32) ∧ ¬ (3 : Int32) < (0 : Int32)) (tgt := 19) S dX9_leg_4 (by decide) (fun h => absurd (by decide) h) (fun _ => ?_)
  refine lv_iload_n S.1 S.2.1 dX9_leg_7 rfl (lv_at hl 2 rfl) ?_
  refine lv_i2l (v := (2 : Int64)) S.1 S.2.1 dX9_leg_8 (by decide) ?_
  refine lv_lconst (v := (0 : Int64)) S.1 S.2.1 dX9_leg_9 (by decide) ?_
  refine lv_ldc2 (v := (7 : Int64)) S.1 S.2.1 S.2.2.2.1 (S.2.2.2.2 _ (List.mem_of_getElem? (i := 1) rfl)) dX9_leg_10 ?_
  refine s_callS (As := [.long (2 : Int64), .long (0 : Int64), .long (7 : Int64)]) (rest := []) S hX G (k_X9_in l E (2 : Int64) (0 : Int64) (7 : Int64)) (va_cwS (bytes := cX9_in) (maxL := 6) (ret := (some .boolean)) 3 S.2.2.2.2 gX9_leg_X9_in rfl rfl rfl (by decide +kernel) ⟨Nat.le_of_ble_eq_true rfl, Nat.le_of_ble_eq_true rfl⟩) rfl hl.1 rfl (Nat.le_of_ble_eq_true rfl) ⟨Nat.zero_le _, Nat.zero_le _⟩ dX9_leg_13 (fun v I1 L1 H locs hR G => ?_)
  obtain ⟨hv, hI, hL⟩ := hR
  subst hv
  have G : GS E I L sg H locs := G.same hI hL
  refine W.eq (g2 := F0 mg 16 ls [.int (if ¬ (2 : Int64) < (0 : Int64) ∧ ¬ (7 : Int64) < (2 : Int64) then 1 else 0)]) rfl ?_
  refine s_if_ne_b (P := ¬ (2 : Int64) < (0 : Int64) ∧ ¬ (7 : Int64) < (2 : Int64)) (tgt := 22) S dX9_leg_16 (by decide) (fun _ => ?_) (fun h => absurd (by decide) h)
  refine lv_iload_n S.1 S.2.1 dX9_leg_22 rfl (lv_at hl 1 rfl) ?_
  refine s_callS (As := [.int (0 : Int32)]) (rest := []) S hX G (k_X9_legAt_0 l E) (va_cwS (bytes := cX9_legAt) (maxL := 1) (ret := (some .int)) 1 S.2.2.2.2 gX9_leg_X9_legAt rfl rfl rfl (by decide +kernel) ⟨Nat.le_of_ble_eq_true rfl, Nat.le_of_ble_eq_true rfl⟩) rfl hl.1 rfl (Nat.le_of_ble_eq_true rfl) ⟨Nat.zero_le _, Nat.zero_le _⟩ dX9_leg_23 (fun v I1 L1 H locs hR G => ?_)
  obtain ⟨hv, hI, hL⟩ := hR
  subst hv
  have G : GS E I L sg H locs := G.same hI hL
  refine W.eq (g2 := F0 mg 26 ls [.int (8 : Int32)]) rfl ?_
  refine lv_istore_n (lv' := [(3, .int (8 : Int32)), (0, .ref (E.2.2.2 161)), (1, .int (0 : Int32)), (2, .int (2 : Int32))]) S.1 S.2.1 dX9_leg_26 rfl hl (by decide) rfl (fun ls hl => ?_)
  refine lv_iload_n S.1 S.2.1 dX9_leg_27 rfl (lv_at hl 3 rfl) ?_
  refine lv_tableIn (off := 45) (tgt := 73) S.1 S.2.1 dX9_leg_28 (by decide) (by decide) (by decide) (by decide) ?_
  refine lv_aload_n S.1 S.2.1 dX9_leg_73 rfl (lv_at hl 1 rfl) ?_
  refine lv_iload_n S.1 S.2.1 dX9_leg_74 rfl (lv_at hl 2 rfl) ?_
  refine s_callV (C := RX9) (As := [.int (0 : Int32)]) (rest := []) (i := 161) (kd := 9) S hX G (k_X9_wish_0 l E d e_d) (cwV (bytes := cX9_wish) (maxL := 4) (ret := (some .int)) 1 S.2.2.2.2 gX9_leg_X9_wish rfl rfl rfl (by decide +kernel) ⟨Nat.le_of_ble_eq_true rfl, Nat.le_of_ble_eq_true rfl⟩) (rfl : sh 161 = 9) rfl rfl rfl (by decide) rfl hl.1 rfl (Nat.le_of_ble_eq_true rfl) ⟨Nat.zero_le _, Nat.zero_le _⟩ dX9_leg_75 (fun v I1 L1 H locs hR G => ?_)
  obtain ⟨hv, hI, hL⟩ := hR
  subst hv
  have G : GS E I L sg H locs := G.same hI hL
  refine W.eq (g2 := F0 mg 78 ls [.int (wshF d 0 8 40)]) rfl ?_
  refine lv_topi (fun y_1 ey_1 => ?_)
  refine s_iret (x := y_1) S G hr hlk dX9_leg_78 ?_
  exact ⟨(congrArg (fun q : Int32 => some (Value.int q)) (show y_1 = (wshF d 0 8 40) by subst ey_1; (first | (simp []; done) | (clear S hX G hl; grind [])))), rfl, rfl⟩
set_option maxHeartbeats 4000000 in
set_option maxRecDepth 100000 in
theorem k_X9_leg_0_3 (l : Launch) (E : Ev) {I : SI} {L : SL} (d : Nat → Int32) (e_d : I (162) = d) : CS l yX9_leg wsX9_leg ({ frames := 2, cells := 0, slots := 0, locals := 45 }) E [.ref (E.2.2.2 161), .int (0 : Int32), .int (3 : Int32)] I L (fun vv I' L' => vv = some (.int (if d 10 = -1 then d 0 else d 10)) ∧ I' = I ∧ L' = L) := by
  refine CS.of (cc := cX9_leg) (maxL := 4) (ret := (some .int)) (by decide) rfl (Nat.le_of_ble_eq_true rfl) ?_
  intro pg en sg mg below meth cg ls S hr hlk hX G hl
  have S : CallFix pg mg cg cX9_leg 4 sg _ wsX9_leg RX9 := S
  have hl : lv_has ls 4 [(0, .ref (E.2.2.2 161)), (1, .int (0 : Int32)), (2, .int (3 : Int32))] := hl
  refine lv_iload_n S.1 S.2.1 dX9_leg_0 rfl (lv_at hl 1 rfl) ?_
  refine s_callS (As := [.int (0 : Int32)]) (rest := []) S hX G (k_X9_isLeg l E (0 : Int32)) (va_cwS (bytes := cX9_isLeg) (maxL := 1) (ret := (some .boolean)) 1 S.2.2.2.2 gX9_leg_X9_isLeg rfl rfl rfl (by decide +kernel) ⟨Nat.le_of_ble_eq_true rfl, Nat.le_of_ble_eq_true rfl⟩) rfl hl.1 rfl (Nat.le_of_ble_eq_true rfl) ⟨Nat.zero_le _, Nat.zero_le _⟩ dX9_leg_1 (fun v I1 L1 H locs hR G => ?_)
  obtain ⟨hv, hI, hL⟩ := hR
  subst hv
  have G : GS E I L sg H locs := G.same hI hL
  refine W.eq (g2 := F0 mg 4 ls [.int (if ¬ (0 : Int32) < (0 : Int32) ∧ ¬ (3 : Int32) < (0 : Int32) then 1 else 0)]) rfl ?_
  refine s_if_eq_b (P := ¬ (0 : Int32) < (0 : Int32) ∧ ¬ (3 : Int32) < (0 : Int32)) (tgt := 19) S dX9_leg_4 (by decide) (fun h => absurd (by decide) h) (fun _ => ?_)
  refine lv_iload_n S.1 S.2.1 dX9_leg_7 rfl (lv_at hl 2 rfl) ?_
  refine lv_i2l (v := (3 : Int64)) S.1 S.2.1 dX9_leg_8 (by decide) ?_
  refine lv_lconst (v := (0 : Int64)) S.1 S.2.1 dX9_leg_9 (by decide) ?_
  refine lv_ldc2 (v := (7 : Int64)) S.1 S.2.1 S.2.2.2.1 (S.2.2.2.2 _ (List.mem_of_getElem? (i := 1) rfl)) dX9_leg_10 ?_
  refine s_callS (As := [.long (3 : Int64), .long (0 : Int64), .long (7 : Int64)]) (rest := []) S hX G (k_X9_in l E (3 : Int64) (0 : Int64) (7 : Int64)) (va_cwS (bytes := cX9_in) (maxL := 6) (ret := (some .boolean)) 3 S.2.2.2.2 gX9_leg_X9_in rfl rfl rfl (by decide +kernel) ⟨Nat.le_of_ble_eq_true rfl, Nat.le_of_ble_eq_true rfl⟩) rfl hl.1 rfl (Nat.le_of_ble_eq_true rfl) ⟨Nat.zero_le _, Nat.zero_le _⟩ dX9_leg_13 (fun v I1 L1 H locs hR G => ?_)
  obtain ⟨hv, hI, hL⟩ := hR
  subst hv
  have G : GS E I L sg H locs := G.same hI hL
  refine W.eq (g2 := F0 mg 16 ls [.int (if ¬ (3 : Int64) < (0 : Int64) ∧ ¬ (7 : Int64) < (3 : Int64) then 1 else 0)]) rfl ?_
  refine s_if_ne_b (P := ¬ (3 : Int64) < (0 : Int64) ∧ ¬ (7 : Int64) < (3 : Int64)) (tgt := 22) S dX9_leg_16 (by decide) (fun _ => ?_) (fun h => absurd (by decide) h)
  refine lv_iload_n S.1 S.2.1 dX9_leg_22 rfl (lv_at hl 1 rfl) ?_
  refine s_callS (As := [.int (0 : Int32)]) (rest := []) S hX G (k_X9_legAt_0 l E) (va_cwS (bytes := cX9_legAt) (maxL := 1) (ret := (some .int)) 1 S.2.2.2.2 gX9_leg_X9_legAt rfl rfl rfl (by decide +kernel) ⟨Nat.le_of_ble_eq_true rfl, Nat.le_of_ble_eq_true rfl⟩) rfl hl.1 rfl (Nat.le_of_ble_eq_true rfl) ⟨Nat.zero_le _, Nat.zero_le _⟩ dX9_leg_23 (fun v I1 L1 H locs hR G => ?_)
  obtain ⟨hv, hI, hL⟩ := hR
  subst hv
  have G : GS E I L sg H locs := G.same hI hL
  refine W.eq (g2 := F0 mg 26 ls [.int (8 : Int32)]) rfl ?_
  refine lv_istore_n (lv' := [(3, .int (8 : Int32)), (0, .ref (E.2.2.2 161)), (1, .int (0 : Int32)), (2, .int (3 : Int32))]) S.1 S.2.1 dX9_leg_26 rfl hl (by decide) rfl (fun ls hl => ?_)
  refine lv_iload_n S.1 S.2.1 dX9_leg_27 rfl (lv_at hl 3 rfl) ?_
  refine lv_tableIn (off := 51) (tgt := 79) S.1 S.2.1 dX9_leg_28 (by decide) (by decide) (by decide) (by decide) ?_
  refine lv_aload_n S.1 S.2.1 dX9_leg_79 rfl (lv_at hl 1 rfl) ?_
  refine s_get S hX G (i := 161) (kd := 9) (a := (I 161)) (v := .ref (E.2.2.2 162)) (C := RX9) (T := TX9) (N := 13) 0 (rfl : sh 161 = 9) rfl rfl rfl (by decide) rfl (fun _ h => (List.mem_cons_of_mem _ (List.mem_append_right _ h))) (by decide) (List.mem_of_getElem? (i := 3) rfl) (fun _ h => h) dX9_leg_80 ?_
  refine lv_iload_n S.1 S.2.1 dX9_leg_83 rfl (lv_at hl 0 rfl) ?_
  refine lv_iconst (v := (2 : Int32)) S.1 S.2.1 dX9_leg_84 (by decide) ?_
  refine s_iadd (v := (10 : Int32)) S dX9_leg_85 (by decide) ?_
  refine s_iald S hX G (i := 162) (kd := 284) (n := 270) (a := d) (x := (d 10)) (rfl : sh 162 = 284) e_d rfl (by decide) (by unfold vp_in; decide) (congrArg d (by decide)) dX9_leg_86 ?_
  refine lv_iconst (v := (-1 : Int32)) S.1 S.2.1 dX9_leg_87 (by decide) ?_
  refine lv_icmp_ne (tgt := 100) S.1 S.2.1 dX9_leg_88 (by decide) (fun c_1 => ?_) (fun c_1 => ?_)
  · refine lv_aload_n S.1 S.2.1 dX9_leg_100 rfl (lv_at hl 1 rfl) ?_
    refine s_get S hX G (i := 161) (kd := 9) (a := (I 161)) (v := .ref (E.2.2.2 162)) (C := RX9) (T := TX9) (N := 13) 0 (rfl : sh 161 = 9) rfl rfl rfl (by decide) rfl (fun _ h => (List.mem_cons_of_mem _ (List.mem_append_right _ h))) (by decide) (List.mem_of_getElem? (i := 3) rfl) (fun _ h => h) dX9_leg_101 ?_
    refine lv_iload_n S.1 S.2.1 dX9_leg_104 rfl (lv_at hl 0 rfl) ?_
    refine lv_iconst (v := (2 : Int32)) S.1 S.2.1 dX9_leg_105 (by decide) ?_
    refine s_iadd (v := (10 : Int32)) S dX9_leg_106 (by decide) ?_
    refine s_iald S hX G (i := 162) (kd := 284) (n := 270) (a := d) (x := (d 10)) (rfl : sh 162 = 284) e_d rfl (by decide) (by unfold vp_in; decide) (congrArg d (by decide)) dX9_leg_107 ?_
    refine s_iret (x := (d 10)) S G hr hlk dX9_leg_108 ?_
    exact ⟨(congrArg (fun q : Int32 => some (Value.int q)) (show (d 10) = (if d 10 = -1 then d 0 else d 10) by first | (simp [c_1]; done) | (clear S hX G hl; grind []))), rfl, rfl⟩
  · refine lv_aload_n S.1 S.2.1 dX9_leg_91 rfl (lv_at hl 1 rfl) ?_
    refine s_get S hX G (i := 161) (kd := 9) (a := (I 161)) (v := .ref (E.2.2.2 162)) (C := RX9) (T := TX9) (N := 13) 0 (rfl : sh 161 = 9) rfl rfl rfl (by decide) rfl (fun _ h => (List.mem_cons_of_mem _ (List.mem_append_right _ h))) (by decide) (List.mem_of_getElem? (i := 3) rfl) (fun _ h => h) dX9_leg_92 ?_
    refine lv_iconst (v := (0 : Int32)) S.1 S.2.1 dX9_leg_95 (by decide) ?_
    refine s_iald S hX G (i := 162) (kd := 284) (n := 270) (a := d) (x := (d 0)) (rfl : sh 162 = 284) e_d rfl (by decide) (by unfold vp_in; decide) (congrArg d (by decide)) dX9_leg_96 ?_
    refine lv_goto (tgt := 108) S.1 S.2.1 dX9_leg_97 (by decide) ?_
    refine s_iret (x := (d 0)) S G hr hlk dX9_leg_108 ?_
    exact ⟨(congrArg (fun q : Int32 => some (Value.int q)) (show (d 0) = (if d 10 = -1 then d 0 else d 10) by first | (simp [c_1]; done) | (clear S hX G hl; grind []))), rfl, rfl⟩
set_option maxHeartbeats 4000000 in
set_option maxRecDepth 100000 in
theorem k_X9_leg_0_4 (l : Launch) (E : Ev) {I : SI} {L : SL} (d : Nat → Int32) (e_d : I (162) = d) : CS l yX9_leg wsX9_leg ({ frames := 2, cells := 0, slots := 0, locals := 45 }) E [.ref (E.2.2.2 161), .int (0 : Int32), .int (4 : Int32)] I L (fun vv I' L' => vv = some (.int (d 11)) ∧ I' = I ∧ L' = L) := by
  refine CS.of (cc := cX9_leg) (maxL := 4) (ret := (some .int)) (by decide) rfl (Nat.le_of_ble_eq_true rfl) ?_
  intro pg en sg mg below meth cg ls S hr hlk hX G hl
  have S : CallFix pg mg cg cX9_leg 4 sg _ wsX9_leg RX9 := S
  have hl : lv_has ls 4 [(0, .ref (E.2.2.2 161)), (1, .int (0 : Int32)), (2, .int (4 : Int32))] := hl
  refine lv_iload_n S.1 S.2.1 dX9_leg_0 rfl (lv_at hl 1 rfl) ?_
  refine s_callS (As := [.int (0 : Int32)]) (rest := []) S hX G (k_X9_isLeg l E (0 : Int32)) (va_cwS (bytes := cX9_isLeg) (maxL := 1) (ret := (some .boolean)) 1 S.2.2.2.2 gX9_leg_X9_isLeg rfl rfl rfl (by decide +kernel) ⟨Nat.le_of_ble_eq_true rfl, Nat.le_of_ble_eq_true rfl⟩) rfl hl.1 rfl (Nat.le_of_ble_eq_true rfl) ⟨Nat.zero_le _, Nat.zero_le _⟩ dX9_leg_1 (fun v I1 L1 H locs hR G => ?_)
  obtain ⟨hv, hI, hL⟩ := hR
  subst hv
  have G : GS E I L sg H locs := G.same hI hL
  refine W.eq (g2 := F0 mg 4 ls [.int (if ¬ (0 : Int32) < (0 : Int32) ∧ ¬ (3 : Int32) < (0 : Int32) then 1 else 0)]) rfl ?_
  refine s_if_eq_b (P := ¬ (0 : Int32) < (0 : Int32) ∧ ¬ (3 : Int32) < (0 : Int32)) (tgt := 19) S dX9_leg_4 (by decide) (fun h => absurd (by decide) h) (fun _ => ?_)
  refine lv_iload_n S.1 S.2.1 dX9_leg_7 rfl (lv_at hl 2 rfl) ?_
  refine lv_i2l (v := (4 : Int64)) S.1 S.2.1 dX9_leg_8 (by decide) ?_
  refine lv_lconst (v := (0 : Int64)) S.1 S.2.1 dX9_leg_9 (by decide) ?_
  refine lv_ldc2 (v := (7 : Int64)) S.1 S.2.1 S.2.2.2.1 (S.2.2.2.2 _ (List.mem_of_getElem? (i := 1) rfl)) dX9_leg_10 ?_
  refine s_callS (As := [.long (4 : Int64), .long (0 : Int64), .long (7 : Int64)]) (rest := []) S hX G (k_X9_in l E (4 : Int64) (0 : Int64) (7 : Int64)) (va_cwS (bytes := cX9_in) (maxL := 6) (ret := (some .boolean)) 3 S.2.2.2.2 gX9_leg_X9_in rfl rfl rfl (by decide +kernel) ⟨Nat.le_of_ble_eq_true rfl, Nat.le_of_ble_eq_true rfl⟩) rfl hl.1 rfl (Nat.le_of_ble_eq_true rfl) ⟨Nat.zero_le _, Nat.zero_le _⟩ dX9_leg_13 (fun v I1 L1 H locs hR G => ?_)
  obtain ⟨hv, hI, hL⟩ := hR
  subst hv
  have G : GS E I L sg H locs := G.same hI hL
  refine W.eq (g2 := F0 mg 16 ls [.int (if ¬ (4 : Int64) < (0 : Int64) ∧ ¬ (7 : Int64) < (4 : Int64) then 1 else 0)]) rfl ?_
  refine s_if_ne_b (P := ¬ (4 : Int64) < (0 : Int64) ∧ ¬ (7 : Int64) < (4 : Int64)) (tgt := 22) S dX9_leg_16 (by decide) (fun _ => ?_) (fun h => absurd (by decide) h)
  refine lv_iload_n S.1 S.2.1 dX9_leg_22 rfl (lv_at hl 1 rfl) ?_
  refine s_callS (As := [.int (0 : Int32)]) (rest := []) S hX G (k_X9_legAt_0 l E) (va_cwS (bytes := cX9_legAt) (maxL := 1) (ret := (some .int)) 1 S.2.2.2.2 gX9_leg_X9_legAt rfl rfl rfl (by decide +kernel) ⟨Nat.le_of_ble_eq_true rfl, Nat.le_of_ble_eq_true rfl⟩) rfl hl.1 rfl (Nat.le_of_ble_eq_true rfl) ⟨Nat.zero_le _, Nat.zero_le _⟩ dX9_leg_23 (fun v I1 L1 H locs hR G => ?_)
  obtain ⟨hv, hI, hL⟩ := hR
  subst hv
  have G : GS E I L sg H locs := G.same hI hL
  refine W.eq (g2 := F0 mg 26 ls [.int (8 : Int32)]) rfl ?_
  refine lv_istore_n (lv' := [(3, .int (8 : Int32)), (0, .ref (E.2.2.2 161)), (1, .int (0 : Int32)), (2, .int (4 : Int32))]) S.1 S.2.1 dX9_leg_26 rfl hl (by decide) rfl (fun ls hl => ?_)
  refine lv_iload_n S.1 S.2.1 dX9_leg_27 rfl (lv_at hl 3 rfl) ?_
  refine lv_tableIn (off := 81) (tgt := 109) S.1 S.2.1 dX9_leg_28 (by decide) (by decide) (by decide) (by decide) ?_
  refine lv_aload_n S.1 S.2.1 dX9_leg_109 rfl (lv_at hl 1 rfl) ?_
  refine s_get S hX G (i := 161) (kd := 9) (a := (I 161)) (v := .ref (E.2.2.2 162)) (C := RX9) (T := TX9) (N := 13) 0 (rfl : sh 161 = 9) rfl rfl rfl (by decide) rfl (fun _ h => (List.mem_cons_of_mem _ (List.mem_append_right _ h))) (by decide) (List.mem_of_getElem? (i := 3) rfl) (fun _ h => h) dX9_leg_110 ?_
  refine lv_iload_n S.1 S.2.1 dX9_leg_113 rfl (lv_at hl 0 rfl) ?_
  refine lv_iconst (v := (3 : Int32)) S.1 S.2.1 dX9_leg_114 (by decide) ?_
  refine s_iadd (v := (11 : Int32)) S dX9_leg_115 (by decide) ?_
  refine s_iald S hX G (i := 162) (kd := 284) (n := 270) (a := d) (x := (d 11)) (rfl : sh 162 = 284) e_d rfl (by decide) (by unfold vp_in; decide) (congrArg d (by decide)) dX9_leg_116 ?_
  refine s_iret (x := (d 11)) S G hr hlk dX9_leg_117 ?_
  exact ⟨rfl, rfl, rfl⟩
set_option maxHeartbeats 4000000 in
set_option maxRecDepth 100000 in
theorem k_X9_leg_0_5 (l : Launch) (E : Ev) {I : SI} {L : SL} (d : Nat → Int32) (e_d : I (162) = d) : CS l yX9_leg wsX9_leg ({ frames := 2, cells := 0, slots := 0, locals := 45 }) E [.ref (E.2.2.2 161), .int (0 : Int32), .int (5 : Int32)] I L (fun vv I' L' => vv = some (.int (d 12)) ∧ I' = I ∧ L' = L) := by
  refine CS.of (cc := cX9_leg) (maxL := 4) (ret := (some .int)) (by decide) rfl (Nat.le_of_ble_eq_true rfl) ?_
  intro pg en sg mg below meth cg ls S hr hlk hX G hl
  have S : CallFix pg mg cg cX9_leg 4 sg _ wsX9_leg RX9 := S
  have hl : lv_has ls 4 [(0, .ref (E.2.2.2 161)), (1, .int (0 : Int32)), (2, .int (5 : Int32))] := hl
  refine lv_iload_n S.1 S.2.1 dX9_leg_0 rfl (lv_at hl 1 rfl) ?_
  refine s_callS (As := [.int (0 : Int32)]) (rest := []) S hX G (k_X9_isLeg l E (0 : Int32)) (va_cwS (bytes := cX9_isLeg) (maxL := 1) (ret := (some .boolean)) 1 S.2.2.2.2 gX9_leg_X9_isLeg rfl rfl rfl (by decide +kernel) ⟨Nat.le_of_ble_eq_true rfl, Nat.le_of_ble_eq_true rfl⟩) rfl hl.1 rfl (Nat.le_of_ble_eq_true rfl) ⟨Nat.zero_le _, Nat.zero_le _⟩ dX9_leg_1 (fun v I1 L1 H locs hR G => ?_)
  obtain ⟨hv, hI, hL⟩ := hR
  subst hv
  have G : GS E I L sg H locs := G.same hI hL
  refine W.eq (g2 := F0 mg 4 ls [.int (if ¬ (0 : Int32) < (0 : Int32) ∧ ¬ (3 : Int32) < (0 : Int32) then 1 else 0)]) rfl ?_
  refine s_if_eq_b (P := ¬ (0 : Int32) < (0 : Int32) ∧ ¬ (3 : Int32) < (0 : Int32)) (tgt := 19) S dX9_leg_4 (by decide) (fun h => absurd (by decide) h) (fun _ => ?_)
  refine lv_iload_n S.1 S.2.1 dX9_leg_7 rfl (lv_at hl 2 rfl) ?_
  refine lv_i2l (v := (5 : Int64)) S.1 S.2.1 dX9_leg_8 (by decide) ?_
  refine lv_lconst (v := (0 : Int64)) S.1 S.2.1 dX9_leg_9 (by decide) ?_
  refine lv_ldc2 (v := (7 : Int64)) S.1 S.2.1 S.2.2.2.1 (S.2.2.2.2 _ (List.mem_of_getElem? (i := 1) rfl)) dX9_leg_10 ?_
  refine s_callS (As := [.long (5 : Int64), .long (0 : Int64), .long (7 : Int64)]) (rest := []) S hX G (k_X9_in l E (5 : Int64) (0 : Int64) (7 : Int64)) (va_cwS (bytes := cX9_in) (maxL := 6) (ret := (some .boolean)) 3 S.2.2.2.2 gX9_leg_X9_in rfl rfl rfl (by decide +kernel) ⟨Nat.le_of_ble_eq_true rfl, Nat.le_of_ble_eq_true rfl⟩) rfl hl.1 rfl (Nat.le_of_ble_eq_true rfl) ⟨Nat.zero_le _, Nat.zero_le _⟩ dX9_leg_13 (fun v I1 L1 H locs hR G => ?_)
  obtain ⟨hv, hI, hL⟩ := hR
  subst hv
  have G : GS E I L sg H locs := G.same hI hL
  refine W.eq (g2 := F0 mg 16 ls [.int (if ¬ (5 : Int64) < (0 : Int64) ∧ ¬ (7 : Int64) < (5 : Int64) then 1 else 0)]) rfl ?_
  refine s_if_ne_b (P := ¬ (5 : Int64) < (0 : Int64) ∧ ¬ (7 : Int64) < (5 : Int64)) (tgt := 22) S dX9_leg_16 (by decide) (fun _ => ?_) (fun h => absurd (by decide) h)
  refine lv_iload_n S.1 S.2.1 dX9_leg_22 rfl (lv_at hl 1 rfl) ?_
  refine s_callS (As := [.int (0 : Int32)]) (rest := []) S hX G (k_X9_legAt_0 l E) (va_cwS (bytes := cX9_legAt) (maxL := 1) (ret := (some .int)) 1 S.2.2.2.2 gX9_leg_X9_legAt rfl rfl rfl (by decide +kernel) ⟨Nat.le_of_ble_eq_true rfl, Nat.le_of_ble_eq_true rfl⟩) rfl hl.1 rfl (Nat.le_of_ble_eq_true rfl) ⟨Nat.zero_le _, Nat.zero_le _⟩ dX9_leg_23 (fun v I1 L1 H locs hR G => ?_)
  obtain ⟨hv, hI, hL⟩ := hR
  subst hv
  have G : GS E I L sg H locs := G.same hI hL
  refine W.eq (g2 := F0 mg 26 ls [.int (8 : Int32)]) rfl ?_
  refine lv_istore_n (lv' := [(3, .int (8 : Int32)), (0, .ref (E.2.2.2 161)), (1, .int (0 : Int32)), (2, .int (5 : Int32))]) S.1 S.2.1 dX9_leg_26 rfl hl (by decide) rfl (fun ls hl => ?_)
  refine lv_iload_n S.1 S.2.1 dX9_leg_27 rfl (lv_at hl 3 rfl) ?_
  refine lv_tableOut (tgt := 118) S.1 S.2.1 dX9_leg_28 (by decide) (by decide) ?_
  refine lv_aload_n S.1 S.2.1 dX9_leg_118 rfl (lv_at hl 1 rfl) ?_
  refine s_get S hX G (i := 161) (kd := 9) (a := (I 161)) (v := .ref (E.2.2.2 162)) (C := RX9) (T := TX9) (N := 13) 0 (rfl : sh 161 = 9) rfl rfl rfl (by decide) rfl (fun _ h => (List.mem_cons_of_mem _ (List.mem_append_right _ h))) (by decide) (List.mem_of_getElem? (i := 3) rfl) (fun _ h => h) dX9_leg_119 ?_
  refine lv_iload_n S.1 S.2.1 dX9_leg_122 rfl (lv_at hl 0 rfl) ?_
  refine lv_iconst (v := (4 : Int32)) S.1 S.2.1 dX9_leg_123 (by decide) ?_
  refine s_iadd (v := (12 : Int32)) S dX9_leg_124 (by decide) ?_
  refine lv_iload_n S.1 S.2.1 dX9_leg_125 rfl (lv_at hl 3 rfl) ?_
  refine s_iadd (v := (17 : Int32)) S dX9_leg_126 (by decide) ?_
  refine lv_iconst (v := (5 : Int32)) S.1 S.2.1 dX9_leg_127 (by decide) ?_
  refine s_isub (v := (12 : Int32)) S dX9_leg_128 (by decide) ?_
  refine s_iald S hX G (i := 162) (kd := 284) (n := 270) (a := d) (x := (d 12)) (rfl : sh 162 = 284) e_d rfl (by decide) (by unfold vp_in; decide) (congrArg d (by decide)) dX9_leg_129 ?_
  refine s_iret (x := (d 12)) S G hr hlk dX9_leg_130 ?_
  exact ⟨rfl, rfl, rfl⟩
set_option maxHeartbeats 4000000 in
set_option maxRecDepth 100000 in
theorem k_X9_leg_0_6 (l : Launch) (E : Ev) {I : SI} {L : SL} (d : Nat → Int32) (e_d : I (162) = d) : CS l yX9_leg wsX9_leg ({ frames := 2, cells := 0, slots := 0, locals := 45 }) E [.ref (E.2.2.2 161), .int (0 : Int32), .int (6 : Int32)] I L (fun vv I' L' => vv = some (.int (d 13)) ∧ I' = I ∧ L' = L) := by
  refine CS.of (cc := cX9_leg) (maxL := 4) (ret := (some .int)) (by decide) rfl (Nat.le_of_ble_eq_true rfl) ?_
  intro pg en sg mg below meth cg ls S hr hlk hX G hl
  have S : CallFix pg mg cg cX9_leg 4 sg _ wsX9_leg RX9 := S
  have hl : lv_has ls 4 [(0, .ref (E.2.2.2 161)), (1, .int (0 : Int32)), (2, .int (6 : Int32))] := hl
  refine lv_iload_n S.1 S.2.1 dX9_leg_0 rfl (lv_at hl 1 rfl) ?_
  refine s_callS (As := [.int (0 : Int32)]) (rest := []) S hX G (k_X9_isLeg l E (0 : Int32)) (va_cwS (bytes := cX9_isLeg) (maxL := 1) (ret := (some .boolean)) 1 S.2.2.2.2 gX9_leg_X9_isLeg rfl rfl rfl (by decide +kernel) ⟨Nat.le_of_ble_eq_true rfl, Nat.le_of_ble_eq_true rfl⟩) rfl hl.1 rfl (Nat.le_of_ble_eq_true rfl) ⟨Nat.zero_le _, Nat.zero_le _⟩ dX9_leg_1 (fun v I1 L1 H locs hR G => ?_)
  obtain ⟨hv, hI, hL⟩ := hR
  subst hv
  have G : GS E I L sg H locs := G.same hI hL
  refine W.eq (g2 := F0 mg 4 ls [.int (if ¬ (0 : Int32) < (0 : Int32) ∧ ¬ (3 : Int32) < (0 : Int32) then 1 else 0)]) rfl ?_
  refine s_if_eq_b (P := ¬ (0 : Int32) < (0 : Int32) ∧ ¬ (3 : Int32) < (0 : Int32)) (tgt := 19) S dX9_leg_4 (by decide) (fun h => absurd (by decide) h) (fun _ => ?_)
  refine lv_iload_n S.1 S.2.1 dX9_leg_7 rfl (lv_at hl 2 rfl) ?_
  refine lv_i2l (v := (6 : Int64)) S.1 S.2.1 dX9_leg_8 (by decide) ?_
  refine lv_lconst (v := (0 : Int64)) S.1 S.2.1 dX9_leg_9 (by decide) ?_
  refine lv_ldc2 (v := (7 : Int64)) S.1 S.2.1 S.2.2.2.1 (S.2.2.2.2 _ (List.mem_of_getElem? (i := 1) rfl)) dX9_leg_10 ?_
  refine s_callS (As := [.long (6 : Int64), .long (0 : Int64), .long (7 : Int64)]) (rest := []) S hX G (k_X9_in l E (6 : Int64) (0 : Int64) (7 : Int64)) (va_cwS (bytes := cX9_in) (maxL := 6) (ret := (some .boolean)) 3 S.2.2.2.2 gX9_leg_X9_in rfl rfl rfl (by decide +kernel) ⟨Nat.le_of_ble_eq_true rfl, Nat.le_of_ble_eq_true rfl⟩) rfl hl.1 rfl (Nat.le_of_ble_eq_true rfl) ⟨Nat.zero_le _, Nat.zero_le _⟩ dX9_leg_13 (fun v I1 L1 H locs hR G => ?_)
  obtain ⟨hv, hI, hL⟩ := hR
  subst hv
  have G : GS E I L sg H locs := G.same hI hL
  refine W.eq (g2 := F0 mg 16 ls [.int (if ¬ (6 : Int64) < (0 : Int64) ∧ ¬ (7 : Int64) < (6 : Int64) then 1 else 0)]) rfl ?_
  refine s_if_ne_b (P := ¬ (6 : Int64) < (0 : Int64) ∧ ¬ (7 : Int64) < (6 : Int64)) (tgt := 22) S dX9_leg_16 (by decide) (fun _ => ?_) (fun h => absurd (by decide) h)
  refine lv_iload_n S.1 S.2.1 dX9_leg_22 rfl (lv_at hl 1 rfl) ?_
  refine s_callS (As := [.int (0 : Int32)]) (rest := []) S hX G (k_X9_legAt_0 l E) (va_cwS (bytes := cX9_legAt) (maxL := 1) (ret := (some .int)) 1 S.2.2.2.2 gX9_leg_X9_legAt rfl rfl rfl (by decide +kernel) ⟨Nat.le_of_ble_eq_true rfl, Nat.le_of_ble_eq_true rfl⟩) rfl hl.1 rfl (Nat.le_of_ble_eq_true rfl) ⟨Nat.zero_le _, Nat.zero_le _⟩ dX9_leg_23 (fun v I1 L1 H locs hR G => ?_)
  obtain ⟨hv, hI, hL⟩ := hR
  subst hv
  have G : GS E I L sg H locs := G.same hI hL
  refine W.eq (g2 := F0 mg 26 ls [.int (8 : Int32)]) rfl ?_
  refine lv_istore_n (lv' := [(3, .int (8 : Int32)), (0, .ref (E.2.2.2 161)), (1, .int (0 : Int32)), (2, .int (6 : Int32))]) S.1 S.2.1 dX9_leg_26 rfl hl (by decide) rfl (fun ls hl => ?_)
  refine lv_iload_n S.1 S.2.1 dX9_leg_27 rfl (lv_at hl 3 rfl) ?_
  refine lv_tableOut (tgt := 118) S.1 S.2.1 dX9_leg_28 (by decide) (by decide) ?_
  refine lv_aload_n S.1 S.2.1 dX9_leg_118 rfl (lv_at hl 1 rfl) ?_
  refine s_get S hX G (i := 161) (kd := 9) (a := (I 161)) (v := .ref (E.2.2.2 162)) (C := RX9) (T := TX9) (N := 13) 0 (rfl : sh 161 = 9) rfl rfl rfl (by decide) rfl (fun _ h => (List.mem_cons_of_mem _ (List.mem_append_right _ h))) (by decide) (List.mem_of_getElem? (i := 3) rfl) (fun _ h => h) dX9_leg_119 ?_
  refine lv_iload_n S.1 S.2.1 dX9_leg_122 rfl (lv_at hl 0 rfl) ?_
  refine lv_iconst (v := (4 : Int32)) S.1 S.2.1 dX9_leg_123 (by decide) ?_
  refine s_iadd (v := (12 : Int32)) S dX9_leg_124 (by decide) ?_
  refine lv_iload_n S.1 S.2.1 dX9_leg_125 rfl (lv_at hl 3 rfl) ?_
  refine s_iadd (v := (18 : Int32)) S dX9_leg_126 (by decide) ?_
  refine lv_iconst (v := (5 : Int32)) S.1 S.2.1 dX9_leg_127 (by decide) ?_
  refine s_isub (v := (13 : Int32)) S dX9_leg_128 (by decide) ?_
  refine s_iald S hX G (i := 162) (kd := 284) (n := 270) (a := d) (x := (d 13)) (rfl : sh 162 = 284) e_d rfl (by decide) (by unfold vp_in; decide) (congrArg d (by decide)) dX9_leg_129 ?_
  refine s_iret (x := (d 13)) S G hr hlk dX9_leg_130 ?_
  exact ⟨rfl, rfl, rfl⟩
set_option maxHeartbeats 4000000 in
set_option maxRecDepth 100000 in
theorem k_X9_leg_0_7 (l : Launch) (E : Ev) {I : SI} {L : SL} (d : Nat → Int32) (e_d : I (162) = d) : CS l yX9_leg wsX9_leg ({ frames := 2, cells := 0, slots := 0, locals := 45 }) E [.ref (E.2.2.2 161), .int (0 : Int32), .int (7 : Int32)] I L (fun vv I' L' => vv = some (.int (d 14)) ∧ I' = I ∧ L' = L) := by
  refine CS.of (cc := cX9_leg) (maxL := 4) (ret := (some .int)) (by decide) rfl (Nat.le_of_ble_eq_true rfl) ?_
  intro pg en sg mg below meth cg ls S hr hlk hX G hl
  have S : CallFix pg mg cg cX9_leg 4 sg _ wsX9_leg RX9 := S
  have hl : lv_has ls 4 [(0, .ref (E.2.2.2 161)), (1, .int (0 : Int32)), (2, .int (7 : Int32))] := hl
  refine lv_iload_n S.1 S.2.1 dX9_leg_0 rfl (lv_at hl 1 rfl) ?_
  refine s_callS (As := [.int (0 : Int32)]) (rest := []) S hX G (k_X9_isLeg l E (0 : Int32)) (va_cwS (bytes := cX9_isLeg) (maxL := 1) (ret := (some .boolean)) 1 S.2.2.2.2 gX9_leg_X9_isLeg rfl rfl rfl (by decide +kernel) ⟨Nat.le_of_ble_eq_true rfl, Nat.le_of_ble_eq_true rfl⟩) rfl hl.1 rfl (Nat.le_of_ble_eq_true rfl) ⟨Nat.zero_le _, Nat.zero_le _⟩ dX9_leg_1 (fun v I1 L1 H locs hR G => ?_)
  obtain ⟨hv, hI, hL⟩ := hR
  subst hv
  have G : GS E I L sg H locs := G.same hI hL
  refine W.eq (g2 := F0 mg 4 ls [.int (if ¬ (0 : Int32) < (0 : Int32) ∧ ¬ (3 : Int32) < (0 : Int32) then 1 else 0)]) rfl ?_
  refine s_if_eq_b (P := ¬ (0 : Int32) < (0 : Int32) ∧ ¬ (3 : Int32) < (0 : Int32)) (tgt := 19) S dX9_leg_4 (by decide) (fun h => absurd (by decide) h) (fun _ => ?_)
  refine lv_iload_n S.1 S.2.1 dX9_leg_7 rfl (lv_at hl 2 rfl) ?_
  refine lv_i2l (v := (7 : Int64)) S.1 S.2.1 dX9_leg_8 (by decide) ?_
  refine lv_lconst (v := (0 : Int64)) S.1 S.2.1 dX9_leg_9 (by decide) ?_
  refine lv_ldc2 (v := (7 : Int64)) S.1 S.2.1 S.2.2.2.1 (S.2.2.2.2 _ (List.mem_of_getElem? (i := 1) rfl)) dX9_leg_10 ?_
  refine s_callS (As := [.long (7 : Int64), .long (0 : Int64), .long (7 : Int64)]) (rest := []) S hX G (k_X9_in l E (7 : Int64) (0 : Int64) (7 : Int64)) (va_cwS (bytes := cX9_in) (maxL := 6) (ret := (some .boolean)) 3 S.2.2.2.2 gX9_leg_X9_in rfl rfl rfl (by decide +kernel) ⟨Nat.le_of_ble_eq_true rfl, Nat.le_of_ble_eq_true rfl⟩) rfl hl.1 rfl (Nat.le_of_ble_eq_true rfl) ⟨Nat.zero_le _, Nat.zero_le _⟩ dX9_leg_13 (fun v I1 L1 H locs hR G => ?_)
  obtain ⟨hv, hI, hL⟩ := hR
  subst hv
  have G : GS E I L sg H locs := G.same hI hL
  refine W.eq (g2 := F0 mg 16 ls [.int (if ¬ (7 : Int64) < (0 : Int64) ∧ ¬ (7 : Int64) < (7 : Int64) then 1 else 0)]) rfl ?_
  refine s_if_ne_b (P := ¬ (7 : Int64) < (0 : Int64) ∧ ¬ (7 : Int64) < (7 : Int64)) (tgt := 22) S dX9_leg_16 (by decide) (fun _ => ?_) (fun h => absurd (by decide) h)
  refine lv_iload_n S.1 S.2.1 dX9_leg_22 rfl (lv_at hl 1 rfl) ?_
  refine s_callS (As := [.int (0 : Int32)]) (rest := []) S hX G (k_X9_legAt_0 l E) (va_cwS (bytes := cX9_legAt) (maxL := 1) (ret := (some .int)) 1 S.2.2.2.2 gX9_leg_X9_legAt rfl rfl rfl (by decide +kernel) ⟨Nat.le_of_ble_eq_true rfl, Nat.le_of_ble_eq_true rfl⟩) rfl hl.1 rfl (Nat.le_of_ble_eq_true rfl) ⟨Nat.zero_le _, Nat.zero_le _⟩ dX9_leg_23 (fun v I1 L1 H locs hR G => ?_)
  obtain ⟨hv, hI, hL⟩ := hR
  subst hv
  have G : GS E I L sg H locs := G.same hI hL
  refine W.eq (g2 := F0 mg 26 ls [.int (8 : Int32)]) rfl ?_
  refine lv_istore_n (lv' := [(3, .int (8 : Int32)), (0, .ref (E.2.2.2 161)), (1, .int (0 : Int32)), (2, .int (7 : Int32))]) S.1 S.2.1 dX9_leg_26 rfl hl (by decide) rfl (fun ls hl => ?_)
  refine lv_iload_n S.1 S.2.1 dX9_leg_27 rfl (lv_at hl 3 rfl) ?_
  refine lv_tableOut (tgt := 118) S.1 S.2.1 dX9_leg_28 (by decide) (by decide) ?_
  refine lv_aload_n S.1 S.2.1 dX9_leg_118 rfl (lv_at hl 1 rfl) ?_
  refine s_get S hX G (i := 161) (kd := 9) (a := (I 161)) (v := .ref (E.2.2.2 162)) (C := RX9) (T := TX9) (N := 13) 0 (rfl : sh 161 = 9) rfl rfl rfl (by decide) rfl (fun _ h => (List.mem_cons_of_mem _ (List.mem_append_right _ h))) (by decide) (List.mem_of_getElem? (i := 3) rfl) (fun _ h => h) dX9_leg_119 ?_
  refine lv_iload_n S.1 S.2.1 dX9_leg_122 rfl (lv_at hl 0 rfl) ?_
  refine lv_iconst (v := (4 : Int32)) S.1 S.2.1 dX9_leg_123 (by decide) ?_
  refine s_iadd (v := (12 : Int32)) S dX9_leg_124 (by decide) ?_
  refine lv_iload_n S.1 S.2.1 dX9_leg_125 rfl (lv_at hl 3 rfl) ?_
  refine s_iadd (v := (19 : Int32)) S dX9_leg_126 (by decide) ?_
  refine lv_iconst (v := (5 : Int32)) S.1 S.2.1 dX9_leg_127 (by decide) ?_
  refine s_isub (v := (14 : Int32)) S dX9_leg_128 (by decide) ?_
  refine s_iald S hX G (i := 162) (kd := 284) (n := 270) (a := d) (x := (d 14)) (rfl : sh 162 = 284) e_d rfl (by decide) (by unfold vp_in; decide) (congrArg d (by decide)) dX9_leg_129 ?_
  refine s_iret (x := (d 14)) S G hr hlk dX9_leg_130 ?_
  exact ⟨rfl, rfl, rfl⟩
set_option maxHeartbeats 4000000 in
set_option maxRecDepth 100000 in
theorem k_X9_leg_1_0 (l : Launch) (E : Ev) {I : SI} {L : SL} (d : Nat → Int32) (e_d : I (162) = d) : CS l yX9_leg wsX9_leg ({ frames := 2, cells := 0, slots := 0, locals := 45 }) E [.ref (E.2.2.2 161), .int (1 : Int32), .int (0 : Int32)] I L (fun vv I' L' => vv = some (.int (d 16)) ∧ I' = I ∧ L' = L) := by
  refine CS.of (cc := cX9_leg) (maxL := 4) (ret := (some .int)) (by decide) rfl (Nat.le_of_ble_eq_true rfl) ?_
  intro pg en sg mg below meth cg ls S hr hlk hX G hl
  have S : CallFix pg mg cg cX9_leg 4 sg _ wsX9_leg RX9 := S
  have hl : lv_has ls 4 [(0, .ref (E.2.2.2 161)), (1, .int (1 : Int32)), (2, .int (0 : Int32))] := hl
  refine lv_iload_n S.1 S.2.1 dX9_leg_0 rfl (lv_at hl 1 rfl) ?_
  refine s_callS (As := [.int (1 : Int32)]) (rest := []) S hX G (k_X9_isLeg l E (1 : Int32)) (va_cwS (bytes := cX9_isLeg) (maxL := 1) (ret := (some .boolean)) 1 S.2.2.2.2 gX9_leg_X9_isLeg rfl rfl rfl (by decide +kernel) ⟨Nat.le_of_ble_eq_true rfl, Nat.le_of_ble_eq_true rfl⟩) rfl hl.1 rfl (Nat.le_of_ble_eq_true rfl) ⟨Nat.zero_le _, Nat.zero_le _⟩ dX9_leg_1 (fun v I1 L1 H locs hR G => ?_)
  obtain ⟨hv, hI, hL⟩ := hR
  subst hv
  have G : GS E I L sg H locs := G.same hI hL
  refine W.eq (g2 := F0 mg 4 ls [.int (if ¬ (1 : Int32) < (0 : Int32) ∧ ¬ (3 : Int32) < (1 : Int32) then 1 else 0)]) rfl ?_
  refine s_if_eq_b (P := ¬ (1 : Int32) < (0 : Int32) ∧ ¬ (3 : Int32) < (1 : Int32)) (tgt := 19) S dX9_leg_4 (by decide) (fun h => absurd (by decide) h) (fun _ => ?_)
  refine lv_iload_n S.1 S.2.1 dX9_leg_7 rfl (lv_at hl 2 rfl) ?_
  refine lv_i2l (v := (0 : Int64)) S.1 S.2.1 dX9_leg_8 (by decide) ?_
  refine lv_lconst (v := (0 : Int64)) S.1 S.2.1 dX9_leg_9 (by decide) ?_
  refine lv_ldc2 (v := (7 : Int64)) S.1 S.2.1 S.2.2.2.1 (S.2.2.2.2 _ (List.mem_of_getElem? (i := 1) rfl)) dX9_leg_10 ?_
  refine s_callS (As := [.long (0 : Int64), .long (0 : Int64), .long (7 : Int64)]) (rest := []) S hX G (k_X9_in l E (0 : Int64) (0 : Int64) (7 : Int64)) (va_cwS (bytes := cX9_in) (maxL := 6) (ret := (some .boolean)) 3 S.2.2.2.2 gX9_leg_X9_in rfl rfl rfl (by decide +kernel) ⟨Nat.le_of_ble_eq_true rfl, Nat.le_of_ble_eq_true rfl⟩) rfl hl.1 rfl (Nat.le_of_ble_eq_true rfl) ⟨Nat.zero_le _, Nat.zero_le _⟩ dX9_leg_13 (fun v I1 L1 H locs hR G => ?_)
  obtain ⟨hv, hI, hL⟩ := hR
  subst hv
  have G : GS E I L sg H locs := G.same hI hL
  refine W.eq (g2 := F0 mg 16 ls [.int (if ¬ (0 : Int64) < (0 : Int64) ∧ ¬ (7 : Int64) < (0 : Int64) then 1 else 0)]) rfl ?_
  refine s_if_ne_b (P := ¬ (0 : Int64) < (0 : Int64) ∧ ¬ (7 : Int64) < (0 : Int64)) (tgt := 22) S dX9_leg_16 (by decide) (fun _ => ?_) (fun h => absurd (by decide) h)
  refine lv_iload_n S.1 S.2.1 dX9_leg_22 rfl (lv_at hl 1 rfl) ?_
  refine s_callS (As := [.int (1 : Int32)]) (rest := []) S hX G (k_X9_legAt_1 l E) (va_cwS (bytes := cX9_legAt) (maxL := 1) (ret := (some .int)) 1 S.2.2.2.2 gX9_leg_X9_legAt rfl rfl rfl (by decide +kernel) ⟨Nat.le_of_ble_eq_true rfl, Nat.le_of_ble_eq_true rfl⟩) rfl hl.1 rfl (Nat.le_of_ble_eq_true rfl) ⟨Nat.zero_le _, Nat.zero_le _⟩ dX9_leg_23 (fun v I1 L1 H locs hR G => ?_)
  obtain ⟨hv, hI, hL⟩ := hR
  subst hv
  have G : GS E I L sg H locs := G.same hI hL
  refine W.eq (g2 := F0 mg 26 ls [.int (16 : Int32)]) rfl ?_
  refine lv_istore_n (lv' := [(3, .int (16 : Int32)), (0, .ref (E.2.2.2 161)), (1, .int (1 : Int32)), (2, .int (0 : Int32))]) S.1 S.2.1 dX9_leg_26 rfl hl (by decide) rfl (fun ls hl => ?_)
  refine lv_iload_n S.1 S.2.1 dX9_leg_27 rfl (lv_at hl 3 rfl) ?_
  refine lv_tableIn (off := 36) (tgt := 64) S.1 S.2.1 dX9_leg_28 (by decide) (by decide) (by decide) (by decide) ?_
  refine lv_aload_n S.1 S.2.1 dX9_leg_64 rfl (lv_at hl 1 rfl) ?_
  refine s_get S hX G (i := 161) (kd := 9) (a := (I 161)) (v := .ref (E.2.2.2 162)) (C := RX9) (T := TX9) (N := 13) 0 (rfl : sh 161 = 9) rfl rfl rfl (by decide) rfl (fun _ h => (List.mem_cons_of_mem _ (List.mem_append_right _ h))) (by decide) (List.mem_of_getElem? (i := 3) rfl) (fun _ h => h) dX9_leg_65 ?_
  refine lv_iload_n S.1 S.2.1 dX9_leg_68 rfl (lv_at hl 0 rfl) ?_
  refine lv_iload_n S.1 S.2.1 dX9_leg_69 rfl (lv_at hl 3 rfl) ?_
  refine s_iadd (v := (16 : Int32)) S dX9_leg_70 (by decide) ?_
  refine s_iald S hX G (i := 162) (kd := 284) (n := 270) (a := d) (x := (d 16)) (rfl : sh 162 = 284) e_d rfl (by decide) (by unfold vp_in; decide) (congrArg d (by decide)) dX9_leg_71 ?_
  refine s_iret (x := (d 16)) S G hr hlk dX9_leg_72 ?_
  exact ⟨rfl, rfl, rfl⟩
set_option maxHeartbeats 4000000 in
set_option maxRecDepth 100000 in
theorem k_X9_leg_1_1 (l : Launch) (E : Ev) {I : SI} {L : SL} (d : Nat → Int32) (e_d : I (162) = d) : CS l yX9_leg wsX9_leg ({ frames := 2, cells := 0, slots := 0, locals := 45 }) E [.ref (E.2.2.2 161), .int (1 : Int32), .int (1 : Int32)] I L (fun vv I' L' => vv = some (.int (d 17)) ∧ I' = I ∧ L' = L) := by
  refine CS.of (cc := cX9_leg) (maxL := 4) (ret := (some .int)) (by decide) rfl (Nat.le_of_ble_eq_true rfl) ?_
  intro pg en sg mg below meth cg ls S hr hlk hX G hl
  have S : CallFix pg mg cg cX9_leg 4 sg _ wsX9_leg RX9 := S
  have hl : lv_has ls 4 [(0, .ref (E.2.2.2 161)), (1, .int (1 : Int32)), (2, .int (1 : Int32))] := hl
  refine lv_iload_n S.1 S.2.1 dX9_leg_0 rfl (lv_at hl 1 rfl) ?_
  refine s_callS (As := [.int (1 : Int32)]) (rest := []) S hX G (k_X9_isLeg l E (1 : Int32)) (va_cwS (bytes := cX9_isLeg) (maxL := 1) (ret := (some .boolean)) 1 S.2.2.2.2 gX9_leg_X9_isLeg rfl rfl rfl (by decide +kernel) ⟨Nat.le_of_ble_eq_true rfl, Nat.le_of_ble_eq_true rfl⟩) rfl hl.1 rfl (Nat.le_of_ble_eq_true rfl) ⟨Nat.zero_le _, Nat.zero_le _⟩ dX9_leg_1 (fun v I1 L1 H locs hR G => ?_)
  obtain ⟨hv, hI, hL⟩ := hR
  subst hv
  have G : GS E I L sg H locs := G.same hI hL
  refine W.eq (g2 := F0 mg 4 ls [.int (if ¬ (1 : Int32) < (0 : Int32) ∧ ¬ (3 : Int32) < (1 : Int32) then 1 else 0)]) rfl ?_
  refine s_if_eq_b (P := ¬ (1 : Int32) < (0 : Int32) ∧ ¬ (3 : Int32) < (1 : Int32)) (tgt := 19) S dX9_leg_4 (by decide) (fun h => absurd (by decide) h) (fun _ => ?_)
  refine lv_iload_n S.1 S.2.1 dX9_leg_7 rfl (lv_at hl 2 rfl) ?_
  refine lv_i2l (v := (1 : Int64)) S.1 S.2.1 dX9_leg_8 (by decide) ?_
  refine lv_lconst (v := (0 : Int64)) S.1 S.2.1 dX9_leg_9 (by decide) ?_
  refine lv_ldc2 (v := (7 : Int64)) S.1 S.2.1 S.2.2.2.1 (S.2.2.2.2 _ (List.mem_of_getElem? (i := 1) rfl)) dX9_leg_10 ?_
  refine s_callS (As := [.long (1 : Int64), .long (0 : Int64), .long (7 : Int64)]) (rest := []) S hX G (k_X9_in l E (1 : Int64) (0 : Int64) (7 : Int64)) (va_cwS (bytes := cX9_in) (maxL := 6) (ret := (some .boolean)) 3 S.2.2.2.2 gX9_leg_X9_in rfl rfl rfl (by decide +kernel) ⟨Nat.le_of_ble_eq_true rfl, Nat.le_of_ble_eq_true rfl⟩) rfl hl.1 rfl (Nat.le_of_ble_eq_true rfl) ⟨Nat.zero_le _, Nat.zero_le _⟩ dX9_leg_13 (fun v I1 L1 H locs hR G => ?_)
  obtain ⟨hv, hI, hL⟩ := hR
  subst hv
  have G : GS E I L sg H locs := G.same hI hL
  refine W.eq (g2 := F0 mg 16 ls [.int (if ¬ (1 : Int64) < (0 : Int64) ∧ ¬ (7 : Int64) < (1 : Int64) then 1 else 0)]) rfl ?_
  refine s_if_ne_b (P := ¬ (1 : Int64) < (0 : Int64) ∧ ¬ (7 : Int64) < (1 : Int64)) (tgt := 22) S dX9_leg_16 (by decide) (fun _ => ?_) (fun h => absurd (by decide) h)
  refine lv_iload_n S.1 S.2.1 dX9_leg_22 rfl (lv_at hl 1 rfl) ?_
  refine s_callS (As := [.int (1 : Int32)]) (rest := []) S hX G (k_X9_legAt_1 l E) (va_cwS (bytes := cX9_legAt) (maxL := 1) (ret := (some .int)) 1 S.2.2.2.2 gX9_leg_X9_legAt rfl rfl rfl (by decide +kernel) ⟨Nat.le_of_ble_eq_true rfl, Nat.le_of_ble_eq_true rfl⟩) rfl hl.1 rfl (Nat.le_of_ble_eq_true rfl) ⟨Nat.zero_le _, Nat.zero_le _⟩ dX9_leg_23 (fun v I1 L1 H locs hR G => ?_)
  obtain ⟨hv, hI, hL⟩ := hR
  subst hv
  have G : GS E I L sg H locs := G.same hI hL
  refine W.eq (g2 := F0 mg 26 ls [.int (16 : Int32)]) rfl ?_
  refine lv_istore_n (lv' := [(3, .int (16 : Int32)), (0, .ref (E.2.2.2 161)), (1, .int (1 : Int32)), (2, .int (1 : Int32))]) S.1 S.2.1 dX9_leg_26 rfl hl (by decide) rfl (fun ls hl => ?_)
  refine lv_iload_n S.1 S.2.1 dX9_leg_27 rfl (lv_at hl 3 rfl) ?_
  refine lv_tableIn (off := 36) (tgt := 64) S.1 S.2.1 dX9_leg_28 (by decide) (by decide) (by decide) (by decide) ?_
  refine lv_aload_n S.1 S.2.1 dX9_leg_64 rfl (lv_at hl 1 rfl) ?_
  refine s_get S hX G (i := 161) (kd := 9) (a := (I 161)) (v := .ref (E.2.2.2 162)) (C := RX9) (T := TX9) (N := 13) 0 (rfl : sh 161 = 9) rfl rfl rfl (by decide) rfl (fun _ h => (List.mem_cons_of_mem _ (List.mem_append_right _ h))) (by decide) (List.mem_of_getElem? (i := 3) rfl) (fun _ h => h) dX9_leg_65 ?_
  refine lv_iload_n S.1 S.2.1 dX9_leg_68 rfl (lv_at hl 0 rfl) ?_
  refine lv_iload_n S.1 S.2.1 dX9_leg_69 rfl (lv_at hl 3 rfl) ?_
  refine s_iadd (v := (17 : Int32)) S dX9_leg_70 (by decide) ?_
  refine s_iald S hX G (i := 162) (kd := 284) (n := 270) (a := d) (x := (d 17)) (rfl : sh 162 = 284) e_d rfl (by decide) (by unfold vp_in; decide) (congrArg d (by decide)) dX9_leg_71 ?_
  refine s_iret (x := (d 17)) S G hr hlk dX9_leg_72 ?_
  exact ⟨rfl, rfl, rfl⟩
set_option maxHeartbeats 4000000 in
set_option maxRecDepth 100000 in
theorem k_X9_leg_1_2 (l : Launch) (E : Ev) {I : SI} {L : SL} (d : Nat → Int32) (e_d : I (162) = d) : CS l yX9_leg wsX9_leg ({ frames := 4, cells := 0, slots := 0, locals := 88 }) E [.ref (E.2.2.2 161), .int (1 : Int32), .int (2 : Int32)] I L (fun vv I' L' => vv = some (.int (wshF d 1 16 40)) ∧ I' = I ∧ L' = L) := by
  refine CS.of (cc := cX9_leg) (maxL := 4) (ret := (some .int)) (by decide) rfl (Nat.le_of_ble_eq_true rfl) ?_
  intro pg en sg mg below meth cg ls S hr hlk hX G hl
  have S : CallFix pg mg cg cX9_leg 4 sg _ wsX9_leg RX9 := S
  have hl : lv_has ls 4 [(0, .ref (E.2.2.2 161)), (1, .int (1 : Int32)), (2, .int (2 : Int32))] := hl
  refine lv_iload_n S.1 S.2.1 dX9_leg_0 rfl (lv_at hl 1 rfl) ?_
  refine s_callS (As := [.int (1 : Int32)]) (rest := []) S hX G (k_X9_isLeg l E (1 : Int32)) (va_cwS (bytes := cX9_isLeg) (maxL := 1) (ret := (some .boolean)) 1 S.2.2.2.2 gX9_leg_X9_isLeg rfl rfl rfl (by decide +kernel) ⟨Nat.le_of_ble_eq_true rfl, Nat.le_of_ble_eq_true rfl⟩) rfl hl.1 rfl (Nat.le_of_ble_eq_true rfl) ⟨Nat.zero_le _, Nat.zero_le _⟩ dX9_leg_1 (fun v I1 L1 H locs hR G => ?_)
  obtain ⟨hv, hI, hL⟩ := hR
  subst hv
  have G : GS E I L sg H locs := G.same hI hL
  refine W.eq (g2 := F0 mg 4 ls [.int (if ¬ (1 : Int32) < (0 : Int32) ∧ ¬ (3 : Int32) < (1 : Int32) then 1 else 0)]) rfl ?_
  refine s_if_eq_b (P := ¬ (1 : Int32) < (0 : Int32) ∧ ¬ (3 : Int32) < (1 : Int32)) (tgt := 19) S dX9_leg_4 (by decide) (fun h => absurd (by decide) h) (fun _ => ?_)
  refine lv_iload_n S.1 S.2.1 dX9_leg_7 rfl (lv_at hl 2 rfl) ?_
  refine lv_i2l (v := (2 : Int64)) S.1 S.2.1 dX9_leg_8 (by decide) ?_
  refine lv_lconst (v := (0 : Int64)) S.1 S.2.1 dX9_leg_9 (by decide) ?_
  refine lv_ldc2 (v := (7 : Int64)) S.1 S.2.1 S.2.2.2.1 (S.2.2.2.2 _ (List.mem_of_getElem? (i := 1) rfl)) dX9_leg_10 ?_
  refine s_callS (As := [.long (2 : Int64), .long (0 : Int64), .long (7 : Int64)]) (rest := []) S hX G (k_X9_in l E (2 : Int64) (0 : Int64) (7 : Int64)) (va_cwS (bytes := cX9_in) (maxL := 6) (ret := (some .boolean)) 3 S.2.2.2.2 gX9_leg_X9_in rfl rfl rfl (by decide +kernel) ⟨Nat.le_of_ble_eq_true rfl, Nat.le_of_ble_eq_true rfl⟩) rfl hl.1 rfl (Nat.le_of_ble_eq_true rfl) ⟨Nat.zero_le _, Nat.zero_le _⟩ dX9_leg_13 (fun v I1 L1 H locs hR G => ?_)
  obtain ⟨hv, hI, hL⟩ := hR
  subst hv
  have G : GS E I L sg H locs := G.same hI hL
  refine W.eq (g2 := F0 mg 16 ls [.int (if ¬ (2 : Int64) < (0 : Int64) ∧ ¬ (7 : Int64) < (2 : Int64) then 1 else 0)]) rfl ?_
  refine s_if_ne_b (P := ¬ (2 : Int64) < (0 : Int64) ∧ ¬ (7 : Int64) < (2 : Int64)) (tgt := 22) S dX9_leg_16 (by decide) (fun _ => ?_) (fun h => absurd (by decide) h)
  refine lv_iload_n S.1 S.2.1 dX9_leg_22 rfl (lv_at hl 1 rfl) ?_
  refine s_callS (As := [.int (1 : Int32)]) (rest := []) S hX G (k_X9_legAt_1 l E) (va_cwS (bytes := cX9_legAt) (maxL := 1) (ret := (some .int)) 1 S.2.2.2.2 gX9_leg_X9_legAt rfl rfl rfl (by decide +kernel) ⟨Nat.le_of_ble_eq_true rfl, Nat.le_of_ble_eq_true rfl⟩) rfl hl.1 rfl (Nat.le_of_ble_eq_true rfl) ⟨Nat.zero_le _, Nat.zero_le _⟩ dX9_leg_23 (fun v I1 L1 H locs hR G => ?_)
  obtain ⟨hv, hI, hL⟩ := hR
  subst hv
  have G : GS E I L sg H locs := G.same hI hL
  refine W.eq (g2 := F0 mg 26 ls [.int (16 : Int32)]) rfl ?_
  refine lv_istore_n (lv' := [(3, .int (16 : Int32)), (0, .ref (E.2.2.2 161)), (1, .int (1 : Int32)), (2, .int (2 : Int32))]) S.1 S.2.1 dX9_leg_26 rfl hl (by decide) rfl (fun ls hl => ?_)
  refine lv_iload_n S.1 S.2.1 dX9_leg_27 rfl (lv_at hl 3 rfl) ?_
  refine lv_tableIn (off := 45) (tgt := 73) S.1 S.2.1 dX9_leg_28 (by decide) (by decide) (by decide) (by decide) ?_
  refine lv_aload_n S.1 S.2.1 dX9_leg_73 rfl (lv_at hl 1 rfl) ?_
  refine lv_iload_n S.1 S.2.1 dX9_leg_74 rfl (lv_at hl 2 rfl) ?_
  refine s_callV (C := RX9) (As := [.int (1 : Int32)]) (rest := []) (i := 161) (kd := 9) S hX G (k_X9_wish_1 l E d e_d) (cwV (bytes := cX9_wish) (maxL := 4) (ret := (some .int)) 1 S.2.2.2.2 gX9_leg_X9_wish rfl rfl rfl (by decide +kernel) ⟨Nat.le_of_ble_eq_true rfl, Nat.le_of_ble_eq_true rfl⟩) (rfl : sh 161 = 9) rfl rfl rfl (by decide) rfl hl.1 rfl (Nat.le_of_ble_eq_true rfl) ⟨Nat.zero_le _, Nat.zero_le _⟩ dX9_leg_75 (fun v I1 L1 H locs hR G => ?_)
  obtain ⟨hv, hI, hL⟩ := hR
  subst hv
  have G : GS E I L sg H locs := G.same hI hL
  refine W.eq (g2 := F0 mg 78 ls [.int (wshF d 1 16 40)]) rfl ?_
  refine lv_topi (fun y_1 ey_1 => ?_)
  refine s_iret (x := y_1) S G hr hlk dX9_leg_78 ?_
  exact ⟨(congrArg (fun q : Int32 => some (Value.int q)) (show y_1 = (wshF d 1 16 40) by subst ey_1; (first | (simp []; done) | (clear S hX G hl; grind [])))), rfl, rfl⟩
set_option maxHeartbeats 4000000 in
set_option maxRecDepth 100000 in
theorem k_X9_leg_1_3 (l : Launch) (E : Ev) {I : SI} {L : SL} (d : Nat → Int32) (e_d : I (162) = d) : CS l yX9_leg wsX9_leg ({ frames := 2, cells := 0, slots := 0, locals := 45 }) E [.ref (E.2.2.2 161), .int (1 : Int32), .int (3 : Int32)] I L (fun vv I' L' => vv = some (.int (if d 18 = -1 then d 0 else d 18)) ∧ I' = I ∧ L' = L) := by
  refine CS.of (cc := cX9_leg) (maxL := 4) (ret := (some .int)) (by decide) rfl (Nat.le_of_ble_eq_true rfl) ?_
  intro pg en sg mg below meth cg ls S hr hlk hX G hl
  have S : CallFix pg mg cg cX9_leg 4 sg _ wsX9_leg RX9 := S
  have hl : lv_has ls 4 [(0, .ref (E.2.2.2 161)), (1, .int (1 : Int32)), (2, .int (3 : Int32))] := hl
  refine lv_iload_n S.1 S.2.1 dX9_leg_0 rfl (lv_at hl 1 rfl) ?_
  refine s_callS (As := [.int (1 : Int32)]) (rest := []) S hX G (k_X9_isLeg l E (1 : Int32)) (va_cwS (bytes := cX9_isLeg) (maxL := 1) (ret := (some .boolean)) 1 S.2.2.2.2 gX9_leg_X9_isLeg rfl rfl rfl (by decide +kernel) ⟨Nat.le_of_ble_eq_true rfl, Nat.le_of_ble_eq_true rfl⟩) rfl hl.1 rfl (Nat.le_of_ble_eq_true rfl) ⟨Nat.zero_le _, Nat.zero_le _⟩ dX9_leg_1 (fun v I1 L1 H locs hR G => ?_)
  obtain ⟨hv, hI, hL⟩ := hR
  subst hv
  have G : GS E I L sg H locs := G.same hI hL
  refine W.eq (g2 := F0 mg 4 ls [.int (if ¬ (1 : Int32) < (0 : Int32) ∧ ¬ (3 : Int32) < (1 : Int32) then 1 else 0)]) rfl ?_
  refine s_if_eq_b (P := ¬ (1 : Int32) < (0 : Int32) ∧ ¬ (3 : Int32) < (1 : Int32)) (tgt := 19) S dX9_leg_4 (by decide) (fun h => absurd (by decide) h) (fun _ => ?_)
  refine lv_iload_n S.1 S.2.1 dX9_leg_7 rfl (lv_at hl 2 rfl) ?_
  refine lv_i2l (v := (3 : Int64)) S.1 S.2.1 dX9_leg_8 (by decide) ?_
  refine lv_lconst (v := (0 : Int64)) S.1 S.2.1 dX9_leg_9 (by decide) ?_
  refine lv_ldc2 (v := (7 : Int64)) S.1 S.2.1 S.2.2.2.1 (S.2.2.2.2 _ (List.mem_of_getElem? (i := 1) rfl)) dX9_leg_10 ?_
  refine s_callS (As := [.long (3 : Int64), .long (0 : Int64), .long (7 : Int64)]) (rest := []) S hX G (k_X9_in l E (3 : Int64) (0 : Int64) (7 : Int64)) (va_cwS (bytes := cX9_in) (maxL := 6) (ret := (some .boolean)) 3 S.2.2.2.2 gX9_leg_X9_in rfl rfl rfl (by decide +kernel) ⟨Nat.le_of_ble_eq_true rfl, Nat.le_of_ble_eq_true rfl⟩) rfl hl.1 rfl (Nat.le_of_ble_eq_true rfl) ⟨Nat.zero_le _, Nat.zero_le _⟩ dX9_leg_13 (fun v I1 L1 H locs hR G => ?_)
  obtain ⟨hv, hI, hL⟩ := hR
  subst hv
  have G : GS E I L sg H locs := G.same hI hL
  refine W.eq (g2 := F0 mg 16 ls [.int (if ¬ (3 : Int64) < (0 : Int64) ∧ ¬ (7 : Int64) < (3 : Int64) then 1 else 0)]) rfl ?_
  refine s_if_ne_b (P := ¬ (3 : Int64) < (0 : Int64) ∧ ¬ (7 : Int64) < (3 : Int64)) (tgt := 22) S dX9_leg_16 (by decide) (fun _ => ?_) (fun h => absurd (by decide) h)
  refine lv_iload_n S.1 S.2.1 dX9_leg_22 rfl (lv_at hl 1 rfl) ?_
  refine s_callS (As := [.int (1 : Int32)]) (rest := []) S hX G (k_X9_legAt_1 l E) (va_cwS (bytes := cX9_legAt) (maxL := 1) (ret := (some .int)) 1 S.2.2.2.2 gX9_leg_X9_legAt rfl rfl rfl (by decide +kernel) ⟨Nat.le_of_ble_eq_true rfl, Nat.le_of_ble_eq_true rfl⟩) rfl hl.1 rfl (Nat.le_of_ble_eq_true rfl) ⟨Nat.zero_le _, Nat.zero_le _⟩ dX9_leg_23 (fun v I1 L1 H locs hR G => ?_)
  obtain ⟨hv, hI, hL⟩ := hR
  subst hv
  have G : GS E I L sg H locs := G.same hI hL
  refine W.eq (g2 := F0 mg 26 ls [.int (16 : Int32)]) rfl ?_
  refine lv_istore_n (lv' := [(3, .int (16 : Int32)), (0, .ref (E.2.2.2 161)), (1, .int (1 : Int32)), (2, .int (3 : Int32))]) S.1 S.2.1 dX9_leg_26 rfl hl (by decide) rfl (fun ls hl => ?_)
  refine lv_iload_n S.1 S.2.1 dX9_leg_27 rfl (lv_at hl 3 rfl) ?_
  refine lv_tableIn (off := 51) (tgt := 79) S.1 S.2.1 dX9_leg_28 (by decide) (by decide) (by decide) (by decide) ?_
  refine lv_aload_n S.1 S.2.1 dX9_leg_79 rfl (lv_at hl 1 rfl) ?_
  refine s_get S hX G (i := 161) (kd := 9) (a := (I 161)) (v := .ref (E.2.2.2 162)) (C := RX9) (T := TX9) (N := 13) 0 (rfl : sh 161 = 9) rfl rfl rfl (by decide) rfl (fun _ h => (List.mem_cons_of_mem _ (List.mem_append_right _ h))) (by decide) (List.mem_of_getElem? (i := 3) rfl) (fun _ h => h) dX9_leg_80 ?_
  refine lv_iload_n S.1 S.2.1 dX9_leg_83 rfl (lv_at hl 0 rfl) ?_
  refine lv_iconst (v := (2 : Int32)) S.1 S.2.1 dX9_leg_84 (by decide) ?_
  refine s_iadd (v := (18 : Int32)) S dX9_leg_85 (by decide) ?_
  refine s_iald S hX G (i := 162) (kd := 284) (n := 270) (a := d) (x := (d 18)) (rfl : sh 162 = 284) e_d rfl (by decide) (by unfold vp_in; decide) (congrArg d (by decide)) dX9_leg_86 ?_
  refine lv_iconst (v := (-1 : Int32)) S.1 S.2.1 dX9_leg_87 (by decide) ?_
  refine lv_icmp_ne (tgt := 100) S.1 S.2.1 dX9_leg_88 (by decide) (fun c_1 => ?_) (fun c_1 => ?_)
  · refine lv_aload_n S.1 S.2.1 dX9_leg_100 rfl (lv_at hl 1 rfl) ?_
    refine s_get S hX G (i := 161) (kd := 9) (a := (I 161)) (v := .ref (E.2.2.2 162)) (C := RX9) (T := TX9) (N := 13) 0 (rfl : sh 161 = 9) rfl rfl rfl (by decide) rfl (fun _ h => (List.mem_cons_of_mem _ (List.mem_append_right _ h))) (by decide) (List.mem_of_getElem? (i := 3) rfl) (fun _ h => h) dX9_leg_101 ?_
    refine lv_iload_n S.1 S.2.1 dX9_leg_104 rfl (lv_at hl 0 rfl) ?_
    refine lv_iconst (v := (2 : Int32)) S.1 S.2.1 dX9_leg_105 (by decide) ?_
    refine s_iadd (v := (18 : Int32)) S dX9_leg_106 (by decide) ?_
    refine s_iald S hX G (i := 162) (kd := 284) (n := 270) (a := d) (x := (d 18)) (rfl : sh 162 = 284) e_d rfl (by decide) (by unfold vp_in; decide) (congrArg d (by decide)) dX9_leg_107 ?_
    refine s_iret (x := (d 18)) S G hr hlk dX9_leg_108 ?_
    exact ⟨(congrArg (fun q : Int32 => some (Value.int q)) (show (d 18) = (if d 18 = -1 then d 0 else d 18) by first | (simp [c_1]; done) | (clear S hX G hl; grind []))), rfl, rfl⟩
  · refine lv_aload_n S.1 S.2.1 dX9_leg_91 rfl (lv_at hl 1 rfl) ?_
    refine s_get S hX G (i := 161) (kd := 9) (a := (I 161)) (v := .ref (E.2.2.2 162)) (C := RX9) (T := TX9) (N := 13) 0 (rfl : sh 161 = 9) rfl rfl rfl (by decide) rfl (fun _ h => (List.mem_cons_of_mem _ (List.mem_append_right _ h))) (by decide) (List.mem_of_getElem? (i := 3) rfl) (fun _ h => h) dX9_leg_92 ?_
    refine lv_iconst (v := (0 : Int32)) S.1 S.2.1 dX9_leg_95 (by decide) ?_
    refine s_iald S hX G (i := 162) (kd := 284) (n := 270) (a := d) (x := (d 0)) (rfl : sh 162 = 284) e_d rfl (by decide) (by unfold vp_in; decide) (congrArg d (by decide)) dX9_leg_96 ?_
    refine lv_goto (tgt := 108) S.1 S.2.1 dX9_leg_97 (by decide) ?_
    refine s_iret (x := (d 0)) S G hr hlk dX9_leg_108 ?_
    exact ⟨(congrArg (fun q : Int32 => some (Value.int q)) (show (d 0) = (if d 18 = -1 then d 0 else d 18) by first | (simp [c_1]; done) | (clear S hX G hl; grind []))), rfl, rfl⟩
set_option maxHeartbeats 4000000 in
set_option maxRecDepth 100000 in
theorem k_X9_leg_1_4 (l : Launch) (E : Ev) {I : SI} {L : SL} (d : Nat → Int32) (e_d : I (162) = d) : CS l yX9_leg wsX9_leg ({ frames := 2, cells := 0, slots := 0, locals := 45 }) E [.ref (E.2.2.2 161), .int (1 : Int32), .int (4 : Int32)] I L (fun vv I' L' => vv = some (.int (d 19)) ∧ I' = I ∧ L' = L) := by
  refine CS.of (cc := cX9_leg) (maxL := 4) (ret := (some .int)) (by decide) rfl (Nat.le_of_ble_eq_true rfl) ?_
  intro pg en sg mg below meth cg ls S hr hlk hX G hl
  have S : CallFix pg mg cg cX9_leg 4 sg _ wsX9_leg RX9 := S
  have hl : lv_has ls 4 [(0, .ref (E.2.2.2 161)), (1, .int (1 : Int32)), (2, .int (4 : Int32))] := hl
  refine lv_iload_n S.1 S.2.1 dX9_leg_0 rfl (lv_at hl 1 rfl) ?_
  refine s_callS (As := [.int (1 : Int32)]) (rest := []) S hX G (k_X9_isLeg l E (1 : Int32)) (va_cwS (bytes := cX9_isLeg) (maxL := 1) (ret := (some .boolean)) 1 S.2.2.2.2 gX9_leg_X9_isLeg rfl rfl rfl (by decide +kernel) ⟨Nat.le_of_ble_eq_true rfl, Nat.le_of_ble_eq_true rfl⟩) rfl hl.1 rfl (Nat.le_of_ble_eq_true rfl) ⟨Nat.zero_le _, Nat.zero_le _⟩ dX9_leg_1 (fun v I1 L1 H locs hR G => ?_)
  obtain ⟨hv, hI, hL⟩ := hR
  subst hv
  have G : GS E I L sg H locs := G.same hI hL
  refine W.eq (g2 := F0 mg 4 ls [.int (if ¬ (1 : Int32) < (0 : Int32) ∧ ¬ (3 : Int32) < (1 : Int32) then 1 else 0)]) rfl ?_
  refine s_if_eq_b (P := ¬ (1 : Int32) < (0 : Int32) ∧ ¬ (3 : Int32) < (1 : Int32)) (tgt := 19) S dX9_leg_4 (by decide) (fun h => absurd (by decide) h) (fun _ => ?_)
  refine lv_iload_n S.1 S.2.1 dX9_leg_7 rfl (lv_at hl 2 rfl) ?_
  refine lv_i2l (v := (4 : Int64)) S.1 S.2.1 dX9_leg_8 (by decide) ?_
  refine lv_lconst (v := (0 : Int64)) S.1 S.2.1 dX9_leg_9 (by decide) ?_
  refine lv_ldc2 (v := (7 : Int64)) S.1 S.2.1 S.2.2.2.1 (S.2.2.2.2 _ (List.mem_of_getElem? (i := 1) rfl)) dX9_leg_10 ?_
  refine s_callS (As := [.long (4 : Int64), .long (0 : Int64), .long (7 : Int64)]) (rest := []) S hX G (k_X9_in l E (4 : Int64) (0 : Int64) (7 : Int64)) (va_cwS (bytes := cX9_in) (maxL := 6) (ret := (some .boolean)) 3 S.2.2.2.2 gX9_leg_X9_in rfl rfl rfl (by decide +kernel) ⟨Nat.le_of_ble_eq_true rfl, Nat.le_of_ble_eq_true rfl⟩) rfl hl.1 rfl (Nat.le_of_ble_eq_true rfl) ⟨Nat.zero_le _, Nat.zero_le _⟩ dX9_leg_13 (fun v I1 L1 H locs hR G => ?_)
  obtain ⟨hv, hI, hL⟩ := hR
  subst hv
  have G : GS E I L sg H locs := G.same hI hL
  refine W.eq (g2 := F0 mg 16 ls [.int (if ¬ (4 : Int64) < (0 : Int64) ∧ ¬ (7 : Int64) < (4 : Int64) then 1 else 0)]) rfl ?_
  refine s_if_ne_b (P := ¬ (4 : Int64) < (0 : Int64) ∧ ¬ (7 : Int64) < (4 : Int64)) (tgt := 22) S dX9_leg_16 (by decide) (fun _ => ?_) (fun h => absurd (by decide) h)
  refine lv_iload_n S.1 S.2.1 dX9_leg_22 rfl (lv_at hl 1 rfl) ?_
  refine s_callS (As := [.int (1 : Int32)]) (rest := []) S hX G (k_X9_legAt_1 l E) (va_cwS (bytes := cX9_legAt) (maxL := 1) (ret := (some .int)) 1 S.2.2.2.2 gX9_leg_X9_legAt rfl rfl rfl (by decide +kernel) ⟨Nat.le_of_ble_eq_true rfl, Nat.le_of_ble_eq_true rfl⟩) rfl hl.1 rfl (Nat.le_of_ble_eq_true rfl) ⟨Nat.zero_le _, Nat.zero_le _⟩ dX9_leg_23 (fun v I1 L1 H locs hR G => ?_)
  obtain ⟨hv, hI, hL⟩ := hR
  subst hv
  have G : GS E I L sg H locs := G.same hI hL
  refine W.eq (g2 := F0 mg 26 ls [.int (16 : Int32)]) rfl ?_
  refine lv_istore_n (lv' := [(3, .int (16 : Int32)), (0, .ref (E.2.2.2 161)), (1, .int (1 : Int32)), (2, .int (4 : Int32))]) S.1 S.2.1 dX9_leg_26 rfl hl (by decide) rfl (fun ls hl => ?_)
  refine lv_iload_n S.1 S.2.1 dX9_leg_27 rfl (lv_at hl 3 rfl) ?_
  refine lv_tableIn (off := 81) (tgt := 109) S.1 S.2.1 dX9_leg_28 (by decide) (by decide) (by decide) (by decide) ?_
  refine lv_aload_n S.1 S.2.1 dX9_leg_109 rfl (lv_at hl 1 rfl) ?_
  refine s_get S hX G (i := 161) (kd := 9) (a := (I 161)) (v := .ref (E.2.2.2 162)) (C := RX9) (T := TX9) (N := 13) 0 (rfl : sh 161 = 9) rfl rfl rfl (by decide) rfl (fun _ h => (List.mem_cons_of_mem _ (List.mem_append_right _ h))) (by decide) (List.mem_of_getElem? (i := 3) rfl) (fun _ h => h) dX9_leg_110 ?_
  refine lv_iload_n S.1 S.2.1 dX9_leg_113 rfl (lv_at hl 0 rfl) ?_
  refine lv_iconst (v := (3 : Int32)) S.1 S.2.1 dX9_leg_114 (by decide) ?_
  refine s_iadd (v := (19 : Int32)) S dX9_leg_115 (by decide) ?_
  refine s_iald S hX G (i := 162) (kd := 284) (n := 270) (a := d) (x := (d 19)) (rfl : sh 162 = 284) e_d rfl (by decide) (by unfold vp_in; decide) (congrArg d (by decide)) dX9_leg_116 ?_
  refine s_iret (x := (d 19)) S G hr hlk dX9_leg_117 ?_
  exact ⟨rfl, rfl, rfl⟩
set_option maxHeartbeats 4000000 in
set_option maxRecDepth 100000 in
theorem k_X9_leg_1_5 (l : Launch) (E : Ev) {I : SI} {L : SL} (d : Nat → Int32) (e_d : I (162) = d) : CS l yX9_leg wsX9_leg ({ frames := 2, cells := 0, slots := 0, locals := 45 }) E [.ref (E.2.2.2 161), .int (1 : Int32), .int (5 : Int32)] I L (fun vv I' L' => vv = some (.int (d 20)) ∧ I' = I ∧ L' = L) := by
  refine CS.of (cc := cX9_leg) (maxL := 4) (ret := (some .int)) (by decide) rfl (Nat.le_of_ble_eq_true rfl) ?_
  intro pg en sg mg below meth cg ls S hr hlk hX G hl
  have S : CallFix pg mg cg cX9_leg 4 sg _ wsX9_leg RX9 := S
  have hl : lv_has ls 4 [(0, .ref (E.2.2.2 161)), (1, .int (1 : Int32)), (2, .int (5 : Int32))] := hl
  refine lv_iload_n S.1 S.2.1 dX9_leg_0 rfl (lv_at hl 1 rfl) ?_
  refine s_callS (As := [.int (1 : Int32)]) (rest := []) S hX G (k_X9_isLeg l E (1 : Int32)) (va_cwS (bytes := cX9_isLeg) (maxL := 1) (ret := (some .boolean)) 1 S.2.2.2.2 gX9_leg_X9_isLeg rfl rfl rfl (by decide +kernel) ⟨Nat.le_of_ble_eq_true rfl, Nat.le_of_ble_eq_true rfl⟩) rfl hl.1 rfl (Nat.le_of_ble_eq_true rfl) ⟨Nat.zero_le _, Nat.zero_le _⟩ dX9_leg_1 (fun v I1 L1 H locs hR G => ?_)
  obtain ⟨hv, hI, hL⟩ := hR
  subst hv
  have G : GS E I L sg H locs := G.same hI hL
  refine W.eq (g2 := F0 mg 4 ls [.int (if ¬ (1 : Int32) < (0 : Int32) ∧ ¬ (3 : Int32) < (1 : Int32) then 1 else 0)]) rfl ?_
  refine s_if_eq_b (P := ¬ (1 : Int32) < (0 : Int32) ∧ ¬ (3 : Int32) < (1 : Int32)) (tgt := 19) S dX9_leg_4 (by decide) (fun h => absurd (by decide) h) (fun _ => ?_)
  refine lv_iload_n S.1 S.2.1 dX9_leg_7 rfl (lv_at hl 2 rfl) ?_
  refine lv_i2l (v := (5 : Int64)) S.1 S.2.1 dX9_leg_8 (by decide) ?_
  refine lv_lconst (v := (0 : Int64)) S.1 S.2.1 dX9_leg_9 (by decide) ?_
  refine lv_ldc2 (v := (7 : Int64)) S.1 S.2.1 S.2.2.2.1 (S.2.2.2.2 _ (List.mem_of_getElem? (i := 1) rfl)) dX9_leg_10 ?_
  refine s_callS (As := [.long (5 : Int64), .long (0 : Int64), .long (7 : Int64)]) (rest := []) S hX G (k_X9_in l E (5 : Int64) (0 : Int64) (7 : Int64)) (va_cwS (bytes := cX9_in) (maxL := 6) (ret := (some .boolean)) 3 S.2.2.2.2 gX9_leg_X9_in rfl rfl rfl (by decide +kernel) ⟨Nat.le_of_ble_eq_true rfl, Nat.le_of_ble_eq_true rfl⟩) rfl hl.1 rfl (Nat.le_of_ble_eq_true rfl) ⟨Nat.zero_le _, Nat.zero_le _⟩ dX9_leg_13 (fun v I1 L1 H locs hR G => ?_)
  obtain ⟨hv, hI, hL⟩ := hR
  subst hv
  have G : GS E I L sg H locs := G.same hI hL
  refine W.eq (g2 := F0 mg 16 ls [.int (if ¬ (5 : Int64) < (0 : Int64) ∧ ¬ (7 : Int64) < (5 : Int64) then 1 else 0)]) rfl ?_
  refine s_if_ne_b (P := ¬ (5 : Int64) < (0 : Int64) ∧ ¬ (7 : Int64) < (5 : Int64)) (tgt := 22) S dX9_leg_16 (by decide) (fun _ => ?_) (fun h => absurd (by decide) h)
  refine lv_iload_n S.1 S.2.1 dX9_leg_22 rfl (lv_at hl 1 rfl) ?_
  refine s_callS (As := [.int (1 : Int32)]) (rest := []) S hX G (k_X9_legAt_1 l E) (va_cwS (bytes := cX9_legAt) (maxL := 1) (ret := (some .int)) 1 S.2.2.2.2 gX9_leg_X9_legAt rfl rfl rfl (by decide +kernel) ⟨Nat.le_of_ble_eq_true rfl, Nat.le_of_ble_eq_true rfl⟩) rfl hl.1 rfl (Nat.le_of_ble_eq_true rfl) ⟨Nat.zero_le _, Nat.zero_le _⟩ dX9_leg_23 (fun v I1 L1 H locs hR G => ?_)
  obtain ⟨hv, hI, hL⟩ := hR
  subst hv
  have G : GS E I L sg H locs := G.same hI hL
  refine W.eq (g2 := F0 mg 26 ls [.int (16 : Int32)]) rfl ?_
  refine lv_istore_n (lv' := [(3, .int (16 : Int32)), (0, .ref (E.2.2.2 161)), (1, .int (1 : Int32)), (2, .int (5 : Int32))]) S.1 S.2.1 dX9_leg_26 rfl hl (by decide) rfl (fun ls hl => ?_)
  refine lv_iload_n S.1 S.2.1 dX9_leg_27 rfl (lv_at hl 3 rfl) ?_
  refine lv_tableOut (tgt := 118) S.1 S.2.1 dX9_leg_28 (by decide) (by decide) ?_
  refine lv_aload_n S.1 S.2.1 dX9_leg_118 rfl (lv_at hl 1 rfl) ?_
  refine s_get S hX G (i := 161) (kd := 9) (a := (I 161)) (v := .ref (E.2.2.2 162)) (C := RX9) (T := TX9) (N := 13) 0 (rfl : sh 161 = 9) rfl rfl rfl (by decide) rfl (fun _ h => (List.mem_cons_of_mem _ (List.mem_append_right _ h))) (by decide) (List.mem_of_getElem? (i := 3) rfl) (fun _ h => h) dX9_leg_119 ?_
  refine lv_iload_n S.1 S.2.1 dX9_leg_122 rfl (lv_at hl 0 rfl) ?_
  refine lv_iconst (v := (4 : Int32)) S.1 S.2.1 dX9_leg_123 (by decide) ?_
  refine s_iadd (v := (20 : Int32)) S dX9_leg_124 (by decide) ?_
  refine lv_iload_n S.1 S.2.1 dX9_leg_125 rfl (lv_at hl 3 rfl) ?_
  refine s_iadd (v := (25 : Int32)) S dX9_leg_126 (by decide) ?_
  refine lv_iconst (v := (5 : Int32)) S.1 S.2.1 dX9_leg_127 (by decide) ?_
  refine s_isub (v := (20 : Int32)) S dX9_leg_128 (by decide) ?_
  refine s_iald S hX G (i := 162) (kd := 284) (n := 270) (a := d) (x := (d 20)) (rfl : sh 162 = 284) e_d rfl (by decide) (by unfold vp_in; decide) (congrArg d (by decide)) dX9_leg_129 ?_
  refine s_iret (x := (d 20)) S G hr hlk dX9_leg_130 ?_
  exact ⟨rfl, rfl, rfl⟩
set_option maxHeartbeats 4000000 in
set_option maxRecDepth 100000 in
theorem k_X9_leg_1_6 (l : Launch) (E : Ev) {I : SI} {L : SL} (d : Nat → Int32) (e_d : I (162) = d) : CS l yX9_leg wsX9_leg ({ frames := 2, cells := 0, slots := 0, locals := 45 }) E [.ref (E.2.2.2 161), .int (1 : Int32), .int (6 : Int32)] I L (fun vv I' L' => vv = some (.int (d 21)) ∧ I' = I ∧ L' = L) := by
  refine CS.of (cc := cX9_leg) (maxL := 4) (ret := (some .int)) (by decide) rfl (Nat.le_of_ble_eq_true rfl) ?_
  intro pg en sg mg below meth cg ls S hr hlk hX G hl
  have S : CallFix pg mg cg cX9_leg 4 sg _ wsX9_leg RX9 := S
  have hl : lv_has ls 4 [(0, .ref (E.2.2.2 161)), (1, .int (1 : Int32)), (2, .int (6 : Int32))] := hl
  refine lv_iload_n S.1 S.2.1 dX9_leg_0 rfl (lv_at hl 1 rfl) ?_
  refine s_callS (As := [.int (1 : Int32)]) (rest := []) S hX G (k_X9_isLeg l E (1 : Int32)) (va_cwS (bytes := cX9_isLeg) (maxL := 1) (ret := (some .boolean)) 1 S.2.2.2.2 gX9_leg_X9_isLeg rfl rfl rfl (by decide +kernel) ⟨Nat.le_of_ble_eq_true rfl, Nat.le_of_ble_eq_true rfl⟩) rfl hl.1 rfl (Nat.le_of_ble_eq_true rfl) ⟨Nat.zero_le _, Nat.zero_le _⟩ dX9_leg_1 (fun v I1 L1 H locs hR G => ?_)
  obtain ⟨hv, hI, hL⟩ := hR
  subst hv
  have G : GS E I L sg H locs := G.same hI hL
  refine W.eq (g2 := F0 mg 4 ls [.int (if ¬ (1 : Int32) < (0 : Int32) ∧ ¬ (3 : Int32) < (1 : Int32) then 1 else 0)]) rfl ?_
  refine s_if_eq_b (P := ¬ (1 : Int32) < (0 : Int32) ∧ ¬ (3 : Int32) < (1 : Int32)) (tgt := 19) S dX9_leg_4 (by decide) (fun h => absurd (by decide) h) (fun _ => ?_)
  refine lv_iload_n S.1 S.2.1 dX9_leg_7 rfl (lv_at hl 2 rfl) ?_
  refine lv_i2l (v := (6 : Int64)) S.1 S.2.1 dX9_leg_8 (by decide) ?_
  refine lv_lconst (v := (0 : Int64)) S.1 S.2.1 dX9_leg_9 (by decide) ?_
  refine lv_ldc2 (v := (7 : Int64)) S.1 S.2.1 S.2.2.2.1 (S.2.2.2.2 _ (List.mem_of_getElem? (i := 1) rfl)) dX9_leg_10 ?_
  refine s_callS (As := [.long (6 : Int64), .long (0 : Int64), .long (7 : Int64)]) (rest := []) S hX G (k_X9_in l E (6 : Int64) (0 : Int64) (7 : Int64)) (va_cwS (bytes := cX9_in) (maxL := 6) (ret := (some .boolean)) 3 S.2.2.2.2 gX9_leg_X9_in rfl rfl rfl (by decide +kernel) ⟨Nat.le_of_ble_eq_true rfl, Nat.le_of_ble_eq_true rfl⟩) rfl hl.1 rfl (Nat.le_of_ble_eq_true rfl) ⟨Nat.zero_le _, Nat.zero_le _⟩ dX9_leg_13 (fun v I1 L1 H locs hR G => ?_)
  obtain ⟨hv, hI, hL⟩ := hR
  subst hv
  have G : GS E I L sg H locs := G.same hI hL
  refine W.eq (g2 := F0 mg 16 ls [.int (if ¬ (6 : Int64) < (0 : Int64) ∧ ¬ (7 : Int64) < (6 : Int64) then 1 else 0)]) rfl ?_
  refine s_if_ne_b (P := ¬ (6 : Int64) < (0 : Int64) ∧ ¬ (7 : Int64) < (6 : Int64)) (tgt := 22) S dX9_leg_16 (by decide) (fun _ => ?_) (fun h => absurd (by decide) h)
  refine lv_iload_n S.1 S.2.1 dX9_leg_22 rfl (lv_at hl 1 rfl) ?_
  refine s_callS (As := [.int (1 : Int32)]) (rest := []) S hX G (k_X9_legAt_1 l E) (va_cwS (bytes := cX9_legAt) (maxL := 1) (ret := (some .int)) 1 S.2.2.2.2 gX9_leg_X9_legAt rfl rfl rfl (by decide +kernel) ⟨Nat.le_of_ble_eq_true rfl, Nat.le_of_ble_eq_true rfl⟩) rfl hl.1 rfl (Nat.le_of_ble_eq_true rfl) ⟨Nat.zero_le _, Nat.zero_le _⟩ dX9_leg_23 (fun v I1 L1 H locs hR G => ?_)
  obtain ⟨hv, hI, hL⟩ := hR
  subst hv
  have G : GS E I L sg H locs := G.same hI hL
  refine W.eq (g2 := F0 mg 26 ls [.int (16 : Int32)]) rfl ?_
  refine lv_istore_n (lv' := [(3, .int (16 : Int32)), (0, .ref (E.2.2.2 161)), (1, .int (1 : Int32)), (2, .int (6 : Int32))]) S.1 S.2.1 dX9_leg_26 rfl hl (by decide) rfl (fun ls hl => ?_)
  refine lv_iload_n S.1 S.2.1 dX9_leg_27 rfl (lv_at hl 3 rfl) ?_
  refine lv_tableOut (tgt := 118) S.1 S.2.1 dX9_leg_28 (by decide) (by decide) ?_
  refine lv_aload_n S.1 S.2.1 dX9_leg_118 rfl (lv_at hl 1 rfl) ?_
  refine s_get S hX G (i := 161) (kd := 9) (a := (I 161)) (v := .ref (E.2.2.2 162)) (C := RX9) (T := TX9) (N := 13) 0 (rfl : sh 161 = 9) rfl rfl rfl (by decide) rfl (fun _ h => (List.mem_cons_of_mem _ (List.mem_append_right _ h))) (by decide) (List.mem_of_getElem? (i := 3) rfl) (fun _ h => h) dX9_leg_119 ?_
  refine lv_iload_n S.1 S.2.1 dX9_leg_122 rfl (lv_at hl 0 rfl) ?_
  refine lv_iconst (v := (4 : Int32)) S.1 S.2.1 dX9_leg_123 (by decide) ?_
  refine s_iadd (v := (20 : Int32)) S dX9_leg_124 (by decide) ?_
  refine lv_iload_n S.1 S.2.1 dX9_leg_125 rfl (lv_at hl 3 rfl) ?_
  refine s_iadd (v := (26 : Int32)) S dX9_leg_126 (by decide) ?_
  refine lv_iconst (v := (5 : Int32)) S.1 S.2.1 dX9_leg_127 (by decide) ?_
  refine s_isub (v := (21 : Int32)) S dX9_leg_128 (by decide) ?_
  refine s_iald S hX G (i := 162) (kd := 284) (n := 270) (a := d) (x := (d 21)) (rfl : sh 162 = 284) e_d rfl (by decide) (by unfold vp_in; decide) (congrArg d (by decide)) dX9_leg_129 ?_
  refine s_iret (x := (d 21)) S G hr hlk dX9_leg_130 ?_
  exact ⟨rfl, rfl, rfl⟩
set_option maxHeartbeats 4000000 in
set_option maxRecDepth 100000 in
theorem k_X9_leg_1_7 (l : Launch) (E : Ev) {I : SI} {L : SL} (d : Nat → Int32) (e_d : I (162) = d) : CS l yX9_leg wsX9_leg ({ frames := 2, cells := 0, slots := 0, locals := 45 }) E [.ref (E.2.2.2 161), .int (1 : Int32), .int (7 : Int32)] I L (fun vv I' L' => vv = some (.int (d 22)) ∧ I' = I ∧ L' = L) := by
  refine CS.of (cc := cX9_leg) (maxL := 4) (ret := (some .int)) (by decide) rfl (Nat.le_of_ble_eq_true rfl) ?_
  intro pg en sg mg below meth cg ls S hr hlk hX G hl
  have S : CallFix pg mg cg cX9_leg 4 sg _ wsX9_leg RX9 := S
  have hl : lv_has ls 4 [(0, .ref (E.2.2.2 161)), (1, .int (1 : Int32)), (2, .int (7 : Int32))] := hl
  refine lv_iload_n S.1 S.2.1 dX9_leg_0 rfl (lv_at hl 1 rfl) ?_
  refine s_callS (As := [.int (1 : Int32)]) (rest := []) S hX G (k_X9_isLeg l E (1 : Int32)) (va_cwS (bytes := cX9_isLeg) (maxL := 1) (ret := (some .boolean)) 1 S.2.2.2.2 gX9_leg_X9_isLeg rfl rfl rfl (by decide +kernel) ⟨Nat.le_of_ble_eq_true rfl, Nat.le_of_ble_eq_true rfl⟩) rfl hl.1 rfl (Nat.le_of_ble_eq_true rfl) ⟨Nat.zero_le _, Nat.zero_le _⟩ dX9_leg_1 (fun v I1 L1 H locs hR G => ?_)
  obtain ⟨hv, hI, hL⟩ := hR
  subst hv
  have G : GS E I L sg H locs := G.same hI hL
  refine W.eq (g2 := F0 mg 4 ls [.int (if ¬ (1 : Int32) < (0 : Int32) ∧ ¬ (3 : Int32) < (1 : Int32) then 1 else 0)]) rfl ?_
  refine s_if_eq_b (P := ¬ (1 : Int32) < (0 : Int32) ∧ ¬ (3 : Int32) < (1 : Int32)) (tgt := 19) S dX9_leg_4 (by decide) (fun h => absurd (by decide) h) (fun _ => ?_)
  refine lv_iload_n S.1 S.2.1 dX9_leg_7 rfl (lv_at hl 2 rfl) ?_
  refine lv_i2l (v := (7 : Int64)) S.1 S.2.1 dX9_leg_8 (by decide) ?_
  refine lv_lconst (v := (0 : Int64)) S.1 S.2.1 dX9_leg_9 (by decide) ?_
  refine lv_ldc2 (v := (7 : Int64)) S.1 S.2.1 S.2.2.2.1 (S.2.2.2.2 _ (List.mem_of_getElem? (i := 1) rfl)) dX9_leg_10 ?_
  refine s_callS (As := [.long (7 : Int64), .long (0 : Int64), .long (7 : Int64)]) (rest := []) S hX G (k_X9_in l E (7 : Int64) (0 : Int64) (7 : Int64)) (va_cwS (bytes := cX9_in) (maxL := 6) (ret := (some .boolean)) 3 S.2.2.2.2 gX9_leg_X9_in rfl rfl rfl (by decide +kernel) ⟨Nat.le_of_ble_eq_true rfl, Nat.le_of_ble_eq_true rfl⟩) rfl hl.1 rfl (Nat.le_of_ble_eq_true rfl) ⟨Nat.zero_le _, Nat.zero_le _⟩ dX9_leg_13 (fun v I1 L1 H locs hR G => ?_)
  obtain ⟨hv, hI, hL⟩ := hR
  subst hv
  have G : GS E I L sg H locs := G.same hI hL
  refine W.eq (g2 := F0 mg 16 ls [.int (if ¬ (7 : Int64) < (0 : Int64) ∧ ¬ (7 : Int64) < (7 : Int64) then 1 else 0)]) rfl ?_
  refine s_if_ne_b (P := ¬ (7 : Int64) < (0 : Int64) ∧ ¬ (7 : Int64) < (7 : Int64)) (tgt := 22) S dX9_leg_16 (by decide) (fun _ => ?_) (fun h => absurd (by decide) h)
  refine lv_iload_n S.1 S.2.1 dX9_leg_22 rfl (lv_at hl 1 rfl) ?_
  refine s_callS (As := [.int (1 : Int32)]) (rest := []) S hX G (k_X9_legAt_1 l E) (va_cwS (bytes := cX9_legAt) (maxL := 1) (ret := (some .int)) 1 S.2.2.2.2 gX9_leg_X9_legAt rfl rfl rfl (by decide +kernel) ⟨Nat.le_of_ble_eq_true rfl, Nat.le_of_ble_eq_true rfl⟩) rfl hl.1 rfl (Nat.le_of_ble_eq_true rfl) ⟨Nat.zero_le _, Nat.zero_le _⟩ dX9_leg_23 (fun v I1 L1 H locs hR G => ?_)
  obtain ⟨hv, hI, hL⟩ := hR
  subst hv
  have G : GS E I L sg H locs := G.same hI hL
  refine W.eq (g2 := F0 mg 26 ls [.int (16 : Int32)]) rfl ?_
  refine lv_istore_n (lv' := [(3, .int (16 : Int32)), (0, .ref (E.2.2.2 161)), (1, .int (1 : Int32)), (2, .int (7 : Int32))]) S.1 S.2.1 dX9_leg_26 rfl hl (by decide) rfl (fun ls hl => ?_)
  refine lv_iload_n S.1 S.2.1 dX9_leg_27 rfl (lv_at hl 3 rfl) ?_
  refine lv_tableOut (tgt := 118) S.1 S.2.1 dX9_leg_28 (by decide) (by decide) ?_
  refine lv_aload_n S.1 S.2.1 dX9_leg_118 rfl (lv_at hl 1 rfl) ?_
  refine s_get S hX G (i := 161) (kd := 9) (a := (I 161)) (v := .ref (E.2.2.2 162)) (C := RX9) (T := TX9) (N := 13) 0 (rfl : sh 161 = 9) rfl rfl rfl (by decide) rfl (fun _ h => (List.mem_cons_of_mem _ (List.mem_append_right _ h))) (by decide) (List.mem_of_getElem? (i := 3) rfl) (fun _ h => h) dX9_leg_119 ?_
  refine lv_iload_n S.1 S.2.1 dX9_leg_122 rfl (lv_at hl 0 rfl) ?_
  refine lv_iconst (v := (4 : Int32)) S.1 S.2.1 dX9_leg_123 (by decide) ?_
  refine s_iadd (v := (20 : Int32)) S dX9_leg_124 (by decide) ?_
  refine lv_iload_n S.1 S.2.1 dX9_leg_125 rfl (lv_at hl 3 rfl) ?_
  refine s_iadd (v := (27 : Int32)) S dX9_leg_126 (by decide) ?_
  refine lv_iconst (v := (5 : Int32)) S.1 S.2.1 dX9_leg_127 (by decide) ?_
  refine s_isub (v := (22 : Int32)) S dX9_leg_128 (by decide) ?_
  refine s_iald S hX G (i := 162) (kd := 284) (n := 270) (a := d) (x := (d 22)) (rfl : sh 162 = 284) e_d rfl (by decide) (by unfold vp_in; decide) (congrArg d (by decide)) dX9_leg_129 ?_
  refine s_iret (x := (d 22)) S G hr hlk dX9_leg_130 ?_
  exact ⟨rfl, rfl, rfl⟩
set_option maxHeartbeats 4000000 in
set_option maxRecDepth 100000 in
theorem k_X9_leg_2_0 (l : Launch) (E : Ev) {I : SI} {L : SL} (d : Nat → Int32) (e_d : I (162) = d) : CS l yX9_leg wsX9_leg ({ frames := 2, cells := 0, slots := 0, locals := 45 }) E [.ref (E.2.2.2 161), .int (2 : Int32), .int (0 : Int32)] I L (fun vv I' L' => vv = some (.int (d 24)) ∧ I' = I ∧ L' = L) := by
  refine CS.of (cc := cX9_leg) (maxL := 4) (ret := (some .int)) (by decide) rfl (Nat.le_of_ble_eq_true rfl) ?_
  intro pg en sg mg below meth cg ls S hr hlk hX G hl
  have S : CallFix pg mg cg cX9_leg 4 sg _ wsX9_leg RX9 := S
  have hl : lv_has ls 4 [(0, .ref (E.2.2.2 161)), (1, .int (2 : Int32)), (2, .int (0 : Int32))] := hl
  refine lv_iload_n S.1 S.2.1 dX9_leg_0 rfl (lv_at hl 1 rfl) ?_
  refine s_callS (As := [.int (2 : Int32)]) (rest := []) S hX G (k_X9_isLeg l E (2 : Int32)) (va_cwS (bytes := cX9_isLeg) (maxL := 1) (ret := (some .boolean)) 1 S.2.2.2.2 gX9_leg_X9_isLeg rfl rfl rfl (by decide +kernel) ⟨Nat.le_of_ble_eq_true rfl, Nat.le_of_ble_eq_true rfl⟩) rfl hl.1 rfl (Nat.le_of_ble_eq_true rfl) ⟨Nat.zero_le _, Nat.zero_le _⟩ dX9_leg_1 (fun v I1 L1 H locs hR G => ?_)
  obtain ⟨hv, hI, hL⟩ := hR
  subst hv
  have G : GS E I L sg H locs := G.same hI hL
  refine W.eq (g2 := F0 mg 4 ls [.int (if ¬ (2 : Int32) < (0 : Int32) ∧ ¬ (3 : Int32) < (2 : Int32) then 1 else 0)]) rfl ?_
  refine s_if_eq_b (P := ¬ (2 : Int32) < (0 : Int32) ∧ ¬ (3 : Int32) < (2 : Int32)) (tgt := 19) S dX9_leg_4 (by decide) (fun h => absurd (by decide) h) (fun _ => ?_)
  refine lv_iload_n S.1 S.2.1 dX9_leg_7 rfl (lv_at hl 2 rfl) ?_
  refine lv_i2l (v := (0 : Int64)) S.1 S.2.1 dX9_leg_8 (by decide) ?_
  refine lv_lconst (v := (0 : Int64)) S.1 S.2.1 dX9_leg_9 (by decide) ?_
  refine lv_ldc2 (v := (7 : Int64)) S.1 S.2.1 S.2.2.2.1 (S.2.2.2.2 _ (List.mem_of_getElem? (i := 1) rfl)) dX9_leg_10 ?_
  refine s_callS (As := [.long (0 : Int64), .long (0 : Int64), .long (7 : Int64)]) (rest := []) S hX G (k_X9_in l E (0 : Int64) (0 : Int64) (7 : Int64)) (va_cwS (bytes := cX9_in) (maxL := 6) (ret := (some .boolean)) 3 S.2.2.2.2 gX9_leg_X9_in rfl rfl rfl (by decide +kernel) ⟨Nat.le_of_ble_eq_true rfl, Nat.le_of_ble_eq_true rfl⟩) rfl hl.1 rfl (Nat.le_of_ble_eq_true rfl) ⟨Nat.zero_le _, Nat.zero_le _⟩ dX9_leg_13 (fun v I1 L1 H locs hR G => ?_)
  obtain ⟨hv, hI, hL⟩ := hR
  subst hv
  have G : GS E I L sg H locs := G.same hI hL
  refine W.eq (g2 := F0 mg 16 ls [.int (if ¬ (0 : Int64) < (0 : Int64) ∧ ¬ (7 : Int64) < (0 : Int64) then 1 else 0)]) rfl ?_
  refine s_if_ne_b (P := ¬ (0 : Int64) < (0 : Int64) ∧ ¬ (7 : Int64) < (0 : Int64)) (tgt := 22) S dX9_leg_16 (by decide) (fun _ => ?_) (fun h => absurd (by decide) h)
  refine lv_iload_n S.1 S.2.1 dX9_leg_22 rfl (lv_at hl 1 rfl) ?_
  refine s_callS (As := [.int (2 : Int32)]) (rest := []) S hX G (k_X9_legAt_2 l E) (va_cwS (bytes := cX9_legAt) (maxL := 1) (ret := (some .int)) 1 S.2.2.2.2 gX9_leg_X9_legAt rfl rfl rfl (by decide +kernel) ⟨Nat.le_of_ble_eq_true rfl, Nat.le_of_ble_eq_true rfl⟩) rfl hl.1 rfl (Nat.le_of_ble_eq_true rfl) ⟨Nat.zero_le _, Nat.zero_le _⟩ dX9_leg_23 (fun v I1 L1 H locs hR G => ?_)
  obtain ⟨hv, hI, hL⟩ := hR
  subst hv
  have G : GS E I L sg H locs := G.same hI hL
  refine W.eq (g2 := F0 mg 26 ls [.int (24 : Int32)]) rfl ?_
  refine lv_istore_n (lv' := [(3, .int (24 : Int32)), (0, .ref (E.2.2.2 161)), (1, .int (2 : Int32)), (2, .int (0 : Int32))]) S.1 S.2.1 dX9_leg_26 rfl hl (by decide) rfl (fun ls hl => ?_)
  refine lv_iload_n S.1 S.2.1 dX9_leg_27 rfl (lv_at hl 3 rfl) ?_
  refine lv_tableIn (off := 36) (tgt := 64) S.1 S.2.1 dX9_leg_28 (by decide) (by decide) (by decide) (by decide) ?_
  refine lv_aload_n S.1 S.2.1 dX9_leg_64 rfl (lv_at hl 1 rfl) ?_
  refine s_get S hX G (i := 161) (kd := 9) (a := (I 161)) (v := .ref (E.2.2.2 162)) (C := RX9) (T := TX9) (N := 13) 0 (rfl : sh 161 = 9) rfl rfl rfl (by decide) rfl (fun _ h => (List.mem_cons_of_mem _ (List.mem_append_right _ h))) (by decide) (List.mem_of_getElem? (i := 3) rfl) (fun _ h => h) dX9_leg_65 ?_
  refine lv_iload_n S.1 S.2.1 dX9_leg_68 rfl (lv_at hl 0 rfl) ?_
  refine lv_iload_n S.1 S.2.1 dX9_leg_69 rfl (lv_at hl 3 rfl) ?_
  refine s_iadd (v := (24 : Int32)) S dX9_leg_70 (by decide) ?_
  refine s_iald S hX G (i := 162) (kd := 284) (n := 270) (a := d) (x := (d 24)) (rfl : sh 162 = 284) e_d rfl (by decide) (by unfold vp_in; decide) (congrArg d (by decide)) dX9_leg_71 ?_
  refine s_iret (x := (d 24)) S G hr hlk dX9_leg_72 ?_
  exact ⟨rfl, rfl, rfl⟩
set_option maxHeartbeats 4000000 in
set_option maxRecDepth 100000 in
theorem k_X9_leg_2_1 (l : Launch) (E : Ev) {I : SI} {L : SL} (d : Nat → Int32) (e_d : I (162) = d) : CS l yX9_leg wsX9_leg ({ frames := 2, cells := 0, slots := 0, locals := 45 }) E [.ref (E.2.2.2 161), .int (2 : Int32), .int (1 : Int32)] I L (fun vv I' L' => vv = some (.int (d 25)) ∧ I' = I ∧ L' = L) := by
  refine CS.of (cc := cX9_leg) (maxL := 4) (ret := (some .int)) (by decide) rfl (Nat.le_of_ble_eq_true rfl) ?_
  intro pg en sg mg below meth cg ls S hr hlk hX G hl
  have S : CallFix pg mg cg cX9_leg 4 sg _ wsX9_leg RX9 := S
  have hl : lv_has ls 4 [(0, .ref (E.2.2.2 161)), (1, .int (2 : Int32)), (2, .int (1 : Int32))] := hl
  refine lv_iload_n S.1 S.2.1 dX9_leg_0 rfl (lv_at hl 1 rfl) ?_
  refine s_callS (As := [.int (2 : Int32)]) (rest := []) S hX G (k_X9_isLeg l E (2 : Int32)) (va_cwS (bytes := cX9_isLeg) (maxL := 1) (ret := (some .boolean)) 1 S.2.2.2.2 gX9_leg_X9_isLeg rfl rfl rfl (by decide +kernel) ⟨Nat.le_of_ble_eq_true rfl, Nat.le_of_ble_eq_true rfl⟩) rfl hl.1 rfl (Nat.le_of_ble_eq_true rfl) ⟨Nat.zero_le _, Nat.zero_le _⟩ dX9_leg_1 (fun v I1 L1 H locs hR G => ?_)
  obtain ⟨hv, hI, hL⟩ := hR
  subst hv
  have G : GS E I L sg H locs := G.same hI hL
  refine W.eq (g2 := F0 mg 4 ls [.int (if ¬ (2 : Int32) < (0 : Int32) ∧ ¬ (3 : Int32) < (2 : Int32) then 1 else 0)]) rfl ?_
  refine s_if_eq_b (P := ¬ (2 : Int32) < (0 : Int32) ∧ ¬ (3 : Int32) < (2 : Int32)) (tgt := 19) S dX9_leg_4 (by decide) (fun h => absurd (by decide) h) (fun _ => ?_)
  refine lv_iload_n S.1 S.2.1 dX9_leg_7 rfl (lv_at hl 2 rfl) ?_
  refine lv_i2l (v := (1 : Int64)) S.1 S.2.1 dX9_leg_8 (by decide) ?_
  refine lv_lconst (v := (0 : Int64)) S.1 S.2.1 dX9_leg_9 (by decide) ?_
  refine lv_ldc2 (v := (7 : Int64)) S.1 S.2.1 S.2.2.2.1 (S.2.2.2.2 _ (List.mem_of_getElem? (i := 1) rfl)) dX9_leg_10 ?_
  refine s_callS (As := [.long (1 : Int64), .long (0 : Int64), .long (7 : Int64)]) (rest := []) S hX G (k_X9_in l E (1 : Int64) (0 : Int64) (7 : Int64)) (va_cwS (bytes := cX9_in) (maxL := 6) (ret := (some .boolean)) 3 S.2.2.2.2 gX9_leg_X9_in rfl rfl rfl (by decide +kernel) ⟨Nat.le_of_ble_eq_true rfl, Nat.le_of_ble_eq_true rfl⟩) rfl hl.1 rfl (Nat.le_of_ble_eq_true rfl) ⟨Nat.zero_le _, Nat.zero_le _⟩ dX9_leg_13 (fun v I1 L1 H locs hR G => ?_)
  obtain ⟨hv, hI, hL⟩ := hR
  subst hv
  have G : GS E I L sg H locs := G.same hI hL
  refine W.eq (g2 := F0 mg 16 ls [.int (if ¬ (1 : Int64) < (0 : Int64) ∧ ¬ (7 : Int64) < (1 : Int64) then 1 else 0)]) rfl ?_
  refine s_if_ne_b (P := ¬ (1 : Int64) < (0 : Int64) ∧ ¬ (7 : Int64) < (1 : Int64)) (tgt := 22) S dX9_leg_16 (by decide) (fun _ => ?_) (fun h => absurd (by decide) h)
  refine lv_iload_n S.1 S.2.1 dX9_leg_22 rfl (lv_at hl 1 rfl) ?_
  refine s_callS (As := [.int (2 : Int32)]) (rest := []) S hX G (k_X9_legAt_2 l E) (va_cwS (bytes := cX9_legAt) (maxL := 1) (ret := (some .int)) 1 S.2.2.2.2 gX9_leg_X9_legAt rfl rfl rfl (by decide +kernel) ⟨Nat.le_of_ble_eq_true rfl, Nat.le_of_ble_eq_true rfl⟩) rfl hl.1 rfl (Nat.le_of_ble_eq_true rfl) ⟨Nat.zero_le _, Nat.zero_le _⟩ dX9_leg_23 (fun v I1 L1 H locs hR G => ?_)
  obtain ⟨hv, hI, hL⟩ := hR
  subst hv
  have G : GS E I L sg H locs := G.same hI hL
  refine W.eq (g2 := F0 mg 26 ls [.int (24 : Int32)]) rfl ?_
  refine lv_istore_n (lv' := [(3, .int (24 : Int32)), (0, .ref (E.2.2.2 161)), (1, .int (2 : Int32)), (2, .int (1 : Int32))]) S.1 S.2.1 dX9_leg_26 rfl hl (by decide) rfl (fun ls hl => ?_)
  refine lv_iload_n S.1 S.2.1 dX9_leg_27 rfl (lv_at hl 3 rfl) ?_
  refine lv_tableIn (off := 36) (tgt := 64) S.1 S.2.1 dX9_leg_28 (by decide) (by decide) (by decide) (by decide) ?_
  refine lv_aload_n S.1 S.2.1 dX9_leg_64 rfl (lv_at hl 1 rfl) ?_
  refine s_get S hX G (i := 161) (kd := 9) (a := (I 161)) (v := .ref (E.2.2.2 162)) (C := RX9) (T := TX9) (N := 13) 0 (rfl : sh 161 = 9) rfl rfl rfl (by decide) rfl (fun _ h => (List.mem_cons_of_mem _ (List.mem_append_right _ h))) (by decide) (List.mem_of_getElem? (i := 3) rfl) (fun _ h => h) dX9_leg_65 ?_
  refine lv_iload_n S.1 S.2.1 dX9_leg_68 rfl (lv_at hl 0 rfl) ?_
  refine lv_iload_n S.1 S.2.1 dX9_leg_69 rfl (lv_at hl 3 rfl) ?_
  refine s_iadd (v := (25 : Int32)) S dX9_leg_70 (by decide) ?_
  refine s_iald S hX G (i := 162) (kd := 284) (n := 270) (a := d) (x := (d 25)) (rfl : sh 162 = 284) e_d rfl (by decide) (by unfold vp_in; decide) (congrArg d (by decide)) dX9_leg_71 ?_
  refine s_iret (x := (d 25)) S G hr hlk dX9_leg_72 ?_
  exact ⟨rfl, rfl, rfl⟩
set_option maxHeartbeats 4000000 in
set_option maxRecDepth 100000 in
theorem k_X9_leg_2_2 (l : Launch) (E : Ev) {I : SI} {L : SL} (d : Nat → Int32) (e_d : I (162) = d) : CS l yX9_leg wsX9_leg ({ frames := 4, cells := 0, slots := 0, locals := 88 }) E [.ref (E.2.2.2 161), .int (2 : Int32), .int (2 : Int32)] I L (fun vv I' L' => vv = some (.int (wshF d 2 24 70)) ∧ I' = I ∧ L' = L) := by
  refine CS.of (cc := cX9_leg) (maxL := 4) (ret := (some .int)) (by decide) rfl (Nat.le_of_ble_eq_true rfl) ?_
  intro pg en sg mg below meth cg ls S hr hlk hX G hl
  have S : CallFix pg mg cg cX9_leg 4 sg _ wsX9_leg RX9 := S
  have hl : lv_has ls 4 [(0, .ref (E.2.2.2 161)), (1, .int (2 : Int32)), (2, .int (2 : Int32))] := hl
  refine lv_iload_n S.1 S.2.1 dX9_leg_0 rfl (lv_at hl 1 rfl) ?_
  refine s_callS (As := [.int (2 : Int32)]) (rest := []) S hX G (k_X9_isLeg l E (2 : Int32)) (va_cwS (bytes := cX9_isLeg) (maxL := 1) (ret := (some .boolean)) 1 S.2.2.2.2 gX9_leg_X9_isLeg rfl rfl rfl (by decide +kernel) ⟨Nat.le_of_ble_eq_true rfl, Nat.le_of_ble_eq_true rfl⟩) rfl hl.1 rfl (Nat.le_of_ble_eq_true rfl) ⟨Nat.zero_le _, Nat.zero_le _⟩ dX9_leg_1 (fun v I1 L1 H locs hR G => ?_)
  obtain ⟨hv, hI, hL⟩ := hR
  subst hv
  have G : GS E I L sg H locs := G.same hI hL
  refine W.eq (g2 := F0 mg 4 ls [.int (if ¬ (2 : Int32) < (0 : Int32) ∧ ¬ (3 : Int32) < (2 : Int32) then 1 else 0)]) rfl ?_
  refine s_if_eq_b (P := ¬ (2 : Int32) < (0 : Int32) ∧ ¬ (3 : Int32) < (2 : Int32)) (tgt := 19) S dX9_leg_4 (by decide) (fun h => absurd (by decide) h) (fun _ => ?_)
  refine lv_iload_n S.1 S.2.1 dX9_leg_7 rfl (lv_at hl 2 rfl) ?_
  refine lv_i2l (v := (2 : Int64)) S.1 S.2.1 dX9_leg_8 (by decide) ?_
  refine lv_lconst (v := (0 : Int64)) S.1 S.2.1 dX9_leg_9 (by decide) ?_
  refine lv_ldc2 (v := (7 : Int64)) S.1 S.2.1 S.2.2.2.1 (S.2.2.2.2 _ (List.mem_of_getElem? (i := 1) rfl)) dX9_leg_10 ?_
  refine s_callS (As := [.long (2 : Int64), .long (0 : Int64), .long (7 : Int64)]) (rest := []) S hX G (k_X9_in l E (2 : Int64) (0 : Int64) (7 : Int64)) (va_cwS (bytes := cX9_in) (maxL := 6) (ret := (some .boolean)) 3 S.2.2.2.2 gX9_leg_X9_in rfl rfl rfl (by decide +kernel) ⟨Nat.le_of_ble_eq_true rfl, Nat.le_of_ble_eq_true rfl⟩) rfl hl.1 rfl (Nat.le_of_ble_eq_true rfl) ⟨Nat.zero_le _, Nat.zero_le _⟩ dX9_leg_13 (fun v I1 L1 H locs hR G => ?_)
  obtain ⟨hv, hI, hL⟩ := hR
  subst hv
  have G : GS E I L sg H locs := G.same hI hL
  refine W.eq (g2 := F0 mg 16 ls [.int (if ¬ (2 : Int64) < (0 : Int64) ∧ ¬ (7 : Int64) < (2 : Int64) then 1 else 0)]) rfl ?_
  refine s_if_ne_b (P := ¬ (2 : Int64) < (0 : Int64) ∧ ¬ (7 : Int64) < (2 : Int64)) (tgt := 22) S dX9_leg_16 (by decide) (fun _ => ?_) (fun h => absurd (by decide) h)
  refine lv_iload_n S.1 S.2.1 dX9_leg_22 rfl (lv_at hl 1 rfl) ?_
  refine s_callS (As := [.int (2 : Int32)]) (rest := []) S hX G (k_X9_legAt_2 l E) (va_cwS (bytes := cX9_legAt) (maxL := 1) (ret := (some .int)) 1 S.2.2.2.2 gX9_leg_X9_legAt rfl rfl rfl (by decide +kernel) ⟨Nat.le_of_ble_eq_true rfl, Nat.le_of_ble_eq_true rfl⟩) rfl hl.1 rfl (Nat.le_of_ble_eq_true rfl) ⟨Nat.zero_le _, Nat.zero_le _⟩ dX9_leg_23 (fun v I1 L1 H locs hR G => ?_)
  obtain ⟨hv, hI, hL⟩ := hR
  subst hv
  have G : GS E I L sg H locs := G.same hI hL
  refine W.eq (g2 := F0 mg 26 ls [.int (24 : Int32)]) rfl ?_
  refine lv_istore_n (lv' := [(3, .int (24 : Int32)), (0, .ref (E.2.2.2 161)), (1, .int (2 : Int32)), (2, .int (2 : Int32))]) S.1 S.2.1 dX9_leg_26 rfl hl (by decide) rfl (fun ls hl => ?_)
  refine lv_iload_n S.1 S.2.1 dX9_leg_27 rfl (lv_at hl 3 rfl) ?_
  refine lv_tableIn (off := 45) (tgt := 73) S.1 S.2.1 dX9_leg_28 (by decide) (by decide) (by decide) (by decide) ?_
  refine lv_aload_n S.1 S.2.1 dX9_leg_73 rfl (lv_at hl 1 rfl) ?_
  refine lv_iload_n S.1 S.2.1 dX9_leg_74 rfl (lv_at hl 2 rfl) ?_
  refine s_callV (C := RX9) (As := [.int (2 : Int32)]) (rest := []) (i := 161) (kd := 9) S hX G (k_X9_wish_2 l E d e_d) (cwV (bytes := cX9_wish) (maxL := 4) (ret := (some .int)) 1 S.2.2.2.2 gX9_leg_X9_wish rfl rfl rfl (by decide +kernel) ⟨Nat.le_of_ble_eq_true rfl, Nat.le_of_ble_eq_true rfl⟩) (rfl : sh 161 = 9) rfl rfl rfl (by decide) rfl hl.1 rfl (Nat.le_of_ble_eq_true rfl) ⟨Nat.zero_le _, Nat.zero_le _⟩ dX9_leg_75 (fun v I1 L1 H locs hR G => ?_)
  obtain ⟨hv, hI, hL⟩ := hR
  subst hv
  have G : GS E I L sg H locs := G.same hI hL
  refine W.eq (g2 := F0 mg 78 ls [.int (wshF d 2 24 70)]) rfl ?_
  refine lv_topi (fun y_1 ey_1 => ?_)
  refine s_iret (x := y_1) S G hr hlk dX9_leg_78 ?_
  exact ⟨(congrArg (fun q : Int32 => some (Value.int q)) (show y_1 = (wshF d 2 24 70) by subst ey_1; (first | (simp []; done) | (clear S hX G hl; grind [])))), rfl, rfl⟩
set_option maxHeartbeats 4000000 in
set_option maxRecDepth 100000 in
theorem k_X9_leg_2_3 (l : Launch) (E : Ev) {I : SI} {L : SL} (d : Nat → Int32) (e_d : I (162) = d) : CS l yX9_leg wsX9_leg ({ frames := 2, cells := 0, slots := 0, locals := 45 }) E [.ref (E.2.2.2 161), .int (2 : Int32), .int (3 : Int32)] I L (fun vv I' L' => vv = some (.int (if d 26 = -1 then d 0 else d 26)) ∧ I' = I ∧ L' = L) := by
  refine CS.of (cc := cX9_leg) (maxL := 4) (ret := (some .int)) (by decide) rfl (Nat.le_of_ble_eq_true rfl) ?_
  intro pg en sg mg below meth cg ls S hr hlk hX G hl
  have S : CallFix pg mg cg cX9_leg 4 sg _ wsX9_leg RX9 := S
  have hl : lv_has ls 4 [(0, .ref (E.2.2.2 161)), (1, .int (2 : Int32)), (2, .int (3 : Int32))] := hl
  refine lv_iload_n S.1 S.2.1 dX9_leg_0 rfl (lv_at hl 1 rfl) ?_
  refine s_callS (As := [.int (2 : Int32)]) (rest := []) S hX G (k_X9_isLeg l E (2 : Int32)) (va_cwS (bytes := cX9_isLeg) (maxL := 1) (ret := (some .boolean)) 1 S.2.2.2.2 gX9_leg_X9_isLeg rfl rfl rfl (by decide +kernel) ⟨Nat.le_of_ble_eq_true rfl, Nat.le_of_ble_eq_true rfl⟩) rfl hl.1 rfl (Nat.le_of_ble_eq_true rfl) ⟨Nat.zero_le _, Nat.zero_le _⟩ dX9_leg_1 (fun v I1 L1 H locs hR G => ?_)
  obtain ⟨hv, hI, hL⟩ := hR
  subst hv
  have G : GS E I L sg H locs := G.same hI hL
  refine W.eq (g2 := F0 mg 4 ls [.int (if ¬ (2 : Int32) < (0 : Int32) ∧ ¬ (3 : Int32) < (2 : Int32) then 1 else 0)]) rfl ?_
  refine s_if_eq_b (P := ¬ (2 : Int32) < (0 : Int32) ∧ ¬ (3 : Int32) < (2 : Int32)) (tgt := 19) S dX9_leg_4 (by decide) (fun h => absurd (by decide) h) (fun _ => ?_)
  refine lv_iload_n S.1 S.2.1 dX9_leg_7 rfl (lv_at hl 2 rfl) ?_
  refine lv_i2l (v := (3 : Int64)) S.1 S.2.1 dX9_leg_8 (by decide) ?_
  refine lv_lconst (v := (0 : Int64)) S.1 S.2.1 dX9_leg_9 (by decide) ?_
  refine lv_ldc2 (v := (7 : Int64)) S.1 S.2.1 S.2.2.2.1 (S.2.2.2.2 _ (List.mem_of_getElem? (i := 1) rfl)) dX9_leg_10 ?_
  refine s_callS (As := [.long (3 : Int64), .long (0 : Int64), .long (7 : Int64)]) (rest := []) S hX G (k_X9_in l E (3 : Int64) (0 : Int64) (7 : Int64)) (va_cwS (bytes := cX9_in) (maxL := 6) (ret := (some .boolean)) 3 S.2.2.2.2 gX9_leg_X9_in rfl rfl rfl (by decide +kernel) ⟨Nat.le_of_ble_eq_true rfl, Nat.le_of_ble_eq_true rfl⟩) rfl hl.1 rfl (Nat.le_of_ble_eq_true rfl) ⟨Nat.zero_le _, Nat.zero_le _⟩ dX9_leg_13 (fun v I1 L1 H locs hR G => ?_)
  obtain ⟨hv, hI, hL⟩ := hR
  subst hv
  have G : GS E I L sg H locs := G.same hI hL
  refine W.eq (g2 := F0 mg 16 ls [.int (if ¬ (3 : Int64) < (0 : Int64) ∧ ¬ (7 : Int64) < (3 : Int64) then 1 else 0)]) rfl ?_
  refine s_if_ne_b (P := ¬ (3 : Int64) < (0 : Int64) ∧ ¬ (7 : Int64) < (3 : Int64)) (tgt := 22) S dX9_leg_16 (by decide) (fun _ => ?_) (fun h => absurd (by decide) h)
  refine lv_iload_n S.1 S.2.1 dX9_leg_22 rfl (lv_at hl 1 rfl) ?_
  refine s_callS (As := [.int (2 : Int32)]) (rest := []) S hX G (k_X9_legAt_2 l E) (va_cwS (bytes := cX9_legAt) (maxL := 1) (ret := (some .int)) 1 S.2.2.2.2 gX9_leg_X9_legAt rfl rfl rfl (by decide +kernel) ⟨Nat.le_of_ble_eq_true rfl, Nat.le_of_ble_eq_true rfl⟩) rfl hl.1 rfl (Nat.le_of_ble_eq_true rfl) ⟨Nat.zero_le _, Nat.zero_le _⟩ dX9_leg_23 (fun v I1 L1 H locs hR G => ?_)
  obtain ⟨hv, hI, hL⟩ := hR
  subst hv
  have G : GS E I L sg H locs := G.same hI hL
  refine W.eq (g2 := F0 mg 26 ls [.int (24 : Int32)]) rfl ?_
  refine lv_istore_n (lv' := [(3, .int (24 : Int32)), (0, .ref (E.2.2.2 161)), (1, .int (2 : Int32)), (2, .int (3 : Int32))]) S.1 S.2.1 dX9_leg_26 rfl hl (by decide) rfl (fun ls hl => ?_)
  refine lv_iload_n S.1 S.2.1 dX9_leg_27 rfl (lv_at hl 3 rfl) ?_
  refine lv_tableIn (off := 51) (tgt := 79) S.1 S.2.1 dX9_leg_28 (by decide) (by decide) (by decide) (by decide) ?_
  refine lv_aload_n S.1 S.2.1 dX9_leg_79 rfl (lv_at hl 1 rfl) ?_
  refine s_get S hX G (i := 161) (kd := 9) (a := (I 161)) (v := .ref (E.2.2.2 162)) (C := RX9) (T := TX9) (N := 13) 0 (rfl : sh 161 = 9) rfl rfl rfl (by decide) rfl (fun _ h => (List.mem_cons_of_mem _ (List.mem_append_right _ h))) (by decide) (List.mem_of_getElem? (i := 3) rfl) (fun _ h => h) dX9_leg_80 ?_
  refine lv_iload_n S.1 S.2.1 dX9_leg_83 rfl (lv_at hl 0 rfl) ?_
  refine lv_iconst (v := (2 : Int32)) S.1 S.2.1 dX9_leg_84 (by decide) ?_
  refine s_iadd (v := (26 : Int32)) S dX9_leg_85 (by decide) ?_
  refine s_iald S hX G (i := 162) (kd := 284) (n := 270) (a := d) (x := (d 26)) (rfl : sh 162 = 284) e_d rfl (by decide) (by unfold vp_in; decide) (congrArg d (by decide)) dX9_leg_86 ?_
  refine lv_iconst (v := (-1 : Int32)) S.1 S.2.1 dX9_leg_87 (by decide) ?_
  refine lv_icmp_ne (tgt := 100) S.1 S.2.1 dX9_leg_88 (by decide) (fun c_1 => ?_) (fun c_1 => ?_)
  · refine lv_aload_n S.1 S.2.1 dX9_leg_100 rfl (lv_at hl 1 rfl) ?_
    refine s_get S hX G (i := 161) (kd := 9) (a := (I 161)) (v := .ref (E.2.2.2 162)) (C := RX9) (T := TX9) (N := 13) 0 (rfl : sh 161 = 9) rfl rfl rfl (by decide) rfl (fun _ h => (List.mem_cons_of_mem _ (List.mem_append_right _ h))) (by decide) (List.mem_of_getElem? (i := 3) rfl) (fun _ h => h) dX9_leg_101 ?_
    refine lv_iload_n S.1 S.2.1 dX9_leg_104 rfl (lv_at hl 0 rfl) ?_
    refine lv_iconst (v := (2 : Int32)) S.1 S.2.1 dX9_leg_105 (by decide) ?_
    refine s_iadd (v := (26 : Int32)) S dX9_leg_106 (by decide) ?_
    refine s_iald S hX G (i := 162) (kd := 284) (n := 270) (a := d) (x := (d 26)) (rfl : sh 162 = 284) e_d rfl (by decide) (by unfold vp_in; decide) (congrArg d (by decide)) dX9_leg_107 ?_
    refine s_iret (x := (d 26)) S G hr hlk dX9_leg_108 ?_
    exact ⟨(congrArg (fun q : Int32 => some (Value.int q)) (show (d 26) = (if d 26 = -1 then d 0 else d 26) by first | (simp [c_1]; done) | (clear S hX G hl; grind []))), rfl, rfl⟩
  · refine lv_aload_n S.1 S.2.1 dX9_leg_91 rfl (lv_at hl 1 rfl) ?_
    refine s_get S hX G (i := 161) (kd := 9) (a := (I 161)) (v := .ref (E.2.2.2 162)) (C := RX9) (T := TX9) (N := 13) 0 (rfl : sh 161 = 9) rfl rfl rfl (by decide) rfl (fun _ h => (List.mem_cons_of_mem _ (List.mem_append_right _ h))) (by decide) (List.mem_of_getElem? (i := 3) rfl) (fun _ h => h) dX9_leg_92 ?_
    refine lv_iconst (v := (0 : Int32)) S.1 S.2.1 dX9_leg_95 (by decide) ?_
    refine s_iald S hX G (i := 162) (kd := 284) (n := 270) (a := d) (x := (d 0)) (rfl : sh 162 = 284) e_d rfl (by decide) (by unfold vp_in; decide) (congrArg d (by decide)) dX9_leg_96 ?_
    refine lv_goto (tgt := 108) S.1 S.2.1 dX9_leg_97 (by decide) ?_
    refine s_iret (x := (d 0)) S G hr hlk dX9_leg_108 ?_
    exact ⟨(congrArg (fun q : Int32 => some (Value.int q)) (show (d 0) = (if d 26 = -1 then d 0 else d 26) by first | (simp [c_1]; done) | (clear S hX G hl; grind []))), rfl, rfl⟩
set_option maxHeartbeats 4000000 in
set_option maxRecDepth 100000 in
theorem k_X9_leg_2_4 (l : Launch) (E : Ev) {I : SI} {L : SL} (d : Nat → Int32) (e_d : I (162) = d) : CS l yX9_leg wsX9_leg ({ frames := 2, cells := 0, slots := 0, locals := 45 }) E [.ref (E.2.2.2 161), .int (2 : Int32), .int (4 : Int32)] I L (fun vv I' L' => vv = some (.int (d 27)) ∧ I' = I ∧ L' = L) := by
  refine CS.of (cc := cX9_leg) (maxL := 4) (ret := (some .int)) (by decide) rfl (Nat.le_of_ble_eq_true rfl) ?_
  intro pg en sg mg below meth cg ls S hr hlk hX G hl
  have S : CallFix pg mg cg cX9_leg 4 sg _ wsX9_leg RX9 := S
  have hl : lv_has ls 4 [(0, .ref (E.2.2.2 161)), (1, .int (2 : Int32)), (2, .int (4 : Int32))] := hl
  refine lv_iload_n S.1 S.2.1 dX9_leg_0 rfl (lv_at hl 1 rfl) ?_
  refine s_callS (As := [.int (2 : Int32)]) (rest := []) S hX G (k_X9_isLeg l E (2 : Int32)) (va_cwS (bytes := cX9_isLeg) (maxL := 1) (ret := (some .boolean)) 1 S.2.2.2.2 gX9_leg_X9_isLeg rfl rfl rfl (by decide +kernel) ⟨Nat.le_of_ble_eq_true rfl, Nat.le_of_ble_eq_true rfl⟩) rfl hl.1 rfl (Nat.le_of_ble_eq_true rfl) ⟨Nat.zero_le _, Nat.zero_le _⟩ dX9_leg_1 (fun v I1 L1 H locs hR G => ?_)
  obtain ⟨hv, hI, hL⟩ := hR
  subst hv
  have G : GS E I L sg H locs := G.same hI hL
  refine W.eq (g2 := F0 mg 4 ls [.int (if ¬ (2 : Int32) < (0 : Int32) ∧ ¬ (3 : Int32) < (2 : Int32) then 1 else 0)]) rfl ?_
  refine s_if_eq_b (P := ¬ (2 : Int32) < (0 : Int32) ∧ ¬ (3 : Int32) < (2 : Int32)) (tgt := 19) S dX9_leg_4 (by decide) (fun h => absurd (by decide) h) (fun _ => ?_)
  refine lv_iload_n S.1 S.2.1 dX9_leg_7 rfl (lv_at hl 2 rfl) ?_
  refine lv_i2l (v := (4 : Int64)) S.1 S.2.1 dX9_leg_8 (by decide) ?_
  refine lv_lconst (v := (0 : Int64)) S.1 S.2.1 dX9_leg_9 (by decide) ?_
  refine lv_ldc2 (v := (7 : Int64)) S.1 S.2.1 S.2.2.2.1 (S.2.2.2.2 _ (List.mem_of_getElem? (i := 1) rfl)) dX9_leg_10 ?_
  refine s_callS (As := [.long (4 : Int64), .long (0 : Int64), .long (7 : Int64)]) (rest := []) S hX G (k_X9_in l E (4 : Int64) (0 : Int64) (7 : Int64)) (va_cwS (bytes := cX9_in) (maxL := 6) (ret := (some .boolean)) 3 S.2.2.2.2 gX9_leg_X9_in rfl rfl rfl (by decide +kernel) ⟨Nat.le_of_ble_eq_true rfl, Nat.le_of_ble_eq_true rfl⟩) rfl hl.1 rfl (Nat.le_of_ble_eq_true rfl) ⟨Nat.zero_le _, Nat.zero_le _⟩ dX9_leg_13 (fun v I1 L1 H locs hR G => ?_)
  obtain ⟨hv, hI, hL⟩ := hR
  subst hv
  have G : GS E I L sg H locs := G.same hI hL
  refine W.eq (g2 := F0 mg 16 ls [.int (if ¬ (4 : Int64) < (0 : Int64) ∧ ¬ (7 : Int64) < (4 : Int64) then 1 else 0)]) rfl ?_
  refine s_if_ne_b (P := ¬ (4 : Int64) < (0 : Int64) ∧ ¬ (7 : Int64) < (4 : Int64)) (tgt := 22) S dX9_leg_16 (by decide) (fun _ => ?_) (fun h => absurd (by decide) h)
  refine lv_iload_n S.1 S.2.1 dX9_leg_22 rfl (lv_at hl 1 rfl) ?_
  refine s_callS (As := [.int (2 : Int32)]) (rest := []) S hX G (k_X9_legAt_2 l E) (va_cwS (bytes := cX9_legAt) (maxL := 1) (ret := (some .int)) 1 S.2.2.2.2 gX9_leg_X9_legAt rfl rfl rfl (by decide +kernel) ⟨Nat.le_of_ble_eq_true rfl, Nat.le_of_ble_eq_true rfl⟩) rfl hl.1 rfl (Nat.le_of_ble_eq_true rfl) ⟨Nat.zero_le _, Nat.zero_le _⟩ dX9_leg_23 (fun v I1 L1 H locs hR G => ?_)
  obtain ⟨hv, hI, hL⟩ := hR
  subst hv
  have G : GS E I L sg H locs := G.same hI hL
  refine W.eq (g2 := F0 mg 26 ls [.int (24 : Int32)]) rfl ?_
  refine lv_istore_n (lv' := [(3, .int (24 : Int32)), (0, .ref (E.2.2.2 161)), (1, .int (2 : Int32)), (2, .int (4 : Int32))]) S.1 S.2.1 dX9_leg_26 rfl hl (by decide) rfl (fun ls hl => ?_)
  refine lv_iload_n S.1 S.2.1 dX9_leg_27 rfl (lv_at hl 3 rfl) ?_
  refine lv_tableIn (off := 81) (tgt := 109) S.1 S.2.1 dX9_leg_28 (by decide) (by decide) (by decide) (by decide) ?_
  refine lv_aload_n S.1 S.2.1 dX9_leg_109 rfl (lv_at hl 1 rfl) ?_
  refine s_get S hX G (i := 161) (kd := 9) (a := (I 161)) (v := .ref (E.2.2.2 162)) (C := RX9) (T := TX9) (N := 13) 0 (rfl : sh 161 = 9) rfl rfl rfl (by decide) rfl (fun _ h => (List.mem_cons_of_mem _ (List.mem_append_right _ h))) (by decide) (List.mem_of_getElem? (i := 3) rfl) (fun _ h => h) dX9_leg_110 ?_
  refine lv_iload_n S.1 S.2.1 dX9_leg_113 rfl (lv_at hl 0 rfl) ?_
  refine lv_iconst (v := (3 : Int32)) S.1 S.2.1 dX9_leg_114 (by decide) ?_
  refine s_iadd (v := (27 : Int32)) S dX9_leg_115 (by decide) ?_
  refine s_iald S hX G (i := 162) (kd := 284) (n := 270) (a := d) (x := (d 27)) (rfl : sh 162 = 284) e_d rfl (by decide) (by unfold vp_in; decide) (congrArg d (by decide)) dX9_leg_116 ?_
  refine s_iret (x := (d 27)) S G hr hlk dX9_leg_117 ?_
  exact ⟨rfl, rfl, rfl⟩
set_option maxHeartbeats 4000000 in
set_option maxRecDepth 100000 in
theorem k_X9_leg_2_5 (l : Launch) (E : Ev) {I : SI} {L : SL} (d : Nat → Int32) (e_d : I (162) = d) : CS l yX9_leg wsX9_leg ({ frames := 2, cells := 0, slots := 0, locals := 45 }) E [.ref (E.2.2.2 161), .int (2 : Int32), .int (5 : Int32)] I L (fun vv I' L' => vv = some (.int (d 28)) ∧ I' = I ∧ L' = L) := by
  refine CS.of (cc := cX9_leg) (maxL := 4) (ret := (some .int)) (by decide) rfl (Nat.le_of_ble_eq_true rfl) ?_
  intro pg en sg mg below meth cg ls S hr hlk hX G hl
  have S : CallFix pg mg cg cX9_leg 4 sg _ wsX9_leg RX9 := S
  have hl : lv_has ls 4 [(0, .ref (E.2.2.2 161)), (1, .int (2 : Int32)), (2, .int (5 : Int32))] := hl
  refine lv_iload_n S.1 S.2.1 dX9_leg_0 rfl (lv_at hl 1 rfl) ?_
  refine s_callS (As := [.int (2 : Int32)]) (rest := []) S hX G (k_X9_isLeg l E (2 : Int32)) (va_cwS (bytes := cX9_isLeg) (maxL := 1) (ret := (some .boolean)) 1 S.2.2.2.2 gX9_leg_X9_isLeg rfl rfl rfl (by decide +kernel) ⟨Nat.le_of_ble_eq_true rfl, Nat.le_of_ble_eq_true rfl⟩) rfl hl.1 rfl (Nat.le_of_ble_eq_true rfl) ⟨Nat.zero_le _, Nat.zero_le _⟩ dX9_leg_1 (fun v I1 L1 H locs hR G => ?_)
  obtain ⟨hv, hI, hL⟩ := hR
  subst hv
  have G : GS E I L sg H locs := G.same hI hL
  refine W.eq (g2 := F0 mg 4 ls [.int (if ¬ (2 : Int32) < (0 : Int32) ∧ ¬ (3 : Int32) < (2 : Int32) then 1 else 0)]) rfl ?_
  refine s_if_eq_b (P := ¬ (2 : Int32) < (0 : Int32) ∧ ¬ (3 : Int32) < (2 : Int32)) (tgt := 19) S dX9_leg_4 (by decide) (fun h => absurd (by decide) h) (fun _ => ?_)
  refine lv_iload_n S.1 S.2.1 dX9_leg_7 rfl (lv_at hl 2 rfl) ?_
  refine lv_i2l (v := (5 : Int64)) S.1 S.2.1 dX9_leg_8 (by decide) ?_
  refine lv_lconst (v := (0 : Int64)) S.1 S.2.1 dX9_leg_9 (by decide) ?_
  refine lv_ldc2 (v := (7 : Int64)) S.1 S.2.1 S.2.2.2.1 (S.2.2.2.2 _ (List.mem_of_getElem? (i := 1) rfl)) dX9_leg_10 ?_
  refine s_callS (As := [.long (5 : Int64), .long (0 : Int64), .long (7 : Int64)]) (rest := []) S hX G (k_X9_in l E (5 : Int64) (0 : Int64) (7 : Int64)) (va_cwS (bytes := cX9_in) (maxL := 6) (ret := (some .boolean)) 3 S.2.2.2.2 gX9_leg_X9_in rfl rfl rfl (by decide +kernel) ⟨Nat.le_of_ble_eq_true rfl, Nat.le_of_ble_eq_true rfl⟩) rfl hl.1 rfl (Nat.le_of_ble_eq_true rfl) ⟨Nat.zero_le _, Nat.zero_le _⟩ dX9_leg_13 (fun v I1 L1 H locs hR G => ?_)
  obtain ⟨hv, hI, hL⟩ := hR
  subst hv
  have G : GS E I L sg H locs := G.same hI hL
  refine W.eq (g2 := F0 mg 16 ls [.int (if ¬ (5 : Int64) < (0 : Int64) ∧ ¬ (7 : Int64) < (5 : Int64) then 1 else 0)]) rfl ?_
  refine s_if_ne_b (P := ¬ (5 : Int64) < (0 : Int64) ∧ ¬ (7 : Int64) < (5 : Int64)) (tgt := 22) S dX9_leg_16 (by decide) (fun _ => ?_) (fun h => absurd (by decide) h)
  refine lv_iload_n S.1 S.2.1 dX9_leg_22 rfl (lv_at hl 1 rfl) ?_
  refine s_callS (As := [.int (2 : Int32)]) (rest := []) S hX G (k_X9_legAt_2 l E) (va_cwS (bytes := cX9_legAt) (maxL := 1) (ret := (some .int)) 1 S.2.2.2.2 gX9_leg_X9_legAt rfl rfl rfl (by decide +kernel) ⟨Nat.le_of_ble_eq_true rfl, Nat.le_of_ble_eq_true rfl⟩) rfl hl.1 rfl (Nat.le_of_ble_eq_true rfl) ⟨Nat.zero_le _, Nat.zero_le _⟩ dX9_leg_23 (fun v I1 L1 H locs hR G => ?_)
  obtain ⟨hv, hI, hL⟩ := hR
  subst hv
  have G : GS E I L sg H locs := G.same hI hL
  refine W.eq (g2 := F0 mg 26 ls [.int (24 : Int32)]) rfl ?_
  refine lv_istore_n (lv' := [(3, .int (24 : Int32)), (0, .ref (E.2.2.2 161)), (1, .int (2 : Int32)), (2, .int (5 : Int32))]) S.1 S.2.1 dX9_leg_26 rfl hl (by decide) rfl (fun ls hl => ?_)
  refine lv_iload_n S.1 S.2.1 dX9_leg_27 rfl (lv_at hl 3 rfl) ?_
  refine lv_tableOut (tgt := 118) S.1 S.2.1 dX9_leg_28 (by decide) (by decide) ?_
  refine lv_aload_n S.1 S.2.1 dX9_leg_118 rfl (lv_at hl 1 rfl) ?_
  refine s_get S hX G (i := 161) (kd := 9) (a := (I 161)) (v := .ref (E.2.2.2 162)) (C := RX9) (T := TX9) (N := 13) 0 (rfl : sh 161 = 9) rfl rfl rfl (by decide) rfl (fun _ h => (List.mem_cons_of_mem _ (List.mem_append_right _ h))) (by decide) (List.mem_of_getElem? (i := 3) rfl) (fun _ h => h) dX9_leg_119 ?_
  refine lv_iload_n S.1 S.2.1 dX9_leg_122 rfl (lv_at hl 0 rfl) ?_
  refine lv_iconst (v := (4 : Int32)) S.1 S.2.1 dX9_leg_123 (by decide) ?_
  refine s_iadd (v := (28 : Int32)) S dX9_leg_124 (by decide) ?_
  refine lv_iload_n S.1 S.2.1 dX9_leg_125 rfl (lv_at hl 3 rfl) ?_
  refine s_iadd (v := (33 : Int32)) S dX9_leg_126 (by decide) ?_
  refine lv_iconst (v := (5 : Int32)) S.1 S.2.1 dX9_leg_127 (by decide) ?_
  refine s_isub (v := (28 : Int32)) S dX9_leg_128 (by decide) ?_
  refine s_iald S hX G (i := 162) (kd := 284) (n := 270) (a := d) (x := (d 28)) (rfl : sh 162 = 284) e_d rfl (by decide) (by unfold vp_in; decide) (congrArg d (by decide)) dX9_leg_129 ?_
  refine s_iret (x := (d 28)) S G hr hlk dX9_leg_130 ?_
  exact ⟨rfl, rfl, rfl⟩
set_option maxHeartbeats 4000000 in
set_option maxRecDepth 100000 in
theorem k_X9_leg_2_6 (l : Launch) (E : Ev) {I : SI} {L : SL} (d : Nat → Int32) (e_d : I (162) = d) : CS l yX9_leg wsX9_leg ({ frames := 2, cells := 0, slots := 0, locals := 45 }) E [.ref (E.2.2.2 161), .int (2 : Int32), .int (6 : Int32)] I L (fun vv I' L' => vv = some (.int (d 29)) ∧ I' = I ∧ L' = L) := by
  refine CS.of (cc := cX9_leg) (maxL := 4) (ret := (some .int)) (by decide) rfl (Nat.le_of_ble_eq_true rfl) ?_
  intro pg en sg mg below meth cg ls S hr hlk hX G hl
  have S : CallFix pg mg cg cX9_leg 4 sg _ wsX9_leg RX9 := S
  have hl : lv_has ls 4 [(0, .ref (E.2.2.2 161)), (1, .int (2 : Int32)), (2, .int (6 : Int32))] := hl
  refine lv_iload_n S.1 S.2.1 dX9_leg_0 rfl (lv_at hl 1 rfl) ?_
  refine s_callS (As := [.int (2 : Int32)]) (rest := []) S hX G (k_X9_isLeg l E (2 : Int32)) (va_cwS (bytes := cX9_isLeg) (maxL := 1) (ret := (some .boolean)) 1 S.2.2.2.2 gX9_leg_X9_isLeg rfl rfl rfl (by decide +kernel) ⟨Nat.le_of_ble_eq_true rfl, Nat.le_of_ble_eq_true rfl⟩) rfl hl.1 rfl (Nat.le_of_ble_eq_true rfl) ⟨Nat.zero_le _, Nat.zero_le _⟩ dX9_leg_1 (fun v I1 L1 H locs hR G => ?_)
  obtain ⟨hv, hI, hL⟩ := hR
  subst hv
  have G : GS E I L sg H locs := G.same hI hL
  refine W.eq (g2 := F0 mg 4 ls [.int (if ¬ (2 : Int32) < (0 : Int32) ∧ ¬ (3 : Int32) < (2 : Int32) then 1 else 0)]) rfl ?_
  refine s_if_eq_b (P := ¬ (2 : Int32) < (0 : Int32) ∧ ¬ (3 : Int32) < (2 : Int32)) (tgt := 19) S dX9_leg_4 (by decide) (fun h => absurd (by decide) h) (fun _ => ?_)
  refine lv_iload_n S.1 S.2.1 dX9_leg_7 rfl (lv_at hl 2 rfl) ?_
  refine lv_i2l (v := (6 : Int64)) S.1 S.2.1 dX9_leg_8 (by decide) ?_
  refine lv_lconst (v := (0 : Int64)) S.1 S.2.1 dX9_leg_9 (by decide) ?_
  refine lv_ldc2 (v := (7 : Int64)) S.1 S.2.1 S.2.2.2.1 (S.2.2.2.2 _ (List.mem_of_getElem? (i := 1) rfl)) dX9_leg_10 ?_
  refine s_callS (As := [.long (6 : Int64), .long (0 : Int64), .long (7 : Int64)]) (rest := []) S hX G (k_X9_in l E (6 : Int64) (0 : Int64) (7 : Int64)) (va_cwS (bytes := cX9_in) (maxL := 6) (ret := (some .boolean)) 3 S.2.2.2.2 gX9_leg_X9_in rfl rfl rfl (by decide +kernel) ⟨Nat.le_of_ble_eq_true rfl, Nat.le_of_ble_eq_true rfl⟩) rfl hl.1 rfl (Nat.le_of_ble_eq_true rfl) ⟨Nat.zero_le _, Nat.zero_le _⟩ dX9_leg_13 (fun v I1 L1 H locs hR G => ?_)
  obtain ⟨hv, hI, hL⟩ := hR
  subst hv
  have G : GS E I L sg H locs := G.same hI hL
  refine W.eq (g2 := F0 mg 16 ls [.int (if ¬ (6 : Int64) < (0 : Int64) ∧ ¬ (7 : Int64) < (6 : Int64) then 1 else 0)]) rfl ?_
  refine s_if_ne_b (P := ¬ (6 : Int64) < (0 : Int64) ∧ ¬ (7 : Int64) < (6 : Int64)) (tgt := 22) S dX9_leg_16 (by decide) (fun _ => ?_) (fun h => absurd (by decide) h)
  refine lv_iload_n S.1 S.2.1 dX9_leg_22 rfl (lv_at hl 1 rfl) ?_
  refine s_callS (As := [.int (2 : Int32)]) (rest := []) S hX G (k_X9_legAt_2 l E) (va_cwS (bytes := cX9_legAt) (maxL := 1) (ret := (some .int)) 1 S.2.2.2.2 gX9_leg_X9_legAt rfl rfl rfl (by decide +kernel) ⟨Nat.le_of_ble_eq_true rfl, Nat.le_of_ble_eq_true rfl⟩) rfl hl.1 rfl (Nat.le_of_ble_eq_true rfl) ⟨Nat.zero_le _, Nat.zero_le _⟩ dX9_leg_23 (fun v I1 L1 H locs hR G => ?_)
  obtain ⟨hv, hI, hL⟩ := hR
  subst hv
  have G : GS E I L sg H locs := G.same hI hL
  refine W.eq (g2 := F0 mg 26 ls [.int (24 : Int32)]) rfl ?_
  refine lv_istore_n (lv' := [(3, .int (24 : Int32)), (0, .ref (E.2.2.2 161)), (1, .int (2 : Int32)), (2, .int (6 : Int32))]) S.1 S.2.1 dX9_leg_26 rfl hl (by decide) rfl (fun ls hl => ?_)
  refine lv_iload_n S.1 S.2.1 dX9_leg_27 rfl (lv_at hl 3 rfl) ?_
  refine lv_tableOut (tgt := 118) S.1 S.2.1 dX9_leg_28 (by decide) (by decide) ?_
  refine lv_aload_n S.1 S.2.1 dX9_leg_118 rfl (lv_at hl 1 rfl) ?_
  refine s_get S hX G (i := 161) (kd := 9) (a := (I 161)) (v := .ref (E.2.2.2 162)) (C := RX9) (T := TX9) (N := 13) 0 (rfl : sh 161 = 9) rfl rfl rfl (by decide) rfl (fun _ h => (List.mem_cons_of_mem _ (List.mem_append_right _ h))) (by decide) (List.mem_of_getElem? (i := 3) rfl) (fun _ h => h) dX9_leg_119 ?_
  refine lv_iload_n S.1 S.2.1 dX9_leg_122 rfl (lv_at hl 0 rfl) ?_
  refine lv_iconst (v := (4 : Int32)) S.1 S.2.1 dX9_leg_123 (by decide) ?_
  refine s_iadd (v := (28 : Int32)) S dX9_leg_124 (by decide) ?_
  refine lv_iload_n S.1 S.2.1 dX9_leg_125 rfl (lv_at hl 3 rfl) ?_
  refine s_iadd (v := (34 : Int32)) S dX9_leg_126 (by decide) ?_
  refine lv_iconst (v := (5 : Int32)) S.1 S.2.1 dX9_leg_127 (by decide) ?_
  refine s_isub (v := (29 : Int32)) S dX9_leg_128 (by decide) ?_
  refine s_iald S hX G (i := 162) (kd := 284) (n := 270) (a := d) (x := (d 29)) (rfl : sh 162 = 284) e_d rfl (by decide) (by unfold vp_in; decide) (congrArg d (by decide)) dX9_leg_129 ?_
  refine s_iret (x := (d 29)) S G hr hlk dX9_leg_130 ?_
  exact ⟨rfl, rfl, rfl⟩
set_option maxHeartbeats 4000000 in
set_option maxRecDepth 100000 in
theorem k_X9_leg_2_7 (l : Launch) (E : Ev) {I : SI} {L : SL} (d : Nat → Int32) (e_d : I (162) = d) : CS l yX9_leg wsX9_leg ({ frames := 2, cells := 0, slots := 0, locals := 45 }) E [.ref (E.2.2.2 161), .int (2 : Int32), .int (7 : Int32)] I L (fun vv I' L' => vv = some (.int (d 30)) ∧ I' = I ∧ L' = L) := by
  refine CS.of (cc := cX9_leg) (maxL := 4) (ret := (some .int)) (by decide) rfl (Nat.le_of_ble_eq_true rfl) ?_
  intro pg en sg mg below meth cg ls S hr hlk hX G hl
  have S : CallFix pg mg cg cX9_leg 4 sg _ wsX9_leg RX9 := S
  have hl : lv_has ls 4 [(0, .ref (E.2.2.2 161)), (1, .int (2 : Int32)), (2, .int (7 : Int32))] := hl
  refine lv_iload_n S.1 S.2.1 dX9_leg_0 rfl (lv_at hl 1 rfl) ?_
  refine s_callS (As := [.int (2 : Int32)]) (rest := []) S hX G (k_X9_isLeg l E (2 : Int32)) (va_cwS (bytes := cX9_isLeg) (maxL := 1) (ret := (some .boolean)) 1 S.2.2.2.2 gX9_leg_X9_isLeg rfl rfl rfl (by decide +kernel) ⟨Nat.le_of_ble_eq_true rfl, Nat.le_of_ble_eq_true rfl⟩) rfl hl.1 rfl (Nat.le_of_ble_eq_true rfl) ⟨Nat.zero_le _, Nat.zero_le _⟩ dX9_leg_1 (fun v I1 L1 H locs hR G => ?_)
  obtain ⟨hv, hI, hL⟩ := hR
  subst hv
  have G : GS E I L sg H locs := G.same hI hL
  refine W.eq (g2 := F0 mg 4 ls [.int (if ¬ (2 : Int32) < (0 : Int32) ∧ ¬ (3 : Int32) < (2 : Int32) then 1 else 0)]) rfl ?_
  refine s_if_eq_b (P := ¬ (2 : Int32) < (0 : Int32) ∧ ¬ (3 : Int32) < (2 : Int32)) (tgt := 19) S dX9_leg_4 (by decide) (fun h => absurd (by decide) h) (fun _ => ?_)
  refine lv_iload_n S.1 S.2.1 dX9_leg_7 rfl (lv_at hl 2 rfl) ?_
  refine lv_i2l (v := (7 : Int64)) S.1 S.2.1 dX9_leg_8 (by decide) ?_
  refine lv_lconst (v := (0 : Int64)) S.1 S.2.1 dX9_leg_9 (by decide) ?_
  refine lv_ldc2 (v := (7 : Int64)) S.1 S.2.1 S.2.2.2.1 (S.2.2.2.2 _ (List.mem_of_getElem? (i := 1) rfl)) dX9_leg_10 ?_
  refine s_callS (As := [.long (7 : Int64), .long (0 : Int64), .long (7 : Int64)]) (rest := []) S hX G (k_X9_in l E (7 : Int64) (0 : Int64) (7 : Int64)) (va_cwS (bytes := cX9_in) (maxL := 6) (ret := (some .boolean)) 3 S.2.2.2.2 gX9_leg_X9_in rfl rfl rfl (by decide +kernel) ⟨Nat.le_of_ble_eq_true rfl, Nat.le_of_ble_eq_true rfl⟩) rfl hl.1 rfl (Nat.le_of_ble_eq_true rfl) ⟨Nat.zero_le _, Nat.zero_le _⟩ dX9_leg_13 (fun v I1 L1 H locs hR G => ?_)
  obtain ⟨hv, hI, hL⟩ := hR
  subst hv
  have G : GS E I L sg H locs := G.same hI hL
  refine W.eq (g2 := F0 mg 16 ls [.int (if ¬ (7 : Int64) < (0 : Int64) ∧ ¬ (7 : Int64) < (7 : Int64) then 1 else 0)]) rfl ?_
  refine s_if_ne_b (P := ¬ (7 : Int64) < (0 : Int64) ∧ ¬ (7 : Int64) < (7 : Int64)) (tgt := 22) S dX9_leg_16 (by decide) (fun _ => ?_) (fun h => absurd (by decide) h)
  refine lv_iload_n S.1 S.2.1 dX9_leg_22 rfl (lv_at hl 1 rfl) ?_
  refine s_callS (As := [.int (2 : Int32)]) (rest := []) S hX G (k_X9_legAt_2 l E) (va_cwS (bytes := cX9_legAt) (maxL := 1) (ret := (some .int)) 1 S.2.2.2.2 gX9_leg_X9_legAt rfl rfl rfl (by decide +kernel) ⟨Nat.le_of_ble_eq_true rfl, Nat.le_of_ble_eq_true rfl⟩) rfl hl.1 rfl (Nat.le_of_ble_eq_true rfl) ⟨Nat.zero_le _, Nat.zero_le _⟩ dX9_leg_23 (fun v I1 L1 H locs hR G => ?_)
  obtain ⟨hv, hI, hL⟩ := hR
  subst hv
  have G : GS E I L sg H locs := G.same hI hL
  refine W.eq (g2 := F0 mg 26 ls [.int (24 : Int32)]) rfl ?_
  refine lv_istore_n (lv' := [(3, .int (24 : Int32)), (0, .ref (E.2.2.2 161)), (1, .int (2 : Int32)), (2, .int (7 : Int32))]) S.1 S.2.1 dX9_leg_26 rfl hl (by decide) rfl (fun ls hl => ?_)
  refine lv_iload_n S.1 S.2.1 dX9_leg_27 rfl (lv_at hl 3 rfl) ?_
  refine lv_tableOut (tgt := 118) S.1 S.2.1 dX9_leg_28 (by decide) (by decide) ?_
  refine lv_aload_n S.1 S.2.1 dX9_leg_118 rfl (lv_at hl 1 rfl) ?_
  refine s_get S hX G (i := 161) (kd := 9) (a := (I 161)) (v := .ref (E.2.2.2 162)) (C := RX9) (T := TX9) (N := 13) 0 (rfl : sh 161 = 9) rfl rfl rfl (by decide) rfl (fun _ h => (List.mem_cons_of_mem _ (List.mem_append_right _ h))) (by decide) (List.mem_of_getElem? (i := 3) rfl) (fun _ h => h) dX9_leg_119 ?_
  refine lv_iload_n S.1 S.2.1 dX9_leg_122 rfl (lv_at hl 0 rfl) ?_
  refine lv_iconst (v := (4 : Int32)) S.1 S.2.1 dX9_leg_123 (by decide) ?_
  refine s_iadd (v := (28 : Int32)) S dX9_leg_124 (by decide) ?_
  refine lv_iload_n S.1 S.2.1 dX9_leg_125 rfl (lv_at hl 3 rfl) ?_
  refine s_iadd (v := (35 : Int32)) S dX9_leg_126 (by decide) ?_
  refine lv_iconst (v := (5 : Int32)) S.1 S.2.1 dX9_leg_127 (by decide) ?_
  refine s_isub (v := (30 : Int32)) S dX9_leg_128 (by decide) ?_
  refine s_iald S hX G (i := 162) (kd := 284) (n := 270) (a := d) (x := (d 30)) (rfl : sh 162 = 284) e_d rfl (by decide) (by unfold vp_in; decide) (congrArg d (by decide)) dX9_leg_129 ?_
  refine s_iret (x := (d 30)) S G hr hlk dX9_leg_130 ?_
  exact ⟨rfl, rfl, rfl⟩
set_option maxHeartbeats 4000000 in
set_option maxRecDepth 100000 in
theorem k_X9_leg_3_0 (l : Launch) (E : Ev) {I : SI} {L : SL} (d : Nat → Int32) (e_d : I (162) = d) : CS l yX9_leg wsX9_leg ({ frames := 2, cells := 0, slots := 0, locals := 45 }) E [.ref (E.2.2.2 161), .int (3 : Int32), .int (0 : Int32)] I L (fun vv I' L' => vv = some (.int (d 32)) ∧ I' = I ∧ L' = L) := by
  refine CS.of (cc := cX9_leg) (maxL := 4) (ret := (some .int)) (by decide) rfl (Nat.le_of_ble_eq_true rfl) ?_
  intro pg en sg mg below meth cg ls S hr hlk hX G hl
  have S : CallFix pg mg cg cX9_leg 4 sg _ wsX9_leg RX9 := S
  have hl : lv_has ls 4 [(0, .ref (E.2.2.2 161)), (1, .int (3 : Int32)), (2, .int (0 : Int32))] := hl
  refine lv_iload_n S.1 S.2.1 dX9_leg_0 rfl (lv_at hl 1 rfl) ?_
  refine s_callS (As := [.int (3 : Int32)]) (rest := []) S hX G (k_X9_isLeg l E (3 : Int32)) (va_cwS (bytes := cX9_isLeg) (maxL := 1) (ret := (some .boolean)) 1 S.2.2.2.2 gX9_leg_X9_isLeg rfl rfl rfl (by decide +kernel) ⟨Nat.le_of_ble_eq_true rfl, Nat.le_of_ble_eq_true rfl⟩) rfl hl.1 rfl (Nat.le_of_ble_eq_true rfl) ⟨Nat.zero_le _, Nat.zero_le _⟩ dX9_leg_1 (fun v I1 L1 H locs hR G => ?_)
  obtain ⟨hv, hI, hL⟩ := hR
  subst hv
  have G : GS E I L sg H locs := G.same hI hL
  refine W.eq (g2 := F0 mg 4 ls [.int (if ¬ (3 : Int32) < (0 : Int32) ∧ ¬ (3 : Int32) < (3 : Int32) then 1 else 0)]) rfl ?_
  refine s_if_eq_b (P := ¬ (3 : Int32) < (0 : Int32) ∧ ¬ (3 : Int32) < (3 : Int32)) (tgt := 19) S dX9_leg_4 (by decide) (fun h => absurd (by decide) h) (fun _ => ?_)
  refine lv_iload_n S.1 S.2.1 dX9_leg_7 rfl (lv_at hl 2 rfl) ?_
  refine lv_i2l (v := (0 : Int64)) S.1 S.2.1 dX9_leg_8 (by decide) ?_
  refine lv_lconst (v := (0 : Int64)) S.1 S.2.1 dX9_leg_9 (by decide) ?_
  refine lv_ldc2 (v := (7 : Int64)) S.1 S.2.1 S.2.2.2.1 (S.2.2.2.2 _ (List.mem_of_getElem? (i := 1) rfl)) dX9_leg_10 ?_
  refine s_callS (As := [.long (0 : Int64), .long (0 : Int64), .long (7 : Int64)]) (rest := []) S hX G (k_X9_in l E (0 : Int64) (0 : Int64) (7 : Int64)) (va_cwS (bytes := cX9_in) (maxL := 6) (ret := (some .boolean)) 3 S.2.2.2.2 gX9_leg_X9_in rfl rfl rfl (by decide +kernel) ⟨Nat.le_of_ble_eq_true rfl, Nat.le_of_ble_eq_true rfl⟩) rfl hl.1 rfl (Nat.le_of_ble_eq_true rfl) ⟨Nat.zero_le _, Nat.zero_le _⟩ dX9_leg_13 (fun v I1 L1 H locs hR G => ?_)
  obtain ⟨hv, hI, hL⟩ := hR
  subst hv
  have G : GS E I L sg H locs := G.same hI hL
  refine W.eq (g2 := F0 mg 16 ls [.int (if ¬ (0 : Int64) < (0 : Int64) ∧ ¬ (7 : Int64) < (0 : Int64) then 1 else 0)]) rfl ?_
  refine s_if_ne_b (P := ¬ (0 : Int64) < (0 : Int64) ∧ ¬ (7 : Int64) < (0 : Int64)) (tgt := 22) S dX9_leg_16 (by decide) (fun _ => ?_) (fun h => absurd (by decide) h)
  refine lv_iload_n S.1 S.2.1 dX9_leg_22 rfl (lv_at hl 1 rfl) ?_
  refine s_callS (As := [.int (3 : Int32)]) (rest := []) S hX G (k_X9_legAt_3 l E) (va_cwS (bytes := cX9_legAt) (maxL := 1) (ret := (some .int)) 1 S.2.2.2.2 gX9_leg_X9_legAt rfl rfl rfl (by decide +kernel) ⟨Nat.le_of_ble_eq_true rfl, Nat.le_of_ble_eq_true rfl⟩) rfl hl.1 rfl (Nat.le_of_ble_eq_true rfl) ⟨Nat.zero_le _, Nat.zero_le _⟩ dX9_leg_23 (fun v I1 L1 H locs hR G => ?_)
  obtain ⟨hv, hI, hL⟩ := hR
  subst hv
  have G : GS E I L sg H locs := G.same hI hL
  refine W.eq (g2 := F0 mg 26 ls [.int (32 : Int32)]) rfl ?_
  refine lv_istore_n (lv' := [(3, .int (32 : Int32)), (0, .ref (E.2.2.2 161)), (1, .int (3 : Int32)), (2, .int (0 : Int32))]) S.1 S.2.1 dX9_leg_26 rfl hl (by decide) rfl (fun ls hl => ?_)
  refine lv_iload_n S.1 S.2.1 dX9_leg_27 rfl (lv_at hl 3 rfl) ?_
  refine lv_tableIn (off := 36) (tgt := 64) S.1 S.2.1 dX9_leg_28 (by decide) (by decide) (by decide) (by decide) ?_
  refine lv_aload_n S.1 S.2.1 dX9_leg_64 rfl (lv_at hl 1 rfl) ?_
  refine s_get S hX G (i := 161) (kd := 9) (a := (I 161)) (v := .ref (E.2.2.2 162)) (C := RX9) (T := TX9) (N := 13) 0 (rfl : sh 161 = 9) rfl rfl rfl (by decide) rfl (fun _ h => (List.mem_cons_of_mem _ (List.mem_append_right _ h))) (by decide) (List.mem_of_getElem? (i := 3) rfl) (fun _ h => h) dX9_leg_65 ?_
  refine lv_iload_n S.1 S.2.1 dX9_leg_68 rfl (lv_at hl 0 rfl) ?_
  refine lv_iload_n S.1 S.2.1 dX9_leg_69 rfl (lv_at hl 3 rfl) ?_
  refine s_iadd (v := (32 : Int32)) S dX9_leg_70 (by decide) ?_
  refine s_iald S hX G (i := 162) (kd := 284) (n := 270) (a := d) (x := (d 32)) (rfl : sh 162 = 284) e_d rfl (by decide) (by unfold vp_in; decide) (congrArg d (by decide)) dX9_leg_71 ?_
  refine s_iret (x := (d 32)) S G hr hlk dX9_leg_72 ?_
  exact ⟨rfl, rfl, rfl⟩
set_option maxHeartbeats 4000000 in
set_option maxRecDepth 100000 in
theorem k_X9_leg_3_1 (l : Launch) (E : Ev) {I : SI} {L : SL} (d : Nat → Int32) (e_d : I (162) = d) : CS l yX9_leg wsX9_leg ({ frames := 2, cells := 0, slots := 0, locals := 45 }) E [.ref (E.2.2.2 161), .int (3 : Int32), .int (1 : Int32)] I L (fun vv I' L' => vv = some (.int (d 33)) ∧ I' = I ∧ L' = L) := by
  refine CS.of (cc := cX9_leg) (maxL := 4) (ret := (some .int)) (by decide) rfl (Nat.le_of_ble_eq_true rfl) ?_
  intro pg en sg mg below meth cg ls S hr hlk hX G hl
  have S : CallFix pg mg cg cX9_leg 4 sg _ wsX9_leg RX9 := S
  have hl : lv_has ls 4 [(0, .ref (E.2.2.2 161)), (1, .int (3 : Int32)), (2, .int (1 : Int32))] := hl
  refine lv_iload_n S.1 S.2.1 dX9_leg_0 rfl (lv_at hl 1 rfl) ?_
  refine s_callS (As := [.int (3 : Int32)]) (rest := []) S hX G (k_X9_isLeg l E (3 : Int32)) (va_cwS (bytes := cX9_isLeg) (maxL := 1) (ret := (some .boolean)) 1 S.2.2.2.2 gX9_leg_X9_isLeg rfl rfl rfl (by decide +kernel) ⟨Nat.le_of_ble_eq_true rfl, Nat.le_of_ble_eq_true rfl⟩) rfl hl.1 rfl (Nat.le_of_ble_eq_true rfl) ⟨Nat.zero_le _, Nat.zero_le _⟩ dX9_leg_1 (fun v I1 L1 H locs hR G => ?_)
  obtain ⟨hv, hI, hL⟩ := hR
  subst hv
  have G : GS E I L sg H locs := G.same hI hL
  refine W.eq (g2 := F0 mg 4 ls [.int (if ¬ (3 : Int32) < (0 : Int32) ∧ ¬ (3 : Int32) < (3 : Int32) then 1 else 0)]) rfl ?_
  refine s_if_eq_b (P := ¬ (3 : Int32) < (0 : Int32) ∧ ¬ (3 : Int32) < (3 : Int32)) (tgt := 19) S dX9_leg_4 (by decide) (fun h => absurd (by decide) h) (fun _ => ?_)
  refine lv_iload_n S.1 S.2.1 dX9_leg_7 rfl (lv_at hl 2 rfl) ?_
  refine lv_i2l (v := (1 : Int64)) S.1 S.2.1 dX9_leg_8 (by decide) ?_
  refine lv_lconst (v := (0 : Int64)) S.1 S.2.1 dX9_leg_9 (by decide) ?_
  refine lv_ldc2 (v := (7 : Int64)) S.1 S.2.1 S.2.2.2.1 (S.2.2.2.2 _ (List.mem_of_getElem? (i := 1) rfl)) dX9_leg_10 ?_
  refine s_callS (As := [.long (1 : Int64), .long (0 : Int64), .long (7 : Int64)]) (rest := []) S hX G (k_X9_in l E (1 : Int64) (0 : Int64) (7 : Int64)) (va_cwS (bytes := cX9_in) (maxL := 6) (ret := (some .boolean)) 3 S.2.2.2.2 gX9_leg_X9_in rfl rfl rfl (by decide +kernel) ⟨Nat.le_of_ble_eq_true rfl, Nat.le_of_ble_eq_true rfl⟩) rfl hl.1 rfl (Nat.le_of_ble_eq_true rfl) ⟨Nat.zero_le _, Nat.zero_le _⟩ dX9_leg_13 (fun v I1 L1 H locs hR G => ?_)
  obtain ⟨hv, hI, hL⟩ := hR
  subst hv
  have G : GS E I L sg H locs := G.same hI hL
  refine W.eq (g2 := F0 mg 16 ls [.int (if ¬ (1 : Int64) < (0 : Int64) ∧ ¬ (7 : Int64) < (1 : Int64) then 1 else 0)]) rfl ?_
  refine s_if_ne_b (P := ¬ (1 : Int64) < (0 : Int64) ∧ ¬ (7 : Int64) < (1 : Int64)) (tgt := 22) S dX9_leg_16 (by decide) (fun _ => ?_) (fun h => absurd (by decide) h)
  refine lv_iload_n S.1 S.2.1 dX9_leg_22 rfl (lv_at hl 1 rfl) ?_
  refine s_callS (As := [.int (3 : Int32)]) (rest := []) S hX G (k_X9_legAt_3 l E) (va_cwS (bytes := cX9_legAt) (maxL := 1) (ret := (some .int)) 1 S.2.2.2.2 gX9_leg_X9_legAt rfl rfl rfl (by decide +kernel) ⟨Nat.le_of_ble_eq_true rfl, Nat.le_of_ble_eq_true rfl⟩) rfl hl.1 rfl (Nat.le_of_ble_eq_true rfl) ⟨Nat.zero_le _, Nat.zero_le _⟩ dX9_leg_23 (fun v I1 L1 H locs hR G => ?_)
  obtain ⟨hv, hI, hL⟩ := hR
  subst hv
  have G : GS E I L sg H locs := G.same hI hL
  refine W.eq (g2 := F0 mg 26 ls [.int (32 : Int32)]) rfl ?_
  refine lv_istore_n (lv' := [(3, .int (32 : Int32)), (0, .ref (E.2.2.2 161)), (1, .int (3 : Int32)), (2, .int (1 : Int32))]) S.1 S.2.1 dX9_leg_26 rfl hl (by decide) rfl (fun ls hl => ?_)
  refine lv_iload_n S.1 S.2.1 dX9_leg_27 rfl (lv_at hl 3 rfl) ?_
  refine lv_tableIn (off := 36) (tgt := 64) S.1 S.2.1 dX9_leg_28 (by decide) (by decide) (by decide) (by decide) ?_
  refine lv_aload_n S.1 S.2.1 dX9_leg_64 rfl (lv_at hl 1 rfl) ?_
  refine s_get S hX G (i := 161) (kd := 9) (a := (I 161)) (v := .ref (E.2.2.2 162)) (C := RX9) (T := TX9) (N := 13) 0 (rfl : sh 161 = 9) rfl rfl rfl (by decide) rfl (fun _ h => (List.mem_cons_of_mem _ (List.mem_append_right _ h))) (by decide) (List.mem_of_getElem? (i := 3) rfl) (fun _ h => h) dX9_leg_65 ?_
  refine lv_iload_n S.1 S.2.1 dX9_leg_68 rfl (lv_at hl 0 rfl) ?_
  refine lv_iload_n S.1 S.2.1 dX9_leg_69 rfl (lv_at hl 3 rfl) ?_
  refine s_iadd (v := (33 : Int32)) S dX9_leg_70 (by decide) ?_
  refine s_iald S hX G (i := 162) (kd := 284) (n := 270) (a := d) (x := (d 33)) (rfl : sh 162 = 284) e_d rfl (by decide) (by unfold vp_in; decide) (congrArg d (by decide)) dX9_leg_71 ?_
  refine s_iret (x := (d 33)) S G hr hlk dX9_leg_72 ?_
  exact ⟨rfl, rfl, rfl⟩
set_option maxHeartbeats 4000000 in
set_option maxRecDepth 100000 in
theorem k_X9_leg_3_2 (l : Launch) (E : Ev) {I : SI} {L : SL} (d : Nat → Int32) (e_d : I (162) = d) : CS l yX9_leg wsX9_leg ({ frames := 4, cells := 0, slots := 0, locals := 88 }) E [.ref (E.2.2.2 161), .int (3 : Int32), .int (2 : Int32)] I L (fun vv I' L' => vv = some (.int (wshF d 3 32 70)) ∧ I' = I ∧ L' = L) := by
  refine CS.of (cc := cX9_leg) (maxL := 4) (ret := (some .int)) (by decide) rfl (Nat.le_of_ble_eq_true rfl) ?_
  intro pg en sg mg below meth cg ls S hr hlk hX G hl
  have S : CallFix pg mg cg cX9_leg 4 sg _ wsX9_leg RX9 := S
  have hl : lv_has ls 4 [(0, .ref (E.2.2.2 161)), (1, .int (3 : Int32)), (2, .int (2 : Int32))] := hl
  refine lv_iload_n S.1 S.2.1 dX9_leg_0 rfl (lv_at hl 1 rfl) ?_
  refine s_callS (As := [.int (3 : Int32)]) (rest := []) S hX G (k_X9_isLeg l E (3 : Int32)) (va_cwS (bytes := cX9_isLeg) (maxL := 1) (ret := (some .boolean)) 1 S.2.2.2.2 gX9_leg_X9_isLeg rfl rfl rfl (by decide +kernel) ⟨Nat.le_of_ble_eq_true rfl, Nat.le_of_ble_eq_true rfl⟩) rfl hl.1 rfl (Nat.le_of_ble_eq_true rfl) ⟨Nat.zero_le _, Nat.zero_le _⟩ dX9_leg_1 (fun v I1 L1 H locs hR G => ?_)
  obtain ⟨hv, hI, hL⟩ := hR
  subst hv
  have G : GS E I L sg H locs := G.same hI hL
  refine W.eq (g2 := F0 mg 4 ls [.int (if ¬ (3 : Int32) < (0 : Int32) ∧ ¬ (3 : Int32) < (3 : Int32) then 1 else 0)]) rfl ?_
  refine s_if_eq_b (P := ¬ (3 : Int32) < (0 : Int32) ∧ ¬ (3 : Int32) < (3 : Int32)) (tgt := 19) S dX9_leg_4 (by decide) (fun h => absurd (by decide) h) (fun _ => ?_)
  refine lv_iload_n S.1 S.2.1 dX9_leg_7 rfl (lv_at hl 2 rfl) ?_
  refine lv_i2l (v := (2 : Int64)) S.1 S.2.1 dX9_leg_8 (by decide) ?_
  refine lv_lconst (v := (0 : Int64)) S.1 S.2.1 dX9_leg_9 (by decide) ?_
  refine lv_ldc2 (v := (7 : Int64)) S.1 S.2.1 S.2.2.2.1 (S.2.2.2.2 _ (List.mem_of_getElem? (i := 1) rfl)) dX9_leg_10 ?_
  refine s_callS (As := [.long (2 : Int64), .long (0 : Int64), .long (7 : Int64)]) (rest := []) S hX G (k_X9_in l E (2 : Int64) (0 : Int64) (7 : Int64)) (va_cwS (bytes := cX9_in) (maxL := 6) (ret := (some .boolean)) 3 S.2.2.2.2 gX9_leg_X9_in rfl rfl rfl (by decide +kernel) ⟨Nat.le_of_ble_eq_true rfl, Nat.le_of_ble_eq_true rfl⟩) rfl hl.1 rfl (Nat.le_of_ble_eq_true rfl) ⟨Nat.zero_le _, Nat.zero_le _⟩ dX9_leg_13 (fun v I1 L1 H locs hR G => ?_)
  obtain ⟨hv, hI, hL⟩ := hR
  subst hv
  have G : GS E I L sg H locs := G.same hI hL
  refine W.eq (g2 := F0 mg 16 ls [.int (if ¬ (2 : Int64) < (0 : Int64) ∧ ¬ (7 : Int64) < (2 : Int64) then 1 else 0)]) rfl ?_
  refine s_if_ne_b (P := ¬ (2 : Int64) < (0 : Int64) ∧ ¬ (7 : Int64) < (2 : Int64)) (tgt := 22) S dX9_leg_16 (by decide) (fun _ => ?_) (fun h => absurd (by decide) h)
  refine lv_iload_n S.1 S.2.1 dX9_leg_22 rfl (lv_at hl 1 rfl) ?_
  refine s_callS (As := [.int (3 : Int32)]) (rest := []) S hX G (k_X9_legAt_3 l E) (va_cwS (bytes := cX9_legAt) (maxL := 1) (ret := (some .int)) 1 S.2.2.2.2 gX9_leg_X9_legAt rfl rfl rfl (by decide +kernel) ⟨Nat.le_of_ble_eq_true rfl, Nat.le_of_ble_eq_true rfl⟩) rfl hl.1 rfl (Nat.le_of_ble_eq_true rfl) ⟨Nat.zero_le _, Nat.zero_le _⟩ dX9_leg_23 (fun v I1 L1 H locs hR G => ?_)
  obtain ⟨hv, hI, hL⟩ := hR
  subst hv
  have G : GS E I L sg H locs := G.same hI hL
  refine W.eq (g2 := F0 mg 26 ls [.int (32 : Int32)]) rfl ?_
  refine lv_istore_n (lv' := [(3, .int (32 : Int32)), (0, .ref (E.2.2.2 161)), (1, .int (3 : Int32)), (2, .int (2 : Int32))]) S.1 S.2.1 dX9_leg_26 rfl hl (by decide) rfl (fun ls hl => ?_)
  refine lv_iload_n S.1 S.2.1 dX9_leg_27 rfl (lv_at hl 3 rfl) ?_
  refine lv_tableIn (off := 45) (tgt := 73) S.1 S.2.1 dX9_leg_28 (by decide) (by decide) (by decide) (by decide) ?_
  refine lv_aload_n S.1 S.2.1 dX9_leg_73 rfl (lv_at hl 1 rfl) ?_
  refine lv_iload_n S.1 S.2.1 dX9_leg_74 rfl (lv_at hl 2 rfl) ?_
  refine s_callV (C := RX9) (As := [.int (3 : Int32)]) (rest := []) (i := 161) (kd := 9) S hX G (k_X9_wish_3 l E d e_d) (cwV (bytes := cX9_wish) (maxL := 4) (ret := (some .int)) 1 S.2.2.2.2 gX9_leg_X9_wish rfl rfl rfl (by decide +kernel) ⟨Nat.le_of_ble_eq_true rfl, Nat.le_of_ble_eq_true rfl⟩) (rfl : sh 161 = 9) rfl rfl rfl (by decide) rfl hl.1 rfl (Nat.le_of_ble_eq_true rfl) ⟨Nat.zero_le _, Nat.zero_le _⟩ dX9_leg_75 (fun v I1 L1 H locs hR G => ?_)
  obtain ⟨hv, hI, hL⟩ := hR
  subst hv
  have G : GS E I L sg H locs := G.same hI hL
  refine W.eq (g2 := F0 mg 78 ls [.int (wshF d 3 32 70)]) rfl ?_
  refine lv_topi (fun y_1 ey_1 => ?_)
  refine s_iret (x := y_1) S G hr hlk dX9_leg_78 ?_
  exact ⟨(congrArg (fun q : Int32 => some (Value.int q)) (show y_1 = (wshF d 3 32 70) by subst ey_1; (first | (simp []; done) | (clear S hX G hl; grind [])))), rfl, rfl⟩
set_option maxHeartbeats 4000000 in
set_option maxRecDepth 100000 in
theorem k_X9_leg_3_3 (l : Launch) (E : Ev) {I : SI} {L : SL} (d : Nat → Int32) (e_d : I (162) = d) : CS l yX9_leg wsX9_leg ({ frames := 2, cells := 0, slots := 0, locals := 45 }) E [.ref (E.2.2.2 161), .int (3 : Int32), .int (3 : Int32)] I L (fun vv I' L' => vv = some (.int (if d 34 = -1 then d 0 else d 34)) ∧ I' = I ∧ L' = L) := by
  refine CS.of (cc := cX9_leg) (maxL := 4) (ret := (some .int)) (by decide) rfl (Nat.le_of_ble_eq_true rfl) ?_
  intro pg en sg mg below meth cg ls S hr hlk hX G hl
  have S : CallFix pg mg cg cX9_leg 4 sg _ wsX9_leg RX9 := S
  have hl : lv_has ls 4 [(0, .ref (E.2.2.2 161)), (1, .int (3 : Int32)), (2, .int (3 : Int32))] := hl
  refine lv_iload_n S.1 S.2.1 dX9_leg_0 rfl (lv_at hl 1 rfl) ?_
  refine s_callS (As := [.int (3 : Int32)]) (rest := []) S hX G (k_X9_isLeg l E (3 : Int32)) (va_cwS (bytes := cX9_isLeg) (maxL := 1) (ret := (some .boolean)) 1 S.2.2.2.2 gX9_leg_X9_isLeg rfl rfl rfl (by decide +kernel) ⟨Nat.le_of_ble_eq_true rfl, Nat.le_of_ble_eq_true rfl⟩) rfl hl.1 rfl (Nat.le_of_ble_eq_true rfl) ⟨Nat.zero_le _, Nat.zero_le _⟩ dX9_leg_1 (fun v I1 L1 H locs hR G => ?_)
  obtain ⟨hv, hI, hL⟩ := hR
  subst hv
  have G : GS E I L sg H locs := G.same hI hL
  refine W.eq (g2 := F0 mg 4 ls [.int (if ¬ (3 : Int32) < (0 : Int32) ∧ ¬ (3 : Int32) < (3 : Int32) then 1 else 0)]) rfl ?_
  refine s_if_eq_b (P := ¬ (3 : Int32) < (0 : Int32) ∧ ¬ (3 : Int32) < (3 : Int32)) (tgt := 19) S dX9_leg_4 (by decide) (fun h => absurd (by decide) h) (fun _ => ?_)
  refine lv_iload_n S.1 S.2.1 dX9_leg_7 rfl (lv_at hl 2 rfl) ?_
  refine lv_i2l (v := (3 : Int64)) S.1 S.2.1 dX9_leg_8 (by decide) ?_
  refine lv_lconst (v := (0 : Int64)) S.1 S.2.1 dX9_leg_9 (by decide) ?_
  refine lv_ldc2 (v := (7 : Int64)) S.1 S.2.1 S.2.2.2.1 (S.2.2.2.2 _ (List.mem_of_getElem? (i := 1) rfl)) dX9_leg_10 ?_
  refine s_callS (As := [.long (3 : Int64), .long (0 : Int64), .long (7 : Int64)]) (rest := []) S hX G (k_X9_in l E (3 : Int64) (0 : Int64) (7 : Int64)) (va_cwS (bytes := cX9_in) (maxL := 6) (ret := (some .boolean)) 3 S.2.2.2.2 gX9_leg_X9_in rfl rfl rfl (by decide +kernel) ⟨Nat.le_of_ble_eq_true rfl, Nat.le_of_ble_eq_true rfl⟩) rfl hl.1 rfl (Nat.le_of_ble_eq_true rfl) ⟨Nat.zero_le _, Nat.zero_le _⟩ dX9_leg_13 (fun v I1 L1 H locs hR G => ?_)
  obtain ⟨hv, hI, hL⟩ := hR
  subst hv
  have G : GS E I L sg H locs := G.same hI hL
  refine W.eq (g2 := F0 mg 16 ls [.int (if ¬ (3 : Int64) < (0 : Int64) ∧ ¬ (7 : Int64) < (3 : Int64) then 1 else 0)]) rfl ?_
  refine s_if_ne_b (P := ¬ (3 : Int64) < (0 : Int64) ∧ ¬ (7 : Int64) < (3 : Int64)) (tgt := 22) S dX9_leg_16 (by decide) (fun _ => ?_) (fun h => absurd (by decide) h)
  refine lv_iload_n S.1 S.2.1 dX9_leg_22 rfl (lv_at hl 1 rfl) ?_
  refine s_callS (As := [.int (3 : Int32)]) (rest := []) S hX G (k_X9_legAt_3 l E) (va_cwS (bytes := cX9_legAt) (maxL := 1) (ret := (some .int)) 1 S.2.2.2.2 gX9_leg_X9_legAt rfl rfl rfl (by decide +kernel) ⟨Nat.le_of_ble_eq_true rfl, Nat.le_of_ble_eq_true rfl⟩) rfl hl.1 rfl (Nat.le_of_ble_eq_true rfl) ⟨Nat.zero_le _, Nat.zero_le _⟩ dX9_leg_23 (fun v I1 L1 H locs hR G => ?_)
  obtain ⟨hv, hI, hL⟩ := hR
  subst hv
  have G : GS E I L sg H locs := G.same hI hL
  refine W.eq (g2 := F0 mg 26 ls [.int (32 : Int32)]) rfl ?_
  refine lv_istore_n (lv' := [(3, .int (32 : Int32)), (0, .ref (E.2.2.2 161)), (1, .int (3 : Int32)), (2, .int (3 : Int32))]) S.1 S.2.1 dX9_leg_26 rfl hl (by decide) rfl (fun ls hl => ?_)
  refine lv_iload_n S.1 S.2.1 dX9_leg_27 rfl (lv_at hl 3 rfl) ?_
  refine lv_tableIn (off := 51) (tgt := 79) S.1 S.2.1 dX9_leg_28 (by decide) (by decide) (by decide) (by decide) ?_
  refine lv_aload_n S.1 S.2.1 dX9_leg_79 rfl (lv_at hl 1 rfl) ?_
  refine s_get S hX G (i := 161) (kd := 9) (a := (I 161)) (v := .ref (E.2.2.2 162)) (C := RX9) (T := TX9) (N := 13) 0 (rfl : sh 161 = 9) rfl rfl rfl (by decide) rfl (fun _ h => (List.mem_cons_of_mem _ (List.mem_append_right _ h))) (by decide) (List.mem_of_getElem? (i := 3) rfl) (fun _ h => h) dX9_leg_80 ?_
  refine lv_iload_n S.1 S.2.1 dX9_leg_83 rfl (lv_at hl 0 rfl) ?_
  refine lv_iconst (v := (2 : Int32)) S.1 S.2.1 dX9_leg_84 (by decide) ?_
  refine s_iadd (v := (34 : Int32)) S dX9_leg_85 (by decide) ?_
  refine s_iald S hX G (i := 162) (kd := 284) (n := 270) (a := d) (x := (d 34)) (rfl : sh 162 = 284) e_d rfl (by decide) (by unfold vp_in; decide) (congrArg d (by decide)) dX9_leg_86 ?_
  refine lv_iconst (v := (-1 : Int32)) S.1 S.2.1 dX9_leg_87 (by decide) ?_
  refine lv_icmp_ne (tgt := 100) S.1 S.2.1 dX9_leg_88 (by decide) (fun c_1 => ?_) (fun c_1 => ?_)
  · refine lv_aload_n S.1 S.2.1 dX9_leg_100 rfl (lv_at hl 1 rfl) ?_
    refine s_get S hX G (i := 161) (kd := 9) (a := (I 161)) (v := .ref (E.2.2.2 162)) (C := RX9) (T := TX9) (N := 13) 0 (rfl : sh 161 = 9) rfl rfl rfl (by decide) rfl (fun _ h => (List.mem_cons_of_mem _ (List.mem_append_right _ h))) (by decide) (List.mem_of_getElem? (i := 3) rfl) (fun _ h => h) dX9_leg_101 ?_
    refine lv_iload_n S.1 S.2.1 dX9_leg_104 rfl (lv_at hl 0 rfl) ?_
    refine lv_iconst (v := (2 : Int32)) S.1 S.2.1 dX9_leg_105 (by decide) ?_
    refine s_iadd (v := (34 : Int32)) S dX9_leg_106 (by decide) ?_
    refine s_iald S hX G (i := 162) (kd := 284) (n := 270) (a := d) (x := (d 34)) (rfl : sh 162 = 284) e_d rfl (by decide) (by unfold vp_in; decide) (congrArg d (by decide)) dX9_leg_107 ?_
    refine s_iret (x := (d 34)) S G hr hlk dX9_leg_108 ?_
    exact ⟨(congrArg (fun q : Int32 => some (Value.int q)) (show (d 34) = (if d 34 = -1 then d 0 else d 34) by first | (simp [c_1]; done) | (clear S hX G hl; grind []))), rfl, rfl⟩
  · refine lv_aload_n S.1 S.2.1 dX9_leg_91 rfl (lv_at hl 1 rfl) ?_
    refine s_get S hX G (i := 161) (kd := 9) (a := (I 161)) (v := .ref (E.2.2.2 162)) (C := RX9) (T := TX9) (N := 13) 0 (rfl : sh 161 = 9) rfl rfl rfl (by decide) rfl (fun _ h => (List.mem_cons_of_mem _ (List.mem_append_right _ h))) (by decide) (List.mem_of_getElem? (i := 3) rfl) (fun _ h => h) dX9_leg_92 ?_
    refine lv_iconst (v := (0 : Int32)) S.1 S.2.1 dX9_leg_95 (by decide) ?_
    refine s_iald S hX G (i := 162) (kd := 284) (n := 270) (a := d) (x := (d 0)) (rfl : sh 162 = 284) e_d rfl (by decide) (by unfold vp_in; decide) (congrArg d (by decide)) dX9_leg_96 ?_
    refine lv_goto (tgt := 108) S.1 S.2.1 dX9_leg_97 (by decide) ?_
    refine s_iret (x := (d 0)) S G hr hlk dX9_leg_108 ?_
    exact ⟨(congrArg (fun q : Int32 => some (Value.int q)) (show (d 0) = (if d 34 = -1 then d 0 else d 34) by first | (simp [c_1]; done) | (clear S hX G hl; grind []))), rfl, rfl⟩
set_option maxHeartbeats 4000000 in
set_option maxRecDepth 100000 in
theorem k_X9_leg_3_4 (l : Launch) (E : Ev) {I : SI} {L : SL} (d : Nat → Int32) (e_d : I (162) = d) : CS l yX9_leg wsX9_leg ({ frames := 2, cells := 0, slots := 0, locals := 45 }) E [.ref (E.2.2.2 161), .int (3 : Int32), .int (4 : Int32)] I L (fun vv I' L' => vv = some (.int (d 35)) ∧ I' = I ∧ L' = L) := by
  refine CS.of (cc := cX9_leg) (maxL := 4) (ret := (some .int)) (by decide) rfl (Nat.le_of_ble_eq_true rfl) ?_
  intro pg en sg mg below meth cg ls S hr hlk hX G hl
  have S : CallFix pg mg cg cX9_leg 4 sg _ wsX9_leg RX9 := S
  have hl : lv_has ls 4 [(0, .ref (E.2.2.2 161)), (1, .int (3 : Int32)), (2, .int (4 : Int32))] := hl
  refine lv_iload_n S.1 S.2.1 dX9_leg_0 rfl (lv_at hl 1 rfl) ?_
  refine s_callS (As := [.int (3 : Int32)]) (rest := []) S hX G (k_X9_isLeg l E (3 : Int32)) (va_cwS (bytes := cX9_isLeg) (maxL := 1) (ret := (some .boolean)) 1 S.2.2.2.2 gX9_leg_X9_isLeg rfl rfl rfl (by decide +kernel) ⟨Nat.le_of_ble_eq_true rfl, Nat.le_of_ble_eq_true rfl⟩) rfl hl.1 rfl (Nat.le_of_ble_eq_true rfl) ⟨Nat.zero_le _, Nat.zero_le _⟩ dX9_leg_1 (fun v I1 L1 H locs hR G => ?_)
  obtain ⟨hv, hI, hL⟩ := hR
  subst hv
  have G : GS E I L sg H locs := G.same hI hL
  refine W.eq (g2 := F0 mg 4 ls [.int (if ¬ (3 : Int32) < (0 : Int32) ∧ ¬ (3 : Int32) < (3 : Int32) then 1 else 0)]) rfl ?_
  refine s_if_eq_b (P := ¬ (3 : Int32) < (0 : Int32) ∧ ¬ (3 : Int32) < (3 : Int32)) (tgt := 19) S dX9_leg_4 (by decide) (fun h => absurd (by decide) h) (fun _ => ?_)
  refine lv_iload_n S.1 S.2.1 dX9_leg_7 rfl (lv_at hl 2 rfl) ?_
  refine lv_i2l (v := (4 : Int64)) S.1 S.2.1 dX9_leg_8 (by decide) ?_
  refine lv_lconst (v := (0 : Int64)) S.1 S.2.1 dX9_leg_9 (by decide) ?_
  refine lv_ldc2 (v := (7 : Int64)) S.1 S.2.1 S.2.2.2.1 (S.2.2.2.2 _ (List.mem_of_getElem? (i := 1) rfl)) dX9_leg_10 ?_
  refine s_callS (As := [.long (4 : Int64), .long (0 : Int64), .long (7 : Int64)]) (rest := []) S hX G (k_X9_in l E (4 : Int64) (0 : Int64) (7 : Int64)) (va_cwS (bytes := cX9_in) (maxL := 6) (ret := (some .boolean)) 3 S.2.2.2.2 gX9_leg_X9_in rfl rfl rfl (by decide +kernel) ⟨Nat.le_of_ble_eq_true rfl, Nat.le_of_ble_eq_true rfl⟩) rfl hl.1 rfl (Nat.le_of_ble_eq_true rfl) ⟨Nat.zero_le _, Nat.zero_le _⟩ dX9_leg_13 (fun v I1 L1 H locs hR G => ?_)
  obtain ⟨hv, hI, hL⟩ := hR
  subst hv
  have G : GS E I L sg H locs := G.same hI hL
  refine W.eq (g2 := F0 mg 16 ls [.int (if ¬ (4 : Int64) < (0 : Int64) ∧ ¬ (7 : Int64) < (4 : Int64) then 1 else 0)]) rfl ?_
  refine s_if_ne_b (P := ¬ (4 : Int64) < (0 : Int64) ∧ ¬ (7 : Int64) < (4 : Int64)) (tgt := 22) S dX9_leg_16 (by decide) (fun _ => ?_) (fun h => absurd (by decide) h)
  refine lv_iload_n S.1 S.2.1 dX9_leg_22 rfl (lv_at hl 1 rfl) ?_
  refine s_callS (As := [.int (3 : Int32)]) (rest := []) S hX G (k_X9_legAt_3 l E) (va_cwS (bytes := cX9_legAt) (maxL := 1) (ret := (some .int)) 1 S.2.2.2.2 gX9_leg_X9_legAt rfl rfl rfl (by decide +kernel) ⟨Nat.le_of_ble_eq_true rfl, Nat.le_of_ble_eq_true rfl⟩) rfl hl.1 rfl (Nat.le_of_ble_eq_true rfl) ⟨Nat.zero_le _, Nat.zero_le _⟩ dX9_leg_23 (fun v I1 L1 H locs hR G => ?_)
  obtain ⟨hv, hI, hL⟩ := hR
  subst hv
  have G : GS E I L sg H locs := G.same hI hL
  refine W.eq (g2 := F0 mg 26 ls [.int (32 : Int32)]) rfl ?_
  refine lv_istore_n (lv' := [(3, .int (32 : Int32)), (0, .ref (E.2.2.2 161)), (1, .int (3 : Int32)), (2, .int (4 : Int32))]) S.1 S.2.1 dX9_leg_26 rfl hl (by decide) rfl (fun ls hl => ?_)
  refine lv_iload_n S.1 S.2.1 dX9_leg_27 rfl (lv_at hl 3 rfl) ?_
  refine lv_tableIn (off := 81) (tgt := 109) S.1 S.2.1 dX9_leg_28 (by decide) (by decide) (by decide) (by decide) ?_
  refine lv_aload_n S.1 S.2.1 dX9_leg_109 rfl (lv_at hl 1 rfl) ?_
  refine s_get S hX G (i := 161) (kd := 9) (a := (I 161)) (v := .ref (E.2.2.2 162)) (C := RX9) (T := TX9) (N := 13) 0 (rfl : sh 161 = 9) rfl rfl rfl (by decide) rfl (fun _ h => (List.mem_cons_of_mem _ (List.mem_append_right _ h))) (by decide) (List.mem_of_getElem? (i := 3) rfl) (fun _ h => h) dX9_leg_110 ?_
  refine lv_iload_n S.1 S.2.1 dX9_leg_113 rfl (lv_at hl 0 rfl) ?_
  refine lv_iconst (v := (3 : Int32)) S.1 S.2.1 dX9_leg_114 (by decide) ?_
  refine s_iadd (v := (35 : Int32)) S dX9_leg_115 (by decide) ?_
  refine s_iald S hX G (i := 162) (kd := 284) (n := 270) (a := d) (x := (d 35)) (rfl : sh 162 = 284) e_d rfl (by decide) (by unfold vp_in; decide) (congrArg d (by decide)) dX9_leg_116 ?_
  refine s_iret (x := (d 35)) S G hr hlk dX9_leg_117 ?_
  exact ⟨rfl, rfl, rfl⟩
set_option maxHeartbeats 4000000 in
set_option maxRecDepth 100000 in
theorem k_X9_leg_3_5 (l : Launch) (E : Ev) {I : SI} {L : SL} (d : Nat → Int32) (e_d : I (162) = d) : CS l yX9_leg wsX9_leg ({ frames := 2, cells := 0, slots := 0, locals := 45 }) E [.ref (E.2.2.2 161), .int (3 : Int32), .int (5 : Int32)] I L (fun vv I' L' => vv = some (.int (d 36)) ∧ I' = I ∧ L' = L) := by
  refine CS.of (cc := cX9_leg) (maxL := 4) (ret := (some .int)) (by decide) rfl (Nat.le_of_ble_eq_true rfl) ?_
  intro pg en sg mg below meth cg ls S hr hlk hX G hl
  have S : CallFix pg mg cg cX9_leg 4 sg _ wsX9_leg RX9 := S
  have hl : lv_has ls 4 [(0, .ref (E.2.2.2 161)), (1, .int (3 : Int32)), (2, .int (5 : Int32))] := hl
  refine lv_iload_n S.1 S.2.1 dX9_leg_0 rfl (lv_at hl 1 rfl) ?_
  refine s_callS (As := [.int (3 : Int32)]) (rest := []) S hX G (k_X9_isLeg l E (3 : Int32)) (va_cwS (bytes := cX9_isLeg) (maxL := 1) (ret := (some .boolean)) 1 S.2.2.2.2 gX9_leg_X9_isLeg rfl rfl rfl (by decide +kernel) ⟨Nat.le_of_ble_eq_true rfl, Nat.le_of_ble_eq_true rfl⟩) rfl hl.1 rfl (Nat.le_of_ble_eq_true rfl) ⟨Nat.zero_le _, Nat.zero_le _⟩ dX9_leg_1 (fun v I1 L1 H locs hR G => ?_)
  obtain ⟨hv, hI, hL⟩ := hR
  subst hv
  have G : GS E I L sg H locs := G.same hI hL
  refine W.eq (g2 := F0 mg 4 ls [.int (if ¬ (3 : Int32) < (0 : Int32) ∧ ¬ (3 : Int32) < (3 : Int32) then 1 else 0)]) rfl ?_
  refine s_if_eq_b (P := ¬ (3 : Int32) < (0 : Int32) ∧ ¬ (3 : Int32) < (3 : Int32)) (tgt := 19) S dX9_leg_4 (by decide) (fun h => absurd (by decide) h) (fun _ => ?_)
  refine lv_iload_n S.1 S.2.1 dX9_leg_7 rfl (lv_at hl 2 rfl) ?_
  refine lv_i2l (v := (5 : Int64)) S.1 S.2.1 dX9_leg_8 (by decide) ?_
  refine lv_lconst (v := (0 : Int64)) S.1 S.2.1 dX9_leg_9 (by decide) ?_
  refine lv_ldc2 (v := (7 : Int64)) S.1 S.2.1 S.2.2.2.1 (S.2.2.2.2 _ (List.mem_of_getElem? (i := 1) rfl)) dX9_leg_10 ?_
  refine s_callS (As := [.long (5 : Int64), .long (0 : Int64), .long (7 : Int64)]) (rest := []) S hX G (k_X9_in l E (5 : Int64) (0 : Int64) (7 : Int64)) (va_cwS (bytes := cX9_in) (maxL := 6) (ret := (some .boolean)) 3 S.2.2.2.2 gX9_leg_X9_in rfl rfl rfl (by decide +kernel) ⟨Nat.le_of_ble_eq_true rfl, Nat.le_of_ble_eq_true rfl⟩) rfl hl.1 rfl (Nat.le_of_ble_eq_true rfl) ⟨Nat.zero_le _, Nat.zero_le _⟩ dX9_leg_13 (fun v I1 L1 H locs hR G => ?_)
  obtain ⟨hv, hI, hL⟩ := hR
  subst hv
  have G : GS E I L sg H locs := G.same hI hL
  refine W.eq (g2 := F0 mg 16 ls [.int (if ¬ (5 : Int64) < (0 : Int64) ∧ ¬ (7 : Int64) < (5 : Int64) then 1 else 0)]) rfl ?_
  refine s_if_ne_b (P := ¬ (5 : Int64) < (0 : Int64) ∧ ¬ (7 : Int64) < (5 : Int64)) (tgt := 22) S dX9_leg_16 (by decide) (fun _ => ?_) (fun h => absurd (by decide) h)
  refine lv_iload_n S.1 S.2.1 dX9_leg_22 rfl (lv_at hl 1 rfl) ?_
  refine s_callS (As := [.int (3 : Int32)]) (rest := []) S hX G (k_X9_legAt_3 l E) (va_cwS (bytes := cX9_legAt) (maxL := 1) (ret := (some .int)) 1 S.2.2.2.2 gX9_leg_X9_legAt rfl rfl rfl (by decide +kernel) ⟨Nat.le_of_ble_eq_true rfl, Nat.le_of_ble_eq_true rfl⟩) rfl hl.1 rfl (Nat.le_of_ble_eq_true rfl) ⟨Nat.zero_le _, Nat.zero_le _⟩ dX9_leg_23 (fun v I1 L1 H locs hR G => ?_)
  obtain ⟨hv, hI, hL⟩ := hR
  subst hv
  have G : GS E I L sg H locs := G.same hI hL
  refine W.eq (g2 := F0 mg 26 ls [.int (32 : Int32)]) rfl ?_
  refine lv_istore_n (lv' := [(3, .int (32 : Int32)), (0, .ref (E.2.2.2 161)), (1, .int (3 : Int32)), (2, .int (5 : Int32))]) S.1 S.2.1 dX9_leg_26 rfl hl (by decide) rfl (fun ls hl => ?_)
  refine lv_iload_n S.1 S.2.1 dX9_leg_27 rfl (lv_at hl 3 rfl) ?_
  refine lv_tableOut (tgt := 118) S.1 S.2.1 dX9_leg_28 (by decide) (by decide) ?_
  refine lv_aload_n S.1 S.2.1 dX9_leg_118 rfl (lv_at hl 1 rfl) ?_
  refine s_get S hX G (i := 161) (kd := 9) (a := (I 161)) (v := .ref (E.2.2.2 162)) (C := RX9) (T := TX9) (N := 13) 0 (rfl : sh 161 = 9) rfl rfl rfl (by decide) rfl (fun _ h => (List.mem_cons_of_mem _ (List.mem_append_right _ h))) (by decide) (List.mem_of_getElem? (i := 3) rfl) (fun _ h => h) dX9_leg_119 ?_
  refine lv_iload_n S.1 S.2.1 dX9_leg_122 rfl (lv_at hl 0 rfl) ?_
  refine lv_iconst (v := (4 : Int32)) S.1 S.2.1 dX9_leg_123 (by decide) ?_
  refine s_iadd (v := (36 : Int32)) S dX9_leg_124 (by decide) ?_
  refine lv_iload_n S.1 S.2.1 dX9_leg_125 rfl (lv_at hl 3 rfl) ?_
  refine s_iadd (v := (41 : Int32)) S dX9_leg_126 (by decide) ?_
  refine lv_iconst (v := (5 : Int32)) S.1 S.2.1 dX9_leg_127 (by decide) ?_
  refine s_isub (v := (36 : Int32)) S dX9_leg_128 (by decide) ?_
  refine s_iald S hX G (i := 162) (kd := 284) (n := 270) (a := d) (x := (d 36)) (rfl : sh 162 = 284) e_d rfl (by decide) (by unfold vp_in; decide) (congrArg d (by decide)) dX9_leg_129 ?_
  refine s_iret (x := (d 36)) S G hr hlk dX9_leg_130 ?_
  exact ⟨rfl, rfl, rfl⟩
set_option maxHeartbeats 4000000 in
set_option maxRecDepth 100000 in
theorem k_X9_leg_3_6 (l : Launch) (E : Ev) {I : SI} {L : SL} (d : Nat → Int32) (e_d : I (162) = d) : CS l yX9_leg wsX9_leg ({ frames := 2, cells := 0, slots := 0, locals := 45 }) E [.ref (E.2.2.2 161), .int (3 : Int32), .int (6 : Int32)] I L (fun vv I' L' => vv = some (.int (d 37)) ∧ I' = I ∧ L' = L) := by
  refine CS.of (cc := cX9_leg) (maxL := 4) (ret := (some .int)) (by decide) rfl (Nat.le_of_ble_eq_true rfl) ?_
  intro pg en sg mg below meth cg ls S hr hlk hX G hl
  have S : CallFix pg mg cg cX9_leg 4 sg _ wsX9_leg RX9 := S
  have hl : lv_has ls 4 [(0, .ref (E.2.2.2 161)), (1, .int (3 : Int32)), (2, .int (6 : Int32))] := hl
  refine lv_iload_n S.1 S.2.1 dX9_leg_0 rfl (lv_at hl 1 rfl) ?_
  refine s_callS (As := [.int (3 : Int32)]) (rest := []) S hX G (k_X9_isLeg l E (3 : Int32)) (va_cwS (bytes := cX9_isLeg) (maxL := 1) (ret := (some .boolean)) 1 S.2.2.2.2 gX9_leg_X9_isLeg rfl rfl rfl (by decide +kernel) ⟨Nat.le_of_ble_eq_true rfl, Nat.le_of_ble_eq_true rfl⟩) rfl hl.1 rfl (Nat.le_of_ble_eq_true rfl) ⟨Nat.zero_le _, Nat.zero_le _⟩ dX9_leg_1 (fun v I1 L1 H locs hR G => ?_)
  obtain ⟨hv, hI, hL⟩ := hR
  subst hv
  have G : GS E I L sg H locs := G.same hI hL
  refine W.eq (g2 := F0 mg 4 ls [.int (if ¬ (3 : Int32) < (0 : Int32) ∧ ¬ (3 : Int32) < (3 : Int32) then 1 else 0)]) rfl ?_
  refine s_if_eq_b (P := ¬ (3 : Int32) < (0 : Int32) ∧ ¬ (3 : Int32) < (3 : Int32)) (tgt := 19) S dX9_leg_4 (by decide) (fun h => absurd (by decide) h) (fun _ => ?_)
  refine lv_iload_n S.1 S.2.1 dX9_leg_7 rfl (lv_at hl 2 rfl) ?_
  refine lv_i2l (v := (6 : Int64)) S.1 S.2.1 dX9_leg_8 (by decide) ?_
  refine lv_lconst (v := (0 : Int64)) S.1 S.2.1 dX9_leg_9 (by decide) ?_
  refine lv_ldc2 (v := (7 : Int64)) S.1 S.2.1 S.2.2.2.1 (S.2.2.2.2 _ (List.mem_of_getElem? (i := 1) rfl)) dX9_leg_10 ?_
  refine s_callS (As := [.long (6 : Int64), .long (0 : Int64), .long (7 : Int64)]) (rest := []) S hX G (k_X9_in l E (6 : Int64) (0 : Int64) (7 : Int64)) (va_cwS (bytes := cX9_in) (maxL := 6) (ret := (some .boolean)) 3 S.2.2.2.2 gX9_leg_X9_in rfl rfl rfl (by decide +kernel) ⟨Nat.le_of_ble_eq_true rfl, Nat.le_of_ble_eq_true rfl⟩) rfl hl.1 rfl (Nat.le_of_ble_eq_true rfl) ⟨Nat.zero_le _, Nat.zero_le _⟩ dX9_leg_13 (fun v I1 L1 H locs hR G => ?_)
  obtain ⟨hv, hI, hL⟩ := hR
  subst hv
  have G : GS E I L sg H locs := G.same hI hL
  refine W.eq (g2 := F0 mg 16 ls [.int (if ¬ (6 : Int64) < (0 : Int64) ∧ ¬ (7 : Int64) < (6 : Int64) then 1 else 0)]) rfl ?_
  refine s_if_ne_b (P := ¬ (6 : Int64) < (0 : Int64) ∧ ¬ (7 : Int64) < (6 : Int64)) (tgt := 22) S dX9_leg_16 (by decide) (fun _ => ?_) (fun h => absurd (by decide) h)
  refine lv_iload_n S.1 S.2.1 dX9_leg_22 rfl (lv_at hl 1 rfl) ?_
  refine s_callS (As := [.int (3 : Int32)]) (rest := []) S hX G (k_X9_legAt_3 l E) (va_cwS (bytes := cX9_legAt) (maxL := 1) (ret := (some .int)) 1 S.2.2.2.2 gX9_leg_X9_legAt rfl rfl rfl (by decide +kernel) ⟨Nat.le_of_ble_eq_true rfl, Nat.le_of_ble_eq_true rfl⟩) rfl hl.1 rfl (Nat.le_of_ble_eq_true rfl) ⟨Nat.zero_le _, Nat.zero_le _⟩ dX9_leg_23 (fun v I1 L1 H locs hR G => ?_)
  obtain ⟨hv, hI, hL⟩ := hR
  subst hv
  have G : GS E I L sg H locs := G.same hI hL
  refine W.eq (g2 := F0 mg 26 ls [.int (32 : Int32)]) rfl ?_
  refine lv_istore_n (lv' := [(3, .int (32 : Int32)), (0, .ref (E.2.2.2 161)), (1, .int (3 : Int32)), (2, .int (6 : Int32))]) S.1 S.2.1 dX9_leg_26 rfl hl (by decide) rfl (fun ls hl => ?_)
  refine lv_iload_n S.1 S.2.1 dX9_leg_27 rfl (lv_at hl 3 rfl) ?_
  refine lv_tableOut (tgt := 118) S.1 S.2.1 dX9_leg_28 (by decide) (by decide) ?_
  refine lv_aload_n S.1 S.2.1 dX9_leg_118 rfl (lv_at hl 1 rfl) ?_
  refine s_get S hX G (i := 161) (kd := 9) (a := (I 161)) (v := .ref (E.2.2.2 162)) (C := RX9) (T := TX9) (N := 13) 0 (rfl : sh 161 = 9) rfl rfl rfl (by decide) rfl (fun _ h => (List.mem_cons_of_mem _ (List.mem_append_right _ h))) (by decide) (List.mem_of_getElem? (i := 3) rfl) (fun _ h => h) dX9_leg_119 ?_
  refine lv_iload_n S.1 S.2.1 dX9_leg_122 rfl (lv_at hl 0 rfl) ?_
  refine lv_iconst (v := (4 : Int32)) S.1 S.2.1 dX9_leg_123 (by decide) ?_
  refine s_iadd (v := (36 : Int32)) S dX9_leg_124 (by decide) ?_
  refine lv_iload_n S.1 S.2.1 dX9_leg_125 rfl (lv_at hl 3 rfl) ?_
  refine s_iadd (v := (42 : Int32)) S dX9_leg_126 (by decide) ?_
  refine lv_iconst (v := (5 : Int32)) S.1 S.2.1 dX9_leg_127 (by decide) ?_
  refine s_isub (v := (37 : Int32)) S dX9_leg_128 (by decide) ?_
  refine s_iald S hX G (i := 162) (kd := 284) (n := 270) (a := d) (x := (d 37)) (rfl : sh 162 = 284) e_d rfl (by decide) (by unfold vp_in; decide) (congrArg d (by decide)) dX9_leg_129 ?_
  refine s_iret (x := (d 37)) S G hr hlk dX9_leg_130 ?_
  exact ⟨rfl, rfl, rfl⟩
set_option maxHeartbeats 4000000 in
set_option maxRecDepth 100000 in
theorem k_X9_leg_3_7 (l : Launch) (E : Ev) {I : SI} {L : SL} (d : Nat → Int32) (e_d : I (162) = d) : CS l yX9_leg wsX9_leg ({ frames := 2, cells := 0, slots := 0, locals := 45 }) E [.ref (E.2.2.2 161), .int (3 : Int32), .int (7 : Int32)] I L (fun vv I' L' => vv = some (.int (d 38)) ∧ I' = I ∧ L' = L) := by
  refine CS.of (cc := cX9_leg) (maxL := 4) (ret := (some .int)) (by decide) rfl (Nat.le_of_ble_eq_true rfl) ?_
  intro pg en sg mg below meth cg ls S hr hlk hX G hl
  have S : CallFix pg mg cg cX9_leg 4 sg _ wsX9_leg RX9 := S
  have hl : lv_has ls 4 [(0, .ref (E.2.2.2 161)), (1, .int (3 : Int32)), (2, .int (7 : Int32))] := hl
  refine lv_iload_n S.1 S.2.1 dX9_leg_0 rfl (lv_at hl 1 rfl) ?_
  refine s_callS (As := [.int (3 : Int32)]) (rest := []) S hX G (k_X9_isLeg l E (3 : Int32)) (va_cwS (bytes := cX9_isLeg) (maxL := 1) (ret := (some .boolean)) 1 S.2.2.2.2 gX9_leg_X9_isLeg rfl rfl rfl (by decide +kernel) ⟨Nat.le_of_ble_eq_true rfl, Nat.le_of_ble_eq_true rfl⟩) rfl hl.1 rfl (Nat.le_of_ble_eq_true rfl) ⟨Nat.zero_le _, Nat.zero_le _⟩ dX9_leg_1 (fun v I1 L1 H locs hR G => ?_)
  obtain ⟨hv, hI, hL⟩ := hR
  subst hv
  have G : GS E I L sg H locs := G.same hI hL
  refine W.eq (g2 := F0 mg 4 ls [.int (if ¬ (3 : Int32) < (0 : Int32) ∧ ¬ (3 : Int32) < (3 : Int32) then 1 else 0)]) rfl ?_
  refine s_if_eq_b (P := ¬ (3 : Int32) < (0 : Int32) ∧ ¬ (3 : Int32) < (3 : Int32)) (tgt := 19) S dX9_leg_4 (by decide) (fun h => absurd (by decide) h) (fun _ => ?_)
  refine lv_iload_n S.1 S.2.1 dX9_leg_7 rfl (lv_at hl 2 rfl) ?_
  refine lv_i2l (v := (7 : Int64)) S.1 S.2.1 dX9_leg_8 (by decide) ?_
  refine lv_lconst (v := (0 : Int64)) S.1 S.2.1 dX9_leg_9 (by decide) ?_
  refine lv_ldc2 (v := (7 : Int64)) S.1 S.2.1 S.2.2.2.1 (S.2.2.2.2 _ (List.mem_of_getElem? (i := 1) rfl)) dX9_leg_10 ?_
  refine s_callS (As := [.long (7 : Int64), .long (0 : Int64), .long (7 : Int64)]) (rest := []) S hX G (k_X9_in l E (7 : Int64) (0 : Int64) (7 : Int64)) (va_cwS (bytes := cX9_in) (maxL := 6) (ret := (some .boolean)) 3 S.2.2.2.2 gX9_leg_X9_in rfl rfl rfl (by decide +kernel) ⟨Nat.le_of_ble_eq_true rfl, Nat.le_of_ble_eq_true rfl⟩) rfl hl.1 rfl (Nat.le_of_ble_eq_true rfl) ⟨Nat.zero_le _, Nat.zero_le _⟩ dX9_leg_13 (fun v I1 L1 H locs hR G => ?_)
  obtain ⟨hv, hI, hL⟩ := hR
  subst hv
  have G : GS E I L sg H locs := G.same hI hL
  refine W.eq (g2 := F0 mg 16 ls [.int (if ¬ (7 : Int64) < (0 : Int64) ∧ ¬ (7 : Int64) < (7 : Int64) then 1 else 0)]) rfl ?_
  refine s_if_ne_b (P := ¬ (7 : Int64) < (0 : Int64) ∧ ¬ (7 : Int64) < (7 : Int64)) (tgt := 22) S dX9_leg_16 (by decide) (fun _ => ?_) (fun h => absurd (by decide) h)
  refine lv_iload_n S.1 S.2.1 dX9_leg_22 rfl (lv_at hl 1 rfl) ?_
  refine s_callS (As := [.int (3 : Int32)]) (rest := []) S hX G (k_X9_legAt_3 l E) (va_cwS (bytes := cX9_legAt) (maxL := 1) (ret := (some .int)) 1 S.2.2.2.2 gX9_leg_X9_legAt rfl rfl rfl (by decide +kernel) ⟨Nat.le_of_ble_eq_true rfl, Nat.le_of_ble_eq_true rfl⟩) rfl hl.1 rfl (Nat.le_of_ble_eq_true rfl) ⟨Nat.zero_le _, Nat.zero_le _⟩ dX9_leg_23 (fun v I1 L1 H locs hR G => ?_)
  obtain ⟨hv, hI, hL⟩ := hR
  subst hv
  have G : GS E I L sg H locs := G.same hI hL
  refine W.eq (g2 := F0 mg 26 ls [.int (32 : Int32)]) rfl ?_
  refine lv_istore_n (lv' := [(3, .int (32 : Int32)), (0, .ref (E.2.2.2 161)), (1, .int (3 : Int32)), (2, .int (7 : Int32))]) S.1 S.2.1 dX9_leg_26 rfl hl (by decide) rfl (fun ls hl => ?_)
  refine lv_iload_n S.1 S.2.1 dX9_leg_27 rfl (lv_at hl 3 rfl) ?_
  refine lv_tableOut (tgt := 118) S.1 S.2.1 dX9_leg_28 (by decide) (by decide) ?_
  refine lv_aload_n S.1 S.2.1 dX9_leg_118 rfl (lv_at hl 1 rfl) ?_
  refine s_get S hX G (i := 161) (kd := 9) (a := (I 161)) (v := .ref (E.2.2.2 162)) (C := RX9) (T := TX9) (N := 13) 0 (rfl : sh 161 = 9) rfl rfl rfl (by decide) rfl (fun _ h => (List.mem_cons_of_mem _ (List.mem_append_right _ h))) (by decide) (List.mem_of_getElem? (i := 3) rfl) (fun _ h => h) dX9_leg_119 ?_
  refine lv_iload_n S.1 S.2.1 dX9_leg_122 rfl (lv_at hl 0 rfl) ?_
  refine lv_iconst (v := (4 : Int32)) S.1 S.2.1 dX9_leg_123 (by decide) ?_
  refine s_iadd (v := (36 : Int32)) S dX9_leg_124 (by decide) ?_
  refine lv_iload_n S.1 S.2.1 dX9_leg_125 rfl (lv_at hl 3 rfl) ?_
  refine s_iadd (v := (43 : Int32)) S dX9_leg_126 (by decide) ?_
  refine lv_iconst (v := (5 : Int32)) S.1 S.2.1 dX9_leg_127 (by decide) ?_
  refine s_isub (v := (38 : Int32)) S dX9_leg_128 (by decide) ?_
  refine s_iald S hX G (i := 162) (kd := 284) (n := 270) (a := d) (x := (d 38)) (rfl : sh 162 = 284) e_d rfl (by decide) (by unfold vp_in; decide) (congrArg d (by decide)) dX9_leg_129 ?_
  refine s_iret (x := (d 38)) S G hr hlk dX9_leg_130 ?_
  exact ⟨rfl, rfl, rfl⟩
set_option maxHeartbeats 4000000 in
set_option maxRecDepth 100000 in
theorem k_X9_leg_no (l : Launch) (E : Ev) {I : SI} {L : SL} (leg : Int32) (what : Int32) (ht : ¬ (IN3 leg ∧ INR what 0 7)) : CS l yX9_leg wsX9_leg ({ frames := 2, cells := 0, slots := 0, locals := 45 }) E [.ref (E.2.2.2 161), .int leg, .int what] I L (fun vv I' L' => vv = some (.int (-2000000001 : Int32)) ∧ I' = I ∧ L' = L) := by
  refine CS.of (cc := cX9_leg) (maxL := 4) (ret := (some .int)) (by decide) rfl (Nat.le_of_ble_eq_true rfl) ?_
  intro pg en sg mg below meth cg ls S hr hlk hX G hl
  have S : CallFix pg mg cg cX9_leg 4 sg _ wsX9_leg RX9 := S
  have hl : lv_has ls 4 [(0, .ref (E.2.2.2 161)), (1, .int leg), (2, .int what)] := hl
  refine lv_iload_n S.1 S.2.1 dX9_leg_0 rfl (lv_at hl 1 rfl) ?_
  refine s_callS (As := [.int leg]) (rest := []) S hX G (k_X9_isLeg l E leg) (va_cwS (bytes := cX9_isLeg) (maxL := 1) (ret := (some .boolean)) 1 S.2.2.2.2 gX9_leg_X9_isLeg rfl rfl rfl (by decide +kernel) ⟨Nat.le_of_ble_eq_true rfl, Nat.le_of_ble_eq_true rfl⟩) rfl hl.1 rfl (Nat.le_of_ble_eq_true rfl) ⟨Nat.zero_le _, Nat.zero_le _⟩ dX9_leg_1 (fun v I1 L1 H locs hR G => ?_)
  obtain ⟨hv, hI, hL⟩ := hR
  subst hv
  have G : GS E I L sg H locs := G.same hI hL
  refine W.eq (g2 := F0 mg 4 ls [.int (if ¬ leg < (0 : Int32) ∧ ¬ (3 : Int32) < leg then 1 else 0)]) rfl ?_
  refine s_if_eq_b (P := ¬ leg < (0 : Int32) ∧ ¬ (3 : Int32) < leg) (tgt := 19) S dX9_leg_4 (by decide) (fun c_1 => ?_) (fun c_1 => ?_)
  · refine lv_ldc (v := (-2000000001 : Int32)) S.1 S.2.1 S.2.2.2.1 (S.2.2.2.2 _ (List.mem_of_getElem? (i := 2) rfl)) dX9_leg_19 ?_
    refine s_iret (x := (-2000000001 : Int32)) S G hr hlk dX9_leg_21 ?_
    exact ⟨rfl, rfl, rfl⟩
  · refine lv_iload_n S.1 S.2.1 dX9_leg_7 rfl (lv_at hl 2 rfl) ?_
    refine lv_i2l (v := (Int32.toInt64 what)) S.1 S.2.1 dX9_leg_8 rfl ?_
    refine lv_lconst (v := (0 : Int64)) S.1 S.2.1 dX9_leg_9 (by decide) ?_
    refine lv_ldc2 (v := (7 : Int64)) S.1 S.2.1 S.2.2.2.1 (S.2.2.2.2 _ (List.mem_of_getElem? (i := 1) rfl)) dX9_leg_10 ?_
    refine s_callS (As := [.long (Int32.toInt64 what), .long (0 : Int64), .long (7 : Int64)]) (rest := []) S hX G (k_X9_in l E (Int32.toInt64 what) (0 : Int64) (7 : Int64)) (va_cwS (bytes := cX9_in) (maxL := 6) (ret := (some .boolean)) 3 S.2.2.2.2 gX9_leg_X9_in rfl rfl rfl (by decide +kernel) ⟨Nat.le_of_ble_eq_true rfl, Nat.le_of_ble_eq_true rfl⟩) rfl hl.1 rfl (Nat.le_of_ble_eq_true rfl) ⟨Nat.zero_le _, Nat.zero_le _⟩ dX9_leg_13 (fun v I1 L1 H locs hR G => ?_)
    obtain ⟨hv, hI, hL⟩ := hR
    subst hv
    have G : GS E I L sg H locs := G.same hI hL
    refine W.eq (g2 := F0 mg 16 ls [.int (if ¬ (Int32.toInt64 what) < (0 : Int64) ∧ ¬ (7 : Int64) < (Int32.toInt64 what) then 1 else 0)]) rfl ?_
    refine s_if_ne_b (P := ¬ (Int32.toInt64 what) < (0 : Int64) ∧ ¬ (7 : Int64) < (Int32.toInt64 what)) (tgt := 22) S dX9_leg_16 (by decide) (fun c_2 => ?_) (fun c_2 => ?_)
    · exact absurd (And.intro c_1 (out64 (a := 0) (b := 7) c_2 (by decide) (by decide))) ht
    · refine lv_ldc (v := (-2000000001 : Int32)) S.1 S.2.1 S.2.2.2.1 (S.2.2.2.2 _ (List.mem_of_getElem? (i := 2) rfl)) dX9_leg_19 ?_
      refine s_iret (x := (-2000000001 : Int32)) S G hr hlk dX9_leg_21 ?_
      exact ⟨rfl, rfl, rfl⟩
