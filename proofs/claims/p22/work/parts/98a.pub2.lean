theorem out_g {x : Int32} {a b : Nat} (hb : b < 2 ^ 31) (hab : a ≤ b) (h : ¬ (¬ x < nI a ∧ ¬ nI b < x)) : x.toInt < (a : Int) ∨ (b : Int) < x.toInt := by
  rcases Classical.em (x < nI a) with q | q
  · have := Int32.lt_iff_toInt_lt.mp q
    rw [nI_toInt (by omega)] at this
    exact Or.inl this
  · have q2 := Classical.not_not.mp (fun q3 => h ⟨q, q3⟩)
    have := Int32.lt_iff_toInt_lt.mp q2
    rw [nI_toInt hb] at this
    exact Or.inr this
theorem out_h {x : Int32} {a b : Nat} (hb : b < 2 ^ 31) (hab : a ≤ b) (h : x.toInt < (a : Int) ∨ (b : Int) < x.toInt) : ¬ (¬ x < nI a ∧ ¬ nI b < x) := by
  intro q
  obtain ⟨n, h1, h2, rfl⟩ := ofR hb hab q
  rw [nI_toInt (by omega)] at h
  omega
set_option maxHeartbeats 4000000 in
set_option maxRecDepth 100000 in
theorem k_X8_count_0 (l : Launch) (E : Ev) {I : SI} {L : SL} (br : Nat → Int32) (e_br : I (1) = br) : CS l yX8_count wsX8_count ({ frames := 1, cells := 0, slots := 0, locals := 22 }) E [.ref (E.2.2.2 0), .int (0 : Int32)] I L (fun vv I' L' => vv = some (.long (Int32.toInt64 (br 4))) ∧ I' = I ∧ L' = L) := by
  refine CS.of (cc := cX8_count) (maxL := 2) (ret := (some .long)) (by decide) rfl (Nat.le_of_ble_eq_true rfl) ?_
  intro pg en sg mg below meth cg ls S hr hlk hX G hl
  have S : CallFix pg mg cg cX8_count 2 sg _ wsX8_count RX8 := S
  have hl : lv_has ls 2 [(0, .ref (E.2.2.2 0)), (1, .int (0 : Int32))] := hl
  refine lv_iload_n S.1 S.2.1 dX8_count_0 rfl (lv_at hl 1 rfl) ?_
  refine lv_bipush (v := (10 : Int32)) S.1 S.2.1 dX8_count_1 (by decide) ?_
  refine lv_bipush (v := (15 : Int32)) S.1 S.2.1 dX8_count_3 (by decide) ?_
  refine s_callS (As := [.int (0 : Int32), .int (10 : Int32), .int (15 : Int32)]) (rest := []) S hX G (k_X8_isWithin l E (0 : Int32) (10 : Int32) (15 : Int32)) (va_cwS (bytes := cX8_isWithin) (maxL := 3) (ret := (some .boolean)) 3 S.2.2.2.2 gX8_count_X8_isWithin rfl rfl rfl (by decide +kernel) ⟨Nat.le_of_ble_eq_true rfl, Nat.le_of_ble_eq_true rfl⟩) rfl hl.1 rfl (Nat.le_of_ble_eq_true rfl) ⟨Nat.zero_le _, Nat.zero_le _⟩ dX8_count_5 (fun v I1 L1 H locs hR G => ?_)
  obtain ⟨hv, hI, hL⟩ := hR
  subst hv
  have G : GS E I L sg H locs := G.same hI hL
  refine W.eq (g2 := F0 mg 8 ls [.int (if ¬ (0 : Int32) < (10 : Int32) ∧ ¬ (15 : Int32) < (0 : Int32) then 1 else 0)]) rfl ?_
  refine s_if_eq_b (P := ¬ (0 : Int32) < (10 : Int32) ∧ ¬ (15 : Int32) < (0 : Int32)) (tgt := 27) S dX8_count_8 (by decide) (fun _ => ?_) (fun h => absurd h (by decide))
  refine lv_iload_n S.1 S.2.1 dX8_count_27 rfl (lv_at hl 1 rfl) ?_
  refine lv_tableIn (off := 100) (tgt := 128) S.1 S.2.1 dX8_count_28 (by decide) (by decide) (by decide) (by decide) ?_
  refine lv_aload_n S.1 S.2.1 dX8_count_128 rfl (lv_at hl 0 rfl) ?_
  refine s_get S hX G (i := 0) (kd := 8) (a := (I 0)) (v := .ref (E.2.2.2 1)) (C := RX8) (T := TX8) (N := 4) 0 (rfl : sh 0 = 8) rfl rfl rfl (by decide) rfl (fun _ h => (List.mem_cons_of_mem _ (List.mem_append_left _ (List.mem_append_left _ (List.mem_append_left _ (List.mem_append_left _ (List.mem_append_left _ (List.mem_append_left _ (List.mem_append_left _ (List.mem_append_right _ h)))))))))) (by decide) (List.mem_of_getElem? (i := 1) rfl) (fun _ h => h) dX8_count_129 ?_
  refine s_getN S hX G (i := 1) (kd := 0) (a := br) (v := .int (br 4)) (C := RX0) (T := TX0) (N := 5) 4 (rfl : sh 1 = 0) e_br rfl rfl (by decide) rfl (fun _ h => (List.mem_cons_of_mem _ (List.mem_append_left _ (List.mem_append_left _ (List.mem_append_left _ (List.mem_append_left _ (List.mem_append_left _ (List.mem_append_left _ (List.mem_append_right _ h))))))))) (by decide) (List.mem_of_getElem? (i := 35) rfl) (fun _ h => h) dX8_count_132 ?_
  refine lv_i2l (v := (Int32.toInt64 (br 4))) S.1 S.2.1 dX8_count_135 rfl ?_
  refine s_lret (x := (Int32.toInt64 (br 4))) S G hr hlk dX8_count_136 ?_
  exact ⟨rfl, rfl, rfl⟩
set_option maxHeartbeats 4000000 in
set_option maxRecDepth 100000 in
theorem k_X8_count_1 (l : Launch) (E : Ev) {I : SI} {L : SL} (n : Nat → Int32) (m : Nat → Int32) (e_n : I (7) = n) (e_m : I (16) = m) : CS l yX8_count wsX8_count ({ frames := 1, cells := 0, slots := 0, locals := 22 }) E [.ref (E.2.2.2 0), .int (1 : Int32)] I L (fun vv I' L' => vv = some (.long (Int32.toInt64 (n 3 + m 3))) ∧ I' = I ∧ L' = L) := by
  refine CS.of (cc := cX8_count) (maxL := 2) (ret := (some .long)) (by decide) rfl (Nat.le_of_ble_eq_true rfl) ?_
  intro pg en sg mg below meth cg ls S hr hlk hX G hl
  have S : CallFix pg mg cg cX8_count 2 sg _ wsX8_count RX8 := S
  have hl : lv_has ls 2 [(0, .ref (E.2.2.2 0)), (1, .int (1 : Int32))] := hl
  refine lv_iload_n S.1 S.2.1 dX8_count_0 rfl (lv_at hl 1 rfl) ?_
  refine lv_bipush (v := (10 : Int32)) S.1 S.2.1 dX8_count_1 (by decide) ?_
  refine lv_bipush (v := (15 : Int32)) S.1 S.2.1 dX8_count_3 (by decide) ?_
  refine s_callS (As := [.int (1 : Int32), .int (10 : Int32), .int (15 : Int32)]) (rest := []) S hX G (k_X8_isWithin l E (1 : Int32) (10 : Int32) (15 : Int32)) (va_cwS (bytes := cX8_isWithin) (maxL := 3) (ret := (some .boolean)) 3 S.2.2.2.2 gX8_count_X8_isWithin rfl rfl rfl (by decide +kernel) ⟨Nat.le_of_ble_eq_true rfl, Nat.le_of_ble_eq_true rfl⟩) rfl hl.1 rfl (Nat.le_of_ble_eq_true rfl) ⟨Nat.zero_le _, Nat.zero_le _⟩ dX8_count_5 (fun v I1 L1 H locs hR G => ?_)
  obtain ⟨hv, hI, hL⟩ := hR
  subst hv
  have G : GS E I L sg H locs := G.same hI hL
  refine W.eq (g2 := F0 mg 8 ls [.int (if ¬ (1 : Int32) < (10 : Int32) ∧ ¬ (15 : Int32) < (1 : Int32) then 1 else 0)]) rfl ?_
  refine s_if_eq_b (P := ¬ (1 : Int32) < (10 : Int32) ∧ ¬ (15 : Int32) < (1 : Int32)) (tgt := 27) S dX8_count_8 (by decide) (fun _ => ?_) (fun h => absurd h (by decide))
  refine lv_iload_n S.1 S.2.1 dX8_count_27 rfl (lv_at hl 1 rfl) ?_
  refine lv_tableIn (off := 109) (tgt := 137) S.1 S.2.1 dX8_count_28 (by decide) (by decide) (by decide) (by decide) ?_
  refine lv_aload_n S.1 S.2.1 dX8_count_137 rfl (lv_at hl 0 rfl) ?_
  refine s_get S hX G (i := 0) (kd := 8) (a := (I 0)) (v := .ref (E.2.2.2 1)) (C := RX8) (T := TX8) (N := 4) 0 (rfl : sh 0 = 8) rfl rfl rfl (by decide) rfl (fun _ h => (List.mem_cons_of_mem _ (List.mem_append_left _ (List.mem_append_left _ (List.mem_append_left _ (List.mem_append_left _ (List.mem_append_left _ (List.mem_append_left _ (List.mem_append_left _ (List.mem_append_right _ h)))))))))) (by decide) (List.mem_of_getElem? (i := 1) rfl) (fun _ h => h) dX8_count_138 ?_
  refine s_getN S hX G (i := 1) (kd := 0) (a := (I 1)) (v := .ref (E.2.2.2 2)) (C := RX0) (T := TX0) (N := 5) 0 (rfl : sh 1 = 0) rfl rfl rfl (by decide) rfl (fun _ h => (List.mem_cons_of_mem _ (List.mem_append_left _ (List.mem_append_left _ (List.mem_append_left _ (List.mem_append_left _ (List.mem_append_left _ (List.mem_append_left _ (List.mem_append_right _ h))))))))) (by decide) (List.mem_of_getElem? (i := 31) rfl) (fun _ h => h) dX8_count_141 ?_
  refine s_getN S hX G (i := 2) (kd := 5) (a := (I 2)) (v := .ref (E.2.2.2 7)) (C := RX5) (T := TX5) (N := 13) 3 (rfl : sh 2 = 5) rfl rfl rfl (by decide) rfl (fun _ h => (List.mem_cons_of_mem _ (List.mem_append_left _ (List.mem_append_left _ (List.mem_append_left _ (List.mem_append_left _ (List.mem_append_left _ (List.mem_append_right _ h)))))))) (by decide) (List.mem_of_getElem? (i := 19) rfl) (fun _ h => h) dX8_count_144 ?_
  refine s_getN S hX G (i := 7) (kd := 3) (a := n) (v := .int (n 3)) (C := RX3) (T := TX3) (N := 4) 3 (rfl : sh 7 = 3) e_n rfl rfl (by decide) rfl (fun _ h => (List.mem_cons_of_mem _ (List.mem_append_left _ (List.mem_append_left _ (List.mem_append_left _ (List.mem_append_left _ (List.mem_append_right _ h))))))) (by decide) (List.mem_of_getElem? (i := 13) rfl) (fun _ h => h) dX8_count_147 ?_
  refine lv_aload_n S.1 S.2.1 dX8_count_150 rfl (lv_at hl 0 rfl) ?_
  refine s_get S hX G (i := 0) (kd := 8) (a := (I 0)) (v := .ref (E.2.2.2 1)) (C := RX8) (T := TX8) (N := 4) 0 (rfl : sh 0 = 8) rfl rfl rfl (by decide) rfl (fun _ h => (List.mem_cons_of_mem _ (List.mem_append_left _ (List.mem_append_left _ (List.mem_append_left _ (List.mem_append_left _ (List.mem_append_left _ (List.mem_append_left _ (List.mem_append_left _ (List.mem_append_right _ h)))))))))) (by decide) (List.mem_of_getElem? (i := 1) rfl) (fun _ h => h) dX8_count_151 ?_
  refine s_getN S hX G (i := 1) (kd := 0) (a := (I 1)) (v := .ref (E.2.2.2 11)) (C := RX0) (T := TX0) (N := 5) 1 (rfl : sh 1 = 0) rfl rfl rfl (by decide) rfl (fun _ h => (List.mem_cons_of_mem _ (List.mem_append_left _ (List.mem_append_left _ (List.mem_append_left _ (List.mem_append_left _ (List.mem_append_left _ (List.mem_append_left _ (List.mem_append_right _ h))))))))) (by decide) (List.mem_of_getElem? (i := 32) rfl) (fun _ h => h) dX8_count_154 ?_
  refine s_getN S hX G (i := 11) (kd := 5) (a := (I 11)) (v := .ref (E.2.2.2 16)) (C := RX5) (T := TX5) (N := 13) 3 (rfl : sh 11 = 5) rfl rfl rfl (by decide) rfl (fun _ h => (List.mem_cons_of_mem _ (List.mem_append_left _ (List.mem_append_left _ (List.mem_append_left _ (List.mem_append_left _ (List.mem_append_left _ (List.mem_append_right _ h)))))))) (by decide) (List.mem_of_getElem? (i := 19) rfl) (fun _ h => h) dX8_count_157 ?_
  refine s_getN S hX G (i := 16) (kd := 3) (a := m) (v := .int (m 3)) (C := RX3) (T := TX3) (N := 4) 3 (rfl : sh 16 = 3) e_m rfl rfl (by decide) rfl (fun _ h => (List.mem_cons_of_mem _ (List.mem_append_left _ (List.mem_append_left _ (List.mem_append_left _ (List.mem_append_left _ (List.mem_append_right _ h))))))) (by decide) (List.mem_of_getElem? (i := 13) rfl) (fun _ h => h) dX8_count_160 ?_
  refine s_iadd (v := ((n 3) + (m 3))) S dX8_count_163 rfl ?_
  refine lv_i2l (v := (Int32.toInt64 ((n 3) + (m 3)))) S.1 S.2.1 dX8_count_164 rfl ?_
  refine s_lret (x := (Int32.toInt64 ((n 3) + (m 3)))) S G hr hlk dX8_count_165 ?_
  exact ⟨(congrArg (fun q : Int64 => some (Value.long q)) (show (Int32.toInt64 ((n 3) + (m 3))) = (Int32.toInt64 (n 3 + m 3)) by rfl)), rfl, rfl⟩
set_option maxHeartbeats 4000000 in
set_option maxRecDepth 100000 in
theorem k_X8_count_2 (l : Launch) (E : Ev) {I : SI} {L : SL} (br : Nat → Int32) (e_br : I (1) = br) : CS l yX8_count wsX8_count ({ frames := 2, cells := 0, slots := 0, locals := 33 }) E [.ref (E.2.2.2 0), .int (2 : Int32)] I L (fun vv I' L' => vv = some (.long (Int32.toInt64 (minI (br 4) 32))) ∧ I' = I ∧ L' = L) := by
  refine CS.of (cc := cX8_count) (maxL := 2) (ret := (some .long)) (by decide) rfl (Nat.le_of_ble_eq_true rfl) ?_
  intro pg en sg mg below meth cg ls S hr hlk hX G hl
  have S : CallFix pg mg cg cX8_count 2 sg _ wsX8_count RX8 := S
  have hl : lv_has ls 2 [(0, .ref (E.2.2.2 0)), (1, .int (2 : Int32))] := hl
  refine lv_iload_n S.1 S.2.1 dX8_count_0 rfl (lv_at hl 1 rfl) ?_
  refine lv_bipush (v := (10 : Int32)) S.1 S.2.1 dX8_count_1 (by decide) ?_
  refine lv_bipush (v := (15 : Int32)) S.1 S.2.1 dX8_count_3 (by decide) ?_
  refine s_callS (As := [.int (2 : Int32), .int (10 : Int32), .int (15 : Int32)]) (rest := []) S hX G (k_X8_isWithin l E (2 : Int32) (10 : Int32) (15 : Int32)) (va_cwS (bytes := cX8_isWithin) (maxL := 3) (ret := (some .boolean)) 3 S.2.2.2.2 gX8_count_X8_isWithin rfl rfl rfl (by decide +kernel) ⟨Nat.le_of_ble_eq_true rfl, Nat.le_of_ble_eq_true rfl⟩) rfl hl.1 rfl (Nat.le_of_ble_eq_true rfl) ⟨Nat.zero_le _, Nat.zero_le _⟩ dX8_count_5 (fun v I1 L1 H locs hR G => ?_)
  obtain ⟨hv, hI, hL⟩ := hR
  subst hv
  have G : GS E I L sg H locs := G.same hI hL
  refine W.eq (g2 := F0 mg 8 ls [.int (if ¬ (2 : Int32) < (10 : Int32) ∧ ¬ (15 : Int32) < (2 : Int32) then 1 else 0)]) rfl ?_
  refine s_if_eq_b (P := ¬ (2 : Int32) < (10 : Int32) ∧ ¬ (15 : Int32) < (2 : Int32)) (tgt := 27) S dX8_count_8 (by decide) (fun _ => ?_) (fun h => absurd h (by decide))
  refine lv_iload_n S.1 S.2.1 dX8_count_27 rfl (lv_at hl 1 rfl) ?_
  refine lv_tableIn (off := 138) (tgt := 166) S.1 S.2.1 dX8_count_28 (by decide) (by decide) (by decide) (by decide) ?_
  refine lv_aload_n S.1 S.2.1 dX8_count_166 rfl (lv_at hl 0 rfl) ?_
  refine s_get S hX G (i := 0) (kd := 8) (a := (I 0)) (v := .ref (E.2.2.2 1)) (C := RX8) (T := TX8) (N := 4) 0 (rfl : sh 0 = 8) rfl rfl rfl (by decide) rfl (fun _ h => (List.mem_cons_of_mem _ (List.mem_append_left _ (List.mem_append_left _ (List.mem_append_left _ (List.mem_append_left _ (List.mem_append_left _ (List.mem_append_left _ (List.mem_append_left _ (List.mem_append_right _ h)))))))))) (by decide) (List.mem_of_getElem? (i := 1) rfl) (fun _ h => h) dX8_count_167 ?_
  refine s_callV (C := RX0) (As := []) (rest := []) (i := 1) (kd := 0) S hX G (k_X0_slotsInScope l E 1 br (by unfold IsB; decide) e_br) (cwV (bytes := cX0_slotsInScope) (maxL := 1) (ret := (some .int)) 0 S.2.2.2.2 gX8_count_X0_slotsInScope rfl rfl rfl (by decide +kernel) ⟨Nat.le_of_ble_eq_true rfl, Nat.le_of_ble_eq_true rfl⟩) (rfl : sh 1 = 0) rfl rfl rfl (by decide) rfl hl.1 rfl (Nat.le_of_ble_eq_true rfl) ⟨Nat.zero_le _, Nat.zero_le _⟩ dX8_count_170 (fun v I1 L1 H locs hR G => ?_)
  obtain ⟨hv, hI, hL⟩ := hR
  subst hv
  have G : GS E I L sg H locs := G.same hI hL
  refine W.eq (g2 := F0 mg 173 ls [.int (minI (br 4) 32)]) rfl ?_
  refine lv_topi (fun y_1 ey_1 => ?_)
  refine lv_i2l (v := (Int32.toInt64 y_1)) S.1 S.2.1 dX8_count_173 rfl ?_
  refine s_lret (x := (Int32.toInt64 y_1)) S G hr hlk dX8_count_174 ?_
  exact ⟨(congrArg (fun q : Int64 => some (Value.long q)) (show (Int32.toInt64 y_1) = (Int32.toInt64 (minI (br 4) 32)) by subst ey_1; rfl)), rfl, rfl⟩
set_option maxHeartbeats 4000000 in
set_option maxRecDepth 100000 in
theorem k_X8_count_3 (l : Launch) (E : Ev) {I : SI} {L : SL} (p : Nat → Int32) (q : Nat → Int32) (r : Nat → Int32) (s : Nat → Int32) (e_p : I (3) = p) (e_q : I (4) = q) (e_r : I (12) = r) (e_s : I (13) = s) : CS l yX8_count wsX8_count ({ frames := 1, cells := 0, slots := 0, locals := 22 }) E [.ref (E.2.2.2 0), .int (3 : Int32)] I L (fun vv I' L' => vv = some (.long (Int32.toInt64 (p 3 + q 3 + (r 3 + s 3)))) ∧ I' = I ∧ L' = L) := by
  refine CS.of (cc := cX8_count) (maxL := 2) (ret := (some .long)) (by decide) rfl (Nat.le_of_ble_eq_true rfl) ?_
  intro pg en sg mg below meth cg ls S hr hlk hX G hl
  have S : CallFix pg mg cg cX8_count 2 sg _ wsX8_count RX8 := S
  have hl : lv_has ls 2 [(0, .ref (E.2.2.2 0)), (1, .int (3 : Int32))] := hl
  refine lv_iload_n S.1 S.2.1 dX8_count_0 rfl (lv_at hl 1 rfl) ?_
  refine lv_bipush (v := (10 : Int32)) S.1 S.2.1 dX8_count_1 (by decide) ?_
  refine lv_bipush (v := (15 : Int32)) S.1 S.2.1 dX8_count_3 (by decide) ?_
  refine s_callS (As := [.int (3 : Int32), .int (10 : Int32), .int (15 : Int32)]) (rest := []) S hX G (k_X8_isWithin l E (3 : Int32) (10 : Int32) (15 : Int32)) (va_cwS (bytes := cX8_isWithin) (maxL := 3) (ret := (some .boolean)) 3 S.2.2.2.2 gX8_count_X8_isWithin rfl rfl rfl (by decide +kernel) ⟨Nat.le_of_ble_eq_true rfl, Nat.le_of_ble_eq_true rfl⟩) rfl hl.1 rfl (Nat.le_of_ble_eq_true rfl) ⟨Nat.zero_le _, Nat.zero_le _⟩ dX8_count_5 (fun v I1 L1 H locs hR G => ?_)
  obtain ⟨hv, hI, hL⟩ := hR
  subst hv
  have G : GS E I L sg H locs := G.same hI hL
  refine W.eq (g2 := F0 mg 8 ls [.int (if ¬ (3 : Int32) < (10 : Int32) ∧ ¬ (15 : Int32) < (3 : Int32) then 1 else 0)]) rfl ?_
  refine s_if_eq_b (P := ¬ (3 : Int32) < (10 : Int32) ∧ ¬ (15 : Int32) < (3 : Int32)) (tgt := 27) S dX8_count_8 (by decide) (fun _ => ?_) (fun h => absurd h (by decide))
  refine lv_iload_n S.1 S.2.1 dX8_count_27 rfl (lv_at hl 1 rfl) ?_
  refine lv_tableIn (off := 147) (tgt := 175) S.1 S.2.1 dX8_count_28 (by decide) (by decide) (by decide) (by decide) ?_
  refine lv_aload_n S.1 S.2.1 dX8_count_175 rfl (lv_at hl 0 rfl) ?_
  refine s_get S hX G (i := 0) (kd := 8) (a := (I 0)) (v := .ref (E.2.2.2 1)) (C := RX8) (T := TX8) (N := 4) 0 (rfl : sh 0 = 8) rfl rfl rfl (by decide) rfl (fun _ h => (List.mem_cons_of_mem _ (List.mem_append_left _ (List.mem_append_left _ (List.mem_append_left _ (List.mem_append_left _ (List.mem_append_left _ (List.mem_append_left _ (List.mem_append_left _ (List.mem_append_right _ h)))))))))) (by decide) (List.mem_of_getElem? (i := 1) rfl) (fun _ h => h) dX8_count_176 ?_
  refine s_getN S hX G (i := 1) (kd := 0) (a := (I 1)) (v := .ref (E.2.2.2 2)) (C := RX0) (T := TX0) (N := 5) 0 (rfl : sh 1 = 0) rfl rfl rfl (by decide) rfl (fun _ h => (List.mem_cons_of_mem _ (List.mem_append_left _ (List.mem_append_left _ (List.mem_append_left _ (List.mem_append_left _ (List.mem_append_left _ (List.mem_append_left _ (List.mem_append_right _ h))))))))) (by decide) (List.mem_of_getElem? (i := 31) rfl) (fun _ h => h) dX8_count_179 ?_
  refine s_callV (C := RX5) (As := []) (rest := []) (i := 2) (kd := 5) S hX G (k_X5_switchings l E 2 p q (by unfold IsLd; decide) e_p e_q) (cwV (bytes := cX5_switchings) (maxL := 1) (ret := (some .int)) 0 S.2.2.2.2 gX8_count_X5_switchings rfl rfl rfl (by decide +kernel) ⟨Nat.le_of_ble_eq_true rfl, Nat.le_of_ble_eq_true rfl⟩) (rfl : sh 2 = 5) rfl rfl rfl (by decide) rfl hl.1 rfl (Nat.le_of_ble_eq_true rfl) ⟨Nat.zero_le _, Nat.zero_le _⟩ dX8_count_182 (fun v I1 L1 H locs hR G => ?_)
  obtain ⟨hv, hI, hL⟩ := hR
  subst hv
  have G : GS E I L sg H locs := G.same hI hL
  refine W.eq (g2 := F0 mg 185 ls [.int (p 3 + q 3)]) rfl ?_
  refine lv_topi (fun y_1 ey_1 => ?_)
  refine lv_aload_n S.1 S.2.1 dX8_count_185 rfl (lv_at hl 0 rfl) ?_
  refine s_get S hX G (i := 0) (kd := 8) (a := (I 0)) (v := .ref (E.2.2.2 1)) (C := RX8) (T := TX8) (N := 4) 0 (rfl : sh 0 = 8) rfl rfl rfl (by decide) rfl (fun _ h => (List.mem_cons_of_mem _ (List.mem_append_left _ (List.mem_append_left _ (List.mem_append_left _ (List.mem_append_left _ (List.mem_append_left _ (List.mem_append_left _ (List.mem_append_left _ (List.mem_append_right _ h)))))))))) (by decide) (List.mem_of_getElem? (i := 1) rfl) (fun _ h => h) dX8_count_186 ?_
  refine s_getN S hX G (i := 1) (kd := 0) (a := (I 1)) (v := .ref (E.2.2.2 11)) (C := RX0) (T := TX0) (N := 5) 1 (rfl : sh 1 = 0) rfl rfl rfl (by decide) rfl (fun _ h => (List.mem_cons_of_mem _ (List.mem_append_left _ (List.mem_append_left _ (List.mem_append_left _ (List.mem_append_left _ (List.mem_append_left _ (List.mem_append_left _ (List.mem_append_right _ h))))))))) (by decide) (List.mem_of_getElem? (i := 32) rfl) (fun _ h => h) dX8_count_189 ?_
  refine s_callV (C := RX5) (As := []) (rest := [.int y_1]) (i := 11) (kd := 5) S hX G (k_X5_switchings l E 11 r s (by unfold IsLd; decide) e_r e_s) (cwV (bytes := cX5_switchings) (maxL := 1) (ret := (some .int)) 0 S.2.2.2.2 gX8_count_X5_switchings rfl rfl rfl (by decide +kernel) ⟨Nat.le_of_ble_eq_true rfl, Nat.le_of_ble_eq_true rfl⟩) (rfl : sh 11 = 5) rfl rfl rfl (by decide) rfl hl.1 rfl (Nat.le_of_ble_eq_true rfl) ⟨Nat.zero_le _, Nat.zero_le _⟩ dX8_count_192 (fun v I1 L1 H locs hR G => ?_)
  obtain ⟨hv, hI, hL⟩ := hR
  subst hv
  have G : GS E I L sg H locs := G.same hI hL
  refine W.eq (g2 := F0 mg 195 ls [.int (r 3 + s 3), .int y_1]) rfl ?_
  refine lv_topi (fun y_2 ey_2 => ?_)
  refine s_iadd (v := (y_1 + y_2)) S dX8_count_195 rfl ?_
  refine lv_i2l (v := (Int32.toInt64 (y_1 + y_2))) S.1 S.2.1 dX8_count_196 rfl ?_
  refine s_lret (x := (Int32.toInt64 (y_1 + y_2))) S G hr hlk dX8_count_197 ?_
  exact ⟨(congrArg (fun q : Int64 => some (Value.long q)) (show (Int32.toInt64 (y_1 + y_2)) = (Int32.toInt64 (p 3 + q 3 + (r 3 + s 3))) by subst ey_2 ey_1; rfl)), rfl, rfl⟩
set_option maxHeartbeats 4000000 in
set_option maxRecDepth 100000 in
theorem k_X8_count_5 (l : Launch) (E : Ev) {I : SI} {L : SL} (h : Nat → Int32) (e_h : I (53) = h) : CS l yX8_count wsX8_count ({ frames := 1, cells := 0, slots := 0, locals := 22 }) E [.ref (E.2.2.2 0), .int (5 : Int32)] I L (fun vv I' L' => vv = some (.long (Int32.toInt64 (h 2))) ∧ I' = I ∧ L' = L) := by
  refine CS.of (cc := cX8_count) (maxL := 2) (ret := (some .long)) (by decide) rfl (Nat.le_of_ble_eq_true rfl) ?_
  intro pg en sg mg below meth cg ls S hr hlk hX G hl
  have S : CallFix pg mg cg cX8_count 2 sg _ wsX8_count RX8 := S
  have hl : lv_has ls 2 [(0, .ref (E.2.2.2 0)), (1, .int (5 : Int32))] := hl
  refine lv_iload_n S.1 S.2.1 dX8_count_0 rfl (lv_at hl 1 rfl) ?_
  refine lv_bipush (v := (10 : Int32)) S.1 S.2.1 dX8_count_1 (by decide) ?_
  refine lv_bipush (v := (15 : Int32)) S.1 S.2.1 dX8_count_3 (by decide) ?_
  refine s_callS (As := [.int (5 : Int32), .int (10 : Int32), .int (15 : Int32)]) (rest := []) S hX G (k_X8_isWithin l E (5 : Int32) (10 : Int32) (15 : Int32)) (va_cwS (bytes := cX8_isWithin) (maxL := 3) (ret := (some .boolean)) 3 S.2.2.2.2 gX8_count_X8_isWithin rfl rfl rfl (by decide +kernel) ⟨Nat.le_of_ble_eq_true rfl, Nat.le_of_ble_eq_true rfl⟩) rfl hl.1 rfl (Nat.le_of_ble_eq_true rfl) ⟨Nat.zero_le _, Nat.zero_le _⟩ dX8_count_5 (fun v I1 L1 H locs hR G => ?_)
  obtain ⟨hv, hI, hL⟩ := hR
  subst hv
  have G : GS E I L sg H locs := G.same hI hL
  refine W.eq (g2 := F0 mg 8 ls [.int (if ¬ (5 : Int32) < (10 : Int32) ∧ ¬ (15 : Int32) < (5 : Int32) then 1 else 0)]) rfl ?_
  refine s_if_eq_b (P := ¬ (5 : Int32) < (10 : Int32) ∧ ¬ (15 : Int32) < (5 : Int32)) (tgt := 27) S dX8_count_8 (by decide) (fun _ => ?_) (fun h => absurd h (by decide))
  refine lv_iload_n S.1 S.2.1 dX8_count_27 rfl (lv_at hl 1 rfl) ?_
  refine lv_tableIn (off := 193) (tgt := 221) S.1 S.2.1 dX8_count_28 (by decide) (by decide) (by decide) (by decide) ?_
  refine lv_aload_n S.1 S.2.1 dX8_count_221 rfl (lv_at hl 0 rfl) ?_
  refine s_get S hX G (i := 0) (kd := 8) (a := (I 0)) (v := .ref (E.2.2.2 53)) (C := RX8) (T := TX8) (N := 4) 2 (rfl : sh 0 = 8) rfl rfl rfl (by decide) rfl (fun _ h => (List.mem_cons_of_mem _ (List.mem_append_left _ (List.mem_append_left _ (List.mem_append_left _ (List.mem_append_left _ (List.mem_append_left _ (List.mem_append_left _ (List.mem_append_left _ (List.mem_append_right _ h)))))))))) (by decide) (List.mem_of_getElem? (i := 2) rfl) (fun _ h => h) dX8_count_222 ?_
  refine s_getN S hX G (i := 53) (kd := 2) (a := h) (v := .int (h 2)) (C := RX2) (T := TX2) (N := 3) 2 (rfl : sh 53 = 2) e_h rfl rfl (by decide) rfl (fun _ h => (List.mem_cons_of_mem _ (List.mem_append_left _ (List.mem_append_left _ (List.mem_append_left _ (List.mem_append_right _ h)))))) (by decide) (List.mem_of_getElem? (i := 36) rfl) (fun _ h => h) dX8_count_225 ?_
  refine lv_i2l (v := (Int32.toInt64 (h 2))) S.1 S.2.1 dX8_count_228 rfl ?_
  refine s_lret (x := (Int32.toInt64 (h 2))) S G hr hlk dX8_count_229 ?_
  exact ⟨rfl, rfl, rfl⟩
set_option maxHeartbeats 4000000 in
set_option maxRecDepth 100000 in
theorem k_X8_leg_0_0 (l : Launch) (E : Ev) {I : SI} {L : SL} (p : Nat → Int32) (e_p : I (3) = p) : CS l yX8_leg wsX8_leg ({ frames := 2, cells := 0, slots := 0, locals := 43 }) E [.ref (E.2.2.2 0), .int (0 : Int32), .int (0 : Int32)] I L (fun vv I' L' => vv = some (.int (p 0)) ∧ I' = I ∧ L' = L) := by
  refine CS.of (cc := cX8_leg) (maxL := 4) (ret := (some .int)) (by decide) rfl (Nat.le_of_ble_eq_true rfl) ?_
  intro pg en sg mg below meth cg ls S hr hlk hX G hl
  have S : CallFix pg mg cg cX8_leg 4 sg _ wsX8_leg RX8 := S
  have hl : lv_has ls 4 [(0, .ref (E.2.2.2 0)), (1, .int (0 : Int32)), (2, .int (0 : Int32))] := hl
  refine lv_iload_n S.1 S.2.1 dX8_leg_0 rfl (lv_at hl 1 rfl) ?_
  refine s_callS (As := [.int (0 : Int32)]) (rest := []) S hX G (k_X8_isLeg l E (0 : Int32)) (va_cwS (bytes := cX8_isLeg) (maxL := 1) (ret := (some .boolean)) 1 S.2.2.2.2 gX8_leg_X8_isLeg rfl rfl rfl (by decide +kernel) ⟨Nat.le_of_ble_eq_true rfl, Nat.le_of_ble_eq_true rfl⟩) rfl hl.1 rfl (Nat.le_of_ble_eq_true rfl) ⟨Nat.zero_le _, Nat.zero_le _⟩ dX8_leg_1 (fun v I1 L1 H locs hR G => ?_)
  obtain ⟨hv, hI, hL⟩ := hR
  subst hv
  have G : GS E I L sg H locs := G.same hI hL
  refine W.eq (g2 := F0 mg 4 ls [.int (if ¬ (0 : Int32) < (0 : Int32) ∧ ¬ (3 : Int32) < (0 : Int32) then 1 else 0)]) rfl ?_
  refine s_if_ne_b (P := ¬ (0 : Int32) < (0 : Int32) ∧ ¬ (3 : Int32) < (0 : Int32)) (tgt := 10) S dX8_leg_4 (by decide) (fun _ => ?_) (fun h => absurd (by decide) h)
  refine lv_aload_n S.1 S.2.1 dX8_leg_10 rfl (lv_at hl 0 rfl) ?_
  refine s_get S hX G (i := 0) (kd := 8) (a := (I 0)) (v := .ref (E.2.2.2 1)) (C := RX8) (T := TX8) (N := 4) 0 (rfl : sh 0 = 8) rfl rfl rfl (by decide) rfl (fun _ h => (List.mem_cons_of_mem _ (List.mem_append_left _ (List.mem_append_left _ (List.mem_append_left _ (List.mem_append_left _ (List.mem_append_right _ h))))))) (by decide) (List.mem_of_getElem? (i := 2) rfl) (fun _ h => h) dX8_leg_11 ?_
  refine lv_iload_n S.1 S.2.1 dX8_leg_14 rfl (lv_at hl 1 rfl) ?_
  refine s_callV (C := RX0) (As := [.int (0 : Int32)]) (rest := []) (i := 1) (kd := 0) S hX G (k_X0_legAt_0 l E 1 (by unfold IsB; decide)) (cwV (bytes := cX0_legAt) (maxL := 3) (ret := (some (.object "BridgeLegs$Leg"))) 1 S.2.2.2.2 gX8_leg_X0_legAt rfl rfl rfl (by decide +kernel) ⟨Nat.le_of_ble_eq_true rfl, Nat.le_of_ble_eq_true rfl⟩) (rfl : sh 1 = 0) rfl rfl rfl (by decide) rfl hl.1 rfl (Nat.le_of_ble_eq_true rfl) ⟨Nat.zero_le _, Nat.zero_le _⟩ dX8_leg_15 (fun v I1 L1 H locs hR G => ?_)
  obtain ⟨hv, hI, hL⟩ := hR
  subst hv
  have G : GS E I L sg H locs := G.same hI hL
  refine W.eq (g2 := F0 mg 18 ls [.ref (E.2.2.2 3)]) rfl ?_
  refine lv_astore_n (lv' := [(3, .ref (E.2.2.2 3)), (0, .ref (E.2.2.2 0)), (1, .int (0 : Int32)), (2, .int (0 : Int32))]) S.1 S.2.1 dX8_leg_18 rfl hl (by decide) rfl (fun ls hl => ?_)
  refine lv_iload_n S.1 S.2.1 dX8_leg_19 rfl (lv_at hl 3 rfl) ?_
  refine lv_tableIn (off := 48) (tgt := 68) S.1 S.2.1 dX8_leg_20 (by decide) (by decide) (by decide) (by decide) ?_
  refine lv_aload_n S.1 S.2.1 dX8_leg_68 rfl (lv_at hl 0 rfl) ?_
  refine s_getN S hX G (i := 3) (kd := 4) (a := p) (v := .int (p 0)) (C := RX4) (T := TX4) (N := 7) 0 (rfl : sh 3 = 4) e_p rfl rfl (by decide) rfl (fun _ h => (List.mem_cons_of_mem _ (List.mem_append_left _ (List.mem_append_left _ (List.mem_append_left _ (List.mem_append_right _ h)))))) (by decide) (List.mem_of_getElem? (i := 0) rfl) (fun _ h => h) dX8_leg_69 ?_
  refine s_iret (x := (p 0)) S G hr hlk dX8_leg_72 ?_
  exact ⟨rfl, rfl, rfl⟩
set_option maxHeartbeats 4000000 in
set_option maxRecDepth 100000 in
theorem k_X8_leg_0_1 (l : Launch) (E : Ev) {I : SI} {L : SL} (p : Nat → Int32) (e_p : I (3) = p) : CS l yX8_leg wsX8_leg ({ frames := 2, cells := 0, slots := 0, locals := 43 }) E [.ref (E.2.2.2 0), .int (0 : Int32), .int (1 : Int32)] I L (fun vv I' L' => vv = some (.int (p 1)) ∧ I' = I ∧ L' = L) := by
  refine CS.of (cc := cX8_leg) (maxL := 4) (ret := (some .int)) (by decide) rfl (Nat.le_of_ble_eq_true rfl) ?_
  intro pg en sg mg below meth cg ls S hr hlk hX G hl
  have S : CallFix pg mg cg cX8_leg 4 sg _ wsX8_leg RX8 := S
  have hl : lv_has ls 4 [(0, .ref (E.2.2.2 0)), (1, .int (0 : Int32)), (2, .int (1 : Int32))] := hl
  refine lv_iload_n S.1 S.2.1 dX8_leg_0 rfl (lv_at hl 1 rfl) ?_
  refine s_callS (As := [.int (0 : Int32)]) (rest := []) S hX G (k_X8_isLeg l E (0 : Int32)) (va_cwS (bytes := cX8_isLeg) (maxL := 1) (ret := (some .boolean)) 1 S.2.2.2.2 gX8_leg_X8_isLeg rfl rfl rfl (by decide +kernel) ⟨Nat.le_of_ble_eq_true rfl, Nat.le_of_ble_eq_true rfl⟩) rfl hl.1 rfl (Nat.le_of_ble_eq_true rfl) ⟨Nat.zero_le _, Nat.zero_le _⟩ dX8_leg_1 (fun v I1 L1 H locs hR G => ?_)
  obtain ⟨hv, hI, hL⟩ := hR
  subst hv
  have G : GS E I L sg H locs := G.same hI hL
  refine W.eq (g2 := F0 mg 4 ls [.int (if ¬ (0 : Int32) < (0 : Int32) ∧ ¬ (3 : Int32) < (0 : Int32) then 1 else 0)]) rfl ?_
  refine s_if_ne_b (P := ¬ (0 : Int32) < (0 : Int32) ∧ ¬ (3 : Int32) < (0 : Int32)) (tgt := 10) S dX8_leg_4 (by decide) (fun _ => ?_) (fun h => absurd (by decide) h)
  refine lv_aload_n S.1 S.2.1 dX8_leg_10 rfl (lv_at hl 0 rfl) ?_
  refine s_get S hX G (i := 0) (kd := 8) (a := (I 0)) (v := .ref (E.2.2.2 1)) (C := RX8) (T := TX8) (N := 4) 0 (rfl : sh 0 = 8) rfl rfl rfl (by decide) rfl (fun _ h => (List.mem_cons_of_mem _ (List.mem_append_left _ (List.mem_append_left _ (List.mem_append_left _ (List.mem_append_left _ (List.mem_append_right _ h))))))) (by decide) (List.mem_of_getElem? (i := 2) rfl) (fun _ h => h) dX8_leg_11 ?_
  refine lv_iload_n S.1 S.2.1 dX8_leg_14 rfl (lv_at hl 1 rfl) ?_
  refine s_callV (C := RX0) (As := [.int (0 : Int32)]) (rest := []) (i := 1) (kd := 0) S hX G (k_X0_legAt_0 l E 1 (by unfold IsB; decide)) (cwV (bytes := cX0_legAt) (maxL := 3) (ret := (some (.object "BridgeLegs$Leg"))) 1 S.2.2.2.2 gX8_leg_X0_legAt rfl rfl rfl (by decide +kernel) ⟨Nat.le_of_ble_eq_true rfl, Nat.le_of_ble_eq_true rfl⟩) (rfl : sh 1 = 0) rfl rfl rfl (by decide) rfl hl.1 rfl (Nat.le_of_ble_eq_true rfl) ⟨Nat.zero_le _, Nat.zero_le _⟩ dX8_leg_15 (fun v I1 L1 H locs hR G => ?_)
  obtain ⟨hv, hI, hL⟩ := hR
  subst hv
  have G : GS E I L sg H locs := G.same hI hL
  refine W.eq (g2 := F0 mg 18 ls [.ref (E.2.2.2 3)]) rfl ?_
  refine lv_astore_n (lv' := [(3, .ref (E.2.2.2 3)), (0, .ref (E.2.2.2 0)), (1, .int (0 : Int32)), (2, .int (1 : Int32))]) S.1 S.2.1 dX8_leg_18 rfl hl (by decide) rfl (fun ls hl => ?_)
  refine lv_iload_n S.1 S.2.1 dX8_leg_19 rfl (lv_at hl 3 rfl) ?_
  refine lv_tableIn (off := 53) (tgt := 73) S.1 S.2.1 dX8_leg_20 (by decide) (by decide) (by decide) (by decide) ?_
  refine lv_aload_n S.1 S.2.1 dX8_leg_73 rfl (lv_at hl 0 rfl) ?_
  refine s_getN S hX G (i := 3) (kd := 4) (a := p) (v := .int (p 1)) (C := RX4) (T := TX4) (N := 7) 1 (rfl : sh 3 = 4) e_p rfl rfl (by decide) rfl (fun _ h => (List.mem_cons_of_mem _ (List.mem_append_left _ (List.mem_append_left _ (List.mem_append_left _ (List.mem_append_right _ h)))))) (by decide) (List.mem_of_getElem? (i := 3) rfl) (fun _ h => h) dX8_leg_74 ?_
  refine s_iret (x := (p 1)) S G hr hlk dX8_leg_77 ?_
  exact ⟨rfl, rfl, rfl⟩
set_option maxHeartbeats 4000000 in
set_option maxRecDepth 100000 in
theorem k_X8_leg_0_2 (l : Launch) (E : Ev) {I : SI} {L : SL} (b : Nat → Int32) (p : Nat → Int32) (q : Nat → Int32) (n : Nat → Int32) (e_b : I (2) = b) (e_p : I (3) = p) (e_q : I (4) = q) (e_n : I (7) = n) : CS l yX8_leg wsX8_leg ({ frames := 2, cells := 0, slots := 0, locals := 43 }) E [.ref (E.2.2.2 0), .int (0 : Int32), .int (2 : Int32)] I L (fun vv I' L' => vv = some (.int (fWishF b p q n)) ∧ I' = I ∧ L' = L) := by
  refine CS.of (cc := cX8_leg) (maxL := 4) (ret := (some .int)) (by decide) rfl (Nat.le_of_ble_eq_true rfl) ?_
  intro pg en sg mg below meth cg ls S hr hlk hX G hl
  have S : CallFix pg mg cg cX8_leg 4 sg _ wsX8_leg RX8 := S
  have hl : lv_has ls 4 [(0, .ref (E.2.2.2 0)), (1, .int (0 : Int32)), (2, .int (2 : Int32))] := hl
  refine lv_iload_n S.1 S.2.1 dX8_leg_0 rfl (lv_at hl 1 rfl) ?_
  refine s_callS (As := [.int (0 : Int32)]) (rest := []) S hX G (k_X8_isLeg l E (0 : Int32)) (va_cwS (bytes := cX8_isLeg) (maxL := 1) (ret := (some .boolean)) 1 S.2.2.2.2 gX8_leg_X8_isLeg rfl rfl rfl (by decide +kernel) ⟨Nat.le_of_ble_eq_true rfl, Nat.le_of_ble_eq_true rfl⟩) rfl hl.1 rfl (Nat.le_of_ble_eq_true rfl) ⟨Nat.zero_le _, Nat.zero_le _⟩ dX8_leg_1 (fun v I1 L1 H locs hR G => ?_)
  obtain ⟨hv, hI, hL⟩ := hR
  subst hv
  have G : GS E I L sg H locs := G.same hI hL
  refine W.eq (g2 := F0 mg 4 ls [.int (if ¬ (0 : Int32) < (0 : Int32) ∧ ¬ (3 : Int32) < (0 : Int32) then 1 else 0)]) rfl ?_
  refine s_if_ne_b (P := ¬ (0 : Int32) < (0 : Int32) ∧ ¬ (3 : Int32) < (0 : Int32)) (tgt := 10) S dX8_leg_4 (by decide) (fun _ => ?_) (fun h => absurd (by decide) h)
  refine lv_aload_n S.1 S.2.1 dX8_leg_10 rfl (lv_at hl 0 rfl) ?_
  refine s_get S hX G (i := 0) (kd := 8) (a := (I 0)) (v := .ref (E.2.2.2 1)) (C := RX8) (T := TX8) (N := 4) 0 (rfl : sh 0 = 8) rfl rfl rfl (by decide) rfl (fun _ h => (List.mem_cons_of_mem _ (List.mem_append_left _ (List.mem_append_left _ (List.mem_append_left _ (List.mem_append_left _ (List.mem_append_right _ h))))))) (by decide) (List.mem_of_getElem? (i := 2) rfl) (fun _ h => h) dX8_leg_11 ?_
  refine lv_iload_n S.1 S.2.1 dX8_leg_14 rfl (lv_at hl 1 rfl) ?_
  refine s_callV (C := RX0) (As := [.int (0 : Int32)]) (rest := []) (i := 1) (kd := 0) S hX G (k_X0_legAt_0 l E 1 (by unfold IsB; decide)) (cwV (bytes := cX0_legAt) (maxL := 3) (ret := (some (.object "BridgeLegs$Leg"))) 1 S.2.2.2.2 gX8_leg_X0_legAt rfl rfl rfl (by decide +kernel) ⟨Nat.le_of_ble_eq_true rfl, Nat.le_of_ble_eq_true rfl⟩) (rfl : sh 1 = 0) rfl rfl rfl (by decide) rfl hl.1 rfl (Nat.le_of_ble_eq_true rfl) ⟨Nat.zero_le _, Nat.zero_le _⟩ dX8_leg_15 (fun v I1 L1 H locs hR G => ?_)
  obtain ⟨hv, hI, hL⟩ := hR
  subst hv
  have G : GS E I L sg H locs := G.same hI hL
  refine W.eq (g2 := F0 mg 18 ls [.ref (E.2.2.2 3)]) rfl ?_
  refine lv_astore_n (lv' := [(3, .ref (E.2.2.2 3)), (0, .ref (E.2.2.2 0)), (1, .int (0 : Int32)), (2, .int (2 : Int32))]) S.1 S.2.1 dX8_leg_18 rfl hl (by decide) rfl (fun ls hl => ?_)
  refine lv_iload_n S.1 S.2.1 dX8_leg_19 rfl (lv_at hl 3 rfl) ?_
  refine lv_tableIn (off := 58) (tgt := 78) S.1 S.2.1 dX8_leg_20 (by decide) (by decide) (by decide) (by decide) ?_
  refine lv_aload_n S.1 S.2.1 dX8_leg_78 rfl (lv_at hl 1 rfl) ?_
  refine s_get S hX G (i := 0) (kd := 8) (a := (I 0)) (v := .ref (E.2.2.2 1)) (C := RX8) (T := TX8) (N := 4) 0 (rfl : sh 0 = 8) rfl rfl rfl (by decide) rfl (fun _ h => (List.mem_cons_of_mem _ (List.mem_append_left _ (List.mem_append_left _ (List.mem_append_left _ (List.mem_append_left _ (List.mem_append_right _ h))))))) (by decide) (List.mem_of_getElem? (i := 2) rfl) (fun _ h => h) dX8_leg_79 ?_
  refine lv_iload_n S.1 S.2.1 dX8_leg_82 rfl (lv_at hl 2 rfl) ?_
  refine s_callV (C := RX0) (As := [.int (0 : Int32)]) (rest := []) (i := 1) (kd := 0) S hX G (k_X0_wishOf_0 l E 1 b p q n (by unfold IsB; decide) e_b e_p e_q e_n) (cwV (bytes := cX0_wishOf) (maxL := 3) (ret := (some .int)) 1 S.2.2.2.2 gX8_leg_X0_wishOf rfl rfl rfl (by decide +kernel) ⟨Nat.le_of_ble_eq_true rfl, Nat.le_of_ble_eq_true rfl⟩) (rfl : sh 1 = 0) rfl rfl rfl (by decide) rfl hl.1 rfl (Nat.le_of_ble_eq_true rfl) ⟨Nat.zero_le _, Nat.zero_le _⟩ dX8_leg_83 (fun v I1 L1 H locs hR G => ?_)
  obtain ⟨hv, hI, hL⟩ := hR
  subst hv
  have G : GS E I L sg H locs := G.same hI hL
  refine W.eq (g2 := F0 mg 86 ls [.int (fWishF b p q n)]) rfl ?_
  refine lv_topi (fun y_1 ey_1 => ?_)
  refine s_iret (x := y_1) S G hr hlk dX8_leg_86 ?_
  exact ⟨(congrArg (fun q : Int32 => some (Value.int q)) (show y_1 = (fWishF b p q n) by subst ey_1; rfl)), rfl, rfl⟩
set_option maxHeartbeats 4000000 in
set_option maxRecDepth 100000 in
theorem k_X8_leg_0_3 (l : Launch) (E : Ev) {I : SI} {L : SL} (p : Nat → Int32) (e_p : I (3) = p) : CS l yX8_leg wsX8_leg ({ frames := 2, cells := 0, slots := 0, locals := 43 }) E [.ref (E.2.2.2 0), .int (0 : Int32), .int (3 : Int32)] I L (fun vv I' L' => vv = some (.int (p 2)) ∧ I' = I ∧ L' = L) := by
  refine CS.of (cc := cX8_leg) (maxL := 4) (ret := (some .int)) (by decide) rfl (Nat.le_of_ble_eq_true rfl) ?_
  intro pg en sg mg below meth cg ls S hr hlk hX G hl
  have S : CallFix pg mg cg cX8_leg 4 sg _ wsX8_leg RX8 := S
  have hl : lv_has ls 4 [(0, .ref (E.2.2.2 0)), (1, .int (0 : Int32)), (2, .int (3 : Int32))] := hl
  refine lv_iload_n S.1 S.2.1 dX8_leg_0 rfl (lv_at hl 1 rfl) ?_
  refine s_callS (As := [.int (0 : Int32)]) (rest := []) S hX G (k_X8_isLeg l E (0 : Int32)) (va_cwS (bytes := cX8_isLeg) (maxL := 1) (ret := (some .boolean)) 1 S.2.2.2.2 gX8_leg_X8_isLeg rfl rfl rfl (by decide +kernel) ⟨Nat.le_of_ble_eq_true rfl, Nat.le_of_ble_eq_true rfl⟩) rfl hl.1 rfl (Nat.le_of_ble_eq_true rfl) ⟨Nat.zero_le _, Nat.zero_le _⟩ dX8_leg_1 (fun v I1 L1 H locs hR G => ?_)
  obtain ⟨hv, hI, hL⟩ := hR
  subst hv
  have G : GS E I L sg H locs := G.same hI hL
  refine W.eq (g2 := F0 mg 4 ls [.int (if ¬ (0 : Int32) < (0 : Int32) ∧ ¬ (3 : Int32) < (0 : Int32) then 1 else 0)]) rfl ?_
  refine s_if_ne_b (P := ¬ (0 : Int32) < (0 : Int32) ∧ ¬ (3 : Int32) < (0 : Int32)) (tgt := 10) S dX8_leg_4 (by decide) (fun _ => ?_) (fun h => absurd (by decide) h)
  refine lv_aload_n S.1 S.2.1 dX8_leg_10 rfl (lv_at hl 0 rfl) ?_
  refine s_get S hX G (i := 0) (kd := 8) (a := (I 0)) (v := .ref (E.2.2.2 1)) (C := RX8) (T := TX8) (N := 4) 0 (rfl : sh 0 = 8) rfl rfl rfl (by decide) rfl (fun _ h => (List.mem_cons_of_mem _ (List.mem_append_left _ (List.mem_append_left _ (List.mem_append_left _ (List.mem_append_left _ (List.mem_append_right _ h))))))) (by decide) (List.mem_of_getElem? (i := 2) rfl) (fun _ h => h) dX8_leg_11 ?_
  refine lv_iload_n S.1 S.2.1 dX8_leg_14 rfl (lv_at hl 1 rfl) ?_
  refine s_callV (C := RX0) (As := [.int (0 : Int32)]) (rest := []) (i := 1) (kd := 0) S hX G (k_X0_legAt_0 l E 1 (by unfold IsB; decide)) (cwV (bytes := cX0_legAt) (maxL := 3) (ret := (some (.object "BridgeLegs$Leg"))) 1 S.2.2.2.2 gX8_leg_X0_legAt rfl rfl rfl (by decide +kernel) ⟨Nat.le_of_ble_eq_true rfl, Nat.le_of_ble_eq_true rfl⟩) (rfl : sh 1 = 0) rfl rfl rfl (by decide) rfl hl.1 rfl (Nat.le_of_ble_eq_true rfl) ⟨Nat.zero_le _, Nat.zero_le _⟩ dX8_leg_15 (fun v I1 L1 H locs hR G => ?_)
  obtain ⟨hv, hI, hL⟩ := hR
  subst hv
  have G : GS E I L sg H locs := G.same hI hL
  refine W.eq (g2 := F0 mg 18 ls [.ref (E.2.2.2 3)]) rfl ?_
  refine lv_astore_n (lv' := [(3, .ref (E.2.2.2 3)), (0, .ref (E.2.2.2 0)), (1, .int (0 : Int32)), (2, .int (3 : Int32))]) S.1 S.2.1 dX8_leg_18 rfl hl (by decide) rfl (fun ls hl => ?_)
  refine lv_iload_n S.1 S.2.1 dX8_leg_19 rfl (lv_at hl 3 rfl) ?_
  refine lv_tableIn (off := 67) (tgt := 87) S.1 S.2.1 dX8_leg_20 (by decide) (by decide) (by decide) (by decide) ?_
  refine lv_aload_n S.1 S.2.1 dX8_leg_87 rfl (lv_at hl 0 rfl) ?_
  refine s_getN S hX G (i := 3) (kd := 4) (a := p) (v := .int (p 2)) (C := RX4) (T := TX4) (N := 7) 2 (rfl : sh 3 = 4) e_p rfl rfl (by decide) rfl (fun _ h => (List.mem_cons_of_mem _ (List.mem_append_left _ (List.mem_append_left _ (List.mem_append_left _ (List.mem_append_right _ h)))))) (by decide) (List.mem_of_getElem? (i := 5) rfl) (fun _ h => h) dX8_leg_88 ?_
  refine s_iret (x := (p 2)) S G hr hlk dX8_leg_91 ?_
  exact ⟨rfl, rfl, rfl⟩
set_option maxHeartbeats 4000000 in
set_option maxRecDepth 100000 in
theorem k_X8_leg_0_4 (l : Launch) (E : Ev) {I : SI} {L : SL} (p : Nat → Int32) (e_p : I (3) = p) : CS l yX8_leg wsX8_leg ({ frames := 2, cells := 0, slots := 0, locals := 43 }) E [.ref (E.2.2.2 0), .int (0 : Int32), .int (4 : Int32)] I L (fun vv I' L' => vv = some (.int (p 3)) ∧ I' = I ∧ L' = L) := by
  refine CS.of (cc := cX8_leg) (maxL := 4) (ret := (some .int)) (by decide) rfl (Nat.le_of_ble_eq_true rfl) ?_
  intro pg en sg mg below meth cg ls S hr hlk hX G hl
  have S : CallFix pg mg cg cX8_leg 4 sg _ wsX8_leg RX8 := S
  have hl : lv_has ls 4 [(0, .ref (E.2.2.2 0)), (1, .int (0 : Int32)), (2, .int (4 : Int32))] := hl
  refine lv_iload_n S.1 S.2.1 dX8_leg_0 rfl (lv_at hl 1 rfl) ?_
  refine s_callS (As := [.int (0 : Int32)]) (rest := []) S hX G (k_X8_isLeg l E (0 : Int32)) (va_cwS (bytes := cX8_isLeg) (maxL := 1) (ret := (some .boolean)) 1 S.2.2.2.2 gX8_leg_X8_isLeg rfl rfl rfl (by decide +kernel) ⟨Nat.le_of_ble_eq_true rfl, Nat.le_of_ble_eq_true rfl⟩) rfl hl.1 rfl (Nat.le_of_ble_eq_true rfl) ⟨Nat.zero_le _, Nat.zero_le _⟩ dX8_leg_1 (fun v I1 L1 H locs hR G => ?_)
  obtain ⟨hv, hI, hL⟩ := hR
  subst hv
  have G : GS E I L sg H locs := G.same hI hL
  refine W.eq (g2 := F0 mg 4 ls [.int (if ¬ (0 : Int32) < (0 : Int32) ∧ ¬ (3 : Int32) < (0 : Int32) then 1 else 0)]) rfl ?_
  refine s_if_ne_b (P := ¬ (0 : Int32) < (0 : Int32) ∧ ¬ (3 : Int32) < (0 : Int32)) (tgt := 10) S dX8_leg_4 (by decide) (fun _ => ?_) (fun h => absurd (by decide) h)
  refine lv_aload_n S.1 S.2.1 dX8_leg_10 rfl (lv_at hl 0 rfl) ?_
  refine s_get S hX G (i := 0) (kd := 8) (a := (I 0)) (v := .ref (E.2.2.2 1)) (C := RX8) (T := TX8) (N := 4) 0 (rfl : sh 0 = 8) rfl rfl rfl (by decide) rfl (fun _ h => (List.mem_cons_of_mem _ (List.mem_append_left _ (List.mem_append_left _ (List.mem_append_left _ (List.mem_append_left _ (List.mem_append_right _ h))))))) (by decide) (List.mem_of_getElem? (i := 2) rfl) (fun _ h => h) dX8_leg_11 ?_
  refine lv_iload_n S.1 S.2.1 dX8_leg_14 rfl (lv_at hl 1 rfl) ?_
  refine s_callV (C := RX0) (As := [.int (0 : Int32)]) (rest := []) (i := 1) (kd := 0) S hX G (k_X0_legAt_0 l E 1 (by unfold IsB; decide)) (cwV (bytes := cX0_legAt) (maxL := 3) (ret := (some (.object "BridgeLegs$Leg"))) 1 S.2.2.2.2 gX8_leg_X0_legAt rfl rfl rfl (by decide +kernel) ⟨Nat.le_of_ble_eq_true rfl, Nat.le_of_ble_eq_true rfl⟩) (rfl : sh 1 = 0) rfl rfl rfl (by decide) rfl hl.1 rfl (Nat.le_of_ble_eq_true rfl) ⟨Nat.zero_le _, Nat.zero_le _⟩ dX8_leg_15 (fun v I1 L1 H locs hR G => ?_)
  obtain ⟨hv, hI, hL⟩ := hR
  subst hv
  have G : GS E I L sg H locs := G.same hI hL
  refine W.eq (g2 := F0 mg 18 ls [.ref (E.2.2.2 3)]) rfl ?_
  refine lv_astore_n (lv' := [(3, .ref (E.2.2.2 3)), (0, .ref (E.2.2.2 0)), (1, .int (0 : Int32)), (2, .int (4 : Int32))]) S.1 S.2.1 dX8_leg_18 rfl hl (by decide) rfl (fun ls hl => ?_)
  refine lv_iload_n S.1 S.2.1 dX8_leg_19 rfl (lv_at hl 3 rfl) ?_
  refine lv_tableIn (off := 72) (tgt := 92) S.1 S.2.1 dX8_leg_20 (by decide) (by decide) (by decide) (by decide) ?_
  refine lv_aload_n S.1 S.2.1 dX8_leg_92 rfl (lv_at hl 0 rfl) ?_
  refine s_getN S hX G (i := 3) (kd := 4) (a := p) (v := .int (p 3)) (C := RX4) (T := TX4) (N := 7) 3 (rfl : sh 3 = 4) e_p rfl rfl (by decide) rfl (fun _ h => (List.mem_cons_of_mem _ (List.mem_append_left _ (List.mem_append_left _ (List.mem_append_left _ (List.mem_append_right _ h)))))) (by decide) (List.mem_of_getElem? (i := 7) rfl) (fun _ h => h) dX8_leg_93 ?_
  refine s_iret (x := (p 3)) S G hr hlk dX8_leg_96 ?_
  exact ⟨rfl, rfl, rfl⟩
set_option maxHeartbeats 4000000 in
set_option maxRecDepth 100000 in
theorem k_X8_leg_0_5 (l : Launch) (E : Ev) {I : SI} {L : SL} (p : Nat → Int32) (e_p : I (3) = p) : CS l yX8_leg wsX8_leg ({ frames := 2, cells := 0, slots := 0, locals := 43 }) E [.ref (E.2.2.2 0), .int (0 : Int32), .int (5 : Int32)] I L (fun vv I' L' => vv = some (.int (p 4)) ∧ I' = I ∧ L' = L) := by
  refine CS.of (cc := cX8_leg) (maxL := 4) (ret := (some .int)) (by decide) rfl (Nat.le_of_ble_eq_true rfl) ?_
  intro pg en sg mg below meth cg ls S hr hlk hX G hl
  have S : CallFix pg mg cg cX8_leg 4 sg _ wsX8_leg RX8 := S
  have hl : lv_has ls 4 [(0, .ref (E.2.2.2 0)), (1, .int (0 : Int32)), (2, .int (5 : Int32))] := hl
  refine lv_iload_n S.1 S.2.1 dX8_leg_0 rfl (lv_at hl 1 rfl) ?_
  refine s_callS (As := [.int (0 : Int32)]) (rest := []) S hX G (k_X8_isLeg l E (0 : Int32)) (va_cwS (bytes := cX8_isLeg) (maxL := 1) (ret := (some .boolean)) 1 S.2.2.2.2 gX8_leg_X8_isLeg rfl rfl rfl (by decide +kernel) ⟨Nat.le_of_ble_eq_true rfl, Nat.le_of_ble_eq_true rfl⟩) rfl hl.1 rfl (Nat.le_of_ble_eq_true rfl) ⟨Nat.zero_le _, Nat.zero_le _⟩ dX8_leg_1 (fun v I1 L1 H locs hR G => ?_)
  obtain ⟨hv, hI, hL⟩ := hR
  subst hv
  have G : GS E I L sg H locs := G.same hI hL
  refine W.eq (g2 := F0 mg 4 ls [.int (if ¬ (0 : Int32) < (0 : Int32) ∧ ¬ (3 : Int32) < (0 : Int32) then 1 else 0)]) rfl ?_
  refine s_if_ne_b (P := ¬ (0 : Int32) < (0 : Int32) ∧ ¬ (3 : Int32) < (0 : Int32)) (tgt := 10) S dX8_leg_4 (by decide) (fun _ => ?_) (fun h => absurd (by decide) h)
  refine lv_aload_n S.1 S.2.1 dX8_leg_10 rfl (lv_at hl 0 rfl) ?_
  refine s_get S hX G (i := 0) (kd := 8) (a := (I 0)) (v := .ref (E.2.2.2 1)) (C := RX8) (T := TX8) (N := 4) 0 (rfl : sh 0 = 8) rfl rfl rfl (by decide) rfl (fun _ h => (List.mem_cons_of_mem _ (List.mem_append_left _ (List.mem_append_left _ (List.mem_append_left _ (List.mem_append_left _ (List.mem_append_right _ h))))))) (by decide) (List.mem_of_getElem? (i := 2) rfl) (fun _ h => h) dX8_leg_11 ?_
  refine lv_iload_n S.1 S.2.1 dX8_leg_14 rfl (lv_at hl 1 rfl) ?_
  refine s_callV (C := RX0) (As := [.int (0 : Int32)]) (rest := []) (i := 1) (kd := 0) S hX G (k_X0_legAt_0 l E 1 (by unfold IsB; decide)) (cwV (bytes := cX0_legAt) (maxL := 3) (ret := (some (.object "BridgeLegs$Leg"))) 1 S.2.2.2.2 gX8_leg_X0_legAt rfl rfl rfl (by decide +kernel) ⟨Nat.le_of_ble_eq_true rfl, Nat.le_of_ble_eq_true rfl⟩) (rfl : sh 1 = 0) rfl rfl rfl (by decide) rfl hl.1 rfl (Nat.le_of_ble_eq_true rfl) ⟨Nat.zero_le _, Nat.zero_le _⟩ dX8_leg_15 (fun v I1 L1 H locs hR G => ?_)
  obtain ⟨hv, hI, hL⟩ := hR
  subst hv
  have G : GS E I L sg H locs := G.same hI hL
  refine W.eq (g2 := F0 mg 18 ls [.ref (E.2.2.2 3)]) rfl ?_
  refine lv_astore_n (lv' := [(3, .ref (E.2.2.2 3)), (0, .ref (E.2.2.2 0)), (1, .int (0 : Int32)), (2, .int (5 : Int32))]) S.1 S.2.1 dX8_leg_18 rfl hl (by decide) rfl (fun ls hl => ?_)
  refine lv_iload_n S.1 S.2.1 dX8_leg_19 rfl (lv_at hl 3 rfl) ?_
  refine lv_tableIn (off := 77) (tgt := 97) S.1 S.2.1 dX8_leg_20 (by decide) (by decide) (by decide) (by decide) ?_
  refine lv_aload_n S.1 S.2.1 dX8_leg_97 rfl (lv_at hl 0 rfl) ?_
  refine s_getN S hX G (i := 3) (kd := 4) (a := p) (v := .int (p 4)) (C := RX4) (T := TX4) (N := 7) 4 (rfl : sh 3 = 4) e_p rfl rfl (by decide) rfl (fun _ h => (List.mem_cons_of_mem _ (List.mem_append_left _ (List.mem_append_left _ (List.mem_append_left _ (List.mem_append_right _ h)))))) (by decide) (List.mem_of_getElem? (i := 8) rfl) (fun _ h => h) dX8_leg_98 ?_
  refine s_iret (x := (p 4)) S G hr hlk dX8_leg_101 ?_
  exact ⟨rfl, rfl, rfl⟩
set_option maxHeartbeats 4000000 in
set_option maxRecDepth 100000 in
theorem k_X8_leg_0_6 (l : Launch) (E : Ev) {I : SI} {L : SL} (p : Nat → Int32) (e_p : I (3) = p) : CS l yX8_leg wsX8_leg ({ frames := 2, cells := 0, slots := 0, locals := 43 }) E [.ref (E.2.2.2 0), .int (0 : Int32), .int (6 : Int32)] I L (fun vv I' L' => vv = some (.int (p 5)) ∧ I' = I ∧ L' = L) := by
  refine CS.of (cc := cX8_leg) (maxL := 4) (ret := (some .int)) (by decide) rfl (Nat.le_of_ble_eq_true rfl) ?_
  intro pg en sg mg below meth cg ls S hr hlk hX G hl
  have S : CallFix pg mg cg cX8_leg 4 sg _ wsX8_leg RX8 := S
  have hl : lv_has ls 4 [(0, .ref (E.2.2.2 0)), (1, .int (0 : Int32)), (2, .int (6 : Int32))] := hl
  refine lv_iload_n S.1 S.2.1 dX8_leg_0 rfl (lv_at hl 1 rfl) ?_
  refine s_callS (As := [.int (0 : Int32)]) (rest := []) S hX G (k_X8_isLeg l E (0 : Int32)) (va_cwS (bytes := cX8_isLeg) (maxL := 1) (ret := (some .boolean)) 1 S.2.2.2.2 gX8_leg_X8_isLeg rfl rfl rfl (by decide +kernel) ⟨Nat.le_of_ble_eq_true rfl, Nat.le_of_ble_eq_true rfl⟩) rfl hl.1 rfl (Nat.le_of_ble_eq_true rfl) ⟨Nat.zero_le _, Nat.zero_le _⟩ dX8_leg_1 (fun v I1 L1 H locs hR G => ?_)
  obtain ⟨hv, hI, hL⟩ := hR
  subst hv
  have G : GS E I L sg H locs := G.same hI hL
  refine W.eq (g2 := F0 mg 4 ls [.int (if ¬ (0 : Int32) < (0 : Int32) ∧ ¬ (3 : Int32) < (0 : Int32) then 1 else 0)]) rfl ?_
  refine s_if_ne_b (P := ¬ (0 : Int32) < (0 : Int32) ∧ ¬ (3 : Int32) < (0 : Int32)) (tgt := 10) S dX8_leg_4 (by decide) (fun _ => ?_) (fun h => absurd (by decide) h)
  refine lv_aload_n S.1 S.2.1 dX8_leg_10 rfl (lv_at hl 0 rfl) ?_
  refine s_get S hX G (i := 0) (kd := 8) (a := (I 0)) (v := .ref (E.2.2.2 1)) (C := RX8) (T := TX8) (N := 4) 0 (rfl : sh 0 = 8) rfl rfl rfl (by decide) rfl (fun _ h => (List.mem_cons_of_mem _ (List.mem_append_left _ (List.mem_append_left _ (List.mem_append_left _ (List.mem_append_left _ (List.mem_append_right _ h))))))) (by decide) (List.mem_of_getElem? (i := 2) rfl) (fun _ h => h) dX8_leg_11 ?_
  refine lv_iload_n S.1 S.2.1 dX8_leg_14 rfl (lv_at hl 1 rfl) ?_
  refine s_callV (C := RX0) (As := [.int (0 : Int32)]) (rest := []) (i := 1) (kd := 0) S hX G (k_X0_legAt_0 l E 1 (by unfold IsB; decide)) (cwV (bytes := cX0_legAt) (maxL := 3) (ret := (some (.object "BridgeLegs$Leg"))) 1 S.2.2.2.2 gX8_leg_X0_legAt rfl rfl rfl (by decide +kernel) ⟨Nat.le_of_ble_eq_true rfl, Nat.le_of_ble_eq_true rfl⟩) (rfl : sh 1 = 0) rfl rfl rfl (by decide) rfl hl.1 rfl (Nat.le_of_ble_eq_true rfl) ⟨Nat.zero_le _, Nat.zero_le _⟩ dX8_leg_15 (fun v I1 L1 H locs hR G => ?_)
  obtain ⟨hv, hI, hL⟩ := hR
  subst hv
  have G : GS E I L sg H locs := G.same hI hL
  refine W.eq (g2 := F0 mg 18 ls [.ref (E.2.2.2 3)]) rfl ?_
  refine lv_astore_n (lv' := [(3, .ref (E.2.2.2 3)), (0, .ref (E.2.2.2 0)), (1, .int (0 : Int32)), (2, .int (6 : Int32))]) S.1 S.2.1 dX8_leg_18 rfl hl (by decide) rfl (fun ls hl => ?_)
  refine lv_iload_n S.1 S.2.1 dX8_leg_19 rfl (lv_at hl 3 rfl) ?_
  refine lv_tableIn (off := 82) (tgt := 102) S.1 S.2.1 dX8_leg_20 (by decide) (by decide) (by decide) (by decide) ?_
  refine lv_aload_n S.1 S.2.1 dX8_leg_102 rfl (lv_at hl 0 rfl) ?_
  refine s_getN S hX G (i := 3) (kd := 4) (a := p) (v := .int (p 5)) (C := RX4) (T := TX4) (N := 7) 5 (rfl : sh 3 = 4) e_p rfl rfl (by decide) rfl (fun _ h => (List.mem_cons_of_mem _ (List.mem_append_left _ (List.mem_append_left _ (List.mem_append_left _ (List.mem_append_right _ h)))))) (by decide) (List.mem_of_getElem? (i := 9) rfl) (fun _ h => h) dX8_leg_103 ?_
  refine s_iret (x := (p 5)) S G hr hlk dX8_leg_106 ?_
  exact ⟨rfl, rfl, rfl⟩
set_option maxHeartbeats 4000000 in
set_option maxRecDepth 100000 in
theorem k_X8_leg_0_7 (l : Launch) (E : Ev) {I : SI} {L : SL} (p : Nat → Int32) (e_p : I (3) = p) : CS l yX8_leg wsX8_leg ({ frames := 2, cells := 0, slots := 0, locals := 43 }) E [.ref (E.2.2.2 0), .int (0 : Int32), .int (7 : Int32)] I L (fun vv I' L' => vv = some (.int (p 6)) ∧ I' = I ∧ L' = L) := by
  refine CS.of (cc := cX8_leg) (maxL := 4) (ret := (some .int)) (by decide) rfl (Nat.le_of_ble_eq_true rfl) ?_
  intro pg en sg mg below meth cg ls S hr hlk hX G hl
  have S : CallFix pg mg cg cX8_leg 4 sg _ wsX8_leg RX8 := S
  have hl : lv_has ls 4 [(0, .ref (E.2.2.2 0)), (1, .int (0 : Int32)), (2, .int (7 : Int32))] := hl
  refine lv_iload_n S.1 S.2.1 dX8_leg_0 rfl (lv_at hl 1 rfl) ?_
  refine s_callS (As := [.int (0 : Int32)]) (rest := []) S hX G (k_X8_isLeg l E (0 : Int32)) (va_cwS (bytes := cX8_isLeg) (maxL := 1) (ret := (some .boolean)) 1 S.2.2.2.2 gX8_leg_X8_isLeg rfl rfl rfl (by decide +kernel) ⟨Nat.le_of_ble_eq_true rfl, Nat.le_of_ble_eq_true rfl⟩) rfl hl.1 rfl (Nat.le_of_ble_eq_true rfl) ⟨Nat.zero_le _, Nat.zero_le _⟩ dX8_leg_1 (fun v I1 L1 H locs hR G => ?_)
  obtain ⟨hv, hI, hL⟩ := hR
  subst hv
  have G : GS E I L sg H locs := G.same hI hL
  refine W.eq (g2 := F0 mg 4 ls [.int (if ¬ (0 : Int32) < (0 : Int32) ∧ ¬ (3 : Int32) < (0 : Int32) then 1 else 0)]) rfl ?_
  refine s_if_ne_b (P := ¬ (0 : Int32) < (0 : Int32) ∧ ¬ (3 : Int32) < (0 : Int32)) (tgt := 10) S dX8_leg_4 (by decide) (fun _ => ?_) (fun h => absurd (by decide) h)
  refine lv_aload_n S.1 S.2.1 dX8_leg_10 rfl (lv_at hl 0 rfl) ?_
  refine s_get S hX G (i := 0) (kd := 8) (a := (I 0)) (v := .ref (E.2.2.2 1)) (C := RX8) (T := TX8) (N := 4) 0 (rfl : sh 0 = 8) rfl rfl rfl (by decide) rfl (fun _ h => (List.mem_cons_of_mem _ (List.mem_append_left _ (List.mem_append_left _ (List.mem_append_left _ (List.mem_append_left _ (List.mem_append_right _ h))))))) (by decide) (List.mem_of_getElem? (i := 2) rfl) (fun _ h => h) dX8_leg_11 ?_
  refine lv_iload_n S.1 S.2.1 dX8_leg_14 rfl (lv_at hl 1 rfl) ?_
  refine s_callV (C := RX0) (As := [.int (0 : Int32)]) (rest := []) (i := 1) (kd := 0) S hX G (k_X0_legAt_0 l E 1 (by unfold IsB; decide)) (cwV (bytes := cX0_legAt) (maxL := 3) (ret := (some (.object "BridgeLegs$Leg"))) 1 S.2.2.2.2 gX8_leg_X0_legAt rfl rfl rfl (by decide +kernel) ⟨Nat.le_of_ble_eq_true rfl, Nat.le_of_ble_eq_true rfl⟩) (rfl : sh 1 = 0) rfl rfl rfl (by decide) rfl hl.1 rfl (Nat.le_of_ble_eq_true rfl) ⟨Nat.zero_le _, Nat.zero_le _⟩ dX8_leg_15 (fun v I1 L1 H locs hR G => ?_)
  obtain ⟨hv, hI, hL⟩ := hR
  subst hv
  have G : GS E I L sg H locs := G.same hI hL
  refine W.eq (g2 := F0 mg 18 ls [.ref (E.2.2.2 3)]) rfl ?_
  refine lv_astore_n (lv' := [(3, .ref (E.2.2.2 3)), (0, .ref (E.2.2.2 0)), (1, .int (0 : Int32)), (2, .int (7 : Int32))]) S.1 S.2.1 dX8_leg_18 rfl hl (by decide) rfl (fun ls hl => ?_)
  refine lv_iload_n S.1 S.2.1 dX8_leg_19 rfl (lv_at hl 3 rfl) ?_
  refine lv_tableIn (off := 87) (tgt := 107) S.1 S.2.1 dX8_leg_20 (by decide) (by decide) (by decide) (by decide) ?_
  refine lv_aload_n S.1 S.2.1 dX8_leg_107 rfl (lv_at hl 0 rfl) ?_
  refine s_getN S hX G (i := 3) (kd := 4) (a := p) (v := .int (p 6)) (C := RX4) (T := TX4) (N := 7) 6 (rfl : sh 3 = 4) e_p rfl rfl (by decide) rfl (fun _ h => (List.mem_cons_of_mem _ (List.mem_append_left _ (List.mem_append_left _ (List.mem_append_left _ (List.mem_append_right _ h)))))) (by decide) (List.mem_of_getElem? (i := 10) rfl) (fun _ h => h) dX8_leg_108 ?_
  refine s_iret (x := (p 6)) S G hr hlk dX8_leg_111 ?_
  exact ⟨rfl, rfl, rfl⟩
set_option maxHeartbeats 4000000 in
set_option maxRecDepth 100000 in
theorem k_X8_leg_1_0 (l : Launch) (E : Ev) {I : SI} {L : SL} (p : Nat → Int32) (e_p : I (4) = p) : CS l yX8_leg wsX8_leg ({ frames := 2, cells := 0, slots := 0, locals := 43 }) E [.ref (E.2.2.2 0), .int (1 : Int32), .int (0 : Int32)] I L (fun vv I' L' => vv = some (.int (p 0)) ∧ I' = I ∧ L' = L) := by
  refine CS.of (cc := cX8_leg) (maxL := 4) (ret := (some .int)) (by decide) rfl (Nat.le_of_ble_eq_true rfl) ?_
  intro pg en sg mg below meth cg ls S hr hlk hX G hl
  have S : CallFix pg mg cg cX8_leg 4 sg _ wsX8_leg RX8 := S
  have hl : lv_has ls 4 [(0, .ref (E.2.2.2 0)), (1, .int (1 : Int32)), (2, .int (0 : Int32))] := hl
  refine lv_iload_n S.1 S.2.1 dX8_leg_0 rfl (lv_at hl 1 rfl) ?_
  refine s_callS (As := [.int (1 : Int32)]) (rest := []) S hX G (k_X8_isLeg l E (1 : Int32)) (va_cwS (bytes := cX8_isLeg) (maxL := 1) (ret := (some .boolean)) 1 S.2.2.2.2 gX8_leg_X8_isLeg rfl rfl rfl (by decide +kernel) ⟨Nat.le_of_ble_eq_true rfl, Nat.le_of_ble_eq_true rfl⟩) rfl hl.1 rfl (Nat.le_of_ble_eq_true rfl) ⟨Nat.zero_le _, Nat.zero_le _⟩ dX8_leg_1 (fun v I1 L1 H locs hR G => ?_)
  obtain ⟨hv, hI, hL⟩ := hR
  subst hv
  have G : GS E I L sg H locs := G.same hI hL
  refine W.eq (g2 := F0 mg 4 ls [.int (if ¬ (1 : Int32) < (0 : Int32) ∧ ¬ (3 : Int32) < (1 : Int32) then 1 else 0)]) rfl ?_
  refine s_if_ne_b (P := ¬ (1 : Int32) < (0 : Int32) ∧ ¬ (3 : Int32) < (1 : Int32)) (tgt := 10) S dX8_leg_4 (by decide) (fun _ => ?_) (fun h => absurd (by decide) h)
  refine lv_aload_n S.1 S.2.1 dX8_leg_10 rfl (lv_at hl 0 rfl) ?_
  refine s_get S hX G (i := 0) (kd := 8) (a := (I 0)) (v := .ref (E.2.2.2 1)) (C := RX8) (T := TX8) (N := 4) 0 (rfl : sh 0 = 8) rfl rfl rfl (by decide) rfl (fun _ h => (List.mem_cons_of_mem _ (List.mem_append_left _ (List.mem_append_left _ (List.mem_append_left _ (List.mem_append_left _ (List.mem_append_right _ h))))))) (by decide) (List.mem_of_getElem? (i := 2) rfl) (fun _ h => h) dX8_leg_11 ?_
  refine lv_iload_n S.1 S.2.1 dX8_leg_14 rfl (lv_at hl 1 rfl) ?_
  refine s_callV (C := RX0) (As := [.int (1 : Int32)]) (rest := []) (i := 1) (kd := 0) S hX G (k_X0_legAt_1 l E 1 (by unfold IsB; decide)) (cwV (bytes := cX0_legAt) (maxL := 3) (ret := (some (.object "BridgeLegs$Leg"))) 1 S.2.2.2.2 gX8_leg_X0_legAt rfl rfl rfl (by decide +kernel) ⟨Nat.le_of_ble_eq_true rfl, Nat.le_of_ble_eq_true rfl⟩) (rfl : sh 1 = 0) rfl rfl rfl (by decide) rfl hl.1 rfl (Nat.le_of_ble_eq_true rfl) ⟨Nat.zero_le _, Nat.zero_le _⟩ dX8_leg_15 (fun v I1 L1 H locs hR G => ?_)
  obtain ⟨hv, hI, hL⟩ := hR
  subst hv
  have G : GS E I L sg H locs := G.same hI hL
  refine W.eq (g2 := F0 mg 18 ls [.ref (E.2.2.2 4)]) rfl ?_
  refine lv_astore_n (lv' := [(3, .ref (E.2.2.2 4)), (0, .ref (E.2.2.2 0)), (1, .int (1 : Int32)), (2, .int (0 : Int32))]) S.1 S.2.1 dX8_leg_18 rfl hl (by decide) rfl (fun ls hl => ?_)
  refine lv_iload_n S.1 S.2.1 dX8_leg_19 rfl (lv_at hl 3 rfl) ?_
  refine lv_tableIn (off := 48) (tgt := 68) S.1 S.2.1 dX8_leg_20 (by decide) (by decide) (by decide) (by decide) ?_
  refine lv_aload_n S.1 S.2.1 dX8_leg_68 rfl (lv_at hl 0 rfl) ?_
  refine s_getN S hX G (i := 4) (kd := 4) (a := p) (v := .int (p 0)) (C := RX4) (T := TX4) (N := 7) 0 (rfl : sh 4 = 4) e_p rfl rfl (by decide) rfl (fun _ h => (List.mem_cons_of_mem _ (List.mem_append_left _ (List.mem_append_left _ (List.mem_append_left _ (List.mem_append_right _ h)))))) (by decide) (List.mem_of_getElem? (i := 0) rfl) (fun _ h => h) dX8_leg_69 ?_
  refine s_iret (x := (p 0)) S G hr hlk dX8_leg_72 ?_
  exact ⟨rfl, rfl, rfl⟩
set_option maxHeartbeats 4000000 in
set_option maxRecDepth 100000 in
theorem k_X8_leg_1_1 (l : Launch) (E : Ev) {I : SI} {L : SL} (p : Nat → Int32) (e_p : I (4) = p) : CS l yX8_leg wsX8_leg ({ frames := 2, cells := 0, slots := 0, locals := 43 }) E [.ref (E.2.2.2 0), .int (1 : Int32), .int (1 : Int32)] I L (fun vv I' L' => vv = some (.int (p 1)) ∧ I' = I ∧ L' = L) := by
  refine CS.of (cc := cX8_leg) (maxL := 4) (ret := (some .int)) (by decide) rfl (Nat.le_of_ble_eq_true rfl) ?_
  intro pg en sg mg below meth cg ls S hr hlk hX G hl
  have S : CallFix pg mg cg cX8_leg 4 sg _ wsX8_leg RX8 := S
  have hl : lv_has ls 4 [(0, .ref (E.2.2.2 0)), (1, .int (1 : Int32)), (2, .int (1 : Int32))] := hl
  refine lv_iload_n S.1 S.2.1 dX8_leg_0 rfl (lv_at hl 1 rfl) ?_
  refine s_callS (As := [.int (1 : Int32)]) (rest := []) S hX G (k_X8_isLeg l E (1 : Int32)) (va_cwS (bytes := cX8_isLeg) (maxL := 1) (ret := (some .boolean)) 1 S.2.2.2.2 gX8_leg_X8_isLeg rfl rfl rfl (by decide +kernel) ⟨Nat.le_of_ble_eq_true rfl, Nat.le_of_ble_eq_true rfl⟩) rfl hl.1 rfl (Nat.le_of_ble_eq_true rfl) ⟨Nat.zero_le _, Nat.zero_le _⟩ dX8_leg_1 (fun v I1 L1 H locs hR G => ?_)
  obtain ⟨hv, hI, hL⟩ := hR
  subst hv
  have G : GS E I L sg H locs := G.same hI hL
  refine W.eq (g2 := F0 mg 4 ls [.int (if ¬ (1 : Int32) < (0 : Int32) ∧ ¬ (3 : Int32) < (1 : Int32) then 1 else 0)]) rfl ?_
  refine s_if_ne_b (P := ¬ (1 : Int32) < (0 : Int32) ∧ ¬ (3 : Int32) < (1 : Int32)) (tgt := 10) S dX8_leg_4 (by decide) (fun _ => ?_) (fun h => absurd (by decide) h)
  refine lv_aload_n S.1 S.2.1 dX8_leg_10 rfl (lv_at hl 0 rfl) ?_
  refine s_get S hX G (i := 0) (kd := 8) (a := (I 0)) (v := .ref (E.2.2.2 1)) (C := RX8) (T := TX8) (N := 4) 0 (rfl : sh 0 = 8) rfl rfl rfl (by decide) rfl (fun _ h => (List.mem_cons_of_mem _ (List.mem_append_left _ (List.mem_append_left _ (List.mem_append_left _ (List.mem_append_left _ (List.mem_append_right _ h))))))) (by decide) (List.mem_of_getElem? (i := 2) rfl) (fun _ h => h) dX8_leg_11 ?_
  refine lv_iload_n S.1 S.2.1 dX8_leg_14 rfl (lv_at hl 1 rfl) ?_
  refine s_callV (C := RX0) (As := [.int (1 : Int32)]) (rest := []) (i := 1) (kd := 0) S hX G (k_X0_legAt_1 l E 1 (by unfold IsB; decide)) (cwV (bytes := cX0_legAt) (maxL := 3) (ret := (some (.object "BridgeLegs$Leg"))) 1 S.2.2.2.2 gX8_leg_X0_legAt rfl rfl rfl (by decide +kernel) ⟨Nat.le_of_ble_eq_true rfl, Nat.le_of_ble_eq_true rfl⟩) (rfl : sh 1 = 0) rfl rfl rfl (by decide) rfl hl.1 rfl (Nat.le_of_ble_eq_true rfl) ⟨Nat.zero_le _, Nat.zero_le _⟩ dX8_leg_15 (fun v I1 L1 H locs hR G => ?_)
  obtain ⟨hv, hI, hL⟩ := hR
  subst hv
  have G : GS E I L sg H locs := G.same hI hL
  refine W.eq (g2 := F0 mg 18 ls [.ref (E.2.2.2 4)]) rfl ?_
  refine lv_astore_n (lv' := [(3, .ref (E.2.2.2 4)), (0, .ref (E.2.2.2 0)), (1, .int (1 : Int32)), (2, .int (1 : Int32))]) S.1 S.2.1 dX8_leg_18 rfl hl (by decide) rfl (fun ls hl => ?_)
  refine lv_iload_n S.1 S.2.1 dX8_leg_19 rfl (lv_at hl 3 rfl) ?_
  refine lv_tableIn (off := 53) (tgt := 73) S.1 S.2.1 dX8_leg_20 (by decide) (by decide) (by decide) (by decide) ?_
  refine lv_aload_n S.1 S.2.1 dX8_leg_73 rfl (lv_at hl 0 rfl) ?_
  refine s_getN S hX G (i := 4) (kd := 4) (a := p) (v := .int (p 1)) (C := RX4) (T := TX4) (N := 7) 1 (rfl : sh 4 = 4) e_p rfl rfl (by decide) rfl (fun _ h => (List.mem_cons_of_mem _ (List.mem_append_left _ (List.mem_append_left _ (List.mem_append_left _ (List.mem_append_right _ h)))))) (by decide) (List.mem_of_getElem? (i := 3) rfl) (fun _ h => h) dX8_leg_74 ?_
  refine s_iret (x := (p 1)) S G hr hlk dX8_leg_77 ?_
  exact ⟨rfl, rfl, rfl⟩
set_option maxHeartbeats 4000000 in
set_option maxRecDepth 100000 in
theorem k_X8_leg_1_2 (l : Launch) (E : Ev) {I : SI} {L : SL} (b : Nat → Int32) (p : Nat → Int32) (q : Nat → Int32) (n : Nat → Int32) (e_b : I (2) = b) (e_p : I (3) = p) (e_q : I (4) = q) (e_n : I (7) = n) : CS l yX8_leg wsX8_leg ({ frames := 2, cells := 0, slots := 0, locals := 43 }) E [.ref (E.2.2.2 0), .int (1 : Int32), .int (2 : Int32)] I L (fun vv I' L' => vv = some (.int (sWishF q n)) ∧ I' = I ∧ L' = L) := by
  refine CS.of (cc := cX8_leg) (maxL := 4) (ret := (some .int)) (by decide) rfl (Nat.le_of_ble_eq_true rfl) ?_
  intro pg en sg mg below meth cg ls S hr hlk hX G hl
  have S : CallFix pg mg cg cX8_leg 4 sg _ wsX8_leg RX8 := S
  have hl : lv_has ls 4 [(0, .ref (E.2.2.2 0)), (1, .int (1 : Int32)), (2, .int (2 : Int32))] := hl
  refine lv_iload_n S.1 S.2.1 dX8_leg_0 rfl (lv_at hl 1 rfl) ?_
  refine s_callS (As := [.int (1 : Int32)]) (rest := []) S hX G (k_X8_isLeg l E (1 : Int32)) (va_cwS (bytes := cX8_isLeg) (maxL := 1) (ret := (some .boolean)) 1 S.2.2.2.2 gX8_leg_X8_isLeg rfl rfl rfl (by decide +kernel) ⟨Nat.le_of_ble_eq_true rfl, Nat.le_of_ble_eq_true rfl⟩) rfl hl.1 rfl (Nat.le_of_ble_eq_true rfl) ⟨Nat.zero_le _, Nat.zero_le _⟩ dX8_leg_1 (fun v I1 L1 H locs hR G => ?_)
  obtain ⟨hv, hI, hL⟩ := hR
  subst hv
  have G : GS E I L sg H locs := G.same hI hL
  refine W.eq (g2 := F0 mg 4 ls [.int (if ¬ (1 : Int32) < (0 : Int32) ∧ ¬ (3 : Int32) < (1 : Int32) then 1 else 0)]) rfl ?_
  refine s_if_ne_b (P := ¬ (1 : Int32) < (0 : Int32) ∧ ¬ (3 : Int32) < (1 : Int32)) (tgt := 10) S dX8_leg_4 (by decide) (fun _ => ?_) (fun h => absurd (by decide) h)
  refine lv_aload_n S.1 S.2.1 dX8_leg_10 rfl (lv_at hl 0 rfl) ?_
  refine s_get S hX G (i := 0) (kd := 8) (a := (I 0)) (v := .ref (E.2.2.2 1)) (C := RX8) (T := TX8) (N := 4) 0 (rfl : sh 0 = 8) rfl rfl rfl (by decide) rfl (fun _ h => (List.mem_cons_of_mem _ (List.mem_append_left _ (List.mem_append_left _ (List.mem_append_left _ (List.mem_append_left _ (List.mem_append_right _ h))))))) (by decide) (List.mem_of_getElem? (i := 2) rfl) (fun _ h => h) dX8_leg_11 ?_
  refine lv_iload_n S.1 S.2.1 dX8_leg_14 rfl (lv_at hl 1 rfl) ?_
  refine s_callV (C := RX0) (As := [.int (1 : Int32)]) (rest := []) (i := 1) (kd := 0) S hX G (k_X0_legAt_1 l E 1 (by unfold IsB; decide)) (cwV (bytes := cX0_legAt) (maxL := 3) (ret := (some (.object "BridgeLegs$Leg"))) 1 S.2.2.2.2 gX8_leg_X0_legAt rfl rfl rfl (by decide +kernel) ⟨Nat.le_of_ble_eq_true rfl, Nat.le_of_ble_eq_true rfl⟩) (rfl : sh 1 = 0) rfl rfl rfl (by decide) rfl hl.1 rfl (Nat.le_of_ble_eq_true rfl) ⟨Nat.zero_le _, Nat.zero_le _⟩ dX8_leg_15 (fun v I1 L1 H locs hR G => ?_)
  obtain ⟨hv, hI, hL⟩ := hR
  subst hv
  have G : GS E I L sg H locs := G.same hI hL
  refine W.eq (g2 := F0 mg 18 ls [.ref (E.2.2.2 4)]) rfl ?_
  refine lv_astore_n (lv' := [(3, .ref (E.2.2.2 4)), (0, .ref (E.2.2.2 0)), (1, .int (1 : Int32)), (2, .int (2 : Int32))]) S.1 S.2.1 dX8_leg_18 rfl hl (by decide) rfl (fun ls hl => ?_)
  refine lv_iload_n S.1 S.2.1 dX8_leg_19 rfl (lv_at hl 3 rfl) ?_
  refine lv_tableIn (off := 58) (tgt := 78) S.1 S.2.1 dX8_leg_20 (by decide) (by decide) (by decide) (by decide) ?_
  refine lv_aload_n S.1 S.2.1 dX8_leg_78 rfl (lv_at hl 1 rfl) ?_
  refine s_get S hX G (i := 0) (kd := 8) (a := (I 0)) (v := .ref (E.2.2.2 1)) (C := RX8) (T := TX8) (N := 4) 0 (rfl : sh 0 = 8) rfl rfl rfl (by decide) rfl (fun _ h => (List.mem_cons_of_mem _ (List.mem_append_left _ (List.mem_append_left _ (List.mem_append_left _ (List.mem_append_left _ (List.mem_append_right _ h))))))) (by decide) (List.mem_of_getElem? (i := 2) rfl) (fun _ h => h) dX8_leg_79 ?_
  refine lv_iload_n S.1 S.2.1 dX8_leg_82 rfl (lv_at hl 2 rfl) ?_
  refine s_callV (C := RX0) (As := [.int (1 : Int32)]) (rest := []) (i := 1) (kd := 0) S hX G (k_X0_wishOf_1 l E 1 b p q n (by unfold IsB; decide) e_b e_p e_q e_n) (cwV (bytes := cX0_wishOf) (maxL := 3) (ret := (some .int)) 1 S.2.2.2.2 gX8_leg_X0_wishOf rfl rfl rfl (by decide +kernel) ⟨Nat.le_of_ble_eq_true rfl, Nat.le_of_ble_eq_true rfl⟩) (rfl : sh 1 = 0) rfl rfl rfl (by decide) rfl hl.1 rfl (Nat.le_of_ble_eq_true rfl) ⟨Nat.zero_le _, Nat.zero_le _⟩ dX8_leg_83 (fun v I1 L1 H locs hR G => ?_)
  obtain ⟨hv, hI, hL⟩ := hR
  subst hv
  have G : GS E I L sg H locs := G.same hI hL
  refine W.eq (g2 := F0 mg 86 ls [.int (sWishF q n)]) rfl ?_
  refine lv_topi (fun y_1 ey_1 => ?_)
  refine s_iret (x := y_1) S G hr hlk dX8_leg_86 ?_
  exact ⟨(congrArg (fun q : Int32 => some (Value.int q)) (show y_1 = (sWishF q n) by subst ey_1; rfl)), rfl, rfl⟩
set_option maxHeartbeats 4000000 in
set_option maxRecDepth 100000 in
theorem k_X8_leg_1_3 (l : Launch) (E : Ev) {I : SI} {L : SL} (p : Nat → Int32) (e_p : I (4) = p) : CS l yX8_leg wsX8_leg ({ frames := 2, cells := 0, slots := 0, locals := 43 }) E [.ref (E.2.2.2 0), .int (1 : Int32), .int (3 : Int32)] I L (fun vv I' L' => vv = some (.int (p 2)) ∧ I' = I ∧ L' = L) := by
  refine CS.of (cc := cX8_leg) (maxL := 4) (ret := (some .int)) (by decide) rfl (Nat.le_of_ble_eq_true rfl) ?_
  intro pg en sg mg below meth cg ls S hr hlk hX G hl
  have S : CallFix pg mg cg cX8_leg 4 sg _ wsX8_leg RX8 := S
  have hl : lv_has ls 4 [(0, .ref (E.2.2.2 0)), (1, .int (1 : Int32)), (2, .int (3 : Int32))] := hl
  refine lv_iload_n S.1 S.2.1 dX8_leg_0 rfl (lv_at hl 1 rfl) ?_
  refine s_callS (As := [.int (1 : Int32)]) (rest := []) S hX G (k_X8_isLeg l E (1 : Int32)) (va_cwS (bytes := cX8_isLeg) (maxL := 1) (ret := (some .boolean)) 1 S.2.2.2.2 gX8_leg_X8_isLeg rfl rfl rfl (by decide +kernel) ⟨Nat.le_of_ble_eq_true rfl, Nat.le_of_ble_eq_true rfl⟩) rfl hl.1 rfl (Nat.le_of_ble_eq_true rfl) ⟨Nat.zero_le _, Nat.zero_le _⟩ dX8_leg_1 (fun v I1 L1 H locs hR G => ?_)
  obtain ⟨hv, hI, hL⟩ := hR
  subst hv
  have G : GS E I L sg H locs := G.same hI hL
  refine W.eq (g2 := F0 mg 4 ls [.int (if ¬ (1 : Int32) < (0 : Int32) ∧ ¬ (3 : Int32) < (1 : Int32) then 1 else 0)]) rfl ?_
  refine s_if_ne_b (P := ¬ (1 : Int32) < (0 : Int32) ∧ ¬ (3 : Int32) < (1 : Int32)) (tgt := 10) S dX8_leg_4 (by decide) (fun _ => ?_) (fun h => absurd (by decide) h)
  refine lv_aload_n S.1 S.2.1 dX8_leg_10 rfl (lv_at hl 0 rfl) ?_
  refine s_get S hX G (i := 0) (kd := 8) (a := (I 0)) (v := .ref (E.2.2.2 1)) (C := RX8) (T := TX8) (N := 4) 0 (rfl : sh 0 = 8) rfl rfl rfl (by decide) rfl (fun _ h => (List.mem_cons_of_mem _ (List.mem_append_left _ (List.mem_append_left _ (List.mem_append_left _ (List.mem_append_left _ (List.mem_append_right _ h))))))) (by decide) (List.mem_of_getElem? (i := 2) rfl) (fun _ h => h) dX8_leg_11 ?_
  refine lv_iload_n S.1 S.2.1 dX8_leg_14 rfl (lv_at hl 1 rfl) ?_
  refine s_callV (C := RX0) (As := [.int (1 : Int32)]) (rest := []) (i := 1) (kd := 0) S hX G (k_X0_legAt_1 l E 1 (by unfold IsB; decide)) (cwV (bytes := cX0_legAt) (maxL := 3) (ret := (some (.object "BridgeLegs$Leg"))) 1 S.2.2.2.2 gX8_leg_X0_legAt rfl rfl rfl (by decide +kernel) ⟨Nat.le_of_ble_eq_true rfl, Nat.le_of_ble_eq_true rfl⟩) (rfl : sh 1 = 0) rfl rfl rfl (by decide) rfl hl.1 rfl (Nat.le_of_ble_eq_true rfl) ⟨Nat.zero_le _, Nat.zero_le _⟩ dX8_leg_15 (fun v I1 L1 H locs hR G => ?_)
  obtain ⟨hv, hI, hL⟩ := hR
  subst hv
  have G : GS E I L sg H locs := G.same hI hL
  refine W.eq (g2 := F0 mg 18 ls [.ref (E.2.2.2 4)]) rfl ?_
  refine lv_astore_n (lv' := [(3, .ref (E.2.2.2 4)), (0, .ref (E.2.2.2 0)), (1, .int (1 : Int32)), (2, .int (3 : Int32))]) S.1 S.2.1 dX8_leg_18 rfl hl (by decide) rfl (fun ls hl => ?_)
  refine lv_iload_n S.1 S.2.1 dX8_leg_19 rfl (lv_at hl 3 rfl) ?_
  refine lv_tableIn (off := 67) (tgt := 87) S.1 S.2.1 dX8_leg_20 (by decide) (by decide) (by decide) (by decide) ?_
  refine lv_aload_n S.1 S.2.1 dX8_leg_87 rfl (lv_at hl 0 rfl) ?_
  refine s_getN S hX G (i := 4) (kd := 4) (a := p) (v := .int (p 2)) (C := RX4) (T := TX4) (N := 7) 2 (rfl : sh 4 = 4) e_p rfl rfl (by decide) rfl (fun _ h => (List.mem_cons_of_mem _ (List.mem_append_left _ (List.mem_append_left _ (List.mem_append_left _ (List.mem_append_right _ h)))))) (by decide) (List.mem_of_getElem? (i := 5) rfl) (fun _ h => h) dX8_leg_88 ?_
  refine s_iret (x := (p 2)) S G hr hlk dX8_leg_91 ?_
  exact ⟨rfl, rfl, rfl⟩
set_option maxHeartbeats 4000000 in
set_option maxRecDepth 100000 in
theorem k_X8_leg_1_4 (l : Launch) (E : Ev) {I : SI} {L : SL} (p : Nat → Int32) (e_p : I (4) = p) : CS l yX8_leg wsX8_leg ({ frames := 2, cells := 0, slots := 0, locals := 43 }) E [.ref (E.2.2.2 0), .int (1 : Int32), .int (4 : Int32)] I L (fun vv I' L' => vv = some (.int (p 3)) ∧ I' = I ∧ L' = L) := by
  refine CS.of (cc := cX8_leg) (maxL := 4) (ret := (some .int)) (by decide) rfl (Nat.le_of_ble_eq_true rfl) ?_
  intro pg en sg mg below meth cg ls S hr hlk hX G hl
  have S : CallFix pg mg cg cX8_leg 4 sg _ wsX8_leg RX8 := S
  have hl : lv_has ls 4 [(0, .ref (E.2.2.2 0)), (1, .int (1 : Int32)), (2, .int (4 : Int32))] := hl
  refine lv_iload_n S.1 S.2.1 dX8_leg_0 rfl (lv_at hl 1 rfl) ?_
  refine s_callS (As := [.int (1 : Int32)]) (rest := []) S hX G (k_X8_isLeg l E (1 : Int32)) (va_cwS (bytes := cX8_isLeg) (maxL := 1) (ret := (some .boolean)) 1 S.2.2.2.2 gX8_leg_X8_isLeg rfl rfl rfl (by decide +kernel) ⟨Nat.le_of_ble_eq_true rfl, Nat.le_of_ble_eq_true rfl⟩) rfl hl.1 rfl (Nat.le_of_ble_eq_true rfl) ⟨Nat.zero_le _, Nat.zero_le _⟩ dX8_leg_1 (fun v I1 L1 H locs hR G => ?_)
  obtain ⟨hv, hI, hL⟩ := hR
  subst hv
  have G : GS E I L sg H locs := G.same hI hL
  refine W.eq (g2 := F0 mg 4 ls [.int (if ¬ (1 : Int32) < (0 : Int32) ∧ ¬ (3 : Int32) < (1 : Int32) then 1 else 0)]) rfl ?_
  refine s_if_ne_b (P := ¬ (1 : Int32) < (0 : Int32) ∧ ¬ (3 : Int32) < (1 : Int32)) (tgt := 10) S dX8_leg_4 (by decide) (fun _ => ?_) (fun h => absurd (by decide) h)
  refine lv_aload_n S.1 S.2.1 dX8_leg_10 rfl (lv_at hl 0 rfl) ?_
  refine s_get S hX G (i := 0) (kd := 8) (a := (I 0)) (v := .ref (E.2.2.2 1)) (C := RX8) (T := TX8) (N := 4) 0 (rfl : sh 0 = 8) rfl rfl rfl (by decide) rfl (fun _ h => (List.mem_cons_of_mem _ (List.mem_append_left _ (List.mem_append_left _ (List.mem_append_left _ (List.mem_append_left _ (List.mem_append_right _ h))))))) (by decide) (List.mem_of_getElem? (i := 2) rfl) (fun _ h => h) dX8_leg_11 ?_
  refine lv_iload_n S.1 S.2.1 dX8_leg_14 rfl (lv_at hl 1 rfl) ?_
  refine s_callV (C := RX0) (As := [.int (1 : Int32)]) (rest := []) (i := 1) (kd := 0) S hX G (k_X0_legAt_1 l E 1 (by unfold IsB; decide)) (cwV (bytes := cX0_legAt) (maxL := 3) (ret := (some (.object "BridgeLegs$Leg"))) 1 S.2.2.2.2 gX8_leg_X0_legAt rfl rfl rfl (by decide +kernel) ⟨Nat.le_of_ble_eq_true rfl, Nat.le_of_ble_eq_true rfl⟩) (rfl : sh 1 = 0) rfl rfl rfl (by decide) rfl hl.1 rfl (Nat.le_of_ble_eq_true rfl) ⟨Nat.zero_le _, Nat.zero_le _⟩ dX8_leg_15 (fun v I1 L1 H locs hR G => ?_)
  obtain ⟨hv, hI, hL⟩ := hR
  subst hv
  have G : GS E I L sg H locs := G.same hI hL
  refine W.eq (g2 := F0 mg 18 ls [.ref (E.2.2.2 4)]) rfl ?_
  refine lv_astore_n (lv' := [(3, .ref (E.2.2.2 4)), (0, .ref (E.2.2.2 0)), (1, .int (1 : Int32)), (2, .int (4 : Int32))]) S.1 S.2.1 dX8_leg_18 rfl hl (by decide) rfl (fun ls hl => ?_)
  refine lv_iload_n S.1 S.2.1 dX8_leg_19 rfl (lv_at hl 3 rfl) ?_
  refine lv_tableIn (off := 72) (tgt := 92) S.1 S.2.1 dX8_leg_20 (by decide) (by decide) (by decide) (by decide) ?_
  refine lv_aload_n S.1 S.2.1 dX8_leg_92 rfl (lv_at hl 0 rfl) ?_
  refine s_getN S hX G (i := 4) (kd := 4) (a := p) (v := .int (p 3)) (C := RX4) (T := TX4) (N := 7) 3 (rfl : sh 4 = 4) e_p rfl rfl (by decide) rfl (fun _ h => (List.mem_cons_of_mem _ (List.mem_append_left _ (List.mem_append_left _ (List.mem_append_left _ (List.mem_append_right _ h)))))) (by decide) (List.mem_of_getElem? (i := 7) rfl) (fun _ h => h) dX8_leg_93 ?_
  refine s_iret (x := (p 3)) S G hr hlk dX8_leg_96 ?_
  exact ⟨rfl, rfl, rfl⟩
set_option maxHeartbeats 4000000 in
set_option maxRecDepth 100000 in
theorem k_X8_leg_1_5 (l : Launch) (E : Ev) {I : SI} {L : SL} (p : Nat → Int32) (e_p : I (4) = p) : CS l yX8_leg wsX8_leg ({ frames := 2, cells := 0, slots := 0, locals := 43 }) E [.ref (E.2.2.2 0), .int (1 : Int32), .int (5 : Int32)] I L (fun vv I' L' => vv = some (.int (p 4)) ∧ I' = I ∧ L' = L) := by
  refine CS.of (cc := cX8_leg) (maxL := 4) (ret := (some .int)) (by decide) rfl (Nat.le_of_ble_eq_true rfl) ?_
  intro pg en sg mg below meth cg ls S hr hlk hX G hl
  have S : CallFix pg mg cg cX8_leg 4 sg _ wsX8_leg RX8 := S
  have hl : lv_has ls 4 [(0, .ref (E.2.2.2 0)), (1, .int (1 : Int32)), (2, .int (5 : Int32))] := hl
  refine lv_iload_n S.1 S.2.1 dX8_leg_0 rfl (lv_at hl 1 rfl) ?_
  refine s_callS (As := [.int (1 : Int32)]) (rest := []) S hX G (k_X8_isLeg l E (1 : Int32)) (va_cwS (bytes := cX8_isLeg) (maxL := 1) (ret := (some .boolean)) 1 S.2.2.2.2 gX8_leg_X8_isLeg rfl rfl rfl (by decide +kernel) ⟨Nat.le_of_ble_eq_true rfl, Nat.le_of_ble_eq_true rfl⟩) rfl hl.1 rfl (Nat.le_of_ble_eq_true rfl) ⟨Nat.zero_le _, Nat.zero_le _⟩ dX8_leg_1 (fun v I1 L1 H locs hR G => ?_)
  obtain ⟨hv, hI, hL⟩ := hR
  subst hv
  have G : GS E I L sg H locs := G.same hI hL
  refine W.eq (g2 := F0 mg 4 ls [.int (if ¬ (1 : Int32) < (0 : Int32) ∧ ¬ (3 : Int32) < (1 : Int32) then 1 else 0)]) rfl ?_
  refine s_if_ne_b (P := ¬ (1 : Int32) < (0 : Int32) ∧ ¬ (3 : Int32) < (1 : Int32)) (tgt := 10) S dX8_leg_4 (by decide) (fun _ => ?_) (fun h => absurd (by decide) h)
  refine lv_aload_n S.1 S.2.1 dX8_leg_10 rfl (lv_at hl 0 rfl) ?_
  refine s_get S hX G (i := 0) (kd := 8) (a := (I 0)) (v := .ref (E.2.2.2 1)) (C := RX8) (T := TX8) (N := 4) 0 (rfl : sh 0 = 8) rfl rfl rfl (by decide) rfl (fun _ h => (List.mem_cons_of_mem _ (List.mem_append_left _ (List.mem_append_left _ (List.mem_append_left _ (List.mem_append_left _ (List.mem_append_right _ h))))))) (by decide) (List.mem_of_getElem? (i := 2) rfl) (fun _ h => h) dX8_leg_11 ?_
  refine lv_iload_n S.1 S.2.1 dX8_leg_14 rfl (lv_at hl 1 rfl) ?_
  refine s_callV (C := RX0) (As := [.int (1 : Int32)]) (rest := []) (i := 1) (kd := 0) S hX G (k_X0_legAt_1 l E 1 (by unfold IsB; decide)) (cwV (bytes := cX0_legAt) (maxL := 3) (ret := (some (.object "BridgeLegs$Leg"))) 1 S.2.2.2.2 gX8_leg_X0_legAt rfl rfl rfl (by decide +kernel) ⟨Nat.le_of_ble_eq_true rfl, Nat.le_of_ble_eq_true rfl⟩) (rfl : sh 1 = 0) rfl rfl rfl (by decide) rfl hl.1 rfl (Nat.le_of_ble_eq_true rfl) ⟨Nat.zero_le _, Nat.zero_le _⟩ dX8_leg_15 (fun v I1 L1 H locs hR G => ?_)
  obtain ⟨hv, hI, hL⟩ := hR
  subst hv
  have G : GS E I L sg H locs := G.same hI hL
  refine W.eq (g2 := F0 mg 18 ls [.ref (E.2.2.2 4)]) rfl ?_
  refine lv_astore_n (lv' := [(3, .ref (E.2.2.2 4)), (0, .ref (E.2.2.2 0)), (1, .int (1 : Int32)), (2, .int (5 : Int32))]) S.1 S.2.1 dX8_leg_18 rfl hl (by decide) rfl (fun ls hl => ?_)
  refine lv_iload_n S.1 S.2.1 dX8_leg_19 rfl (lv_at hl 3 rfl) ?_
  refine lv_tableIn (off := 77) (tgt := 97) S.1 S.2.1 dX8_leg_20 (by decide) (by decide) (by decide) (by decide) ?_
  refine lv_aload_n S.1 S.2.1 dX8_leg_97 rfl (lv_at hl 0 rfl) ?_
  refine s_getN S hX G (i := 4) (kd := 4) (a := p) (v := .int (p 4)) (C := RX4) (T := TX4) (N := 7) 4 (rfl : sh 4 = 4) e_p rfl rfl (by decide) rfl (fun _ h => (List.mem_cons_of_mem _ (List.mem_append_left _ (List.mem_append_left _ (List.mem_append_left _ (List.mem_append_right _ h)))))) (by decide) (List.mem_of_getElem? (i := 8) rfl) (fun _ h => h) dX8_leg_98 ?_
  refine s_iret (x := (p 4)) S G hr hlk dX8_leg_101 ?_
  exact ⟨rfl, rfl, rfl⟩
set_option maxHeartbeats 4000000 in
set_option maxRecDepth 100000 in
theorem k_X8_leg_1_6 (l : Launch) (E : Ev) {I : SI} {L : SL} (p : Nat → Int32) (e_p : I (4) = p) : CS l yX8_leg wsX8_leg ({ frames := 2, cells := 0, slots := 0, locals := 43 }) E [.ref (E.2.2.2 0), .int (1 : Int32), .int (6 : Int32)] I L (fun vv I' L' => vv = some (.int (p 5)) ∧ I' = I ∧ L' = L) := by
  refine CS.of (cc := cX8_leg) (maxL := 4) (ret := (some .int)) (by decide) rfl (Nat.le_of_ble_eq_true rfl) ?_
  intro pg en sg mg below meth cg ls S hr hlk hX G hl
  have S : CallFix pg mg cg cX8_leg 4 sg _ wsX8_leg RX8 := S
  have hl : lv_has ls 4 [(0, .ref (E.2.2.2 0)), (1, .int (1 : Int32)), (2, .int (6 : Int32))] := hl
  refine lv_iload_n S.1 S.2.1 dX8_leg_0 rfl (lv_at hl 1 rfl) ?_
  refine s_callS (As := [.int (1 : Int32)]) (rest := []) S hX G (k_X8_isLeg l E (1 : Int32)) (va_cwS (bytes := cX8_isLeg) (maxL := 1) (ret := (some .boolean)) 1 S.2.2.2.2 gX8_leg_X8_isLeg rfl rfl rfl (by decide +kernel) ⟨Nat.le_of_ble_eq_true rfl, Nat.le_of_ble_eq_true rfl⟩) rfl hl.1 rfl (Nat.le_of_ble_eq_true rfl) ⟨Nat.zero_le _, Nat.zero_le _⟩ dX8_leg_1 (fun v I1 L1 H locs hR G => ?_)
  obtain ⟨hv, hI, hL⟩ := hR
  subst hv
  have G : GS E I L sg H locs := G.same hI hL
  refine W.eq (g2 := F0 mg 4 ls [.int (if ¬ (1 : Int32) < (0 : Int32) ∧ ¬ (3 : Int32) < (1 : Int32) then 1 else 0)]) rfl ?_
  refine s_if_ne_b (P := ¬ (1 : Int32) < (0 : Int32) ∧ ¬ (3 : Int32) < (1 : Int32)) (tgt := 10) S dX8_leg_4 (by decide) (fun _ => ?_) (fun h => absurd (by decide) h)
  refine lv_aload_n S.1 S.2.1 dX8_leg_10 rfl (lv_at hl 0 rfl) ?_
  refine s_get S hX G (i := 0) (kd := 8) (a := (I 0)) (v := .ref (E.2.2.2 1)) (C := RX8) (T := TX8) (N := 4) 0 (rfl : sh 0 = 8) rfl rfl rfl (by decide) rfl (fun _ h => (List.mem_cons_of_mem _ (List.mem_append_left _ (List.mem_append_left _ (List.mem_append_left _ (List.mem_append_left _ (List.mem_append_right _ h))))))) (by decide) (List.mem_of_getElem? (i := 2) rfl) (fun _ h => h) dX8_leg_11 ?_
  refine lv_iload_n S.1 S.2.1 dX8_leg_14 rfl (lv_at hl 1 rfl) ?_
  refine s_callV (C := RX0) (As := [.int (1 : Int32)]) (rest := []) (i := 1) (kd := 0) S hX G (k_X0_legAt_1 l E 1 (by unfold IsB; decide)) (cwV (bytes := cX0_legAt) (maxL := 3) (ret := (some (.object "BridgeLegs$Leg"))) 1 S.2.2.2.2 gX8_leg_X0_legAt rfl rfl rfl (by decide +kernel) ⟨Nat.le_of_ble_eq_true rfl, Nat.le_of_ble_eq_true rfl⟩) (rfl : sh 1 = 0) rfl rfl rfl (by decide) rfl hl.1 rfl (Nat.le_of_ble_eq_true rfl) ⟨Nat.zero_le _, Nat.zero_le _⟩ dX8_leg_15 (fun v I1 L1 H locs hR G => ?_)
  obtain ⟨hv, hI, hL⟩ := hR
  subst hv
  have G : GS E I L sg H locs := G.same hI hL
  refine W.eq (g2 := F0 mg 18 ls [.ref (E.2.2.2 4)]) rfl ?_
  refine lv_astore_n (lv' := [(3, .ref (E.2.2.2 4)), (0, .ref (E.2.2.2 0)), (1, .int (1 : Int32)), (2, .int (6 : Int32))]) S.1 S.2.1 dX8_leg_18 rfl hl (by decide) rfl (fun ls hl => ?_)
  refine lv_iload_n S.1 S.2.1 dX8_leg_19 rfl (lv_at hl 3 rfl) ?_
  refine lv_tableIn (off := 82) (tgt := 102) S.1 S.2.1 dX8_leg_20 (by decide) (by decide) (by decide) (by decide) ?_
  refine lv_aload_n S.1 S.2.1 dX8_leg_102 rfl (lv_at hl 0 rfl) ?_
  refine s_getN S hX G (i := 4) (kd := 4) (a := p) (v := .int (p 5)) (C := RX4) (T := TX4) (N := 7) 5 (rfl : sh 4 = 4) e_p rfl rfl (by decide) rfl (fun _ h => (List.mem_cons_of_mem _ (List.mem_append_left _ (List.mem_append_left _ (List.mem_append_left _ (List.mem_append_right _ h)))))) (by decide) (List.mem_of_getElem? (i := 9) rfl) (fun _ h => h) dX8_leg_103 ?_
  refine s_iret (x := (p 5)) S G hr hlk dX8_leg_106 ?_
  exact ⟨rfl, rfl, rfl⟩
set_option maxHeartbeats 4000000 in
set_option maxRecDepth 100000 in
theorem k_X8_leg_1_7 (l : Launch) (E : Ev) {I : SI} {L : SL} (p : Nat → Int32) (e_p : I (4) = p) : CS l yX8_leg wsX8_leg ({ frames := 2, cells := 0, slots := 0, locals := 43 }) E [.ref (E.2.2.2 0), .int (1 : Int32), .int (7 : Int32)] I L (fun vv I' L' => vv = some (.int (p 6)) ∧ I' = I ∧ L' = L) := by
  refine CS.of (cc := cX8_leg) (maxL := 4) (ret := (some .int)) (by decide) rfl (Nat.le_of_ble_eq_true rfl) ?_
  intro pg en sg mg below meth cg ls S hr hlk hX G hl
  have S : CallFix pg mg cg cX8_leg 4 sg _ wsX8_leg RX8 := S
  have hl : lv_has ls 4 [(0, .ref (E.2.2.2 0)), (1, .int (1 : Int32)), (2, .int (7 : Int32))] := hl
  refine lv_iload_n S.1 S.2.1 dX8_leg_0 rfl (lv_at hl 1 rfl) ?_
  refine s_callS (As := [.int (1 : Int32)]) (rest := []) S hX G (k_X8_isLeg l E (1 : Int32)) (va_cwS (bytes := cX8_isLeg) (maxL := 1) (ret := (some .boolean)) 1 S.2.2.2.2 gX8_leg_X8_isLeg rfl rfl rfl (by decide +kernel) ⟨Nat.le_of_ble_eq_true rfl, Nat.le_of_ble_eq_true rfl⟩) rfl hl.1 rfl (Nat.le_of_ble_eq_true rfl) ⟨Nat.zero_le _, Nat.zero_le _⟩ dX8_leg_1 (fun v I1 L1 H locs hR G => ?_)
  obtain ⟨hv, hI, hL⟩ := hR
  subst hv
  have G : GS E I L sg H locs := G.same hI hL
  refine W.eq (g2 := F0 mg 4 ls [.int (if ¬ (1 : Int32) < (0 : Int32) ∧ ¬ (3 : Int32) < (1 : Int32) then 1 else 0)]) rfl ?_
  refine s_if_ne_b (P := ¬ (1 : Int32) < (0 : Int32) ∧ ¬ (3 : Int32) < (1 : Int32)) (tgt := 10) S dX8_leg_4 (by decide) (fun _ => ?_) (fun h => absurd (by decide) h)
  refine lv_aload_n S.1 S.2.1 dX8_leg_10 rfl (lv_at hl 0 rfl) ?_
  refine s_get S hX G (i := 0) (kd := 8) (a := (I 0)) (v := .ref (E.2.2.2 1)) (C := RX8) (T := TX8) (N := 4) 0 (rfl : sh 0 = 8) rfl rfl rfl (by decide) rfl (fun _ h => (List.mem_cons_of_mem _ (List.mem_append_left _ (List.mem_append_left _ (List.mem_append_left _ (List.mem_append_left _ (List.mem_append_right _ h))))))) (by decide) (List.mem_of_getElem? (i := 2) rfl) (fun _ h => h) dX8_leg_11 ?_
  refine lv_iload_n S.1 S.2.1 dX8_leg_14 rfl (lv_at hl 1 rfl) ?_
  refine s_callV (C := RX0) (As := [.int (1 : Int32)]) (rest := []) (i := 1) (kd := 0) S hX G (k_X0_legAt_1 l E 1 (by unfold IsB; decide)) (cwV (bytes := cX0_legAt) (maxL := 3) (ret := (some (.object "BridgeLegs$Leg"))) 1 S.2.2.2.2 gX8_leg_X0_legAt rfl rfl rfl (by decide +kernel) ⟨Nat.le_of_ble_eq_true rfl, Nat.le_of_ble_eq_true rfl⟩) (rfl : sh 1 = 0) rfl rfl rfl (by decide) rfl hl.1 rfl (Nat.le_of_ble_eq_true rfl) ⟨Nat.zero_le _, Nat.zero_le _⟩ dX8_leg_15 (fun v I1 L1 H locs hR G => ?_)
  obtain ⟨hv, hI, hL⟩ := hR
  subst hv
  have G : GS E I L sg H locs := G.same hI hL
  refine W.eq (g2 := F0 mg 18 ls [.ref (E.2.2.2 4)]) rfl ?_
  refine lv_astore_n (lv' := [(3, .ref (E.2.2.2 4)), (0, .ref (E.2.2.2 0)), (1, .int (1 : Int32)), (2, .int (7 : Int32))]) S.1 S.2.1 dX8_leg_18 rfl hl (by decide) rfl (fun ls hl => ?_)
  refine lv_iload_n S.1 S.2.1 dX8_leg_19 rfl (lv_at hl 3 rfl) ?_
  refine lv_tableIn (off := 87) (tgt := 107) S.1 S.2.1 dX8_leg_20 (by decide) (by decide) (by decide) (by decide) ?_
  refine lv_aload_n S.1 S.2.1 dX8_leg_107 rfl (lv_at hl 0 rfl) ?_
  refine s_getN S hX G (i := 4) (kd := 4) (a := p) (v := .int (p 6)) (C := RX4) (T := TX4) (N := 7) 6 (rfl : sh 4 = 4) e_p rfl rfl (by decide) rfl (fun _ h => (List.mem_cons_of_mem _ (List.mem_append_left _ (List.mem_append_left _ (List.mem_append_left _ (List.mem_append_right _ h)))))) (by decide) (List.mem_of_getElem? (i := 10) rfl) (fun _ h => h) dX8_leg_108 ?_
  refine s_iret (x := (p 6)) S G hr hlk dX8_leg_111 ?_
  exact ⟨rfl, rfl, rfl⟩
set_option maxHeartbeats 4000000 in
set_option maxRecDepth 100000 in
theorem k_X8_leg_2_0 (l : Launch) (E : Ev) {I : SI} {L : SL} (p : Nat → Int32) (e_p : I (12) = p) : CS l yX8_leg wsX8_leg ({ frames := 2, cells := 0, slots := 0, locals := 43 }) E [.ref (E.2.2.2 0), .int (2 : Int32), .int (0 : Int32)] I L (fun vv I' L' => vv = some (.int (p 0)) ∧ I' = I ∧ L' = L) := by
  refine CS.of (cc := cX8_leg) (maxL := 4) (ret := (some .int)) (by decide) rfl (Nat.le_of_ble_eq_true rfl) ?_
  intro pg en sg mg below meth cg ls S hr hlk hX G hl
  have S : CallFix pg mg cg cX8_leg 4 sg _ wsX8_leg RX8 := S
  have hl : lv_has ls 4 [(0, .ref (E.2.2.2 0)), (1, .int (2 : Int32)), (2, .int (0 : Int32))] := hl
  refine lv_iload_n S.1 S.2.1 dX8_leg_0 rfl (lv_at hl 1 rfl) ?_
  refine s_callS (As := [.int (2 : Int32)]) (rest := []) S hX G (k_X8_isLeg l E (2 : Int32)) (va_cwS (bytes := cX8_isLeg) (maxL := 1) (ret := (some .boolean)) 1 S.2.2.2.2 gX8_leg_X8_isLeg rfl rfl rfl (by decide +kernel) ⟨Nat.le_of_ble_eq_true rfl, Nat.le_of_ble_eq_true rfl⟩) rfl hl.1 rfl (Nat.le_of_ble_eq_true rfl) ⟨Nat.zero_le _, Nat.zero_le _⟩ dX8_leg_1 (fun v I1 L1 H locs hR G => ?_)
  obtain ⟨hv, hI, hL⟩ := hR
  subst hv
  have G : GS E I L sg H locs := G.same hI hL
  refine W.eq (g2 := F0 mg 4 ls [.int (if ¬ (2 : Int32) < (0 : Int32) ∧ ¬ (3 : Int32) < (2 : Int32) then 1 else 0)]) rfl ?_
  refine s_if_ne_b (P := ¬ (2 : Int32) < (0 : Int32) ∧ ¬ (3 : Int32) < (2 : Int32)) (tgt := 10) S dX8_leg_4 (by decide) (fun _ => ?_) (fun h => absurd (by decide) h)
  refine lv_aload_n S.1 S.2.1 dX8_leg_10 rfl (lv_at hl 0 rfl) ?_
  refine s_get S hX G (i := 0) (kd := 8) (a := (I 0)) (v := .ref (E.2.2.2 1)) (C := RX8) (T := TX8) (N := 4) 0 (rfl : sh 0 = 8) rfl rfl rfl (by decide) rfl (fun _ h => (List.mem_cons_of_mem _ (List.mem_append_left _ (List.mem_append_left _ (List.mem_append_left _ (List.mem_append_left _ (List.mem_append_right _ h))))))) (by decide) (List.mem_of_getElem? (i := 2) rfl) (fun _ h => h) dX8_leg_11 ?_
  refine lv_iload_n S.1 S.2.1 dX8_leg_14 rfl (lv_at hl 1 rfl) ?_
  refine s_callV (C := RX0) (As := [.int (2 : Int32)]) (rest := []) (i := 1) (kd := 0) S hX G (k_X0_legAt_2 l E 1 (by unfold IsB; decide)) (cwV (bytes := cX0_legAt) (maxL := 3) (ret := (some (.object "BridgeLegs$Leg"))) 1 S.2.2.2.2 gX8_leg_X0_legAt rfl rfl rfl (by decide +kernel) ⟨Nat.le_of_ble_eq_true rfl, Nat.le_of_ble_eq_true rfl⟩) (rfl : sh 1 = 0) rfl rfl rfl (by decide) rfl hl.1 rfl (Nat.le_of_ble_eq_true rfl) ⟨Nat.zero_le _, Nat.zero_le _⟩ dX8_leg_15 (fun v I1 L1 H locs hR G => ?_)
  obtain ⟨hv, hI, hL⟩ := hR
  subst hv
  have G : GS E I L sg H locs := G.same hI hL
  refine W.eq (g2 := F0 mg 18 ls [.ref (E.2.2.2 12)]) rfl ?_
  refine lv_astore_n (lv' := [(3, .ref (E.2.2.2 12)), (0, .ref (E.2.2.2 0)), (1, .int (2 : Int32)), (2, .int (0 : Int32))]) S.1 S.2.1 dX8_leg_18 rfl hl (by decide) rfl (fun ls hl => ?_)
  refine lv_iload_n S.1 S.2.1 dX8_leg_19 rfl (lv_at hl 3 rfl) ?_
  refine lv_tableIn (off := 48) (tgt := 68) S.1 S.2.1 dX8_leg_20 (by decide) (by decide) (by decide) (by decide) ?_
  refine lv_aload_n S.1 S.2.1 dX8_leg_68 rfl (lv_at hl 0 rfl) ?_
  refine s_getN S hX G (i := 12) (kd := 4) (a := p) (v := .int (p 0)) (C := RX4) (T := TX4) (N := 7) 0 (rfl : sh 12 = 4) e_p rfl rfl (by decide) rfl (fun _ h => (List.mem_cons_of_mem _ (List.mem_append_left _ (List.mem_append_left _ (List.mem_append_left _ (List.mem_append_right _ h)))))) (by decide) (List.mem_of_getElem? (i := 0) rfl) (fun _ h => h) dX8_leg_69 ?_
  refine s_iret (x := (p 0)) S G hr hlk dX8_leg_72 ?_
  exact ⟨rfl, rfl, rfl⟩
set_option maxHeartbeats 4000000 in
set_option maxRecDepth 100000 in
theorem k_X8_leg_2_1 (l : Launch) (E : Ev) {I : SI} {L : SL} (p : Nat → Int32) (e_p : I (12) = p) : CS l yX8_leg wsX8_leg ({ frames := 2, cells := 0, slots := 0, locals := 43 }) E [.ref (E.2.2.2 0), .int (2 : Int32), .int (1 : Int32)] I L (fun vv I' L' => vv = some (.int (p 1)) ∧ I' = I ∧ L' = L) := by
  refine CS.of (cc := cX8_leg) (maxL := 4) (ret := (some .int)) (by decide) rfl (Nat.le_of_ble_eq_true rfl) ?_
  intro pg en sg mg below meth cg ls S hr hlk hX G hl
  have S : CallFix pg mg cg cX8_leg 4 sg _ wsX8_leg RX8 := S
  have hl : lv_has ls 4 [(0, .ref (E.2.2.2 0)), (1, .int (2 : Int32)), (2, .int (1 : Int32))] := hl
  refine lv_iload_n S.1 S.2.1 dX8_leg_0 rfl (lv_at hl 1 rfl) ?_
  refine s_callS (As := [.int (2 : Int32)]) (rest := []) S hX G (k_X8_isLeg l E (2 : Int32)) (va_cwS (bytes := cX8_isLeg) (maxL := 1) (ret := (some .boolean)) 1 S.2.2.2.2 gX8_leg_X8_isLeg rfl rfl rfl (by decide +kernel) ⟨Nat.le_of_ble_eq_true rfl, Nat.le_of_ble_eq_true rfl⟩) rfl hl.1 rfl (Nat.le_of_ble_eq_true rfl) ⟨Nat.zero_le _, Nat.zero_le _⟩ dX8_leg_1 (fun v I1 L1 H locs hR G => ?_)
  obtain ⟨hv, hI, hL⟩ := hR
  subst hv
  have G : GS E I L sg H locs := G.same hI hL
  refine W.eq (g2 := F0 mg 4 ls [.int (if ¬ (2 : Int32) < (0 : Int32) ∧ ¬ (3 : Int32) < (2 : Int32) then 1 else 0)]) rfl ?_
  refine s_if_ne_b (P := ¬ (2 : Int32) < (0 : Int32) ∧ ¬ (3 : Int32) < (2 : Int32)) (tgt := 10) S dX8_leg_4 (by decide) (fun _ => ?_) (fun h => absurd (by decide) h)
  refine lv_aload_n S.1 S.2.1 dX8_leg_10 rfl (lv_at hl 0 rfl) ?_
  refine s_get S hX G (i := 0) (kd := 8) (a := (I 0)) (v := .ref (E.2.2.2 1)) (C := RX8) (T := TX8) (N := 4) 0 (rfl : sh 0 = 8) rfl rfl rfl (by decide) rfl (fun _ h => (List.mem_cons_of_mem _ (List.mem_append_left _ (List.mem_append_left _ (List.mem_append_left _ (List.mem_append_left _ (List.mem_append_right _ h))))))) (by decide) (List.mem_of_getElem? (i := 2) rfl) (fun _ h => h) dX8_leg_11 ?_
  refine lv_iload_n S.1 S.2.1 dX8_leg_14 rfl (lv_at hl 1 rfl) ?_
  refine s_callV (C := RX0) (As := [.int (2 : Int32)]) (rest := []) (i := 1) (kd := 0) S hX G (k_X0_legAt_2 l E 1 (by unfold IsB; decide)) (cwV (bytes := cX0_legAt) (maxL := 3) (ret := (some (.object "BridgeLegs$Leg"))) 1 S.2.2.2.2 gX8_leg_X0_legAt rfl rfl rfl (by decide +kernel) ⟨Nat.le_of_ble_eq_true rfl, Nat.le_of_ble_eq_true rfl⟩) (rfl : sh 1 = 0) rfl rfl rfl (by decide) rfl hl.1 rfl (Nat.le_of_ble_eq_true rfl) ⟨Nat.zero_le _, Nat.zero_le _⟩ dX8_leg_15 (fun v I1 L1 H locs hR G => ?_)
  obtain ⟨hv, hI, hL⟩ := hR
  subst hv
  have G : GS E I L sg H locs := G.same hI hL
  refine W.eq (g2 := F0 mg 18 ls [.ref (E.2.2.2 12)]) rfl ?_
  refine lv_astore_n (lv' := [(3, .ref (E.2.2.2 12)), (0, .ref (E.2.2.2 0)), (1, .int (2 : Int32)), (2, .int (1 : Int32))]) S.1 S.2.1 dX8_leg_18 rfl hl (by decide) rfl (fun ls hl => ?_)
  refine lv_iload_n S.1 S.2.1 dX8_leg_19 rfl (lv_at hl 3 rfl) ?_
  refine lv_tableIn (off := 53) (tgt := 73) S.1 S.2.1 dX8_leg_20 (by decide) (by decide) (by decide) (by decide) ?_
  refine lv_aload_n S.1 S.2.1 dX8_leg_73 rfl (lv_at hl 0 rfl) ?_
  refine s_getN S hX G (i := 12) (kd := 4) (a := p) (v := .int (p 1)) (C := RX4) (T := TX4) (N := 7) 1 (rfl : sh 12 = 4) e_p rfl rfl (by decide) rfl (fun _ h => (List.mem_cons_of_mem _ (List.mem_append_left _ (List.mem_append_left _ (List.mem_append_left _ (List.mem_append_right _ h)))))) (by decide) (List.mem_of_getElem? (i := 3) rfl) (fun _ h => h) dX8_leg_74 ?_
  refine s_iret (x := (p 1)) S G hr hlk dX8_leg_77 ?_
  exact ⟨rfl, rfl, rfl⟩
set_option maxHeartbeats 4000000 in
set_option maxRecDepth 100000 in
theorem k_X8_leg_2_2 (l : Launch) (E : Ev) {I : SI} {L : SL} (b : Nat → Int32) (p : Nat → Int32) (q : Nat → Int32) (n : Nat → Int32) (e_b : I (11) = b) (e_p : I (12) = p) (e_q : I (13) = q) (e_n : I (16) = n) : CS l yX8_leg wsX8_leg ({ frames := 2, cells := 0, slots := 0, locals := 43 }) E [.ref (E.2.2.2 0), .int (2 : Int32), .int (2 : Int32)] I L (fun vv I' L' => vv = some (.int (fWishF b p q n)) ∧ I' = I ∧ L' = L) := by
  refine CS.of (cc := cX8_leg) (maxL := 4) (ret := (some .int)) (by decide) rfl (Nat.le_of_ble_eq_true rfl) ?_
  intro pg en sg mg below meth cg ls S hr hlk hX G hl
  have S : CallFix pg mg cg cX8_leg 4 sg _ wsX8_leg RX8 := S
  have hl : lv_has ls 4 [(0, .ref (E.2.2.2 0)), (1, .int (2 : Int32)), (2, .int (2 : Int32))] := hl
  refine lv_iload_n S.1 S.2.1 dX8_leg_0 rfl (lv_at hl 1 rfl) ?_
  refine s_callS (As := [.int (2 : Int32)]) (rest := []) S hX G (k_X8_isLeg l E (2 : Int32)) (va_cwS (bytes := cX8_isLeg) (maxL := 1) (ret := (some .boolean)) 1 S.2.2.2.2 gX8_leg_X8_isLeg rfl rfl rfl (by decide +kernel) ⟨Nat.le_of_ble_eq_true rfl, Nat.le_of_ble_eq_true rfl⟩) rfl hl.1 rfl (Nat.le_of_ble_eq_true rfl) ⟨Nat.zero_le _, Nat.zero_le _⟩ dX8_leg_1 (fun v I1 L1 H locs hR G => ?_)
  obtain ⟨hv, hI, hL⟩ := hR
  subst hv
  have G : GS E I L sg H locs := G.same hI hL
  refine W.eq (g2 := F0 mg 4 ls [.int (if ¬ (2 : Int32) < (0 : Int32) ∧ ¬ (3 : Int32) < (2 : Int32) then 1 else 0)]) rfl ?_
  refine s_if_ne_b (P := ¬ (2 : Int32) < (0 : Int32) ∧ ¬ (3 : Int32) < (2 : Int32)) (tgt := 10) S dX8_leg_4 (by decide) (fun _ => ?_) (fun h => absurd (by decide) h)
  refine lv_aload_n S.1 S.2.1 dX8_leg_10 rfl (lv_at hl 0 rfl) ?_
  refine s_get S hX G (i := 0) (kd := 8) (a := (I 0)) (v := .ref (E.2.2.2 1)) (C := RX8) (T := TX8) (N := 4) 0 (rfl : sh 0 = 8) rfl rfl rfl (by decide) rfl (fun _ h => (List.mem_cons_of_mem _ (List.mem_append_left _ (List.mem_append_left _ (List.mem_append_left _ (List.mem_append_left _ (List.mem_append_right _ h))))))) (by decide) (List.mem_of_getElem? (i := 2) rfl) (fun _ h => h) dX8_leg_11 ?_
  refine lv_iload_n S.1 S.2.1 dX8_leg_14 rfl (lv_at hl 1 rfl) ?_
  refine s_callV (C := RX0) (As := [.int (2 : Int32)]) (rest := []) (i := 1) (kd := 0) S hX G (k_X0_legAt_2 l E 1 (by unfold IsB; decide)) (cwV (bytes := cX0_legAt) (maxL := 3) (ret := (some (.object "BridgeLegs$Leg"))) 1 S.2.2.2.2 gX8_leg_X0_legAt rfl rfl rfl (by decide +kernel) ⟨Nat.le_of_ble_eq_true rfl, Nat.le_of_ble_eq_true rfl⟩) (rfl : sh 1 = 0) rfl rfl rfl (by decide) rfl hl.1 rfl (Nat.le_of_ble_eq_true rfl) ⟨Nat.zero_le _, Nat.zero_le _⟩ dX8_leg_15 (fun v I1 L1 H locs hR G => ?_)
  obtain ⟨hv, hI, hL⟩ := hR
  subst hv
  have G : GS E I L sg H locs := G.same hI hL
  refine W.eq (g2 := F0 mg 18 ls [.ref (E.2.2.2 12)]) rfl ?_
  refine lv_astore_n (lv' := [(3, .ref (E.2.2.2 12)), (0, .ref (E.2.2.2 0)), (1, .int (2 : Int32)), (2, .int (2 : Int32))]) S.1 S.2.1 dX8_leg_18 rfl hl (by decide) rfl (fun ls hl => ?_)
  refine lv_iload_n S.1 S.2.1 dX8_leg_19 rfl (lv_at hl 3 rfl) ?_
  refine lv_tableIn (off := 58) (tgt := 78) S.1 S.2.1 dX8_leg_20 (by decide) (by decide) (by decide) (by decide) ?_
  refine lv_aload_n S.1 S.2.1 dX8_leg_78 rfl (lv_at hl 1 rfl) ?_
  refine s_get S hX G (i := 0) (kd := 8) (a := (I 0)) (v := .ref (E.2.2.2 1)) (C := RX8) (T := TX8) (N := 4) 0 (rfl : sh 0 = 8) rfl rfl rfl (by decide) rfl (fun _ h => (List.mem_cons_of_mem _ (List.mem_append_left _ (List.mem_append_left _ (List.mem_append_left _ (List.mem_append_left _ (List.mem_append_right _ h))))))) (by decide) (List.mem_of_getElem? (i := 2) rfl) (fun _ h => h) dX8_leg_79 ?_
  refine lv_iload_n S.1 S.2.1 dX8_leg_82 rfl (lv_at hl 2 rfl) ?_
  refine s_callV (C := RX0) (As := [.int (2 : Int32)]) (rest := []) (i := 1) (kd := 0) S hX G (k_X0_wishOf_2 l E 1 b p q n (by unfold IsB; decide) e_b e_p e_q e_n) (cwV (bytes := cX0_wishOf) (maxL := 3) (ret := (some .int)) 1 S.2.2.2.2 gX8_leg_X0_wishOf rfl rfl rfl (by decide +kernel) ⟨Nat.le_of_ble_eq_true rfl, Nat.le_of_ble_eq_true rfl⟩) (rfl : sh 1 = 0) rfl rfl rfl (by decide) rfl hl.1 rfl (Nat.le_of_ble_eq_true rfl) ⟨Nat.zero_le _, Nat.zero_le _⟩ dX8_leg_83 (fun v I1 L1 H locs hR G => ?_)
  obtain ⟨hv, hI, hL⟩ := hR
  subst hv
  have G : GS E I L sg H locs := G.same hI hL
  refine W.eq (g2 := F0 mg 86 ls [.int (fWishF b p q n)]) rfl ?_
  refine lv_topi (fun y_1 ey_1 => ?_)
  refine s_iret (x := y_1) S G hr hlk dX8_leg_86 ?_
  exact ⟨(congrArg (fun q : Int32 => some (Value.int q)) (show y_1 = (fWishF b p q n) by subst ey_1; rfl)), rfl, rfl⟩
set_option maxHeartbeats 4000000 in
set_option maxRecDepth 100000 in
theorem k_X8_leg_2_3 (l : Launch) (E : Ev) {I : SI} {L : SL} (p : Nat → Int32) (e_p : I (12) = p) : CS l yX8_leg wsX8_leg ({ frames := 2, cells := 0, slots := 0, locals := 43 }) E [.ref (E.2.2.2 0), .int (2 : Int32), .int (3 : Int32)] I L (fun vv I' L' => vv = some (.int (p 2)) ∧ I' = I ∧ L' = L) := by
  refine CS.of (cc := cX8_leg) (maxL := 4) (ret := (some .int)) (by decide) rfl (Nat.le_of_ble_eq_true rfl) ?_
  intro pg en sg mg below meth cg ls S hr hlk hX G hl
  have S : CallFix pg mg cg cX8_leg 4 sg _ wsX8_leg RX8 := S
  have hl : lv_has ls 4 [(0, .ref (E.2.2.2 0)), (1, .int (2 : Int32)), (2, .int (3 : Int32))] := hl
  refine lv_iload_n S.1 S.2.1 dX8_leg_0 rfl (lv_at hl 1 rfl) ?_
  refine s_callS (As := [.int (2 : Int32)]) (rest := []) S hX G (k_X8_isLeg l E (2 : Int32)) (va_cwS (bytes := cX8_isLeg) (maxL := 1) (ret := (some .boolean)) 1 S.2.2.2.2 gX8_leg_X8_isLeg rfl rfl rfl (by decide +kernel) ⟨Nat.le_of_ble_eq_true rfl, Nat.le_of_ble_eq_true rfl⟩) rfl hl.1 rfl (Nat.le_of_ble_eq_true rfl) ⟨Nat.zero_le _, Nat.zero_le _⟩ dX8_leg_1 (fun v I1 L1 H locs hR G => ?_)
  obtain ⟨hv, hI, hL⟩ := hR
  subst hv
  have G : GS E I L sg H locs := G.same hI hL
  refine W.eq (g2 := F0 mg 4 ls [.int (if ¬ (2 : Int32) < (0 : Int32) ∧ ¬ (3 : Int32) < (2 : Int32) then 1 else 0)]) rfl ?_
  refine s_if_ne_b (P := ¬ (2 : Int32) < (0 : Int32) ∧ ¬ (3 : Int32) < (2 : Int32)) (tgt := 10) S dX8_leg_4 (by decide) (fun _ => ?_) (fun h => absurd (by decide) h)
  refine lv_aload_n S.1 S.2.1 dX8_leg_10 rfl (lv_at hl 0 rfl) ?_
  refine s_get S hX G (i := 0) (kd := 8) (a := (I 0)) (v := .ref (E.2.2.2 1)) (C := RX8) (T := TX8) (N := 4) 0 (rfl : sh 0 = 8) rfl rfl rfl (by decide) rfl (fun _ h => (List.mem_cons_of_mem _ (List.mem_append_left _ (List.mem_append_left _ (List.mem_append_left _ (List.mem_append_left _ (List.mem_append_right _ h))))))) (by decide) (List.mem_of_getElem? (i := 2) rfl) (fun _ h => h) dX8_leg_11 ?_
  refine lv_iload_n S.1 S.2.1 dX8_leg_14 rfl (lv_at hl 1 rfl) ?_
  refine s_callV (C := RX0) (As := [.int (2 : Int32)]) (rest := []) (i := 1) (kd := 0) S hX G (k_X0_legAt_2 l E 1 (by unfold IsB; decide)) (cwV (bytes := cX0_legAt) (maxL := 3) (ret := (some (.object "BridgeLegs$Leg"))) 1 S.2.2.2.2 gX8_leg_X0_legAt rfl rfl rfl (by decide +kernel) ⟨Nat.le_of_ble_eq_true rfl, Nat.le_of_ble_eq_true rfl⟩) (rfl : sh 1 = 0) rfl rfl rfl (by decide) rfl hl.1 rfl (Nat.le_of_ble_eq_true rfl) ⟨Nat.zero_le _, Nat.zero_le _⟩ dX8_leg_15 (fun v I1 L1 H locs hR G => ?_)
  obtain ⟨hv, hI, hL⟩ := hR
  subst hv
  have G : GS E I L sg H locs := G.same hI hL
  refine W.eq (g2 := F0 mg 18 ls [.ref (E.2.2.2 12)]) rfl ?_
  refine lv_astore_n (lv' := [(3, .ref (E.2.2.2 12)), (0, .ref (E.2.2.2 0)), (1, .int (2 : Int32)), (2, .int (3 : Int32))]) S.1 S.2.1 dX8_leg_18 rfl hl (by decide) rfl (fun ls hl => ?_)
  refine lv_iload_n S.1 S.2.1 dX8_leg_19 rfl (lv_at hl 3 rfl) ?_
  refine lv_tableIn (off := 67) (tgt := 87) S.1 S.2.1 dX8_leg_20 (by decide) (by decide) (by decide) (by decide) ?_
  refine lv_aload_n S.1 S.2.1 dX8_leg_87 rfl (lv_at hl 0 rfl) ?_
  refine s_getN S hX G (i := 12) (kd := 4) (a := p) (v := .int (p 2)) (C := RX4) (T := TX4) (N := 7) 2 (rfl : sh 12 = 4) e_p rfl rfl (by decide) rfl (fun _ h => (List.mem_cons_of_mem _ (List.mem_append_left _ (List.mem_append_left _ (List.mem_append_left _ (List.mem_append_right _ h)))))) (by decide) (List.mem_of_getElem? (i := 5) rfl) (fun _ h => h) dX8_leg_88 ?_
  refine s_iret (x := (p 2)) S G hr hlk dX8_leg_91 ?_
  exact ⟨rfl, rfl, rfl⟩
set_option maxHeartbeats 4000000 in
set_option maxRecDepth 100000 in
theorem k_X8_leg_2_4 (l : Launch) (E : Ev) {I : SI} {L : SL} (p : Nat → Int32) (e_p : I (12) = p) : CS l yX8_leg wsX8_leg ({ frames := 2, cells := 0, slots := 0, locals := 43 }) E [.ref (E.2.2.2 0), .int (2 : Int32), .int (4 : Int32)] I L (fun vv I' L' => vv = some (.int (p 3)) ∧ I' = I ∧ L' = L) := by
  refine CS.of (cc := cX8_leg) (maxL := 4) (ret := (some .int)) (by decide) rfl (Nat.le_of_ble_eq_true rfl) ?_
  intro pg en sg mg below meth cg ls S hr hlk hX G hl
  have S : CallFix pg mg cg cX8_leg 4 sg _ wsX8_leg RX8 := S
  have hl : lv_has ls 4 [(0, .ref (E.2.2.2 0)), (1, .int (2 : Int32)), (2, .int (4 : Int32))] := hl
  refine lv_iload_n S.1 S.2.1 dX8_leg_0 rfl (lv_at hl 1 rfl) ?_
  refine s_callS (As := [.int (2 : Int32)]) (rest := []) S hX G (k_X8_isLeg l E (2 : Int32)) (va_cwS (bytes := cX8_isLeg) (maxL := 1) (ret := (some .boolean)) 1 S.2.2.2.2 gX8_leg_X8_isLeg rfl rfl rfl (by decide +kernel) ⟨Nat.le_of_ble_eq_true rfl, Nat.le_of_ble_eq_true rfl⟩) rfl hl.1 rfl (Nat.le_of_ble_eq_true rfl) ⟨Nat.zero_le _, Nat.zero_le _⟩ dX8_leg_1 (fun v I1 L1 H locs hR G => ?_)
  obtain ⟨hv, hI, hL⟩ := hR
  subst hv
  have G : GS E I L sg H locs := G.same hI hL
  refine W.eq (g2 := F0 mg 4 ls [.int (if ¬ (2 : Int32) < (0 : Int32) ∧ ¬ (3 : Int32) < (2 : Int32) then 1 else 0)]) rfl ?_
  refine s_if_ne_b (P := ¬ (2 : Int32) < (0 : Int32) ∧ ¬ (3 : Int32) < (2 : Int32)) (tgt := 10) S dX8_leg_4 (by decide) (fun _ => ?_) (fun h => absurd (by decide) h)
  refine lv_aload_n S.1 S.2.1 dX8_leg_10 rfl (lv_at hl 0 rfl) ?_
  refine s_get S hX G (i := 0) (kd := 8) (a := (I 0)) (v := .ref (E.2.2.2 1)) (C := RX8) (T := TX8) (N := 4) 0 (rfl : sh 0 = 8) rfl rfl rfl (by decide) rfl (fun _ h => (List.mem_cons_of_mem _ (List.mem_append_left _ (List.mem_append_left _ (List.mem_append_left _ (List.mem_append_left _ (List.mem_append_right _ h))))))) (by decide) (List.mem_of_getElem? (i := 2) rfl) (fun _ h => h) dX8_leg_11 ?_
  refine lv_iload_n S.1 S.2.1 dX8_leg_14 rfl (lv_at hl 1 rfl) ?_
  refine s_callV (C := RX0) (As := [.int (2 : Int32)]) (rest := []) (i := 1) (kd := 0) S hX G (k_X0_legAt_2 l E 1 (by unfold IsB; decide)) (cwV (bytes := cX0_legAt) (maxL := 3) (ret := (some (.object "BridgeLegs$Leg"))) 1 S.2.2.2.2 gX8_leg_X0_legAt rfl rfl rfl (by decide +kernel) ⟨Nat.le_of_ble_eq_true rfl, Nat.le_of_ble_eq_true rfl⟩) (rfl : sh 1 = 0) rfl rfl rfl (by decide) rfl hl.1 rfl (Nat.le_of_ble_eq_true rfl) ⟨Nat.zero_le _, Nat.zero_le _⟩ dX8_leg_15 (fun v I1 L1 H locs hR G => ?_)
  obtain ⟨hv, hI, hL⟩ := hR
  subst hv
  have G : GS E I L sg H locs := G.same hI hL
  refine W.eq (g2 := F0 mg 18 ls [.ref (E.2.2.2 12)]) rfl ?_
  refine lv_astore_n (lv' := [(3, .ref (E.2.2.2 12)), (0, .ref (E.2.2.2 0)), (1, .int (2 : Int32)), (2, .int (4 : Int32))]) S.1 S.2.1 dX8_leg_18 rfl hl (by decide) rfl (fun ls hl => ?_)
  refine lv_iload_n S.1 S.2.1 dX8_leg_19 rfl (lv_at hl 3 rfl) ?_
  refine lv_tableIn (off := 72) (tgt := 92) S.1 S.2.1 dX8_leg_20 (by decide) (by decide) (by decide) (by decide) ?_
  refine lv_aload_n S.1 S.2.1 dX8_leg_92 rfl (lv_at hl 0 rfl) ?_
  refine s_getN S hX G (i := 12) (kd := 4) (a := p) (v := .int (p 3)) (C := RX4) (T := TX4) (N := 7) 3 (rfl : sh 12 = 4) e_p rfl rfl (by decide) rfl (fun _ h => (List.mem_cons_of_mem _ (List.mem_append_left _ (List.mem_append_left _ (List.mem_append_left _ (List.mem_append_right _ h)))))) (by decide) (List.mem_of_getElem? (i := 7) rfl) (fun _ h => h) dX8_leg_93 ?_
  refine s_iret (x := (p 3)) S G hr hlk dX8_leg_96 ?_
  exact ⟨rfl, rfl, rfl⟩
set_option maxHeartbeats 4000000 in
set_option maxRecDepth 100000 in
theorem k_X8_leg_2_5 (l : Launch) (E : Ev) {I : SI} {L : SL} (p : Nat → Int32) (e_p : I (12) = p) : CS l yX8_leg wsX8_leg ({ frames := 2, cells := 0, slots := 0, locals := 43 }) E [.ref (E.2.2.2 0), .int (2 : Int32), .int (5 : Int32)] I L (fun vv I' L' => vv = some (.int (p 4)) ∧ I' = I ∧ L' = L) := by
  refine CS.of (cc := cX8_leg) (maxL := 4) (ret := (some .int)) (by decide) rfl (Nat.le_of_ble_eq_true rfl) ?_
  intro pg en sg mg below meth cg ls S hr hlk hX G hl
  have S : CallFix pg mg cg cX8_leg 4 sg _ wsX8_leg RX8 := S
  have hl : lv_has ls 4 [(0, .ref (E.2.2.2 0)), (1, .int (2 : Int32)), (2, .int (5 : Int32))] := hl
  refine lv_iload_n S.1 S.2.1 dX8_leg_0 rfl (lv_at hl 1 rfl) ?_
  refine s_callS (As := [.int (2 : Int32)]) (rest := []) S hX G (k_X8_isLeg l E (2 : Int32)) (va_cwS (bytes := cX8_isLeg) (maxL := 1) (ret := (some .boolean)) 1 S.2.2.2.2 gX8_leg_X8_isLeg rfl rfl rfl (by decide +kernel) ⟨Nat.le_of_ble_eq_true rfl, Nat.le_of_ble_eq_true rfl⟩) rfl hl.1 rfl (Nat.le_of_ble_eq_true rfl) ⟨Nat.zero_le _, Nat.zero_le _⟩ dX8_leg_1 (fun v I1 L1 H locs hR G => ?_)
  obtain ⟨hv, hI, hL⟩ := hR
  subst hv
  have G : GS E I L sg H locs := G.same hI hL
  refine W.eq (g2 := F0 mg 4 ls [.int (if ¬ (2 : Int32) < (0 : Int32) ∧ ¬ (3 : Int32) < (2 : Int32) then 1 else 0)]) rfl ?_
  refine s_if_ne_b (P := ¬ (2 : Int32) < (0 : Int32) ∧ ¬ (3 : Int32) < (2 : Int32)) (tgt := 10) S dX8_leg_4 (by decide) (fun _ => ?_) (fun h => absurd (by decide) h)
  refine lv_aload_n S.1 S.2.1 dX8_leg_10 rfl (lv_at hl 0 rfl) ?_
  refine s_get S hX G (i := 0) (kd := 8) (a := (I 0)) (v := .ref (E.2.2.2 1)) (C := RX8) (T := TX8) (N := 4) 0 (rfl : sh 0 = 8) rfl rfl rfl (by decide) rfl (fun _ h => (List.mem_cons_of_mem _ (List.mem_append_left _ (List.mem_append_left _ (List.mem_append_left _ (List.mem_append_left _ (List.mem_append_right _ h))))))) (by decide) (List.mem_of_getElem? (i := 2) rfl) (fun _ h => h) dX8_leg_11 ?_
  refine lv_iload_n S.1 S.2.1 dX8_leg_14 rfl (lv_at hl 1 rfl) ?_
  refine s_callV (C := RX0) (As := [.int (2 : Int32)]) (rest := []) (i := 1) (kd := 0) S hX G (k_X0_legAt_2 l E 1 (by unfold IsB; decide)) (cwV (bytes := cX0_legAt) (maxL := 3) (ret := (some (.object "BridgeLegs$Leg"))) 1 S.2.2.2.2 gX8_leg_X0_legAt rfl rfl rfl (by decide +kernel) ⟨Nat.le_of_ble_eq_true rfl, Nat.le_of_ble_eq_true rfl⟩) (rfl : sh 1 = 0) rfl rfl rfl (by decide) rfl hl.1 rfl (Nat.le_of_ble_eq_true rfl) ⟨Nat.zero_le _, Nat.zero_le _⟩ dX8_leg_15 (fun v I1 L1 H locs hR G => ?_)
  obtain ⟨hv, hI, hL⟩ := hR
  subst hv
  have G : GS E I L sg H locs := G.same hI hL
  refine W.eq (g2 := F0 mg 18 ls [.ref (E.2.2.2 12)]) rfl ?_
  refine lv_astore_n (lv' := [(3, .ref (E.2.2.2 12)), (0, .ref (E.2.2.2 0)), (1, .int (2 : Int32)), (2, .int (5 : Int32))]) S.1 S.2.1 dX8_leg_18 rfl hl (by decide) rfl (fun ls hl => ?_)
  refine lv_iload_n S.1 S.2.1 dX8_leg_19 rfl (lv_at hl 3 rfl) ?_
  refine lv_tableIn (off := 77) (tgt := 97) S.1 S.2.1 dX8_leg_20 (by decide) (by decide) (by decide) (by decide) ?_
  refine lv_aload_n S.1 S.2.1 dX8_leg_97 rfl (lv_at hl 0 rfl) ?_
  refine s_getN S hX G (i := 12) (kd := 4) (a := p) (v := .int (p 4)) (C := RX4) (T := TX4) (N := 7) 4 (rfl : sh 12 = 4) e_p rfl rfl (by decide) rfl (fun _ h => (List.mem_cons_of_mem _ (List.mem_append_left _ (List.mem_append_left _ (List.mem_append_left _ (List.mem_append_right _ h)))))) (by decide) (List.mem_of_getElem? (i := 8) rfl) (fun _ h => h) dX8_leg_98 ?_
  refine s_iret (x := (p 4)) S G hr hlk dX8_leg_101 ?_
  exact ⟨rfl, rfl, rfl⟩
set_option maxHeartbeats 4000000 in
set_option maxRecDepth 100000 in
theorem k_X8_leg_2_6 (l : Launch) (E : Ev) {I : SI} {L : SL} (p : Nat → Int32) (e_p : I (12) = p) : CS l yX8_leg wsX8_leg ({ frames := 2, cells := 0, slots := 0, locals := 43 }) E [.ref (E.2.2.2 0), .int (2 : Int32), .int (6 : Int32)] I L (fun vv I' L' => vv = some (.int (p 5)) ∧ I' = I ∧ L' = L) := by
  refine CS.of (cc := cX8_leg) (maxL := 4) (ret := (some .int)) (by decide) rfl (Nat.le_of_ble_eq_true rfl) ?_
  intro pg en sg mg below meth cg ls S hr hlk hX G hl
  have S : CallFix pg mg cg cX8_leg 4 sg _ wsX8_leg RX8 := S
  have hl : lv_has ls 4 [(0, .ref (E.2.2.2 0)), (1, .int (2 : Int32)), (2, .int (6 : Int32))] := hl
  refine lv_iload_n S.1 S.2.1 dX8_leg_0 rfl (lv_at hl 1 rfl) ?_
  refine s_callS (As := [.int (2 : Int32)]) (rest := []) S hX G (k_X8_isLeg l E (2 : Int32)) (va_cwS (bytes := cX8_isLeg) (maxL := 1) (ret := (some .boolean)) 1 S.2.2.2.2 gX8_leg_X8_isLeg rfl rfl rfl (by decide +kernel) ⟨Nat.le_of_ble_eq_true rfl, Nat.le_of_ble_eq_true rfl⟩) rfl hl.1 rfl (Nat.le_of_ble_eq_true rfl) ⟨Nat.zero_le _, Nat.zero_le _⟩ dX8_leg_1 (fun v I1 L1 H locs hR G => ?_)
  obtain ⟨hv, hI, hL⟩ := hR
  subst hv
  have G : GS E I L sg H locs := G.same hI hL
  refine W.eq (g2 := F0 mg 4 ls [.int (if ¬ (2 : Int32) < (0 : Int32) ∧ ¬ (3 : Int32) < (2 : Int32) then 1 else 0)]) rfl ?_
  refine s_if_ne_b (P := ¬ (2 : Int32) < (0 : Int32) ∧ ¬ (3 : Int32) < (2 : Int32)) (tgt := 10) S dX8_leg_4 (by decide) (fun _ => ?_) (fun h => absurd (by decide) h)
  refine lv_aload_n S.1 S.2.1 dX8_leg_10 rfl (lv_at hl 0 rfl) ?_
  refine s_get S hX G (i := 0) (kd := 8) (a := (I 0)) (v := .ref (E.2.2.2 1)) (C := RX8) (T := TX8) (N := 4) 0 (rfl : sh 0 = 8) rfl rfl rfl (by decide) rfl (fun _ h => (List.mem_cons_of_mem _ (List.mem_append_left _ (List.mem_append_left _ (List.mem_append_left _ (List.mem_append_left _ (List.mem_append_right _ h))))))) (by decide) (List.mem_of_getElem? (i := 2) rfl) (fun _ h => h) dX8_leg_11 ?_
  refine lv_iload_n S.1 S.2.1 dX8_leg_14 rfl (lv_at hl 1 rfl) ?_
  refine s_callV (C := RX0) (As := [.int (2 : Int32)]) (rest := []) (i := 1) (kd := 0) S hX G (k_X0_legAt_2 l E 1 (by unfold IsB; decide)) (cwV (bytes := cX0_legAt) (maxL := 3) (ret := (some (.object "BridgeLegs$Leg"))) 1 S.2.2.2.2 gX8_leg_X0_legAt rfl rfl rfl (by decide +kernel) ⟨Nat.le_of_ble_eq_true rfl, Nat.le_of_ble_eq_true rfl⟩) (rfl : sh 1 = 0) rfl rfl rfl (by decide) rfl hl.1 rfl (Nat.le_of_ble_eq_true rfl) ⟨Nat.zero_le _, Nat.zero_le _⟩ dX8_leg_15 (fun v I1 L1 H locs hR G => ?_)
  obtain ⟨hv, hI, hL⟩ := hR
  subst hv
  have G : GS E I L sg H locs := G.same hI hL
  refine W.eq (g2 := F0 mg 18 ls [.ref (E.2.2.2 12)]) rfl ?_
  refine lv_astore_n (lv' := [(3, .ref (E.2.2.2 12)), (0, .ref (E.2.2.2 0)), (1, .int (2 : Int32)), (2, .int (6 : Int32))]) S.1 S.2.1 dX8_leg_18 rfl hl (by decide) rfl (fun ls hl => ?_)
  refine lv_iload_n S.1 S.2.1 dX8_leg_19 rfl (lv_at hl 3 rfl) ?_
  refine lv_tableIn (off := 82) (tgt := 102) S.1 S.2.1 dX8_leg_20 (by decide) (by decide) (by decide) (by decide) ?_
  refine lv_aload_n S.1 S.2.1 dX8_leg_102 rfl (lv_at hl 0 rfl) ?_
  refine s_getN S hX G (i := 12) (kd := 4) (a := p) (v := .int (p 5)) (C := RX4) (T := TX4) (N := 7) 5 (rfl : sh 12 = 4) e_p rfl rfl (by decide) rfl (fun _ h => (List.mem_cons_of_mem _ (List.mem_append_left _ (List.mem_append_left _ (List.mem_append_left _ (List.mem_append_right _ h)))))) (by decide) (List.mem_of_getElem? (i := 9) rfl) (fun _ h => h) dX8_leg_103 ?_
  refine s_iret (x := (p 5)) S G hr hlk dX8_leg_106 ?_
  exact ⟨rfl, rfl, rfl⟩
set_option maxHeartbeats 4000000 in
set_option maxRecDepth 100000 in
theorem k_X8_leg_2_7 (l : Launch) (E : Ev) {I : SI} {L : SL} (p : Nat → Int32) (e_p : I (12) = p) : CS l yX8_leg wsX8_leg ({ frames := 2, cells := 0, slots := 0, locals := 43 }) E [.ref (E.2.2.2 0), .int (2 : Int32), .int (7 : Int32)] I L (fun vv I' L' => vv = some (.int (p 6)) ∧ I' = I ∧ L' = L) := by
  refine CS.of (cc := cX8_leg) (maxL := 4) (ret := (some .int)) (by decide) rfl (Nat.le_of_ble_eq_true rfl) ?_
  intro pg en sg mg below meth cg ls S hr hlk hX G hl
  have S : CallFix pg mg cg cX8_leg 4 sg _ wsX8_leg RX8 := S
  have hl : lv_has ls 4 [(0, .ref (E.2.2.2 0)), (1, .int (2 : Int32)), (2, .int (7 : Int32))] := hl
  refine lv_iload_n S.1 S.2.1 dX8_leg_0 rfl (lv_at hl 1 rfl) ?_
  refine s_callS (As := [.int (2 : Int32)]) (rest := []) S hX G (k_X8_isLeg l E (2 : Int32)) (va_cwS (bytes := cX8_isLeg) (maxL := 1) (ret := (some .boolean)) 1 S.2.2.2.2 gX8_leg_X8_isLeg rfl rfl rfl (by decide +kernel) ⟨Nat.le_of_ble_eq_true rfl, Nat.le_of_ble_eq_true rfl⟩) rfl hl.1 rfl (Nat.le_of_ble_eq_true rfl) ⟨Nat.zero_le _, Nat.zero_le _⟩ dX8_leg_1 (fun v I1 L1 H locs hR G => ?_)
  obtain ⟨hv, hI, hL⟩ := hR
  subst hv
  have G : GS E I L sg H locs := G.same hI hL
  refine W.eq (g2 := F0 mg 4 ls [.int (if ¬ (2 : Int32) < (0 : Int32) ∧ ¬ (3 : Int32) < (2 : Int32) then 1 else 0)]) rfl ?_
  refine s_if_ne_b (P := ¬ (2 : Int32) < (0 : Int32) ∧ ¬ (3 : Int32) < (2 : Int32)) (tgt := 10) S dX8_leg_4 (by decide) (fun _ => ?_) (fun h => absurd (by decide) h)
  refine lv_aload_n S.1 S.2.1 dX8_leg_10 rfl (lv_at hl 0 rfl) ?_
  refine s_get S hX G (i := 0) (kd := 8) (a := (I 0)) (v := .ref (E.2.2.2 1)) (C := RX8) (T := TX8) (N := 4) 0 (rfl : sh 0 = 8) rfl rfl rfl (by decide) rfl (fun _ h => (List.mem_cons_of_mem _ (List.mem_append_left _ (List.mem_append_left _ (List.mem_append_left _ (List.mem_append_left _ (List.mem_append_right _ h))))))) (by decide) (List.mem_of_getElem? (i := 2) rfl) (fun _ h => h) dX8_leg_11 ?_
  refine lv_iload_n S.1 S.2.1 dX8_leg_14 rfl (lv_at hl 1 rfl) ?_
  refine s_callV (C := RX0) (As := [.int (2 : Int32)]) (rest := []) (i := 1) (kd := 0) S hX G (k_X0_legAt_2 l E 1 (by unfold IsB; decide)) (cwV (bytes := cX0_legAt) (maxL := 3) (ret := (some (.object "BridgeLegs$Leg"))) 1 S.2.2.2.2 gX8_leg_X0_legAt rfl rfl rfl (by decide +kernel) ⟨Nat.le_of_ble_eq_true rfl, Nat.le_of_ble_eq_true rfl⟩) (rfl : sh 1 = 0) rfl rfl rfl (by decide) rfl hl.1 rfl (Nat.le_of_ble_eq_true rfl) ⟨Nat.zero_le _, Nat.zero_le _⟩ dX8_leg_15 (fun v I1 L1 H locs hR G => ?_)
  obtain ⟨hv, hI, hL⟩ := hR
  subst hv
  have G : GS E I L sg H locs := G.same hI hL
  refine W.eq (g2 := F0 mg 18 ls [.ref (E.2.2.2 12)]) rfl ?_
  refine lv_astore_n (lv' := [(3, .ref (E.2.2.2 12)), (0, .ref (E.2.2.2 0)), (1, .int (2 : Int32)), (2, .int (7 : Int32))]) S.1 S.2.1 dX8_leg_18 rfl hl (by decide) rfl (fun ls hl => ?_)
  refine lv_iload_n S.1 S.2.1 dX8_leg_19 rfl (lv_at hl 3 rfl) ?_
  refine lv_tableIn (off := 87) (tgt := 107) S.1 S.2.1 dX8_leg_20 (by decide) (by decide) (by decide) (by decide) ?_
  refine lv_aload_n S.1 S.2.1 dX8_leg_107 rfl (lv_at hl 0 rfl) ?_
  refine s_getN S hX G (i := 12) (kd := 4) (a := p) (v := .int (p 6)) (C := RX4) (T := TX4) (N := 7) 6 (rfl : sh 12 = 4) e_p rfl rfl (by decide) rfl (fun _ h => (List.mem_cons_of_mem _ (List.mem_append_left _ (List.mem_append_left _ (List.mem_append_left _ (List.mem_append_right _ h)))))) (by decide) (List.mem_of_getElem? (i := 10) rfl) (fun _ h => h) dX8_leg_108 ?_
  refine s_iret (x := (p 6)) S G hr hlk dX8_leg_111 ?_
  exact ⟨rfl, rfl, rfl⟩
set_option maxHeartbeats 4000000 in
set_option maxRecDepth 100000 in
theorem k_X8_leg_3_0 (l : Launch) (E : Ev) {I : SI} {L : SL} (p : Nat → Int32) (e_p : I (13) = p) : CS l yX8_leg wsX8_leg ({ frames := 2, cells := 0, slots := 0, locals := 43 }) E [.ref (E.2.2.2 0), .int (3 : Int32), .int (0 : Int32)] I L (fun vv I' L' => vv = some (.int (p 0)) ∧ I' = I ∧ L' = L) := by
  refine CS.of (cc := cX8_leg) (maxL := 4) (ret := (some .int)) (by decide) rfl (Nat.le_of_ble_eq_true rfl) ?_
  intro pg en sg mg below meth cg ls S hr hlk hX G hl
  have S : CallFix pg mg cg cX8_leg 4 sg _ wsX8_leg RX8 := S
  have hl : lv_has ls 4 [(0, .ref (E.2.2.2 0)), (1, .int (3 : Int32)), (2, .int (0 : Int32))] := hl
  refine lv_iload_n S.1 S.2.1 dX8_leg_0 rfl (lv_at hl 1 rfl) ?_
  refine s_callS (As := [.int (3 : Int32)]) (rest := []) S hX G (k_X8_isLeg l E (3 : Int32)) (va_cwS (bytes := cX8_isLeg) (maxL := 1) (ret := (some .boolean)) 1 S.2.2.2.2 gX8_leg_X8_isLeg rfl rfl rfl (by decide +kernel) ⟨Nat.le_of_ble_eq_true rfl, Nat.le_of_ble_eq_true rfl⟩) rfl hl.1 rfl (Nat.le_of_ble_eq_true rfl) ⟨Nat.zero_le _, Nat.zero_le _⟩ dX8_leg_1 (fun v I1 L1 H locs hR G => ?_)
  obtain ⟨hv, hI, hL⟩ := hR
  subst hv
  have G : GS E I L sg H locs := G.same hI hL
  refine W.eq (g2 := F0 mg 4 ls [.int (if ¬ (3 : Int32) < (0 : Int32) ∧ ¬ (3 : Int32) < (3 : Int32) then 1 else 0)]) rfl ?_
  refine s_if_ne_b (P := ¬ (3 : Int32) < (0 : Int32) ∧ ¬ (3 : Int32) < (3 : Int32)) (tgt := 10) S dX8_leg_4 (by decide) (fun _ => ?_) (fun h => absurd (by decide) h)
  refine lv_aload_n S.1 S.2.1 dX8_leg_10 rfl (lv_at hl 0 rfl) ?_
  refine s_get S hX G (i := 0) (kd := 8) (a := (I 0)) (v := .ref (E.2.2.2 1)) (C := RX8) (T := TX8) (N := 4) 0 (rfl : sh 0 = 8) rfl rfl rfl (by decide) rfl (fun _ h => (List.mem_cons_of_mem _ (List.mem_append_left _ (List.mem_append_left _ (List.mem_append_left _ (List.mem_append_left _ (List.mem_append_right _ h))))))) (by decide) (List.mem_of_getElem? (i := 2) rfl) (fun _ h => h) dX8_leg_11 ?_
  refine lv_iload_n S.1 S.2.1 dX8_leg_14 rfl (lv_at hl 1 rfl) ?_
  refine s_callV (C := RX0) (As := [.int (3 : Int32)]) (rest := []) (i := 1) (kd := 0) S hX G (k_X0_legAt_3 l E 1 (by unfold IsB; decide)) (cwV (bytes := cX0_legAt) (maxL := 3) (ret := (some (.object "BridgeLegs$Leg"))) 1 S.2.2.2.2 gX8_leg_X0_legAt rfl rfl rfl (by decide +kernel) ⟨Nat.le_of_ble_eq_true rfl, Nat.le_of_ble_eq_true rfl⟩) (rfl : sh 1 = 0) rfl rfl rfl (by decide) rfl hl.1 rfl (Nat.le_of_ble_eq_true rfl) ⟨Nat.zero_le _, Nat.zero_le _⟩ dX8_leg_15 (fun v I1 L1 H locs hR G => ?_)
  obtain ⟨hv, hI, hL⟩ := hR
  subst hv
  have G : GS E I L sg H locs := G.same hI hL
  refine W.eq (g2 := F0 mg 18 ls [.ref (E.2.2.2 13)]) rfl ?_
  refine lv_astore_n (lv' := [(3, .ref (E.2.2.2 13)), (0, .ref (E.2.2.2 0)), (1, .int (3 : Int32)), (2, .int (0 : Int32))]) S.1 S.2.1 dX8_leg_18 rfl hl (by decide) rfl (fun ls hl => ?_)
  refine lv_iload_n S.1 S.2.1 dX8_leg_19 rfl (lv_at hl 3 rfl) ?_
  refine lv_tableIn (off := 48) (tgt := 68) S.1 S.2.1 dX8_leg_20 (by decide) (by decide) (by decide) (by decide) ?_
  refine lv_aload_n S.1 S.2.1 dX8_leg_68 rfl (lv_at hl 0 rfl) ?_
  refine s_getN S hX G (i := 13) (kd := 4) (a := p) (v := .int (p 0)) (C := RX4) (T := TX4) (N := 7) 0 (rfl : sh 13 = 4) e_p rfl rfl (by decide) rfl (fun _ h => (List.mem_cons_of_mem _ (List.mem_append_left _ (List.mem_append_left _ (List.mem_append_left _ (List.mem_append_right _ h)))))) (by decide) (List.mem_of_getElem? (i := 0) rfl) (fun _ h => h) dX8_leg_69 ?_
  refine s_iret (x := (p 0)) S G hr hlk dX8_leg_72 ?_
  exact ⟨rfl, rfl, rfl⟩
set_option maxHeartbeats 4000000 in
set_option maxRecDepth 100000 in
theorem k_X8_leg_3_1 (l : Launch) (E : Ev) {I : SI} {L : SL} (p : Nat → Int32) (e_p : I (13) = p) : CS l yX8_leg wsX8_leg ({ frames := 2, cells := 0, slots := 0, locals := 43 }) E [.ref (E.2.2.2 0), .int (3 : Int32), .int (1 : Int32)] I L (fun vv I' L' => vv = some (.int (p 1)) ∧ I' = I ∧ L' = L) := by
  refine CS.of (cc := cX8_leg) (maxL := 4) (ret := (some .int)) (by decide) rfl (Nat.le_of_ble_eq_true rfl) ?_
  intro pg en sg mg below meth cg ls S hr hlk hX G hl
  have S : CallFix pg mg cg cX8_leg 4 sg _ wsX8_leg RX8 := S
  have hl : lv_has ls 4 [(0, .ref (E.2.2.2 0)), (1, .int (3 : Int32)), (2, .int (1 : Int32))] := hl
  refine lv_iload_n S.1 S.2.1 dX8_leg_0 rfl (lv_at hl 1 rfl) ?_
  refine s_callS (As := [.int (3 : Int32)]) (rest := []) S hX G (k_X8_isLeg l E (3 : Int32)) (va_cwS (bytes := cX8_isLeg) (maxL := 1) (ret := (some .boolean)) 1 S.2.2.2.2 gX8_leg_X8_isLeg rfl rfl rfl (by decide +kernel) ⟨Nat.le_of_ble_eq_true rfl, Nat.le_of_ble_eq_true rfl⟩) rfl hl.1 rfl (Nat.le_of_ble_eq_true rfl) ⟨Nat.zero_le _, Nat.zero_le _⟩ dX8_leg_1 (fun v I1 L1 H locs hR G => ?_)
  obtain ⟨hv, hI, hL⟩ := hR
  subst hv
  have G : GS E I L sg H locs := G.same hI hL
  refine W.eq (g2 := F0 mg 4 ls [.int (if ¬ (3 : Int32) < (0 : Int32) ∧ ¬ (3 : Int32) < (3 : Int32) then 1 else 0)]) rfl ?_
  refine s_if_ne_b (P := ¬ (3 : Int32) < (0 : Int32) ∧ ¬ (3 : Int32) < (3 : Int32)) (tgt := 10) S dX8_leg_4 (by decide) (fun _ => ?_) (fun h => absurd (by decide) h)
  refine lv_aload_n S.1 S.2.1 dX8_leg_10 rfl (lv_at hl 0 rfl) ?_
  refine s_get S hX G (i := 0) (kd := 8) (a := (I 0)) (v := .ref (E.2.2.2 1)) (C := RX8) (T := TX8) (N := 4) 0 (rfl : sh 0 = 8) rfl rfl rfl (by decide) rfl (fun _ h => (List.mem_cons_of_mem _ (List.mem_append_left _ (List.mem_append_left _ (List.mem_append_left _ (List.mem_append_left _ (List.mem_append_right _ h))))))) (by decide) (List.mem_of_getElem? (i := 2) rfl) (fun _ h => h) dX8_leg_11 ?_
  refine lv_iload_n S.1 S.2.1 dX8_leg_14 rfl (lv_at hl 1 rfl) ?_
  refine s_callV (C := RX0) (As := [.int (3 : Int32)]) (rest := []) (i := 1) (kd := 0) S hX G (k_X0_legAt_3 l E 1 (by unfold IsB; decide)) (cwV (bytes := cX0_legAt) (maxL := 3) (ret := (some (.object "BridgeLegs$Leg"))) 1 S.2.2.2.2 gX8_leg_X0_legAt rfl rfl rfl (by decide +kernel) ⟨Nat.le_of_ble_eq_true rfl, Nat.le_of_ble_eq_true rfl⟩) (rfl : sh 1 = 0) rfl rfl rfl (by decide) rfl hl.1 rfl (Nat.le_of_ble_eq_true rfl) ⟨Nat.zero_le _, Nat.zero_le _⟩ dX8_leg_15 (fun v I1 L1 H locs hR G => ?_)
  obtain ⟨hv, hI, hL⟩ := hR
  subst hv
  have G : GS E I L sg H locs := G.same hI hL
  refine W.eq (g2 := F0 mg 18 ls [.ref (E.2.2.2 13)]) rfl ?_
  refine lv_astore_n (lv' := [(3, .ref (E.2.2.2 13)), (0, .ref (E.2.2.2 0)), (1, .int (3 : Int32)), (2, .int (1 : Int32))]) S.1 S.2.1 dX8_leg_18 rfl hl (by decide) rfl (fun ls hl => ?_)
  refine lv_iload_n S.1 S.2.1 dX8_leg_19 rfl (lv_at hl 3 rfl) ?_
  refine lv_tableIn (off := 53) (tgt := 73) S.1 S.2.1 dX8_leg_20 (by decide) (by decide) (by decide) (by decide) ?_
  refine lv_aload_n S.1 S.2.1 dX8_leg_73 rfl (lv_at hl 0 rfl) ?_
  refine s_getN S hX G (i := 13) (kd := 4) (a := p) (v := .int (p 1)) (C := RX4) (T := TX4) (N := 7) 1 (rfl : sh 13 = 4) e_p rfl rfl (by decide) rfl (fun _ h => (List.mem_cons_of_mem _ (List.mem_append_left _ (List.mem_append_left _ (List.mem_append_left _ (List.mem_append_right _ h)))))) (by decide) (List.mem_of_getElem? (i := 3) rfl) (fun _ h => h) dX8_leg_74 ?_
  refine s_iret (x := (p 1)) S G hr hlk dX8_leg_77 ?_
  exact ⟨rfl, rfl, rfl⟩
set_option maxHeartbeats 4000000 in
set_option maxRecDepth 100000 in
theorem k_X8_leg_3_2 (l : Launch) (E : Ev) {I : SI} {L : SL} (b : Nat → Int32) (p : Nat → Int32) (q : Nat → Int32) (n : Nat → Int32) (e_b : I (11) = b) (e_p : I (12) = p) (e_q : I (13) = q) (e_n : I (16) = n) : CS l yX8_leg wsX8_leg ({ frames := 2, cells := 0, slots := 0, locals := 43 }) E [.ref (E.2.2.2 0), .int (3 : Int32), .int (2 : Int32)] I L (fun vv I' L' => vv = some (.int (sWishF q n)) ∧ I' = I ∧ L' = L) := by
  refine CS.of (cc := cX8_leg) (maxL := 4) (ret := (some .int)) (by decide) rfl (Nat.le_of_ble_eq_true rfl) ?_
  intro pg en sg mg below meth cg ls S hr hlk hX G hl
  have S : CallFix pg mg cg cX8_leg 4 sg _ wsX8_leg RX8 := S
  have hl : lv_has ls 4 [(0, .ref (E.2.2.2 0)), (1, .int (3 : Int32)), (2, .int (2 : Int32))] := hl
  refine lv_iload_n S.1 S.2.1 dX8_leg_0 rfl (lv_at hl 1 rfl) ?_
  refine s_callS (As := [.int (3 : Int32)]) (rest := []) S hX G (k_X8_isLeg l E (3 : Int32)) (va_cwS (bytes := cX8_isLeg) (maxL := 1) (ret := (some .boolean)) 1 S.2.2.2.2 gX8_leg_X8_isLeg rfl rfl rfl (by decide +kernel) ⟨Nat.le_of_ble_eq_true rfl, Nat.le_of_ble_eq_true rfl⟩) rfl hl.1 rfl (Nat.le_of_ble_eq_true rfl) ⟨Nat.zero_le _, Nat.zero_le _⟩ dX8_leg_1 (fun v I1 L1 H locs hR G => ?_)
  obtain ⟨hv, hI, hL⟩ := hR
  subst hv
  have G : GS E I L sg H locs := G.same hI hL
  refine W.eq (g2 := F0 mg 4 ls [.int (if ¬ (3 : Int32) < (0 : Int32) ∧ ¬ (3 : Int32) < (3 : Int32) then 1 else 0)]) rfl ?_
  refine s_if_ne_b (P := ¬ (3 : Int32) < (0 : Int32) ∧ ¬ (3 : Int32) < (3 : Int32)) (tgt := 10) S dX8_leg_4 (by decide) (fun _ => ?_) (fun h => absurd (by decide) h)
  refine lv_aload_n S.1 S.2.1 dX8_leg_10 rfl (lv_at hl 0 rfl) ?_
  refine s_get S hX G (i := 0) (kd := 8) (a := (I 0)) (v := .ref (E.2.2.2 1)) (C := RX8) (T := TX8) (N := 4) 0 (rfl : sh 0 = 8) rfl rfl rfl (by decide) rfl (fun _ h => (List.mem_cons_of_mem _ (List.mem_append_left _ (List.mem_append_left _ (List.mem_append_left _ (List.mem_append_left _ (List.mem_append_right _ h))))))) (by decide) (List.mem_of_getElem? (i := 2) rfl) (fun _ h => h) dX8_leg_11 ?_
  refine lv_iload_n S.1 S.2.1 dX8_leg_14 rfl (lv_at hl 1 rfl) ?_
  refine s_callV (C := RX0) (As := [.int (3 : Int32)]) (rest := []) (i := 1) (kd := 0) S hX G (k_X0_legAt_3 l E 1 (by unfold IsB; decide)) (cwV (bytes := cX0_legAt) (maxL := 3) (ret := (some (.object "BridgeLegs$Leg"))) 1 S.2.2.2.2 gX8_leg_X0_legAt rfl rfl rfl (by decide +kernel) ⟨Nat.le_of_ble_eq_true rfl, Nat.le_of_ble_eq_true rfl⟩) (rfl : sh 1 = 0) rfl rfl rfl (by decide) rfl hl.1 rfl (Nat.le_of_ble_eq_true rfl) ⟨Nat.zero_le _, Nat.zero_le _⟩ dX8_leg_15 (fun v I1 L1 H locs hR G => ?_)
  obtain ⟨hv, hI, hL⟩ := hR
  subst hv
  have G : GS E I L sg H locs := G.same hI hL
  refine W.eq (g2 := F0 mg 18 ls [.ref (E.2.2.2 13)]) rfl ?_
  refine lv_astore_n (lv' := [(3, .ref (E.2.2.2 13)), (0, .ref (E.2.2.2 0)), (1, .int (3 : Int32)), (2, .int (2 : Int32))]) S.1 S.2.1 dX8_leg_18 rfl hl (by decide) rfl (fun ls hl => ?_)
  refine lv_iload_n S.1 S.2.1 dX8_leg_19 rfl (lv_at hl 3 rfl) ?_
  refine lv_tableIn (off := 58) (tgt := 78) S.1 S.2.1 dX8_leg_20 (by decide) (by decide) (by decide) (by decide) ?_
  refine lv_aload_n S.1 S.2.1 dX8_leg_78 rfl (lv_at hl 1 rfl) ?_
  refine s_get S hX G (i := 0) (kd := 8) (a := (I 0)) (v := .ref (E.2.2.2 1)) (C := RX8) (T := TX8) (N := 4) 0 (rfl : sh 0 = 8) rfl rfl rfl (by decide) rfl (fun _ h => (List.mem_cons_of_mem _ (List.mem_append_left _ (List.mem_append_left _ (List.mem_append_left _ (List.mem_append_left _ (List.mem_append_right _ h))))))) (by decide) (List.mem_of_getElem? (i := 2) rfl) (fun _ h => h) dX8_leg_79 ?_
  refine lv_iload_n S.1 S.2.1 dX8_leg_82 rfl (lv_at hl 2 rfl) ?_
  refine s_callV (C := RX0) (As := [.int (3 : Int32)]) (rest := []) (i := 1) (kd := 0) S hX G (k_X0_wishOf_3 l E 1 b p q n (by unfold IsB; decide) e_b e_p e_q e_n) (cwV (bytes := cX0_wishOf) (maxL := 3) (ret := (some .int)) 1 S.2.2.2.2 gX8_leg_X0_wishOf rfl rfl rfl (by decide +kernel) ⟨Nat.le_of_ble_eq_true rfl, Nat.le_of_ble_eq_true rfl⟩) (rfl : sh 1 = 0) rfl rfl rfl (by decide) rfl hl.1 rfl (Nat.le_of_ble_eq_true rfl) ⟨Nat.zero_le _, Nat.zero_le _⟩ dX8_leg_83 (fun v I1 L1 H locs hR G => ?_)
  obtain ⟨hv, hI, hL⟩ := hR
  subst hv
  have G : GS E I L sg H locs := G.same hI hL
  refine W.eq (g2 := F0 mg 86 ls [.int (sWishF q n)]) rfl ?_
  refine lv_topi (fun y_1 ey_1 => ?_)
  refine s_iret (x := y_1) S G hr hlk dX8_leg_86 ?_
  exact ⟨(congrArg (fun q : Int32 => some (Value.int q)) (show y_1 = (sWishF q n) by subst ey_1; rfl)), rfl, rfl⟩
set_option maxHeartbeats 4000000 in
set_option maxRecDepth 100000 in
theorem k_X8_leg_3_3 (l : Launch) (E : Ev) {I : SI} {L : SL} (p : Nat → Int32) (e_p : I (13) = p) : CS l yX8_leg wsX8_leg ({ frames := 2, cells := 0, slots := 0, locals := 43 }) E [.ref (E.2.2.2 0), .int (3 : Int32), .int (3 : Int32)] I L (fun vv I' L' => vv = some (.int (p 2)) ∧ I' = I ∧ L' = L) := by
  refine CS.of (cc := cX8_leg) (maxL := 4) (ret := (some .int)) (by decide) rfl (Nat.le_of_ble_eq_true rfl) ?_
  intro pg en sg mg below meth cg ls S hr hlk hX G hl
  have S : CallFix pg mg cg cX8_leg 4 sg _ wsX8_leg RX8 := S
  have hl : lv_has ls 4 [(0, .ref (E.2.2.2 0)), (1, .int (3 : Int32)), (2, .int (3 : Int32))] := hl
  refine lv_iload_n S.1 S.2.1 dX8_leg_0 rfl (lv_at hl 1 rfl) ?_
  refine s_callS (As := [.int (3 : Int32)]) (rest := []) S hX G (k_X8_isLeg l E (3 : Int32)) (va_cwS (bytes := cX8_isLeg) (maxL := 1) (ret := (some .boolean)) 1 S.2.2.2.2 gX8_leg_X8_isLeg rfl rfl rfl (by decide +kernel) ⟨Nat.le_of_ble_eq_true rfl, Nat.le_of_ble_eq_true rfl⟩) rfl hl.1 rfl (Nat.le_of_ble_eq_true rfl) ⟨Nat.zero_le _, Nat.zero_le _⟩ dX8_leg_1 (fun v I1 L1 H locs hR G => ?_)
  obtain ⟨hv, hI, hL⟩ := hR
  subst hv
  have G : GS E I L sg H locs := G.same hI hL
  refine W.eq (g2 := F0 mg 4 ls [.int (if ¬ (3 : Int32) < (0 : Int32) ∧ ¬ (3 : Int32) < (3 : Int32) then 1 else 0)]) rfl ?_
  refine s_if_ne_b (P := ¬ (3 : Int32) < (0 : Int32) ∧ ¬ (3 : Int32) < (3 : Int32)) (tgt := 10) S dX8_leg_4 (by decide) (fun _ => ?_) (fun h => absurd (by decide) h)
  refine lv_aload_n S.1 S.2.1 dX8_leg_10 rfl (lv_at hl 0 rfl) ?_
  refine s_get S hX G (i := 0) (kd := 8) (a := (I 0)) (v := .ref (E.2.2.2 1)) (C := RX8) (T := TX8) (N := 4) 0 (rfl : sh 0 = 8) rfl rfl rfl (by decide) rfl (fun _ h => (List.mem_cons_of_mem _ (List.mem_append_left _ (List.mem_append_left _ (List.mem_append_left _ (List.mem_append_left _ (List.mem_append_right _ h))))))) (by decide) (List.mem_of_getElem? (i := 2) rfl) (fun _ h => h) dX8_leg_11 ?_
  refine lv_iload_n S.1 S.2.1 dX8_leg_14 rfl (lv_at hl 1 rfl) ?_
  refine s_callV (C := RX0) (As := [.int (3 : Int32)]) (rest := []) (i := 1) (kd := 0) S hX G (k_X0_legAt_3 l E 1 (by unfold IsB; decide)) (cwV (bytes := cX0_legAt) (maxL := 3) (ret := (some (.object "BridgeLegs$Leg"))) 1 S.2.2.2.2 gX8_leg_X0_legAt rfl rfl rfl (by decide +kernel) ⟨Nat.le_of_ble_eq_true rfl, Nat.le_of_ble_eq_true rfl⟩) (rfl : sh 1 = 0) rfl rfl rfl (by decide) rfl hl.1 rfl (Nat.le_of_ble_eq_true rfl) ⟨Nat.zero_le _, Nat.zero_le _⟩ dX8_leg_15 (fun v I1 L1 H locs hR G => ?_)
  obtain ⟨hv, hI, hL⟩ := hR
  subst hv
  have G : GS E I L sg H locs := G.same hI hL
  refine W.eq (g2 := F0 mg 18 ls [.ref (E.2.2.2 13)]) rfl ?_
  refine lv_astore_n (lv' := [(3, .ref (E.2.2.2 13)), (0, .ref (E.2.2.2 0)), (1, .int (3 : Int32)), (2, .int (3 : Int32))]) S.1 S.2.1 dX8_leg_18 rfl hl (by decide) rfl (fun ls hl => ?_)
  refine lv_iload_n S.1 S.2.1 dX8_leg_19 rfl (lv_at hl 3 rfl) ?_
  refine lv_tableIn (off := 67) (tgt := 87) S.1 S.2.1 dX8_leg_20 (by decide) (by decide) (by decide) (by decide) ?_
  refine lv_aload_n S.1 S.2.1 dX8_leg_87 rfl (lv_at hl 0 rfl) ?_
  refine s_getN S hX G (i := 13) (kd := 4) (a := p) (v := .int (p 2)) (C := RX4) (T := TX4) (N := 7) 2 (rfl : sh 13 = 4) e_p rfl rfl (by decide) rfl (fun _ h => (List.mem_cons_of_mem _ (List.mem_append_left _ (List.mem_append_left _ (List.mem_append_left _ (List.mem_append_right _ h)))))) (by decide) (List.mem_of_getElem? (i := 5) rfl) (fun _ h => h) dX8_leg_88 ?_
  refine s_iret (x := (p 2)) S G hr hlk dX8_leg_91 ?_
  exact ⟨rfl, rfl, rfl⟩
set_option maxHeartbeats 4000000 in
set_option maxRecDepth 100000 in
theorem k_X8_leg_3_4 (l : Launch) (E : Ev) {I : SI} {L : SL} (p : Nat → Int32) (e_p : I (13) = p) : CS l yX8_leg wsX8_leg ({ frames := 2, cells := 0, slots := 0, locals := 43 }) E [.ref (E.2.2.2 0), .int (3 : Int32), .int (4 : Int32)] I L (fun vv I' L' => vv = some (.int (p 3)) ∧ I' = I ∧ L' = L) := by
  refine CS.of (cc := cX8_leg) (maxL := 4) (ret := (some .int)) (by decide) rfl (Nat.le_of_ble_eq_true rfl) ?_
  intro pg en sg mg below meth cg ls S hr hlk hX G hl
  have S : CallFix pg mg cg cX8_leg 4 sg _ wsX8_leg RX8 := S
  have hl : lv_has ls 4 [(0, .ref (E.2.2.2 0)), (1, .int (3 : Int32)), (2, .int (4 : Int32))] := hl
  refine lv_iload_n S.1 S.2.1 dX8_leg_0 rfl (lv_at hl 1 rfl) ?_
  refine s_callS (As := [.int (3 : Int32)]) (rest := []) S hX G (k_X8_isLeg l E (3 : Int32)) (va_cwS (bytes := cX8_isLeg) (maxL := 1) (ret := (some .boolean)) 1 S.2.2.2.2 gX8_leg_X8_isLeg rfl rfl rfl (by decide +kernel) ⟨Nat.le_of_ble_eq_true rfl, Nat.le_of_ble_eq_true rfl⟩) rfl hl.1 rfl (Nat.le_of_ble_eq_true rfl) ⟨Nat.zero_le _, Nat.zero_le _⟩ dX8_leg_1 (fun v I1 L1 H locs hR G => ?_)
  obtain ⟨hv, hI, hL⟩ := hR
  subst hv
  have G : GS E I L sg H locs := G.same hI hL
  refine W.eq (g2 := F0 mg 4 ls [.int (if ¬ (3 : Int32) < (0 : Int32) ∧ ¬ (3 : Int32) < (3 : Int32) then 1 else 0)]) rfl ?_
  refine s_if_ne_b (P := ¬ (3 : Int32) < (0 : Int32) ∧ ¬ (3 : Int32) < (3 : Int32)) (tgt := 10) S dX8_leg_4 (by decide) (fun _ => ?_) (fun h => absurd (by decide) h)
  refine lv_aload_n S.1 S.2.1 dX8_leg_10 rfl (lv_at hl 0 rfl) ?_
  refine s_get S hX G (i := 0) (kd := 8) (a := (I 0)) (v := .ref (E.2.2.2 1)) (C := RX8) (T := TX8) (N := 4) 0 (rfl : sh 0 = 8) rfl rfl rfl (by decide) rfl (fun _ h => (List.mem_cons_of_mem _ (List.mem_append_left _ (List.mem_append_left _ (List.mem_append_left _ (List.mem_append_left _ (List.mem_append_right _ h))))))) (by decide) (List.mem_of_getElem? (i := 2) rfl) (fun _ h => h) dX8_leg_11 ?_
  refine lv_iload_n S.1 S.2.1 dX8_leg_14 rfl (lv_at hl 1 rfl) ?_
  refine s_callV (C := RX0) (As := [.int (3 : Int32)]) (rest := []) (i := 1) (kd := 0) S hX G (k_X0_legAt_3 l E 1 (by unfold IsB; decide)) (cwV (bytes := cX0_legAt) (maxL := 3) (ret := (some (.object "BridgeLegs$Leg"))) 1 S.2.2.2.2 gX8_leg_X0_legAt rfl rfl rfl (by decide +kernel) ⟨Nat.le_of_ble_eq_true rfl, Nat.le_of_ble_eq_true rfl⟩) (rfl : sh 1 = 0) rfl rfl rfl (by decide) rfl hl.1 rfl (Nat.le_of_ble_eq_true rfl) ⟨Nat.zero_le _, Nat.zero_le _⟩ dX8_leg_15 (fun v I1 L1 H locs hR G => ?_)
  obtain ⟨hv, hI, hL⟩ := hR
  subst hv
  have G : GS E I L sg H locs := G.same hI hL
  refine W.eq (g2 := F0 mg 18 ls [.ref (E.2.2.2 13)]) rfl ?_
  refine lv_astore_n (lv' := [(3, .ref (E.2.2.2 13)), (0, .ref (E.2.2.2 0)), (1, .int (3 : Int32)), (2, .int (4 : Int32))]) S.1 S.2.1 dX8_leg_18 rfl hl (by decide) rfl (fun ls hl => ?_)
  refine lv_iload_n S.1 S.2.1 dX8_leg_19 rfl (lv_at hl 3 rfl) ?_
  refine lv_tableIn (off := 72) (tgt := 92) S.1 S.2.1 dX8_leg_20 (by decide) (by decide) (by decide) (by decide) ?_
  refine lv_aload_n S.1 S.2.1 dX8_leg_92 rfl (lv_at hl 0 rfl) ?_
  refine s_getN S hX G (i := 13) (kd := 4) (a := p) (v := .int (p 3)) (C := RX4) (T := TX4) (N := 7) 3 (rfl : sh 13 = 4) e_p rfl rfl (by decide) rfl (fun _ h => (List.mem_cons_of_mem _ (List.mem_append_left _ (List.mem_append_left _ (List.mem_append_left _ (List.mem_append_right _ h)))))) (by decide) (List.mem_of_getElem? (i := 7) rfl) (fun _ h => h) dX8_leg_93 ?_
  refine s_iret (x := (p 3)) S G hr hlk dX8_leg_96 ?_
  exact ⟨rfl, rfl, rfl⟩
set_option maxHeartbeats 4000000 in
set_option maxRecDepth 100000 in
theorem k_X8_leg_3_5 (l : Launch) (E : Ev) {I : SI} {L : SL} (p : Nat → Int32) (e_p : I (13) = p) : CS l yX8_leg wsX8_leg ({ frames := 2, cells := 0, slots := 0, locals := 43 }) E [.ref (E.2.2.2 0), .int (3 : Int32), .int (5 : Int32)] I L (fun vv I' L' => vv = some (.int (p 4)) ∧ I' = I ∧ L' = L) := by
  refine CS.of (cc := cX8_leg) (maxL := 4) (ret := (some .int)) (by decide) rfl (Nat.le_of_ble_eq_true rfl) ?_
  intro pg en sg mg below meth cg ls S hr hlk hX G hl
  have S : CallFix pg mg cg cX8_leg 4 sg _ wsX8_leg RX8 := S
  have hl : lv_has ls 4 [(0, .ref (E.2.2.2 0)), (1, .int (3 : Int32)), (2, .int (5 : Int32))] := hl
  refine lv_iload_n S.1 S.2.1 dX8_leg_0 rfl (lv_at hl 1 rfl) ?_
  refine s_callS (As := [.int (3 : Int32)]) (rest := []) S hX G (k_X8_isLeg l E (3 : Int32)) (va_cwS (bytes := cX8_isLeg) (maxL := 1) (ret := (some .boolean)) 1 S.2.2.2.2 gX8_leg_X8_isLeg rfl rfl rfl (by decide +kernel) ⟨Nat.le_of_ble_eq_true rfl, Nat.le_of_ble_eq_true rfl⟩) rfl hl.1 rfl (Nat.le_of_ble_eq_true rfl) ⟨Nat.zero_le _, Nat.zero_le _⟩ dX8_leg_1 (fun v I1 L1 H locs hR G => ?_)
  obtain ⟨hv, hI, hL⟩ := hR
  subst hv
  have G : GS E I L sg H locs := G.same hI hL
  refine W.eq (g2 := F0 mg 4 ls [.int (if ¬ (3 : Int32) < (0 : Int32) ∧ ¬ (3 : Int32) < (3 : Int32) then 1 else 0)]) rfl ?_
  refine s_if_ne_b (P := ¬ (3 : Int32) < (0 : Int32) ∧ ¬ (3 : Int32) < (3 : Int32)) (tgt := 10) S dX8_leg_4 (by decide) (fun _ => ?_) (fun h => absurd (by decide) h)
  refine lv_aload_n S.1 S.2.1 dX8_leg_10 rfl (lv_at hl 0 rfl) ?_
  refine s_get S hX G (i := 0) (kd := 8) (a := (I 0)) (v := .ref (E.2.2.2 1)) (C := RX8) (T := TX8) (N := 4) 0 (rfl : sh 0 = 8) rfl rfl rfl (by decide) rfl (fun _ h => (List.mem_cons_of_mem _ (List.mem_append_left _ (List.mem_append_left _ (List.mem_append_left _ (List.mem_append_left _ (List.mem_append_right _ h))))))) (by decide) (List.mem_of_getElem? (i := 2) rfl) (fun _ h => h) dX8_leg_11 ?_
  refine lv_iload_n S.1 S.2.1 dX8_leg_14 rfl (lv_at hl 1 rfl) ?_
  refine s_callV (C := RX0) (As := [.int (3 : Int32)]) (rest := []) (i := 1) (kd := 0) S hX G (k_X0_legAt_3 l E 1 (by unfold IsB; decide)) (cwV (bytes := cX0_legAt) (maxL := 3) (ret := (some (.object "BridgeLegs$Leg"))) 1 S.2.2.2.2 gX8_leg_X0_legAt rfl rfl rfl (by decide +kernel) ⟨Nat.le_of_ble_eq_true rfl, Nat.le_of_ble_eq_true rfl⟩) (rfl : sh 1 = 0) rfl rfl rfl (by decide) rfl hl.1 rfl (Nat.le_of_ble_eq_true rfl) ⟨Nat.zero_le _, Nat.zero_le _⟩ dX8_leg_15 (fun v I1 L1 H locs hR G => ?_)
  obtain ⟨hv, hI, hL⟩ := hR
  subst hv
  have G : GS E I L sg H locs := G.same hI hL
  refine W.eq (g2 := F0 mg 18 ls [.ref (E.2.2.2 13)]) rfl ?_
  refine lv_astore_n (lv' := [(3, .ref (E.2.2.2 13)), (0, .ref (E.2.2.2 0)), (1, .int (3 : Int32)), (2, .int (5 : Int32))]) S.1 S.2.1 dX8_leg_18 rfl hl (by decide) rfl (fun ls hl => ?_)
  refine lv_iload_n S.1 S.2.1 dX8_leg_19 rfl (lv_at hl 3 rfl) ?_
  refine lv_tableIn (off := 77) (tgt := 97) S.1 S.2.1 dX8_leg_20 (by decide) (by decide) (by decide) (by decide) ?_
  refine lv_aload_n S.1 S.2.1 dX8_leg_97 rfl (lv_at hl 0 rfl) ?_
  refine s_getN S hX G (i := 13) (kd := 4) (a := p) (v := .int (p 4)) (C := RX4) (T := TX4) (N := 7) 4 (rfl : sh 13 = 4) e_p rfl rfl (by decide) rfl (fun _ h => (List.mem_cons_of_mem _ (List.mem_append_left _ (List.mem_append_left _ (List.mem_append_left _ (List.mem_append_right _ h)))))) (by decide) (List.mem_of_getElem? (i := 8) rfl) (fun _ h => h) dX8_leg_98 ?_
  refine s_iret (x := (p 4)) S G hr hlk dX8_leg_101 ?_
  exact ⟨rfl, rfl, rfl⟩
set_option maxHeartbeats 4000000 in
set_option maxRecDepth 100000 in
theorem k_X8_leg_3_6 (l : Launch) (E : Ev) {I : SI} {L : SL} (p : Nat → Int32) (e_p : I (13) = p) : CS l yX8_leg wsX8_leg ({ frames := 2, cells := 0, slots := 0, locals := 43 }) E [.ref (E.2.2.2 0), .int (3 : Int32), .int (6 : Int32)] I L (fun vv I' L' => vv = some (.int (p 5)) ∧ I' = I ∧ L' = L) := by
  refine CS.of (cc := cX8_leg) (maxL := 4) (ret := (some .int)) (by decide) rfl (Nat.le_of_ble_eq_true rfl) ?_
  intro pg en sg mg below meth cg ls S hr hlk hX G hl
  have S : CallFix pg mg cg cX8_leg 4 sg _ wsX8_leg RX8 := S
  have hl : lv_has ls 4 [(0, .ref (E.2.2.2 0)), (1, .int (3 : Int32)), (2, .int (6 : Int32))] := hl
  refine lv_iload_n S.1 S.2.1 dX8_leg_0 rfl (lv_at hl 1 rfl) ?_
  refine s_callS (As := [.int (3 : Int32)]) (rest := []) S hX G (k_X8_isLeg l E (3 : Int32)) (va_cwS (bytes := cX8_isLeg) (maxL := 1) (ret := (some .boolean)) 1 S.2.2.2.2 gX8_leg_X8_isLeg rfl rfl rfl (by decide +kernel) ⟨Nat.le_of_ble_eq_true rfl, Nat.le_of_ble_eq_true rfl⟩) rfl hl.1 rfl (Nat.le_of_ble_eq_true rfl) ⟨Nat.zero_le _, Nat.zero_le _⟩ dX8_leg_1 (fun v I1 L1 H locs hR G => ?_)
  obtain ⟨hv, hI, hL⟩ := hR
  subst hv
  have G : GS E I L sg H locs := G.same hI hL
  refine W.eq (g2 := F0 mg 4 ls [.int (if ¬ (3 : Int32) < (0 : Int32) ∧ ¬ (3 : Int32) < (3 : Int32) then 1 else 0)]) rfl ?_
  refine s_if_ne_b (P := ¬ (3 : Int32) < (0 : Int32) ∧ ¬ (3 : Int32) < (3 : Int32)) (tgt := 10) S dX8_leg_4 (by decide) (fun _ => ?_) (fun h => absurd (by decide) h)
  refine lv_aload_n S.1 S.2.1 dX8_leg_10 rfl (lv_at hl 0 rfl) ?_
  refine s_get S hX G (i := 0) (kd := 8) (a := (I 0)) (v := .ref (E.2.2.2 1)) (C := RX8) (T := TX8) (N := 4) 0 (rfl : sh 0 = 8) rfl rfl rfl (by decide) rfl (fun _ h => (List.mem_cons_of_mem _ (List.mem_append_left _ (List.mem_append_left _ (List.mem_append_left _ (List.mem_append_left _ (List.mem_append_right _ h))))))) (by decide) (List.mem_of_getElem? (i := 2) rfl) (fun _ h => h) dX8_leg_11 ?_
  refine lv_iload_n S.1 S.2.1 dX8_leg_14 rfl (lv_at hl 1 rfl) ?_
  refine s_callV (C := RX0) (As := [.int (3 : Int32)]) (rest := []) (i := 1) (kd := 0) S hX G (k_X0_legAt_3 l E 1 (by unfold IsB; decide)) (cwV (bytes := cX0_legAt) (maxL := 3) (ret := (some (.object "BridgeLegs$Leg"))) 1 S.2.2.2.2 gX8_leg_X0_legAt rfl rfl rfl (by decide +kernel) ⟨Nat.le_of_ble_eq_true rfl, Nat.le_of_ble_eq_true rfl⟩) (rfl : sh 1 = 0) rfl rfl rfl (by decide) rfl hl.1 rfl (Nat.le_of_ble_eq_true rfl) ⟨Nat.zero_le _, Nat.zero_le _⟩ dX8_leg_15 (fun v I1 L1 H locs hR G => ?_)
  obtain ⟨hv, hI, hL⟩ := hR
  subst hv
  have G : GS E I L sg H locs := G.same hI hL
  refine W.eq (g2 := F0 mg 18 ls [.ref (E.2.2.2 13)]) rfl ?_
  refine lv_astore_n (lv' := [(3, .ref (E.2.2.2 13)), (0, .ref (E.2.2.2 0)), (1, .int (3 : Int32)), (2, .int (6 : Int32))]) S.1 S.2.1 dX8_leg_18 rfl hl (by decide) rfl (fun ls hl => ?_)
  refine lv_iload_n S.1 S.2.1 dX8_leg_19 rfl (lv_at hl 3 rfl) ?_
  refine lv_tableIn (off := 82) (tgt := 102) S.1 S.2.1 dX8_leg_20 (by decide) (by decide) (by decide) (by decide) ?_
  refine lv_aload_n S.1 S.2.1 dX8_leg_102 rfl (lv_at hl 0 rfl) ?_
  refine s_getN S hX G (i := 13) (kd := 4) (a := p) (v := .int (p 5)) (C := RX4) (T := TX4) (N := 7) 5 (rfl : sh 13 = 4) e_p rfl rfl (by decide) rfl (fun _ h => (List.mem_cons_of_mem _ (List.mem_append_left _ (List.mem_append_left _ (List.mem_append_left _ (List.mem_append_right _ h)))))) (by decide) (List.mem_of_getElem? (i := 9) rfl) (fun _ h => h) dX8_leg_103 ?_
  refine s_iret (x := (p 5)) S G hr hlk dX8_leg_106 ?_
  exact ⟨rfl, rfl, rfl⟩
set_option maxHeartbeats 4000000 in
set_option maxRecDepth 100000 in
theorem k_X8_leg_3_7 (l : Launch) (E : Ev) {I : SI} {L : SL} (p : Nat → Int32) (e_p : I (13) = p) : CS l yX8_leg wsX8_leg ({ frames := 2, cells := 0, slots := 0, locals := 43 }) E [.ref (E.2.2.2 0), .int (3 : Int32), .int (7 : Int32)] I L (fun vv I' L' => vv = some (.int (p 6)) ∧ I' = I ∧ L' = L) := by
  refine CS.of (cc := cX8_leg) (maxL := 4) (ret := (some .int)) (by decide) rfl (Nat.le_of_ble_eq_true rfl) ?_
  intro pg en sg mg below meth cg ls S hr hlk hX G hl
  have S : CallFix pg mg cg cX8_leg 4 sg _ wsX8_leg RX8 := S
  have hl : lv_has ls 4 [(0, .ref (E.2.2.2 0)), (1, .int (3 : Int32)), (2, .int (7 : Int32))] := hl
  refine lv_iload_n S.1 S.2.1 dX8_leg_0 rfl (lv_at hl 1 rfl) ?_
  refine s_callS (As := [.int (3 : Int32)]) (rest := []) S hX G (k_X8_isLeg l E (3 : Int32)) (va_cwS (bytes := cX8_isLeg) (maxL := 1) (ret := (some .boolean)) 1 S.2.2.2.2 gX8_leg_X8_isLeg rfl rfl rfl (by decide +kernel) ⟨Nat.le_of_ble_eq_true rfl, Nat.le_of_ble_eq_true rfl⟩) rfl hl.1 rfl (Nat.le_of_ble_eq_true rfl) ⟨Nat.zero_le _, Nat.zero_le _⟩ dX8_leg_1 (fun v I1 L1 H locs hR G => ?_)
  obtain ⟨hv, hI, hL⟩ := hR
  subst hv
  have G : GS E I L sg H locs := G.same hI hL
  refine W.eq (g2 := F0 mg 4 ls [.int (if ¬ (3 : Int32) < (0 : Int32) ∧ ¬ (3 : Int32) < (3 : Int32) then 1 else 0)]) rfl ?_
  refine s_if_ne_b (P := ¬ (3 : Int32) < (0 : Int32) ∧ ¬ (3 : Int32) < (3 : Int32)) (tgt := 10) S dX8_leg_4 (by decide) (fun _ => ?_) (fun h => absurd (by decide) h)
  refine lv_aload_n S.1 S.2.1 dX8_leg_10 rfl (lv_at hl 0 rfl) ?_
  refine s_get S hX G (i := 0) (kd := 8) (a := (I 0)) (v := .ref (E.2.2.2 1)) (C := RX8) (T := TX8) (N := 4) 0 (rfl : sh 0 = 8) rfl rfl rfl (by decide) rfl (fun _ h => (List.mem_cons_of_mem _ (List.mem_append_left _ (List.mem_append_left _ (List.mem_append_left _ (List.mem_append_left _ (List.mem_append_right _ h))))))) (by decide) (List.mem_of_getElem? (i := 2) rfl) (fun _ h => h) dX8_leg_11 ?_
  refine lv_iload_n S.1 S.2.1 dX8_leg_14 rfl (lv_at hl 1 rfl) ?_
  refine s_callV (C := RX0) (As := [.int (3 : Int32)]) (rest := []) (i := 1) (kd := 0) S hX G (k_X0_legAt_3 l E 1 (by unfold IsB; decide)) (cwV (bytes := cX0_legAt) (maxL := 3) (ret := (some (.object "BridgeLegs$Leg"))) 1 S.2.2.2.2 gX8_leg_X0_legAt rfl rfl rfl (by decide +kernel) ⟨Nat.le_of_ble_eq_true rfl, Nat.le_of_ble_eq_true rfl⟩) (rfl : sh 1 = 0) rfl rfl rfl (by decide) rfl hl.1 rfl (Nat.le_of_ble_eq_true rfl) ⟨Nat.zero_le _, Nat.zero_le _⟩ dX8_leg_15 (fun v I1 L1 H locs hR G => ?_)
  obtain ⟨hv, hI, hL⟩ := hR
  subst hv
  have G : GS E I L sg H locs := G.same hI hL
  refine W.eq (g2 := F0 mg 18 ls [.ref (E.2.2.2 13)]) rfl ?_
  refine lv_astore_n (lv' := [(3, .ref (E.2.2.2 13)), (0, .ref (E.2.2.2 0)), (1, .int (3 : Int32)), (2, .int (7 : Int32))]) S.1 S.2.1 dX8_leg_18 rfl hl (by decide) rfl (fun ls hl => ?_)
  refine lv_iload_n S.1 S.2.1 dX8_leg_19 rfl (lv_at hl 3 rfl) ?_
  refine lv_tableIn (off := 87) (tgt := 107) S.1 S.2.1 dX8_leg_20 (by decide) (by decide) (by decide) (by decide) ?_
  refine lv_aload_n S.1 S.2.1 dX8_leg_107 rfl (lv_at hl 0 rfl) ?_
  refine s_getN S hX G (i := 13) (kd := 4) (a := p) (v := .int (p 6)) (C := RX4) (T := TX4) (N := 7) 6 (rfl : sh 13 = 4) e_p rfl rfl (by decide) rfl (fun _ h => (List.mem_cons_of_mem _ (List.mem_append_left _ (List.mem_append_left _ (List.mem_append_left _ (List.mem_append_right _ h)))))) (by decide) (List.mem_of_getElem? (i := 10) rfl) (fun _ h => h) dX8_leg_108 ?_
  refine s_iret (x := (p 6)) S G hr hlk dX8_leg_111 ?_
  exact ⟨rfl, rfl, rfl⟩
set_option maxHeartbeats 4000000 in
set_option maxRecDepth 100000 in
theorem k_X8_leg_no (l : Launch) (E : Ev) {I : SI} {L : SL} (leg : Int32) (what : Int32) (ht : ¬ (IN3 leg ∧ INR what 0 7)) : CS l yX8_leg wsX8_leg ({ frames := 2, cells := 0, slots := 0, locals := 43 }) E [.ref (E.2.2.2 0), .int leg, .int what] I L (fun vv I' L' => vv = some (.int (-2000000001 : Int32)) ∧ I' = I ∧ L' = L) := by
  refine CS.of (cc := cX8_leg) (maxL := 4) (ret := (some .int)) (by decide) rfl (Nat.le_of_ble_eq_true rfl) ?_
  intro pg en sg mg below meth cg ls S hr hlk hX G hl
  have S : CallFix pg mg cg cX8_leg 4 sg _ wsX8_leg RX8 := S
  have hl : lv_has ls 4 [(0, .ref (E.2.2.2 0)), (1, .int leg), (2, .int what)] := hl
  refine lv_iload_n S.1 S.2.1 dX8_leg_0 rfl (lv_at hl 1 rfl) ?_
  refine s_callS (As := [.int leg]) (rest := []) S hX G (k_X8_isLeg l E leg) (va_cwS (bytes := cX8_isLeg) (maxL := 1) (ret := (some .boolean)) 1 S.2.2.2.2 gX8_leg_X8_isLeg rfl rfl rfl (by decide +kernel) ⟨Nat.le_of_ble_eq_true rfl, Nat.le_of_ble_eq_true rfl⟩) rfl hl.1 rfl (Nat.le_of_ble_eq_true rfl) ⟨Nat.zero_le _, Nat.zero_le _⟩ dX8_leg_1 (fun v I1 L1 H locs hR G => ?_)
  obtain ⟨hv, hI, hL⟩ := hR
  subst hv
  have G : GS E I L sg H locs := G.same hI hL
  refine W.eq (g2 := F0 mg 4 ls [.int (if ¬ leg < (0 : Int32) ∧ ¬ (3 : Int32) < leg then 1 else 0)]) rfl ?_
  refine s_if_ne_b (P := ¬ leg < (0 : Int32) ∧ ¬ (3 : Int32) < leg) (tgt := 10) S dX8_leg_4 (by decide) (fun c_1 => ?_) (fun c_1 => ?_)
  · rcases in_le3 c_1 with rfl | rfl | rfl | rfl
    · refine lv_aload_n S.1 S.2.1 dX8_leg_10 rfl (lv_at hl 0 rfl) ?_
      refine s_get S hX G (i := 0) (kd := 8) (a := (I 0)) (v := .ref (E.2.2.2 1)) (C := RX8) (T := TX8) (N := 4) 0 (rfl : sh 0 = 8) rfl rfl rfl (by decide) rfl (fun _ h => (List.mem_cons_of_mem _ (List.mem_append_left _ (List.mem_append_left _ (List.mem_append_left _ (List.mem_append_left _ (List.mem_append_right _ h))))))) (by decide) (List.mem_of_getElem? (i := 2) rfl) (fun _ h => h) dX8_leg_11 ?_
      refine lv_iload_n S.1 S.2.1 dX8_leg_14 rfl (lv_at hl 1 rfl) ?_
      refine s_callV (C := RX0) (As := [.int (0 : Int32)]) (rest := []) (i := 1) (kd := 0) S hX G (k_X0_legAt_0 l E 1 (by unfold IsB; decide)) (cwV (bytes := cX0_legAt) (maxL := 3) (ret := (some (.object "BridgeLegs$Leg"))) 1 S.2.2.2.2 gX8_leg_X0_legAt rfl rfl rfl (by decide +kernel) ⟨Nat.le_of_ble_eq_true rfl, Nat.le_of_ble_eq_true rfl⟩) (rfl : sh 1 = 0) rfl rfl rfl (by decide) rfl hl.1 rfl (Nat.le_of_ble_eq_true rfl) ⟨Nat.zero_le _, Nat.zero_le _⟩ dX8_leg_15 (fun v I1 L1 H locs hR G => ?_)
      obtain ⟨hv, hI, hL⟩ := hR
      subst hv
      have G : GS E I L sg H locs := G.same hI hL
      refine W.eq (g2 := F0 mg 18 ls [.ref (E.2.2.2 3)]) rfl ?_
      refine lv_astore_n (lv' := [(3, .ref (E.2.2.2 3)), (0, .ref (E.2.2.2 0)), (1, .int (0 : Int32)), (2, .int what)]) S.1 S.2.1 dX8_leg_18 rfl hl (by decide) rfl (fun ls hl => ?_)
      refine lv_iload_n S.1 S.2.1 dX8_leg_19 rfl (lv_at hl 3 rfl) ?_
      refine lv_tableOut (tgt := 112) S.1 S.2.1 dX8_leg_20 (out_g (a := 0) (b := 7) (by decide) (by decide) (fun q => ht ⟨(by decide), q⟩)) (by decide) ?_
      refine lv_ldc (v := (-2000000001 : Int32)) S.1 S.2.1 S.2.2.2.1 (S.2.2.2.2 _ (List.mem_of_getElem? (i := 1) rfl)) dX8_leg_112 ?_
      refine s_iret (x := (-2000000001 : Int32)) S G hr hlk dX8_leg_114 ?_
      exact ⟨rfl, rfl, rfl⟩
    · refine lv_aload_n S.1 S.2.1 dX8_leg_10 rfl (lv_at hl 0 rfl) ?_
      refine s_get S hX G (i := 0) (kd := 8) (a := (I 0)) (v := .ref (E.2.2.2 1)) (C := RX8) (T := TX8) (N := 4) 0 (rfl : sh 0 = 8) rfl rfl rfl (by decide) rfl (fun _ h => (List.mem_cons_of_mem _ (List.mem_append_left _ (List.mem_append_left _ (List.mem_append_left _ (List.mem_append_left _ (List.mem_append_right _ h))))))) (by decide) (List.mem_of_getElem? (i := 2) rfl) (fun _ h => h) dX8_leg_11 ?_
      refine lv_iload_n S.1 S.2.1 dX8_leg_14 rfl (lv_at hl 1 rfl) ?_
      refine s_callV (C := RX0) (As := [.int (1 : Int32)]) (rest := []) (i := 1) (kd := 0) S hX G (k_X0_legAt_1 l E 1 (by unfold IsB; decide)) (cwV (bytes := cX0_legAt) (maxL := 3) (ret := (some (.object "BridgeLegs$Leg"))) 1 S.2.2.2.2 gX8_leg_X0_legAt rfl rfl rfl (by decide +kernel) ⟨Nat.le_of_ble_eq_true rfl, Nat.le_of_ble_eq_true rfl⟩) (rfl : sh 1 = 0) rfl rfl rfl (by decide) rfl hl.1 rfl (Nat.le_of_ble_eq_true rfl) ⟨Nat.zero_le _, Nat.zero_le _⟩ dX8_leg_15 (fun v I1 L1 H locs hR G => ?_)
      obtain ⟨hv, hI, hL⟩ := hR
      subst hv
      have G : GS E I L sg H locs := G.same hI hL
      refine W.eq (g2 := F0 mg 18 ls [.ref (E.2.2.2 4)]) rfl ?_
      refine lv_astore_n (lv' := [(3, .ref (E.2.2.2 4)), (0, .ref (E.2.2.2 0)), (1, .int (1 : Int32)), (2, .int what)]) S.1 S.2.1 dX8_leg_18 rfl hl (by decide) rfl (fun ls hl => ?_)
      refine lv_iload_n S.1 S.2.1 dX8_leg_19 rfl (lv_at hl 3 rfl) ?_
      refine lv_tableOut (tgt := 112) S.1 S.2.1 dX8_leg_20 (out_g (a := 0) (b := 7) (by decide) (by decide) (fun q => ht ⟨(by decide), q⟩)) (by decide) ?_
      refine lv_ldc (v := (-2000000001 : Int32)) S.1 S.2.1 S.2.2.2.1 (S.2.2.2.2 _ (List.mem_of_getElem? (i := 1) rfl)) dX8_leg_112 ?_
      refine s_iret (x := (-2000000001 : Int32)) S G hr hlk dX8_leg_114 ?_
      exact ⟨rfl, rfl, rfl⟩
    · refine lv_aload_n S.1 S.2.1 dX8_leg_10 rfl (lv_at hl 0 rfl) ?_
      refine s_get S hX G (i := 0) (kd := 8) (a := (I 0)) (v := .ref (E.2.2.2 1)) (C := RX8) (T := TX8) (N := 4) 0 (rfl : sh 0 = 8) rfl rfl rfl (by decide) rfl (fun _ h => (List.mem_cons_of_mem _ (List.mem_append_left _ (List.mem_append_left _ (List.mem_append_left _ (List.mem_append_left _ (List.mem_append_right _ h))))))) (by decide) (List.mem_of_getElem? (i := 2) rfl) (fun _ h => h) dX8_leg_11 ?_
      refine lv_iload_n S.1 S.2.1 dX8_leg_14 rfl (lv_at hl 1 rfl) ?_
      refine s_callV (C := RX0) (As := [.int (2 : Int32)]) (rest := []) (i := 1) (kd := 0) S hX G (k_X0_legAt_2 l E 1 (by unfold IsB; decide)) (cwV (bytes := cX0_legAt) (maxL := 3) (ret := (some (.object "BridgeLegs$Leg"))) 1 S.2.2.2.2 gX8_leg_X0_legAt rfl rfl rfl (by decide +kernel) ⟨Nat.le_of_ble_eq_true rfl, Nat.le_of_ble_eq_true rfl⟩) (rfl : sh 1 = 0) rfl rfl rfl (by decide) rfl hl.1 rfl (Nat.le_of_ble_eq_true rfl) ⟨Nat.zero_le _, Nat.zero_le _⟩ dX8_leg_15 (fun v I1 L1 H locs hR G => ?_)
      obtain ⟨hv, hI, hL⟩ := hR
      subst hv
      have G : GS E I L sg H locs := G.same hI hL
      refine W.eq (g2 := F0 mg 18 ls [.ref (E.2.2.2 12)]) rfl ?_
      refine lv_astore_n (lv' := [(3, .ref (E.2.2.2 12)), (0, .ref (E.2.2.2 0)), (1, .int (2 : Int32)), (2, .int what)]) S.1 S.2.1 dX8_leg_18 rfl hl (by decide) rfl (fun ls hl => ?_)
      refine lv_iload_n S.1 S.2.1 dX8_leg_19 rfl (lv_at hl 3 rfl) ?_
      refine lv_tableOut (tgt := 112) S.1 S.2.1 dX8_leg_20 (out_g (a := 0) (b := 7) (by decide) (by decide) (fun q => ht ⟨(by decide), q⟩)) (by decide) ?_
      refine lv_ldc (v := (-2000000001 : Int32)) S.1 S.2.1 S.2.2.2.1 (S.2.2.2.2 _ (List.mem_of_getElem? (i := 1) rfl)) dX8_leg_112 ?_
      refine s_iret (x := (-2000000001 : Int32)) S G hr hlk dX8_leg_114 ?_
      exact ⟨rfl, rfl, rfl⟩
    · refine lv_aload_n S.1 S.2.1 dX8_leg_10 rfl (lv_at hl 0 rfl) ?_
      refine s_get S hX G (i := 0) (kd := 8) (a := (I 0)) (v := .ref (E.2.2.2 1)) (C := RX8) (T := TX8) (N := 4) 0 (rfl : sh 0 = 8) rfl rfl rfl (by decide) rfl (fun _ h => (List.mem_cons_of_mem _ (List.mem_append_left _ (List.mem_append_left _ (List.mem_append_left _ (List.mem_append_left _ (List.mem_append_right _ h))))))) (by decide) (List.mem_of_getElem? (i := 2) rfl) (fun _ h => h) dX8_leg_11 ?_
      refine lv_iload_n S.1 S.2.1 dX8_leg_14 rfl (lv_at hl 1 rfl) ?_
      refine s_callV (C := RX0) (As := [.int (3 : Int32)]) (rest := []) (i := 1) (kd := 0) S hX G (k_X0_legAt_3 l E 1 (by unfold IsB; decide)) (cwV (bytes := cX0_legAt) (maxL := 3) (ret := (some (.object "BridgeLegs$Leg"))) 1 S.2.2.2.2 gX8_leg_X0_legAt rfl rfl rfl (by decide +kernel) ⟨Nat.le_of_ble_eq_true rfl, Nat.le_of_ble_eq_true rfl⟩) (rfl : sh 1 = 0) rfl rfl rfl (by decide) rfl hl.1 rfl (Nat.le_of_ble_eq_true rfl) ⟨Nat.zero_le _, Nat.zero_le _⟩ dX8_leg_15 (fun v I1 L1 H locs hR G => ?_)
      obtain ⟨hv, hI, hL⟩ := hR
      subst hv
      have G : GS E I L sg H locs := G.same hI hL
      refine W.eq (g2 := F0 mg 18 ls [.ref (E.2.2.2 13)]) rfl ?_
      refine lv_astore_n (lv' := [(3, .ref (E.2.2.2 13)), (0, .ref (E.2.2.2 0)), (1, .int (3 : Int32)), (2, .int what)]) S.1 S.2.1 dX8_leg_18 rfl hl (by decide) rfl (fun ls hl => ?_)
      refine lv_iload_n S.1 S.2.1 dX8_leg_19 rfl (lv_at hl 3 rfl) ?_
      refine lv_tableOut (tgt := 112) S.1 S.2.1 dX8_leg_20 (out_g (a := 0) (b := 7) (by decide) (by decide) (fun q => ht ⟨(by decide), q⟩)) (by decide) ?_
      refine lv_ldc (v := (-2000000001 : Int32)) S.1 S.2.1 S.2.2.2.1 (S.2.2.2.2 _ (List.mem_of_getElem? (i := 1) rfl)) dX8_leg_112 ?_
      refine s_iret (x := (-2000000001 : Int32)) S G hr hlk dX8_leg_114 ?_
      exact ⟨rfl, rfl, rfl⟩
  · refine lv_ldc (v := (-2000000001 : Int32)) S.1 S.2.1 S.2.2.2.1 (S.2.2.2.2 _ (List.mem_of_getElem? (i := 1) rfl)) dX8_leg_7 ?_
    refine s_iret (x := (-2000000001 : Int32)) S G hr hlk dX8_leg_9 ?_
    exact ⟨rfl, rfl, rfl⟩
