set_option maxHeartbeats 4000000 in
set_option maxRecDepth 100000 in
theorem k_X8_type_ok (l : Launch) (E : Ev) {I : SI} {L : SL} (ch : Nat) (x : Nat → Int32) (g : Nat → Int32) (n : Nat) (e_x : I (159) = x) (e_g : I (160) = g) (hx : x 1 = nI n) (hn : n < 80) (h1 : 32 ≤ ch) (h2 : ch ≤ 126) : CS l yX8_type wsX8_type ({ frames := 1, cells := 0, slots := 0, locals := 22 }) E [.ref (E.2.2.2 0), .int (nI ch)] I L (fun vv I' L' => vv = some (.int (nI (n + 1))) ∧ I' = (up (up I (159) (upd x 1 (nI (n + 1)))) (160) (upd g n (nI ch))) ∧ L' = L) := by
  refine CS.of (cc := cX8_type) (maxL := 2) (ret := (some .int)) (by decide) rfl (Nat.le_of_ble_eq_true rfl) ?_
  intro pg en sg mg below meth cg ls S hr hlk hX G hl
  have S : CallFix pg mg cg cX8_type 2 sg _ wsX8_type RX8 := S
  have hl : lv_has ls 2 [(0, .ref (E.2.2.2 0)), (1, .int (nI ch))] := hl
  refine lv_iload_n S.1 S.2.1 dX8_type_0 rfl (lv_at hl 1 rfl) ?_
  refine lv_bipush (v := (32 : Int32)) S.1 S.2.1 dX8_type_1 (by decide) ?_
  refine lv_bipush (v := (126 : Int32)) S.1 S.2.1 dX8_type_3 (by decide) ?_
  refine s_callS (As := [.int (nI ch), .int (32 : Int32), .int (126 : Int32)]) (rest := []) S hX G (k_X8_isWithin l E (nI ch) (32 : Int32) (126 : Int32)) (va_cwS (bytes := cX8_isWithin) (maxL := 3) (ret := (some .boolean)) 3 S.2.2.2.2 gX8_type_X8_isWithin rfl rfl rfl (by decide +kernel) ⟨Nat.le_of_ble_eq_true rfl, Nat.le_of_ble_eq_true rfl⟩) rfl hl.1 rfl (Nat.le_of_ble_eq_true rfl) ⟨Nat.zero_le _, Nat.zero_le _⟩ dX8_type_5 (fun v I1 L1 H locs hR G => ?_)
  obtain ⟨hv, hI, hL⟩ := hR
  subst hv
  have G : GS E I L sg H locs := G.same hI hL
  refine W.eq (g2 := F0 mg 8 ls [.int (if ¬ (nI ch) < (32 : Int32) ∧ ¬ (126 : Int32) < (nI ch) then 1 else 0)]) rfl ?_
  refine s_if_ne_b (P := ¬ (nI ch) < (32 : Int32) ∧ ¬ (126 : Int32) < (nI ch)) (tgt := 14) S dX8_type_8 (by decide) (fun _ => ?_) (fun h => absurd (inR h1 h2 (by decide)) h)
  refine lv_aload_n S.1 S.2.1 dX8_type_14 rfl (lv_at hl 0 rfl) ?_
  refine s_get S hX G (i := 0) (kd := 8) (a := (I 0)) (v := .ref (E.2.2.2 159)) (C := RX8) (T := TX8) (N := 4) 3 (rfl : sh 0 = 8) rfl rfl rfl (by decide) rfl (fun _ h => (List.mem_cons_of_mem _ (List.mem_append_left _ (List.mem_append_right _ h)))) (by decide) (List.mem_of_getElem? (i := 2) rfl) (fun _ h => h) dX8_type_15 ?_
  refine s_getN S hX G (i := 159) (kd := 7) (a := x) (v := .int (x 1)) (C := RX7) (T := TX7) (N := 2) 1 (rfl : sh 159 = 7) e_x rfl rfl (by decide) rfl (fun _ h => (List.mem_cons_of_mem _ (List.mem_append_right _ h))) (by decide) (List.mem_of_getElem? (i := 37) rfl) (fun _ h => h) dX8_type_18 ?_
  refine s_conv (y := (nI n)) hx ?_
  refine lv_bipush (v := (80 : Int32)) S.1 S.2.1 dX8_type_21 (by decide) ?_
  refine lv_icmp_lt (tgt := 29) S.1 S.2.1 dX8_type_23 (by decide) (fun _ => ?_) (fun h => absurd (Int32.not_le.mp (nI_ge (b := 80) hn (by decide))) h)
  refine lv_aload_n S.1 S.2.1 dX8_type_29 rfl (lv_at hl 0 rfl) ?_
  refine s_get S hX G (i := 0) (kd := 8) (a := (I 0)) (v := .ref (E.2.2.2 159)) (C := RX8) (T := TX8) (N := 4) 3 (rfl : sh 0 = 8) rfl rfl rfl (by decide) rfl (fun _ h => (List.mem_cons_of_mem _ (List.mem_append_left _ (List.mem_append_right _ h)))) (by decide) (List.mem_of_getElem? (i := 2) rfl) (fun _ h => h) dX8_type_30 ?_
  refine lv_iload_n S.1 S.2.1 dX8_type_33 rfl (lv_at hl 1 rfl) ?_
  refine lv_i2c (v := (nI ch)) S.1 S.2.1 dX8_type_34 (i2c_n (by omega)) ?_
  refine s_callV (C := RX7) (As := [.int (nI ch)]) (rest := []) (i := 159) (kd := 7) S hX G (k_X7_append l E 159 (nI ch) x g n (rfl : sh 159 = 7) (rfl : sh 160 = 11) e_x e_g hx hn (nar_c (by omega))) (cwV (bytes := cX7_append) (maxL := 2) (ret := none) 1 S.2.2.2.2 gX8_type_X7_append rfl rfl rfl (by decide +kernel) ⟨Nat.le_of_ble_eq_true rfl, Nat.le_of_ble_eq_true rfl⟩) (rfl : sh 159 = 7) rfl rfl rfl (by decide) rfl hl.1 rfl (Nat.le_of_ble_eq_true rfl) ⟨Nat.zero_le _, Nat.zero_le _⟩ dX8_type_35 (fun v I1 L1 H locs hR G => ?_)
  obtain ⟨hv, hI, hL⟩ := hR
  subst hv
  obtain ⟨r_1, er_1⟩ : ∃ r : Nat → Int32, r = (upd x 1 (nI (n + 1))) := ⟨_, rfl⟩
  rw [← er_1] at hI
  obtain ⟨r_2, er_2⟩ : ∃ r : Nat → Int32, r = (upd g n (nI ch)) := ⟨_, rfl⟩
  rw [← er_2] at hI
  have G : GS E (up (up I 159 r_1) 160 r_2) L sg H locs := G.same hI hL
  refine W.eq (g2 := F0 mg 38 ls []) rfl ?_
  refine lv_aload_n S.1 S.2.1 dX8_type_38 rfl (lv_at hl 0 rfl) ?_
  refine s_get S hX G (i := 0) (kd := 8) (a := (I 0)) (v := .ref (E.2.2.2 159)) (C := RX8) (T := TX8) (N := 4) 3 (rfl : sh 0 = 8) ((up_ne (by decide)).trans (up_ne (by decide))) rfl rfl (by decide) rfl (fun _ h => (List.mem_cons_of_mem _ (List.mem_append_left _ (List.mem_append_right _ h)))) (by decide) (List.mem_of_getElem? (i := 2) rfl) (fun _ h => h) dX8_type_39 ?_
  refine s_getN S hX G (i := 159) (kd := 7) (a := r_1) (v := .int (r_1 1)) (C := RX7) (T := TX7) (N := 2) 1 (rfl : sh 159 = 7) ((up_ne (by decide)).trans up_eq) rfl rfl (by decide) rfl (fun _ h => (List.mem_cons_of_mem _ (List.mem_append_right _ h))) (by decide) (List.mem_of_getElem? (i := 37) rfl) (fun _ h => h) dX8_type_42 ?_
  refine s_iret (x := (r_1 1)) S G hr hlk dX8_type_45 ?_
  exact ⟨(congrArg (fun q : Int32 => some (Value.int q)) (show (r_1 1) = (nI (n + 1)) by subst er_2 er_1; rfl)), (st_eq2 (Eq.trans ((up_ne (by decide)).trans up_eq) (show r_1 = (upd x 1 (nI (n + 1))) by subst er_2 er_1; rfl)) (Eq.trans up_eq (show r_2 = (upd g n (nI ch)) by subst er_2 er_1; rfl)) (fun _ g0 g1 => ((up_ne g1).trans (up_ne g0)))), rfl⟩
set_option maxHeartbeats 4000000 in
set_option maxRecDepth 100000 in
theorem k_X8_type_lim (l : Launch) (E : Ev) {I : SI} {L : SL} (ch : Nat) (x : Nat → Int32) (e_x : I (159) = x) (hx : x 1 = nI 80) (h1 : 32 ≤ ch) (h2 : ch ≤ 126) : CS l yX8_type wsX8_type ({ frames := 1, cells := 0, slots := 0, locals := 22 }) E [.ref (E.2.2.2 0), .int (nI ch)] I L (fun vv I' L' => vv = some (.int (-2000000003 : Int32)) ∧ I' = I ∧ L' = L) := by
  refine CS.of (cc := cX8_type) (maxL := 2) (ret := (some .int)) (by decide) rfl (Nat.le_of_ble_eq_true rfl) ?_
  intro pg en sg mg below meth cg ls S hr hlk hX G hl
  have S : CallFix pg mg cg cX8_type 2 sg _ wsX8_type RX8 := S
  have hl : lv_has ls 2 [(0, .ref (E.2.2.2 0)), (1, .int (nI ch))] := hl
  refine lv_iload_n S.1 S.2.1 dX8_type_0 rfl (lv_at hl 1 rfl) ?_
  refine lv_bipush (v := (32 : Int32)) S.1 S.2.1 dX8_type_1 (by decide) ?_
  refine lv_bipush (v := (126 : Int32)) S.1 S.2.1 dX8_type_3 (by decide) ?_
  refine s_callS (As := [.int (nI ch), .int (32 : Int32), .int (126 : Int32)]) (rest := []) S hX G (k_X8_isWithin l E (nI ch) (32 : Int32) (126 : Int32)) (va_cwS (bytes := cX8_isWithin) (maxL := 3) (ret := (some .boolean)) 3 S.2.2.2.2 gX8_type_X8_isWithin rfl rfl rfl (by decide +kernel) ⟨Nat.le_of_ble_eq_true rfl, Nat.le_of_ble_eq_true rfl⟩) rfl hl.1 rfl (Nat.le_of_ble_eq_true rfl) ⟨Nat.zero_le _, Nat.zero_le _⟩ dX8_type_5 (fun v I1 L1 H locs hR G => ?_)
  obtain ⟨hv, hI, hL⟩ := hR
  subst hv
  have G : GS E I L sg H locs := G.same hI hL
  refine W.eq (g2 := F0 mg 8 ls [.int (if ¬ (nI ch) < (32 : Int32) ∧ ¬ (126 : Int32) < (nI ch) then 1 else 0)]) rfl ?_
  refine s_if_ne_b (P := ¬ (nI ch) < (32 : Int32) ∧ ¬ (126 : Int32) < (nI ch)) (tgt := 14) S dX8_type_8 (by decide) (fun _ => ?_) (fun h => absurd (inR h1 h2 (by decide)) h)
  refine lv_aload_n S.1 S.2.1 dX8_type_14 rfl (lv_at hl 0 rfl) ?_
  refine s_get S hX G (i := 0) (kd := 8) (a := (I 0)) (v := .ref (E.2.2.2 159)) (C := RX8) (T := TX8) (N := 4) 3 (rfl : sh 0 = 8) rfl rfl rfl (by decide) rfl (fun _ h => (List.mem_cons_of_mem _ (List.mem_append_left _ (List.mem_append_right _ h)))) (by decide) (List.mem_of_getElem? (i := 2) rfl) (fun _ h => h) dX8_type_15 ?_
  refine s_getN S hX G (i := 159) (kd := 7) (a := x) (v := .int (x 1)) (C := RX7) (T := TX7) (N := 2) 1 (rfl : sh 159 = 7) e_x rfl rfl (by decide) rfl (fun _ h => (List.mem_cons_of_mem _ (List.mem_append_right _ h))) (by decide) (List.mem_of_getElem? (i := 37) rfl) (fun _ h => h) dX8_type_18 ?_
  refine s_conv (y := (nI 80)) hx ?_
  refine lv_bipush (v := (80 : Int32)) S.1 S.2.1 dX8_type_21 (by decide) ?_
  refine lv_icmp_lt (tgt := 29) S.1 S.2.1 dX8_type_23 (by decide) (fun h => absurd h (by decide)) (fun _ => ?_)
  refine lv_ldc (v := (-2000000003 : Int32)) S.1 S.2.1 S.2.2.2.1 (S.2.2.2.2 _ (List.mem_of_getElem? (i := 3) rfl)) dX8_type_26 ?_
  refine s_iret (x := (-2000000003 : Int32)) S G hr hlk dX8_type_28 ?_
  exact ⟨rfl, rfl, rfl⟩
set_option maxHeartbeats 4000000 in
set_option maxRecDepth 100000 in
theorem k_X8_type_no (l : Launch) (E : Ev) {I : SI} {L : SL} (ch : Int32) (ht : ¬ INR ch 32 126) : CS l yX8_type wsX8_type ({ frames := 1, cells := 0, slots := 0, locals := 22 }) E [.ref (E.2.2.2 0), .int ch] I L (fun vv I' L' => vv = some (.int (-2000000001 : Int32)) ∧ I' = I ∧ L' = L) := by
  refine CS.of (cc := cX8_type) (maxL := 2) (ret := (some .int)) (by decide) rfl (Nat.le_of_ble_eq_true rfl) ?_
  intro pg en sg mg below meth cg ls S hr hlk hX G hl
  have S : CallFix pg mg cg cX8_type 2 sg _ wsX8_type RX8 := S
  have hl : lv_has ls 2 [(0, .ref (E.2.2.2 0)), (1, .int ch)] := hl
  refine lv_iload_n S.1 S.2.1 dX8_type_0 rfl (lv_at hl 1 rfl) ?_
  refine lv_bipush (v := (32 : Int32)) S.1 S.2.1 dX8_type_1 (by decide) ?_
  refine lv_bipush (v := (126 : Int32)) S.1 S.2.1 dX8_type_3 (by decide) ?_
  refine s_callS (As := [.int ch, .int (32 : Int32), .int (126 : Int32)]) (rest := []) S hX G (k_X8_isWithin l E ch (32 : Int32) (126 : Int32)) (va_cwS (bytes := cX8_isWithin) (maxL := 3) (ret := (some .boolean)) 3 S.2.2.2.2 gX8_type_X8_isWithin rfl rfl rfl (by decide +kernel) ⟨Nat.le_of_ble_eq_true rfl, Nat.le_of_ble_eq_true rfl⟩) rfl hl.1 rfl (Nat.le_of_ble_eq_true rfl) ⟨Nat.zero_le _, Nat.zero_le _⟩ dX8_type_5 (fun v I1 L1 H locs hR G => ?_)
  obtain ⟨hv, hI, hL⟩ := hR
  subst hv
  have G : GS E I L sg H locs := G.same hI hL
  refine W.eq (g2 := F0 mg 8 ls [.int (if ¬ ch < (32 : Int32) ∧ ¬ (126 : Int32) < ch then 1 else 0)]) rfl ?_
  refine s_if_ne_b (P := ¬ ch < (32 : Int32) ∧ ¬ (126 : Int32) < ch) (tgt := 14) S dX8_type_8 (by decide) (fun h => absurd h ht) (fun _ => ?_)
  refine lv_ldc (v := (-2000000001 : Int32)) S.1 S.2.1 S.2.2.2.1 (S.2.2.2.2 _ (List.mem_of_getElem? (i := 1) rfl)) dX8_type_11 ?_
  refine s_iret (x := (-2000000001 : Int32)) S G hr hlk dX8_type_13 ?_
  exact ⟨rfl, rfl, rfl⟩
set_option maxHeartbeats 4000000 in
set_option maxRecDepth 100000 in
theorem k_X8_clearText (l : Launch) (E : Ev) {I : SI} {L : SL} (x : Nat → Int32) (e_x : I (159) = x) : CS l yX8_clearText wsX8_clearText ({ frames := 0, cells := 0, slots := 0, locals := 0 }) E [.ref (E.2.2.2 0)] I L (fun vv I' L' => vv = some (.int (x 1)) ∧ I' = (up I (159) (upd x 1 0)) ∧ L' = L) := by
  refine CS.of (cc := cX8_clearText) (maxL := 2) (ret := (some .int)) (by decide) rfl (Nat.le_of_ble_eq_true rfl) ?_
  intro pg en sg mg below meth cg ls S hr hlk hX G hl
  have S : CallFix pg mg cg cX8_clearText 2 sg _ wsX8_clearText RX8 := S
  have hl : lv_has ls 2 [(0, .ref (E.2.2.2 0))] := hl
  refine lv_aload_n S.1 S.2.1 dX8_clearText_0 rfl (lv_at hl 0 rfl) ?_
  refine s_get S hX G (i := 0) (kd := 8) (a := (I 0)) (v := .ref (E.2.2.2 159)) (C := RX8) (T := TX8) (N := 4) 3 (rfl : sh 0 = 8) rfl rfl rfl (by decide) rfl (fun _ h => (List.mem_cons_of_mem _ (List.mem_append_left _ (List.mem_append_right _ h)))) (by decide) (List.mem_of_getElem? (i := 1) rfl) (fun _ h => h) dX8_clearText_1 ?_
  refine s_getN S hX G (i := 159) (kd := 7) (a := x) (v := .int (x 1)) (C := RX7) (T := TX7) (N := 2) 1 (rfl : sh 159 = 7) e_x rfl rfl (by decide) rfl (fun _ h => (List.mem_cons_of_mem _ (List.mem_append_right _ h))) (by decide) (List.mem_of_getElem? (i := 37) rfl) (fun _ h => h) dX8_clearText_4 ?_
  refine lv_istore_n (lv' := [(1, .int (x 1)), (0, .ref (E.2.2.2 0))]) S.1 S.2.1 dX8_clearText_7 rfl hl (by decide) rfl (fun ls hl => ?_)
  refine lv_aload_n S.1 S.2.1 dX8_clearText_8 rfl (lv_at hl 1 rfl) ?_
  refine s_get S hX G (i := 0) (kd := 8) (a := (I 0)) (v := .ref (E.2.2.2 159)) (C := RX8) (T := TX8) (N := 4) 3 (rfl : sh 0 = 8) rfl rfl rfl (by decide) rfl (fun _ h => (List.mem_cons_of_mem _ (List.mem_append_left _ (List.mem_append_right _ h)))) (by decide) (List.mem_of_getElem? (i := 1) rfl) (fun _ h => h) dX8_clearText_9 ?_
  refine lv_iconst (v := (0 : Int32)) S.1 S.2.1 dX8_clearText_12 (by decide) ?_
  refine s_putN S hX G (i := 159) (kd := 7) (a := x) (a' := (upd x 1 (0 : Int32))) (I' := (up I 159 (upd x 1 (0 : Int32)))) (v := .int (0 : Int32)) (ty := .int) (ty0 := tyX7) (C := RX7) (T := TX7) (N := 2) 1 (rfl : sh 159 = 7) e_x rfl rfl rfl (by decide) rfl (fun _ h => (List.mem_cons_of_mem _ (List.mem_append_right _ h))) tyX7_ok nmX7 (by decide) (List.mem_of_getElem? (i := 37) rfl) (fun _ h => h) rfl (by decide +kernel) rfl rfl (Nat.le_of_ble_eq_true rfl) dX8_clearText_13 (fun H locs G => ?_)
  refine lv_iload_n S.1 S.2.1 dX8_clearText_16 rfl (lv_at hl 0 rfl) ?_
  refine s_iret (x := (x 1)) S G hr hlk dX8_clearText_17 ?_
  exact ⟨rfl, (st_eq1 (Eq.trans up_eq (show (upd x 1 (0 : Int32)) = (upd x 1 0) by rfl)) (fun _ g0 => (up_ne g0))), rfl⟩
set_option maxHeartbeats 4000000 in
set_option maxRecDepth 100000 in
theorem k_X8_wrong (l : Launch) (E : Ev) {I : SI} {L : SL} (x : Nat → Int32) (g : Nat → Int32) (n : Nat) (e_x : I (159) = x) (e_g : I (160) = g) (hx : x 1 = nI n) (hn80 : n ≤ 80) (hg : ∀ j, j < n → chr (g j)) : CS l yX8_wrong wsX8_wrong ({ frames := 4, cells := 0, slots := 0, locals := 91 }) E [.ref (E.2.2.2 0)] I L (fun vv I' L' => vv = some (.int (if fpG g n n 0 0 = -1 then (-2000000004 : Int32) else fpG g n n 0 0)) ∧ I' = I ∧ L' = L) := by
  refine CS.of (cc := cX8_wrong) (maxL := 2) (ret := (some .int)) (by decide) rfl (Nat.le_of_ble_eq_true rfl) ?_
  intro pg en sg mg below meth cg ls S hr hlk hX G hl
  have S : CallFix pg mg cg cX8_wrong 2 sg _ wsX8_wrong RX8 := S
  have hl : lv_has ls 2 [(0, .ref (E.2.2.2 0))] := hl
  refine lv_aload_n S.1 S.2.1 dX8_wrong_0 rfl (lv_at hl 0 rfl) ?_
  refine s_get S hX G (i := 0) (kd := 8) (a := (I 0)) (v := .ref (E.2.2.2 159)) (C := RX8) (T := TX8) (N := 4) 3 (rfl : sh 0 = 8) rfl rfl rfl (by decide) rfl (fun _ h => (List.mem_cons_of_mem _ (List.mem_append_left _ (List.mem_append_right _ h)))) (by decide) (List.mem_of_getElem? (i := 1) rfl) (fun _ h => h) dX8_wrong_1 ?_
  refine s_callV (C := RX7) (As := []) (rest := []) (i := 159) (kd := 7) S hX G (k_X7_faultPlace l E 159 x g n (rfl : sh 159 = 7) (rfl : sh 160 = 11) e_x e_g hx hn80 hg) (cwV (bytes := cX7_faultPlace) (maxL := 5) (ret := (some .int)) 0 S.2.2.2.2 gX8_wrong_X7_faultPlace rfl rfl rfl (by decide +kernel) ⟨Nat.le_of_ble_eq_true rfl, Nat.le_of_ble_eq_true rfl⟩) (rfl : sh 159 = 7) rfl rfl rfl (by decide) rfl hl.1 rfl (Nat.le_of_ble_eq_true rfl) ⟨Nat.zero_le _, Nat.zero_le _⟩ dX8_wrong_4 (fun v I1 L1 H locs hR G => ?_)
  obtain ⟨hv, hI, hL⟩ := hR
  subst hv
  have G : GS E I L sg H locs := G.same hI hL
  refine W.eq (g2 := F0 mg 7 ls [.int (fpG g n n 0 0)]) rfl ?_
  refine lv_istore_n (lv' := [(1, .int (fpG g n n 0 0)), (0, .ref (E.2.2.2 0))]) S.1 S.2.1 dX8_wrong_7 rfl hl (by decide) rfl (fun ls hl => ?_)
  refine lv_iload_n S.1 S.2.1 dX8_wrong_8 rfl (lv_at hl 0 rfl) ?_
  refine lv_iconst (v := (-1 : Int32)) S.1 S.2.1 dX8_wrong_9 (by decide) ?_
  refine lv_icmp_ne (tgt := 18) S.1 S.2.1 dX8_wrong_10 (by decide) (fun c_1 => ?_) (fun c_1 => ?_)
  · refine lv_iload_n S.1 S.2.1 dX8_wrong_18 rfl (lv_at hl 0 rfl) ?_
    refine s_iret (x := (fpG g n n 0 0)) S G hr hlk dX8_wrong_19 ?_
    exact ⟨(congrArg (fun q : Int32 => some (Value.int q)) (show (fpG g n n 0 0) = (if fpG g n n 0 0 = -1 then (-2000000004 : Int32) else fpG g n n 0 0) by first | exact (if_pos c_1).symm | exact (if_neg c_1).symm)), rfl, rfl⟩
  · refine lv_ldc (v := (-2000000004 : Int32)) S.1 S.2.1 S.2.2.2.1 (S.2.2.2.2 _ (List.mem_of_getElem? (i := 2) rfl)) dX8_wrong_13 ?_
    refine lv_goto (tgt := 19) S.1 S.2.1 dX8_wrong_15 (by decide) ?_
    refine s_iret (x := (-2000000004 : Int32)) S G hr hlk dX8_wrong_19 ?_
    exact ⟨(congrArg (fun q : Int32 => some (Value.int q)) (show (-2000000004 : Int32) = (if fpG g n n 0 0 = -1 then (-2000000004 : Int32) else fpG g n n 0 0) by first | exact (if_pos c_1).symm | exact (if_neg c_1).symm)), rfl, rfl⟩
set_option maxHeartbeats 4000000 in
set_option maxRecDepth 100000 in
theorem k_X8_playing (l : Launch) (E : Ev) {I : SI} {L : SL} (x : Nat → Int32) (g : Nat → Int32) (n : Nat) (e_x : I (159) = x) (e_g : I (160) = g) (hx : x 1 = nI n) (hn80 : n ≤ 80) (hg : ∀ j, j < n → chr (g j)) : CS l yX8_playing wsX8_playing ({ frames := 4, cells := 0, slots := 0, locals := 91 }) E [.ref (E.2.2.2 0)] I L (fun vv I' L' => vv = some (.int (if fpG g n n 0 0 = -1 then slL g n else (-2000000002 : Int32))) ∧ I' = I ∧ L' = L) := by
  refine CS.of (cc := cX8_playing) (maxL := 1) (ret := (some .int)) (by decide) rfl (Nat.le_of_ble_eq_true rfl) ?_
  intro pg en sg mg below meth cg ls S hr hlk hX G hl
  have S : CallFix pg mg cg cX8_playing 1 sg _ wsX8_playing RX8 := S
  have hl : lv_has ls 1 [(0, .ref (E.2.2.2 0))] := hl
  refine lv_aload_n S.1 S.2.1 dX8_playing_0 rfl (lv_at hl 0 rfl) ?_
  refine s_get S hX G (i := 0) (kd := 8) (a := (I 0)) (v := .ref (E.2.2.2 159)) (C := RX8) (T := TX8) (N := 4) 3 (rfl : sh 0 = 8) rfl rfl rfl (by decide) rfl (fun _ h => (List.mem_cons_of_mem _ (List.mem_append_left _ (List.mem_append_right _ h)))) (by decide) (List.mem_of_getElem? (i := 1) rfl) (fun _ h => h) dX8_playing_1 ?_
  refine s_callV (C := RX7) (As := []) (rest := []) (i := 159) (kd := 7) S hX G (k_X7_faultPlace l E 159 x g n (rfl : sh 159 = 7) (rfl : sh 160 = 11) e_x e_g hx hn80 hg) (cwV (bytes := cX7_faultPlace) (maxL := 5) (ret := (some .int)) 0 S.2.2.2.2 gX8_playing_X7_faultPlace rfl rfl rfl (by decide +kernel) ⟨Nat.le_of_ble_eq_true rfl, Nat.le_of_ble_eq_true rfl⟩) (rfl : sh 159 = 7) rfl rfl rfl (by decide) rfl hl.1 rfl (Nat.le_of_ble_eq_true rfl) ⟨Nat.zero_le _, Nat.zero_le _⟩ dX8_playing_4 (fun v I1 L1 H locs hR G => ?_)
  obtain ⟨hv, hI, hL⟩ := hR
  subst hv
  have G : GS E I L sg H locs := G.same hI hL
  refine W.eq (g2 := F0 mg 7 ls [.int (fpG g n n 0 0)]) rfl ?_
  refine lv_iconst (v := (-1 : Int32)) S.1 S.2.1 dX8_playing_7 (by decide) ?_
  refine lv_icmp_ne (tgt := 21) S.1 S.2.1 dX8_playing_8 (by decide) (fun c_1 => ?_) (fun c_1 => ?_)
  · refine lv_ldc (v := (-2000000002 : Int32)) S.1 S.2.1 S.2.2.2.1 (S.2.2.2.2 _ (List.mem_of_getElem? (i := 2) rfl)) dX8_playing_21 ?_
    refine s_iret (x := (-2000000002 : Int32)) S G hr hlk dX8_playing_23 ?_
    exact ⟨(congrArg (fun q : Int32 => some (Value.int q)) (show (-2000000002 : Int32) = (if fpG g n n 0 0 = -1 then slL g n else (-2000000002 : Int32)) by first | exact (if_pos c_1).symm | exact (if_neg c_1).symm)), rfl, rfl⟩
  · refine lv_aload_n S.1 S.2.1 dX8_playing_11 rfl (lv_at hl 0 rfl) ?_
    refine s_get S hX G (i := 0) (kd := 8) (a := (I 0)) (v := .ref (E.2.2.2 159)) (C := RX8) (T := TX8) (N := 4) 3 (rfl : sh 0 = 8) rfl rfl rfl (by decide) rfl (fun _ h => (List.mem_cons_of_mem _ (List.mem_append_left _ (List.mem_append_right _ h)))) (by decide) (List.mem_of_getElem? (i := 1) rfl) (fun _ h => h) dX8_playing_12 ?_
    refine s_callV (C := RX7) (As := []) (rest := []) (i := 159) (kd := 7) S hX G (k_X7_slots l E 159 x g n (rfl : sh 159 = 7) (rfl : sh 160 = 11) e_x e_g hx hn80 hg) (cwV (bytes := cX7_slots) (maxL := 3) (ret := (some .int)) 0 S.2.2.2.2 gX8_playing_X7_slots rfl rfl rfl (by decide +kernel) ⟨Nat.le_of_ble_eq_true rfl, Nat.le_of_ble_eq_true rfl⟩) (rfl : sh 159 = 7) rfl rfl rfl (by decide) rfl hl.1 rfl (Nat.le_of_ble_eq_true rfl) ⟨Nat.zero_le _, Nat.zero_le _⟩ dX8_playing_15 (fun v I1 L1 H locs hR G => ?_)
    obtain ⟨hv, hI, hL⟩ := hR
    subst hv
    have G : GS E I L sg H locs := G.same hI hL
    refine W.eq (g2 := F0 mg 18 ls [.int (slL g n)]) rfl ?_
    refine lv_goto (tgt := 23) S.1 S.2.1 dX8_playing_18 (by decide) ?_
    refine s_iret (x := (slL g n)) S G hr hlk dX8_playing_23 ?_
    exact ⟨(congrArg (fun q : Int32 => some (Value.int q)) (show (slL g n) = (if fpG g n n 0 0 = -1 then slL g n else (-2000000002 : Int32)) by first | exact (if_pos c_1).symm | exact (if_neg c_1).symm)), rfl, rfl⟩
set_option maxHeartbeats 4000000 in
set_option maxRecDepth 100000 in
theorem k_X8_play_np (l : Launch) (E : Ev) {I : SI} {L : SL} (x : Nat → Int32) (g : Nat → Int32) (n : Nat) (e_x : I (159) = x) (e_g : I (160) = g) (hx : x 1 = nI n) (hn80 : n ≤ 80) (hg : ∀ j, j < n → chr (g j)) (ht : ¬ fpG g n n 0 0 = -1) : CS l yX8_play wsX8_play ({ frames := 4, cells := 0, slots := 0, locals := 91 }) E [.ref (E.2.2.2 0)] I L (fun vv I' L' => vv = some (.int (-2000000002 : Int32)) ∧ I' = I ∧ L' = L) := by
  refine CS.of (cc := cX8_play) (maxL := 5) (ret := (some .int)) (by decide) rfl (Nat.le_of_ble_eq_true rfl) ?_
  intro pg en sg mg below meth cg ls S hr hlk hX G hl
  have S : CallFix pg mg cg cX8_play 5 sg _ wsX8_play RX8 := S
  have hl : lv_has ls 5 [(0, .ref (E.2.2.2 0))] := hl
  refine lv_aload_n S.1 S.2.1 dX8_play_0 rfl (lv_at hl 0 rfl) ?_
  refine s_get S hX G (i := 0) (kd := 8) (a := (I 0)) (v := .ref (E.2.2.2 159)) (C := RX8) (T := TX8) (N := 4) 3 (rfl : sh 0 = 8) rfl rfl rfl (by decide) rfl (fun _ h => (List.mem_cons_of_mem _ (List.mem_append_left _ (List.mem_append_left _ (List.mem_append_left _ (List.mem_append_left _ (List.mem_append_left _ (List.mem_append_left _ (List.mem_append_left _ (List.mem_append_left _ (List.mem_append_right _ h))))))))))) (by decide) (List.mem_of_getElem? (i := 1) rfl) (fun _ h => h) dX8_play_1 ?_
  refine s_callV (C := RX7) (As := []) (rest := []) (i := 159) (kd := 7) S hX G (k_X7_faultPlace l E 159 x g n (rfl : sh 159 = 7) (rfl : sh 160 = 11) e_x e_g hx hn80 hg) (cwV (bytes := cX7_faultPlace) (maxL := 5) (ret := (some .int)) 0 S.2.2.2.2 gX8_play_X7_faultPlace rfl rfl rfl (by decide +kernel) ⟨Nat.le_of_ble_eq_true rfl, Nat.le_of_ble_eq_true rfl⟩) (rfl : sh 159 = 7) rfl rfl rfl (by decide) rfl hl.1 rfl (Nat.le_of_ble_eq_true rfl) ⟨Nat.zero_le _, Nat.zero_le _⟩ dX8_play_4 (fun v I1 L1 H locs hR G => ?_)
  obtain ⟨hv, hI, hL⟩ := hR
  subst hv
  have G : GS E I L sg H locs := G.same hI hL
  refine W.eq (g2 := F0 mg 7 ls [.int (fpG g n n 0 0)]) rfl ?_
  refine lv_iconst (v := (-1 : Int32)) S.1 S.2.1 dX8_play_7 (by decide) ?_
  refine lv_icmp_eq (tgt := 14) S.1 S.2.1 dX8_play_8 (by decide) (fun h => absurd h ht) (fun _ => ?_)
  refine lv_ldc (v := (-2000000002 : Int32)) S.1 S.2.1 S.2.2.2.1 (S.2.2.2.2 _ (List.mem_of_getElem? (i := 2) rfl)) dX8_play_11 ?_
  refine s_iret (x := (-2000000002 : Int32)) S G hr hlk dX8_play_13 ?_
  exact ⟨rfl, rfl, rfl⟩
set_option maxHeartbeats 4000000 in
set_option maxRecDepth 100000 in
theorem k_X8_play_lim (l : Launch) (E : Ev) {I : SI} {L : SL} (x : Nat → Int32) (g : Nat → Int32) (br : Nat → Int32) (n k0 m : Nat) (e_x : I (159) = x) (e_g : I (160) = g) (e_br : I (1) = br) (hx : x 1 = nI n) (hn80 : n ≤ 80) (hg : ∀ j, j < n → chr (g j)) (ht : fpG g n n 0 0 = -1) (hs : br 4 = nI k0) (hk : k0 ≤ 100000) (hm : slL g n = nI m) (hm2 : m < 2 ^ 30) (h3 : 100000 < k0 + m) : CS l yX8_play wsX8_play ({ frames := 4, cells := 0, slots := 0, locals := 91 }) E [.ref (E.2.2.2 0)] I L (fun vv I' L' => vv = some (.int (-2000000003 : Int32)) ∧ I' = I ∧ L' = L) := by
  refine CS.of (cc := cX8_play) (maxL := 5) (ret := (some .int)) (by decide) rfl (Nat.le_of_ble_eq_true rfl) ?_
  intro pg en sg mg below meth cg ls S hr hlk hX G hl
  have S : CallFix pg mg cg cX8_play 5 sg _ wsX8_play RX8 := S
  have hl : lv_has ls 5 [(0, .ref (E.2.2.2 0))] := hl
  refine lv_aload_n S.1 S.2.1 dX8_play_0 rfl (lv_at hl 0 rfl) ?_
  refine s_get S hX G (i := 0) (kd := 8) (a := (I 0)) (v := .ref (E.2.2.2 159)) (C := RX8) (T := TX8) (N := 4) 3 (rfl : sh 0 = 8) rfl rfl rfl (by decide) rfl (fun _ h => (List.mem_cons_of_mem _ (List.mem_append_left _ (List.mem_append_left _ (List.mem_append_left _ (List.mem_append_left _ (List.mem_append_left _ (List.mem_append_left _ (List.mem_append_left _ (List.mem_append_left _ (List.mem_append_right _ h))))))))))) (by decide) (List.mem_of_getElem? (i := 1) rfl) (fun _ h => h) dX8_play_1 ?_
  refine s_callV (C := RX7) (As := []) (rest := []) (i := 159) (kd := 7) S hX G (k_X7_faultPlace l E 159 x g n (rfl : sh 159 = 7) (rfl : sh 160 = 11) e_x e_g hx hn80 hg) (cwV (bytes := cX7_faultPlace) (maxL := 5) (ret := (some .int)) 0 S.2.2.2.2 gX8_play_X7_faultPlace rfl rfl rfl (by decide +kernel) ⟨Nat.le_of_ble_eq_true rfl, Nat.le_of_ble_eq_true rfl⟩) (rfl : sh 159 = 7) rfl rfl rfl (by decide) rfl hl.1 rfl (Nat.le_of_ble_eq_true rfl) ⟨Nat.zero_le _, Nat.zero_le _⟩ dX8_play_4 (fun v I1 L1 H locs hR G => ?_)
  obtain ⟨hv, hI, hL⟩ := hR
  subst hv
  have G : GS E I L sg H locs := G.same hI hL
  refine W.eq (g2 := F0 mg 7 ls [.int (fpG g n n 0 0)]) rfl ?_
  refine lv_iconst (v := (-1 : Int32)) S.1 S.2.1 dX8_play_7 (by decide) ?_
  refine lv_icmp_eq (tgt := 14) S.1 S.2.1 dX8_play_8 (by decide) (fun _ => ?_) (fun h => absurd ht h)
  refine lv_aload_n S.1 S.2.1 dX8_play_14 rfl (lv_at hl 0 rfl) ?_
  refine s_get S hX G (i := 0) (kd := 8) (a := (I 0)) (v := .ref (E.2.2.2 159)) (C := RX8) (T := TX8) (N := 4) 3 (rfl : sh 0 = 8) rfl rfl rfl (by decide) rfl (fun _ h => (List.mem_cons_of_mem _ (List.mem_append_left _ (List.mem_append_left _ (List.mem_append_left _ (List.mem_append_left _ (List.mem_append_left _ (List.mem_append_left _ (List.mem_append_left _ (List.mem_append_left _ (List.mem_append_right _ h))))))))))) (by decide) (List.mem_of_getElem? (i := 1) rfl) (fun _ h => h) dX8_play_15 ?_
  refine s_callV (C := RX7) (As := []) (rest := []) (i := 159) (kd := 7) S hX G (k_X7_slots l E 159 x g n (rfl : sh 159 = 7) (rfl : sh 160 = 11) e_x e_g hx hn80 hg) (cwV (bytes := cX7_slots) (maxL := 3) (ret := (some .int)) 0 S.2.2.2.2 gX8_play_X7_slots rfl rfl rfl (by decide +kernel) ⟨Nat.le_of_ble_eq_true rfl, Nat.le_of_ble_eq_true rfl⟩) (rfl : sh 159 = 7) rfl rfl rfl (by decide) rfl hl.1 rfl (Nat.le_of_ble_eq_true rfl) ⟨Nat.zero_le _, Nat.zero_le _⟩ dX8_play_18 (fun v I1 L1 H locs hR G => ?_)
  obtain ⟨hv, hI, hL⟩ := hR
  subst hv
  have G : GS E I L sg H locs := G.same hI hL
  refine W.eq (g2 := F0 mg 21 ls [.int (slL g n)]) rfl ?_
  refine s_conv (y := (nI m)) hm ?_
  refine lv_istore_n (lv' := [(1, .int (nI m)), (0, .ref (E.2.2.2 0))]) S.1 S.2.1 dX8_play_21 rfl hl (by decide) rfl (fun ls hl => ?_)
  refine lv_iload_n S.1 S.2.1 dX8_play_22 rfl (lv_at hl 0 rfl) ?_
  refine lv_ldc (v := (100000 : Int32)) S.1 S.2.1 S.2.2.2.1 (S.2.2.2.2 _ (List.mem_of_getElem? (i := 3) rfl)) dX8_play_23 ?_
  refine lv_aload_n S.1 S.2.1 dX8_play_25 rfl (lv_at hl 1 rfl) ?_
  refine s_get S hX G (i := 0) (kd := 8) (a := (I 0)) (v := .ref (E.2.2.2 1)) (C := RX8) (T := TX8) (N := 4) 0 (rfl : sh 0 = 8) rfl rfl rfl (by decide) rfl (fun _ h => (List.mem_cons_of_mem _ (List.mem_append_left _ (List.mem_append_left _ (List.mem_append_left _ (List.mem_append_left _ (List.mem_append_left _ (List.mem_append_left _ (List.mem_append_left _ (List.mem_append_left _ (List.mem_append_right _ h))))))))))) (by decide) (List.mem_of_getElem? (i := 4) rfl) (fun _ h => h) dX8_play_26 ?_
  refine s_getN S hX G (i := 1) (kd := 0) (a := br) (v := .int (br 4)) (C := RX0) (T := TX0) (N := 5) 4 (rfl : sh 1 = 0) e_br rfl rfl (by decide) rfl (fun _ h => (List.mem_cons_of_mem _ (List.mem_append_left _ (List.mem_append_left _ (List.mem_append_left _ (List.mem_append_left _ (List.mem_append_left _ (List.mem_append_left _ (List.mem_append_left _ (List.mem_append_right _ h)))))))))) (by decide) (List.mem_of_getElem? (i := 35) rfl) (fun _ h => h) dX8_play_29 ?_
  refine s_conv (y := (nI k0)) hs ?_
  refine s_isub (v := (nI (100000 - k0))) S dX8_play_32 (pk_sub (a := 100000) (b := k0) (by omega)) ?_
  refine lv_icmp_le (tgt := 39) S.1 S.2.1 dX8_play_33 (by decide) (fun h => absurd h (nI_ge (by omega) (by omega))) (fun _ => ?_)
  refine lv_ldc (v := (-2000000003 : Int32)) S.1 S.2.1 S.2.2.2.1 (S.2.2.2.2 _ (List.mem_of_getElem? (i := 5) rfl)) dX8_play_36 ?_
  refine s_iret (x := (-2000000003 : Int32)) S G hr hlk dX8_play_38 ?_
  exact ⟨rfl, rfl, rfl⟩
/-- the cell of a leg of the bridge at 1 -/
def lgc (lg : Nat) : Nat := if lg = 0 then 3 else if lg = 1 then 4 else if lg = 2 then 12 else 13
/-- the pattern is played: the store, the next leg, the slot, behind some places -/
def plC (g : Nat → Int32) (k0 : Nat) (s : SI × SL) : Nat → (SI × SL) × Nat × Nat
  | 0 => (s, 0, k0)
  | j + 1 =>
    let r := plC g k0 s j
    if g j = 59 then (brIt 1 r.2.2 (sbL g j 0 1).toNatClampNeg r.1, 0, r.2.2 + (sbL g j 0 1).toNatClampNeg)
    else if r.2.1 < 4 then ((up r.1.1 (lgc r.2.1) (obeyF (r.1.1 (lgc r.2.1)) (g j)), r.1.2), r.2.1 + 1, r.2.2) else (r.1, r.2.1, r.2.2)
theorem plC_semi {g : Nat → Int32} {k0 j : Nat} {s : SI × SL} (h : g j = 59) : plC g k0 s (j + 1) = (brIt 1 (plC g k0 s j).2.2 (sbL g j 0 1).toNatClampNeg (plC g k0 s j).1, 0, (plC g k0 s j).2.2 + (sbL g j 0 1).toNatClampNeg) := by
  show (if g j = 59 then _ else _) = _
  rw [if_pos h]
theorem plC_leg {g : Nat → Int32} {k0 j : Nat} {s : SI × SL} (h : ¬ g j = 59) (h4 : (plC g k0 s j).2.1 < 4) : plC g k0 s (j + 1) = ((up (plC g k0 s j).1.1 (lgc (plC g k0 s j).2.1) (obeyF ((plC g k0 s j).1.1 (lgc (plC g k0 s j).2.1)) (g j)), (plC g k0 s j).1.2), (plC g k0 s j).2.1 + 1, (plC g k0 s j).2.2) := by
  show (if g j = 59 then _ else _) = _
  rw [if_neg h, if_pos h4]
theorem plC_more {g : Nat → Int32} {k0 j : Nat} {s : SI × SL} (h : ¬ g j = 59) (h4 : ¬ (plC g k0 s j).2.1 < 4) : plC g k0 s (j + 1) = plC g k0 s j := by
  show (if g j = 59 then _ else _) = _
  rw [if_neg h, if_neg h4]
theorem plC_fr {g : Nat → Int32} {k0 j z : Nat} {s : SI × SL} (h : z < 1 ∨ 27 ≤ z) : (plC g k0 s j).1.1 z = s.1 z ∧ (plC g k0 s j).1.2 z = s.2 z := by
  induction j with
  | zero => exact ⟨rfl, rfl⟩
  | succ j ih =>
    by_cases h1 : g j = 59
    · rw [plC_semi h1]
      exact ⟨(brIt_ne (by omega)).trans ih.1, (brIt_neL (by omega)).trans ih.2⟩
    · by_cases h2 : (plC g k0 s j).2.1 < 4
      · rw [plC_leg h1 h2]
        refine ⟨Eq.trans (up_ne ?_) ih.1, ih.2⟩
        unfold lgc
        split
        · omega
        · split
          · omega
          · split <;> omega
      · rw [plC_more h1 h2]
        exact ih
theorem plC_lg {g : Nat → Int32} {k0 j : Nat} {s : SI × SL} : (plC g k0 s j).2.1 ≤ 4 := by
  induction j with
  | zero => exact Nat.zero_le 4
  | succ j ih =>
    by_cases h1 : g j = 59
    · rw [plC_semi h1]
      exact Nat.zero_le 4
    · by_cases h2 : (plC g k0 s j).2.1 < 4
      · rw [plC_leg h1 h2]
        exact h2
      · rw [plC_more h1 h2]
        exact ih
theorem lgc_lt {lg : Nat} : 3 ≤ lgc lg ∧ lgc lg ≤ 13 ∧ lgc lg ≠ 2 ∧ lgc lg ≠ 11 := by
  unfold lgc
  split
  · omega
  · split
    · omega
    · split <;> omega
theorem plC_slot {g : Nat → Int32} {k0 j : Nat} {s : SI × SL} (h : s.1 1 4 = nI k0) (g0 : isb (s.1 2 7)) (g1 : isb (s.1 11 7)) : (plC g k0 s j).1.1 1 4 = nI (plC g k0 s j).2.2 ∧ isb ((plC g k0 s j).1.1 2 7) ∧ isb ((plC g k0 s j).1.1 11 7) := by
  induction j with
  | zero => exact ⟨h, g0, g1⟩
  | succ j ih =>
    by_cases h1 : g j = 59
    · rw [plC_semi h1]
      exact ⟨brIt_slot (B := 1) ih.1, brIt_h0 (B := 1) ih.2.1, brIt_h1 (B := 1) ih.2.2⟩
    · by_cases h2 : (plC g k0 s j).2.1 < 4
      · rw [plC_leg h1 h2]
        have hl := @lgc_lt (plC g k0 s j).2.1
        dsimp only
        rw [up_ne (by omega), up_ne (by omega), up_ne (by omega)]
        exact ih
      · rw [plC_more h1 h2]
        exact ih
theorem plC_k {g : Nat → Int32} {k0 n j : Nat} {s : SI × SL} (hb : ∀ i, i < n → g i = 59 → (sbL g i 0 1).toNatClampNeg ≤ 500) (hj : j ≤ n) : (plC g k0 s j).2.2 ≤ k0 + 500 * j := by
  induction j with
  | zero => exact Nat.le_refl _
  | succ j ih =>
    have ih := ih (by omega)
    by_cases h1 : g j = 59
    · rw [plC_semi h1]
      have := hb j (by omega) h1
      show (plC g k0 s j).2.2 + _ ≤ _
      omega
    · by_cases h2 : (plC g k0 s j).2.1 < 4
      · rw [plC_leg h1 h2]
        show (plC g k0 s j).2.2 ≤ _
        omega
      · rw [plC_more h1 h2]
        omega
set_option maxHeartbeats 4000000 in
set_option maxRecDepth 100000 in
theorem k_X8_play_ok (l : Launch) (E : Ev) {I : SI} {L : SL} (h : Nat → Int32) (x : Nat → Int32) (g : Nat → Int32) (br : Nat → Int32) (o kp n k0 m : Nat) (e_h : I (53) = h) (e_x : I (159) = x) (e_g : I (160) = g) (e_br : I (1) = br) (ho : h 1 = nI o) (hk : h 2 = nI kp) (ho4 : o < 4) (hkp : kp ≤ 4) (hisb : IsbB I 1) (hx : x 1 = nI n) (hn80 : n ≤ 80) (hg : ∀ j, j < n → chr (g j)) (hb : ∀ i, i < n → g i = 59 → sbL g i 0 1 = nI (sbL g i 0 1).toNatClampNeg ∧ (sbL g i 0 1).toNatClampNeg ≤ 500) (ht : fpG g n n 0 0 = -1) (hs : br 4 = nI k0) (hk0 : k0 ≤ 100000) (hm : slL g n = nI m) (hm2 : m < 2 ^ 30) (h3 : k0 + m ≤ 100000) : CS l yX8_play wsX8_play ({ frames := 6, cells := 0, slots := 0, locals := 135 }) E [.ref (E.2.2.2 0)] I L (fun vv I' L' => ∃ I1 L1, RecP I L I1 L1 o kp ∧ vv = some (.int (nI m)) ∧ I' = (plC g k0 (I1, L1) n).1.1 ∧ L' = (plC g k0 (I1, L1) n).1.2) := by
  refine CS.of (cc := cX8_play) (maxL := 5) (ret := (some .int)) (by decide) rfl (Nat.le_of_ble_eq_true rfl) ?_
  intro pg en sg mg below meth cg ls S hr hlk hX G hl
  have S : CallFix pg mg cg cX8_play 5 sg _ wsX8_play RX8 := S
  have hl : lv_has ls 5 [(0, .ref (E.2.2.2 0))] := hl
  refine lv_aload_n S.1 S.2.1 dX8_play_0 rfl (lv_at hl 0 rfl) ?_
  refine s_get S hX G (i := 0) (kd := 8) (a := (I 0)) (v := .ref (E.2.2.2 159)) (C := RX8) (T := TX8) (N := 4) 3 (rfl : sh 0 = 8) rfl rfl rfl (by decide) rfl (fun _ h => (List.mem_cons_of_mem _ (List.mem_append_left _ (List.mem_append_left _ (List.mem_append_left _ (List.mem_append_left _ (List.mem_append_left _ (List.mem_append_left _ (List.mem_append_left _ (List.mem_append_left _ (List.mem_append_right _ h))))))))))) (by decide) (List.mem_of_getElem? (i := 1) rfl) (fun _ h => h) dX8_play_1 ?_
  refine s_callV (C := RX7) (As := []) (rest := []) (i := 159) (kd := 7) S hX G (k_X7_faultPlace l E 159 x g n (rfl : sh 159 = 7) (rfl : sh 160 = 11) e_x e_g hx hn80 hg) (cwV (bytes := cX7_faultPlace) (maxL := 5) (ret := (some .int)) 0 S.2.2.2.2 gX8_play_X7_faultPlace rfl rfl rfl (by decide +kernel) ⟨Nat.le_of_ble_eq_true rfl, Nat.le_of_ble_eq_true rfl⟩) (rfl : sh 159 = 7) rfl rfl rfl (by decide) rfl hl.1 rfl (Nat.le_of_ble_eq_true rfl) ⟨Nat.zero_le _, Nat.zero_le _⟩ dX8_play_4 (fun v I1 L1 H locs hR G => ?_)
  obtain ⟨hv, hI, hL⟩ := hR
  subst hv
  have G : GS E I L sg H locs := G.same hI hL
  refine W.eq (g2 := F0 mg 7 ls [.int (fpG g n n 0 0)]) rfl ?_
  refine lv_iconst (v := (-1 : Int32)) S.1 S.2.1 dX8_play_7 (by decide) ?_
  refine lv_icmp_eq (tgt := 14) S.1 S.2.1 dX8_play_8 (by decide) (fun _ => ?_) (fun h => absurd ht h)
  refine lv_aload_n S.1 S.2.1 dX8_play_14 rfl (lv_at hl 0 rfl) ?_
  refine s_get S hX G (i := 0) (kd := 8) (a := (I 0)) (v := .ref (E.2.2.2 159)) (C := RX8) (T := TX8) (N := 4) 3 (rfl : sh 0 = 8) rfl rfl rfl (by decide) rfl (fun _ h => (List.mem_cons_of_mem _ (List.mem_append_left _ (List.mem_append_left _ (List.mem_append_left _ (List.mem_append_left _ (List.mem_append_left _ (List.mem_append_left _ (List.mem_append_left _ (List.mem_append_left _ (List.mem_append_right _ h))))))))))) (by decide) (List.mem_of_getElem? (i := 1) rfl) (fun _ h => h) dX8_play_15 ?_
  refine s_callV (C := RX7) (As := []) (rest := []) (i := 159) (kd := 7) S hX G (k_X7_slots l E 159 x g n (rfl : sh 159 = 7) (rfl : sh 160 = 11) e_x e_g hx hn80 hg) (cwV (bytes := cX7_slots) (maxL := 3) (ret := (some .int)) 0 S.2.2.2.2 gX8_play_X7_slots rfl rfl rfl (by decide +kernel) ⟨Nat.le_of_ble_eq_true rfl, Nat.le_of_ble_eq_true rfl⟩) (rfl : sh 159 = 7) rfl rfl rfl (by decide) rfl hl.1 rfl (Nat.le_of_ble_eq_true rfl) ⟨Nat.zero_le _, Nat.zero_le _⟩ dX8_play_18 (fun v I1 L1 H locs hR G => ?_)
  obtain ⟨hv, hI, hL⟩ := hR
  subst hv
  have G : GS E I L sg H locs := G.same hI hL
  refine W.eq (g2 := F0 mg 21 ls [.int (slL g n)]) rfl ?_
  refine s_conv (y := (nI m)) hm ?_
  refine lv_istore_n (lv' := [(1, .int (nI m)), (0, .ref (E.2.2.2 0))]) S.1 S.2.1 dX8_play_21 rfl hl (by decide) rfl (fun ls hl => ?_)
  refine lv_iload_n S.1 S.2.1 dX8_play_22 rfl (lv_at hl 0 rfl) ?_
  refine lv_ldc (v := (100000 : Int32)) S.1 S.2.1 S.2.2.2.1 (S.2.2.2.2 _ (List.mem_of_getElem? (i := 3) rfl)) dX8_play_23 ?_
  refine lv_aload_n S.1 S.2.1 dX8_play_25 rfl (lv_at hl 1 rfl) ?_
  refine s_get S hX G (i := 0) (kd := 8) (a := (I 0)) (v := .ref (E.2.2.2 1)) (C := RX8) (T := TX8) (N := 4) 0 (rfl : sh 0 = 8) rfl rfl rfl (by decide) rfl (fun _ h => (List.mem_cons_of_mem _ (List.mem_append_left _ (List.mem_append_left _ (List.mem_append_left _ (List.mem_append_left _ (List.mem_append_left _ (List.mem_append_left _ (List.mem_append_left _ (List.mem_append_left _ (List.mem_append_right _ h))))))))))) (by decide) (List.mem_of_getElem? (i := 4) rfl) (fun _ h => h) dX8_play_26 ?_
  refine s_getN S hX G (i := 1) (kd := 0) (a := br) (v := .int (br 4)) (C := RX0) (T := TX0) (N := 5) 4 (rfl : sh 1 = 0) e_br rfl rfl (by decide) rfl (fun _ h => (List.mem_cons_of_mem _ (List.mem_append_left _ (List.mem_append_left _ (List.mem_append_left _ (List.mem_append_left _ (List.mem_append_left _ (List.mem_append_left _ (List.mem_append_left _ (List.mem_append_right _ h)))))))))) (by decide) (List.mem_of_getElem? (i := 35) rfl) (fun _ h => h) dX8_play_29 ?_
  refine s_conv (y := (nI k0)) hs ?_
  refine s_isub (v := (nI (100000 - k0))) S dX8_play_32 (pk_sub (a := 100000) (b := k0) (by omega)) ?_
  refine lv_icmp_le (tgt := 39) S.1 S.2.1 dX8_play_33 (by decide) (fun _ => ?_) (fun h => absurd (nI_le (by omega) (by omega)) h)
  refine lv_aload_n S.1 S.2.1 dX8_play_39 rfl (lv_at hl 1 rfl) ?_
  refine s_get S hX G (i := 0) (kd := 8) (a := (I 0)) (v := .ref (E.2.2.2 53)) (C := RX8) (T := TX8) (N := 4) 2 (rfl : sh 0 = 8) rfl rfl rfl (by decide) rfl (fun _ h => (List.mem_cons_of_mem _ (List.mem_append_left _ (List.mem_append_left _ (List.mem_append_left _ (List.mem_append_left _ (List.mem_append_left _ (List.mem_append_left _ (List.mem_append_left _ (List.mem_append_left _ (List.mem_append_right _ h))))))))))) (by decide) (List.mem_of_getElem? (i := 6) rfl) (fun _ h => h) dX8_play_40 ?_
  refine lv_aload_n S.1 S.2.1 dX8_play_43 rfl (lv_at hl 1 rfl) ?_
  refine s_get S hX G (i := 0) (kd := 8) (a := (I 0)) (v := .ref (E.2.2.2 1)) (C := RX8) (T := TX8) (N := 4) 0 (rfl : sh 0 = 8) rfl rfl rfl (by decide) rfl (fun _ h => (List.mem_cons_of_mem _ (List.mem_append_left _ (List.mem_append_left _ (List.mem_append_left _ (List.mem_append_left _ (List.mem_append_left _ (List.mem_append_left _ (List.mem_append_left _ (List.mem_append_left _ (List.mem_append_right _ h))))))))))) (by decide) (List.mem_of_getElem? (i := 4) rfl) (fun _ h => h) dX8_play_44 ?_
  refine s_callV (C := RX2) (As := [.ref (E.2.2.2 1)]) (rest := []) (i := 53) (kd := 2) S hX G (k_X2_record l E h o kp e_h ho hk ho4 hkp hisb) (cwV (bytes := cX2_record) (maxL := 2) (ret := none) 1 S.2.2.2.2 gX8_play_X2_record rfl rfl rfl (by decide +kernel) ⟨Nat.le_of_ble_eq_true rfl, Nat.le_of_ble_eq_true rfl⟩) (rfl : sh 53 = 2) rfl rfl rfl (by decide) rfl hl.1 rfl (Nat.le_of_ble_eq_true rfl) ⟨Nat.zero_le _, Nat.zero_le _⟩ dX8_play_47 (fun v I2 L2 H locs hR G => ?_)
  obtain ⟨hv, hRec⟩ := hR
  subst hv
  refine W.eq (g2 := F0 mg 50 ls []) rfl ?_
  refine lv_iconst (v := (0 : Int32)) S.1 S.2.1 dX8_play_50 (by decide) ?_
  refine lv_istore_n (lv' := [(2, .int (0 : Int32)), (1, .int (nI m)), (0, .ref (E.2.2.2 0))]) S.1 S.2.1 dX8_play_51 rfl hl (by decide) rfl (fun ls hl => ?_)
  refine lv_iconst (v := (0 : Int32)) S.1 S.2.1 dX8_play_52 (by decide) ?_
  refine lv_istore_n (lv' := [(3, .int (0 : Int32)), (2, .int (0 : Int32)), (1, .int (nI m)), (0, .ref (E.2.2.2 0))]) S.1 S.2.1 dX8_play_53 rfl hl (by decide) rfl (fun ls hl => ?_)
  refine s_loop (α := Nat × Nat) (nL := 5) (E := E) (fun nn x I' L' => nn = n - x.1 ∧ x.1 ≤ n ∧ x.2 = (plC g k0 (I2, L2) x.1).2.1 ∧ I' = (plC g k0 (I2, L2) x.1).1.1 ∧ L' = (plC g k0 (I2, L2) x.1).1.2) (fun x => [(3, .int (nI x.1)), (2, .int (nI x.2)), (1, .int (nI m)), (0, .ref (E.2.2.2 0))]) 54 (fun x => []) (fun nn ih_1 x I1 L1 H locs ls hP G hl => ?_) _ (0, 0) ⟨rfl, (Nat.zero_le _), rfl, rfl, rfl⟩ G (lv_sub hl [0, 1, 2, 3] rfl)
  obtain ⟨k, lg⟩ := x
  obtain ⟨hn, hk, hlg, hIc, hLc⟩ := hP
  have hn : nn = n - k := hn
  obtain ⟨I_b, rfl⟩ : ∃ z, z = I1 := ⟨I1, rfl⟩
  obtain ⟨L_b, rfl⟩ : ∃ z, z = L1 := ⟨L1, rfl⟩
  have hk : k ≤ n := hk
  have hlg : lg = (plC g k0 (I2, L2) k).2.1 := hlg
  have hIc : I_b = (plC g k0 (I2, L2) k).1.1 := hIc
  have hLc : L_b = (plC g k0 (I2, L2) k).1.2 := hLc
  have hl : lv_has ls 5 [(3, .int (nI k)), (2, .int (nI lg)), (1, .int (nI m)), (0, .ref (E.2.2.2 0))] := hl
  refine W.eq (g2 := F0 mg 54 ls []) rfl ?_
  have G : GS E (plC g k0 (I2, L2) k).1.1 (plC g k0 (I2, L2) k).1.2 sg H locs := G.same hIc hLc
  rcases Nat.lt_or_ge k n with hlt | hge
  · have hlt : k < n := hlt
    refine lv_iload_n S.1 S.2.1 dX8_play_54 rfl (lv_at hl 0 rfl) ?_
    refine lv_aload_n S.1 S.2.1 dX8_play_55 rfl (lv_at hl 3 rfl) ?_
    refine s_get S hX G (i := 0) (kd := 8) (a := ((plC g k0 (I2, L2) k).1.1 0)) (v := .ref (E.2.2.2 159)) (C := RX8) (T := TX8) (N := 4) 3 (rfl : sh 0 = 8) rfl rfl rfl (by decide) rfl (fun _ h => (List.mem_cons_of_mem _ (List.mem_append_left _ (List.mem_append_left _ (List.mem_append_left _ (List.mem_append_left _ (List.mem_append_left _ (List.mem_append_left _ (List.mem_append_left _ (List.mem_append_left _ (List.mem_append_right _ h))))))))))) (by decide) (List.mem_of_getElem? (i := 1) rfl) (fun _ h => h) dX8_play_56 ?_
    refine s_getN S hX G (i := 159) (kd := 7) (a := x) (v := .int (x 1)) (C := RX7) (T := TX7) (N := 2) 1 (rfl : sh 159 = 7) (Eq.trans (plC_fr (by decide)).1 (Eq.trans (hRec.fr2 (by decide)) e_x)) rfl rfl (by decide) rfl (fun _ h => (List.mem_cons_of_mem _ (List.mem_append_left _ (List.mem_append_left _ (List.mem_append_left _ (List.mem_append_left _ (List.mem_append_left _ (List.mem_append_left _ (List.mem_append_right _ h))))))))) (by decide) (List.mem_of_getElem? (i := 37) rfl) (fun _ h => h) dX8_play_59 ?_
    refine s_conv (y := (nI n)) hx ?_
    refine lv_icmp_ge (tgt := 130) S.1 S.2.1 dX8_play_62 (by decide) (fun h => absurd h (nI_ge hlt (by omega))) (fun _ => ?_)
    refine lv_aload_n S.1 S.2.1 dX8_play_65 rfl (lv_at hl 3 rfl) ?_
    refine s_get S hX G (i := 0) (kd := 8) (a := ((plC g k0 (I2, L2) k).1.1 0)) (v := .ref (E.2.2.2 159)) (C := RX8) (T := TX8) (N := 4) 3 (rfl : sh 0 = 8) rfl rfl rfl (by decide) rfl (fun _ h => (List.mem_cons_of_mem _ (List.mem_append_left _ (List.mem_append_left _ (List.mem_append_left _ (List.mem_append_left _ (List.mem_append_left _ (List.mem_append_left _ (List.mem_append_left _ (List.mem_append_left _ (List.mem_append_right _ h))))))))))) (by decide) (List.mem_of_getElem? (i := 1) rfl) (fun _ h => h) dX8_play_66 ?_
    refine lv_iload_n S.1 S.2.1 dX8_play_69 rfl (lv_at hl 0 rfl) ?_
    refine s_callV (C := RX7) (As := [.int (nI k)]) (rest := []) (i := 159) (kd := 7) S hX G (k_X7_signAt l E 159 k x g n (rfl : sh 159 = 7) (rfl : sh 160 = 11) (Eq.trans (plC_fr (by decide)).1 (Eq.trans (hRec.fr2 (by decide)) e_x)) (Eq.trans (plC_fr (by decide)).1 (Eq.trans (hRec.fr2 (by decide)) e_g)) hx hn80 hlt (hg k hlt)) (cwV (bytes := cX7_signAt) (maxL := 2) (ret := (some .char)) 1 S.2.2.2.2 gX8_play_X7_signAt rfl rfl rfl (by decide +kernel) ⟨Nat.le_of_ble_eq_true rfl, Nat.le_of_ble_eq_true rfl⟩) (rfl : sh 159 = 7) rfl rfl rfl (by decide) rfl hl.1 rfl (Nat.le_of_ble_eq_true rfl) ⟨Nat.zero_le _, Nat.zero_le _⟩ dX8_play_70 (fun v I1 L1 H locs hR G => ?_)
    obtain ⟨hv, hI, hL⟩ := hR
    subst hv
    have G : GS E (plC g k0 (I2, L2) k).1.1 (plC g k0 (I2, L2) k).1.2 sg H locs := G.same hI hL
    refine W.eq (g2 := F0 mg 73 ls [.int (g k)]) rfl ?_
    refine lv_istore (lv' := [(4, .int (g k)), (3, .int (nI k)), (2, .int (nI lg)), (1, .int (nI m)), (0, .ref (E.2.2.2 0))]) S.1 S.2.1 dX8_play_73 hl (by decide) rfl (fun ls hl => ?_)
    refine lv_iload S.1 S.2.1 dX8_play_75 (lv_at hl 0 rfl) ?_
    refine lv_bipush (v := (59 : Int32)) S.1 S.2.1 dX8_play_77 (by decide) ?_
    refine lv_icmp_ne (tgt := 103) S.1 S.2.1 dX8_play_79 (by decide) (fun c_2 => ?_) (fun c_2 => ?_)
    · have hl4 : lg ≤ 4 := by rw [hlg]; exact plC_lg
      rcases (show lg = 0 ∨ lg = 1 ∨ lg = 2 ∨ lg = 3 ∨ lg = 4 by omega) with rfl | rfl | rfl | rfl | rfl
      · have hl : lv_has ls 5 [(4, .int (g k)), (3, .int (nI k)), (2, .int (0 : Int32)), (1, .int (nI m)), (0, .ref (E.2.2.2 0))] := hl
        refine lv_iload_n S.1 S.2.1 dX8_play_103 rfl (lv_at hl 2 rfl) ?_
        refine lv_iconst (v := (4 : Int32)) S.1 S.2.1 dX8_play_104 (by decide) ?_
        refine lv_icmp_ge (tgt := 124) S.1 S.2.1 dX8_play_105 (by decide) (fun h => absurd h (by decide)) (fun _ => ?_)
        refine lv_aload_n S.1 S.2.1 dX8_play_108 rfl (lv_at hl 4 rfl) ?_
        refine s_get S hX G (i := 0) (kd := 8) (a := ((plC g k0 (I2, L2) k).1.1 0)) (v := .ref (E.2.2.2 1)) (C := RX8) (T := TX8) (N := 4) 0 (rfl : sh 0 = 8) rfl rfl rfl (by decide) rfl (fun _ h => (List.mem_cons_of_mem _ (List.mem_append_left _ (List.mem_append_left _ (List.mem_append_left _ (List.mem_append_left _ (List.mem_append_left _ (List.mem_append_left _ (List.mem_append_left _ (List.mem_append_left _ (List.mem_append_right _ h))))))))))) (by decide) (List.mem_of_getElem? (i := 4) rfl) (fun _ h => h) dX8_play_109 ?_
        refine lv_iload_n S.1 S.2.1 dX8_play_112 rfl (lv_at hl 2 rfl) ?_
        refine s_callV (C := RX0) (As := [.int (0 : Int32)]) (rest := []) (i := 1) (kd := 0) S hX G (k_X0_legAt_0 l E 1 (by unfold IsB; decide)) (cwV (bytes := cX0_legAt) (maxL := 3) (ret := (some (.object "BridgeLegs$Leg"))) 1 S.2.2.2.2 gX8_play_X0_legAt rfl rfl rfl (by decide +kernel) ⟨Nat.le_of_ble_eq_true rfl, Nat.le_of_ble_eq_true rfl⟩) (rfl : sh 1 = 0) rfl rfl rfl (by decide) rfl hl.1 rfl (Nat.le_of_ble_eq_true rfl) ⟨Nat.zero_le _, Nat.zero_le _⟩ dX8_play_113 (fun v I1 L1 H locs hR G => ?_)
        obtain ⟨hv, hI, hL⟩ := hR
        subst hv
        have G : GS E (plC g k0 (I2, L2) k).1.1 (plC g k0 (I2, L2) k).1.2 sg H locs := G.same hI hL
        refine W.eq (g2 := F0 mg 116 ls [.ref (E.2.2.2 3)]) rfl ?_
        refine lv_iload S.1 S.2.1 dX8_play_116 (lv_at hl 0 rfl) ?_
        refine s_callV (C := RX4) (As := [.int (g k)]) (rest := []) (i := 3) (kd := 4) S hX G (k_X4_obey l E 3 (g k) ((plC g k0 (I2, L2) k).1.1 3) (rfl : sh 3 = 4) rfl) (cwV (bytes := cX4_obey) (maxL := 2) (ret := none) 1 S.2.2.2.2 gX8_play_X4_obey rfl rfl rfl (by decide +kernel) ⟨Nat.le_of_ble_eq_true rfl, Nat.le_of_ble_eq_true rfl⟩) (rfl : sh 3 = 4) rfl rfl rfl (by decide) rfl hl.1 rfl (Nat.le_of_ble_eq_true rfl) ⟨Nat.zero_le _, Nat.zero_le _⟩ dX8_play_118 (fun v I1 L1 H locs hR G => ?_)
        obtain ⟨hv, hI, hL⟩ := hR
        subst hv
        have hI : I1 = (up (plC g k0 (I2, L2) k).1.1 3 (obeyF ((plC g k0 (I2, L2) k).1.1 3) (g k))) := hI
        have G : GS E (up (plC g k0 (I2, L2) k).1.1 3 (obeyF ((plC g k0 (I2, L2) k).1.1 3) (g k))) (plC g k0 (I2, L2) k).1.2 sg H locs := G.same hI hL
        refine W.eq (g2 := F0 mg 121 ls []) rfl ?_
        refine lv_iinc (v := (1 : Int32)) (lv' := [(2, .int (1 : Int32)), (4, .int (g k)), (3, .int (nI k)), (1, .int (nI m)), (0, .ref (E.2.2.2 0))]) S.1 S.2.1 dX8_play_121 hl (k := 2) rfl (by decide) (by decide) rfl (fun ls hl => ?_)
        refine lv_iinc (v := (nI (k + 1))) (lv' := [(3, .int (nI (k + 1))), (2, .int (1 : Int32)), (4, .int (g k)), (1, .int (nI m)), (0, .ref (E.2.2.2 0))]) S.1 S.2.1 dX8_play_124 hl (k := 2) rfl (nI_1 k) (by decide) rfl (fun ls hl => ?_)
        refine lv_goto (tgt := 54) S.1 S.2.1 dX8_play_127 (by decide) ?_
        exact ih_1 _ (show n - (k + 1) < nn by omega) ((k + 1), 1) _ _ _ _ _ ⟨rfl, (by omega), (by rw [(plC_leg c_2 (by rw [← hlg]; decide)), ← hlg]), (by rw [(plC_leg c_2 (by rw [← hlg]; decide)), ← hlg]; rfl), (by rw [(plC_leg c_2 (by rw [← hlg]; decide))])⟩ G (lv_sub hl [0, 1, 3, 4] rfl)
      · have hl : lv_has ls 5 [(4, .int (g k)), (3, .int (nI k)), (2, .int (1 : Int32)), (1, .int (nI m)), (0, .ref (E.2.2.2 0))] := hl
        refine lv_iload_n S.1 S.2.1 dX8_play_103 rfl (lv_at hl 2 rfl) ?_
        refine lv_iconst (v := (4 : Int32)) S.1 S.2.1 dX8_play_104 (by decide) ?_
        refine lv_icmp_ge (tgt := 124) S.1 S.2.1 dX8_play_105 (by decide) (fun h => absurd h (by decide)) (fun _ => ?_)
        refine lv_aload_n S.1 S.2.1 dX8_play_108 rfl (lv_at hl 4 rfl) ?_
        refine s_get S hX G (i := 0) (kd := 8) (a := ((plC g k0 (I2, L2) k).1.1 0)) (v := .ref (E.2.2.2 1)) (C := RX8) (T := TX8) (N := 4) 0 (rfl : sh 0 = 8) rfl rfl rfl (by decide) rfl (fun _ h => (List.mem_cons_of_mem _ (List.mem_append_left _ (List.mem_append_left _ (List.mem_append_left _ (List.mem_append_left _ (List.mem_append_left _ (List.mem_append_left _ (List.mem_append_left _ (List.mem_append_left _ (List.mem_append_right _ h))))))))))) (by decide) (List.mem_of_getElem? (i := 4) rfl) (fun _ h => h) dX8_play_109 ?_
        refine lv_iload_n S.1 S.2.1 dX8_play_112 rfl (lv_at hl 2 rfl) ?_
        refine s_callV (C := RX0) (As := [.int (1 : Int32)]) (rest := []) (i := 1) (kd := 0) S hX G (k_X0_legAt_1 l E 1 (by unfold IsB; decide)) (cwV (bytes := cX0_legAt) (maxL := 3) (ret := (some (.object "BridgeLegs$Leg"))) 1 S.2.2.2.2 gX8_play_X0_legAt rfl rfl rfl (by decide +kernel) ⟨Nat.le_of_ble_eq_true rfl, Nat.le_of_ble_eq_true rfl⟩) (rfl : sh 1 = 0) rfl rfl rfl (by decide) rfl hl.1 rfl (Nat.le_of_ble_eq_true rfl) ⟨Nat.zero_le _, Nat.zero_le _⟩ dX8_play_113 (fun v I1 L1 H locs hR G => ?_)
        obtain ⟨hv, hI, hL⟩ := hR
        subst hv
        have G : GS E (plC g k0 (I2, L2) k).1.1 (plC g k0 (I2, L2) k).1.2 sg H locs := G.same hI hL
        refine W.eq (g2 := F0 mg 116 ls [.ref (E.2.2.2 4)]) rfl ?_
        refine lv_iload S.1 S.2.1 dX8_play_116 (lv_at hl 0 rfl) ?_
        refine s_callV (C := RX4) (As := [.int (g k)]) (rest := []) (i := 4) (kd := 4) S hX G (k_X4_obey l E 4 (g k) ((plC g k0 (I2, L2) k).1.1 4) (rfl : sh 4 = 4) rfl) (cwV (bytes := cX4_obey) (maxL := 2) (ret := none) 1 S.2.2.2.2 gX8_play_X4_obey rfl rfl rfl (by decide +kernel) ⟨Nat.le_of_ble_eq_true rfl, Nat.le_of_ble_eq_true rfl⟩) (rfl : sh 4 = 4) rfl rfl rfl (by decide) rfl hl.1 rfl (Nat.le_of_ble_eq_true rfl) ⟨Nat.zero_le _, Nat.zero_le _⟩ dX8_play_118 (fun v I1 L1 H locs hR G => ?_)
        obtain ⟨hv, hI, hL⟩ := hR
        subst hv
        have hI : I1 = (up (plC g k0 (I2, L2) k).1.1 4 (obeyF ((plC g k0 (I2, L2) k).1.1 4) (g k))) := hI
        have G : GS E (up (plC g k0 (I2, L2) k).1.1 4 (obeyF ((plC g k0 (I2, L2) k).1.1 4) (g k))) (plC g k0 (I2, L2) k).1.2 sg H locs := G.same hI hL
        refine W.eq (g2 := F0 mg 121 ls []) rfl ?_
        refine lv_iinc (v := (2 : Int32)) (lv' := [(2, .int (2 : Int32)), (4, .int (g k)), (3, .int (nI k)), (1, .int (nI m)), (0, .ref (E.2.2.2 0))]) S.1 S.2.1 dX8_play_121 hl (k := 2) rfl (by decide) (by decide) rfl (fun ls hl => ?_)
        refine lv_iinc (v := (nI (k + 1))) (lv' := [(3, .int (nI (k + 1))), (2, .int (2 : Int32)), (4, .int (g k)), (1, .int (nI m)), (0, .ref (E.2.2.2 0))]) S.1 S.2.1 dX8_play_124 hl (k := 2) rfl (nI_1 k) (by decide) rfl (fun ls hl => ?_)
        refine lv_goto (tgt := 54) S.1 S.2.1 dX8_play_127 (by decide) ?_
        exact ih_1 _ (show n - (k + 1) < nn by omega) ((k + 1), 2) _ _ _ _ _ ⟨rfl, (by omega), (by rw [(plC_leg c_2 (by rw [← hlg]; decide)), ← hlg]), (by rw [(plC_leg c_2 (by rw [← hlg]; decide)), ← hlg]; rfl), (by rw [(plC_leg c_2 (by rw [← hlg]; decide))])⟩ G (lv_sub hl [0, 1, 3, 4] rfl)
      · have hl : lv_has ls 5 [(4, .int (g k)), (3, .int (nI k)), (2, .int (2 : Int32)), (1, .int (nI m)), (0, .ref (E.2.2.2 0))] := hl
        refine lv_iload_n S.1 S.2.1 dX8_play_103 rfl (lv_at hl 2 rfl) ?_
        refine lv_iconst (v := (4 : Int32)) S.1 S.2.1 dX8_play_104 (by decide) ?_
        refine lv_icmp_ge (tgt := 124) S.1 S.2.1 dX8_play_105 (by decide) (fun h => absurd h (by decide)) (fun _ => ?_)
        refine lv_aload_n S.1 S.2.1 dX8_play_108 rfl (lv_at hl 4 rfl) ?_
        refine s_get S hX G (i := 0) (kd := 8) (a := ((plC g k0 (I2, L2) k).1.1 0)) (v := .ref (E.2.2.2 1)) (C := RX8) (T := TX8) (N := 4) 0 (rfl : sh 0 = 8) rfl rfl rfl (by decide) rfl (fun _ h => (List.mem_cons_of_mem _ (List.mem_append_left _ (List.mem_append_left _ (List.mem_append_left _ (List.mem_append_left _ (List.mem_append_left _ (List.mem_append_left _ (List.mem_append_left _ (List.mem_append_left _ (List.mem_append_right _ h))))))))))) (by decide) (List.mem_of_getElem? (i := 4) rfl) (fun _ h => h) dX8_play_109 ?_
        refine lv_iload_n S.1 S.2.1 dX8_play_112 rfl (lv_at hl 2 rfl) ?_
        refine s_callV (C := RX0) (As := [.int (2 : Int32)]) (rest := []) (i := 1) (kd := 0) S hX G (k_X0_legAt_2 l E 1 (by unfold IsB; decide)) (cwV (bytes := cX0_legAt) (maxL := 3) (ret := (some (.object "BridgeLegs$Leg"))) 1 S.2.2.2.2 gX8_play_X0_legAt rfl rfl rfl (by decide +kernel) ⟨Nat.le_of_ble_eq_true rfl, Nat.le_of_ble_eq_true rfl⟩) (rfl : sh 1 = 0) rfl rfl rfl (by decide) rfl hl.1 rfl (Nat.le_of_ble_eq_true rfl) ⟨Nat.zero_le _, Nat.zero_le _⟩ dX8_play_113 (fun v I1 L1 H locs hR G => ?_)
        obtain ⟨hv, hI, hL⟩ := hR
        subst hv
        have G : GS E (plC g k0 (I2, L2) k).1.1 (plC g k0 (I2, L2) k).1.2 sg H locs := G.same hI hL
        refine W.eq (g2 := F0 mg 116 ls [.ref (E.2.2.2 12)]) rfl ?_
        refine lv_iload S.1 S.2.1 dX8_play_116 (lv_at hl 0 rfl) ?_
        refine s_callV (C := RX4) (As := [.int (g k)]) (rest := []) (i := 12) (kd := 4) S hX G (k_X4_obey l E 12 (g k) ((plC g k0 (I2, L2) k).1.1 12) (rfl : sh 12 = 4) rfl) (cwV (bytes := cX4_obey) (maxL := 2) (ret := none) 1 S.2.2.2.2 gX8_play_X4_obey rfl rfl rfl (by decide +kernel) ⟨Nat.le_of_ble_eq_true rfl, Nat.le_of_ble_eq_true rfl⟩) (rfl : sh 12 = 4) rfl rfl rfl (by decide) rfl hl.1 rfl (Nat.le_of_ble_eq_true rfl) ⟨Nat.zero_le _, Nat.zero_le _⟩ dX8_play_118 (fun v I1 L1 H locs hR G => ?_)
        obtain ⟨hv, hI, hL⟩ := hR
        subst hv
        have hI : I1 = (up (plC g k0 (I2, L2) k).1.1 12 (obeyF ((plC g k0 (I2, L2) k).1.1 12) (g k))) := hI
        have G : GS E (up (plC g k0 (I2, L2) k).1.1 12 (obeyF ((plC g k0 (I2, L2) k).1.1 12) (g k))) (plC g k0 (I2, L2) k).1.2 sg H locs := G.same hI hL
        refine W.eq (g2 := F0 mg 121 ls []) rfl ?_
        refine lv_iinc (v := (3 : Int32)) (lv' := [(2, .int (3 : Int32)), (4, .int (g k)), (3, .int (nI k)), (1, .int (nI m)), (0, .ref (E.2.2.2 0))]) S.1 S.2.1 dX8_play_121 hl (k := 2) rfl (by decide) (by decide) rfl (fun ls hl => ?_)
        refine lv_iinc (v := (nI (k + 1))) (lv' := [(3, .int (nI (k + 1))), (2, .int (3 : Int32)), (4, .int (g k)), (1, .int (nI m)), (0, .ref (E.2.2.2 0))]) S.1 S.2.1 dX8_play_124 hl (k := 2) rfl (nI_1 k) (by decide) rfl (fun ls hl => ?_)
        refine lv_goto (tgt := 54) S.1 S.2.1 dX8_play_127 (by decide) ?_
        exact ih_1 _ (show n - (k + 1) < nn by omega) ((k + 1), 3) _ _ _ _ _ ⟨rfl, (by omega), (by rw [(plC_leg c_2 (by rw [← hlg]; decide)), ← hlg]), (by rw [(plC_leg c_2 (by rw [← hlg]; decide)), ← hlg]; rfl), (by rw [(plC_leg c_2 (by rw [← hlg]; decide))])⟩ G (lv_sub hl [0, 1, 3, 4] rfl)
      · have hl : lv_has ls 5 [(4, .int (g k)), (3, .int (nI k)), (2, .int (3 : Int32)), (1, .int (nI m)), (0, .ref (E.2.2.2 0))] := hl
        refine lv_iload_n S.1 S.2.1 dX8_play_103 rfl (lv_at hl 2 rfl) ?_
        refine lv_iconst (v := (4 : Int32)) S.1 S.2.1 dX8_play_104 (by decide) ?_
        refine lv_icmp_ge (tgt := 124) S.1 S.2.1 dX8_play_105 (by decide) (fun h => absurd h (by decide)) (fun _ => ?_)
        refine lv_aload_n S.1 S.2.1 dX8_play_108 rfl (lv_at hl 4 rfl) ?_
        refine s_get S hX G (i := 0) (kd := 8) (a := ((plC g k0 (I2, L2) k).1.1 0)) (v := .ref (E.2.2.2 1)) (C := RX8) (T := TX8) (N := 4) 0 (rfl : sh 0 = 8) rfl rfl rfl (by decide) rfl (fun _ h => (List.mem_cons_of_mem _ (List.mem_append_left _ (List.mem_append_left _ (List.mem_append_left _ (List.mem_append_left _ (List.mem_append_left _ (List.mem_append_left _ (List.mem_append_left _ (List.mem_append_left _ (List.mem_append_right _ h))))))))))) (by decide) (List.mem_of_getElem? (i := 4) rfl) (fun _ h => h) dX8_play_109 ?_
        refine lv_iload_n S.1 S.2.1 dX8_play_112 rfl (lv_at hl 2 rfl) ?_
        refine s_callV (C := RX0) (As := [.int (3 : Int32)]) (rest := []) (i := 1) (kd := 0) S hX G (k_X0_legAt_3 l E 1 (by unfold IsB; decide)) (cwV (bytes := cX0_legAt) (maxL := 3) (ret := (some (.object "BridgeLegs$Leg"))) 1 S.2.2.2.2 gX8_play_X0_legAt rfl rfl rfl (by decide +kernel) ⟨Nat.le_of_ble_eq_true rfl, Nat.le_of_ble_eq_true rfl⟩) (rfl : sh 1 = 0) rfl rfl rfl (by decide) rfl hl.1 rfl (Nat.le_of_ble_eq_true rfl) ⟨Nat.zero_le _, Nat.zero_le _⟩ dX8_play_113 (fun v I1 L1 H locs hR G => ?_)
        obtain ⟨hv, hI, hL⟩ := hR
        subst hv
        have G : GS E (plC g k0 (I2, L2) k).1.1 (plC g k0 (I2, L2) k).1.2 sg H locs := G.same hI hL
        refine W.eq (g2 := F0 mg 116 ls [.ref (E.2.2.2 13)]) rfl ?_
        refine lv_iload S.1 S.2.1 dX8_play_116 (lv_at hl 0 rfl) ?_
        refine s_callV (C := RX4) (As := [.int (g k)]) (rest := []) (i := 13) (kd := 4) S hX G (k_X4_obey l E 13 (g k) ((plC g k0 (I2, L2) k).1.1 13) (rfl : sh 13 = 4) rfl) (cwV (bytes := cX4_obey) (maxL := 2) (ret := none) 1 S.2.2.2.2 gX8_play_X4_obey rfl rfl rfl (by decide +kernel) ⟨Nat.le_of_ble_eq_true rfl, Nat.le_of_ble_eq_true rfl⟩) (rfl : sh 13 = 4) rfl rfl rfl (by decide) rfl hl.1 rfl (Nat.le_of_ble_eq_true rfl) ⟨Nat.zero_le _, Nat.zero_le _⟩ dX8_play_118 (fun v I1 L1 H locs hR G => ?_)
        obtain ⟨hv, hI, hL⟩ := hR
        subst hv
        have hI : I1 = (up (plC g k0 (I2, L2) k).1.1 13 (obeyF ((plC g k0 (I2, L2) k).1.1 13) (g k))) := hI
        have G : GS E (up (plC g k0 (I2, L2) k).1.1 13 (obeyF ((plC g k0 (I2, L2) k).1.1 13) (g k))) (plC g k0 (I2, L2) k).1.2 sg H locs := G.same hI hL
        refine W.eq (g2 := F0 mg 121 ls []) rfl ?_
        refine lv_iinc (v := (4 : Int32)) (lv' := [(2, .int (4 : Int32)), (4, .int (g k)), (3, .int (nI k)), (1, .int (nI m)), (0, .ref (E.2.2.2 0))]) S.1 S.2.1 dX8_play_121 hl (k := 2) rfl (by decide) (by decide) rfl (fun ls hl => ?_)
        refine lv_iinc (v := (nI (k + 1))) (lv' := [(3, .int (nI (k + 1))), (2, .int (4 : Int32)), (4, .int (g k)), (1, .int (nI m)), (0, .ref (E.2.2.2 0))]) S.1 S.2.1 dX8_play_124 hl (k := 2) rfl (nI_1 k) (by decide) rfl (fun ls hl => ?_)
        refine lv_goto (tgt := 54) S.1 S.2.1 dX8_play_127 (by decide) ?_
        exact ih_1 _ (show n - (k + 1) < nn by omega) ((k + 1), 4) _ _ _ _ _ ⟨rfl, (by omega), (by rw [(plC_leg c_2 (by rw [← hlg]; decide)), ← hlg]), (by rw [(plC_leg c_2 (by rw [← hlg]; decide)), ← hlg]; rfl), (by rw [(plC_leg c_2 (by rw [← hlg]; decide))])⟩ G (lv_sub hl [0, 1, 3, 4] rfl)
      · have hl : lv_has ls 5 [(4, .int (g k)), (3, .int (nI k)), (2, .int (4 : Int32)), (1, .int (nI m)), (0, .ref (E.2.2.2 0))] := hl
        refine lv_iload_n S.1 S.2.1 dX8_play_103 rfl (lv_at hl 2 rfl) ?_
        refine lv_iconst (v := (4 : Int32)) S.1 S.2.1 dX8_play_104 (by decide) ?_
        refine lv_icmp_ge (tgt := 124) S.1 S.2.1 dX8_play_105 (by decide) (fun _ => ?_) (fun h => absurd (by decide) h)
        refine lv_iinc (v := (nI (k + 1))) (lv' := [(3, .int (nI (k + 1))), (4, .int (g k)), (2, .int (4 : Int32)), (1, .int (nI m)), (0, .ref (E.2.2.2 0))]) S.1 S.2.1 dX8_play_124 hl (k := 1) rfl (nI_1 k) (by decide) rfl (fun ls hl => ?_)
        refine lv_goto (tgt := 54) S.1 S.2.1 dX8_play_127 (by decide) ?_
        exact ih_1 _ (show n - (k + 1) < nn by omega) ((k + 1), 4) _ _ _ _ _ ⟨rfl, (by omega), (by rw [(plC_more c_2 (by rw [← hlg]; decide))]; exact hlg), (by rw [(plC_more c_2 (by rw [← hlg]; decide))]), (by rw [(plC_more c_2 (by rw [← hlg]; decide))])⟩ G (lv_sub hl [0, 2, 3, 4] rfl)
    · refine lv_aload_n S.1 S.2.1 dX8_play_82 rfl (lv_at hl 4 rfl) ?_
      refine s_get S hX G (i := 0) (kd := 8) (a := ((plC g k0 (I2, L2) k).1.1 0)) (v := .ref (E.2.2.2 1)) (C := RX8) (T := TX8) (N := 4) 0 (rfl : sh 0 = 8) rfl rfl rfl (by decide) rfl (fun _ h => (List.mem_cons_of_mem _ (List.mem_append_left _ (List.mem_append_left _ (List.mem_append_left _ (List.mem_append_left _ (List.mem_append_left _ (List.mem_append_left _ (List.mem_append_left _ (List.mem_append_left _ (List.mem_append_right _ h))))))))))) (by decide) (List.mem_of_getElem? (i := 4) rfl) (fun _ h => h) dX8_play_83 ?_
      refine lv_aload_n S.1 S.2.1 dX8_play_86 rfl (lv_at hl 4 rfl) ?_
      refine s_get S hX G (i := 0) (kd := 8) (a := ((plC g k0 (I2, L2) k).1.1 0)) (v := .ref (E.2.2.2 159)) (C := RX8) (T := TX8) (N := 4) 3 (rfl : sh 0 = 8) rfl rfl rfl (by decide) rfl (fun _ h => (List.mem_cons_of_mem _ (List.mem_append_left _ (List.mem_append_left _ (List.mem_append_left _ (List.mem_append_left _ (List.mem_append_left _ (List.mem_append_left _ (List.mem_append_left _ (List.mem_append_left _ (List.mem_append_right _ h))))))))))) (by decide) (List.mem_of_getElem? (i := 1) rfl) (fun _ h => h) dX8_play_87 ?_
      refine lv_iload_n S.1 S.2.1 dX8_play_90 rfl (lv_at hl 1 rfl) ?_
      refine s_callV (C := RX7) (As := [.int (nI k)]) (rest := [.ref (E.2.2.2 1)]) (i := 159) (kd := 7) S hX G (k_X7_slotsBefore l E 159 k x g n (rfl : sh 159 = 7) (rfl : sh 160 = 11) (Eq.trans (plC_fr (by decide)).1 (Eq.trans (hRec.fr2 (by decide)) e_x)) (Eq.trans (plC_fr (by decide)).1 (Eq.trans (hRec.fr2 (by decide)) e_g)) hx hn80 hlt hg) (cwV (bytes := cX7_slotsBefore) (maxL := 5) (ret := (some .int)) 1 S.2.2.2.2 gX8_play_X7_slotsBefore rfl rfl rfl (by decide +kernel) ⟨Nat.le_of_ble_eq_true rfl, Nat.le_of_ble_eq_true rfl⟩) (rfl : sh 159 = 7) rfl rfl rfl (by decide) rfl hl.1 rfl (Nat.le_of_ble_eq_true rfl) ⟨Nat.zero_le _, Nat.zero_le _⟩ dX8_play_91 (fun v I1 L1 H locs hR G => ?_)
      obtain ⟨hv, hI, hL⟩ := hR
      subst hv
      have G : GS E (plC g k0 (I2, L2) k).1.1 (plC g k0 (I2, L2) k).1.2 sg H locs := G.same hI hL
      refine W.eq (g2 := F0 mg 94 ls [.int (sbL g k 0 1), .ref (E.2.2.2 1)]) rfl ?_
      refine s_conv (y := (nI (sbL g k 0 1).toNatClampNeg)) (hb k hlt c_2).1 ?_
      refine s_callV (C := RX0) (As := [.int (nI (sbL g k 0 1).toNatClampNeg)]) (rest := []) (i := 1) (kd := 0) S hX G (k_X0_pass l E 1 ((sbL g k 0 1).toNatClampNeg) (plC g k0 (I2, L2) k).2.2 (by unfold IsB; decide) (by have := plC_k (g := g) (k0 := k0) (s := (I2, L2)) (n := n) (j := k) (fun i hi h => (hb i hi h).2) (by omega); have := (hb k hlt c_2).2; omega) (plC_slot (g := g) (k0 := k0) (j := k) (s := (I2, L2)) (Eq.trans (congrFun (hRec.fr (z := 1) (by decide) (by decide)) 4) (Eq.trans (congrFun e_br 4) hs)) (show isb (I2 2 7) by rw [hRec.fr (by decide) (by decide)]; exact (hisb 1 (by decide)).2.1) (show isb (I2 11 7) by rw [hRec.fr (by decide) (by decide)]; exact (hisb 10 (by decide)).2.1)).1 (plC_slot (g := g) (k0 := k0) (j := k) (s := (I2, L2)) (Eq.trans (congrFun (hRec.fr (z := 1) (by decide) (by decide)) 4) (Eq.trans (congrFun e_br 4) hs)) (show isb (I2 2 7) by rw [hRec.fr (by decide) (by decide)]; exact (hisb 1 (by decide)).2.1) (show isb (I2 11 7) by rw [hRec.fr (by decide) (by decide)]; exact (hisb 10 (by decide)).2.1)).2.1 (plC_slot (g := g) (k0 := k0) (j := k) (s := (I2, L2)) (Eq.trans (congrFun (hRec.fr (z := 1) (by decide) (by decide)) 4) (Eq.trans (congrFun e_br 4) hs)) (show isb (I2 2 7) by rw [hRec.fr (by decide) (by decide)]; exact (hisb 1 (by decide)).2.1) (show isb (I2 11 7) by rw [hRec.fr (by decide) (by decide)]; exact (hisb 10 (by decide)).2.1)).2.2) (cwV (bytes := cX0_pass) (maxL := 4) (ret := (some .int)) 1 S.2.2.2.2 gX8_play_X0_pass rfl rfl rfl (by decide +kernel) ⟨Nat.le_of_ble_eq_true rfl, Nat.le_of_ble_eq_true rfl⟩) (rfl : sh 1 = 0) rfl rfl rfl (by decide) rfl hl.1 rfl (Nat.le_of_ble_eq_true rfl) ⟨Nat.zero_le _, Nat.zero_le _⟩ dX8_play_94 (fun v I4 L4 H locs hR G => ?_)
      obtain ⟨hv, hI, hL⟩ := hR
      subst hv
      have G : GS E (brIt 1 (plC g k0 (I2, L2) k).2.2 (sbL g k 0 1).toNatClampNeg (plC g k0 (I2, L2) k).1).1 (brIt 1 (plC g k0 (I2, L2) k).2.2 (sbL g k 0 1).toNatClampNeg (plC g k0 (I2, L2) k).1).2 sg H locs := G.same hI hL
      refine W.eq (g2 := F0 mg 97 ls [.int (brSum 1 (plC g k0 (I2, L2) k).2.2 (sbL g k 0 1).toNatClampNeg ((plC g k0 (I2, L2) k).1.1, (plC g k0 (I2, L2) k).1.2))]) rfl ?_
      refine lv_pop S.1 S.2.1 dX8_play_97 rfl ?_
      refine lv_iconst (v := (0 : Int32)) S.1 S.2.1 dX8_play_98 (by decide) ?_
      refine lv_istore_n (lv' := [(2, .int (0 : Int32)), (4, .int (g k)), (3, .int (nI k)), (1, .int (nI m)), (0, .ref (E.2.2.2 0))]) S.1 S.2.1 dX8_play_99 rfl hl (by decide) rfl (fun ls hl => ?_)
      refine lv_goto (tgt := 124) S.1 S.2.1 dX8_play_100 (by decide) ?_
      refine lv_iinc (v := (nI (k + 1))) (lv' := [(3, .int (nI (k + 1))), (2, .int (0 : Int32)), (4, .int (g k)), (1, .int (nI m)), (0, .ref (E.2.2.2 0))]) S.1 S.2.1 dX8_play_124 hl (k := 2) rfl (nI_1 k) (by decide) rfl (fun ls hl => ?_)
      refine lv_goto (tgt := 54) S.1 S.2.1 dX8_play_127 (by decide) ?_
      exact ih_1 _ (show n - (k + 1) < nn by omega) ((k + 1), 0) _ _ _ _ _ ⟨rfl, (by omega), (by rw [plC_semi c_2]), (by rw [plC_semi c_2]), (by rw [plC_semi c_2])⟩ G (lv_sub hl [0, 1, 3, 4] rfl)
  · have hkn : n = k := by omega
    subst hkn
    refine lv_iload_n S.1 S.2.1 dX8_play_54 rfl (lv_at hl 0 rfl) ?_
    refine lv_aload_n S.1 S.2.1 dX8_play_55 rfl (lv_at hl 3 rfl) ?_
    refine s_get S hX G (i := 0) (kd := 8) (a := ((plC g k0 (I2, L2) n).1.1 0)) (v := .ref (E.2.2.2 159)) (C := RX8) (T := TX8) (N := 4) 3 (rfl : sh 0 = 8) rfl rfl rfl (by decide) rfl (fun _ h => (List.mem_cons_of_mem _ (List.mem_append_left _ (List.mem_append_left _ (List.mem_append_left _ (List.mem_append_left _ (List.mem_append_left _ (List.mem_append_left _ (List.mem_append_left _ (List.mem_append_left _ (List.mem_append_right _ h))))))))))) (by decide) (List.mem_of_getElem? (i := 1) rfl) (fun _ h => h) dX8_play_56 ?_
    refine s_getN S hX G (i := 159) (kd := 7) (a := x) (v := .int (x 1)) (C := RX7) (T := TX7) (N := 2) 1 (rfl : sh 159 = 7) (Eq.trans (plC_fr (by decide)).1 (Eq.trans (hRec.fr2 (by decide)) e_x)) rfl rfl (by decide) rfl (fun _ h => (List.mem_cons_of_mem _ (List.mem_append_left _ (List.mem_append_left _ (List.mem_append_left _ (List.mem_append_left _ (List.mem_append_left _ (List.mem_append_left _ (List.mem_append_right _ h))))))))) (by decide) (List.mem_of_getElem? (i := 37) rfl) (fun _ h => h) dX8_play_59 ?_
    refine s_conv (y := (nI n)) hx ?_
    refine lv_icmp_ge (tgt := 130) S.1 S.2.1 dX8_play_62 (by decide) (fun _ => ?_) (fun h => absurd (nI_le (by omega) (by omega)) h)
    refine lv_iload_n S.1 S.2.1 dX8_play_130 rfl (lv_at hl 2 rfl) ?_
    refine s_iret (x := (nI m)) S G hr hlk dX8_play_131 ?_
    exact ⟨I2, L2, hRec, rfl, rfl, rfl⟩
