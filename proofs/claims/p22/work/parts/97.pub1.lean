set_option maxHeartbeats 4000000 in
set_option maxRecDepth 100000 in
theorem k_X8_set_ok (l : Launch) (E : Ev) {I : SI} {L : SL} (q : Nat) (value : Int32) (h : Nat → Int32) (da : Nat → Int32) (sv : Nat → Int32) (o kp : Nat) (e_h : I (53) = h) (e_da : I (20) = da) (e_sv : I (21) = sv) (ho : h 1 = nI o) (hk : h 2 = nI kp) (ho4 : o < 4) (hkp : kp ≤ 4) (hisb : IsbB I 1) (h0 : da 0 = 0) (hq : q < 6) (ht : TK6 (nI q) value) : CS l yX8_set wsX8_set ({ frames := 5, cells := 0, slots := 0, locals := 102 }) E [.ref (E.2.2.2 0), .int (nI q), .int value] I L (fun vv I' L' => vv = some (.int (sv q)) ∧ ∃ I1 L1, RecP I L I1 L1 o kp ∧ I' = (up I1 (21) (upd sv q value)) ∧ L' = L1) := by
  refine CS.of (cc := cX8_set) (maxL := 3) (ret := (some .int)) (by decide) rfl (Nat.le_of_ble_eq_true rfl) ?_
  intro pg en sg mg below meth cg ls S hr hlk hX G hl
  have S : CallFix pg mg cg cX8_set 3 sg _ wsX8_set RX8 := S
  have hl : lv_has ls 3 [(0, .ref (E.2.2.2 0)), (1, .int (nI q)), (2, .int value)] := hl
  refine lv_aload_n S.1 S.2.1 dX8_set_0 rfl (lv_at hl 0 rfl) ?_
  refine s_get S hX G (i := 0) (kd := 8) (a := (I 0)) (v := .ref (E.2.2.2 1)) (C := RX8) (T := TX8) (N := 4) 0 (rfl : sh 0 = 8) rfl rfl rfl (by decide) rfl (fun _ h => (List.mem_cons_of_mem _ (List.mem_append_left _ (List.mem_append_left _ (List.mem_append_left _ (List.mem_append_left _ (List.mem_append_left _ (List.mem_append_left _ (List.mem_append_left _ (List.mem_append_right _ h)))))))))) (by decide) (List.mem_of_getElem? (i := 1) rfl) (fun _ h => h) dX8_set_1 ?_
  refine s_getN S hX G (i := 1) (kd := 0) (a := (I 1)) (v := .ref (E.2.2.2 20)) (C := RX0) (T := TX0) (N := 5) 2 (rfl : sh 1 = 0) rfl rfl rfl (by decide) rfl (fun _ h => (List.mem_cons_of_mem _ (List.mem_append_left _ (List.mem_append_left _ (List.mem_append_left _ (List.mem_append_left _ (List.mem_append_left _ (List.mem_append_left _ (List.mem_append_right _ h))))))))) (by decide) (List.mem_of_getElem? (i := 33) rfl) (fun _ h => h) dX8_set_4 ?_
  refine lv_iload_n S.1 S.2.1 dX8_set_7 rfl (lv_at hl 1 rfl) ?_
  refine lv_iload_n S.1 S.2.1 dX8_set_8 rfl (lv_at hl 2 rfl) ?_
  refine s_callV (C := RX1) (As := [.int (nI q), .int value]) (rest := []) (i := 20) (kd := 1) S hX G (k_X1_takes6 l E 20 (nI q) value da (rfl : sh 20 = 1) (rfl : sh 21 = 20) e_da (by first | assumption | decide | omega)) (cwV (bytes := cX1_takes) (maxL := 3) (ret := (some .boolean)) 2 S.2.2.2.2 gX8_set_X1_takes rfl rfl rfl (by decide +kernel) ⟨Nat.le_of_ble_eq_true rfl, Nat.le_of_ble_eq_true rfl⟩) (rfl : sh 20 = 1) rfl rfl rfl (by decide) rfl hl.1 rfl (Nat.le_of_ble_eq_true rfl) ⟨Nat.zero_le _, Nat.zero_le _⟩ dX8_set_9 (fun v I1 L1 H locs hR G => ?_)
  obtain ⟨hv, hI, hL⟩ := hR
  subst hv
  have G : GS E I L sg H locs := G.same hI hL
  refine W.eq (g2 := F0 mg 12 ls [.int (if (¬ (nI q) < 0 ∧ ¬ (6 : Int32) ≤ (nI q)) ∧ (¬ value < e_tab 0 (nI q).toNatClampNeg ∧ ¬ e_tab 1 (nI q).toNatClampNeg < value) then 1 else 0)]) rfl ?_
  refine s_if_ne_b (P := (¬ (nI q) < 0 ∧ ¬ (6 : Int32) ≤ (nI q)) ∧ (¬ value < e_tab 0 (nI q).toNatClampNeg ∧ ¬ e_tab 1 (nI q).toNatClampNeg < value)) (tgt := 18) S dX8_set_12 (by decide) (fun _ => ?_) (fun h => absurd ht h)
  refine lv_aload_n S.1 S.2.1 dX8_set_18 rfl (lv_at hl 0 rfl) ?_
  refine s_get S hX G (i := 0) (kd := 8) (a := (I 0)) (v := .ref (E.2.2.2 53)) (C := RX8) (T := TX8) (N := 4) 2 (rfl : sh 0 = 8) rfl rfl rfl (by decide) rfl (fun _ h => (List.mem_cons_of_mem _ (List.mem_append_left _ (List.mem_append_left _ (List.mem_append_left _ (List.mem_append_left _ (List.mem_append_left _ (List.mem_append_left _ (List.mem_append_left _ (List.mem_append_right _ h)))))))))) (by decide) (List.mem_of_getElem? (i := 3) rfl) (fun _ h => h) dX8_set_19 ?_
  refine lv_aload_n S.1 S.2.1 dX8_set_22 rfl (lv_at hl 0 rfl) ?_
  refine s_get S hX G (i := 0) (kd := 8) (a := (I 0)) (v := .ref (E.2.2.2 1)) (C := RX8) (T := TX8) (N := 4) 0 (rfl : sh 0 = 8) rfl rfl rfl (by decide) rfl (fun _ h => (List.mem_cons_of_mem _ (List.mem_append_left _ (List.mem_append_left _ (List.mem_append_left _ (List.mem_append_left _ (List.mem_append_left _ (List.mem_append_left _ (List.mem_append_left _ (List.mem_append_right _ h)))))))))) (by decide) (List.mem_of_getElem? (i := 1) rfl) (fun _ h => h) dX8_set_23 ?_
  refine s_callV (C := RX2) (As := [.ref (E.2.2.2 1)]) (rest := []) (i := 53) (kd := 2) S hX G (k_X2_record l E h o kp e_h ho hk ho4 hkp hisb) (cwV (bytes := cX2_record) (maxL := 2) (ret := none) 1 S.2.2.2.2 gX8_set_X2_record rfl rfl rfl (by decide +kernel) ⟨Nat.le_of_ble_eq_true rfl, Nat.le_of_ble_eq_true rfl⟩) (rfl : sh 53 = 2) rfl rfl rfl (by decide) rfl hl.1 rfl (Nat.le_of_ble_eq_true rfl) ⟨Nat.zero_le _, Nat.zero_le _⟩ dX8_set_26 (fun v I2 L2 H locs hR G => ?_)
  obtain ⟨hv, hRec⟩ := hR
  subst hv
  refine W.eq (g2 := F0 mg 29 ls []) rfl ?_
  refine lv_aload_n S.1 S.2.1 dX8_set_29 rfl (lv_at hl 0 rfl) ?_
  refine s_get S hX G (i := 0) (kd := 8) (a := (I2 0)) (v := .ref (E.2.2.2 1)) (C := RX8) (T := TX8) (N := 4) 0 (rfl : sh 0 = 8) rfl rfl rfl (by decide) rfl (fun _ h => (List.mem_cons_of_mem _ (List.mem_append_left _ (List.mem_append_left _ (List.mem_append_left _ (List.mem_append_left _ (List.mem_append_left _ (List.mem_append_left _ (List.mem_append_left _ (List.mem_append_right _ h)))))))))) (by decide) (List.mem_of_getElem? (i := 1) rfl) (fun _ h => h) dX8_set_30 ?_
  refine s_getN S hX G (i := 1) (kd := 0) (a := (I2 1)) (v := .ref (E.2.2.2 20)) (C := RX0) (T := TX0) (N := 5) 2 (rfl : sh 1 = 0) rfl rfl rfl (by decide) rfl (fun _ h => (List.mem_cons_of_mem _ (List.mem_append_left _ (List.mem_append_left _ (List.mem_append_left _ (List.mem_append_left _ (List.mem_append_left _ (List.mem_append_left _ (List.mem_append_right _ h))))))))) (by decide) (List.mem_of_getElem? (i := 33) rfl) (fun _ h => h) dX8_set_33 ?_
  refine lv_iload_n S.1 S.2.1 dX8_set_36 rfl (lv_at hl 1 rfl) ?_
  refine lv_iload_n S.1 S.2.1 dX8_set_37 rfl (lv_at hl 2 rfl) ?_
  refine s_callV (C := RX1) (As := [.int (nI q), .int value]) (rest := []) (i := 20) (kd := 1) S hX G (k_X1_turn6 l E 20 (nI q) value sv (rfl : sh 20 = 1) (rfl : sh 21 = 20) (Eq.trans (hRec.fr (by decide) (by decide)) e_sv)) (cwV (bytes := cX1_turn) (maxL := 4) (ret := (some .int)) 2 S.2.2.2.2 gX8_set_X1_turn rfl rfl rfl (by decide +kernel) ⟨Nat.le_of_ble_eq_true rfl, Nat.le_of_ble_eq_true rfl⟩) (rfl : sh 20 = 1) rfl rfl rfl (by decide) rfl hl.1 rfl (Nat.le_of_ble_eq_true rfl) ⟨Nat.zero_le _, Nat.zero_le _⟩ dX8_set_38 (fun v I1 L1 H locs hR G => ?_)
  obtain ⟨hv, hI, hL⟩ := hR
  subst hv
  obtain ⟨r_1, er_1⟩ : ∃ r : Nat → Int32, r = (if ¬ (nI q) < 0 ∧ ¬ (6 : Int32) ≤ (nI q) then upd sv (nI q).toNatClampNeg value else sv) := ⟨_, rfl⟩
  rw [← er_1] at hI
  have G : GS E (up I2 21 r_1) L2 sg H locs := G.same hI hL
  refine W.eq (g2 := F0 mg 41 ls [.int (if ¬ (nI q) < 0 ∧ ¬ (6 : Int32) ≤ (nI q) then sv (nI q).toNatClampNeg else 0)]) rfl ?_
  refine lv_topi (fun y_2 ey_2 => ?_)
  refine s_iret (x := y_2) S G hr hlk dX8_set_41 ?_
  exact ⟨(congrArg (fun q : Int32 => some (Value.int q)) (show y_2 = (sv q) by subst ey_2 er_1; rw [if_pos ht.1, nI_clamp (by omega)])), I2, L2, hRec, (st_eq1 (Eq.trans up_eq (show r_1 = (upd sv q value) by subst ey_2 er_1; rw [if_pos ht.1, nI_clamp (by omega)])) (fun _ g0 => (up_ne g0))), rfl⟩
set_option maxHeartbeats 4000000 in
set_option maxRecDepth 100000 in
theorem k_X8_set_no (l : Launch) (E : Ev) {I : SI} {L : SL} (what : Int32) (value : Int32) (da : Nat → Int32) (e_da : I (20) = da) (h0 : da 0 = 0) (ht : ¬ TK6 what value) : CS l yX8_set wsX8_set ({ frames := 2, cells := 0, slots := 0, locals := 44 }) E [.ref (E.2.2.2 0), .int what, .int value] I L (fun vv I' L' => vv = some (.int (-2000000001 : Int32)) ∧ I' = I ∧ L' = L) := by
  refine CS.of (cc := cX8_set) (maxL := 3) (ret := (some .int)) (by decide) rfl (Nat.le_of_ble_eq_true rfl) ?_
  intro pg en sg mg below meth cg ls S hr hlk hX G hl
  have S : CallFix pg mg cg cX8_set 3 sg _ wsX8_set RX8 := S
  have hl : lv_has ls 3 [(0, .ref (E.2.2.2 0)), (1, .int what), (2, .int value)] := hl
  refine lv_aload_n S.1 S.2.1 dX8_set_0 rfl (lv_at hl 0 rfl) ?_
  refine s_get S hX G (i := 0) (kd := 8) (a := (I 0)) (v := .ref (E.2.2.2 1)) (C := RX8) (T := TX8) (N := 4) 0 (rfl : sh 0 = 8) rfl rfl rfl (by decide) rfl (fun _ h => (List.mem_cons_of_mem _ (List.mem_append_left _ (List.mem_append_left _ (List.mem_append_left _ (List.mem_append_left _ (List.mem_append_left _ (List.mem_append_left _ (List.mem_append_left _ (List.mem_append_right _ h)))))))))) (by decide) (List.mem_of_getElem? (i := 1) rfl) (fun _ h => h) dX8_set_1 ?_
  refine s_getN S hX G (i := 1) (kd := 0) (a := (I 1)) (v := .ref (E.2.2.2 20)) (C := RX0) (T := TX0) (N := 5) 2 (rfl : sh 1 = 0) rfl rfl rfl (by decide) rfl (fun _ h => (List.mem_cons_of_mem _ (List.mem_append_left _ (List.mem_append_left _ (List.mem_append_left _ (List.mem_append_left _ (List.mem_append_left _ (List.mem_append_left _ (List.mem_append_right _ h))))))))) (by decide) (List.mem_of_getElem? (i := 33) rfl) (fun _ h => h) dX8_set_4 ?_
  refine lv_iload_n S.1 S.2.1 dX8_set_7 rfl (lv_at hl 1 rfl) ?_
  refine lv_iload_n S.1 S.2.1 dX8_set_8 rfl (lv_at hl 2 rfl) ?_
  refine s_callV (C := RX1) (As := [.int what, .int value]) (rest := []) (i := 20) (kd := 1) S hX G (k_X1_takes6 l E 20 what value da (rfl : sh 20 = 1) (rfl : sh 21 = 20) e_da (by first | assumption | decide | omega)) (cwV (bytes := cX1_takes) (maxL := 3) (ret := (some .boolean)) 2 S.2.2.2.2 gX8_set_X1_takes rfl rfl rfl (by decide +kernel) ⟨Nat.le_of_ble_eq_true rfl, Nat.le_of_ble_eq_true rfl⟩) (rfl : sh 20 = 1) rfl rfl rfl (by decide) rfl hl.1 rfl (Nat.le_of_ble_eq_true rfl) ⟨Nat.zero_le _, Nat.zero_le _⟩ dX8_set_9 (fun v I1 L1 H locs hR G => ?_)
  obtain ⟨hv, hI, hL⟩ := hR
  subst hv
  have G : GS E I L sg H locs := G.same hI hL
  refine W.eq (g2 := F0 mg 12 ls [.int (if (¬ what < 0 ∧ ¬ (6 : Int32) ≤ what) ∧ (¬ value < e_tab 0 what.toNatClampNeg ∧ ¬ e_tab 1 what.toNatClampNeg < value) then 1 else 0)]) rfl ?_
  refine s_if_ne_b (P := (¬ what < 0 ∧ ¬ (6 : Int32) ≤ what) ∧ (¬ value < e_tab 0 what.toNatClampNeg ∧ ¬ e_tab 1 what.toNatClampNeg < value)) (tgt := 18) S dX8_set_12 (by decide) (fun h => absurd h ht) (fun _ => ?_)
  refine lv_ldc (v := (-2000000001 : Int32)) S.1 S.2.1 S.2.2.2.1 (S.2.2.2.2 _ (List.mem_of_getElem? (i := 2) rfl)) dX8_set_15 ?_
  refine s_iret (x := (-2000000001 : Int32)) S G hr hlk dX8_set_17 ?_
  exact ⟨rfl, rfl, rfl⟩
set_option maxHeartbeats 4000000 in
set_option maxRecDepth 100000 in
theorem k_X8_setLoad_ok_0 (l : Launch) (E : Ev) {I : SI} {L : SL} (q : Nat) (value : Int32) (h : Nat → Int32) (da : Nat → Int32) (dv : Nat → Int32) (o kp : Nat) (e_h : I (53) = h) (e_da : I (5) = da) (e_dv : I (6) = dv) (ho : h 1 = nI o) (hk : h 2 = nI kp) (ho4 : o < 4) (hkp : kp ≤ 4) (hisb : IsbB I 1) (h0 : da 0 = 6) (hq : q < 4) (ht : TK4 (nI q) value) : CS l yX8_setLoad wsX8_setLoad ({ frames := 5, cells := 0, slots := 0, locals := 102 }) E [.ref (E.2.2.2 0), .int (0 : Int32), .int (nI q), .int value] I L (fun vv I' L' => vv = some (.int (dv q)) ∧ ∃ I1 L1, RecP I L I1 L1 o kp ∧ I' = (up I1 (6) (upd dv q value)) ∧ L' = L1) := by
  refine CS.of (cc := cX8_setLoad) (maxL := 4) (ret := (some .int)) (by decide) rfl (Nat.le_of_ble_eq_true rfl) ?_
  intro pg en sg mg below meth cg ls S hr hlk hX G hl
  have S : CallFix pg mg cg cX8_setLoad 4 sg _ wsX8_setLoad RX8 := S
  have hl : lv_has ls 4 [(0, .ref (E.2.2.2 0)), (1, .int (0 : Int32)), (2, .int (nI q)), (3, .int value)] := hl
  refine lv_iload_n S.1 S.2.1 dX8_setLoad_0 rfl (lv_at hl 1 rfl) ?_
  refine s_callS (As := [.int (0 : Int32)]) (rest := []) S hX G (k_X8_isLoad l E (0 : Int32)) (va_cwS (bytes := cX8_isLoad) (maxL := 1) (ret := (some .boolean)) 1 S.2.2.2.2 gX8_setLoad_X8_isLoad rfl rfl rfl (by decide +kernel) ⟨Nat.le_of_ble_eq_true rfl, Nat.le_of_ble_eq_true rfl⟩) rfl hl.1 rfl (Nat.le_of_ble_eq_true rfl) ⟨Nat.zero_le _, Nat.zero_le _⟩ dX8_setLoad_1 (fun v I1 L1 H locs hR G => ?_)
  obtain ⟨hv, hI, hL⟩ := hR
  subst hv
  have G : GS E I L sg H locs := G.same hI hL
  refine W.eq (g2 := F0 mg 4 ls [.int (if ¬ (0 : Int32) < (0 : Int32) ∧ ¬ (1 : Int32) < (0 : Int32) then 1 else 0)]) rfl ?_
  refine s_if_eq_b (P := ¬ (0 : Int32) < (0 : Int32) ∧ ¬ (1 : Int32) < (0 : Int32)) (tgt := 26) S dX8_setLoad_4 (by decide) (fun h => absurd (by decide) h) (fun _ => ?_)
  refine lv_aload_n S.1 S.2.1 dX8_setLoad_7 rfl (lv_at hl 0 rfl) ?_
  refine s_get S hX G (i := 0) (kd := 8) (a := (I 0)) (v := .ref (E.2.2.2 1)) (C := RX8) (T := TX8) (N := 4) 0 (rfl : sh 0 = 8) rfl rfl rfl (by decide) rfl (fun _ h => (List.mem_cons_of_mem _ (List.mem_append_left _ (List.mem_append_left _ (List.mem_append_left _ (List.mem_append_left _ (List.mem_append_left _ (List.mem_append_left _ (List.mem_append_left _ (List.mem_append_right _ h)))))))))) (by decide) (List.mem_of_getElem? (i := 1) rfl) (fun _ h => h) dX8_setLoad_8 ?_
  refine lv_iload_n S.1 S.2.1 dX8_setLoad_11 rfl (lv_at hl 1 rfl) ?_
  refine s_callV (C := RX0) (As := [.int (0 : Int32)]) (rest := []) (i := 1) (kd := 0) S hX G (k_X0_loadAt_0 l E 1 (by unfold IsB; decide)) (cwV (bytes := cX0_loadAt) (maxL := 2) (ret := (some (.object "BridgeLegs$Load"))) 1 S.2.2.2.2 gX8_setLoad_X0_loadAt rfl rfl rfl (by decide +kernel) ⟨Nat.le_of_ble_eq_true rfl, Nat.le_of_ble_eq_true rfl⟩) (rfl : sh 1 = 0) rfl rfl rfl (by decide) rfl hl.1 rfl (Nat.le_of_ble_eq_true rfl) ⟨Nat.zero_le _, Nat.zero_le _⟩ dX8_setLoad_12 (fun v I1 L1 H locs hR G => ?_)
  obtain ⟨hv, hI, hL⟩ := hR
  subst hv
  have G : GS E I L sg H locs := G.same hI hL
  refine W.eq (g2 := F0 mg 15 ls [.ref (E.2.2.2 2)]) rfl ?_
  refine s_getN S hX G (i := 2) (kd := 5) (a := (I 2)) (v := .ref (E.2.2.2 5)) (C := RX5) (T := TX5) (N := 13) 2 (rfl : sh 2 = 5) rfl rfl rfl (by decide) rfl (fun _ h => (List.mem_cons_of_mem _ (List.mem_append_left _ (List.mem_append_left _ (List.mem_append_left _ (List.mem_append_left _ (List.mem_append_left _ (List.mem_append_left _ (List.mem_append_right _ h))))))))) (by decide) (List.mem_of_getElem? (i := 18) rfl) (fun _ h => h) dX8_setLoad_15 ?_
  refine lv_iload_n S.1 S.2.1 dX8_setLoad_18 rfl (lv_at hl 2 rfl) ?_
  refine lv_iload_n S.1 S.2.1 dX8_setLoad_19 rfl (lv_at hl 3 rfl) ?_
  refine s_callV (C := RX1) (As := [.int (nI q), .int value]) (rest := []) (i := 5) (kd := 1) S hX G (k_X1_takes4 l E 5 (nI q) value da (rfl : sh 5 = 1) (rfl : sh 6 = 18) e_da (by first | assumption | decide | omega)) (cwV (bytes := cX1_takes) (maxL := 3) (ret := (some .boolean)) 2 S.2.2.2.2 gX8_setLoad_X1_takes rfl rfl rfl (by decide +kernel) ⟨Nat.le_of_ble_eq_true rfl, Nat.le_of_ble_eq_true rfl⟩) (rfl : sh 5 = 1) rfl rfl rfl (by decide) rfl hl.1 rfl (Nat.le_of_ble_eq_true rfl) ⟨Nat.zero_le _, Nat.zero_le _⟩ dX8_setLoad_20 (fun v I1 L1 H locs hR G => ?_)
  obtain ⟨hv, hI, hL⟩ := hR
  subst hv
  have G : GS E I L sg H locs := G.same hI hL
  refine W.eq (g2 := F0 mg 23 ls [.int (if (¬ (nI q) < 0 ∧ ¬ (4 : Int32) ≤ (nI q)) ∧ (¬ value < e_tab 0 (6 + (nI q).toNatClampNeg) ∧ ¬ e_tab 1 (6 + (nI q).toNatClampNeg) < value) then 1 else 0)]) rfl ?_
  refine s_if_ne_b (P := (¬ (nI q) < 0 ∧ ¬ (4 : Int32) ≤ (nI q)) ∧ (¬ value < e_tab 0 (6 + (nI q).toNatClampNeg) ∧ ¬ e_tab 1 (6 + (nI q).toNatClampNeg) < value)) (tgt := 29) S dX8_setLoad_23 (by decide) (fun _ => ?_) (fun h => absurd ht h)
  refine lv_aload_n S.1 S.2.1 dX8_setLoad_29 rfl (lv_at hl 0 rfl) ?_
  refine s_get S hX G (i := 0) (kd := 8) (a := (I 0)) (v := .ref (E.2.2.2 53)) (C := RX8) (T := TX8) (N := 4) 2 (rfl : sh 0 = 8) rfl rfl rfl (by decide) rfl (fun _ h => (List.mem_cons_of_mem _ (List.mem_append_left _ (List.mem_append_left _ (List.mem_append_left _ (List.mem_append_left _ (List.mem_append_left _ (List.mem_append_left _ (List.mem_append_left _ (List.mem_append_right _ h)))))))))) (by decide) (List.mem_of_getElem? (i := 3) rfl) (fun _ h => h) dX8_setLoad_30 ?_
  refine lv_aload_n S.1 S.2.1 dX8_setLoad_33 rfl (lv_at hl 0 rfl) ?_
  refine s_get S hX G (i := 0) (kd := 8) (a := (I 0)) (v := .ref (E.2.2.2 1)) (C := RX8) (T := TX8) (N := 4) 0 (rfl : sh 0 = 8) rfl rfl rfl (by decide) rfl (fun _ h => (List.mem_cons_of_mem _ (List.mem_append_left _ (List.mem_append_left _ (List.mem_append_left _ (List.mem_append_left _ (List.mem_append_left _ (List.mem_append_left _ (List.mem_append_left _ (List.mem_append_right _ h)))))))))) (by decide) (List.mem_of_getElem? (i := 1) rfl) (fun _ h => h) dX8_setLoad_34 ?_
  refine s_callV (C := RX2) (As := [.ref (E.2.2.2 1)]) (rest := []) (i := 53) (kd := 2) S hX G (k_X2_record l E h o kp e_h ho hk ho4 hkp hisb) (cwV (bytes := cX2_record) (maxL := 2) (ret := none) 1 S.2.2.2.2 gX8_setLoad_X2_record rfl rfl rfl (by decide +kernel) ⟨Nat.le_of_ble_eq_true rfl, Nat.le_of_ble_eq_true rfl⟩) (rfl : sh 53 = 2) rfl rfl rfl (by decide) rfl hl.1 rfl (Nat.le_of_ble_eq_true rfl) ⟨Nat.zero_le _, Nat.zero_le _⟩ dX8_setLoad_37 (fun v I2 L2 H locs hR G => ?_)
  obtain ⟨hv, hRec⟩ := hR
  subst hv
  refine W.eq (g2 := F0 mg 40 ls []) rfl ?_
  refine lv_aload_n S.1 S.2.1 dX8_setLoad_40 rfl (lv_at hl 0 rfl) ?_
  refine s_get S hX G (i := 0) (kd := 8) (a := (I2 0)) (v := .ref (E.2.2.2 1)) (C := RX8) (T := TX8) (N := 4) 0 (rfl : sh 0 = 8) rfl rfl rfl (by decide) rfl (fun _ h => (List.mem_cons_of_mem _ (List.mem_append_left _ (List.mem_append_left _ (List.mem_append_left _ (List.mem_append_left _ (List.mem_append_left _ (List.mem_append_left _ (List.mem_append_left _ (List.mem_append_right _ h)))))))))) (by decide) (List.mem_of_getElem? (i := 1) rfl) (fun _ h => h) dX8_setLoad_41 ?_
  refine lv_iload_n S.1 S.2.1 dX8_setLoad_44 rfl (lv_at hl 1 rfl) ?_
  refine s_callV (C := RX0) (As := [.int (0 : Int32)]) (rest := []) (i := 1) (kd := 0) S hX G (k_X0_loadAt_0 l E 1 (by unfold IsB; decide)) (cwV (bytes := cX0_loadAt) (maxL := 2) (ret := (some (.object "BridgeLegs$Load"))) 1 S.2.2.2.2 gX8_setLoad_X0_loadAt rfl rfl rfl (by decide +kernel) ⟨Nat.le_of_ble_eq_true rfl, Nat.le_of_ble_eq_true rfl⟩) (rfl : sh 1 = 0) rfl rfl rfl (by decide) rfl hl.1 rfl (Nat.le_of_ble_eq_true rfl) ⟨Nat.zero_le _, Nat.zero_le _⟩ dX8_setLoad_45 (fun v I1 L1 H locs hR G => ?_)
  obtain ⟨hv, hI, hL⟩ := hR
  subst hv
  have G : GS E I2 L2 sg H locs := G.same hI hL
  refine W.eq (g2 := F0 mg 48 ls [.ref (E.2.2.2 2)]) rfl ?_
  refine s_getN S hX G (i := 2) (kd := 5) (a := (I2 2)) (v := .ref (E.2.2.2 5)) (C := RX5) (T := TX5) (N := 13) 2 (rfl : sh 2 = 5) rfl rfl rfl (by decide) rfl (fun _ h => (List.mem_cons_of_mem _ (List.mem_append_left _ (List.mem_append_left _ (List.mem_append_left _ (List.mem_append_left _ (List.mem_append_left _ (List.mem_append_left _ (List.mem_append_right _ h))))))))) (by decide) (List.mem_of_getElem? (i := 18) rfl) (fun _ h => h) dX8_setLoad_48 ?_
  refine lv_iload_n S.1 S.2.1 dX8_setLoad_51 rfl (lv_at hl 2 rfl) ?_
  refine lv_iload_n S.1 S.2.1 dX8_setLoad_52 rfl (lv_at hl 3 rfl) ?_
  refine s_callV (C := RX1) (As := [.int (nI q), .int value]) (rest := []) (i := 5) (kd := 1) S hX G (k_X1_turn4 l E 5 (nI q) value dv (rfl : sh 5 = 1) (rfl : sh 6 = 18) (Eq.trans (hRec.fr (by decide) (by decide)) e_dv)) (cwV (bytes := cX1_turn) (maxL := 4) (ret := (some .int)) 2 S.2.2.2.2 gX8_setLoad_X1_turn rfl rfl rfl (by decide +kernel) ⟨Nat.le_of_ble_eq_true rfl, Nat.le_of_ble_eq_true rfl⟩) (rfl : sh 5 = 1) rfl rfl rfl (by decide) rfl hl.1 rfl (Nat.le_of_ble_eq_true rfl) ⟨Nat.zero_le _, Nat.zero_le _⟩ dX8_setLoad_53 (fun v I1 L1 H locs hR G => ?_)
  obtain ⟨hv, hI, hL⟩ := hR
  subst hv
  obtain ⟨r_1, er_1⟩ : ∃ r : Nat → Int32, r = (if ¬ (nI q) < 0 ∧ ¬ (4 : Int32) ≤ (nI q) then upd dv (nI q).toNatClampNeg value else dv) := ⟨_, rfl⟩
  rw [← er_1] at hI
  have G : GS E (up I2 6 r_1) L2 sg H locs := G.same hI hL
  refine W.eq (g2 := F0 mg 56 ls [.int (if ¬ (nI q) < 0 ∧ ¬ (4 : Int32) ≤ (nI q) then dv (nI q).toNatClampNeg else 0)]) rfl ?_
  refine lv_topi (fun y_2 ey_2 => ?_)
  refine s_iret (x := y_2) S G hr hlk dX8_setLoad_56 ?_
  exact ⟨(congrArg (fun q : Int32 => some (Value.int q)) (show y_2 = (dv q) by subst ey_2 er_1; rw [if_pos ht.1, nI_clamp (by omega)])), I2, L2, hRec, (st_eq1 (Eq.trans up_eq (show r_1 = (upd dv q value) by subst ey_2 er_1; rw [if_pos ht.1, nI_clamp (by omega)])) (fun _ g0 => (up_ne g0))), rfl⟩
set_option maxHeartbeats 4000000 in
set_option maxRecDepth 100000 in
theorem k_X8_setLoad_ok_1 (l : Launch) (E : Ev) {I : SI} {L : SL} (q : Nat) (value : Int32) (h : Nat → Int32) (da : Nat → Int32) (dv : Nat → Int32) (o kp : Nat) (e_h : I (53) = h) (e_da : I (14) = da) (e_dv : I (15) = dv) (ho : h 1 = nI o) (hk : h 2 = nI kp) (ho4 : o < 4) (hkp : kp ≤ 4) (hisb : IsbB I 1) (h0 : da 0 = 6) (hq : q < 4) (ht : TK4 (nI q) value) : CS l yX8_setLoad wsX8_setLoad ({ frames := 5, cells := 0, slots := 0, locals := 102 }) E [.ref (E.2.2.2 0), .int (1 : Int32), .int (nI q), .int value] I L (fun vv I' L' => vv = some (.int (dv q)) ∧ ∃ I1 L1, RecP I L I1 L1 o kp ∧ I' = (up I1 (15) (upd dv q value)) ∧ L' = L1) := by
  refine CS.of (cc := cX8_setLoad) (maxL := 4) (ret := (some .int)) (by decide) rfl (Nat.le_of_ble_eq_true rfl) ?_
  intro pg en sg mg below meth cg ls S hr hlk hX G hl
  have S : CallFix pg mg cg cX8_setLoad 4 sg _ wsX8_setLoad RX8 := S
  have hl : lv_has ls 4 [(0, .ref (E.2.2.2 0)), (1, .int (1 : Int32)), (2, .int (nI q)), (3, .int value)] := hl
  refine lv_iload_n S.1 S.2.1 dX8_setLoad_0 rfl (lv_at hl 1 rfl) ?_
  refine s_callS (As := [.int (1 : Int32)]) (rest := []) S hX G (k_X8_isLoad l E (1 : Int32)) (va_cwS (bytes := cX8_isLoad) (maxL := 1) (ret := (some .boolean)) 1 S.2.2.2.2 gX8_setLoad_X8_isLoad rfl rfl rfl (by decide +kernel) ⟨Nat.le_of_ble_eq_true rfl, Nat.le_of_ble_eq_true rfl⟩) rfl hl.1 rfl (Nat.le_of_ble_eq_true rfl) ⟨Nat.zero_le _, Nat.zero_le _⟩ dX8_setLoad_1 (fun v I1 L1 H locs hR G => ?_)
  obtain ⟨hv, hI, hL⟩ := hR
  subst hv
  have G : GS E I L sg H locs := G.same hI hL
  refine W.eq (g2 := F0 mg 4 ls [.int (if ¬ (1 : Int32) < (0 : Int32) ∧ ¬ (1 : Int32) < (1 : Int32) then 1 else 0)]) rfl ?_
  refine s_if_eq_b (P := ¬ (1 : Int32) < (0 : Int32) ∧ ¬ (1 : Int32) < (1 : Int32)) (tgt := 26) S dX8_setLoad_4 (by decide) (fun h => absurd (by decide) h) (fun _ => ?_)
  refine lv_aload_n S.1 S.2.1 dX8_setLoad_7 rfl (lv_at hl 0 rfl) ?_
  refine s_get S hX G (i := 0) (kd := 8) (a := (I 0)) (v := .ref (E.2.2.2 1)) (C := RX8) (T := TX8) (N := 4) 0 (rfl : sh 0 = 8) rfl rfl rfl (by decide) rfl (fun _ h => (List.mem_cons_of_mem _ (List.mem_append_left _ (List.mem_append_left _ (List.mem_append_left _ (List.mem_append_left _ (List.mem_append_left _ (List.mem_append_left _ (List.mem_append_left _ (List.mem_append_right _ h)))))))))) (by decide) (List.mem_of_getElem? (i := 1) rfl) (fun _ h => h) dX8_setLoad_8 ?_
  refine lv_iload_n S.1 S.2.1 dX8_setLoad_11 rfl (lv_at hl 1 rfl) ?_
  refine s_callV (C := RX0) (As := [.int (1 : Int32)]) (rest := []) (i := 1) (kd := 0) S hX G (k_X0_loadAt_1 l E 1 (by unfold IsB; decide)) (cwV (bytes := cX0_loadAt) (maxL := 2) (ret := (some (.object "BridgeLegs$Load"))) 1 S.2.2.2.2 gX8_setLoad_X0_loadAt rfl rfl rfl (by decide +kernel) ⟨Nat.le_of_ble_eq_true rfl, Nat.le_of_ble_eq_true rfl⟩) (rfl : sh 1 = 0) rfl rfl rfl (by decide) rfl hl.1 rfl (Nat.le_of_ble_eq_true rfl) ⟨Nat.zero_le _, Nat.zero_le _⟩ dX8_setLoad_12 (fun v I1 L1 H locs hR G => ?_)
  obtain ⟨hv, hI, hL⟩ := hR
  subst hv
  have G : GS E I L sg H locs := G.same hI hL
  refine W.eq (g2 := F0 mg 15 ls [.ref (E.2.2.2 11)]) rfl ?_
  refine s_getN S hX G (i := 11) (kd := 5) (a := (I 11)) (v := .ref (E.2.2.2 14)) (C := RX5) (T := TX5) (N := 13) 2 (rfl : sh 11 = 5) rfl rfl rfl (by decide) rfl (fun _ h => (List.mem_cons_of_mem _ (List.mem_append_left _ (List.mem_append_left _ (List.mem_append_left _ (List.mem_append_left _ (List.mem_append_left _ (List.mem_append_left _ (List.mem_append_right _ h))))))))) (by decide) (List.mem_of_getElem? (i := 18) rfl) (fun _ h => h) dX8_setLoad_15 ?_
  refine lv_iload_n S.1 S.2.1 dX8_setLoad_18 rfl (lv_at hl 2 rfl) ?_
  refine lv_iload_n S.1 S.2.1 dX8_setLoad_19 rfl (lv_at hl 3 rfl) ?_
  refine s_callV (C := RX1) (As := [.int (nI q), .int value]) (rest := []) (i := 14) (kd := 1) S hX G (k_X1_takes4 l E 14 (nI q) value da (rfl : sh 14 = 1) (rfl : sh 15 = 18) e_da (by first | assumption | decide | omega)) (cwV (bytes := cX1_takes) (maxL := 3) (ret := (some .boolean)) 2 S.2.2.2.2 gX8_setLoad_X1_takes rfl rfl rfl (by decide +kernel) ⟨Nat.le_of_ble_eq_true rfl, Nat.le_of_ble_eq_true rfl⟩) (rfl : sh 14 = 1) rfl rfl rfl (by decide) rfl hl.1 rfl (Nat.le_of_ble_eq_true rfl) ⟨Nat.zero_le _, Nat.zero_le _⟩ dX8_setLoad_20 (fun v I1 L1 H locs hR G => ?_)
  obtain ⟨hv, hI, hL⟩ := hR
  subst hv
  have G : GS E I L sg H locs := G.same hI hL
  refine W.eq (g2 := F0 mg 23 ls [.int (if (¬ (nI q) < 0 ∧ ¬ (4 : Int32) ≤ (nI q)) ∧ (¬ value < e_tab 0 (6 + (nI q).toNatClampNeg) ∧ ¬ e_tab 1 (6 + (nI q).toNatClampNeg) < value) then 1 else 0)]) rfl ?_
  refine s_if_ne_b (P := (¬ (nI q) < 0 ∧ ¬ (4 : Int32) ≤ (nI q)) ∧ (¬ value < e_tab 0 (6 + (nI q).toNatClampNeg) ∧ ¬ e_tab 1 (6 + (nI q).toNatClampNeg) < value)) (tgt := 29) S dX8_setLoad_23 (by decide) (fun _ => ?_) (fun h => absurd ht h)
  refine lv_aload_n S.1 S.2.1 dX8_setLoad_29 rfl (lv_at hl 0 rfl) ?_
  refine s_get S hX G (i := 0) (kd := 8) (a := (I 0)) (v := .ref (E.2.2.2 53)) (C := RX8) (T := TX8) (N := 4) 2 (rfl : sh 0 = 8) rfl rfl rfl (by decide) rfl (fun _ h => (List.mem_cons_of_mem _ (List.mem_append_left _ (List.mem_append_left _ (List.mem_append_left _ (List.mem_append_left _ (List.mem_append_left _ (List.mem_append_left _ (List.mem_append_left _ (List.mem_append_right _ h)))))))))) (by decide) (List.mem_of_getElem? (i := 3) rfl) (fun _ h => h) dX8_setLoad_30 ?_
  refine lv_aload_n S.1 S.2.1 dX8_setLoad_33 rfl (lv_at hl 0 rfl) ?_
  refine s_get S hX G (i := 0) (kd := 8) (a := (I 0)) (v := .ref (E.2.2.2 1)) (C := RX8) (T := TX8) (N := 4) 0 (rfl : sh 0 = 8) rfl rfl rfl (by decide) rfl (fun _ h => (List.mem_cons_of_mem _ (List.mem_append_left _ (List.mem_append_left _ (List.mem_append_left _ (List.mem_append_left _ (List.mem_append_left _ (List.mem_append_left _ (List.mem_append_left _ (List.mem_append_right _ h)))))))))) (by decide) (List.mem_of_getElem? (i := 1) rfl) (fun _ h => h) dX8_setLoad_34 ?_
  refine s_callV (C := RX2) (As := [.ref (E.2.2.2 1)]) (rest := []) (i := 53) (kd := 2) S hX G (k_X2_record l E h o kp e_h ho hk ho4 hkp hisb) (cwV (bytes := cX2_record) (maxL := 2) (ret := none) 1 S.2.2.2.2 gX8_setLoad_X2_record rfl rfl rfl (by decide +kernel) ⟨Nat.le_of_ble_eq_true rfl, Nat.le_of_ble_eq_true rfl⟩) (rfl : sh 53 = 2) rfl rfl rfl (by decide) rfl hl.1 rfl (Nat.le_of_ble_eq_true rfl) ⟨Nat.zero_le _, Nat.zero_le _⟩ dX8_setLoad_37 (fun v I2 L2 H locs hR G => ?_)
  obtain ⟨hv, hRec⟩ := hR
  subst hv
  refine W.eq (g2 := F0 mg 40 ls []) rfl ?_
  refine lv_aload_n S.1 S.2.1 dX8_setLoad_40 rfl (lv_at hl 0 rfl) ?_
  refine s_get S hX G (i := 0) (kd := 8) (a := (I2 0)) (v := .ref (E.2.2.2 1)) (C := RX8) (T := TX8) (N := 4) 0 (rfl : sh 0 = 8) rfl rfl rfl (by decide) rfl (fun _ h => (List.mem_cons_of_mem _ (List.mem_append_left _ (List.mem_append_left _ (List.mem_append_left _ (List.mem_append_left _ (List.mem_append_left _ (List.mem_append_left _ (List.mem_append_left _ (List.mem_append_right _ h)))))))))) (by decide) (List.mem_of_getElem? (i := 1) rfl) (fun _ h => h) dX8_setLoad_41 ?_
  refine lv_iload_n S.1 S.2.1 dX8_setLoad_44 rfl (lv_at hl 1 rfl) ?_
  refine s_callV (C := RX0) (As := [.int (1 : Int32)]) (rest := []) (i := 1) (kd := 0) S hX G (k_X0_loadAt_1 l E 1 (by unfold IsB; decide)) (cwV (bytes := cX0_loadAt) (maxL := 2) (ret := (some (.object "BridgeLegs$Load"))) 1 S.2.2.2.2 gX8_setLoad_X0_loadAt rfl rfl rfl (by decide +kernel) ⟨Nat.le_of_ble_eq_true rfl, Nat.le_of_ble_eq_true rfl⟩) (rfl : sh 1 = 0) rfl rfl rfl (by decide) rfl hl.1 rfl (Nat.le_of_ble_eq_true rfl) ⟨Nat.zero_le _, Nat.zero_le _⟩ dX8_setLoad_45 (fun v I1 L1 H locs hR G => ?_)
  obtain ⟨hv, hI, hL⟩ := hR
  subst hv
  have G : GS E I2 L2 sg H locs := G.same hI hL
  refine W.eq (g2 := F0 mg 48 ls [.ref (E.2.2.2 11)]) rfl ?_
  refine s_getN S hX G (i := 11) (kd := 5) (a := (I2 11)) (v := .ref (E.2.2.2 14)) (C := RX5) (T := TX5) (N := 13) 2 (rfl : sh 11 = 5) rfl rfl rfl (by decide) rfl (fun _ h => (List.mem_cons_of_mem _ (List.mem_append_left _ (List.mem_append_left _ (List.mem_append_left _ (List.mem_append_left _ (List.mem_append_left _ (List.mem_append_left _ (List.mem_append_right _ h))))))))) (by decide) (List.mem_of_getElem? (i := 18) rfl) (fun _ h => h) dX8_setLoad_48 ?_
  refine lv_iload_n S.1 S.2.1 dX8_setLoad_51 rfl (lv_at hl 2 rfl) ?_
  refine lv_iload_n S.1 S.2.1 dX8_setLoad_52 rfl (lv_at hl 3 rfl) ?_
  refine s_callV (C := RX1) (As := [.int (nI q), .int value]) (rest := []) (i := 14) (kd := 1) S hX G (k_X1_turn4 l E 14 (nI q) value dv (rfl : sh 14 = 1) (rfl : sh 15 = 18) (Eq.trans (hRec.fr (by decide) (by decide)) e_dv)) (cwV (bytes := cX1_turn) (maxL := 4) (ret := (some .int)) 2 S.2.2.2.2 gX8_setLoad_X1_turn rfl rfl rfl (by decide +kernel) ⟨Nat.le_of_ble_eq_true rfl, Nat.le_of_ble_eq_true rfl⟩) (rfl : sh 14 = 1) rfl rfl rfl (by decide) rfl hl.1 rfl (Nat.le_of_ble_eq_true rfl) ⟨Nat.zero_le _, Nat.zero_le _⟩ dX8_setLoad_53 (fun v I1 L1 H locs hR G => ?_)
  obtain ⟨hv, hI, hL⟩ := hR
  subst hv
  obtain ⟨r_1, er_1⟩ : ∃ r : Nat → Int32, r = (if ¬ (nI q) < 0 ∧ ¬ (4 : Int32) ≤ (nI q) then upd dv (nI q).toNatClampNeg value else dv) := ⟨_, rfl⟩
  rw [← er_1] at hI
  have G : GS E (up I2 15 r_1) L2 sg H locs := G.same hI hL
  refine W.eq (g2 := F0 mg 56 ls [.int (if ¬ (nI q) < 0 ∧ ¬ (4 : Int32) ≤ (nI q) then dv (nI q).toNatClampNeg else 0)]) rfl ?_
  refine lv_topi (fun y_2 ey_2 => ?_)
  refine s_iret (x := y_2) S G hr hlk dX8_setLoad_56 ?_
  exact ⟨(congrArg (fun q : Int32 => some (Value.int q)) (show y_2 = (dv q) by subst ey_2 er_1; rw [if_pos ht.1, nI_clamp (by omega)])), I2, L2, hRec, (st_eq1 (Eq.trans up_eq (show r_1 = (upd dv q value) by subst ey_2 er_1; rw [if_pos ht.1, nI_clamp (by omega)])) (fun _ g0 => (up_ne g0))), rfl⟩
set_option maxHeartbeats 4000000 in
set_option maxRecDepth 100000 in
theorem k_X8_setLoad_no (l : Launch) (E : Ev) {I : SI} {L : SL} (load : Int32) (what : Int32) (value : Int32) (da : Nat → Int32) (db : Nat → Int32) (e_da : I (5) = da) (e_db : I (14) = db) (h0 : da 0 = 6) (h1 : db 0 = 6) (ht : ¬ (IN1 load ∧ TK4 what value)) : CS l yX8_setLoad wsX8_setLoad ({ frames := 2, cells := 0, slots := 0, locals := 44 }) E [.ref (E.2.2.2 0), .int load, .int what, .int value] I L (fun vv I' L' => vv = some (.int (-2000000001 : Int32)) ∧ I' = I ∧ L' = L) := by
  refine CS.of (cc := cX8_setLoad) (maxL := 4) (ret := (some .int)) (by decide) rfl (Nat.le_of_ble_eq_true rfl) ?_
  intro pg en sg mg below meth cg ls S hr hlk hX G hl
  have S : CallFix pg mg cg cX8_setLoad 4 sg _ wsX8_setLoad RX8 := S
  have hl : lv_has ls 4 [(0, .ref (E.2.2.2 0)), (1, .int load), (2, .int what), (3, .int value)] := hl
  refine lv_iload_n S.1 S.2.1 dX8_setLoad_0 rfl (lv_at hl 1 rfl) ?_
  refine s_callS (As := [.int load]) (rest := []) S hX G (k_X8_isLoad l E load) (va_cwS (bytes := cX8_isLoad) (maxL := 1) (ret := (some .boolean)) 1 S.2.2.2.2 gX8_setLoad_X8_isLoad rfl rfl rfl (by decide +kernel) ⟨Nat.le_of_ble_eq_true rfl, Nat.le_of_ble_eq_true rfl⟩) rfl hl.1 rfl (Nat.le_of_ble_eq_true rfl) ⟨Nat.zero_le _, Nat.zero_le _⟩ dX8_setLoad_1 (fun v I1 L1 H locs hR G => ?_)
  obtain ⟨hv, hI, hL⟩ := hR
  subst hv
  have G : GS E I L sg H locs := G.same hI hL
  refine W.eq (g2 := F0 mg 4 ls [.int (if ¬ load < (0 : Int32) ∧ ¬ (1 : Int32) < load then 1 else 0)]) rfl ?_
  refine s_if_eq_b (P := ¬ load < (0 : Int32) ∧ ¬ (1 : Int32) < load) (tgt := 26) S dX8_setLoad_4 (by decide) (fun c_1 => ?_) (fun c_1 => ?_)
  · refine lv_ldc (v := (-2000000001 : Int32)) S.1 S.2.1 S.2.2.2.1 (S.2.2.2.2 _ (List.mem_of_getElem? (i := 2) rfl)) dX8_setLoad_26 ?_
    refine s_iret (x := (-2000000001 : Int32)) S G hr hlk dX8_setLoad_28 ?_
    exact ⟨rfl, rfl, rfl⟩
  · rcases in_le1 c_1 with rfl | rfl
    · refine lv_aload_n S.1 S.2.1 dX8_setLoad_7 rfl (lv_at hl 0 rfl) ?_
      refine s_get S hX G (i := 0) (kd := 8) (a := (I 0)) (v := .ref (E.2.2.2 1)) (C := RX8) (T := TX8) (N := 4) 0 (rfl : sh 0 = 8) rfl rfl rfl (by decide) rfl (fun _ h => (List.mem_cons_of_mem _ (List.mem_append_left _ (List.mem_append_left _ (List.mem_append_left _ (List.mem_append_left _ (List.mem_append_left _ (List.mem_append_left _ (List.mem_append_left _ (List.mem_append_right _ h)))))))))) (by decide) (List.mem_of_getElem? (i := 1) rfl) (fun _ h => h) dX8_setLoad_8 ?_
      refine lv_iload_n S.1 S.2.1 dX8_setLoad_11 rfl (lv_at hl 1 rfl) ?_
      refine s_callV (C := RX0) (As := [.int (0 : Int32)]) (rest := []) (i := 1) (kd := 0) S hX G (k_X0_loadAt_0 l E 1 (by unfold IsB; decide)) (cwV (bytes := cX0_loadAt) (maxL := 2) (ret := (some (.object "BridgeLegs$Load"))) 1 S.2.2.2.2 gX8_setLoad_X0_loadAt rfl rfl rfl (by decide +kernel) ⟨Nat.le_of_ble_eq_true rfl, Nat.le_of_ble_eq_true rfl⟩) (rfl : sh 1 = 0) rfl rfl rfl (by decide) rfl hl.1 rfl (Nat.le_of_ble_eq_true rfl) ⟨Nat.zero_le _, Nat.zero_le _⟩ dX8_setLoad_12 (fun v I1 L1 H locs hR G => ?_)
      obtain ⟨hv, hI, hL⟩ := hR
      subst hv
      have G : GS E I L sg H locs := G.same hI hL
      refine W.eq (g2 := F0 mg 15 ls [.ref (E.2.2.2 2)]) rfl ?_
      refine s_getN S hX G (i := 2) (kd := 5) (a := (I 2)) (v := .ref (E.2.2.2 5)) (C := RX5) (T := TX5) (N := 13) 2 (rfl : sh 2 = 5) rfl rfl rfl (by decide) rfl (fun _ h => (List.mem_cons_of_mem _ (List.mem_append_left _ (List.mem_append_left _ (List.mem_append_left _ (List.mem_append_left _ (List.mem_append_left _ (List.mem_append_left _ (List.mem_append_right _ h))))))))) (by decide) (List.mem_of_getElem? (i := 18) rfl) (fun _ h => h) dX8_setLoad_15 ?_
      refine lv_iload_n S.1 S.2.1 dX8_setLoad_18 rfl (lv_at hl 2 rfl) ?_
      refine lv_iload_n S.1 S.2.1 dX8_setLoad_19 rfl (lv_at hl 3 rfl) ?_
      refine s_callV (C := RX1) (As := [.int what, .int value]) (rest := []) (i := 5) (kd := 1) S hX G (k_X1_takes4 l E 5 what value da (rfl : sh 5 = 1) (rfl : sh 6 = 18) e_da h0) (cwV (bytes := cX1_takes) (maxL := 3) (ret := (some .boolean)) 2 S.2.2.2.2 gX8_setLoad_X1_takes rfl rfl rfl (by decide +kernel) ⟨Nat.le_of_ble_eq_true rfl, Nat.le_of_ble_eq_true rfl⟩) (rfl : sh 5 = 1) rfl rfl rfl (by decide) rfl hl.1 rfl (Nat.le_of_ble_eq_true rfl) ⟨Nat.zero_le _, Nat.zero_le _⟩ dX8_setLoad_20 (fun v I1 L1 H locs hR G => ?_)
      obtain ⟨hv, hI, hL⟩ := hR
      subst hv
      have G : GS E I L sg H locs := G.same hI hL
      refine W.eq (g2 := F0 mg 23 ls [.int (if (¬ what < 0 ∧ ¬ (4 : Int32) ≤ what) ∧ (¬ value < e_tab 0 (6 + what.toNatClampNeg) ∧ ¬ e_tab 1 (6 + what.toNatClampNeg) < value) then 1 else 0)]) rfl ?_
      refine s_if_ne_b (P := (¬ what < 0 ∧ ¬ (4 : Int32) ≤ what) ∧ (¬ value < e_tab 0 (6 + what.toNatClampNeg) ∧ ¬ e_tab 1 (6 + what.toNatClampNeg) < value)) (tgt := 29) S dX8_setLoad_23 (by decide) (fun c_2 => ?_) (fun c_2 => ?_)
      · exact absurd (And.intro (by decide) c_2) ht
      · refine lv_ldc (v := (-2000000001 : Int32)) S.1 S.2.1 S.2.2.2.1 (S.2.2.2.2 _ (List.mem_of_getElem? (i := 2) rfl)) dX8_setLoad_26 ?_
        refine s_iret (x := (-2000000001 : Int32)) S G hr hlk dX8_setLoad_28 ?_
        exact ⟨rfl, rfl, rfl⟩
    · refine lv_aload_n S.1 S.2.1 dX8_setLoad_7 rfl (lv_at hl 0 rfl) ?_
      refine s_get S hX G (i := 0) (kd := 8) (a := (I 0)) (v := .ref (E.2.2.2 1)) (C := RX8) (T := TX8) (N := 4) 0 (rfl : sh 0 = 8) rfl rfl rfl (by decide) rfl (fun _ h => (List.mem_cons_of_mem _ (List.mem_append_left _ (List.mem_append_left _ (List.mem_append_left _ (List.mem_append_left _ (List.mem_append_left _ (List.mem_append_left _ (List.mem_append_left _ (List.mem_append_right _ h)))))))))) (by decide) (List.mem_of_getElem? (i := 1) rfl) (fun _ h => h) dX8_setLoad_8 ?_
      refine lv_iload_n S.1 S.2.1 dX8_setLoad_11 rfl (lv_at hl 1 rfl) ?_
      refine s_callV (C := RX0) (As := [.int (1 : Int32)]) (rest := []) (i := 1) (kd := 0) S hX G (k_X0_loadAt_1 l E 1 (by unfold IsB; decide)) (cwV (bytes := cX0_loadAt) (maxL := 2) (ret := (some (.object "BridgeLegs$Load"))) 1 S.2.2.2.2 gX8_setLoad_X0_loadAt rfl rfl rfl (by decide +kernel) ⟨Nat.le_of_ble_eq_true rfl, Nat.le_of_ble_eq_true rfl⟩) (rfl : sh 1 = 0) rfl rfl rfl (by decide) rfl hl.1 rfl (Nat.le_of_ble_eq_true rfl) ⟨Nat.zero_le _, Nat.zero_le _⟩ dX8_setLoad_12 (fun v I1 L1 H locs hR G => ?_)
      obtain ⟨hv, hI, hL⟩ := hR
      subst hv
      have G : GS E I L sg H locs := G.same hI hL
      refine W.eq (g2 := F0 mg 15 ls [.ref (E.2.2.2 11)]) rfl ?_
      refine s_getN S hX G (i := 11) (kd := 5) (a := (I 11)) (v := .ref (E.2.2.2 14)) (C := RX5) (T := TX5) (N := 13) 2 (rfl : sh 11 = 5) rfl rfl rfl (by decide) rfl (fun _ h => (List.mem_cons_of_mem _ (List.mem_append_left _ (List.mem_append_left _ (List.mem_append_left _ (List.mem_append_left _ (List.mem_append_left _ (List.mem_append_left _ (List.mem_append_right _ h))))))))) (by decide) (List.mem_of_getElem? (i := 18) rfl) (fun _ h => h) dX8_setLoad_15 ?_
      refine lv_iload_n S.1 S.2.1 dX8_setLoad_18 rfl (lv_at hl 2 rfl) ?_
      refine lv_iload_n S.1 S.2.1 dX8_setLoad_19 rfl (lv_at hl 3 rfl) ?_
      refine s_callV (C := RX1) (As := [.int what, .int value]) (rest := []) (i := 14) (kd := 1) S hX G (k_X1_takes4 l E 14 what value db (rfl : sh 14 = 1) (rfl : sh 15 = 18) e_db h1) (cwV (bytes := cX1_takes) (maxL := 3) (ret := (some .boolean)) 2 S.2.2.2.2 gX8_setLoad_X1_takes rfl rfl rfl (by decide +kernel) ⟨Nat.le_of_ble_eq_true rfl, Nat.le_of_ble_eq_true rfl⟩) (rfl : sh 14 = 1) rfl rfl rfl (by decide) rfl hl.1 rfl (Nat.le_of_ble_eq_true rfl) ⟨Nat.zero_le _, Nat.zero_le _⟩ dX8_setLoad_20 (fun v I1 L1 H locs hR G => ?_)
      obtain ⟨hv, hI, hL⟩ := hR
      subst hv
      have G : GS E I L sg H locs := G.same hI hL
      refine W.eq (g2 := F0 mg 23 ls [.int (if (¬ what < 0 ∧ ¬ (4 : Int32) ≤ what) ∧ (¬ value < e_tab 0 (6 + what.toNatClampNeg) ∧ ¬ e_tab 1 (6 + what.toNatClampNeg) < value) then 1 else 0)]) rfl ?_
      refine s_if_ne_b (P := (¬ what < 0 ∧ ¬ (4 : Int32) ≤ what) ∧ (¬ value < e_tab 0 (6 + what.toNatClampNeg) ∧ ¬ e_tab 1 (6 + what.toNatClampNeg) < value)) (tgt := 29) S dX8_setLoad_23 (by decide) (fun c_3 => ?_) (fun c_3 => ?_)
      · exact absurd (And.intro (by decide) c_3) ht
      · refine lv_ldc (v := (-2000000001 : Int32)) S.1 S.2.1 S.2.2.2.1 (S.2.2.2.2 _ (List.mem_of_getElem? (i := 2) rfl)) dX8_setLoad_26 ?_
        refine s_iret (x := (-2000000001 : Int32)) S G hr hlk dX8_setLoad_28 ?_
        exact ⟨rfl, rfl, rfl⟩
set_option maxHeartbeats 4000000 in
set_option maxRecDepth 100000 in
theorem k_X8_command_ok_0 (l : Launch) (E : Ev) {I : SI} {L : SL} (cm : Int32) (h : Nat → Int32) (p : Nat → Int32) (o kp : Nat) (e_h : I (53) = h) (e_p : I (3) = p) (ho : h 1 = nI o) (hk : h 2 = nI kp) (ho4 : o < 4) (hkp : kp ≤ 4) (hisb : IsbB I 1) (ht : IN2 cm) : CS l yX8_command wsX8_command ({ frames := 5, cells := 0, slots := 0, locals := 102 }) E [.ref (E.2.2.2 0), .int (0 : Int32), .int cm] I L (fun vv I' L' => vv = some (.int (p 0)) ∧ ∃ I1 L1, RecP I L I1 L1 o kp ∧ I' = (up I1 (3) (upd p 0 cm)) ∧ L' = L1) := by
  refine CS.of (cc := cX8_command) (maxL := 5) (ret := (some .int)) (by decide) rfl (Nat.le_of_ble_eq_true rfl) ?_
  intro pg en sg mg below meth cg ls S hr hlk hX G hl
  have S : CallFix pg mg cg cX8_command 5 sg _ wsX8_command RX8 := S
  have hl : lv_has ls 5 [(0, .ref (E.2.2.2 0)), (1, .int (0 : Int32)), (2, .int cm)] := hl
  refine lv_iload_n S.1 S.2.1 dX8_command_0 rfl (lv_at hl 1 rfl) ?_
  refine s_callS (As := [.int (0 : Int32)]) (rest := []) S hX G (k_X8_isLeg l E (0 : Int32)) (va_cwS (bytes := cX8_isLeg) (maxL := 1) (ret := (some .boolean)) 1 S.2.2.2.2 gX8_command_X8_isLeg rfl rfl rfl (by decide +kernel) ⟨Nat.le_of_ble_eq_true rfl, Nat.le_of_ble_eq_true rfl⟩) rfl hl.1 rfl (Nat.le_of_ble_eq_true rfl) ⟨Nat.zero_le _, Nat.zero_le _⟩ dX8_command_1 (fun v I1 L1 H locs hR G => ?_)
  obtain ⟨hv, hI, hL⟩ := hR
  subst hv
  have G : GS E I L sg H locs := G.same hI hL
  refine W.eq (g2 := F0 mg 4 ls [.int (if ¬ (0 : Int32) < (0 : Int32) ∧ ¬ (3 : Int32) < (0 : Int32) then 1 else 0)]) rfl ?_
  refine s_if_eq_b (P := ¬ (0 : Int32) < (0 : Int32) ∧ ¬ (3 : Int32) < (0 : Int32)) (tgt := 16) S dX8_command_4 (by decide) (fun h => absurd (by decide) h) (fun _ => ?_)
  refine lv_iload_n S.1 S.2.1 dX8_command_7 rfl (lv_at hl 2 rfl) ?_
  refine lv_iconst (v := (0 : Int32)) S.1 S.2.1 dX8_command_8 (by decide) ?_
  refine lv_iconst (v := (2 : Int32)) S.1 S.2.1 dX8_command_9 (by decide) ?_
  refine s_callS (As := [.int cm, .int (0 : Int32), .int (2 : Int32)]) (rest := []) S hX G (k_X8_isWithin l E cm (0 : Int32) (2 : Int32)) (va_cwS (bytes := cX8_isWithin) (maxL := 3) (ret := (some .boolean)) 3 S.2.2.2.2 gX8_command_X8_isWithin rfl rfl rfl (by decide +kernel) ⟨Nat.le_of_ble_eq_true rfl, Nat.le_of_ble_eq_true rfl⟩) rfl hl.1 rfl (Nat.le_of_ble_eq_true rfl) ⟨Nat.zero_le _, Nat.zero_le _⟩ dX8_command_10 (fun v I1 L1 H locs hR G => ?_)
  obtain ⟨hv, hI, hL⟩ := hR
  subst hv
  have G : GS E I L sg H locs := G.same hI hL
  refine W.eq (g2 := F0 mg 13 ls [.int (if ¬ cm < (0 : Int32) ∧ ¬ (2 : Int32) < cm then 1 else 0)]) rfl ?_
  refine s_if_ne_b (P := ¬ cm < (0 : Int32) ∧ ¬ (2 : Int32) < cm) (tgt := 19) S dX8_command_13 (by decide) (fun _ => ?_) (fun h => absurd ht h)
  refine lv_aload_n S.1 S.2.1 dX8_command_19 rfl (lv_at hl 0 rfl) ?_
  refine s_get S hX G (i := 0) (kd := 8) (a := (I 0)) (v := .ref (E.2.2.2 53)) (C := RX8) (T := TX8) (N := 4) 2 (rfl : sh 0 = 8) rfl rfl rfl (by decide) rfl (fun _ h => (List.mem_cons_of_mem _ (List.mem_append_left _ (List.mem_append_left _ (List.mem_append_left _ (List.mem_append_left _ (List.mem_append_left _ (List.mem_append_left _ (List.mem_append_left _ (List.mem_append_right _ h)))))))))) (by decide) (List.mem_of_getElem? (i := 2) rfl) (fun _ h => h) dX8_command_20 ?_
  refine lv_aload_n S.1 S.2.1 dX8_command_23 rfl (lv_at hl 0 rfl) ?_
  refine s_get S hX G (i := 0) (kd := 8) (a := (I 0)) (v := .ref (E.2.2.2 1)) (C := RX8) (T := TX8) (N := 4) 0 (rfl : sh 0 = 8) rfl rfl rfl (by decide) rfl (fun _ h => (List.mem_cons_of_mem _ (List.mem_append_left _ (List.mem_append_left _ (List.mem_append_left _ (List.mem_append_left _ (List.mem_append_left _ (List.mem_append_left _ (List.mem_append_left _ (List.mem_append_right _ h)))))))))) (by decide) (List.mem_of_getElem? (i := 3) rfl) (fun _ h => h) dX8_command_24 ?_
  refine s_callV (C := RX2) (As := [.ref (E.2.2.2 1)]) (rest := []) (i := 53) (kd := 2) S hX G (k_X2_record l E h o kp e_h ho hk ho4 hkp hisb) (cwV (bytes := cX2_record) (maxL := 2) (ret := none) 1 S.2.2.2.2 gX8_command_X2_record rfl rfl rfl (by decide +kernel) ⟨Nat.le_of_ble_eq_true rfl, Nat.le_of_ble_eq_true rfl⟩) (rfl : sh 53 = 2) rfl rfl rfl (by decide) rfl hl.1 rfl (Nat.le_of_ble_eq_true rfl) ⟨Nat.zero_le _, Nat.zero_le _⟩ dX8_command_27 (fun v I2 L2 H locs hR G => ?_)
  obtain ⟨hv, hRec⟩ := hR
  subst hv
  refine W.eq (g2 := F0 mg 30 ls []) rfl ?_
  refine lv_aload_n S.1 S.2.1 dX8_command_30 rfl (lv_at hl 0 rfl) ?_
  refine s_get S hX G (i := 0) (kd := 8) (a := (I2 0)) (v := .ref (E.2.2.2 1)) (C := RX8) (T := TX8) (N := 4) 0 (rfl : sh 0 = 8) rfl rfl rfl (by decide) rfl (fun _ h => (List.mem_cons_of_mem _ (List.mem_append_left _ (List.mem_append_left _ (List.mem_append_left _ (List.mem_append_left _ (List.mem_append_left _ (List.mem_append_left _ (List.mem_append_left _ (List.mem_append_right _ h)))))))))) (by decide) (List.mem_of_getElem? (i := 3) rfl) (fun _ h => h) dX8_command_31 ?_
  refine lv_iload_n S.1 S.2.1 dX8_command_34 rfl (lv_at hl 1 rfl) ?_
  refine s_callV (C := RX0) (As := [.int (0 : Int32)]) (rest := []) (i := 1) (kd := 0) S hX G (k_X0_legAt_0 l E 1 (by unfold IsB; decide)) (cwV (bytes := cX0_legAt) (maxL := 3) (ret := (some (.object "BridgeLegs$Leg"))) 1 S.2.2.2.2 gX8_command_X0_legAt rfl rfl rfl (by decide +kernel) ⟨Nat.le_of_ble_eq_true rfl, Nat.le_of_ble_eq_true rfl⟩) (rfl : sh 1 = 0) rfl rfl rfl (by decide) rfl hl.1 rfl (Nat.le_of_ble_eq_true rfl) ⟨Nat.zero_le _, Nat.zero_le _⟩ dX8_command_35 (fun v I1 L1 H locs hR G => ?_)
  obtain ⟨hv, hI, hL⟩ := hR
  subst hv
  have G : GS E I2 L2 sg H locs := G.same hI hL
  refine W.eq (g2 := F0 mg 38 ls [.ref (E.2.2.2 3)]) rfl ?_
  refine lv_astore_n (lv' := [(3, .ref (E.2.2.2 3)), (0, .ref (E.2.2.2 0)), (1, .int (0 : Int32)), (2, .int cm)]) S.1 S.2.1 dX8_command_38 rfl hl (by decide) rfl (fun ls hl => ?_)
  refine lv_aload_n S.1 S.2.1 dX8_command_39 rfl (lv_at hl 0 rfl) ?_
  refine s_getN S hX G (i := 3) (kd := 4) (a := p) (v := .int (p 0)) (C := RX4) (T := TX4) (N := 7) 0 (rfl : sh 3 = 4) (Eq.trans (hRec.fr (by decide) (by decide)) e_p) rfl rfl (by decide) rfl (fun _ h => (List.mem_cons_of_mem _ (List.mem_append_left _ (List.mem_append_left _ (List.mem_append_left _ (List.mem_append_left _ (List.mem_append_left _ (List.mem_append_left _ (List.mem_append_right _ h))))))))) (by decide) (List.mem_of_getElem? (i := 0) rfl) (fun _ h => h) dX8_command_40 ?_
  refine lv_istore (lv' := [(4, .int (p 0)), (3, .ref (E.2.2.2 3)), (0, .ref (E.2.2.2 0)), (1, .int (0 : Int32)), (2, .int cm)]) S.1 S.2.1 dX8_command_43 hl (by decide) rfl (fun ls hl => ?_)
  refine lv_aload_n S.1 S.2.1 dX8_command_45 rfl (lv_at hl 1 rfl) ?_
  refine lv_iload_n S.1 S.2.1 dX8_command_46 rfl (lv_at hl 4 rfl) ?_
  refine s_putN S hX G (i := 3) (kd := 4) (a := p) (a' := (upd p 0 cm)) (I' := (up I2 3 (upd p 0 cm))) (v := .int cm) (ty := .int) (ty0 := tyX4) (C := RX4) (T := TX4) (N := 7) 0 (rfl : sh 3 = 4) (Eq.trans (hRec.fr (by decide) (by decide)) e_p) rfl rfl rfl (by decide) rfl (fun _ h => (List.mem_cons_of_mem _ (List.mem_append_left _ (List.mem_append_left _ (List.mem_append_left _ (List.mem_append_left _ (List.mem_append_left _ (List.mem_append_left _ (List.mem_append_right _ h))))))))) tyX4_ok nmX4 (by decide) (List.mem_of_getElem? (i := 0) rfl) (fun _ h => h) rfl (by decide +kernel) rfl rfl (Nat.le_of_ble_eq_true rfl) dX8_command_47 (fun H locs G => ?_)
  refine lv_iload S.1 S.2.1 dX8_command_50 (lv_at hl 0 rfl) ?_
  refine s_iret (x := (p 0)) S G hr hlk dX8_command_52 ?_
  exact ⟨rfl, I2, L2, hRec, (st_eq1 up_eq (fun _ g0 => (up_ne g0))), rfl⟩
set_option maxHeartbeats 4000000 in
set_option maxRecDepth 100000 in
theorem k_X8_command_ok_1 (l : Launch) (E : Ev) {I : SI} {L : SL} (cm : Int32) (h : Nat → Int32) (p : Nat → Int32) (o kp : Nat) (e_h : I (53) = h) (e_p : I (4) = p) (ho : h 1 = nI o) (hk : h 2 = nI kp) (ho4 : o < 4) (hkp : kp ≤ 4) (hisb : IsbB I 1) (ht : IN2 cm) : CS l yX8_command wsX8_command ({ frames := 5, cells := 0, slots := 0, locals := 102 }) E [.ref (E.2.2.2 0), .int (1 : Int32), .int cm] I L (fun vv I' L' => vv = some (.int (p 0)) ∧ ∃ I1 L1, RecP I L I1 L1 o kp ∧ I' = (up I1 (4) (upd p 0 cm)) ∧ L' = L1) := by
  refine CS.of (cc := cX8_command) (maxL := 5) (ret := (some .int)) (by decide) rfl (Nat.le_of_ble_eq_true rfl) ?_
  intro pg en sg mg below meth cg ls S hr hlk hX G hl
  have S : CallFix pg mg cg cX8_command 5 sg _ wsX8_command RX8 := S
  have hl : lv_has ls 5 [(0, .ref (E.2.2.2 0)), (1, .int (1 : Int32)), (2, .int cm)] := hl
  refine lv_iload_n S.1 S.2.1 dX8_command_0 rfl (lv_at hl 1 rfl) ?_
  refine s_callS (As := [.int (1 : Int32)]) (rest := []) S hX G (k_X8_isLeg l E (1 : Int32)) (va_cwS (bytes := cX8_isLeg) (maxL := 1) (ret := (some .boolean)) 1 S.2.2.2.2 gX8_command_X8_isLeg rfl rfl rfl (by decide +kernel) ⟨Nat.le_of_ble_eq_true rfl, Nat.le_of_ble_eq_true rfl⟩) rfl hl.1 rfl (Nat.le_of_ble_eq_true rfl) ⟨Nat.zero_le _, Nat.zero_le _⟩ dX8_command_1 (fun v I1 L1 H locs hR G => ?_)
  obtain ⟨hv, hI, hL⟩ := hR
  subst hv
  have G : GS E I L sg H locs := G.same hI hL
  refine W.eq (g2 := F0 mg 4 ls [.int (if ¬ (1 : Int32) < (0 : Int32) ∧ ¬ (3 : Int32) < (1 : Int32) then 1 else 0)]) rfl ?_
  refine s_if_eq_b (P := ¬ (1 : Int32) < (0 : Int32) ∧ ¬ (3 : Int32) < (1 : Int32)) (tgt := 16) S dX8_command_4 (by decide) (fun h => absurd (by decide) h) (fun _ => ?_)
  refine lv_iload_n S.1 S.2.1 dX8_command_7 rfl (lv_at hl 2 rfl) ?_
  refine lv_iconst (v := (0 : Int32)) S.1 S.2.1 dX8_command_8 (by decide) ?_
  refine lv_iconst (v := (2 : Int32)) S.1 S.2.1 dX8_command_9 (by decide) ?_
  refine s_callS (As := [.int cm, .int (0 : Int32), .int (2 : Int32)]) (rest := []) S hX G (k_X8_isWithin l E cm (0 : Int32) (2 : Int32)) (va_cwS (bytes := cX8_isWithin) (maxL := 3) (ret := (some .boolean)) 3 S.2.2.2.2 gX8_command_X8_isWithin rfl rfl rfl (by decide +kernel) ⟨Nat.le_of_ble_eq_true rfl, Nat.le_of_ble_eq_true rfl⟩) rfl hl.1 rfl (Nat.le_of_ble_eq_true rfl) ⟨Nat.zero_le _, Nat.zero_le _⟩ dX8_command_10 (fun v I1 L1 H locs hR G => ?_)
  obtain ⟨hv, hI, hL⟩ := hR
  subst hv
  have G : GS E I L sg H locs := G.same hI hL
  refine W.eq (g2 := F0 mg 13 ls [.int (if ¬ cm < (0 : Int32) ∧ ¬ (2 : Int32) < cm then 1 else 0)]) rfl ?_
  refine s_if_ne_b (P := ¬ cm < (0 : Int32) ∧ ¬ (2 : Int32) < cm) (tgt := 19) S dX8_command_13 (by decide) (fun _ => ?_) (fun h => absurd ht h)
  refine lv_aload_n S.1 S.2.1 dX8_command_19 rfl (lv_at hl 0 rfl) ?_
  refine s_get S hX G (i := 0) (kd := 8) (a := (I 0)) (v := .ref (E.2.2.2 53)) (C := RX8) (T := TX8) (N := 4) 2 (rfl : sh 0 = 8) rfl rfl rfl (by decide) rfl (fun _ h => (List.mem_cons_of_mem _ (List.mem_append_left _ (List.mem_append_left _ (List.mem_append_left _ (List.mem_append_left _ (List.mem_append_left _ (List.mem_append_left _ (List.mem_append_left _ (List.mem_append_right _ h)))))))))) (by decide) (List.mem_of_getElem? (i := 2) rfl) (fun _ h => h) dX8_command_20 ?_
  refine lv_aload_n S.1 S.2.1 dX8_command_23 rfl (lv_at hl 0 rfl) ?_
  refine s_get S hX G (i := 0) (kd := 8) (a := (I 0)) (v := .ref (E.2.2.2 1)) (C := RX8) (T := TX8) (N := 4) 0 (rfl : sh 0 = 8) rfl rfl rfl (by decide) rfl (fun _ h => (List.mem_cons_of_mem _ (List.mem_append_left _ (List.mem_append_left _ (List.mem_append_left _ (List.mem_append_left _ (List.mem_append_left _ (List.mem_append_left _ (List.mem_append_left _ (List.mem_append_right _ h)))))))))) (by decide) (List.mem_of_getElem? (i := 3) rfl) (fun _ h => h) dX8_command_24 ?_
  refine s_callV (C := RX2) (As := [.ref (E.2.2.2 1)]) (rest := []) (i := 53) (kd := 2) S hX G (k_X2_record l E h o kp e_h ho hk ho4 hkp hisb) (cwV (bytes := cX2_record) (maxL := 2) (ret := none) 1 S.2.2.2.2 gX8_command_X2_record rfl rfl rfl (by decide +kernel) ⟨Nat.le_of_ble_eq_true rfl, Nat.le_of_ble_eq_true rfl⟩) (rfl : sh 53 = 2) rfl rfl rfl (by decide) rfl hl.1 rfl (Nat.le_of_ble_eq_true rfl) ⟨Nat.zero_le _, Nat.zero_le _⟩ dX8_command_27 (fun v I2 L2 H locs hR G => ?_)
  obtain ⟨hv, hRec⟩ := hR
  subst hv
  refine W.eq (g2 := F0 mg 30 ls []) rfl ?_
  refine lv_aload_n S.1 S.2.1 dX8_command_30 rfl (lv_at hl 0 rfl) ?_
  refine s_get S hX G (i := 0) (kd := 8) (a := (I2 0)) (v := .ref (E.2.2.2 1)) (C := RX8) (T := TX8) (N := 4) 0 (rfl : sh 0 = 8) rfl rfl rfl (by decide) rfl (fun _ h => (List.mem_cons_of_mem _ (List.mem_append_left _ (List.mem_append_left _ (List.mem_append_left _ (List.mem_append_left _ (List.mem_append_left _ (List.mem_append_left _ (List.mem_append_left _ (List.mem_append_right _ h)))))))))) (by decide) (List.mem_of_getElem? (i := 3) rfl) (fun _ h => h) dX8_command_31 ?_
  refine lv_iload_n S.1 S.2.1 dX8_command_34 rfl (lv_at hl 1 rfl) ?_
  refine s_callV (C := RX0) (As := [.int (1 : Int32)]) (rest := []) (i := 1) (kd := 0) S hX G (k_X0_legAt_1 l E 1 (by unfold IsB; decide)) (cwV (bytes := cX0_legAt) (maxL := 3) (ret := (some (.object "BridgeLegs$Leg"))) 1 S.2.2.2.2 gX8_command_X0_legAt rfl rfl rfl (by decide +kernel) ⟨Nat.le_of_ble_eq_true rfl, Nat.le_of_ble_eq_true rfl⟩) (rfl : sh 1 = 0) rfl rfl rfl (by decide) rfl hl.1 rfl (Nat.le_of_ble_eq_true rfl) ⟨Nat.zero_le _, Nat.zero_le _⟩ dX8_command_35 (fun v I1 L1 H locs hR G => ?_)
  obtain ⟨hv, hI, hL⟩ := hR
  subst hv
  have G : GS E I2 L2 sg H locs := G.same hI hL
  refine W.eq (g2 := F0 mg 38 ls [.ref (E.2.2.2 4)]) rfl ?_
  refine lv_astore_n (lv' := [(3, .ref (E.2.2.2 4)), (0, .ref (E.2.2.2 0)), (1, .int (1 : Int32)), (2, .int cm)]) S.1 S.2.1 dX8_command_38 rfl hl (by decide) rfl (fun ls hl => ?_)
  refine lv_aload_n S.1 S.2.1 dX8_command_39 rfl (lv_at hl 0 rfl) ?_
  refine s_getN S hX G (i := 4) (kd := 4) (a := p) (v := .int (p 0)) (C := RX4) (T := TX4) (N := 7) 0 (rfl : sh 4 = 4) (Eq.trans (hRec.fr (by decide) (by decide)) e_p) rfl rfl (by decide) rfl (fun _ h => (List.mem_cons_of_mem _ (List.mem_append_left _ (List.mem_append_left _ (List.mem_append_left _ (List.mem_append_left _ (List.mem_append_left _ (List.mem_append_left _ (List.mem_append_right _ h))))))))) (by decide) (List.mem_of_getElem? (i := 0) rfl) (fun _ h => h) dX8_command_40 ?_
  refine lv_istore (lv' := [(4, .int (p 0)), (3, .ref (E.2.2.2 4)), (0, .ref (E.2.2.2 0)), (1, .int (1 : Int32)), (2, .int cm)]) S.1 S.2.1 dX8_command_43 hl (by decide) rfl (fun ls hl => ?_)
  refine lv_aload_n S.1 S.2.1 dX8_command_45 rfl (lv_at hl 1 rfl) ?_
  refine lv_iload_n S.1 S.2.1 dX8_command_46 rfl (lv_at hl 4 rfl) ?_
  refine s_putN S hX G (i := 4) (kd := 4) (a := p) (a' := (upd p 0 cm)) (I' := (up I2 4 (upd p 0 cm))) (v := .int cm) (ty := .int) (ty0 := tyX4) (C := RX4) (T := TX4) (N := 7) 0 (rfl : sh 4 = 4) (Eq.trans (hRec.fr (by decide) (by decide)) e_p) rfl rfl rfl (by decide) rfl (fun _ h => (List.mem_cons_of_mem _ (List.mem_append_left _ (List.mem_append_left _ (List.mem_append_left _ (List.mem_append_left _ (List.mem_append_left _ (List.mem_append_left _ (List.mem_append_right _ h))))))))) tyX4_ok nmX4 (by decide) (List.mem_of_getElem? (i := 0) rfl) (fun _ h => h) rfl (by decide +kernel) rfl rfl (Nat.le_of_ble_eq_true rfl) dX8_command_47 (fun H locs G => ?_)
  refine lv_iload S.1 S.2.1 dX8_command_50 (lv_at hl 0 rfl) ?_
  refine s_iret (x := (p 0)) S G hr hlk dX8_command_52 ?_
  exact ⟨rfl, I2, L2, hRec, (st_eq1 up_eq (fun _ g0 => (up_ne g0))), rfl⟩
set_option maxHeartbeats 4000000 in
set_option maxRecDepth 100000 in
theorem k_X8_command_ok_2 (l : Launch) (E : Ev) {I : SI} {L : SL} (cm : Int32) (h : Nat → Int32) (p : Nat → Int32) (o kp : Nat) (e_h : I (53) = h) (e_p : I (12) = p) (ho : h 1 = nI o) (hk : h 2 = nI kp) (ho4 : o < 4) (hkp : kp ≤ 4) (hisb : IsbB I 1) (ht : IN2 cm) : CS l yX8_command wsX8_command ({ frames := 5, cells := 0, slots := 0, locals := 102 }) E [.ref (E.2.2.2 0), .int (2 : Int32), .int cm] I L (fun vv I' L' => vv = some (.int (p 0)) ∧ ∃ I1 L1, RecP I L I1 L1 o kp ∧ I' = (up I1 (12) (upd p 0 cm)) ∧ L' = L1) := by
  refine CS.of (cc := cX8_command) (maxL := 5) (ret := (some .int)) (by decide) rfl (Nat.le_of_ble_eq_true rfl) ?_
  intro pg en sg mg below meth cg ls S hr hlk hX G hl
  have S : CallFix pg mg cg cX8_command 5 sg _ wsX8_command RX8 := S
  have hl : lv_has ls 5 [(0, .ref (E.2.2.2 0)), (1, .int (2 : Int32)), (2, .int cm)] := hl
  refine lv_iload_n S.1 S.2.1 dX8_command_0 rfl (lv_at hl 1 rfl) ?_
  refine s_callS (As := [.int (2 : Int32)]) (rest := []) S hX G (k_X8_isLeg l E (2 : Int32)) (va_cwS (bytes := cX8_isLeg) (maxL := 1) (ret := (some .boolean)) 1 S.2.2.2.2 gX8_command_X8_isLeg rfl rfl rfl (by decide +kernel) ⟨Nat.le_of_ble_eq_true rfl, Nat.le_of_ble_eq_true rfl⟩) rfl hl.1 rfl (Nat.le_of_ble_eq_true rfl) ⟨Nat.zero_le _, Nat.zero_le _⟩ dX8_command_1 (fun v I1 L1 H locs hR G => ?_)
  obtain ⟨hv, hI, hL⟩ := hR
  subst hv
  have G : GS E I L sg H locs := G.same hI hL
  refine W.eq (g2 := F0 mg 4 ls [.int (if ¬ (2 : Int32) < (0 : Int32) ∧ ¬ (3 : Int32) < (2 : Int32) then 1 else 0)]) rfl ?_
  refine s_if_eq_b (P := ¬ (2 : Int32) < (0 : Int32) ∧ ¬ (3 : Int32) < (2 : Int32)) (tgt := 16) S dX8_command_4 (by decide) (fun h => absurd (by decide) h) (fun _ => ?_)
  refine lv_iload_n S.1 S.2.1 dX8_command_7 rfl (lv_at hl 2 rfl) ?_
  refine lv_iconst (v := (0 : Int32)) S.1 S.2.1 dX8_command_8 (by decide) ?_
  refine lv_iconst (v := (2 : Int32)) S.1 S.2.1 dX8_command_9 (by decide) ?_
  refine s_callS (As := [.int cm, .int (0 : Int32), .int (2 : Int32)]) (rest := []) S hX G (k_X8_isWithin l E cm (0 : Int32) (2 : Int32)) (va_cwS (bytes := cX8_isWithin) (maxL := 3) (ret := (some .boolean)) 3 S.2.2.2.2 gX8_command_X8_isWithin rfl rfl rfl (by decide +kernel) ⟨Nat.le_of_ble_eq_true rfl, Nat.le_of_ble_eq_true rfl⟩) rfl hl.1 rfl (Nat.le_of_ble_eq_true rfl) ⟨Nat.zero_le _, Nat.zero_le _⟩ dX8_command_10 (fun v I1 L1 H locs hR G => ?_)
  obtain ⟨hv, hI, hL⟩ := hR
  subst hv
  have G : GS E I L sg H locs := G.same hI hL
  refine W.eq (g2 := F0 mg 13 ls [.int (if ¬ cm < (0 : Int32) ∧ ¬ (2 : Int32) < cm then 1 else 0)]) rfl ?_
  refine s_if_ne_b (P := ¬ cm < (0 : Int32) ∧ ¬ (2 : Int32) < cm) (tgt := 19) S dX8_command_13 (by decide) (fun _ => ?_) (fun h => absurd ht h)
  refine lv_aload_n S.1 S.2.1 dX8_command_19 rfl (lv_at hl 0 rfl) ?_
  refine s_get S hX G (i := 0) (kd := 8) (a := (I 0)) (v := .ref (E.2.2.2 53)) (C := RX8) (T := TX8) (N := 4) 2 (rfl : sh 0 = 8) rfl rfl rfl (by decide) rfl (fun _ h => (List.mem_cons_of_mem _ (List.mem_append_left _ (List.mem_append_left _ (List.mem_append_left _ (List.mem_append_left _ (List.mem_append_left _ (List.mem_append_left _ (List.mem_append_left _ (List.mem_append_right _ h)))))))))) (by decide) (List.mem_of_getElem? (i := 2) rfl) (fun _ h => h) dX8_command_20 ?_
  refine lv_aload_n S.1 S.2.1 dX8_command_23 rfl (lv_at hl 0 rfl) ?_
  refine s_get S hX G (i := 0) (kd := 8) (a := (I 0)) (v := .ref (E.2.2.2 1)) (C := RX8) (T := TX8) (N := 4) 0 (rfl : sh 0 = 8) rfl rfl rfl (by decide) rfl (fun _ h => (List.mem_cons_of_mem _ (List.mem_append_left _ (List.mem_append_left _ (List.mem_append_left _ (List.mem_append_left _ (List.mem_append_left _ (List.mem_append_left _ (List.mem_append_left _ (List.mem_append_right _ h)))))))))) (by decide) (List.mem_of_getElem? (i := 3) rfl) (fun _ h => h) dX8_command_24 ?_
  refine s_callV (C := RX2) (As := [.ref (E.2.2.2 1)]) (rest := []) (i := 53) (kd := 2) S hX G (k_X2_record l E h o kp e_h ho hk ho4 hkp hisb) (cwV (bytes := cX2_record) (maxL := 2) (ret := none) 1 S.2.2.2.2 gX8_command_X2_record rfl rfl rfl (by decide +kernel) ⟨Nat.le_of_ble_eq_true rfl, Nat.le_of_ble_eq_true rfl⟩) (rfl : sh 53 = 2) rfl rfl rfl (by decide) rfl hl.1 rfl (Nat.le_of_ble_eq_true rfl) ⟨Nat.zero_le _, Nat.zero_le _⟩ dX8_command_27 (fun v I2 L2 H locs hR G => ?_)
  obtain ⟨hv, hRec⟩ := hR
  subst hv
  refine W.eq (g2 := F0 mg 30 ls []) rfl ?_
  refine lv_aload_n S.1 S.2.1 dX8_command_30 rfl (lv_at hl 0 rfl) ?_
  refine s_get S hX G (i := 0) (kd := 8) (a := (I2 0)) (v := .ref (E.2.2.2 1)) (C := RX8) (T := TX8) (N := 4) 0 (rfl : sh 0 = 8) rfl rfl rfl (by decide) rfl (fun _ h => (List.mem_cons_of_mem _ (List.mem_append_left _ (List.mem_append_left _ (List.mem_append_left _ (List.mem_append_left _ (List.mem_append_left _ (List.mem_append_left _ (List.mem_append_left _ (List.mem_append_right _ h)))))))))) (by decide) (List.mem_of_getElem? (i := 3) rfl) (fun _ h => h) dX8_command_31 ?_
  refine lv_iload_n S.1 S.2.1 dX8_command_34 rfl (lv_at hl 1 rfl) ?_
  refine s_callV (C := RX0) (As := [.int (2 : Int32)]) (rest := []) (i := 1) (kd := 0) S hX G (k_X0_legAt_2 l E 1 (by unfold IsB; decide)) (cwV (bytes := cX0_legAt) (maxL := 3) (ret := (some (.object "BridgeLegs$Leg"))) 1 S.2.2.2.2 gX8_command_X0_legAt rfl rfl rfl (by decide +kernel) ⟨Nat.le_of_ble_eq_true rfl, Nat.le_of_ble_eq_true rfl⟩) (rfl : sh 1 = 0) rfl rfl rfl (by decide) rfl hl.1 rfl (Nat.le_of_ble_eq_true rfl) ⟨Nat.zero_le _, Nat.zero_le _⟩ dX8_command_35 (fun v I1 L1 H locs hR G => ?_)
  obtain ⟨hv, hI, hL⟩ := hR
  subst hv
  have G : GS E I2 L2 sg H locs := G.same hI hL
  refine W.eq (g2 := F0 mg 38 ls [.ref (E.2.2.2 12)]) rfl ?_
  refine lv_astore_n (lv' := [(3, .ref (E.2.2.2 12)), (0, .ref (E.2.2.2 0)), (1, .int (2 : Int32)), (2, .int cm)]) S.1 S.2.1 dX8_command_38 rfl hl (by decide) rfl (fun ls hl => ?_)
  refine lv_aload_n S.1 S.2.1 dX8_command_39 rfl (lv_at hl 0 rfl) ?_
  refine s_getN S hX G (i := 12) (kd := 4) (a := p) (v := .int (p 0)) (C := RX4) (T := TX4) (N := 7) 0 (rfl : sh 12 = 4) (Eq.trans (hRec.fr (by decide) (by decide)) e_p) rfl rfl (by decide) rfl (fun _ h => (List.mem_cons_of_mem _ (List.mem_append_left _ (List.mem_append_left _ (List.mem_append_left _ (List.mem_append_left _ (List.mem_append_left _ (List.mem_append_left _ (List.mem_append_right _ h))))))))) (by decide) (List.mem_of_getElem? (i := 0) rfl) (fun _ h => h) dX8_command_40 ?_
  refine lv_istore (lv' := [(4, .int (p 0)), (3, .ref (E.2.2.2 12)), (0, .ref (E.2.2.2 0)), (1, .int (2 : Int32)), (2, .int cm)]) S.1 S.2.1 dX8_command_43 hl (by decide) rfl (fun ls hl => ?_)
  refine lv_aload_n S.1 S.2.1 dX8_command_45 rfl (lv_at hl 1 rfl) ?_
  refine lv_iload_n S.1 S.2.1 dX8_command_46 rfl (lv_at hl 4 rfl) ?_
  refine s_putN S hX G (i := 12) (kd := 4) (a := p) (a' := (upd p 0 cm)) (I' := (up I2 12 (upd p 0 cm))) (v := .int cm) (ty := .int) (ty0 := tyX4) (C := RX4) (T := TX4) (N := 7) 0 (rfl : sh 12 = 4) (Eq.trans (hRec.fr (by decide) (by decide)) e_p) rfl rfl rfl (by decide) rfl (fun _ h => (List.mem_cons_of_mem _ (List.mem_append_left _ (List.mem_append_left _ (List.mem_append_left _ (List.mem_append_left _ (List.mem_append_left _ (List.mem_append_left _ (List.mem_append_right _ h))))))))) tyX4_ok nmX4 (by decide) (List.mem_of_getElem? (i := 0) rfl) (fun _ h => h) rfl (by decide +kernel) rfl rfl (Nat.le_of_ble_eq_true rfl) dX8_command_47 (fun H locs G => ?_)
  refine lv_iload S.1 S.2.1 dX8_command_50 (lv_at hl 0 rfl) ?_
  refine s_iret (x := (p 0)) S G hr hlk dX8_command_52 ?_
  exact ⟨rfl, I2, L2, hRec, (st_eq1 up_eq (fun _ g0 => (up_ne g0))), rfl⟩
set_option maxHeartbeats 4000000 in
set_option maxRecDepth 100000 in
theorem k_X8_command_ok_3 (l : Launch) (E : Ev) {I : SI} {L : SL} (cm : Int32) (h : Nat → Int32) (p : Nat → Int32) (o kp : Nat) (e_h : I (53) = h) (e_p : I (13) = p) (ho : h 1 = nI o) (hk : h 2 = nI kp) (ho4 : o < 4) (hkp : kp ≤ 4) (hisb : IsbB I 1) (ht : IN2 cm) : CS l yX8_command wsX8_command ({ frames := 5, cells := 0, slots := 0, locals := 102 }) E [.ref (E.2.2.2 0), .int (3 : Int32), .int cm] I L (fun vv I' L' => vv = some (.int (p 0)) ∧ ∃ I1 L1, RecP I L I1 L1 o kp ∧ I' = (up I1 (13) (upd p 0 cm)) ∧ L' = L1) := by
  refine CS.of (cc := cX8_command) (maxL := 5) (ret := (some .int)) (by decide) rfl (Nat.le_of_ble_eq_true rfl) ?_
  intro pg en sg mg below meth cg ls S hr hlk hX G hl
  have S : CallFix pg mg cg cX8_command 5 sg _ wsX8_command RX8 := S
  have hl : lv_has ls 5 [(0, .ref (E.2.2.2 0)), (1, .int (3 : Int32)), (2, .int cm)] := hl
  refine lv_iload_n S.1 S.2.1 dX8_command_0 rfl (lv_at hl 1 rfl) ?_
  refine s_callS (As := [.int (3 : Int32)]) (rest := []) S hX G (k_X8_isLeg l E (3 : Int32)) (va_cwS (bytes := cX8_isLeg) (maxL := 1) (ret := (some .boolean)) 1 S.2.2.2.2 gX8_command_X8_isLeg rfl rfl rfl (by decide +kernel) ⟨Nat.le_of_ble_eq_true rfl, Nat.le_of_ble_eq_true rfl⟩) rfl hl.1 rfl (Nat.le_of_ble_eq_true rfl) ⟨Nat.zero_le _, Nat.zero_le _⟩ dX8_command_1 (fun v I1 L1 H locs hR G => ?_)
  obtain ⟨hv, hI, hL⟩ := hR
  subst hv
  have G : GS E I L sg H locs := G.same hI hL
  refine W.eq (g2 := F0 mg 4 ls [.int (if ¬ (3 : Int32) < (0 : Int32) ∧ ¬ (3 : Int32) < (3 : Int32) then 1 else 0)]) rfl ?_
  refine s_if_eq_b (P := ¬ (3 : Int32) < (0 : Int32) ∧ ¬ (3 : Int32) < (3 : Int32)) (tgt := 16) S dX8_command_4 (by decide) (fun h => absurd (by decide) h) (fun _ => ?_)
  refine lv_iload_n S.1 S.2.1 dX8_command_7 rfl (lv_at hl 2 rfl) ?_
  refine lv_iconst (v := (0 : Int32)) S.1 S.2.1 dX8_command_8 (by decide) ?_
  refine lv_iconst (v := (2 : Int32)) S.1 S.2.1 dX8_command_9 (by decide) ?_
  refine s_callS (As := [.int cm, .int (0 : Int32), .int (2 : Int32)]) (rest := []) S hX G (k_X8_isWithin l E cm (0 : Int32) (2 : Int32)) (va_cwS (bytes := cX8_isWithin) (maxL := 3) (ret := (some .boolean)) 3 S.2.2.2.2 gX8_command_X8_isWithin rfl rfl rfl (by decide +kernel) ⟨Nat.le_of_ble_eq_true rfl, Nat.le_of_ble_eq_true rfl⟩) rfl hl.1 rfl (Nat.le_of_ble_eq_true rfl) ⟨Nat.zero_le _, Nat.zero_le _⟩ dX8_command_10 (fun v I1 L1 H locs hR G => ?_)
  obtain ⟨hv, hI, hL⟩ := hR
  subst hv
  have G : GS E I L sg H locs := G.same hI hL
  refine W.eq (g2 := F0 mg 13 ls [.int (if ¬ cm < (0 : Int32) ∧ ¬ (2 : Int32) < cm then 1 else 0)]) rfl ?_
  refine s_if_ne_b (P := ¬ cm < (0 : Int32) ∧ ¬ (2 : Int32) < cm) (tgt := 19) S dX8_command_13 (by decide) (fun _ => ?_) (fun h => absurd ht h)
  refine lv_aload_n S.1 S.2.1 dX8_command_19 rfl (lv_at hl 0 rfl) ?_
  refine s_get S hX G (i := 0) (kd := 8) (a := (I 0)) (v := .ref (E.2.2.2 53)) (C := RX8) (T := TX8) (N := 4) 2 (rfl : sh 0 = 8) rfl rfl rfl (by decide) rfl (fun _ h => (List.mem_cons_of_mem _ (List.mem_append_left _ (List.mem_append_left _ (List.mem_append_left _ (List.mem_append_left _ (List.mem_append_left _ (List.mem_append_left _ (List.mem_append_left _ (List.mem_append_right _ h)))))))))) (by decide) (List.mem_of_getElem? (i := 2) rfl) (fun _ h => h) dX8_command_20 ?_
  refine lv_aload_n S.1 S.2.1 dX8_command_23 rfl (lv_at hl 0 rfl) ?_
  refine s_get S hX G (i := 0) (kd := 8) (a := (I 0)) (v := .ref (E.2.2.2 1)) (C := RX8) (T := TX8) (N := 4) 0 (rfl : sh 0 = 8) rfl rfl rfl (by decide) rfl (fun _ h => (List.mem_cons_of_mem _ (List.mem_append_left _ (List.mem_append_left _ (List.mem_append_left _ (List.mem_append_left _ (List.mem_append_left _ (List.mem_append_left _ (List.mem_append_left _ (List.mem_append_right _ h)))))))))) (by decide) (List.mem_of_getElem? (i := 3) rfl) (fun _ h => h) dX8_command_24 ?_
  refine s_callV (C := RX2) (As := [.ref (E.2.2.2 1)]) (rest := []) (i := 53) (kd := 2) S hX G (k_X2_record l E h o kp e_h ho hk ho4 hkp hisb) (cwV (bytes := cX2_record) (maxL := 2) (ret := none) 1 S.2.2.2.2 gX8_command_X2_record rfl rfl rfl (by decide +kernel) ⟨Nat.le_of_ble_eq_true rfl, Nat.le_of_ble_eq_true rfl⟩) (rfl : sh 53 = 2) rfl rfl rfl (by decide) rfl hl.1 rfl (Nat.le_of_ble_eq_true rfl) ⟨Nat.zero_le _, Nat.zero_le _⟩ dX8_command_27 (fun v I2 L2 H locs hR G => ?_)
  obtain ⟨hv, hRec⟩ := hR
  subst hv
  refine W.eq (g2 := F0 mg 30 ls []) rfl ?_
  refine lv_aload_n S.1 S.2.1 dX8_command_30 rfl (lv_at hl 0 rfl) ?_
  refine s_get S hX G (i := 0) (kd := 8) (a := (I2 0)) (v := .ref (E.2.2.2 1)) (C := RX8) (T := TX8) (N := 4) 0 (rfl : sh 0 = 8) rfl rfl rfl (by decide) rfl (fun _ h => (List.mem_cons_of_mem _ (List.mem_append_left _ (List.mem_append_left _ (List.mem_append_left _ (List.mem_append_left _ (List.mem_append_left _ (List.mem_append_left _ (List.mem_append_left _ (List.mem_append_right _ h)))))))))) (by decide) (List.mem_of_getElem? (i := 3) rfl) (fun _ h => h) dX8_command_31 ?_
  refine lv_iload_n S.1 S.2.1 dX8_command_34 rfl (lv_at hl 1 rfl) ?_
  refine s_callV (C := RX0) (As := [.int (3 : Int32)]) (rest := []) (i := 1) (kd := 0) S hX G (k_X0_legAt_3 l E 1 (by unfold IsB; decide)) (cwV (bytes := cX0_legAt) (maxL := 3) (ret := (some (.object "BridgeLegs$Leg"))) 1 S.2.2.2.2 gX8_command_X0_legAt rfl rfl rfl (by decide +kernel) ⟨Nat.le_of_ble_eq_true rfl, Nat.le_of_ble_eq_true rfl⟩) (rfl : sh 1 = 0) rfl rfl rfl (by decide) rfl hl.1 rfl (Nat.le_of_ble_eq_true rfl) ⟨Nat.zero_le _, Nat.zero_le _⟩ dX8_command_35 (fun v I1 L1 H locs hR G => ?_)
  obtain ⟨hv, hI, hL⟩ := hR
  subst hv
  have G : GS E I2 L2 sg H locs := G.same hI hL
  refine W.eq (g2 := F0 mg 38 ls [.ref (E.2.2.2 13)]) rfl ?_
  refine lv_astore_n (lv' := [(3, .ref (E.2.2.2 13)), (0, .ref (E.2.2.2 0)), (1, .int (3 : Int32)), (2, .int cm)]) S.1 S.2.1 dX8_command_38 rfl hl (by decide) rfl (fun ls hl => ?_)
  refine lv_aload_n S.1 S.2.1 dX8_command_39 rfl (lv_at hl 0 rfl) ?_
  refine s_getN S hX G (i := 13) (kd := 4) (a := p) (v := .int (p 0)) (C := RX4) (T := TX4) (N := 7) 0 (rfl : sh 13 = 4) (Eq.trans (hRec.fr (by decide) (by decide)) e_p) rfl rfl (by decide) rfl (fun _ h => (List.mem_cons_of_mem _ (List.mem_append_left _ (List.mem_append_left _ (List.mem_append_left _ (List.mem_append_left _ (List.mem_append_left _ (List.mem_append_left _ (List.mem_append_right _ h))))))))) (by decide) (List.mem_of_getElem? (i := 0) rfl) (fun _ h => h) dX8_command_40 ?_
  refine lv_istore (lv' := [(4, .int (p 0)), (3, .ref (E.2.2.2 13)), (0, .ref (E.2.2.2 0)), (1, .int (3 : Int32)), (2, .int cm)]) S.1 S.2.1 dX8_command_43 hl (by decide) rfl (fun ls hl => ?_)
  refine lv_aload_n S.1 S.2.1 dX8_command_45 rfl (lv_at hl 1 rfl) ?_
  refine lv_iload_n S.1 S.2.1 dX8_command_46 rfl (lv_at hl 4 rfl) ?_
  refine s_putN S hX G (i := 13) (kd := 4) (a := p) (a' := (upd p 0 cm)) (I' := (up I2 13 (upd p 0 cm))) (v := .int cm) (ty := .int) (ty0 := tyX4) (C := RX4) (T := TX4) (N := 7) 0 (rfl : sh 13 = 4) (Eq.trans (hRec.fr (by decide) (by decide)) e_p) rfl rfl rfl (by decide) rfl (fun _ h => (List.mem_cons_of_mem _ (List.mem_append_left _ (List.mem_append_left _ (List.mem_append_left _ (List.mem_append_left _ (List.mem_append_left _ (List.mem_append_left _ (List.mem_append_right _ h))))))))) tyX4_ok nmX4 (by decide) (List.mem_of_getElem? (i := 0) rfl) (fun _ h => h) rfl (by decide +kernel) rfl rfl (Nat.le_of_ble_eq_true rfl) dX8_command_47 (fun H locs G => ?_)
  refine lv_iload S.1 S.2.1 dX8_command_50 (lv_at hl 0 rfl) ?_
  refine s_iret (x := (p 0)) S G hr hlk dX8_command_52 ?_
  exact ⟨rfl, I2, L2, hRec, (st_eq1 up_eq (fun _ g0 => (up_ne g0))), rfl⟩
set_option maxHeartbeats 4000000 in
set_option maxRecDepth 100000 in
theorem k_X8_command_no (l : Launch) (E : Ev) {I : SI} {L : SL} (leg : Int32) (cm : Int32) (ht : ¬ (IN3 leg ∧ IN2 cm)) : CS l yX8_command wsX8_command ({ frames := 2, cells := 0, slots := 0, locals := 42 }) E [.ref (E.2.2.2 0), .int leg, .int cm] I L (fun vv I' L' => vv = some (.int (-2000000001 : Int32)) ∧ I' = I ∧ L' = L) := by
  refine CS.of (cc := cX8_command) (maxL := 5) (ret := (some .int)) (by decide) rfl (Nat.le_of_ble_eq_true rfl) ?_
  intro pg en sg mg below meth cg ls S hr hlk hX G hl
  have S : CallFix pg mg cg cX8_command 5 sg _ wsX8_command RX8 := S
  have hl : lv_has ls 5 [(0, .ref (E.2.2.2 0)), (1, .int leg), (2, .int cm)] := hl
  refine lv_iload_n S.1 S.2.1 dX8_command_0 rfl (lv_at hl 1 rfl) ?_
  refine s_callS (As := [.int leg]) (rest := []) S hX G (k_X8_isLeg l E leg) (va_cwS (bytes := cX8_isLeg) (maxL := 1) (ret := (some .boolean)) 1 S.2.2.2.2 gX8_command_X8_isLeg rfl rfl rfl (by decide +kernel) ⟨Nat.le_of_ble_eq_true rfl, Nat.le_of_ble_eq_true rfl⟩) rfl hl.1 rfl (Nat.le_of_ble_eq_true rfl) ⟨Nat.zero_le _, Nat.zero_le _⟩ dX8_command_1 (fun v I1 L1 H locs hR G => ?_)
  obtain ⟨hv, hI, hL⟩ := hR
  subst hv
  have G : GS E I L sg H locs := G.same hI hL
  refine W.eq (g2 := F0 mg 4 ls [.int (if ¬ leg < (0 : Int32) ∧ ¬ (3 : Int32) < leg then 1 else 0)]) rfl ?_
  refine s_if_eq_b (P := ¬ leg < (0 : Int32) ∧ ¬ (3 : Int32) < leg) (tgt := 16) S dX8_command_4 (by decide) (fun c_1 => ?_) (fun c_1 => ?_)
  · refine lv_ldc (v := (-2000000001 : Int32)) S.1 S.2.1 S.2.2.2.1 (S.2.2.2.2 _ (List.mem_of_getElem? (i := 1) rfl)) dX8_command_16 ?_
    refine s_iret (x := (-2000000001 : Int32)) S G hr hlk dX8_command_18 ?_
    exact ⟨rfl, rfl, rfl⟩
  · refine lv_iload_n S.1 S.2.1 dX8_command_7 rfl (lv_at hl 2 rfl) ?_
    refine lv_iconst (v := (0 : Int32)) S.1 S.2.1 dX8_command_8 (by decide) ?_
    refine lv_iconst (v := (2 : Int32)) S.1 S.2.1 dX8_command_9 (by decide) ?_
    refine s_callS (As := [.int cm, .int (0 : Int32), .int (2 : Int32)]) (rest := []) S hX G (k_X8_isWithin l E cm (0 : Int32) (2 : Int32)) (va_cwS (bytes := cX8_isWithin) (maxL := 3) (ret := (some .boolean)) 3 S.2.2.2.2 gX8_command_X8_isWithin rfl rfl rfl (by decide +kernel) ⟨Nat.le_of_ble_eq_true rfl, Nat.le_of_ble_eq_true rfl⟩) rfl hl.1 rfl (Nat.le_of_ble_eq_true rfl) ⟨Nat.zero_le _, Nat.zero_le _⟩ dX8_command_10 (fun v I1 L1 H locs hR G => ?_)
    obtain ⟨hv, hI, hL⟩ := hR
    subst hv
    have G : GS E I L sg H locs := G.same hI hL
    refine W.eq (g2 := F0 mg 13 ls [.int (if ¬ cm < (0 : Int32) ∧ ¬ (2 : Int32) < cm then 1 else 0)]) rfl ?_
    refine s_if_ne_b (P := ¬ cm < (0 : Int32) ∧ ¬ (2 : Int32) < cm) (tgt := 19) S dX8_command_13 (by decide) (fun c_2 => ?_) (fun c_2 => ?_)
    · exact absurd (And.intro c_1 c_2) ht
    · refine lv_ldc (v := (-2000000001 : Int32)) S.1 S.2.1 S.2.2.2.1 (S.2.2.2.2 _ (List.mem_of_getElem? (i := 1) rfl)) dX8_command_16 ?_
      refine s_iret (x := (-2000000001 : Int32)) S G hr hlk dX8_command_18 ?_
      exact ⟨rfl, rfl, rfl⟩
set_option maxHeartbeats 4000000 in
set_option maxRecDepth 100000 in
theorem k_X8_chop_ok_0_0 (l : Launch) (E : Ev) {I : SI} {L : SL} (h : Nat → Int32) (b : Nat → Int32) (o kp : Nat) (e_h : I (53) = h) (e_b : I (2) = b) (ho : h 1 = nI o) (hk : h 2 = nI kp) (ho4 : o < 4) (hkp : kp ≤ 4) (hisb : IsbB I 1) (g6 : isb (b 6)) : CS l yX8_chop wsX8_chop ({ frames := 5, cells := 0, slots := 0, locals := 102 }) E [.ref (E.2.2.2 0), .int (0 : Int32), .int (0 : Int32)] I L (fun vv I' L' => vv = some (.int (b 6)) ∧ ∃ I1 L1, RecP I L I1 L1 o kp ∧ I' = (up I1 (2) (chopF b 0)) ∧ L' = L1) := by
  refine CS.of (cc := cX8_chop) (maxL := 3) (ret := (some .int)) (by decide) rfl (Nat.le_of_ble_eq_true rfl) ?_
  intro pg en sg mg below meth cg ls S hr hlk hX G hl
  have S : CallFix pg mg cg cX8_chop 3 sg _ wsX8_chop RX8 := S
  have hl : lv_has ls 3 [(0, .ref (E.2.2.2 0)), (1, .int (0 : Int32)), (2, .int (0 : Int32))] := hl
  refine lv_iload_n S.1 S.2.1 dX8_chop_0 rfl (lv_at hl 1 rfl) ?_
  refine s_callS (As := [.int (0 : Int32)]) (rest := []) S hX G (k_X8_isLoad l E (0 : Int32)) (va_cwS (bytes := cX8_isLoad) (maxL := 1) (ret := (some .boolean)) 1 S.2.2.2.2 gX8_chop_X8_isLoad rfl rfl rfl (by decide +kernel) ⟨Nat.le_of_ble_eq_true rfl, Nat.le_of_ble_eq_true rfl⟩) rfl hl.1 rfl (Nat.le_of_ble_eq_true rfl) ⟨Nat.zero_le _, Nat.zero_le _⟩ dX8_chop_1 (fun v I1 L1 H locs hR G => ?_)
  obtain ⟨hv, hI, hL⟩ := hR
  subst hv
  have G : GS E I L sg H locs := G.same hI hL
  refine W.eq (g2 := F0 mg 4 ls [.int (if ¬ (0 : Int32) < (0 : Int32) ∧ ¬ (1 : Int32) < (0 : Int32) then 1 else 0)]) rfl ?_
  refine s_if_eq_b (P := ¬ (0 : Int32) < (0 : Int32) ∧ ¬ (1 : Int32) < (0 : Int32)) (tgt := 16) S dX8_chop_4 (by decide) (fun h => absurd (by decide) h) (fun _ => ?_)
  refine lv_iload_n S.1 S.2.1 dX8_chop_7 rfl (lv_at hl 2 rfl) ?_
  refine lv_iconst (v := (0 : Int32)) S.1 S.2.1 dX8_chop_8 (by decide) ?_
  refine lv_iconst (v := (1 : Int32)) S.1 S.2.1 dX8_chop_9 (by decide) ?_
  refine s_callS (As := [.int (0 : Int32), .int (0 : Int32), .int (1 : Int32)]) (rest := []) S hX G (k_X8_isWithin l E (0 : Int32) (0 : Int32) (1 : Int32)) (va_cwS (bytes := cX8_isWithin) (maxL := 3) (ret := (some .boolean)) 3 S.2.2.2.2 gX8_chop_X8_isWithin rfl rfl rfl (by decide +kernel) ⟨Nat.le_of_ble_eq_true rfl, Nat.le_of_ble_eq_true rfl⟩) rfl hl.1 rfl (Nat.le_of_ble_eq_true rfl) ⟨Nat.zero_le _, Nat.zero_le _⟩ dX8_chop_10 (fun v I1 L1 H locs hR G => ?_)
  obtain ⟨hv, hI, hL⟩ := hR
  subst hv
  have G : GS E I L sg H locs := G.same hI hL
  refine W.eq (g2 := F0 mg 13 ls [.int (if ¬ (0 : Int32) < (0 : Int32) ∧ ¬ (1 : Int32) < (0 : Int32) then 1 else 0)]) rfl ?_
  refine s_if_ne_b (P := ¬ (0 : Int32) < (0 : Int32) ∧ ¬ (1 : Int32) < (0 : Int32)) (tgt := 19) S dX8_chop_13 (by decide) (fun _ => ?_) (fun h => absurd (by decide) h)
  refine lv_aload_n S.1 S.2.1 dX8_chop_19 rfl (lv_at hl 0 rfl) ?_
  refine s_get S hX G (i := 0) (kd := 8) (a := (I 0)) (v := .ref (E.2.2.2 53)) (C := RX8) (T := TX8) (N := 4) 2 (rfl : sh 0 = 8) rfl rfl rfl (by decide) rfl (fun _ h => (List.mem_cons_of_mem _ (List.mem_append_left _ (List.mem_append_left _ (List.mem_append_left _ (List.mem_append_left _ (List.mem_append_left _ (List.mem_append_left _ (List.mem_append_left _ (List.mem_append_right _ h)))))))))) (by decide) (List.mem_of_getElem? (i := 2) rfl) (fun _ h => h) dX8_chop_20 ?_
  refine lv_aload_n S.1 S.2.1 dX8_chop_23 rfl (lv_at hl 0 rfl) ?_
  refine s_get S hX G (i := 0) (kd := 8) (a := (I 0)) (v := .ref (E.2.2.2 1)) (C := RX8) (T := TX8) (N := 4) 0 (rfl : sh 0 = 8) rfl rfl rfl (by decide) rfl (fun _ h => (List.mem_cons_of_mem _ (List.mem_append_left _ (List.mem_append_left _ (List.mem_append_left _ (List.mem_append_left _ (List.mem_append_left _ (List.mem_append_left _ (List.mem_append_left _ (List.mem_append_right _ h)))))))))) (by decide) (List.mem_of_getElem? (i := 3) rfl) (fun _ h => h) dX8_chop_24 ?_
  refine s_callV (C := RX2) (As := [.ref (E.2.2.2 1)]) (rest := []) (i := 53) (kd := 2) S hX G (k_X2_record l E h o kp e_h ho hk ho4 hkp hisb) (cwV (bytes := cX2_record) (maxL := 2) (ret := none) 1 S.2.2.2.2 gX8_chop_X2_record rfl rfl rfl (by decide +kernel) ⟨Nat.le_of_ble_eq_true rfl, Nat.le_of_ble_eq_true rfl⟩) (rfl : sh 53 = 2) rfl rfl rfl (by decide) rfl hl.1 rfl (Nat.le_of_ble_eq_true rfl) ⟨Nat.zero_le _, Nat.zero_le _⟩ dX8_chop_27 (fun v I2 L2 H locs hR G => ?_)
  obtain ⟨hv, hRec⟩ := hR
  subst hv
  refine W.eq (g2 := F0 mg 30 ls []) rfl ?_
  refine lv_aload_n S.1 S.2.1 dX8_chop_30 rfl (lv_at hl 0 rfl) ?_
  refine s_get S hX G (i := 0) (kd := 8) (a := (I2 0)) (v := .ref (E.2.2.2 1)) (C := RX8) (T := TX8) (N := 4) 0 (rfl : sh 0 = 8) rfl rfl rfl (by decide) rfl (fun _ h => (List.mem_cons_of_mem _ (List.mem_append_left _ (List.mem_append_left _ (List.mem_append_left _ (List.mem_append_left _ (List.mem_append_left _ (List.mem_append_left _ (List.mem_append_left _ (List.mem_append_right _ h)))))))))) (by decide) (List.mem_of_getElem? (i := 3) rfl) (fun _ h => h) dX8_chop_31 ?_
  refine lv_iload_n S.1 S.2.1 dX8_chop_34 rfl (lv_at hl 1 rfl) ?_
  refine s_callV (C := RX0) (As := [.int (0 : Int32)]) (rest := []) (i := 1) (kd := 0) S hX G (k_X0_loadAt_0 l E 1 (by unfold IsB; decide)) (cwV (bytes := cX0_loadAt) (maxL := 2) (ret := (some (.object "BridgeLegs$Load"))) 1 S.2.2.2.2 gX8_chop_X0_loadAt rfl rfl rfl (by decide +kernel) ⟨Nat.le_of_ble_eq_true rfl, Nat.le_of_ble_eq_true rfl⟩) (rfl : sh 1 = 0) rfl rfl rfl (by decide) rfl hl.1 rfl (Nat.le_of_ble_eq_true rfl) ⟨Nat.zero_le _, Nat.zero_le _⟩ dX8_chop_35 (fun v I1 L1 H locs hR G => ?_)
  obtain ⟨hv, hI, hL⟩ := hR
  subst hv
  have G : GS E I2 L2 sg H locs := G.same hI hL
  refine W.eq (g2 := F0 mg 38 ls [.ref (E.2.2.2 2)]) rfl ?_
  refine lv_iload_n S.1 S.2.1 dX8_chop_38 rfl (lv_at hl 2 rfl) ?_
  refine lv_iconst (v := (1 : Int32)) S.1 S.2.1 dX8_chop_39 (by decide) ?_
  refine lv_icmp_ne (tgt := 47) S.1 S.2.1 dX8_chop_40 (by decide) (fun _ => ?_) (fun h => absurd h (by decide))
  refine lv_iconst (v := (0 : Int32)) S.1 S.2.1 dX8_chop_47 (by decide) ?_
  refine s_callV (C := RX5) (As := [.int (0 : Int32)]) (rest := []) (i := 2) (kd := 5) S hX G (k_X5_turnChopper l E 2 (0 : Int32) b (by unfold IsLd; decide) (Eq.trans (hRec.fr (by decide) (by decide)) e_b) g6 (Or.inl rfl)) (cwV (bytes := cX5_turnChopper) (maxL := 3) (ret := (some .boolean)) 1 S.2.2.2.2 gX8_chop_X5_turnChopper rfl rfl rfl (by decide +kernel) ⟨Nat.le_of_ble_eq_true rfl, Nat.le_of_ble_eq_true rfl⟩) (rfl : sh 2 = 5) rfl rfl rfl (by decide) rfl hl.1 rfl (Nat.le_of_ble_eq_true rfl) ⟨Nat.zero_le _, Nat.zero_le _⟩ dX8_chop_48 (fun v I1 L1 H locs hR G => ?_)
  obtain ⟨hv, hI, hL⟩ := hR
  subst hv
  obtain ⟨r_1, er_1⟩ : ∃ r : Nat → Int32, r = (chopF b (0 : Int32)) := ⟨_, rfl⟩
  rw [← er_1] at hI
  have G : GS E (up I2 2 r_1) L2 sg H locs := G.same hI hL
  refine W.eq (g2 := F0 mg 51 ls [.int (b 6)]) rfl ?_
  refine s_callS (As := [.int (b 6)]) (rest := []) S hX G (k_X8_bit l E (b 6) g6) (va_cwS (bytes := cX8_bit) (maxL := 1) (ret := (some .int)) 1 S.2.2.2.2 gX8_chop_X8_bit rfl rfl rfl (by decide +kernel) ⟨Nat.le_of_ble_eq_true rfl, Nat.le_of_ble_eq_true rfl⟩) rfl hl.1 rfl (Nat.le_of_ble_eq_true rfl) ⟨Nat.zero_le _, Nat.zero_le _⟩ dX8_chop_51 (fun v I1 L1 H locs hR G => ?_)
  obtain ⟨hv, hI, hL⟩ := hR
  subst hv
  have G : GS E (up I2 2 r_1) L2 sg H locs := G.same hI hL
  refine W.eq (g2 := F0 mg 54 ls [.int (b 6)]) rfl ?_
  refine s_iret (x := (b 6)) S G hr hlk dX8_chop_54 ?_
  exact ⟨rfl, I2, L2, hRec, (st_eq1 (Eq.trans up_eq (show r_1 = (chopF b 0) by subst er_1; rfl)) (fun _ g0 => (up_ne g0))), rfl⟩
set_option maxHeartbeats 4000000 in
set_option maxRecDepth 100000 in
theorem k_X8_chop_ok_0_1 (l : Launch) (E : Ev) {I : SI} {L : SL} (h : Nat → Int32) (b : Nat → Int32) (o kp : Nat) (e_h : I (53) = h) (e_b : I (2) = b) (ho : h 1 = nI o) (hk : h 2 = nI kp) (ho4 : o < 4) (hkp : kp ≤ 4) (hisb : IsbB I 1) (g6 : isb (b 6)) : CS l yX8_chop wsX8_chop ({ frames := 5, cells := 0, slots := 0, locals := 102 }) E [.ref (E.2.2.2 0), .int (0 : Int32), .int (1 : Int32)] I L (fun vv I' L' => vv = some (.int (b 6)) ∧ ∃ I1 L1, RecP I L I1 L1 o kp ∧ I' = (up I1 (2) (chopF b 1)) ∧ L' = L1) := by
  refine CS.of (cc := cX8_chop) (maxL := 3) (ret := (some .int)) (by decide) rfl (Nat.le_of_ble_eq_true rfl) ?_
  intro pg en sg mg below meth cg ls S hr hlk hX G hl
  have S : CallFix pg mg cg cX8_chop 3 sg _ wsX8_chop RX8 := S
  have hl : lv_has ls 3 [(0, .ref (E.2.2.2 0)), (1, .int (0 : Int32)), (2, .int (1 : Int32))] := hl
  refine lv_iload_n S.1 S.2.1 dX8_chop_0 rfl (lv_at hl 1 rfl) ?_
  refine s_callS (As := [.int (0 : Int32)]) (rest := []) S hX G (k_X8_isLoad l E (0 : Int32)) (va_cwS (bytes := cX8_isLoad) (maxL := 1) (ret := (some .boolean)) 1 S.2.2.2.2 gX8_chop_X8_isLoad rfl rfl rfl (by decide +kernel) ⟨Nat.le_of_ble_eq_true rfl, Nat.le_of_ble_eq_true rfl⟩) rfl hl.1 rfl (Nat.le_of_ble_eq_true rfl) ⟨Nat.zero_le _, Nat.zero_le _⟩ dX8_chop_1 (fun v I1 L1 H locs hR G => ?_)
  obtain ⟨hv, hI, hL⟩ := hR
  subst hv
  have G : GS E I L sg H locs := G.same hI hL
  refine W.eq (g2 := F0 mg 4 ls [.int (if ¬ (0 : Int32) < (0 : Int32) ∧ ¬ (1 : Int32) < (0 : Int32) then 1 else 0)]) rfl ?_
  refine s_if_eq_b (P := ¬ (0 : Int32) < (0 : Int32) ∧ ¬ (1 : Int32) < (0 : Int32)) (tgt := 16) S dX8_chop_4 (by decide) (fun h => absurd (by decide) h) (fun _ => ?_)
  refine lv_iload_n S.1 S.2.1 dX8_chop_7 rfl (lv_at hl 2 rfl) ?_
  refine lv_iconst (v := (0 : Int32)) S.1 S.2.1 dX8_chop_8 (by decide) ?_
  refine lv_iconst (v := (1 : Int32)) S.1 S.2.1 dX8_chop_9 (by decide) ?_
  refine s_callS (As := [.int (1 : Int32), .int (0 : Int32), .int (1 : Int32)]) (rest := []) S hX G (k_X8_isWithin l E (1 : Int32) (0 : Int32) (1 : Int32)) (va_cwS (bytes := cX8_isWithin) (maxL := 3) (ret := (some .boolean)) 3 S.2.2.2.2 gX8_chop_X8_isWithin rfl rfl rfl (by decide +kernel) ⟨Nat.le_of_ble_eq_true rfl, Nat.le_of_ble_eq_true rfl⟩) rfl hl.1 rfl (Nat.le_of_ble_eq_true rfl) ⟨Nat.zero_le _, Nat.zero_le _⟩ dX8_chop_10 (fun v I1 L1 H locs hR G => ?_)
  obtain ⟨hv, hI, hL⟩ := hR
  subst hv
  have G : GS E I L sg H locs := G.same hI hL
  refine W.eq (g2 := F0 mg 13 ls [.int (if ¬ (1 : Int32) < (0 : Int32) ∧ ¬ (1 : Int32) < (1 : Int32) then 1 else 0)]) rfl ?_
  refine s_if_ne_b (P := ¬ (1 : Int32) < (0 : Int32) ∧ ¬ (1 : Int32) < (1 : Int32)) (tgt := 19) S dX8_chop_13 (by decide) (fun _ => ?_) (fun h => absurd (by decide) h)
  refine lv_aload_n S.1 S.2.1 dX8_chop_19 rfl (lv_at hl 0 rfl) ?_
  refine s_get S hX G (i := 0) (kd := 8) (a := (I 0)) (v := .ref (E.2.2.2 53)) (C := RX8) (T := TX8) (N := 4) 2 (rfl : sh 0 = 8) rfl rfl rfl (by decide) rfl (fun _ h => (List.mem_cons_of_mem _ (List.mem_append_left _ (List.mem_append_left _ (List.mem_append_left _ (List.mem_append_left _ (List.mem_append_left _ (List.mem_append_left _ (List.mem_append_left _ (List.mem_append_right _ h)))))))))) (by decide) (List.mem_of_getElem? (i := 2) rfl) (fun _ h => h) dX8_chop_20 ?_
  refine lv_aload_n S.1 S.2.1 dX8_chop_23 rfl (lv_at hl 0 rfl) ?_
  refine s_get S hX G (i := 0) (kd := 8) (a := (I 0)) (v := .ref (E.2.2.2 1)) (C := RX8) (T := TX8) (N := 4) 0 (rfl : sh 0 = 8) rfl rfl rfl (by decide) rfl (fun _ h => (List.mem_cons_of_mem _ (List.mem_append_left _ (List.mem_append_left _ (List.mem_append_left _ (List.mem_append_left _ (List.mem_append_left _ (List.mem_append_left _ (List.mem_append_left _ (List.mem_append_right _ h)))))))))) (by decide) (List.mem_of_getElem? (i := 3) rfl) (fun _ h => h) dX8_chop_24 ?_
  refine s_callV (C := RX2) (As := [.ref (E.2.2.2 1)]) (rest := []) (i := 53) (kd := 2) S hX G (k_X2_record l E h o kp e_h ho hk ho4 hkp hisb) (cwV (bytes := cX2_record) (maxL := 2) (ret := none) 1 S.2.2.2.2 gX8_chop_X2_record rfl rfl rfl (by decide +kernel) ⟨Nat.le_of_ble_eq_true rfl, Nat.le_of_ble_eq_true rfl⟩) (rfl : sh 53 = 2) rfl rfl rfl (by decide) rfl hl.1 rfl (Nat.le_of_ble_eq_true rfl) ⟨Nat.zero_le _, Nat.zero_le _⟩ dX8_chop_27 (fun v I2 L2 H locs hR G => ?_)
  obtain ⟨hv, hRec⟩ := hR
  subst hv
  refine W.eq (g2 := F0 mg 30 ls []) rfl ?_
  refine lv_aload_n S.1 S.2.1 dX8_chop_30 rfl (lv_at hl 0 rfl) ?_
  refine s_get S hX G (i := 0) (kd := 8) (a := (I2 0)) (v := .ref (E.2.2.2 1)) (C := RX8) (T := TX8) (N := 4) 0 (rfl : sh 0 = 8) rfl rfl rfl (by decide) rfl (fun _ h => (List.mem_cons_of_mem _ (List.mem_append_left _ (List.mem_append_left _ (List.mem_append_left _ (List.mem_append_left _ (List.mem_append_left _ (List.mem_append_left _ (List.mem_append_left _ (List.mem_append_right _ h)))))))))) (by decide) (List.mem_of_getElem? (i := 3) rfl) (fun _ h => h) dX8_chop_31 ?_
  refine lv_iload_n S.1 S.2.1 dX8_chop_34 rfl (lv_at hl 1 rfl) ?_
  refine s_callV (C := RX0) (As := [.int (0 : Int32)]) (rest := []) (i := 1) (kd := 0) S hX G (k_X0_loadAt_0 l E 1 (by unfold IsB; decide)) (cwV (bytes := cX0_loadAt) (maxL := 2) (ret := (some (.object "BridgeLegs$Load"))) 1 S.2.2.2.2 gX8_chop_X0_loadAt rfl rfl rfl (by decide +kernel) ⟨Nat.le_of_ble_eq_true rfl, Nat.le_of_ble_eq_true rfl⟩) (rfl : sh 1 = 0) rfl rfl rfl (by decide) rfl hl.1 rfl (Nat.le_of_ble_eq_true rfl) ⟨Nat.zero_le _, Nat.zero_le _⟩ dX8_chop_35 (fun v I1 L1 H locs hR G => ?_)
  obtain ⟨hv, hI, hL⟩ := hR
  subst hv
  have G : GS E I2 L2 sg H locs := G.same hI hL
  refine W.eq (g2 := F0 mg 38 ls [.ref (E.2.2.2 2)]) rfl ?_
  refine lv_iload_n S.1 S.2.1 dX8_chop_38 rfl (lv_at hl 2 rfl) ?_
  refine lv_iconst (v := (1 : Int32)) S.1 S.2.1 dX8_chop_39 (by decide) ?_
  refine lv_icmp_ne (tgt := 47) S.1 S.2.1 dX8_chop_40 (by decide) (fun h => absurd (by decide) h) (fun _ => ?_)
  refine lv_iconst (v := (1 : Int32)) S.1 S.2.1 dX8_chop_43 (by decide) ?_
  refine lv_goto (tgt := 48) S.1 S.2.1 dX8_chop_44 (by decide) ?_
  refine s_callV (C := RX5) (As := [.int (1 : Int32)]) (rest := []) (i := 2) (kd := 5) S hX G (k_X5_turnChopper l E 2 (1 : Int32) b (by unfold IsLd; decide) (Eq.trans (hRec.fr (by decide) (by decide)) e_b) g6 (Or.inr rfl)) (cwV (bytes := cX5_turnChopper) (maxL := 3) (ret := (some .boolean)) 1 S.2.2.2.2 gX8_chop_X5_turnChopper rfl rfl rfl (by decide +kernel) ⟨Nat.le_of_ble_eq_true rfl, Nat.le_of_ble_eq_true rfl⟩) (rfl : sh 2 = 5) rfl rfl rfl (by decide) rfl hl.1 rfl (Nat.le_of_ble_eq_true rfl) ⟨Nat.zero_le _, Nat.zero_le _⟩ dX8_chop_48 (fun v I1 L1 H locs hR G => ?_)
  obtain ⟨hv, hI, hL⟩ := hR
  subst hv
  obtain ⟨r_1, er_1⟩ : ∃ r : Nat → Int32, r = (chopF b (1 : Int32)) := ⟨_, rfl⟩
  rw [← er_1] at hI
  have G : GS E (up I2 2 r_1) L2 sg H locs := G.same hI hL
  refine W.eq (g2 := F0 mg 51 ls [.int (b 6)]) rfl ?_
  refine s_callS (As := [.int (b 6)]) (rest := []) S hX G (k_X8_bit l E (b 6) g6) (va_cwS (bytes := cX8_bit) (maxL := 1) (ret := (some .int)) 1 S.2.2.2.2 gX8_chop_X8_bit rfl rfl rfl (by decide +kernel) ⟨Nat.le_of_ble_eq_true rfl, Nat.le_of_ble_eq_true rfl⟩) rfl hl.1 rfl (Nat.le_of_ble_eq_true rfl) ⟨Nat.zero_le _, Nat.zero_le _⟩ dX8_chop_51 (fun v I1 L1 H locs hR G => ?_)
  obtain ⟨hv, hI, hL⟩ := hR
  subst hv
  have G : GS E (up I2 2 r_1) L2 sg H locs := G.same hI hL
  refine W.eq (g2 := F0 mg 54 ls [.int (b 6)]) rfl ?_
  refine s_iret (x := (b 6)) S G hr hlk dX8_chop_54 ?_
  exact ⟨rfl, I2, L2, hRec, (st_eq1 (Eq.trans up_eq (show r_1 = (chopF b 1) by subst er_1; rfl)) (fun _ g0 => (up_ne g0))), rfl⟩
set_option maxHeartbeats 4000000 in
set_option maxRecDepth 100000 in
theorem k_X8_chop_ok_1_0 (l : Launch) (E : Ev) {I : SI} {L : SL} (h : Nat → Int32) (b : Nat → Int32) (o kp : Nat) (e_h : I (53) = h) (e_b : I (11) = b) (ho : h 1 = nI o) (hk : h 2 = nI kp) (ho4 : o < 4) (hkp : kp ≤ 4) (hisb : IsbB I 1) (g6 : isb (b 6)) : CS l yX8_chop wsX8_chop ({ frames := 5, cells := 0, slots := 0, locals := 102 }) E [.ref (E.2.2.2 0), .int (1 : Int32), .int (0 : Int32)] I L (fun vv I' L' => vv = some (.int (b 6)) ∧ ∃ I1 L1, RecP I L I1 L1 o kp ∧ I' = (up I1 (11) (chopF b 0)) ∧ L' = L1) := by
  refine CS.of (cc := cX8_chop) (maxL := 3) (ret := (some .int)) (by decide) rfl (Nat.le_of_ble_eq_true rfl) ?_
  intro pg en sg mg below meth cg ls S hr hlk hX G hl
  have S : CallFix pg mg cg cX8_chop 3 sg _ wsX8_chop RX8 := S
  have hl : lv_has ls 3 [(0, .ref (E.2.2.2 0)), (1, .int (1 : Int32)), (2, .int (0 : Int32))] := hl
  refine lv_iload_n S.1 S.2.1 dX8_chop_0 rfl (lv_at hl 1 rfl) ?_
  refine s_callS (As := [.int (1 : Int32)]) (rest := []) S hX G (k_X8_isLoad l E (1 : Int32)) (va_cwS (bytes := cX8_isLoad) (maxL := 1) (ret := (some .boolean)) 1 S.2.2.2.2 gX8_chop_X8_isLoad rfl rfl rfl (by decide +kernel) ⟨Nat.le_of_ble_eq_true rfl, Nat.le_of_ble_eq_true rfl⟩) rfl hl.1 rfl (Nat.le_of_ble_eq_true rfl) ⟨Nat.zero_le _, Nat.zero_le _⟩ dX8_chop_1 (fun v I1 L1 H locs hR G => ?_)
  obtain ⟨hv, hI, hL⟩ := hR
  subst hv
  have G : GS E I L sg H locs := G.same hI hL
  refine W.eq (g2 := F0 mg 4 ls [.int (if ¬ (1 : Int32) < (0 : Int32) ∧ ¬ (1 : Int32) < (1 : Int32) then 1 else 0)]) rfl ?_
  refine s_if_eq_b (P := ¬ (1 : Int32) < (0 : Int32) ∧ ¬ (1 : Int32) < (1 : Int32)) (tgt := 16) S dX8_chop_4 (by decide) (fun h => absurd (by decide) h) (fun _ => ?_)
  refine lv_iload_n S.1 S.2.1 dX8_chop_7 rfl (lv_at hl 2 rfl) ?_
  refine lv_iconst (v := (0 : Int32)) S.1 S.2.1 dX8_chop_8 (by decide) ?_
  refine lv_iconst (v := (1 : Int32)) S.1 S.2.1 dX8_chop_9 (by decide) ?_
  refine s_callS (As := [.int (0 : Int32), .int (0 : Int32), .int (1 : Int32)]) (rest := []) S hX G (k_X8_isWithin l E (0 : Int32) (0 : Int32) (1 : Int32)) (va_cwS (bytes := cX8_isWithin) (maxL := 3) (ret := (some .boolean)) 3 S.2.2.2.2 gX8_chop_X8_isWithin rfl rfl rfl (by decide +kernel) ⟨Nat.le_of_ble_eq_true rfl, Nat.le_of_ble_eq_true rfl⟩) rfl hl.1 rfl (Nat.le_of_ble_eq_true rfl) ⟨Nat.zero_le _, Nat.zero_le _⟩ dX8_chop_10 (fun v I1 L1 H locs hR G => ?_)
  obtain ⟨hv, hI, hL⟩ := hR
  subst hv
  have G : GS E I L sg H locs := G.same hI hL
  refine W.eq (g2 := F0 mg 13 ls [.int (if ¬ (0 : Int32) < (0 : Int32) ∧ ¬ (1 : Int32) < (0 : Int32) then 1 else 0)]) rfl ?_
  refine s_if_ne_b (P := ¬ (0 : Int32) < (0 : Int32) ∧ ¬ (1 : Int32) < (0 : Int32)) (tgt := 19) S dX8_chop_13 (by decide) (fun _ => ?_) (fun h => absurd (by decide) h)
  refine lv_aload_n S.1 S.2.1 dX8_chop_19 rfl (lv_at hl 0 rfl) ?_
  refine s_get S hX G (i := 0) (kd := 8) (a := (I 0)) (v := .ref (E.2.2.2 53)) (C := RX8) (T := TX8) (N := 4) 2 (rfl : sh 0 = 8) rfl rfl rfl (by decide) rfl (fun _ h => (List.mem_cons_of_mem _ (List.mem_append_left _ (List.mem_append_left _ (List.mem_append_left _ (List.mem_append_left _ (List.mem_append_left _ (List.mem_append_left _ (List.mem_append_left _ (List.mem_append_right _ h)))))))))) (by decide) (List.mem_of_getElem? (i := 2) rfl) (fun _ h => h) dX8_chop_20 ?_
  refine lv_aload_n S.1 S.2.1 dX8_chop_23 rfl (lv_at hl 0 rfl) ?_
  refine s_get S hX G (i := 0) (kd := 8) (a := (I 0)) (v := .ref (E.2.2.2 1)) (C := RX8) (T := TX8) (N := 4) 0 (rfl : sh 0 = 8) rfl rfl rfl (by decide) rfl (fun _ h => (List.mem_cons_of_mem _ (List.mem_append_left _ (List.mem_append_left _ (List.mem_append_left _ (List.mem_append_left _ (List.mem_append_left _ (List.mem_append_left _ (List.mem_append_left _ (List.mem_append_right _ h)))))))))) (by decide) (List.mem_of_getElem? (i := 3) rfl) (fun _ h => h) dX8_chop_24 ?_
  refine s_callV (C := RX2) (As := [.ref (E.2.2.2 1)]) (rest := []) (i := 53) (kd := 2) S hX G (k_X2_record l E h o kp e_h ho hk ho4 hkp hisb) (cwV (bytes := cX2_record) (maxL := 2) (ret := none) 1 S.2.2.2.2 gX8_chop_X2_record rfl rfl rfl (by decide +kernel) ⟨Nat.le_of_ble_eq_true rfl, Nat.le_of_ble_eq_true rfl⟩) (rfl : sh 53 = 2) rfl rfl rfl (by decide) rfl hl.1 rfl (Nat.le_of_ble_eq_true rfl) ⟨Nat.zero_le _, Nat.zero_le _⟩ dX8_chop_27 (fun v I2 L2 H locs hR G => ?_)
  obtain ⟨hv, hRec⟩ := hR
  subst hv
  refine W.eq (g2 := F0 mg 30 ls []) rfl ?_
  refine lv_aload_n S.1 S.2.1 dX8_chop_30 rfl (lv_at hl 0 rfl) ?_
  refine s_get S hX G (i := 0) (kd := 8) (a := (I2 0)) (v := .ref (E.2.2.2 1)) (C := RX8) (T := TX8) (N := 4) 0 (rfl : sh 0 = 8) rfl rfl rfl (by decide) rfl (fun _ h => (List.mem_cons_of_mem _ (List.mem_append_left _ (List.mem_append_left _ (List.mem_append_left _ (List.mem_append_left _ (List.mem_append_left _ (List.mem_append_left _ (List.mem_append_left _ (List.mem_append_right _ h)))))))))) (by decide) (List.mem_of_getElem? (i := 3) rfl) (fun _ h => h) dX8_chop_31 ?_
  refine lv_iload_n S.1 S.2.1 dX8_chop_34 rfl (lv_at hl 1 rfl) ?_
  refine s_callV (C := RX0) (As := [.int (1 : Int32)]) (rest := []) (i := 1) (kd := 0) S hX G (k_X0_loadAt_1 l E 1 (by unfold IsB; decide)) (cwV (bytes := cX0_loadAt) (maxL := 2) (ret := (some (.object "BridgeLegs$Load"))) 1 S.2.2.2.2 gX8_chop_X0_loadAt rfl rfl rfl (by decide +kernel) ⟨Nat.le_of_ble_eq_true rfl, Nat.le_of_ble_eq_true rfl⟩) (rfl : sh 1 = 0) rfl rfl rfl (by decide) rfl hl.1 rfl (Nat.le_of_ble_eq_true rfl) ⟨Nat.zero_le _, Nat.zero_le _⟩ dX8_chop_35 (fun v I1 L1 H locs hR G => ?_)
  obtain ⟨hv, hI, hL⟩ := hR
  subst hv
  have G : GS E I2 L2 sg H locs := G.same hI hL
  refine W.eq (g2 := F0 mg 38 ls [.ref (E.2.2.2 11)]) rfl ?_
  refine lv_iload_n S.1 S.2.1 dX8_chop_38 rfl (lv_at hl 2 rfl) ?_
  refine lv_iconst (v := (1 : Int32)) S.1 S.2.1 dX8_chop_39 (by decide) ?_
  refine lv_icmp_ne (tgt := 47) S.1 S.2.1 dX8_chop_40 (by decide) (fun _ => ?_) (fun h => absurd h (by decide))
  refine lv_iconst (v := (0 : Int32)) S.1 S.2.1 dX8_chop_47 (by decide) ?_
  refine s_callV (C := RX5) (As := [.int (0 : Int32)]) (rest := []) (i := 11) (kd := 5) S hX G (k_X5_turnChopper l E 11 (0 : Int32) b (by unfold IsLd; decide) (Eq.trans (hRec.fr (by decide) (by decide)) e_b) g6 (Or.inl rfl)) (cwV (bytes := cX5_turnChopper) (maxL := 3) (ret := (some .boolean)) 1 S.2.2.2.2 gX8_chop_X5_turnChopper rfl rfl rfl (by decide +kernel) ⟨Nat.le_of_ble_eq_true rfl, Nat.le_of_ble_eq_true rfl⟩) (rfl : sh 11 = 5) rfl rfl rfl (by decide) rfl hl.1 rfl (Nat.le_of_ble_eq_true rfl) ⟨Nat.zero_le _, Nat.zero_le _⟩ dX8_chop_48 (fun v I1 L1 H locs hR G => ?_)
  obtain ⟨hv, hI, hL⟩ := hR
  subst hv
  obtain ⟨r_1, er_1⟩ : ∃ r : Nat → Int32, r = (chopF b (0 : Int32)) := ⟨_, rfl⟩
  rw [← er_1] at hI
  have G : GS E (up I2 11 r_1) L2 sg H locs := G.same hI hL
  refine W.eq (g2 := F0 mg 51 ls [.int (b 6)]) rfl ?_
  refine s_callS (As := [.int (b 6)]) (rest := []) S hX G (k_X8_bit l E (b 6) g6) (va_cwS (bytes := cX8_bit) (maxL := 1) (ret := (some .int)) 1 S.2.2.2.2 gX8_chop_X8_bit rfl rfl rfl (by decide +kernel) ⟨Nat.le_of_ble_eq_true rfl, Nat.le_of_ble_eq_true rfl⟩) rfl hl.1 rfl (Nat.le_of_ble_eq_true rfl) ⟨Nat.zero_le _, Nat.zero_le _⟩ dX8_chop_51 (fun v I1 L1 H locs hR G => ?_)
  obtain ⟨hv, hI, hL⟩ := hR
  subst hv
  have G : GS E (up I2 11 r_1) L2 sg H locs := G.same hI hL
  refine W.eq (g2 := F0 mg 54 ls [.int (b 6)]) rfl ?_
  refine s_iret (x := (b 6)) S G hr hlk dX8_chop_54 ?_
  exact ⟨rfl, I2, L2, hRec, (st_eq1 (Eq.trans up_eq (show r_1 = (chopF b 0) by subst er_1; rfl)) (fun _ g0 => (up_ne g0))), rfl⟩
set_option maxHeartbeats 4000000 in
set_option maxRecDepth 100000 in
theorem k_X8_chop_ok_1_1 (l : Launch) (E : Ev) {I : SI} {L : SL} (h : Nat → Int32) (b : Nat → Int32) (o kp : Nat) (e_h : I (53) = h) (e_b : I (11) = b) (ho : h 1 = nI o) (hk : h 2 = nI kp) (ho4 : o < 4) (hkp : kp ≤ 4) (hisb : IsbB I 1) (g6 : isb (b 6)) : CS l yX8_chop wsX8_chop ({ frames := 5, cells := 0, slots := 0, locals := 102 }) E [.ref (E.2.2.2 0), .int (1 : Int32), .int (1 : Int32)] I L (fun vv I' L' => vv = some (.int (b 6)) ∧ ∃ I1 L1, RecP I L I1 L1 o kp ∧ I' = (up I1 (11) (chopF b 1)) ∧ L' = L1) := by
  refine CS.of (cc := cX8_chop) (maxL := 3) (ret := (some .int)) (by decide) rfl (Nat.le_of_ble_eq_true rfl) ?_
  intro pg en sg mg below meth cg ls S hr hlk hX G hl
  have S : CallFix pg mg cg cX8_chop 3 sg _ wsX8_chop RX8 := S
  have hl : lv_has ls 3 [(0, .ref (E.2.2.2 0)), (1, .int (1 : Int32)), (2, .int (1 : Int32))] := hl
  refine lv_iload_n S.1 S.2.1 dX8_chop_0 rfl (lv_at hl 1 rfl) ?_
  refine s_callS (As := [.int (1 : Int32)]) (rest := []) S hX G (k_X8_isLoad l E (1 : Int32)) (va_cwS (bytes := cX8_isLoad) (maxL := 1) (ret := (some .boolean)) 1 S.2.2.2.2 gX8_chop_X8_isLoad rfl rfl rfl (by decide +kernel) ⟨Nat.le_of_ble_eq_true rfl, Nat.le_of_ble_eq_true rfl⟩) rfl hl.1 rfl (Nat.le_of_ble_eq_true rfl) ⟨Nat.zero_le _, Nat.zero_le _⟩ dX8_chop_1 (fun v I1 L1 H locs hR G => ?_)
  obtain ⟨hv, hI, hL⟩ := hR
  subst hv
  have G : GS E I L sg H locs := G.same hI hL
  refine W.eq (g2 := F0 mg 4 ls [.int (if ¬ (1 : Int32) < (0 : Int32) ∧ ¬ (1 : Int32) < (1 : Int32) then 1 else 0)]) rfl ?_
  refine s_if_eq_b (P := ¬ (1 : Int32) < (0 : Int32) ∧ ¬ (1 : Int32) < (1 : Int32)) (tgt := 16) S dX8_chop_4 (by decide) (fun h => absurd (by decide) h) (fun _ => ?_)
  refine lv_iload_n S.1 S.2.1 dX8_chop_7 rfl (lv_at hl 2 rfl) ?_
  refine lv_iconst (v := (0 : Int32)) S.1 S.2.1 dX8_chop_8 (by decide) ?_
  refine lv_iconst (v := (1 : Int32)) S.1 S.2.1 dX8_chop_9 (by decide) ?_
  refine s_callS (As := [.int (1 : Int32), .int (0 : Int32), .int (1 : Int32)]) (rest := []) S hX G (k_X8_isWithin l E (1 : Int32) (0 : Int32) (1 : Int32)) (va_cwS (bytes := cX8_isWithin) (maxL := 3) (ret := (some .boolean)) 3 S.2.2.2.2 gX8_chop_X8_isWithin rfl rfl rfl (by decide +kernel) ⟨Nat.le_of_ble_eq_true rfl, Nat.le_of_ble_eq_true rfl⟩) rfl hl.1 rfl (Nat.le_of_ble_eq_true rfl) ⟨Nat.zero_le _, Nat.zero_le _⟩ dX8_chop_10 (fun v I1 L1 H locs hR G => ?_)
  obtain ⟨hv, hI, hL⟩ := hR
  subst hv
  have G : GS E I L sg H locs := G.same hI hL
  refine W.eq (g2 := F0 mg 13 ls [.int (if ¬ (1 : Int32) < (0 : Int32) ∧ ¬ (1 : Int32) < (1 : Int32) then 1 else 0)]) rfl ?_
  refine s_if_ne_b (P := ¬ (1 : Int32) < (0 : Int32) ∧ ¬ (1 : Int32) < (1 : Int32)) (tgt := 19) S dX8_chop_13 (by decide) (fun _ => ?_) (fun h => absurd (by decide) h)
  refine lv_aload_n S.1 S.2.1 dX8_chop_19 rfl (lv_at hl 0 rfl) ?_
  refine s_get S hX G (i := 0) (kd := 8) (a := (I 0)) (v := .ref (E.2.2.2 53)) (C := RX8) (T := TX8) (N := 4) 2 (rfl : sh 0 = 8) rfl rfl rfl (by decide) rfl (fun _ h => (List.mem_cons_of_mem _ (List.mem_append_left _ (List.mem_append_left _ (List.mem_append_left _ (List.mem_append_left _ (List.mem_append_left _ (List.mem_append_left _ (List.mem_append_left _ (List.mem_append_right _ h)))))))))) (by decide) (List.mem_of_getElem? (i := 2) rfl) (fun _ h => h) dX8_chop_20 ?_
  refine lv_aload_n S.1 S.2.1 dX8_chop_23 rfl (lv_at hl 0 rfl) ?_
  refine s_get S hX G (i := 0) (kd := 8) (a := (I 0)) (v := .ref (E.2.2.2 1)) (C := RX8) (T := TX8) (N := 4) 0 (rfl : sh 0 = 8) rfl rfl rfl (by decide) rfl (fun _ h => (List.mem_cons_of_mem _ (List.mem_append_left _ (List.mem_append_left _ (List.mem_append_left _ (List.mem_append_left _ (List.mem_append_left _ (List.mem_append_left _ (List.mem_append_left _ (List.mem_append_right _ h)))))))))) (by decide) (List.mem_of_getElem? (i := 3) rfl) (fun _ h => h) dX8_chop_24 ?_
  refine s_callV (C := RX2) (As := [.ref (E.2.2.2 1)]) (rest := []) (i := 53) (kd := 2) S hX G (k_X2_record l E h o kp e_h ho hk ho4 hkp hisb) (cwV (bytes := cX2_record) (maxL := 2) (ret := none) 1 S.2.2.2.2 gX8_chop_X2_record rfl rfl rfl (by decide +kernel) ⟨Nat.le_of_ble_eq_true rfl, Nat.le_of_ble_eq_true rfl⟩) (rfl : sh 53 = 2) rfl rfl rfl (by decide) rfl hl.1 rfl (Nat.le_of_ble_eq_true rfl) ⟨Nat.zero_le _, Nat.zero_le _⟩ dX8_chop_27 (fun v I2 L2 H locs hR G => ?_)
  obtain ⟨hv, hRec⟩ := hR
  subst hv
  refine W.eq (g2 := F0 mg 30 ls []) rfl ?_
  refine lv_aload_n S.1 S.2.1 dX8_chop_30 rfl (lv_at hl 0 rfl) ?_
  refine s_get S hX G (i := 0) (kd := 8) (a := (I2 0)) (v := .ref (E.2.2.2 1)) (C := RX8) (T := TX8) (N := 4) 0 (rfl : sh 0 = 8) rfl rfl rfl (by decide) rfl (fun _ h => (List.mem_cons_of_mem _ (List.mem_append_left _ (List.mem_append_left _ (List.mem_append_left _ (List.mem_append_left _ (List.mem_append_left _ (List.mem_append_left _ (List.mem_append_left _ (List.mem_append_right _ h)))))))))) (by decide) (List.mem_of_getElem? (i := 3) rfl) (fun _ h => h) dX8_chop_31 ?_
  refine lv_iload_n S.1 S.2.1 dX8_chop_34 rfl (lv_at hl 1 rfl) ?_
  refine s_callV (C := RX0) (As := [.int (1 : Int32)]) (rest := []) (i := 1) (kd := 0) S hX G (k_X0_loadAt_1 l E 1 (by unfold IsB; decide)) (cwV (bytes := cX0_loadAt) (maxL := 2) (ret := (some (.object "BridgeLegs$Load"))) 1 S.2.2.2.2 gX8_chop_X0_loadAt rfl rfl rfl (by decide +kernel) ⟨Nat.le_of_ble_eq_true rfl, Nat.le_of_ble_eq_true rfl⟩) (rfl : sh 1 = 0) rfl rfl rfl (by decide) rfl hl.1 rfl (Nat.le_of_ble_eq_true rfl) ⟨Nat.zero_le _, Nat.zero_le _⟩ dX8_chop_35 (fun v I1 L1 H locs hR G => ?_)
  obtain ⟨hv, hI, hL⟩ := hR
  subst hv
  have G : GS E I2 L2 sg H locs := G.same hI hL
  refine W.eq (g2 := F0 mg 38 ls [.ref (E.2.2.2 11)]) rfl ?_
  refine lv_iload_n S.1 S.2.1 dX8_chop_38 rfl (lv_at hl 2 rfl) ?_
  refine lv_iconst (v := (1 : Int32)) S.1 S.2.1 dX8_chop_39 (by decide) ?_
  refine lv_icmp_ne (tgt := 47) S.1 S.2.1 dX8_chop_40 (by decide) (fun h => absurd (by decide) h) (fun _ => ?_)
  refine lv_iconst (v := (1 : Int32)) S.1 S.2.1 dX8_chop_43 (by decide) ?_
  refine lv_goto (tgt := 48) S.1 S.2.1 dX8_chop_44 (by decide) ?_
  refine s_callV (C := RX5) (As := [.int (1 : Int32)]) (rest := []) (i := 11) (kd := 5) S hX G (k_X5_turnChopper l E 11 (1 : Int32) b (by unfold IsLd; decide) (Eq.trans (hRec.fr (by decide) (by decide)) e_b) g6 (Or.inr rfl)) (cwV (bytes := cX5_turnChopper) (maxL := 3) (ret := (some .boolean)) 1 S.2.2.2.2 gX8_chop_X5_turnChopper rfl rfl rfl (by decide +kernel) ⟨Nat.le_of_ble_eq_true rfl, Nat.le_of_ble_eq_true rfl⟩) (rfl : sh 11 = 5) rfl rfl rfl (by decide) rfl hl.1 rfl (Nat.le_of_ble_eq_true rfl) ⟨Nat.zero_le _, Nat.zero_le _⟩ dX8_chop_48 (fun v I1 L1 H locs hR G => ?_)
  obtain ⟨hv, hI, hL⟩ := hR
  subst hv
  obtain ⟨r_1, er_1⟩ : ∃ r : Nat → Int32, r = (chopF b (1 : Int32)) := ⟨_, rfl⟩
  rw [← er_1] at hI
  have G : GS E (up I2 11 r_1) L2 sg H locs := G.same hI hL
  refine W.eq (g2 := F0 mg 51 ls [.int (b 6)]) rfl ?_
  refine s_callS (As := [.int (b 6)]) (rest := []) S hX G (k_X8_bit l E (b 6) g6) (va_cwS (bytes := cX8_bit) (maxL := 1) (ret := (some .int)) 1 S.2.2.2.2 gX8_chop_X8_bit rfl rfl rfl (by decide +kernel) ⟨Nat.le_of_ble_eq_true rfl, Nat.le_of_ble_eq_true rfl⟩) rfl hl.1 rfl (Nat.le_of_ble_eq_true rfl) ⟨Nat.zero_le _, Nat.zero_le _⟩ dX8_chop_51 (fun v I1 L1 H locs hR G => ?_)
  obtain ⟨hv, hI, hL⟩ := hR
  subst hv
  have G : GS E (up I2 11 r_1) L2 sg H locs := G.same hI hL
  refine W.eq (g2 := F0 mg 54 ls [.int (b 6)]) rfl ?_
  refine s_iret (x := (b 6)) S G hr hlk dX8_chop_54 ?_
  exact ⟨rfl, I2, L2, hRec, (st_eq1 (Eq.trans up_eq (show r_1 = (chopF b 1) by subst er_1; rfl)) (fun _ g0 => (up_ne g0))), rfl⟩
set_option maxHeartbeats 4000000 in
set_option maxRecDepth 100000 in
theorem k_X8_chop_no (l : Launch) (E : Ev) {I : SI} {L : SL} (load : Int32) (on : Int32) (ht : ¬ (IN1 load ∧ IN1 on)) : CS l yX8_chop wsX8_chop ({ frames := 2, cells := 0, slots := 0, locals := 42 }) E [.ref (E.2.2.2 0), .int load, .int on] I L (fun vv I' L' => vv = some (.int (-2000000001 : Int32)) ∧ I' = I ∧ L' = L) := by
  refine CS.of (cc := cX8_chop) (maxL := 3) (ret := (some .int)) (by decide) rfl (Nat.le_of_ble_eq_true rfl) ?_
  intro pg en sg mg below meth cg ls S hr hlk hX G hl
  have S : CallFix pg mg cg cX8_chop 3 sg _ wsX8_chop RX8 := S
  have hl : lv_has ls 3 [(0, .ref (E.2.2.2 0)), (1, .int load), (2, .int on)] := hl
  refine lv_iload_n S.1 S.2.1 dX8_chop_0 rfl (lv_at hl 1 rfl) ?_
  refine s_callS (As := [.int load]) (rest := []) S hX G (k_X8_isLoad l E load) (va_cwS (bytes := cX8_isLoad) (maxL := 1) (ret := (some .boolean)) 1 S.2.2.2.2 gX8_chop_X8_isLoad rfl rfl rfl (by decide +kernel) ⟨Nat.le_of_ble_eq_true rfl, Nat.le_of_ble_eq_true rfl⟩) rfl hl.1 rfl (Nat.le_of_ble_eq_true rfl) ⟨Nat.zero_le _, Nat.zero_le _⟩ dX8_chop_1 (fun v I1 L1 H locs hR G => ?_)
  obtain ⟨hv, hI, hL⟩ := hR
  subst hv
  have G : GS E I L sg H locs := G.same hI hL
  refine W.eq (g2 := F0 mg 4 ls [.int (if ¬ load < (0 : Int32) ∧ ¬ (1 : Int32) < load then 1 else 0)]) rfl ?_
  refine s_if_eq_b (P := ¬ load < (0 : Int32) ∧ ¬ (1 : Int32) < load) (tgt := 16) S dX8_chop_4 (by decide) (fun c_1 => ?_) (fun c_1 => ?_)
  · refine lv_ldc (v := (-2000000001 : Int32)) S.1 S.2.1 S.2.2.2.1 (S.2.2.2.2 _ (List.mem_of_getElem? (i := 1) rfl)) dX8_chop_16 ?_
    refine s_iret (x := (-2000000001 : Int32)) S G hr hlk dX8_chop_18 ?_
    exact ⟨rfl, rfl, rfl⟩
  · refine lv_iload_n S.1 S.2.1 dX8_chop_7 rfl (lv_at hl 2 rfl) ?_
    refine lv_iconst (v := (0 : Int32)) S.1 S.2.1 dX8_chop_8 (by decide) ?_
    refine lv_iconst (v := (1 : Int32)) S.1 S.2.1 dX8_chop_9 (by decide) ?_
    refine s_callS (As := [.int on, .int (0 : Int32), .int (1 : Int32)]) (rest := []) S hX G (k_X8_isWithin l E on (0 : Int32) (1 : Int32)) (va_cwS (bytes := cX8_isWithin) (maxL := 3) (ret := (some .boolean)) 3 S.2.2.2.2 gX8_chop_X8_isWithin rfl rfl rfl (by decide +kernel) ⟨Nat.le_of_ble_eq_true rfl, Nat.le_of_ble_eq_true rfl⟩) rfl hl.1 rfl (Nat.le_of_ble_eq_true rfl) ⟨Nat.zero_le _, Nat.zero_le _⟩ dX8_chop_10 (fun v I1 L1 H locs hR G => ?_)
    obtain ⟨hv, hI, hL⟩ := hR
    subst hv
    have G : GS E I L sg H locs := G.same hI hL
    refine W.eq (g2 := F0 mg 13 ls [.int (if ¬ on < (0 : Int32) ∧ ¬ (1 : Int32) < on then 1 else 0)]) rfl ?_
    refine s_if_ne_b (P := ¬ on < (0 : Int32) ∧ ¬ (1 : Int32) < on) (tgt := 19) S dX8_chop_13 (by decide) (fun c_2 => ?_) (fun c_2 => ?_)
    · exact absurd (And.intro c_1 c_2) ht
    · refine lv_ldc (v := (-2000000001 : Int32)) S.1 S.2.1 S.2.2.2.1 (S.2.2.2.2 _ (List.mem_of_getElem? (i := 1) rfl)) dX8_chop_16 ?_
      refine s_iret (x := (-2000000001 : Int32)) S G hr hlk dX8_chop_18 ?_
      exact ⟨rfl, rfl, rfl⟩
set_option maxHeartbeats 4000000 in
set_option maxRecDepth 100000 in
theorem k_X8_clear_ok_0_0 (l : Launch) (E : Ev) {I : SI} {L : SL} (h : Nat → Int32) (b : Nat → Int32) (n : Nat → Int32) (t : Nat → Int32) (u : Nat → Int32) (sv : Nat → Int32) (o kp : Nat) (e_h : I (53) = h) (e_b : I (2) = b) (e_n : I (7) = n) (e_t : I (8) = t) (e_u : I (9) = u) (e_sv : I (21) = sv) (ho : h 1 = nI o) (hk : h 2 = nI kp) (ho4 : o < 4) (hkp : kp ≤ 4) (hisb : IsbB I 1) (ht : ¬ t 0 = 0 ∧ plcF t u 0 = 0 ∧ ¬ sv 2 ≤ absI (b 4)) : CS l yX8_clear wsX8_clear ({ frames := 5, cells := 0, slots := 0, locals := 110 }) E [.ref (E.2.2.2 0), .int (0 : Int32), .int (0 : Int32)] I L (fun vv I' L' => vv = some (.int (n 3 - 1)) ∧ ∃ I1 L1, RecP I L I1 L1 o kp ∧ I' = (up (up I1 (7) (upd n 3 (n 3 - 1))) (8) (upd t 0 0)) ∧ L' = L1) := by
  refine CS.of (cc := cX8_clear) (maxL := 4) (ret := (some .int)) (by decide) rfl (Nat.le_of_ble_eq_true rfl) ?_
  intro pg en sg mg below meth cg ls S hr hlk hX G hl
  have S : CallFix pg mg cg cX8_clear 4 sg _ wsX8_clear RX8 := S
  have hl : lv_has ls 4 [(0, .ref (E.2.2.2 0)), (1, .int (0 : Int32)), (2, .int (0 : Int32))] := hl
  refine lv_iload_n S.1 S.2.1 dX8_clear_0 rfl (lv_at hl 1 rfl) ?_
  refine s_callS (As := [.int (0 : Int32)]) (rest := []) S hX G (k_X8_isLoad l E (0 : Int32)) (va_cwS (bytes := cX8_isLoad) (maxL := 1) (ret := (some .boolean)) 1 S.2.2.2.2 gX8_clear_X8_isLoad rfl rfl rfl (by decide +kernel) ⟨Nat.le_of_ble_eq_true rfl, Nat.le_of_ble_eq_true rfl⟩) rfl hl.1 rfl (Nat.le_of_ble_eq_true rfl) ⟨Nat.zero_le _, Nat.zero_le _⟩ dX8_clear_1 (fun v I1 L1 H locs hR G => ?_)
  obtain ⟨hv, hI, hL⟩ := hR
  subst hv
  have G : GS E I L sg H locs := G.same hI hL
  refine W.eq (g2 := F0 mg 4 ls [.int (if ¬ (0 : Int32) < (0 : Int32) ∧ ¬ (1 : Int32) < (0 : Int32) then 1 else 0)]) rfl ?_
  refine s_if_eq_b (P := ¬ (0 : Int32) < (0 : Int32) ∧ ¬ (1 : Int32) < (0 : Int32)) (tgt := 14) S dX8_clear_4 (by decide) (fun h => absurd (by decide) h) (fun _ => ?_)
  refine lv_iload_n S.1 S.2.1 dX8_clear_7 rfl (lv_at hl 2 rfl) ?_
  refine s_callS (As := [.int (0 : Int32)]) (rest := []) S hX G (k_X8_isFault l E (0 : Int32)) (va_cwS (bytes := cX8_isFault) (maxL := 1) (ret := (some .boolean)) 1 S.2.2.2.2 gX8_clear_X8_isFault rfl rfl rfl (by decide +kernel) ⟨Nat.le_of_ble_eq_true rfl, Nat.le_of_ble_eq_true rfl⟩) rfl hl.1 rfl (Nat.le_of_ble_eq_true rfl) ⟨Nat.zero_le _, Nat.zero_le _⟩ dX8_clear_8 (fun v I1 L1 H locs hR G => ?_)
  obtain ⟨hv, hI, hL⟩ := hR
  subst hv
  have G : GS E I L sg H locs := G.same hI hL
  refine W.eq (g2 := F0 mg 11 ls [.int (if ¬ (0 : Int32) < (0 : Int32) ∧ ¬ (2 : Int32) < (0 : Int32) then 1 else 0)]) rfl ?_
  refine s_if_ne_b (P := ¬ (0 : Int32) < (0 : Int32) ∧ ¬ (2 : Int32) < (0 : Int32)) (tgt := 17) S dX8_clear_11 (by decide) (fun _ => ?_) (fun h => absurd (by decide) h)
  refine lv_aload_n S.1 S.2.1 dX8_clear_17 rfl (lv_at hl 0 rfl) ?_
  refine s_get S hX G (i := 0) (kd := 8) (a := (I 0)) (v := .ref (E.2.2.2 1)) (C := RX8) (T := TX8) (N := 4) 0 (rfl : sh 0 = 8) rfl rfl rfl (by decide) rfl (fun _ h => (List.mem_cons_of_mem _ (List.mem_append_left _ (List.mem_append_left _ (List.mem_append_left _ (List.mem_append_left _ (List.mem_append_left _ (List.mem_append_left _ (List.mem_append_left _ (List.mem_append_right _ h)))))))))) (by decide) (List.mem_of_getElem? (i := 2) rfl) (fun _ h => h) dX8_clear_18 ?_
  refine lv_iload_n S.1 S.2.1 dX8_clear_21 rfl (lv_at hl 1 rfl) ?_
  refine s_callV (C := RX0) (As := [.int (0 : Int32)]) (rest := []) (i := 1) (kd := 0) S hX G (k_X0_loadAt_0 l E 1 (by unfold IsB; decide)) (cwV (bytes := cX0_loadAt) (maxL := 2) (ret := (some (.object "BridgeLegs$Load"))) 1 S.2.2.2.2 gX8_clear_X0_loadAt rfl rfl rfl (by decide +kernel) ⟨Nat.le_of_ble_eq_true rfl, Nat.le_of_ble_eq_true rfl⟩) (rfl : sh 1 = 0) rfl rfl rfl (by decide) rfl hl.1 rfl (Nat.le_of_ble_eq_true rfl) ⟨Nat.zero_le _, Nat.zero_le _⟩ dX8_clear_22 (fun v I1 L1 H locs hR G => ?_)
  obtain ⟨hv, hI, hL⟩ := hR
  subst hv
  have G : GS E I L sg H locs := G.same hI hL
  refine W.eq (g2 := F0 mg 25 ls [.ref (E.2.2.2 2)]) rfl ?_
  refine lv_astore_n (lv' := [(3, .ref (E.2.2.2 2)), (0, .ref (E.2.2.2 0)), (1, .int (0 : Int32)), (2, .int (0 : Int32))]) S.1 S.2.1 dX8_clear_25 rfl hl (by decide) rfl (fun ls hl => ?_)
  refine lv_aload_n S.1 S.2.1 dX8_clear_26 rfl (lv_at hl 0 rfl) ?_
  refine lv_iload_n S.1 S.2.1 dX8_clear_27 rfl (lv_at hl 3 rfl) ?_
  refine lv_aload_n S.1 S.2.1 dX8_clear_28 rfl (lv_at hl 1 rfl) ?_
  refine s_get S hX G (i := 0) (kd := 8) (a := (I 0)) (v := .ref (E.2.2.2 1)) (C := RX8) (T := TX8) (N := 4) 0 (rfl : sh 0 = 8) rfl rfl rfl (by decide) rfl (fun _ h => (List.mem_cons_of_mem _ (List.mem_append_left _ (List.mem_append_left _ (List.mem_append_left _ (List.mem_append_left _ (List.mem_append_left _ (List.mem_append_left _ (List.mem_append_left _ (List.mem_append_right _ h)))))))))) (by decide) (List.mem_of_getElem? (i := 2) rfl) (fun _ h => h) dX8_clear_29 ?_
  refine s_getN S hX G (i := 1) (kd := 0) (a := (I 1)) (v := .ref (E.2.2.2 20)) (C := RX0) (T := TX0) (N := 5) 2 (rfl : sh 1 = 0) rfl rfl rfl (by decide) rfl (fun _ h => (List.mem_cons_of_mem _ (List.mem_append_left _ (List.mem_append_left _ (List.mem_append_left _ (List.mem_append_left _ (List.mem_append_left _ (List.mem_append_left _ (List.mem_append_right _ h))))))))) (by decide) (List.mem_of_getElem? (i := 33) rfl) (fun _ h => h) dX8_clear_32 ?_
  refine s_callV (C := RX5) (As := [.int (0 : Int32), .ref (E.2.2.2 20)]) (rest := []) (i := 2) (kd := 5) S hX G (k_X5_isClearable_0 l E 2 20 b t u sv (by unfold IsLd; decide) (rfl : sh 20 = 1) (rfl : sh 21 = 20) e_b e_t e_u e_sv) (cwV (bytes := cX5_isClearable) (maxL := 3) (ret := (some .boolean)) 2 S.2.2.2.2 gX8_clear_X5_isClearable rfl rfl rfl (by decide +kernel) ⟨Nat.le_of_ble_eq_true rfl, Nat.le_of_ble_eq_true rfl⟩) (rfl : sh 2 = 5) rfl rfl rfl (by decide) rfl hl.1 rfl (Nat.le_of_ble_eq_true rfl) ⟨Nat.zero_le _, Nat.zero_le _⟩ dX8_clear_35 (fun v I1 L1 H locs hR G => ?_)
  obtain ⟨hv, hI, hL⟩ := hR
  subst hv
  have G : GS E I L sg H locs := G.same hI hL
  refine W.eq (g2 := F0 mg 38 ls [.int (if ¬ t 0 = 0 ∧ plcF t u 0 = 0 ∧ ¬ sv 2 ≤ absI (b 4) then 1 else 0)]) rfl ?_
  refine s_if_ne_b (P := ¬ t 0 = 0 ∧ plcF t u 0 = 0 ∧ ¬ sv 2 ≤ absI (b 4)) (tgt := 44) S dX8_clear_38 (by decide) (fun _ => ?_) (fun h => absurd ht h)
  refine lv_aload_n S.1 S.2.1 dX8_clear_44 rfl (lv_at hl 1 rfl) ?_
  refine s_get S hX G (i := 0) (kd := 8) (a := (I 0)) (v := .ref (E.2.2.2 53)) (C := RX8) (T := TX8) (N := 4) 2 (rfl : sh 0 = 8) rfl rfl rfl (by decide) rfl (fun _ h => (List.mem_cons_of_mem _ (List.mem_append_left _ (List.mem_append_left _ (List.mem_append_left _ (List.mem_append_left _ (List.mem_append_left _ (List.mem_append_left _ (List.mem_append_left _ (List.mem_append_right _ h)))))))))) (by decide) (List.mem_of_getElem? (i := 4) rfl) (fun _ h => h) dX8_clear_45 ?_
  refine lv_aload_n S.1 S.2.1 dX8_clear_48 rfl (lv_at hl 1 rfl) ?_
  refine s_get S hX G (i := 0) (kd := 8) (a := (I 0)) (v := .ref (E.2.2.2 1)) (C := RX8) (T := TX8) (N := 4) 0 (rfl : sh 0 = 8) rfl rfl rfl (by decide) rfl (fun _ h => (List.mem_cons_of_mem _ (List.mem_append_left _ (List.mem_append_left _ (List.mem_append_left _ (List.mem_append_left _ (List.mem_append_left _ (List.mem_append_left _ (List.mem_append_left _ (List.mem_append_right _ h)))))))))) (by decide) (List.mem_of_getElem? (i := 2) rfl) (fun _ h => h) dX8_clear_49 ?_
  refine s_callV (C := RX2) (As := [.ref (E.2.2.2 1)]) (rest := []) (i := 53) (kd := 2) S hX G (k_X2_record l E h o kp e_h ho hk ho4 hkp hisb) (cwV (bytes := cX2_record) (maxL := 2) (ret := none) 1 S.2.2.2.2 gX8_clear_X2_record rfl rfl rfl (by decide +kernel) ⟨Nat.le_of_ble_eq_true rfl, Nat.le_of_ble_eq_true rfl⟩) (rfl : sh 53 = 2) rfl rfl rfl (by decide) rfl hl.1 rfl (Nat.le_of_ble_eq_true rfl) ⟨Nat.zero_le _, Nat.zero_le _⟩ dX8_clear_52 (fun v I2 L2 H locs hR G => ?_)
  obtain ⟨hv, hRec⟩ := hR
  subst hv
  refine W.eq (g2 := F0 mg 55 ls []) rfl ?_
  refine lv_aload_n S.1 S.2.1 dX8_clear_55 rfl (lv_at hl 0 rfl) ?_
  refine s_getN S hX G (i := 2) (kd := 5) (a := b) (v := .ref (E.2.2.2 7)) (C := RX5) (T := TX5) (N := 13) 3 (rfl : sh 2 = 5) (Eq.trans (hRec.fr (by decide) (by decide)) e_b) rfl rfl (by decide) rfl (fun _ h => (List.mem_cons_of_mem _ (List.mem_append_left _ (List.mem_append_left _ (List.mem_append_left _ (List.mem_append_left _ (List.mem_append_left _ (List.mem_append_right _ h)))))))) (by decide) (List.mem_of_getElem? (i := 19) rfl) (fun _ h => h) dX8_clear_56 ?_
  refine lv_iload_n S.1 S.2.1 dX8_clear_59 rfl (lv_at hl 3 rfl) ?_
  refine s_callV (C := RX3) (As := [.int (0 : Int32)]) (rest := []) (i := 7) (kd := 3) S hX G (k_X3_release_0 l E 7 n t (rfl : sh 7 = 3) (rfl : sh 8 = 10) (rfl : sh 9 = 17) (rfl : sh 10 = 17) (Eq.trans (hRec.fr (by decide) (by decide)) e_n) (Eq.trans (hRec.fr (by decide) (by decide)) e_t)) (cwV (bytes := cX3_release) (maxL := 2) (ret := none) 1 S.2.2.2.2 gX8_clear_X3_release rfl rfl rfl (by decide +kernel) ⟨Nat.le_of_ble_eq_true rfl, Nat.le_of_ble_eq_true rfl⟩) (rfl : sh 7 = 3) rfl rfl rfl (by decide) rfl hl.1 rfl (Nat.le_of_ble_eq_true rfl) ⟨Nat.zero_le _, Nat.zero_le _⟩ dX8_clear_60 (fun v I1 L1 H locs hR G => ?_)
  obtain ⟨hv, hI, hL⟩ := hR
  subst hv
  obtain ⟨r_1, er_1⟩ : ∃ r : Nat → Int32, r = (if ¬ t 0 = 0 then upd n 3 (n 3 - 1) else n) := ⟨_, rfl⟩
  rw [← er_1] at hI
  obtain ⟨r_2, er_2⟩ : ∃ r : Nat → Int32, r = (if ¬ t 0 = 0 then upd t 0 0 else t) := ⟨_, rfl⟩
  rw [← er_2] at hI
  have G : GS E (up (up I2 7 r_1) 8 r_2) L2 sg H locs := G.same hI hL
  refine W.eq (g2 := F0 mg 63 ls []) rfl ?_
  refine lv_aload_n S.1 S.2.1 dX8_clear_63 rfl (lv_at hl 0 rfl) ?_
  refine s_getN S hX G (i := 2) (kd := 5) (a := b) (v := .ref (E.2.2.2 7)) (C := RX5) (T := TX5) (N := 13) 3 (rfl : sh 2 = 5) ((up_ne (by decide)).trans ((up_ne (by decide)).trans (Eq.trans (hRec.fr (by decide) (by decide)) e_b))) rfl rfl (by decide) rfl (fun _ h => (List.mem_cons_of_mem _ (List.mem_append_left _ (List.mem_append_left _ (List.mem_append_left _ (List.mem_append_left _ (List.mem_append_left _ (List.mem_append_right _ h)))))))) (by decide) (List.mem_of_getElem? (i := 19) rfl) (fun _ h => h) dX8_clear_64 ?_
  refine s_getN S hX G (i := 7) (kd := 3) (a := r_1) (v := .int (r_1 3)) (C := RX3) (T := TX3) (N := 4) 3 (rfl : sh 7 = 3) ((up_ne (by decide)).trans up_eq) rfl rfl (by decide) rfl (fun _ h => (List.mem_cons_of_mem _ (List.mem_append_left _ (List.mem_append_left _ (List.mem_append_left _ (List.mem_append_left _ (List.mem_append_right _ h))))))) (by decide) (List.mem_of_getElem? (i := 13) rfl) (fun _ h => h) dX8_clear_67 ?_
  refine s_iret (x := (r_1 3)) S G hr hlk dX8_clear_70 ?_
  exact ⟨(congrArg (fun q : Int32 => some (Value.int q)) (show (r_1 3) = (n 3 - 1) by subst er_2 er_1; rw [if_pos ht.1]; rfl)), I2, L2, hRec, (st_eq2 (Eq.trans ((up_ne (by decide)).trans up_eq) (show r_1 = (upd n 3 (n 3 - 1)) by subst er_2 er_1; rw [if_pos ht.1])) (Eq.trans up_eq (show r_2 = (upd t 0 0) by subst er_2 er_1; rw [if_pos ht.1])) (fun _ g0 g1 => ((up_ne g1).trans (up_ne g0)))), rfl⟩
set_option maxHeartbeats 4000000 in
set_option maxRecDepth 100000 in
theorem k_X8_clear_np_0_0 (l : Launch) (E : Ev) {I : SI} {L : SL} (b : Nat → Int32) (n : Nat → Int32) (t : Nat → Int32) (u : Nat → Int32) (sv : Nat → Int32) (e_b : I (2) = b) (e_n : I (7) = n) (e_t : I (8) = t) (e_u : I (9) = u) (e_sv : I (21) = sv) (ht : ¬ (¬ t 0 = 0 ∧ plcF t u 0 = 0 ∧ ¬ sv 2 ≤ absI (b 4))) : CS l yX8_clear wsX8_clear ({ frames := 5, cells := 0, slots := 0, locals := 110 }) E [.ref (E.2.2.2 0), .int (0 : Int32), .int (0 : Int32)] I L (fun vv I' L' => vv = some (.int (-2000000002 : Int32)) ∧ I' = I ∧ L' = L) := by
  refine CS.of (cc := cX8_clear) (maxL := 4) (ret := (some .int)) (by decide) rfl (Nat.le_of_ble_eq_true rfl) ?_
  intro pg en sg mg below meth cg ls S hr hlk hX G hl
  have S : CallFix pg mg cg cX8_clear 4 sg _ wsX8_clear RX8 := S
  have hl : lv_has ls 4 [(0, .ref (E.2.2.2 0)), (1, .int (0 : Int32)), (2, .int (0 : Int32))] := hl
  refine lv_iload_n S.1 S.2.1 dX8_clear_0 rfl (lv_at hl 1 rfl) ?_
  refine s_callS (As := [.int (0 : Int32)]) (rest := []) S hX G (k_X8_isLoad l E (0 : Int32)) (va_cwS (bytes := cX8_isLoad) (maxL := 1) (ret := (some .boolean)) 1 S.2.2.2.2 gX8_clear_X8_isLoad rfl rfl rfl (by decide +kernel) ⟨Nat.le_of_ble_eq_true rfl, Nat.le_of_ble_eq_true rfl⟩) rfl hl.1 rfl (Nat.le_of_ble_eq_true rfl) ⟨Nat.zero_le _, Nat.zero_le _⟩ dX8_clear_1 (fun v I1 L1 H locs hR G => ?_)
  obtain ⟨hv, hI, hL⟩ := hR
  subst hv
  have G : GS E I L sg H locs := G.same hI hL
  refine W.eq (g2 := F0 mg 4 ls [.int (if ¬ (0 : Int32) < (0 : Int32) ∧ ¬ (1 : Int32) < (0 : Int32) then 1 else 0)]) rfl ?_
  refine s_if_eq_b (P := ¬ (0 : Int32) < (0 : Int32) ∧ ¬ (1 : Int32) < (0 : Int32)) (tgt := 14) S dX8_clear_4 (by decide) (fun h => absurd (by decide) h) (fun _ => ?_)
  refine lv_iload_n S.1 S.2.1 dX8_clear_7 rfl (lv_at hl 2 rfl) ?_
  refine s_callS (As := [.int (0 : Int32)]) (rest := []) S hX G (k_X8_isFault l E (0 : Int32)) (va_cwS (bytes := cX8_isFault) (maxL := 1) (ret := (some .boolean)) 1 S.2.2.2.2 gX8_clear_X8_isFault rfl rfl rfl (by decide +kernel) ⟨Nat.le_of_ble_eq_true rfl, Nat.le_of_ble_eq_true rfl⟩) rfl hl.1 rfl (Nat.le_of_ble_eq_true rfl) ⟨Nat.zero_le _, Nat.zero_le _⟩ dX8_clear_8 (fun v I1 L1 H locs hR G => ?_)
  obtain ⟨hv, hI, hL⟩ := hR
  subst hv
  have G : GS E I L sg H locs := G.same hI hL
  refine W.eq (g2 := F0 mg 11 ls [.int (if ¬ (0 : Int32) < (0 : Int32) ∧ ¬ (2 : Int32) < (0 : Int32) then 1 else 0)]) rfl ?_
  refine s_if_ne_b (P := ¬ (0 : Int32) < (0 : Int32) ∧ ¬ (2 : Int32) < (0 : Int32)) (tgt := 17) S dX8_clear_11 (by decide) (fun _ => ?_) (fun h => absurd (by decide) h)
  refine lv_aload_n S.1 S.2.1 dX8_clear_17 rfl (lv_at hl 0 rfl) ?_
  refine s_get S hX G (i := 0) (kd := 8) (a := (I 0)) (v := .ref (E.2.2.2 1)) (C := RX8) (T := TX8) (N := 4) 0 (rfl : sh 0 = 8) rfl rfl rfl (by decide) rfl (fun _ h => (List.mem_cons_of_mem _ (List.mem_append_left _ (List.mem_append_left _ (List.mem_append_left _ (List.mem_append_left _ (List.mem_append_left _ (List.mem_append_left _ (List.mem_append_left _ (List.mem_append_right _ h)))))))))) (by decide) (List.mem_of_getElem? (i := 2) rfl) (fun _ h => h) dX8_clear_18 ?_
  refine lv_iload_n S.1 S.2.1 dX8_clear_21 rfl (lv_at hl 1 rfl) ?_
  refine s_callV (C := RX0) (As := [.int (0 : Int32)]) (rest := []) (i := 1) (kd := 0) S hX G (k_X0_loadAt_0 l E 1 (by unfold IsB; decide)) (cwV (bytes := cX0_loadAt) (maxL := 2) (ret := (some (.object "BridgeLegs$Load"))) 1 S.2.2.2.2 gX8_clear_X0_loadAt rfl rfl rfl (by decide +kernel) ⟨Nat.le_of_ble_eq_true rfl, Nat.le_of_ble_eq_true rfl⟩) (rfl : sh 1 = 0) rfl rfl rfl (by decide) rfl hl.1 rfl (Nat.le_of_ble_eq_true rfl) ⟨Nat.zero_le _, Nat.zero_le _⟩ dX8_clear_22 (fun v I1 L1 H locs hR G => ?_)
  obtain ⟨hv, hI, hL⟩ := hR
  subst hv
  have G : GS E I L sg H locs := G.same hI hL
  refine W.eq (g2 := F0 mg 25 ls [.ref (E.2.2.2 2)]) rfl ?_
  refine lv_astore_n (lv' := [(3, .ref (E.2.2.2 2)), (0, .ref (E.2.2.2 0)), (1, .int (0 : Int32)), (2, .int (0 : Int32))]) S.1 S.2.1 dX8_clear_25 rfl hl (by decide) rfl (fun ls hl => ?_)
  refine lv_aload_n S.1 S.2.1 dX8_clear_26 rfl (lv_at hl 0 rfl) ?_
  refine lv_iload_n S.1 S.2.1 dX8_clear_27 rfl (lv_at hl 3 rfl) ?_
  refine lv_aload_n S.1 S.2.1 dX8_clear_28 rfl (lv_at hl 1 rfl) ?_
  refine s_get S hX G (i := 0) (kd := 8) (a := (I 0)) (v := .ref (E.2.2.2 1)) (C := RX8) (T := TX8) (N := 4) 0 (rfl : sh 0 = 8) rfl rfl rfl (by decide) rfl (fun _ h => (List.mem_cons_of_mem _ (List.mem_append_left _ (List.mem_append_left _ (List.mem_append_left _ (List.mem_append_left _ (List.mem_append_left _ (List.mem_append_left _ (List.mem_append_left _ (List.mem_append_right _ h)))))))))) (by decide) (List.mem_of_getElem? (i := 2) rfl) (fun _ h => h) dX8_clear_29 ?_
  refine s_getN S hX G (i := 1) (kd := 0) (a := (I 1)) (v := .ref (E.2.2.2 20)) (C := RX0) (T := TX0) (N := 5) 2 (rfl : sh 1 = 0) rfl rfl rfl (by decide) rfl (fun _ h => (List.mem_cons_of_mem _ (List.mem_append_left _ (List.mem_append_left _ (List.mem_append_left _ (List.mem_append_left _ (List.mem_append_left _ (List.mem_append_left _ (List.mem_append_right _ h))))))))) (by decide) (List.mem_of_getElem? (i := 33) rfl) (fun _ h => h) dX8_clear_32 ?_
  refine s_callV (C := RX5) (As := [.int (0 : Int32), .ref (E.2.2.2 20)]) (rest := []) (i := 2) (kd := 5) S hX G (k_X5_isClearable_0 l E 2 20 b t u sv (by unfold IsLd; decide) (rfl : sh 20 = 1) (rfl : sh 21 = 20) e_b e_t e_u e_sv) (cwV (bytes := cX5_isClearable) (maxL := 3) (ret := (some .boolean)) 2 S.2.2.2.2 gX8_clear_X5_isClearable rfl rfl rfl (by decide +kernel) ⟨Nat.le_of_ble_eq_true rfl, Nat.le_of_ble_eq_true rfl⟩) (rfl : sh 2 = 5) rfl rfl rfl (by decide) rfl hl.1 rfl (Nat.le_of_ble_eq_true rfl) ⟨Nat.zero_le _, Nat.zero_le _⟩ dX8_clear_35 (fun v I1 L1 H locs hR G => ?_)
  obtain ⟨hv, hI, hL⟩ := hR
  subst hv
  have G : GS E I L sg H locs := G.same hI hL
  refine W.eq (g2 := F0 mg 38 ls [.int (if ¬ t 0 = 0 ∧ plcF t u 0 = 0 ∧ ¬ sv 2 ≤ absI (b 4) then 1 else 0)]) rfl ?_
  refine s_if_ne_b (P := ¬ t 0 = 0 ∧ plcF t u 0 = 0 ∧ ¬ sv 2 ≤ absI (b 4)) (tgt := 44) S dX8_clear_38 (by decide) (fun h => absurd h ht) (fun _ => ?_)
  refine lv_ldc (v := (-2000000002 : Int32)) S.1 S.2.1 S.2.2.2.1 (S.2.2.2.2 _ (List.mem_of_getElem? (i := 3) rfl)) dX8_clear_41 ?_
  refine s_iret (x := (-2000000002 : Int32)) S G hr hlk dX8_clear_43 ?_
  exact ⟨rfl, rfl, rfl⟩
set_option maxHeartbeats 4000000 in
set_option maxRecDepth 100000 in
theorem k_X8_clear_ok_0_1 (l : Launch) (E : Ev) {I : SI} {L : SL} (h : Nat → Int32) (b : Nat → Int32) (n : Nat → Int32) (t : Nat → Int32) (u : Nat → Int32) (sv : Nat → Int32) (o kp : Nat) (e_h : I (53) = h) (e_b : I (2) = b) (e_n : I (7) = n) (e_t : I (8) = t) (e_u : I (9) = u) (e_sv : I (21) = sv) (ho : h 1 = nI o) (hk : h 2 = nI kp) (ho4 : o < 4) (hkp : kp ≤ 4) (hisb : IsbB I 1) (ht : ¬ t 1 = 0 ∧ plcF t u 1 = 0) : CS l yX8_clear wsX8_clear ({ frames := 5, cells := 0, slots := 0, locals := 110 }) E [.ref (E.2.2.2 0), .int (0 : Int32), .int (1 : Int32)] I L (fun vv I' L' => vv = some (.int (n 3 - 1)) ∧ ∃ I1 L1, RecP I L I1 L1 o kp ∧ I' = (up (up I1 (7) (upd n 3 (n 3 - 1))) (8) (upd t 1 0)) ∧ L' = L1) := by
  refine CS.of (cc := cX8_clear) (maxL := 4) (ret := (some .int)) (by decide) rfl (Nat.le_of_ble_eq_true rfl) ?_
  intro pg en sg mg below meth cg ls S hr hlk hX G hl
  have S : CallFix pg mg cg cX8_clear 4 sg _ wsX8_clear RX8 := S
  have hl : lv_has ls 4 [(0, .ref (E.2.2.2 0)), (1, .int (0 : Int32)), (2, .int (1 : Int32))] := hl
  refine lv_iload_n S.1 S.2.1 dX8_clear_0 rfl (lv_at hl 1 rfl) ?_
  refine s_callS (As := [.int (0 : Int32)]) (rest := []) S hX G (k_X8_isLoad l E (0 : Int32)) (va_cwS (bytes := cX8_isLoad) (maxL := 1) (ret := (some .boolean)) 1 S.2.2.2.2 gX8_clear_X8_isLoad rfl rfl rfl (by decide +kernel) ⟨Nat.le_of_ble_eq_true rfl, Nat.le_of_ble_eq_true rfl⟩) rfl hl.1 rfl (Nat.le_of_ble_eq_true rfl) ⟨Nat.zero_le _, Nat.zero_le _⟩ dX8_clear_1 (fun v I1 L1 H locs hR G => ?_)
  obtain ⟨hv, hI, hL⟩ := hR
  subst hv
  have G : GS E I L sg H locs := G.same hI hL
  refine W.eq (g2 := F0 mg 4 ls [.int (if ¬ (0 : Int32) < (0 : Int32) ∧ ¬ (1 : Int32) < (0 : Int32) then 1 else 0)]) rfl ?_
  refine s_if_eq_b (P := ¬ (0 : Int32) < (0 : Int32) ∧ ¬ (1 : Int32) < (0 : Int32)) (tgt := 14) S dX8_clear_4 (by decide) (fun h => absurd (by decide) h) (fun _ => ?_)
  refine lv_iload_n S.1 S.2.1 dX8_clear_7 rfl (lv_at hl 2 rfl) ?_
  refine s_callS (As := [.int (1 : Int32)]) (rest := []) S hX G (k_X8_isFault l E (1 : Int32)) (va_cwS (bytes := cX8_isFault) (maxL := 1) (ret := (some .boolean)) 1 S.2.2.2.2 gX8_clear_X8_isFault rfl rfl rfl (by decide +kernel) ⟨Nat.le_of_ble_eq_true rfl, Nat.le_of_ble_eq_true rfl⟩) rfl hl.1 rfl (Nat.le_of_ble_eq_true rfl) ⟨Nat.zero_le _, Nat.zero_le _⟩ dX8_clear_8 (fun v I1 L1 H locs hR G => ?_)
  obtain ⟨hv, hI, hL⟩ := hR
  subst hv
  have G : GS E I L sg H locs := G.same hI hL
  refine W.eq (g2 := F0 mg 11 ls [.int (if ¬ (1 : Int32) < (0 : Int32) ∧ ¬ (2 : Int32) < (1 : Int32) then 1 else 0)]) rfl ?_
  refine s_if_ne_b (P := ¬ (1 : Int32) < (0 : Int32) ∧ ¬ (2 : Int32) < (1 : Int32)) (tgt := 17) S dX8_clear_11 (by decide) (fun _ => ?_) (fun h => absurd (by decide) h)
  refine lv_aload_n S.1 S.2.1 dX8_clear_17 rfl (lv_at hl 0 rfl) ?_
  refine s_get S hX G (i := 0) (kd := 8) (a := (I 0)) (v := .ref (E.2.2.2 1)) (C := RX8) (T := TX8) (N := 4) 0 (rfl : sh 0 = 8) rfl rfl rfl (by decide) rfl (fun _ h => (List.mem_cons_of_mem _ (List.mem_append_left _ (List.mem_append_left _ (List.mem_append_left _ (List.mem_append_left _ (List.mem_append_left _ (List.mem_append_left _ (List.mem_append_left _ (List.mem_append_right _ h)))))))))) (by decide) (List.mem_of_getElem? (i := 2) rfl) (fun _ h => h) dX8_clear_18 ?_
  refine lv_iload_n S.1 S.2.1 dX8_clear_21 rfl (lv_at hl 1 rfl) ?_
  refine s_callV (C := RX0) (As := [.int (0 : Int32)]) (rest := []) (i := 1) (kd := 0) S hX G (k_X0_loadAt_0 l E 1 (by unfold IsB; decide)) (cwV (bytes := cX0_loadAt) (maxL := 2) (ret := (some (.object "BridgeLegs$Load"))) 1 S.2.2.2.2 gX8_clear_X0_loadAt rfl rfl rfl (by decide +kernel) ⟨Nat.le_of_ble_eq_true rfl, Nat.le_of_ble_eq_true rfl⟩) (rfl : sh 1 = 0) rfl rfl rfl (by decide) rfl hl.1 rfl (Nat.le_of_ble_eq_true rfl) ⟨Nat.zero_le _, Nat.zero_le _⟩ dX8_clear_22 (fun v I1 L1 H locs hR G => ?_)
  obtain ⟨hv, hI, hL⟩ := hR
  subst hv
  have G : GS E I L sg H locs := G.same hI hL
  refine W.eq (g2 := F0 mg 25 ls [.ref (E.2.2.2 2)]) rfl ?_
  refine lv_astore_n (lv' := [(3, .ref (E.2.2.2 2)), (0, .ref (E.2.2.2 0)), (1, .int (0 : Int32)), (2, .int (1 : Int32))]) S.1 S.2.1 dX8_clear_25 rfl hl (by decide) rfl (fun ls hl => ?_)
  refine lv_aload_n S.1 S.2.1 dX8_clear_26 rfl (lv_at hl 0 rfl) ?_
  refine lv_iload_n S.1 S.2.1 dX8_clear_27 rfl (lv_at hl 3 rfl) ?_
  refine lv_aload_n S.1 S.2.1 dX8_clear_28 rfl (lv_at hl 1 rfl) ?_
  refine s_get S hX G (i := 0) (kd := 8) (a := (I 0)) (v := .ref (E.2.2.2 1)) (C := RX8) (T := TX8) (N := 4) 0 (rfl : sh 0 = 8) rfl rfl rfl (by decide) rfl (fun _ h => (List.mem_cons_of_mem _ (List.mem_append_left _ (List.mem_append_left _ (List.mem_append_left _ (List.mem_append_left _ (List.mem_append_left _ (List.mem_append_left _ (List.mem_append_left _ (List.mem_append_right _ h)))))))))) (by decide) (List.mem_of_getElem? (i := 2) rfl) (fun _ h => h) dX8_clear_29 ?_
  refine s_getN S hX G (i := 1) (kd := 0) (a := (I 1)) (v := .ref (E.2.2.2 20)) (C := RX0) (T := TX0) (N := 5) 2 (rfl : sh 1 = 0) rfl rfl rfl (by decide) rfl (fun _ h => (List.mem_cons_of_mem _ (List.mem_append_left _ (List.mem_append_left _ (List.mem_append_left _ (List.mem_append_left _ (List.mem_append_left _ (List.mem_append_left _ (List.mem_append_right _ h))))))))) (by decide) (List.mem_of_getElem? (i := 33) rfl) (fun _ h => h) dX8_clear_32 ?_
  refine s_callV (C := RX5) (As := [.int (1 : Int32), .ref (E.2.2.2 20)]) (rest := []) (i := 2) (kd := 5) S hX G (k_X5_isClearable_1 l E 2 20 b t u sv (by unfold IsLd; decide) (rfl : sh 20 = 1) (rfl : sh 21 = 20) e_b e_t e_u e_sv) (cwV (bytes := cX5_isClearable) (maxL := 3) (ret := (some .boolean)) 2 S.2.2.2.2 gX8_clear_X5_isClearable rfl rfl rfl (by decide +kernel) ⟨Nat.le_of_ble_eq_true rfl, Nat.le_of_ble_eq_true rfl⟩) (rfl : sh 2 = 5) rfl rfl rfl (by decide) rfl hl.1 rfl (Nat.le_of_ble_eq_true rfl) ⟨Nat.zero_le _, Nat.zero_le _⟩ dX8_clear_35 (fun v I1 L1 H locs hR G => ?_)
  obtain ⟨hv, hI, hL⟩ := hR
  subst hv
  have G : GS E I L sg H locs := G.same hI hL
  refine W.eq (g2 := F0 mg 38 ls [.int (if ¬ t 1 = 0 ∧ plcF t u 1 = 0 then 1 else 0)]) rfl ?_
  refine s_if_ne_b (P := ¬ t 1 = 0 ∧ plcF t u 1 = 0) (tgt := 44) S dX8_clear_38 (by decide) (fun _ => ?_) (fun h => absurd ht h)
  refine lv_aload_n S.1 S.2.1 dX8_clear_44 rfl (lv_at hl 1 rfl) ?_
  refine s_get S hX G (i := 0) (kd := 8) (a := (I 0)) (v := .ref (E.2.2.2 53)) (C := RX8) (T := TX8) (N := 4) 2 (rfl : sh 0 = 8) rfl rfl rfl (by decide) rfl (fun _ h => (List.mem_cons_of_mem _ (List.mem_append_left _ (List.mem_append_left _ (List.mem_append_left _ (List.mem_append_left _ (List.mem_append_left _ (List.mem_append_left _ (List.mem_append_left _ (List.mem_append_right _ h)))))))))) (by decide) (List.mem_of_getElem? (i := 4) rfl) (fun _ h => h) dX8_clear_45 ?_
  refine lv_aload_n S.1 S.2.1 dX8_clear_48 rfl (lv_at hl 1 rfl) ?_
  refine s_get S hX G (i := 0) (kd := 8) (a := (I 0)) (v := .ref (E.2.2.2 1)) (C := RX8) (T := TX8) (N := 4) 0 (rfl : sh 0 = 8) rfl rfl rfl (by decide) rfl (fun _ h => (List.mem_cons_of_mem _ (List.mem_append_left _ (List.mem_append_left _ (List.mem_append_left _ (List.mem_append_left _ (List.mem_append_left _ (List.mem_append_left _ (List.mem_append_left _ (List.mem_append_right _ h)))))))))) (by decide) (List.mem_of_getElem? (i := 2) rfl) (fun _ h => h) dX8_clear_49 ?_
  refine s_callV (C := RX2) (As := [.ref (E.2.2.2 1)]) (rest := []) (i := 53) (kd := 2) S hX G (k_X2_record l E h o kp e_h ho hk ho4 hkp hisb) (cwV (bytes := cX2_record) (maxL := 2) (ret := none) 1 S.2.2.2.2 gX8_clear_X2_record rfl rfl rfl (by decide +kernel) ⟨Nat.le_of_ble_eq_true rfl, Nat.le_of_ble_eq_true rfl⟩) (rfl : sh 53 = 2) rfl rfl rfl (by decide) rfl hl.1 rfl (Nat.le_of_ble_eq_true rfl) ⟨Nat.zero_le _, Nat.zero_le _⟩ dX8_clear_52 (fun v I2 L2 H locs hR G => ?_)
  obtain ⟨hv, hRec⟩ := hR
  subst hv
  refine W.eq (g2 := F0 mg 55 ls []) rfl ?_
  refine lv_aload_n S.1 S.2.1 dX8_clear_55 rfl (lv_at hl 0 rfl) ?_
  refine s_getN S hX G (i := 2) (kd := 5) (a := b) (v := .ref (E.2.2.2 7)) (C := RX5) (T := TX5) (N := 13) 3 (rfl : sh 2 = 5) (Eq.trans (hRec.fr (by decide) (by decide)) e_b) rfl rfl (by decide) rfl (fun _ h => (List.mem_cons_of_mem _ (List.mem_append_left _ (List.mem_append_left _ (List.mem_append_left _ (List.mem_append_left _ (List.mem_append_left _ (List.mem_append_right _ h)))))))) (by decide) (List.mem_of_getElem? (i := 19) rfl) (fun _ h => h) dX8_clear_56 ?_
  refine lv_iload_n S.1 S.2.1 dX8_clear_59 rfl (lv_at hl 3 rfl) ?_
  refine s_callV (C := RX3) (As := [.int (1 : Int32)]) (rest := []) (i := 7) (kd := 3) S hX G (k_X3_release_1 l E 7 n t (rfl : sh 7 = 3) (rfl : sh 8 = 10) (rfl : sh 9 = 17) (rfl : sh 10 = 17) (Eq.trans (hRec.fr (by decide) (by decide)) e_n) (Eq.trans (hRec.fr (by decide) (by decide)) e_t)) (cwV (bytes := cX3_release) (maxL := 2) (ret := none) 1 S.2.2.2.2 gX8_clear_X3_release rfl rfl rfl (by decide +kernel) ⟨Nat.le_of_ble_eq_true rfl, Nat.le_of_ble_eq_true rfl⟩) (rfl : sh 7 = 3) rfl rfl rfl (by decide) rfl hl.1 rfl (Nat.le_of_ble_eq_true rfl) ⟨Nat.zero_le _, Nat.zero_le _⟩ dX8_clear_60 (fun v I1 L1 H locs hR G => ?_)
  obtain ⟨hv, hI, hL⟩ := hR
  subst hv
  obtain ⟨r_1, er_1⟩ : ∃ r : Nat → Int32, r = (if ¬ t 1 = 0 then upd n 3 (n 3 - 1) else n) := ⟨_, rfl⟩
  rw [← er_1] at hI
  obtain ⟨r_2, er_2⟩ : ∃ r : Nat → Int32, r = (if ¬ t 1 = 0 then upd t 1 0 else t) := ⟨_, rfl⟩
  rw [← er_2] at hI
  have G : GS E (up (up I2 7 r_1) 8 r_2) L2 sg H locs := G.same hI hL
  refine W.eq (g2 := F0 mg 63 ls []) rfl ?_
  refine lv_aload_n S.1 S.2.1 dX8_clear_63 rfl (lv_at hl 0 rfl) ?_
  refine s_getN S hX G (i := 2) (kd := 5) (a := b) (v := .ref (E.2.2.2 7)) (C := RX5) (T := TX5) (N := 13) 3 (rfl : sh 2 = 5) ((up_ne (by decide)).trans ((up_ne (by decide)).trans (Eq.trans (hRec.fr (by decide) (by decide)) e_b))) rfl rfl (by decide) rfl (fun _ h => (List.mem_cons_of_mem _ (List.mem_append_left _ (List.mem_append_left _ (List.mem_append_left _ (List.mem_append_left _ (List.mem_append_left _ (List.mem_append_right _ h)))))))) (by decide) (List.mem_of_getElem? (i := 19) rfl) (fun _ h => h) dX8_clear_64 ?_
  refine s_getN S hX G (i := 7) (kd := 3) (a := r_1) (v := .int (r_1 3)) (C := RX3) (T := TX3) (N := 4) 3 (rfl : sh 7 = 3) ((up_ne (by decide)).trans up_eq) rfl rfl (by decide) rfl (fun _ h => (List.mem_cons_of_mem _ (List.mem_append_left _ (List.mem_append_left _ (List.mem_append_left _ (List.mem_append_left _ (List.mem_append_right _ h))))))) (by decide) (List.mem_of_getElem? (i := 13) rfl) (fun _ h => h) dX8_clear_67 ?_
  refine s_iret (x := (r_1 3)) S G hr hlk dX8_clear_70 ?_
  exact ⟨(congrArg (fun q : Int32 => some (Value.int q)) (show (r_1 3) = (n 3 - 1) by subst er_2 er_1; rw [if_pos ht.1]; rfl)), I2, L2, hRec, (st_eq2 (Eq.trans ((up_ne (by decide)).trans up_eq) (show r_1 = (upd n 3 (n 3 - 1)) by subst er_2 er_1; rw [if_pos ht.1])) (Eq.trans up_eq (show r_2 = (upd t 1 0) by subst er_2 er_1; rw [if_pos ht.1])) (fun _ g0 g1 => ((up_ne g1).trans (up_ne g0)))), rfl⟩
set_option maxHeartbeats 4000000 in
set_option maxRecDepth 100000 in
theorem k_X8_clear_np_0_1 (l : Launch) (E : Ev) {I : SI} {L : SL} (b : Nat → Int32) (n : Nat → Int32) (t : Nat → Int32) (u : Nat → Int32) (sv : Nat → Int32) (e_b : I (2) = b) (e_n : I (7) = n) (e_t : I (8) = t) (e_u : I (9) = u) (e_sv : I (21) = sv) (ht : ¬ (¬ t 1 = 0 ∧ plcF t u 1 = 0)) : CS l yX8_clear wsX8_clear ({ frames := 5, cells := 0, slots := 0, locals := 110 }) E [.ref (E.2.2.2 0), .int (0 : Int32), .int (1 : Int32)] I L (fun vv I' L' => vv = some (.int (-2000000002 : Int32)) ∧ I' = I ∧ L' = L) := by
  refine CS.of (cc := cX8_clear) (maxL := 4) (ret := (some .int)) (by decide) rfl (Nat.le_of_ble_eq_true rfl) ?_
  intro pg en sg mg below meth cg ls S hr hlk hX G hl
  have S : CallFix pg mg cg cX8_clear 4 sg _ wsX8_clear RX8 := S
  have hl : lv_has ls 4 [(0, .ref (E.2.2.2 0)), (1, .int (0 : Int32)), (2, .int (1 : Int32))] := hl
  refine lv_iload_n S.1 S.2.1 dX8_clear_0 rfl (lv_at hl 1 rfl) ?_
  refine s_callS (As := [.int (0 : Int32)]) (rest := []) S hX G (k_X8_isLoad l E (0 : Int32)) (va_cwS (bytes := cX8_isLoad) (maxL := 1) (ret := (some .boolean)) 1 S.2.2.2.2 gX8_clear_X8_isLoad rfl rfl rfl (by decide +kernel) ⟨Nat.le_of_ble_eq_true rfl, Nat.le_of_ble_eq_true rfl⟩) rfl hl.1 rfl (Nat.le_of_ble_eq_true rfl) ⟨Nat.zero_le _, Nat.zero_le _⟩ dX8_clear_1 (fun v I1 L1 H locs hR G => ?_)
  obtain ⟨hv, hI, hL⟩ := hR
  subst hv
  have G : GS E I L sg H locs := G.same hI hL
  refine W.eq (g2 := F0 mg 4 ls [.int (if ¬ (0 : Int32) < (0 : Int32) ∧ ¬ (1 : Int32) < (0 : Int32) then 1 else 0)]) rfl ?_
  refine s_if_eq_b (P := ¬ (0 : Int32) < (0 : Int32) ∧ ¬ (1 : Int32) < (0 : Int32)) (tgt := 14) S dX8_clear_4 (by decide) (fun h => absurd (by decide) h) (fun _ => ?_)
  refine lv_iload_n S.1 S.2.1 dX8_clear_7 rfl (lv_at hl 2 rfl) ?_
  refine s_callS (As := [.int (1 : Int32)]) (rest := []) S hX G (k_X8_isFault l E (1 : Int32)) (va_cwS (bytes := cX8_isFault) (maxL := 1) (ret := (some .boolean)) 1 S.2.2.2.2 gX8_clear_X8_isFault rfl rfl rfl (by decide +kernel) ⟨Nat.le_of_ble_eq_true rfl, Nat.le_of_ble_eq_true rfl⟩) rfl hl.1 rfl (Nat.le_of_ble_eq_true rfl) ⟨Nat.zero_le _, Nat.zero_le _⟩ dX8_clear_8 (fun v I1 L1 H locs hR G => ?_)
  obtain ⟨hv, hI, hL⟩ := hR
  subst hv
  have G : GS E I L sg H locs := G.same hI hL
  refine W.eq (g2 := F0 mg 11 ls [.int (if ¬ (1 : Int32) < (0 : Int32) ∧ ¬ (2 : Int32) < (1 : Int32) then 1 else 0)]) rfl ?_
  refine s_if_ne_b (P := ¬ (1 : Int32) < (0 : Int32) ∧ ¬ (2 : Int32) < (1 : Int32)) (tgt := 17) S dX8_clear_11 (by decide) (fun _ => ?_) (fun h => absurd (by decide) h)
  refine lv_aload_n S.1 S.2.1 dX8_clear_17 rfl (lv_at hl 0 rfl) ?_
  refine s_get S hX G (i := 0) (kd := 8) (a := (I 0)) (v := .ref (E.2.2.2 1)) (C := RX8) (T := TX8) (N := 4) 0 (rfl : sh 0 = 8) rfl rfl rfl (by decide) rfl (fun _ h => (List.mem_cons_of_mem _ (List.mem_append_left _ (List.mem_append_left _ (List.mem_append_left _ (List.mem_append_left _ (List.mem_append_left _ (List.mem_append_left _ (List.mem_append_left _ (List.mem_append_right _ h)))))))))) (by decide) (List.mem_of_getElem? (i := 2) rfl) (fun _ h => h) dX8_clear_18 ?_
  refine lv_iload_n S.1 S.2.1 dX8_clear_21 rfl (lv_at hl 1 rfl) ?_
  refine s_callV (C := RX0) (As := [.int (0 : Int32)]) (rest := []) (i := 1) (kd := 0) S hX G (k_X0_loadAt_0 l E 1 (by unfold IsB; decide)) (cwV (bytes := cX0_loadAt) (maxL := 2) (ret := (some (.object "BridgeLegs$Load"))) 1 S.2.2.2.2 gX8_clear_X0_loadAt rfl rfl rfl (by decide +kernel) ⟨Nat.le_of_ble_eq_true rfl, Nat.le_of_ble_eq_true rfl⟩) (rfl : sh 1 = 0) rfl rfl rfl (by decide) rfl hl.1 rfl (Nat.le_of_ble_eq_true rfl) ⟨Nat.zero_le _, Nat.zero_le _⟩ dX8_clear_22 (fun v I1 L1 H locs hR G => ?_)
  obtain ⟨hv, hI, hL⟩ := hR
  subst hv
  have G : GS E I L sg H locs := G.same hI hL
  refine W.eq (g2 := F0 mg 25 ls [.ref (E.2.2.2 2)]) rfl ?_
  refine lv_astore_n (lv' := [(3, .ref (E.2.2.2 2)), (0, .ref (E.2.2.2 0)), (1, .int (0 : Int32)), (2, .int (1 : Int32))]) S.1 S.2.1 dX8_clear_25 rfl hl (by decide) rfl (fun ls hl => ?_)
  refine lv_aload_n S.1 S.2.1 dX8_clear_26 rfl (lv_at hl 0 rfl) ?_
  refine lv_iload_n S.1 S.2.1 dX8_clear_27 rfl (lv_at hl 3 rfl) ?_
  refine lv_aload_n S.1 S.2.1 dX8_clear_28 rfl (lv_at hl 1 rfl) ?_
  refine s_get S hX G (i := 0) (kd := 8) (a := (I 0)) (v := .ref (E.2.2.2 1)) (C := RX8) (T := TX8) (N := 4) 0 (rfl : sh 0 = 8) rfl rfl rfl (by decide) rfl (fun _ h => (List.mem_cons_of_mem _ (List.mem_append_left _ (List.mem_append_left _ (List.mem_append_left _ (List.mem_append_left _ (List.mem_append_left _ (List.mem_append_left _ (List.mem_append_left _ (List.mem_append_right _ h)))))))))) (by decide) (List.mem_of_getElem? (i := 2) rfl) (fun _ h => h) dX8_clear_29 ?_
  refine s_getN S hX G (i := 1) (kd := 0) (a := (I 1)) (v := .ref (E.2.2.2 20)) (C := RX0) (T := TX0) (N := 5) 2 (rfl : sh 1 = 0) rfl rfl rfl (by decide) rfl (fun _ h => (List.mem_cons_of_mem _ (List.mem_append_left _ (List.mem_append_left _ (List.mem_append_left _ (List.mem_append_left _ (List.mem_append_left _ (List.mem_append_left _ (List.mem_append_right _ h))))))))) (by decide) (List.mem_of_getElem? (i := 33) rfl) (fun _ h => h) dX8_clear_32 ?_
  refine s_callV (C := RX5) (As := [.int (1 : Int32), .ref (E.2.2.2 20)]) (rest := []) (i := 2) (kd := 5) S hX G (k_X5_isClearable_1 l E 2 20 b t u sv (by unfold IsLd; decide) (rfl : sh 20 = 1) (rfl : sh 21 = 20) e_b e_t e_u e_sv) (cwV (bytes := cX5_isClearable) (maxL := 3) (ret := (some .boolean)) 2 S.2.2.2.2 gX8_clear_X5_isClearable rfl rfl rfl (by decide +kernel) ⟨Nat.le_of_ble_eq_true rfl, Nat.le_of_ble_eq_true rfl⟩) (rfl : sh 2 = 5) rfl rfl rfl (by decide) rfl hl.1 rfl (Nat.le_of_ble_eq_true rfl) ⟨Nat.zero_le _, Nat.zero_le _⟩ dX8_clear_35 (fun v I1 L1 H locs hR G => ?_)
  obtain ⟨hv, hI, hL⟩ := hR
  subst hv
  have G : GS E I L sg H locs := G.same hI hL
  refine W.eq (g2 := F0 mg 38 ls [.int (if ¬ t 1 = 0 ∧ plcF t u 1 = 0 then 1 else 0)]) rfl ?_
  refine s_if_ne_b (P := ¬ t 1 = 0 ∧ plcF t u 1 = 0) (tgt := 44) S dX8_clear_38 (by decide) (fun h => absurd h ht) (fun _ => ?_)
  refine lv_ldc (v := (-2000000002 : Int32)) S.1 S.2.1 S.2.2.2.1 (S.2.2.2.2 _ (List.mem_of_getElem? (i := 3) rfl)) dX8_clear_41 ?_
  refine s_iret (x := (-2000000002 : Int32)) S G hr hlk dX8_clear_43 ?_
  exact ⟨rfl, rfl, rfl⟩
set_option maxHeartbeats 4000000 in
set_option maxRecDepth 100000 in
theorem k_X8_clear_ok_0_2 (l : Launch) (E : Ev) {I : SI} {L : SL} (h : Nat → Int32) (b : Nat → Int32) (n : Nat → Int32) (t : Nat → Int32) (u : Nat → Int32) (sv : Nat → Int32) (o kp : Nat) (e_h : I (53) = h) (e_b : I (2) = b) (e_n : I (7) = n) (e_t : I (8) = t) (e_u : I (9) = u) (e_sv : I (21) = sv) (ho : h 1 = nI o) (hk : h 2 = nI kp) (ho4 : o < 4) (hkp : kp ≤ 4) (hisb : IsbB I 1) (ht : ¬ t 2 = 0 ∧ plcF t u 2 = 0 ∧ ¬ sv 4 / 2 < b 5) : CS l yX8_clear wsX8_clear ({ frames := 5, cells := 0, slots := 0, locals := 110 }) E [.ref (E.2.2.2 0), .int (0 : Int32), .int (2 : Int32)] I L (fun vv I' L' => vv = some (.int (n 3 - 1)) ∧ ∃ I1 L1, RecP I L I1 L1 o kp ∧ I' = (up (up I1 (7) (upd n 3 (n 3 - 1))) (8) (upd t 2 0)) ∧ L' = L1) := by
  refine CS.of (cc := cX8_clear) (maxL := 4) (ret := (some .int)) (by decide) rfl (Nat.le_of_ble_eq_true rfl) ?_
  intro pg en sg mg below meth cg ls S hr hlk hX G hl
  have S : CallFix pg mg cg cX8_clear 4 sg _ wsX8_clear RX8 := S
  have hl : lv_has ls 4 [(0, .ref (E.2.2.2 0)), (1, .int (0 : Int32)), (2, .int (2 : Int32))] := hl
  refine lv_iload_n S.1 S.2.1 dX8_clear_0 rfl (lv_at hl 1 rfl) ?_
  refine s_callS (As := [.int (0 : Int32)]) (rest := []) S hX G (k_X8_isLoad l E (0 : Int32)) (va_cwS (bytes := cX8_isLoad) (maxL := 1) (ret := (some .boolean)) 1 S.2.2.2.2 gX8_clear_X8_isLoad rfl rfl rfl (by decide +kernel) ⟨Nat.le_of_ble_eq_true rfl, Nat.le_of_ble_eq_true rfl⟩) rfl hl.1 rfl (Nat.le_of_ble_eq_true rfl) ⟨Nat.zero_le _, Nat.zero_le _⟩ dX8_clear_1 (fun v I1 L1 H locs hR G => ?_)
  obtain ⟨hv, hI, hL⟩ := hR
  subst hv
  have G : GS E I L sg H locs := G.same hI hL
  refine W.eq (g2 := F0 mg 4 ls [.int (if ¬ (0 : Int32) < (0 : Int32) ∧ ¬ (1 : Int32) < (0 : Int32) then 1 else 0)]) rfl ?_
  refine s_if_eq_b (P := ¬ (0 : Int32) < (0 : Int32) ∧ ¬ (1 : Int32) < (0 : Int32)) (tgt := 14) S dX8_clear_4 (by decide) (fun h => absurd (by decide) h) (fun _ => ?_)
  refine lv_iload_n S.1 S.2.1 dX8_clear_7 rfl (lv_at hl 2 rfl) ?_
  refine s_callS (As := [.int (2 : Int32)]) (rest := []) S hX G (k_X8_isFault l E (2 : Int32)) (va_cwS (bytes := cX8_isFault) (maxL := 1) (ret := (some .boolean)) 1 S.2.2.2.2 gX8_clear_X8_isFault rfl rfl rfl (by decide +kernel) ⟨Nat.le_of_ble_eq_true rfl, Nat.le_of_ble_eq_true rfl⟩) rfl hl.1 rfl (Nat.le_of_ble_eq_true rfl) ⟨Nat.zero_le _, Nat.zero_le _⟩ dX8_clear_8 (fun v I1 L1 H locs hR G => ?_)
  obtain ⟨hv, hI, hL⟩ := hR
  subst hv
  have G : GS E I L sg H locs := G.same hI hL
  refine W.eq (g2 := F0 mg 11 ls [.int (if ¬ (2 : Int32) < (0 : Int32) ∧ ¬ (2 : Int32) < (2 : Int32) then 1 else 0)]) rfl ?_
  refine s_if_ne_b (P := ¬ (2 : Int32) < (0 : Int32) ∧ ¬ (2 : Int32) < (2 : Int32)) (tgt := 17) S dX8_clear_11 (by decide) (fun _ => ?_) (fun h => absurd (by decide) h)
  refine lv_aload_n S.1 S.2.1 dX8_clear_17 rfl (lv_at hl 0 rfl) ?_
  refine s_get S hX G (i := 0) (kd := 8) (a := (I 0)) (v := .ref (E.2.2.2 1)) (C := RX8) (T := TX8) (N := 4) 0 (rfl : sh 0 = 8) rfl rfl rfl (by decide) rfl (fun _ h => (List.mem_cons_of_mem _ (List.mem_append_left _ (List.mem_append_left _ (List.mem_append_left _ (List.mem_append_left _ (List.mem_append_left _ (List.mem_append_left _ (List.mem_append_left _ (List.mem_append_right _ h)))))))))) (by decide) (List.mem_of_getElem? (i := 2) rfl) (fun _ h => h) dX8_clear_18 ?_
  refine lv_iload_n S.1 S.2.1 dX8_clear_21 rfl (lv_at hl 1 rfl) ?_
  refine s_callV (C := RX0) (As := [.int (0 : Int32)]) (rest := []) (i := 1) (kd := 0) S hX G (k_X0_loadAt_0 l E 1 (by unfold IsB; decide)) (cwV (bytes := cX0_loadAt) (maxL := 2) (ret := (some (.object "BridgeLegs$Load"))) 1 S.2.2.2.2 gX8_clear_X0_loadAt rfl rfl rfl (by decide +kernel) ⟨Nat.le_of_ble_eq_true rfl, Nat.le_of_ble_eq_true rfl⟩) (rfl : sh 1 = 0) rfl rfl rfl (by decide) rfl hl.1 rfl (Nat.le_of_ble_eq_true rfl) ⟨Nat.zero_le _, Nat.zero_le _⟩ dX8_clear_22 (fun v I1 L1 H locs hR G => ?_)
  obtain ⟨hv, hI, hL⟩ := hR
  subst hv
  have G : GS E I L sg H locs := G.same hI hL
  refine W.eq (g2 := F0 mg 25 ls [.ref (E.2.2.2 2)]) rfl ?_
  refine lv_astore_n (lv' := [(3, .ref (E.2.2.2 2)), (0, .ref (E.2.2.2 0)), (1, .int (0 : Int32)), (2, .int (2 : Int32))]) S.1 S.2.1 dX8_clear_25 rfl hl (by decide) rfl (fun ls hl => ?_)
  refine lv_aload_n S.1 S.2.1 dX8_clear_26 rfl (lv_at hl 0 rfl) ?_
  refine lv_iload_n S.1 S.2.1 dX8_clear_27 rfl (lv_at hl 3 rfl) ?_
  refine lv_aload_n S.1 S.2.1 dX8_clear_28 rfl (lv_at hl 1 rfl) ?_
  refine s_get S hX G (i := 0) (kd := 8) (a := (I 0)) (v := .ref (E.2.2.2 1)) (C := RX8) (T := TX8) (N := 4) 0 (rfl : sh 0 = 8) rfl rfl rfl (by decide) rfl (fun _ h => (List.mem_cons_of_mem _ (List.mem_append_left _ (List.mem_append_left _ (List.mem_append_left _ (List.mem_append_left _ (List.mem_append_left _ (List.mem_append_left _ (List.mem_append_left _ (List.mem_append_right _ h)))))))))) (by decide) (List.mem_of_getElem? (i := 2) rfl) (fun _ h => h) dX8_clear_29 ?_
  refine s_getN S hX G (i := 1) (kd := 0) (a := (I 1)) (v := .ref (E.2.2.2 20)) (C := RX0) (T := TX0) (N := 5) 2 (rfl : sh 1 = 0) rfl rfl rfl (by decide) rfl (fun _ h => (List.mem_cons_of_mem _ (List.mem_append_left _ (List.mem_append_left _ (List.mem_append_left _ (List.mem_append_left _ (List.mem_append_left _ (List.mem_append_left _ (List.mem_append_right _ h))))))))) (by decide) (List.mem_of_getElem? (i := 33) rfl) (fun _ h => h) dX8_clear_32 ?_
  refine s_callV (C := RX5) (As := [.int (2 : Int32), .ref (E.2.2.2 20)]) (rest := []) (i := 2) (kd := 5) S hX G (k_X5_isClearable_2 l E 2 20 b t u sv (by unfold IsLd; decide) (rfl : sh 20 = 1) (rfl : sh 21 = 20) e_b e_t e_u e_sv) (cwV (bytes := cX5_isClearable) (maxL := 3) (ret := (some .boolean)) 2 S.2.2.2.2 gX8_clear_X5_isClearable rfl rfl rfl (by decide +kernel) ⟨Nat.le_of_ble_eq_true rfl, Nat.le_of_ble_eq_true rfl⟩) (rfl : sh 2 = 5) rfl rfl rfl (by decide) rfl hl.1 rfl (Nat.le_of_ble_eq_true rfl) ⟨Nat.zero_le _, Nat.zero_le _⟩ dX8_clear_35 (fun v I1 L1 H locs hR G => ?_)
  obtain ⟨hv, hI, hL⟩ := hR
  subst hv
  have G : GS E I L sg H locs := G.same hI hL
  refine W.eq (g2 := F0 mg 38 ls [.int (if ¬ t 2 = 0 ∧ plcF t u 2 = 0 ∧ ¬ sv 4 / 2 < b 5 then 1 else 0)]) rfl ?_
  refine s_if_ne_b (P := ¬ t 2 = 0 ∧ plcF t u 2 = 0 ∧ ¬ sv 4 / 2 < b 5) (tgt := 44) S dX8_clear_38 (by decide) (fun _ => ?_) (fun h => absurd ht h)
  refine lv_aload_n S.1 S.2.1 dX8_clear_44 rfl (lv_at hl 1 rfl) ?_
  refine s_get S hX G (i := 0) (kd := 8) (a := (I 0)) (v := .ref (E.2.2.2 53)) (C := RX8) (T := TX8) (N := 4) 2 (rfl : sh 0 = 8) rfl rfl rfl (by decide) rfl (fun _ h => (List.mem_cons_of_mem _ (List.mem_append_left _ (List.mem_append_left _ (List.mem_append_left _ (List.mem_append_left _ (List.mem_append_left _ (List.mem_append_left _ (List.mem_append_left _ (List.mem_append_right _ h)))))))))) (by decide) (List.mem_of_getElem? (i := 4) rfl) (fun _ h => h) dX8_clear_45 ?_
  refine lv_aload_n S.1 S.2.1 dX8_clear_48 rfl (lv_at hl 1 rfl) ?_
  refine s_get S hX G (i := 0) (kd := 8) (a := (I 0)) (v := .ref (E.2.2.2 1)) (C := RX8) (T := TX8) (N := 4) 0 (rfl : sh 0 = 8) rfl rfl rfl (by decide) rfl (fun _ h => (List.mem_cons_of_mem _ (List.mem_append_left _ (List.mem_append_left _ (List.mem_append_left _ (List.mem_append_left _ (List.mem_append_left _ (List.mem_append_left _ (List.mem_append_left _ (List.mem_append_right _ h)))))))))) (by decide) (List.mem_of_getElem? (i := 2) rfl) (fun _ h => h) dX8_clear_49 ?_
  refine s_callV (C := RX2) (As := [.ref (E.2.2.2 1)]) (rest := []) (i := 53) (kd := 2) S hX G (k_X2_record l E h o kp e_h ho hk ho4 hkp hisb) (cwV (bytes := cX2_record) (maxL := 2) (ret := none) 1 S.2.2.2.2 gX8_clear_X2_record rfl rfl rfl (by decide +kernel) ⟨Nat.le_of_ble_eq_true rfl, Nat.le_of_ble_eq_true rfl⟩) (rfl : sh 53 = 2) rfl rfl rfl (by decide) rfl hl.1 rfl (Nat.le_of_ble_eq_true rfl) ⟨Nat.zero_le _, Nat.zero_le _⟩ dX8_clear_52 (fun v I2 L2 H locs hR G => ?_)
  obtain ⟨hv, hRec⟩ := hR
  subst hv
  refine W.eq (g2 := F0 mg 55 ls []) rfl ?_
  refine lv_aload_n S.1 S.2.1 dX8_clear_55 rfl (lv_at hl 0 rfl) ?_
  refine s_getN S hX G (i := 2) (kd := 5) (a := b) (v := .ref (E.2.2.2 7)) (C := RX5) (T := TX5) (N := 13) 3 (rfl : sh 2 = 5) (Eq.trans (hRec.fr (by decide) (by decide)) e_b) rfl rfl (by decide) rfl (fun _ h => (List.mem_cons_of_mem _ (List.mem_append_left _ (List.mem_append_left _ (List.mem_append_left _ (List.mem_append_left _ (List.mem_append_left _ (List.mem_append_right _ h)))))))) (by decide) (List.mem_of_getElem? (i := 19) rfl) (fun _ h => h) dX8_clear_56 ?_
  refine lv_iload_n S.1 S.2.1 dX8_clear_59 rfl (lv_at hl 3 rfl) ?_
  refine s_callV (C := RX3) (As := [.int (2 : Int32)]) (rest := []) (i := 7) (kd := 3) S hX G (k_X3_release_2 l E 7 n t (rfl : sh 7 = 3) (rfl : sh 8 = 10) (rfl : sh 9 = 17) (rfl : sh 10 = 17) (Eq.trans (hRec.fr (by decide) (by decide)) e_n) (Eq.trans (hRec.fr (by decide) (by decide)) e_t)) (cwV (bytes := cX3_release) (maxL := 2) (ret := none) 1 S.2.2.2.2 gX8_clear_X3_release rfl rfl rfl (by decide +kernel) ⟨Nat.le_of_ble_eq_true rfl, Nat.le_of_ble_eq_true rfl⟩) (rfl : sh 7 = 3) rfl rfl rfl (by decide) rfl hl.1 rfl (Nat.le_of_ble_eq_true rfl) ⟨Nat.zero_le _, Nat.zero_le _⟩ dX8_clear_60 (fun v I1 L1 H locs hR G => ?_)
  obtain ⟨hv, hI, hL⟩ := hR
  subst hv
  obtain ⟨r_1, er_1⟩ : ∃ r : Nat → Int32, r = (if ¬ t 2 = 0 then upd n 3 (n 3 - 1) else n) := ⟨_, rfl⟩
  rw [← er_1] at hI
  obtain ⟨r_2, er_2⟩ : ∃ r : Nat → Int32, r = (if ¬ t 2 = 0 then upd t 2 0 else t) := ⟨_, rfl⟩
  rw [← er_2] at hI
  have G : GS E (up (up I2 7 r_1) 8 r_2) L2 sg H locs := G.same hI hL
  refine W.eq (g2 := F0 mg 63 ls []) rfl ?_
  refine lv_aload_n S.1 S.2.1 dX8_clear_63 rfl (lv_at hl 0 rfl) ?_
  refine s_getN S hX G (i := 2) (kd := 5) (a := b) (v := .ref (E.2.2.2 7)) (C := RX5) (T := TX5) (N := 13) 3 (rfl : sh 2 = 5) ((up_ne (by decide)).trans ((up_ne (by decide)).trans (Eq.trans (hRec.fr (by decide) (by decide)) e_b))) rfl rfl (by decide) rfl (fun _ h => (List.mem_cons_of_mem _ (List.mem_append_left _ (List.mem_append_left _ (List.mem_append_left _ (List.mem_append_left _ (List.mem_append_left _ (List.mem_append_right _ h)))))))) (by decide) (List.mem_of_getElem? (i := 19) rfl) (fun _ h => h) dX8_clear_64 ?_
  refine s_getN S hX G (i := 7) (kd := 3) (a := r_1) (v := .int (r_1 3)) (C := RX3) (T := TX3) (N := 4) 3 (rfl : sh 7 = 3) ((up_ne (by decide)).trans up_eq) rfl rfl (by decide) rfl (fun _ h => (List.mem_cons_of_mem _ (List.mem_append_left _ (List.mem_append_left _ (List.mem_append_left _ (List.mem_append_left _ (List.mem_append_right _ h))))))) (by decide) (List.mem_of_getElem? (i := 13) rfl) (fun _ h => h) dX8_clear_67 ?_
  refine s_iret (x := (r_1 3)) S G hr hlk dX8_clear_70 ?_
  exact ⟨(congrArg (fun q : Int32 => some (Value.int q)) (show (r_1 3) = (n 3 - 1) by subst er_2 er_1; rw [if_pos ht.1]; rfl)), I2, L2, hRec, (st_eq2 (Eq.trans ((up_ne (by decide)).trans up_eq) (show r_1 = (upd n 3 (n 3 - 1)) by subst er_2 er_1; rw [if_pos ht.1])) (Eq.trans up_eq (show r_2 = (upd t 2 0) by subst er_2 er_1; rw [if_pos ht.1])) (fun _ g0 g1 => ((up_ne g1).trans (up_ne g0)))), rfl⟩
set_option maxHeartbeats 4000000 in
set_option maxRecDepth 100000 in
theorem k_X8_clear_np_0_2 (l : Launch) (E : Ev) {I : SI} {L : SL} (b : Nat → Int32) (n : Nat → Int32) (t : Nat → Int32) (u : Nat → Int32) (sv : Nat → Int32) (e_b : I (2) = b) (e_n : I (7) = n) (e_t : I (8) = t) (e_u : I (9) = u) (e_sv : I (21) = sv) (ht : ¬ (¬ t 2 = 0 ∧ plcF t u 2 = 0 ∧ ¬ sv 4 / 2 < b 5)) : CS l yX8_clear wsX8_clear ({ frames := 5, cells := 0, slots := 0, locals := 110 }) E [.ref (E.2.2.2 0), .int (0 : Int32), .int (2 : Int32)] I L (fun vv I' L' => vv = some (.int (-2000000002 : Int32)) ∧ I' = I ∧ L' = L) := by
  refine CS.of (cc := cX8_clear) (maxL := 4) (ret := (some .int)) (by decide) rfl (Nat.le_of_ble_eq_true rfl) ?_
  intro pg en sg mg below meth cg ls S hr hlk hX G hl
  have S : CallFix pg mg cg cX8_clear 4 sg _ wsX8_clear RX8 := S
  have hl : lv_has ls 4 [(0, .ref (E.2.2.2 0)), (1, .int (0 : Int32)), (2, .int (2 : Int32))] := hl
  refine lv_iload_n S.1 S.2.1 dX8_clear_0 rfl (lv_at hl 1 rfl) ?_
  refine s_callS (As := [.int (0 : Int32)]) (rest := []) S hX G (k_X8_isLoad l E (0 : Int32)) (va_cwS (bytes := cX8_isLoad) (maxL := 1) (ret := (some .boolean)) 1 S.2.2.2.2 gX8_clear_X8_isLoad rfl rfl rfl (by decide +kernel) ⟨Nat.le_of_ble_eq_true rfl, Nat.le_of_ble_eq_true rfl⟩) rfl hl.1 rfl (Nat.le_of_ble_eq_true rfl) ⟨Nat.zero_le _, Nat.zero_le _⟩ dX8_clear_1 (fun v I1 L1 H locs hR G => ?_)
  obtain ⟨hv, hI, hL⟩ := hR
  subst hv
  have G : GS E I L sg H locs := G.same hI hL
  refine W.eq (g2 := F0 mg 4 ls [.int (if ¬ (0 : Int32) < (0 : Int32) ∧ ¬ (1 : Int32) < (0 : Int32) then 1 else 0)]) rfl ?_
  refine s_if_eq_b (P := ¬ (0 : Int32) < (0 : Int32) ∧ ¬ (1 : Int32) < (0 : Int32)) (tgt := 14) S dX8_clear_4 (by decide) (fun h => absurd (by decide) h) (fun _ => ?_)
  refine lv_iload_n S.1 S.2.1 dX8_clear_7 rfl (lv_at hl 2 rfl) ?_
  refine s_callS (As := [.int (2 : Int32)]) (rest := []) S hX G (k_X8_isFault l E (2 : Int32)) (va_cwS (bytes := cX8_isFault) (maxL := 1) (ret := (some .boolean)) 1 S.2.2.2.2 gX8_clear_X8_isFault rfl rfl rfl (by decide +kernel) ⟨Nat.le_of_ble_eq_true rfl, Nat.le_of_ble_eq_true rfl⟩) rfl hl.1 rfl (Nat.le_of_ble_eq_true rfl) ⟨Nat.zero_le _, Nat.zero_le _⟩ dX8_clear_8 (fun v I1 L1 H locs hR G => ?_)
  obtain ⟨hv, hI, hL⟩ := hR
  subst hv
  have G : GS E I L sg H locs := G.same hI hL
  refine W.eq (g2 := F0 mg 11 ls [.int (if ¬ (2 : Int32) < (0 : Int32) ∧ ¬ (2 : Int32) < (2 : Int32) then 1 else 0)]) rfl ?_
  refine s_if_ne_b (P := ¬ (2 : Int32) < (0 : Int32) ∧ ¬ (2 : Int32) < (2 : Int32)) (tgt := 17) S dX8_clear_11 (by decide) (fun _ => ?_) (fun h => absurd (by decide) h)
  refine lv_aload_n S.1 S.2.1 dX8_clear_17 rfl (lv_at hl 0 rfl) ?_
  refine s_get S hX G (i := 0) (kd := 8) (a := (I 0)) (v := .ref (E.2.2.2 1)) (C := RX8) (T := TX8) (N := 4) 0 (rfl : sh 0 = 8) rfl rfl rfl (by decide) rfl (fun _ h => (List.mem_cons_of_mem _ (List.mem_append_left _ (List.mem_append_left _ (List.mem_append_left _ (List.mem_append_left _ (List.mem_append_left _ (List.mem_append_left _ (List.mem_append_left _ (List.mem_append_right _ h)))))))))) (by decide) (List.mem_of_getElem? (i := 2) rfl) (fun _ h => h) dX8_clear_18 ?_
  refine lv_iload_n S.1 S.2.1 dX8_clear_21 rfl (lv_at hl 1 rfl) ?_
  refine s_callV (C := RX0) (As := [.int (0 : Int32)]) (rest := []) (i := 1) (kd := 0) S hX G (k_X0_loadAt_0 l E 1 (by unfold IsB; decide)) (cwV (bytes := cX0_loadAt) (maxL := 2) (ret := (some (.object "BridgeLegs$Load"))) 1 S.2.2.2.2 gX8_clear_X0_loadAt rfl rfl rfl (by decide +kernel) ⟨Nat.le_of_ble_eq_true rfl, Nat.le_of_ble_eq_true rfl⟩) (rfl : sh 1 = 0) rfl rfl rfl (by decide) rfl hl.1 rfl (Nat.le_of_ble_eq_true rfl) ⟨Nat.zero_le _, Nat.zero_le _⟩ dX8_clear_22 (fun v I1 L1 H locs hR G => ?_)
  obtain ⟨hv, hI, hL⟩ := hR
  subst hv
  have G : GS E I L sg H locs := G.same hI hL
  refine W.eq (g2 := F0 mg 25 ls [.ref (E.2.2.2 2)]) rfl ?_
  refine lv_astore_n (lv' := [(3, .ref (E.2.2.2 2)), (0, .ref (E.2.2.2 0)), (1, .int (0 : Int32)), (2, .int (2 : Int32))]) S.1 S.2.1 dX8_clear_25 rfl hl (by decide) rfl (fun ls hl => ?_)
  refine lv_aload_n S.1 S.2.1 dX8_clear_26 rfl (lv_at hl 0 rfl) ?_
  refine lv_iload_n S.1 S.2.1 dX8_clear_27 rfl (lv_at hl 3 rfl) ?_
  refine lv_aload_n S.1 S.2.1 dX8_clear_28 rfl (lv_at hl 1 rfl) ?_
  refine s_get S hX G (i := 0) (kd := 8) (a := (I 0)) (v := .ref (E.2.2.2 1)) (C := RX8) (T := TX8) (N := 4) 0 (rfl : sh 0 = 8) rfl rfl rfl (by decide) rfl (fun _ h => (List.mem_cons_of_mem _ (List.mem_append_left _ (List.mem_append_left _ (List.mem_append_left _ (List.mem_append_left _ (List.mem_append_left _ (List.mem_append_left _ (List.mem_append_left _ (List.mem_append_right _ h)))))))))) (by decide) (List.mem_of_getElem? (i := 2) rfl) (fun _ h => h) dX8_clear_29 ?_
  refine s_getN S hX G (i := 1) (kd := 0) (a := (I 1)) (v := .ref (E.2.2.2 20)) (C := RX0) (T := TX0) (N := 5) 2 (rfl : sh 1 = 0) rfl rfl rfl (by decide) rfl (fun _ h => (List.mem_cons_of_mem _ (List.mem_append_left _ (List.mem_append_left _ (List.mem_append_left _ (List.mem_append_left _ (List.mem_append_left _ (List.mem_append_left _ (List.mem_append_right _ h))))))))) (by decide) (List.mem_of_getElem? (i := 33) rfl) (fun _ h => h) dX8_clear_32 ?_
  refine s_callV (C := RX5) (As := [.int (2 : Int32), .ref (E.2.2.2 20)]) (rest := []) (i := 2) (kd := 5) S hX G (k_X5_isClearable_2 l E 2 20 b t u sv (by unfold IsLd; decide) (rfl : sh 20 = 1) (rfl : sh 21 = 20) e_b e_t e_u e_sv) (cwV (bytes := cX5_isClearable) (maxL := 3) (ret := (some .boolean)) 2 S.2.2.2.2 gX8_clear_X5_isClearable rfl rfl rfl (by decide +kernel) ⟨Nat.le_of_ble_eq_true rfl, Nat.le_of_ble_eq_true rfl⟩) (rfl : sh 2 = 5) rfl rfl rfl (by decide) rfl hl.1 rfl (Nat.le_of_ble_eq_true rfl) ⟨Nat.zero_le _, Nat.zero_le _⟩ dX8_clear_35 (fun v I1 L1 H locs hR G => ?_)
  obtain ⟨hv, hI, hL⟩ := hR
  subst hv
  have G : GS E I L sg H locs := G.same hI hL
  refine W.eq (g2 := F0 mg 38 ls [.int (if ¬ t 2 = 0 ∧ plcF t u 2 = 0 ∧ ¬ sv 4 / 2 < b 5 then 1 else 0)]) rfl ?_
  refine s_if_ne_b (P := ¬ t 2 = 0 ∧ plcF t u 2 = 0 ∧ ¬ sv 4 / 2 < b 5) (tgt := 44) S dX8_clear_38 (by decide) (fun h => absurd h ht) (fun _ => ?_)
  refine lv_ldc (v := (-2000000002 : Int32)) S.1 S.2.1 S.2.2.2.1 (S.2.2.2.2 _ (List.mem_of_getElem? (i := 3) rfl)) dX8_clear_41 ?_
  refine s_iret (x := (-2000000002 : Int32)) S G hr hlk dX8_clear_43 ?_
  exact ⟨rfl, rfl, rfl⟩
set_option maxHeartbeats 4000000 in
set_option maxRecDepth 100000 in
theorem k_X8_clear_ok_1_0 (l : Launch) (E : Ev) {I : SI} {L : SL} (h : Nat → Int32) (b : Nat → Int32) (n : Nat → Int32) (t : Nat → Int32) (u : Nat → Int32) (sv : Nat → Int32) (o kp : Nat) (e_h : I (53) = h) (e_b : I (11) = b) (e_n : I (16) = n) (e_t : I (17) = t) (e_u : I (18) = u) (e_sv : I (21) = sv) (ho : h 1 = nI o) (hk : h 2 = nI kp) (ho4 : o < 4) (hkp : kp ≤ 4) (hisb : IsbB I 1) (ht : ¬ t 0 = 0 ∧ plcF t u 0 = 0 ∧ ¬ sv 2 ≤ absI (b 4)) : CS l yX8_clear wsX8_clear ({ frames := 5, cells := 0, slots := 0, locals := 110 }) E [.ref (E.2.2.2 0), .int (1 : Int32), .int (0 : Int32)] I L (fun vv I' L' => vv = some (.int (n 3 - 1)) ∧ ∃ I1 L1, RecP I L I1 L1 o kp ∧ I' = (up (up I1 (16) (upd n 3 (n 3 - 1))) (17) (upd t 0 0)) ∧ L' = L1) := by
  refine CS.of (cc := cX8_clear) (maxL := 4) (ret := (some .int)) (by decide) rfl (Nat.le_of_ble_eq_true rfl) ?_
  intro pg en sg mg below meth cg ls S hr hlk hX G hl
  have S : CallFix pg mg cg cX8_clear 4 sg _ wsX8_clear RX8 := S
  have hl : lv_has ls 4 [(0, .ref (E.2.2.2 0)), (1, .int (1 : Int32)), (2, .int (0 : Int32))] := hl
  refine lv_iload_n S.1 S.2.1 dX8_clear_0 rfl (lv_at hl 1 rfl) ?_
  refine s_callS (As := [.int (1 : Int32)]) (rest := []) S hX G (k_X8_isLoad l E (1 : Int32)) (va_cwS (bytes := cX8_isLoad) (maxL := 1) (ret := (some .boolean)) 1 S.2.2.2.2 gX8_clear_X8_isLoad rfl rfl rfl (by decide +kernel) ⟨Nat.le_of_ble_eq_true rfl, Nat.le_of_ble_eq_true rfl⟩) rfl hl.1 rfl (Nat.le_of_ble_eq_true rfl) ⟨Nat.zero_le _, Nat.zero_le _⟩ dX8_clear_1 (fun v I1 L1 H locs hR G => ?_)
  obtain ⟨hv, hI, hL⟩ := hR
  subst hv
  have G : GS E I L sg H locs := G.same hI hL
  refine W.eq (g2 := F0 mg 4 ls [.int (if ¬ (1 : Int32) < (0 : Int32) ∧ ¬ (1 : Int32) < (1 : Int32) then 1 else 0)]) rfl ?_
  refine s_if_eq_b (P := ¬ (1 : Int32) < (0 : Int32) ∧ ¬ (1 : Int32) < (1 : Int32)) (tgt := 14) S dX8_clear_4 (by decide) (fun h => absurd (by decide) h) (fun _ => ?_)
  refine lv_iload_n S.1 S.2.1 dX8_clear_7 rfl (lv_at hl 2 rfl) ?_
  refine s_callS (As := [.int (0 : Int32)]) (rest := []) S hX G (k_X8_isFault l E (0 : Int32)) (va_cwS (bytes := cX8_isFault) (maxL := 1) (ret := (some .boolean)) 1 S.2.2.2.2 gX8_clear_X8_isFault rfl rfl rfl (by decide +kernel) ⟨Nat.le_of_ble_eq_true rfl, Nat.le_of_ble_eq_true rfl⟩) rfl hl.1 rfl (Nat.le_of_ble_eq_true rfl) ⟨Nat.zero_le _, Nat.zero_le _⟩ dX8_clear_8 (fun v I1 L1 H locs hR G => ?_)
  obtain ⟨hv, hI, hL⟩ := hR
  subst hv
  have G : GS E I L sg H locs := G.same hI hL
  refine W.eq (g2 := F0 mg 11 ls [.int (if ¬ (0 : Int32) < (0 : Int32) ∧ ¬ (2 : Int32) < (0 : Int32) then 1 else 0)]) rfl ?_
  refine s_if_ne_b (P := ¬ (0 : Int32) < (0 : Int32) ∧ ¬ (2 : Int32) < (0 : Int32)) (tgt := 17) S dX8_clear_11 (by decide) (fun _ => ?_) (fun h => absurd (by decide) h)
  refine lv_aload_n S.1 S.2.1 dX8_clear_17 rfl (lv_at hl 0 rfl) ?_
  refine s_get S hX G (i := 0) (kd := 8) (a := (I 0)) (v := .ref (E.2.2.2 1)) (C := RX8) (T := TX8) (N := 4) 0 (rfl : sh 0 = 8) rfl rfl rfl (by decide) rfl (fun _ h => (List.mem_cons_of_mem _ (List.mem_append_left _ (List.mem_append_left _ (List.mem_append_left _ (List.mem_append_left _ (List.mem_append_left _ (List.mem_append_left _ (List.mem_append_left _ (List.mem_append_right _ h)))))))))) (by decide) (List.mem_of_getElem? (i := 2) rfl) (fun _ h => h) dX8_clear_18 ?_
  refine lv_iload_n S.1 S.2.1 dX8_clear_21 rfl (lv_at hl 1 rfl) ?_
  refine s_callV (C := RX0) (As := [.int (1 : Int32)]) (rest := []) (i := 1) (kd := 0) S hX G (k_X0_loadAt_1 l E 1 (by unfold IsB; decide)) (cwV (bytes := cX0_loadAt) (maxL := 2) (ret := (some (.object "BridgeLegs$Load"))) 1 S.2.2.2.2 gX8_clear_X0_loadAt rfl rfl rfl (by decide +kernel) ⟨Nat.le_of_ble_eq_true rfl, Nat.le_of_ble_eq_true rfl⟩) (rfl : sh 1 = 0) rfl rfl rfl (by decide) rfl hl.1 rfl (Nat.le_of_ble_eq_true rfl) ⟨Nat.zero_le _, Nat.zero_le _⟩ dX8_clear_22 (fun v I1 L1 H locs hR G => ?_)
  obtain ⟨hv, hI, hL⟩ := hR
  subst hv
  have G : GS E I L sg H locs := G.same hI hL
  refine W.eq (g2 := F0 mg 25 ls [.ref (E.2.2.2 11)]) rfl ?_
  refine lv_astore_n (lv' := [(3, .ref (E.2.2.2 11)), (0, .ref (E.2.2.2 0)), (1, .int (1 : Int32)), (2, .int (0 : Int32))]) S.1 S.2.1 dX8_clear_25 rfl hl (by decide) rfl (fun ls hl => ?_)
  refine lv_aload_n S.1 S.2.1 dX8_clear_26 rfl (lv_at hl 0 rfl) ?_
  refine lv_iload_n S.1 S.2.1 dX8_clear_27 rfl (lv_at hl 3 rfl) ?_
  refine lv_aload_n S.1 S.2.1 dX8_clear_28 rfl (lv_at hl 1 rfl) ?_
  refine s_get S hX G (i := 0) (kd := 8) (a := (I 0)) (v := .ref (E.2.2.2 1)) (C := RX8) (T := TX8) (N := 4) 0 (rfl : sh 0 = 8) rfl rfl rfl (by decide) rfl (fun _ h => (List.mem_cons_of_mem _ (List.mem_append_left _ (List.mem_append_left _ (List.mem_append_left _ (List.mem_append_left _ (List.mem_append_left _ (List.mem_append_left _ (List.mem_append_left _ (List.mem_append_right _ h)))))))))) (by decide) (List.mem_of_getElem? (i := 2) rfl) (fun _ h => h) dX8_clear_29 ?_
  refine s_getN S hX G (i := 1) (kd := 0) (a := (I 1)) (v := .ref (E.2.2.2 20)) (C := RX0) (T := TX0) (N := 5) 2 (rfl : sh 1 = 0) rfl rfl rfl (by decide) rfl (fun _ h => (List.mem_cons_of_mem _ (List.mem_append_left _ (List.mem_append_left _ (List.mem_append_left _ (List.mem_append_left _ (List.mem_append_left _ (List.mem_append_left _ (List.mem_append_right _ h))))))))) (by decide) (List.mem_of_getElem? (i := 33) rfl) (fun _ h => h) dX8_clear_32 ?_
  refine s_callV (C := RX5) (As := [.int (0 : Int32), .ref (E.2.2.2 20)]) (rest := []) (i := 11) (kd := 5) S hX G (k_X5_isClearable_0 l E 11 20 b t u sv (by unfold IsLd; decide) (rfl : sh 20 = 1) (rfl : sh 21 = 20) e_b e_t e_u e_sv) (cwV (bytes := cX5_isClearable) (maxL := 3) (ret := (some .boolean)) 2 S.2.2.2.2 gX8_clear_X5_isClearable rfl rfl rfl (by decide +kernel) ⟨Nat.le_of_ble_eq_true rfl, Nat.le_of_ble_eq_true rfl⟩) (rfl : sh 11 = 5) rfl rfl rfl (by decide) rfl hl.1 rfl (Nat.le_of_ble_eq_true rfl) ⟨Nat.zero_le _, Nat.zero_le _⟩ dX8_clear_35 (fun v I1 L1 H locs hR G => ?_)
  obtain ⟨hv, hI, hL⟩ := hR
  subst hv
  have G : GS E I L sg H locs := G.same hI hL
  refine W.eq (g2 := F0 mg 38 ls [.int (if ¬ t 0 = 0 ∧ plcF t u 0 = 0 ∧ ¬ sv 2 ≤ absI (b 4) then 1 else 0)]) rfl ?_
  refine s_if_ne_b (P := ¬ t 0 = 0 ∧ plcF t u 0 = 0 ∧ ¬ sv 2 ≤ absI (b 4)) (tgt := 44) S dX8_clear_38 (by decide) (fun _ => ?_) (fun h => absurd ht h)
  refine lv_aload_n S.1 S.2.1 dX8_clear_44 rfl (lv_at hl 1 rfl) ?_
  refine s_get S hX G (i := 0) (kd := 8) (a := (I 0)) (v := .ref (E.2.2.2 53)) (C := RX8) (T := TX8) (N := 4) 2 (rfl : sh 0 = 8) rfl rfl rfl (by decide) rfl (fun _ h => (List.mem_cons_of_mem _ (List.mem_append_left _ (List.mem_append_left _ (List.mem_append_left _ (List.mem_append_left _ (List.mem_append_left _ (List.mem_append_left _ (List.mem_append_left _ (List.mem_append_right _ h)))))))))) (by decide) (List.mem_of_getElem? (i := 4) rfl) (fun _ h => h) dX8_clear_45 ?_
  refine lv_aload_n S.1 S.2.1 dX8_clear_48 rfl (lv_at hl 1 rfl) ?_
  refine s_get S hX G (i := 0) (kd := 8) (a := (I 0)) (v := .ref (E.2.2.2 1)) (C := RX8) (T := TX8) (N := 4) 0 (rfl : sh 0 = 8) rfl rfl rfl (by decide) rfl (fun _ h => (List.mem_cons_of_mem _ (List.mem_append_left _ (List.mem_append_left _ (List.mem_append_left _ (List.mem_append_left _ (List.mem_append_left _ (List.mem_append_left _ (List.mem_append_left _ (List.mem_append_right _ h)))))))))) (by decide) (List.mem_of_getElem? (i := 2) rfl) (fun _ h => h) dX8_clear_49 ?_
  refine s_callV (C := RX2) (As := [.ref (E.2.2.2 1)]) (rest := []) (i := 53) (kd := 2) S hX G (k_X2_record l E h o kp e_h ho hk ho4 hkp hisb) (cwV (bytes := cX2_record) (maxL := 2) (ret := none) 1 S.2.2.2.2 gX8_clear_X2_record rfl rfl rfl (by decide +kernel) ⟨Nat.le_of_ble_eq_true rfl, Nat.le_of_ble_eq_true rfl⟩) (rfl : sh 53 = 2) rfl rfl rfl (by decide) rfl hl.1 rfl (Nat.le_of_ble_eq_true rfl) ⟨Nat.zero_le _, Nat.zero_le _⟩ dX8_clear_52 (fun v I2 L2 H locs hR G => ?_)
  obtain ⟨hv, hRec⟩ := hR
  subst hv
  refine W.eq (g2 := F0 mg 55 ls []) rfl ?_
  refine lv_aload_n S.1 S.2.1 dX8_clear_55 rfl (lv_at hl 0 rfl) ?_
  refine s_getN S hX G (i := 11) (kd := 5) (a := b) (v := .ref (E.2.2.2 16)) (C := RX5) (T := TX5) (N := 13) 3 (rfl : sh 11 = 5) (Eq.trans (hRec.fr (by decide) (by decide)) e_b) rfl rfl (by decide) rfl (fun _ h => (List.mem_cons_of_mem _ (List.mem_append_left _ (List.mem_append_left _ (List.mem_append_left _ (List.mem_append_left _ (List.mem_append_left _ (List.mem_append_right _ h)))))))) (by decide) (List.mem_of_getElem? (i := 19) rfl) (fun _ h => h) dX8_clear_56 ?_
  refine lv_iload_n S.1 S.2.1 dX8_clear_59 rfl (lv_at hl 3 rfl) ?_
  refine s_callV (C := RX3) (As := [.int (0 : Int32)]) (rest := []) (i := 16) (kd := 3) S hX G (k_X3_release_0 l E 16 n t (rfl : sh 16 = 3) (rfl : sh 17 = 10) (rfl : sh 18 = 17) (rfl : sh 19 = 17) (Eq.trans (hRec.fr (by decide) (by decide)) e_n) (Eq.trans (hRec.fr (by decide) (by decide)) e_t)) (cwV (bytes := cX3_release) (maxL := 2) (ret := none) 1 S.2.2.2.2 gX8_clear_X3_release rfl rfl rfl (by decide +kernel) ⟨Nat.le_of_ble_eq_true rfl, Nat.le_of_ble_eq_true rfl⟩) (rfl : sh 16 = 3) rfl rfl rfl (by decide) rfl hl.1 rfl (Nat.le_of_ble_eq_true rfl) ⟨Nat.zero_le _, Nat.zero_le _⟩ dX8_clear_60 (fun v I1 L1 H locs hR G => ?_)
  obtain ⟨hv, hI, hL⟩ := hR
  subst hv
  obtain ⟨r_1, er_1⟩ : ∃ r : Nat → Int32, r = (if ¬ t 0 = 0 then upd n 3 (n 3 - 1) else n) := ⟨_, rfl⟩
  rw [← er_1] at hI
  obtain ⟨r_2, er_2⟩ : ∃ r : Nat → Int32, r = (if ¬ t 0 = 0 then upd t 0 0 else t) := ⟨_, rfl⟩
  rw [← er_2] at hI
  have G : GS E (up (up I2 16 r_1) 17 r_2) L2 sg H locs := G.same hI hL
  refine W.eq (g2 := F0 mg 63 ls []) rfl ?_
  refine lv_aload_n S.1 S.2.1 dX8_clear_63 rfl (lv_at hl 0 rfl) ?_
  refine s_getN S hX G (i := 11) (kd := 5) (a := b) (v := .ref (E.2.2.2 16)) (C := RX5) (T := TX5) (N := 13) 3 (rfl : sh 11 = 5) ((up_ne (by decide)).trans ((up_ne (by decide)).trans (Eq.trans (hRec.fr (by decide) (by decide)) e_b))) rfl rfl (by decide) rfl (fun _ h => (List.mem_cons_of_mem _ (List.mem_append_left _ (List.mem_append_left _ (List.mem_append_left _ (List.mem_append_left _ (List.mem_append_left _ (List.mem_append_right _ h)))))))) (by decide) (List.mem_of_getElem? (i := 19) rfl) (fun _ h => h) dX8_clear_64 ?_
  refine s_getN S hX G (i := 16) (kd := 3) (a := r_1) (v := .int (r_1 3)) (C := RX3) (T := TX3) (N := 4) 3 (rfl : sh 16 = 3) ((up_ne (by decide)).trans up_eq) rfl rfl (by decide) rfl (fun _ h => (List.mem_cons_of_mem _ (List.mem_append_left _ (List.mem_append_left _ (List.mem_append_left _ (List.mem_append_left _ (List.mem_append_right _ h))))))) (by decide) (List.mem_of_getElem? (i := 13) rfl) (fun _ h => h) dX8_clear_67 ?_
  refine s_iret (x := (r_1 3)) S G hr hlk dX8_clear_70 ?_
  exact ⟨(congrArg (fun q : Int32 => some (Value.int q)) (show (r_1 3) = (n 3 - 1) by subst er_2 er_1; rw [if_pos ht.1]; rfl)), I2, L2, hRec, (st_eq2 (Eq.trans ((up_ne (by decide)).trans up_eq) (show r_1 = (upd n 3 (n 3 - 1)) by subst er_2 er_1; rw [if_pos ht.1])) (Eq.trans up_eq (show r_2 = (upd t 0 0) by subst er_2 er_1; rw [if_pos ht.1])) (fun _ g0 g1 => ((up_ne g1).trans (up_ne g0)))), rfl⟩
set_option maxHeartbeats 4000000 in
set_option maxRecDepth 100000 in
theorem k_X8_clear_np_1_0 (l : Launch) (E : Ev) {I : SI} {L : SL} (b : Nat → Int32) (n : Nat → Int32) (t : Nat → Int32) (u : Nat → Int32) (sv : Nat → Int32) (e_b : I (11) = b) (e_n : I (16) = n) (e_t : I (17) = t) (e_u : I (18) = u) (e_sv : I (21) = sv) (ht : ¬ (¬ t 0 = 0 ∧ plcF t u 0 = 0 ∧ ¬ sv 2 ≤ absI (b 4))) : CS l yX8_clear wsX8_clear ({ frames := 5, cells := 0, slots := 0, locals := 110 }) E [.ref (E.2.2.2 0), .int (1 : Int32), .int (0 : Int32)] I L (fun vv I' L' => vv = some (.int (-2000000002 : Int32)) ∧ I' = I ∧ L' = L) := by
  refine CS.of (cc := cX8_clear) (maxL := 4) (ret := (some .int)) (by decide) rfl (Nat.le_of_ble_eq_true rfl) ?_
  intro pg en sg mg below meth cg ls S hr hlk hX G hl
  have S : CallFix pg mg cg cX8_clear 4 sg _ wsX8_clear RX8 := S
  have hl : lv_has ls 4 [(0, .ref (E.2.2.2 0)), (1, .int (1 : Int32)), (2, .int (0 : Int32))] := hl
  refine lv_iload_n S.1 S.2.1 dX8_clear_0 rfl (lv_at hl 1 rfl) ?_
  refine s_callS (As := [.int (1 : Int32)]) (rest := []) S hX G (k_X8_isLoad l E (1 : Int32)) (va_cwS (bytes := cX8_isLoad) (maxL := 1) (ret := (some .boolean)) 1 S.2.2.2.2 gX8_clear_X8_isLoad rfl rfl rfl (by decide +kernel) ⟨Nat.le_of_ble_eq_true rfl, Nat.le_of_ble_eq_true rfl⟩) rfl hl.1 rfl (Nat.le_of_ble_eq_true rfl) ⟨Nat.zero_le _, Nat.zero_le _⟩ dX8_clear_1 (fun v I1 L1 H locs hR G => ?_)
  obtain ⟨hv, hI, hL⟩ := hR
  subst hv
  have G : GS E I L sg H locs := G.same hI hL
  refine W.eq (g2 := F0 mg 4 ls [.int (if ¬ (1 : Int32) < (0 : Int32) ∧ ¬ (1 : Int32) < (1 : Int32) then 1 else 0)]) rfl ?_
  refine s_if_eq_b (P := ¬ (1 : Int32) < (0 : Int32) ∧ ¬ (1 : Int32) < (1 : Int32)) (tgt := 14) S dX8_clear_4 (by decide) (fun h => absurd (by decide) h) (fun _ => ?_)
  refine lv_iload_n S.1 S.2.1 dX8_clear_7 rfl (lv_at hl 2 rfl) ?_
  refine s_callS (As := [.int (0 : Int32)]) (rest := []) S hX G (k_X8_isFault l E (0 : Int32)) (va_cwS (bytes := cX8_isFault) (maxL := 1) (ret := (some .boolean)) 1 S.2.2.2.2 gX8_clear_X8_isFault rfl rfl rfl (by decide +kernel) ⟨Nat.le_of_ble_eq_true rfl, Nat.le_of_ble_eq_true rfl⟩) rfl hl.1 rfl (Nat.le_of_ble_eq_true rfl) ⟨Nat.zero_le _, Nat.zero_le _⟩ dX8_clear_8 (fun v I1 L1 H locs hR G => ?_)
  obtain ⟨hv, hI, hL⟩ := hR
  subst hv
  have G : GS E I L sg H locs := G.same hI hL
  refine W.eq (g2 := F0 mg 11 ls [.int (if ¬ (0 : Int32) < (0 : Int32) ∧ ¬ (2 : Int32) < (0 : Int32) then 1 else 0)]) rfl ?_
  refine s_if_ne_b (P := ¬ (0 : Int32) < (0 : Int32) ∧ ¬ (2 : Int32) < (0 : Int32)) (tgt := 17) S dX8_clear_11 (by decide) (fun _ => ?_) (fun h => absurd (by decide) h)
  refine lv_aload_n S.1 S.2.1 dX8_clear_17 rfl (lv_at hl 0 rfl) ?_
  refine s_get S hX G (i := 0) (kd := 8) (a := (I 0)) (v := .ref (E.2.2.2 1)) (C := RX8) (T := TX8) (N := 4) 0 (rfl : sh 0 = 8) rfl rfl rfl (by decide) rfl (fun _ h => (List.mem_cons_of_mem _ (List.mem_append_left _ (List.mem_append_left _ (List.mem_append_left _ (List.mem_append_left _ (List.mem_append_left _ (List.mem_append_left _ (List.mem_append_left _ (List.mem_append_right _ h)))))))))) (by decide) (List.mem_of_getElem? (i := 2) rfl) (fun _ h => h) dX8_clear_18 ?_
  refine lv_iload_n S.1 S.2.1 dX8_clear_21 rfl (lv_at hl 1 rfl) ?_
  refine s_callV (C := RX0) (As := [.int (1 : Int32)]) (rest := []) (i := 1) (kd := 0) S hX G (k_X0_loadAt_1 l E 1 (by unfold IsB; decide)) (cwV (bytes := cX0_loadAt) (maxL := 2) (ret := (some (.object "BridgeLegs$Load"))) 1 S.2.2.2.2 gX8_clear_X0_loadAt rfl rfl rfl (by decide +kernel) ⟨Nat.le_of_ble_eq_true rfl, Nat.le_of_ble_eq_true rfl⟩) (rfl : sh 1 = 0) rfl rfl rfl (by decide) rfl hl.1 rfl (Nat.le_of_ble_eq_true rfl) ⟨Nat.zero_le _, Nat.zero_le _⟩ dX8_clear_22 (fun v I1 L1 H locs hR G => ?_)
  obtain ⟨hv, hI, hL⟩ := hR
  subst hv
  have G : GS E I L sg H locs := G.same hI hL
  refine W.eq (g2 := F0 mg 25 ls [.ref (E.2.2.2 11)]) rfl ?_
  refine lv_astore_n (lv' := [(3, .ref (E.2.2.2 11)), (0, .ref (E.2.2.2 0)), (1, .int (1 : Int32)), (2, .int (0 : Int32))]) S.1 S.2.1 dX8_clear_25 rfl hl (by decide) rfl (fun ls hl => ?_)
  refine lv_aload_n S.1 S.2.1 dX8_clear_26 rfl (lv_at hl 0 rfl) ?_
  refine lv_iload_n S.1 S.2.1 dX8_clear_27 rfl (lv_at hl 3 rfl) ?_
  refine lv_aload_n S.1 S.2.1 dX8_clear_28 rfl (lv_at hl 1 rfl) ?_
  refine s_get S hX G (i := 0) (kd := 8) (a := (I 0)) (v := .ref (E.2.2.2 1)) (C := RX8) (T := TX8) (N := 4) 0 (rfl : sh 0 = 8) rfl rfl rfl (by decide) rfl (fun _ h => (List.mem_cons_of_mem _ (List.mem_append_left _ (List.mem_append_left _ (List.mem_append_left _ (List.mem_append_left _ (List.mem_append_left _ (List.mem_append_left _ (List.mem_append_left _ (List.mem_append_right _ h)))))))))) (by decide) (List.mem_of_getElem? (i := 2) rfl) (fun _ h => h) dX8_clear_29 ?_
  refine s_getN S hX G (i := 1) (kd := 0) (a := (I 1)) (v := .ref (E.2.2.2 20)) (C := RX0) (T := TX0) (N := 5) 2 (rfl : sh 1 = 0) rfl rfl rfl (by decide) rfl (fun _ h => (List.mem_cons_of_mem _ (List.mem_append_left _ (List.mem_append_left _ (List.mem_append_left _ (List.mem_append_left _ (List.mem_append_left _ (List.mem_append_left _ (List.mem_append_right _ h))))))))) (by decide) (List.mem_of_getElem? (i := 33) rfl) (fun _ h => h) dX8_clear_32 ?_
  refine s_callV (C := RX5) (As := [.int (0 : Int32), .ref (E.2.2.2 20)]) (rest := []) (i := 11) (kd := 5) S hX G (k_X5_isClearable_0 l E 11 20 b t u sv (by unfold IsLd; decide) (rfl : sh 20 = 1) (rfl : sh 21 = 20) e_b e_t e_u e_sv) (cwV (bytes := cX5_isClearable) (maxL := 3) (ret := (some .boolean)) 2 S.2.2.2.2 gX8_clear_X5_isClearable rfl rfl rfl (by decide +kernel) ⟨Nat.le_of_ble_eq_true rfl, Nat.le_of_ble_eq_true rfl⟩) (rfl : sh 11 = 5) rfl rfl rfl (by decide) rfl hl.1 rfl (Nat.le_of_ble_eq_true rfl) ⟨Nat.zero_le _, Nat.zero_le _⟩ dX8_clear_35 (fun v I1 L1 H locs hR G => ?_)
  obtain ⟨hv, hI, hL⟩ := hR
  subst hv
  have G : GS E I L sg H locs := G.same hI hL
  refine W.eq (g2 := F0 mg 38 ls [.int (if ¬ t 0 = 0 ∧ plcF t u 0 = 0 ∧ ¬ sv 2 ≤ absI (b 4) then 1 else 0)]) rfl ?_
  refine s_if_ne_b (P := ¬ t 0 = 0 ∧ plcF t u 0 = 0 ∧ ¬ sv 2 ≤ absI (b 4)) (tgt := 44) S dX8_clear_38 (by decide) (fun h => absurd h ht) (fun _ => ?_)
  refine lv_ldc (v := (-2000000002 : Int32)) S.1 S.2.1 S.2.2.2.1 (S.2.2.2.2 _ (List.mem_of_getElem? (i := 3) rfl)) dX8_clear_41 ?_
  refine s_iret (x := (-2000000002 : Int32)) S G hr hlk dX8_clear_43 ?_
  exact ⟨rfl, rfl, rfl⟩
set_option maxHeartbeats 4000000 in
set_option maxRecDepth 100000 in
theorem k_X8_clear_ok_1_1 (l : Launch) (E : Ev) {I : SI} {L : SL} (h : Nat → Int32) (b : Nat → Int32) (n : Nat → Int32) (t : Nat → Int32) (u : Nat → Int32) (sv : Nat → Int32) (o kp : Nat) (e_h : I (53) = h) (e_b : I (11) = b) (e_n : I (16) = n) (e_t : I (17) = t) (e_u : I (18) = u) (e_sv : I (21) = sv) (ho : h 1 = nI o) (hk : h 2 = nI kp) (ho4 : o < 4) (hkp : kp ≤ 4) (hisb : IsbB I 1) (ht : ¬ t 1 = 0 ∧ plcF t u 1 = 0) : CS l yX8_clear wsX8_clear ({ frames := 5, cells := 0, slots := 0, locals := 110 }) E [.ref (E.2.2.2 0), .int (1 : Int32), .int (1 : Int32)] I L (fun vv I' L' => vv = some (.int (n 3 - 1)) ∧ ∃ I1 L1, RecP I L I1 L1 o kp ∧ I' = (up (up I1 (16) (upd n 3 (n 3 - 1))) (17) (upd t 1 0)) ∧ L' = L1) := by
  refine CS.of (cc := cX8_clear) (maxL := 4) (ret := (some .int)) (by decide) rfl (Nat.le_of_ble_eq_true rfl) ?_
  intro pg en sg mg below meth cg ls S hr hlk hX G hl
  have S : CallFix pg mg cg cX8_clear 4 sg _ wsX8_clear RX8 := S
  have hl : lv_has ls 4 [(0, .ref (E.2.2.2 0)), (1, .int (1 : Int32)), (2, .int (1 : Int32))] := hl
  refine lv_iload_n S.1 S.2.1 dX8_clear_0 rfl (lv_at hl 1 rfl) ?_
  refine s_callS (As := [.int (1 : Int32)]) (rest := []) S hX G (k_X8_isLoad l E (1 : Int32)) (va_cwS (bytes := cX8_isLoad) (maxL := 1) (ret := (some .boolean)) 1 S.2.2.2.2 gX8_clear_X8_isLoad rfl rfl rfl (by decide +kernel) ⟨Nat.le_of_ble_eq_true rfl, Nat.le_of_ble_eq_true rfl⟩) rfl hl.1 rfl (Nat.le_of_ble_eq_true rfl) ⟨Nat.zero_le _, Nat.zero_le _⟩ dX8_clear_1 (fun v I1 L1 H locs hR G => ?_)
  obtain ⟨hv, hI, hL⟩ := hR
  subst hv
  have G : GS E I L sg H locs := G.same hI hL
  refine W.eq (g2 := F0 mg 4 ls [.int (if ¬ (1 : Int32) < (0 : Int32) ∧ ¬ (1 : Int32) < (1 : Int32) then 1 else 0)]) rfl ?_
  refine s_if_eq_b (P := ¬ (1 : Int32) < (0 : Int32) ∧ ¬ (1 : Int32) < (1 : Int32)) (tgt := 14) S dX8_clear_4 (by decide) (fun h => absurd (by decide) h) (fun _ => ?_)
  refine lv_iload_n S.1 S.2.1 dX8_clear_7 rfl (lv_at hl 2 rfl) ?_
  refine s_callS (As := [.int (1 : Int32)]) (rest := []) S hX G (k_X8_isFault l E (1 : Int32)) (va_cwS (bytes := cX8_isFault) (maxL := 1) (ret := (some .boolean)) 1 S.2.2.2.2 gX8_clear_X8_isFault rfl rfl rfl (by decide +kernel) ⟨Nat.le_of_ble_eq_true rfl, Nat.le_of_ble_eq_true rfl⟩) rfl hl.1 rfl (Nat.le_of_ble_eq_true rfl) ⟨Nat.zero_le _, Nat.zero_le _⟩ dX8_clear_8 (fun v I1 L1 H locs hR G => ?_)
  obtain ⟨hv, hI, hL⟩ := hR
  subst hv
  have G : GS E I L sg H locs := G.same hI hL
  refine W.eq (g2 := F0 mg 11 ls [.int (if ¬ (1 : Int32) < (0 : Int32) ∧ ¬ (2 : Int32) < (1 : Int32) then 1 else 0)]) rfl ?_
  refine s_if_ne_b (P := ¬ (1 : Int32) < (0 : Int32) ∧ ¬ (2 : Int32) < (1 : Int32)) (tgt := 17) S dX8_clear_11 (by decide) (fun _ => ?_) (fun h => absurd (by decide) h)
  refine lv_aload_n S.1 S.2.1 dX8_clear_17 rfl (lv_at hl 0 rfl) ?_
  refine s_get S hX G (i := 0) (kd := 8) (a := (I 0)) (v := .ref (E.2.2.2 1)) (C := RX8) (T := TX8) (N := 4) 0 (rfl : sh 0 = 8) rfl rfl rfl (by decide) rfl (fun _ h => (List.mem_cons_of_mem _ (List.mem_append_left _ (List.mem_append_left _ (List.mem_append_left _ (List.mem_append_left _ (List.mem_append_left _ (List.mem_append_left _ (List.mem_append_left _ (List.mem_append_right _ h)))))))))) (by decide) (List.mem_of_getElem? (i := 2) rfl) (fun _ h => h) dX8_clear_18 ?_
  refine lv_iload_n S.1 S.2.1 dX8_clear_21 rfl (lv_at hl 1 rfl) ?_
  refine s_callV (C := RX0) (As := [.int (1 : Int32)]) (rest := []) (i := 1) (kd := 0) S hX G (k_X0_loadAt_1 l E 1 (by unfold IsB; decide)) (cwV (bytes := cX0_loadAt) (maxL := 2) (ret := (some (.object "BridgeLegs$Load"))) 1 S.2.2.2.2 gX8_clear_X0_loadAt rfl rfl rfl (by decide +kernel) ⟨Nat.le_of_ble_eq_true rfl, Nat.le_of_ble_eq_true rfl⟩) (rfl : sh 1 = 0) rfl rfl rfl (by decide) rfl hl.1 rfl (Nat.le_of_ble_eq_true rfl) ⟨Nat.zero_le _, Nat.zero_le _⟩ dX8_clear_22 (fun v I1 L1 H locs hR G => ?_)
  obtain ⟨hv, hI, hL⟩ := hR
  subst hv
  have G : GS E I L sg H locs := G.same hI hL
  refine W.eq (g2 := F0 mg 25 ls [.ref (E.2.2.2 11)]) rfl ?_
  refine lv_astore_n (lv' := [(3, .ref (E.2.2.2 11)), (0, .ref (E.2.2.2 0)), (1, .int (1 : Int32)), (2, .int (1 : Int32))]) S.1 S.2.1 dX8_clear_25 rfl hl (by decide) rfl (fun ls hl => ?_)
  refine lv_aload_n S.1 S.2.1 dX8_clear_26 rfl (lv_at hl 0 rfl) ?_
  refine lv_iload_n S.1 S.2.1 dX8_clear_27 rfl (lv_at hl 3 rfl) ?_
  refine lv_aload_n S.1 S.2.1 dX8_clear_28 rfl (lv_at hl 1 rfl) ?_
  refine s_get S hX G (i := 0) (kd := 8) (a := (I 0)) (v := .ref (E.2.2.2 1)) (C := RX8) (T := TX8) (N := 4) 0 (rfl : sh 0 = 8) rfl rfl rfl (by decide) rfl (fun _ h => (List.mem_cons_of_mem _ (List.mem_append_left _ (List.mem_append_left _ (List.mem_append_left _ (List.mem_append_left _ (List.mem_append_left _ (List.mem_append_left _ (List.mem_append_left _ (List.mem_append_right _ h)))))))))) (by decide) (List.mem_of_getElem? (i := 2) rfl) (fun _ h => h) dX8_clear_29 ?_
  refine s_getN S hX G (i := 1) (kd := 0) (a := (I 1)) (v := .ref (E.2.2.2 20)) (C := RX0) (T := TX0) (N := 5) 2 (rfl : sh 1 = 0) rfl rfl rfl (by decide) rfl (fun _ h => (List.mem_cons_of_mem _ (List.mem_append_left _ (List.mem_append_left _ (List.mem_append_left _ (List.mem_append_left _ (List.mem_append_left _ (List.mem_append_left _ (List.mem_append_right _ h))))))))) (by decide) (List.mem_of_getElem? (i := 33) rfl) (fun _ h => h) dX8_clear_32 ?_
  refine s_callV (C := RX5) (As := [.int (1 : Int32), .ref (E.2.2.2 20)]) (rest := []) (i := 11) (kd := 5) S hX G (k_X5_isClearable_1 l E 11 20 b t u sv (by unfold IsLd; decide) (rfl : sh 20 = 1) (rfl : sh 21 = 20) e_b e_t e_u e_sv) (cwV (bytes := cX5_isClearable) (maxL := 3) (ret := (some .boolean)) 2 S.2.2.2.2 gX8_clear_X5_isClearable rfl rfl rfl (by decide +kernel) ⟨Nat.le_of_ble_eq_true rfl, Nat.le_of_ble_eq_true rfl⟩) (rfl : sh 11 = 5) rfl rfl rfl (by decide) rfl hl.1 rfl (Nat.le_of_ble_eq_true rfl) ⟨Nat.zero_le _, Nat.zero_le _⟩ dX8_clear_35 (fun v I1 L1 H locs hR G => ?_)
  obtain ⟨hv, hI, hL⟩ := hR
  subst hv
  have G : GS E I L sg H locs := G.same hI hL
  refine W.eq (g2 := F0 mg 38 ls [.int (if ¬ t 1 = 0 ∧ plcF t u 1 = 0 then 1 else 0)]) rfl ?_
  refine s_if_ne_b (P := ¬ t 1 = 0 ∧ plcF t u 1 = 0) (tgt := 44) S dX8_clear_38 (by decide) (fun _ => ?_) (fun h => absurd ht h)
  refine lv_aload_n S.1 S.2.1 dX8_clear_44 rfl (lv_at hl 1 rfl) ?_
  refine s_get S hX G (i := 0) (kd := 8) (a := (I 0)) (v := .ref (E.2.2.2 53)) (C := RX8) (T := TX8) (N := 4) 2 (rfl : sh 0 = 8) rfl rfl rfl (by decide) rfl (fun _ h => (List.mem_cons_of_mem _ (List.mem_append_left _ (List.mem_append_left _ (List.mem_append_left _ (List.mem_append_left _ (List.mem_append_left _ (List.mem_append_left _ (List.mem_append_left _ (List.mem_append_right _ h)))))))))) (by decide) (List.mem_of_getElem? (i := 4) rfl) (fun _ h => h) dX8_clear_45 ?_
  refine lv_aload_n S.1 S.2.1 dX8_clear_48 rfl (lv_at hl 1 rfl) ?_
  refine s_get S hX G (i := 0) (kd := 8) (a := (I 0)) (v := .ref (E.2.2.2 1)) (C := RX8) (T := TX8) (N := 4) 0 (rfl : sh 0 = 8) rfl rfl rfl (by decide) rfl (fun _ h => (List.mem_cons_of_mem _ (List.mem_append_left _ (List.mem_append_left _ (List.mem_append_left _ (List.mem_append_left _ (List.mem_append_left _ (List.mem_append_left _ (List.mem_append_left _ (List.mem_append_right _ h)))))))))) (by decide) (List.mem_of_getElem? (i := 2) rfl) (fun _ h => h) dX8_clear_49 ?_
  refine s_callV (C := RX2) (As := [.ref (E.2.2.2 1)]) (rest := []) (i := 53) (kd := 2) S hX G (k_X2_record l E h o kp e_h ho hk ho4 hkp hisb) (cwV (bytes := cX2_record) (maxL := 2) (ret := none) 1 S.2.2.2.2 gX8_clear_X2_record rfl rfl rfl (by decide +kernel) ⟨Nat.le_of_ble_eq_true rfl, Nat.le_of_ble_eq_true rfl⟩) (rfl : sh 53 = 2) rfl rfl rfl (by decide) rfl hl.1 rfl (Nat.le_of_ble_eq_true rfl) ⟨Nat.zero_le _, Nat.zero_le _⟩ dX8_clear_52 (fun v I2 L2 H locs hR G => ?_)
  obtain ⟨hv, hRec⟩ := hR
  subst hv
  refine W.eq (g2 := F0 mg 55 ls []) rfl ?_
  refine lv_aload_n S.1 S.2.1 dX8_clear_55 rfl (lv_at hl 0 rfl) ?_
  refine s_getN S hX G (i := 11) (kd := 5) (a := b) (v := .ref (E.2.2.2 16)) (C := RX5) (T := TX5) (N := 13) 3 (rfl : sh 11 = 5) (Eq.trans (hRec.fr (by decide) (by decide)) e_b) rfl rfl (by decide) rfl (fun _ h => (List.mem_cons_of_mem _ (List.mem_append_left _ (List.mem_append_left _ (List.mem_append_left _ (List.mem_append_left _ (List.mem_append_left _ (List.mem_append_right _ h)))))))) (by decide) (List.mem_of_getElem? (i := 19) rfl) (fun _ h => h) dX8_clear_56 ?_
  refine lv_iload_n S.1 S.2.1 dX8_clear_59 rfl (lv_at hl 3 rfl) ?_
  refine s_callV (C := RX3) (As := [.int (1 : Int32)]) (rest := []) (i := 16) (kd := 3) S hX G (k_X3_release_1 l E 16 n t (rfl : sh 16 = 3) (rfl : sh 17 = 10) (rfl : sh 18 = 17) (rfl : sh 19 = 17) (Eq.trans (hRec.fr (by decide) (by decide)) e_n) (Eq.trans (hRec.fr (by decide) (by decide)) e_t)) (cwV (bytes := cX3_release) (maxL := 2) (ret := none) 1 S.2.2.2.2 gX8_clear_X3_release rfl rfl rfl (by decide +kernel) ⟨Nat.le_of_ble_eq_true rfl, Nat.le_of_ble_eq_true rfl⟩) (rfl : sh 16 = 3) rfl rfl rfl (by decide) rfl hl.1 rfl (Nat.le_of_ble_eq_true rfl) ⟨Nat.zero_le _, Nat.zero_le _⟩ dX8_clear_60 (fun v I1 L1 H locs hR G => ?_)
  obtain ⟨hv, hI, hL⟩ := hR
  subst hv
  obtain ⟨r_1, er_1⟩ : ∃ r : Nat → Int32, r = (if ¬ t 1 = 0 then upd n 3 (n 3 - 1) else n) := ⟨_, rfl⟩
  rw [← er_1] at hI
  obtain ⟨r_2, er_2⟩ : ∃ r : Nat → Int32, r = (if ¬ t 1 = 0 then upd t 1 0 else t) := ⟨_, rfl⟩
  rw [← er_2] at hI
  have G : GS E (up (up I2 16 r_1) 17 r_2) L2 sg H locs := G.same hI hL
  refine W.eq (g2 := F0 mg 63 ls []) rfl ?_
  refine lv_aload_n S.1 S.2.1 dX8_clear_63 rfl (lv_at hl 0 rfl) ?_
  refine s_getN S hX G (i := 11) (kd := 5) (a := b) (v := .ref (E.2.2.2 16)) (C := RX5) (T := TX5) (N := 13) 3 (rfl : sh 11 = 5) ((up_ne (by decide)).trans ((up_ne (by decide)).trans (Eq.trans (hRec.fr (by decide) (by decide)) e_b))) rfl rfl (by decide) rfl (fun _ h => (List.mem_cons_of_mem _ (List.mem_append_left _ (List.mem_append_left _ (List.mem_append_left _ (List.mem_append_left _ (List.mem_append_left _ (List.mem_append_right _ h)))))))) (by decide) (List.mem_of_getElem? (i := 19) rfl) (fun _ h => h) dX8_clear_64 ?_
  refine s_getN S hX G (i := 16) (kd := 3) (a := r_1) (v := .int (r_1 3)) (C := RX3) (T := TX3) (N := 4) 3 (rfl : sh 16 = 3) ((up_ne (by decide)).trans up_eq) rfl rfl (by decide) rfl (fun _ h => (List.mem_cons_of_mem _ (List.mem_append_left _ (List.mem_append_left _ (List.mem_append_left _ (List.mem_append_left _ (List.mem_append_right _ h))))))) (by decide) (List.mem_of_getElem? (i := 13) rfl) (fun _ h => h) dX8_clear_67 ?_
  refine s_iret (x := (r_1 3)) S G hr hlk dX8_clear_70 ?_
  exact ⟨(congrArg (fun q : Int32 => some (Value.int q)) (show (r_1 3) = (n 3 - 1) by subst er_2 er_1; rw [if_pos ht.1]; rfl)), I2, L2, hRec, (st_eq2 (Eq.trans ((up_ne (by decide)).trans up_eq) (show r_1 = (upd n 3 (n 3 - 1)) by subst er_2 er_1; rw [if_pos ht.1])) (Eq.trans up_eq (show r_2 = (upd t 1 0) by subst er_2 er_1; rw [if_pos ht.1])) (fun _ g0 g1 => ((up_ne g1).trans (up_ne g0)))), rfl⟩
set_option maxHeartbeats 4000000 in
set_option maxRecDepth 100000 in
theorem k_X8_clear_np_1_1 (l : Launch) (E : Ev) {I : SI} {L : SL} (b : Nat → Int32) (n : Nat → Int32) (t : Nat → Int32) (u : Nat → Int32) (sv : Nat → Int32) (e_b : I (11) = b) (e_n : I (16) = n) (e_t : I (17) = t) (e_u : I (18) = u) (e_sv : I (21) = sv) (ht : ¬ (¬ t 1 = 0 ∧ plcF t u 1 = 0)) : CS l yX8_clear wsX8_clear ({ frames := 5, cells := 0, slots := 0, locals := 110 }) E [.ref (E.2.2.2 0), .int (1 : Int32), .int (1 : Int32)] I L (fun vv I' L' => vv = some (.int (-2000000002 : Int32)) ∧ I' = I ∧ L' = L) := by
  refine CS.of (cc := cX8_clear) (maxL := 4) (ret := (some .int)) (by decide) rfl (Nat.le_of_ble_eq_true rfl) ?_
  intro pg en sg mg below meth cg ls S hr hlk hX G hl
  have S : CallFix pg mg cg cX8_clear 4 sg _ wsX8_clear RX8 := S
  have hl : lv_has ls 4 [(0, .ref (E.2.2.2 0)), (1, .int (1 : Int32)), (2, .int (1 : Int32))] := hl
  refine lv_iload_n S.1 S.2.1 dX8_clear_0 rfl (lv_at hl 1 rfl) ?_
  refine s_callS (As := [.int (1 : Int32)]) (rest := []) S hX G (k_X8_isLoad l E (1 : Int32)) (va_cwS (bytes := cX8_isLoad) (maxL := 1) (ret := (some .boolean)) 1 S.2.2.2.2 gX8_clear_X8_isLoad rfl rfl rfl (by decide +kernel) ⟨Nat.le_of_ble_eq_true rfl, Nat.le_of_ble_eq_true rfl⟩) rfl hl.1 rfl (Nat.le_of_ble_eq_true rfl) ⟨Nat.zero_le _, Nat.zero_le _⟩ dX8_clear_1 (fun v I1 L1 H locs hR G => ?_)
  obtain ⟨hv, hI, hL⟩ := hR
  subst hv
  have G : GS E I L sg H locs := G.same hI hL
  refine W.eq (g2 := F0 mg 4 ls [.int (if ¬ (1 : Int32) < (0 : Int32) ∧ ¬ (1 : Int32) < (1 : Int32) then 1 else 0)]) rfl ?_
  refine s_if_eq_b (P := ¬ (1 : Int32) < (0 : Int32) ∧ ¬ (1 : Int32) < (1 : Int32)) (tgt := 14) S dX8_clear_4 (by decide) (fun h => absurd (by decide) h) (fun _ => ?_)
  refine lv_iload_n S.1 S.2.1 dX8_clear_7 rfl (lv_at hl 2 rfl) ?_
  refine s_callS (As := [.int (1 : Int32)]) (rest := []) S hX G (k_X8_isFault l E (1 : Int32)) (va_cwS (bytes := cX8_isFault) (maxL := 1) (ret := (some .boolean)) 1 S.2.2.2.2 gX8_clear_X8_isFault rfl rfl rfl (by decide +kernel) ⟨Nat.le_of_ble_eq_true rfl, Nat.le_of_ble_eq_true rfl⟩) rfl hl.1 rfl (Nat.le_of_ble_eq_true rfl) ⟨Nat.zero_le _, Nat.zero_le _⟩ dX8_clear_8 (fun v I1 L1 H locs hR G => ?_)
  obtain ⟨hv, hI, hL⟩ := hR
  subst hv
  have G : GS E I L sg H locs := G.same hI hL
  refine W.eq (g2 := F0 mg 11 ls [.int (if ¬ (1 : Int32) < (0 : Int32) ∧ ¬ (2 : Int32) < (1 : Int32) then 1 else 0)]) rfl ?_
  refine s_if_ne_b (P := ¬ (1 : Int32) < (0 : Int32) ∧ ¬ (2 : Int32) < (1 : Int32)) (tgt := 17) S dX8_clear_11 (by decide) (fun _ => ?_) (fun h => absurd (by decide) h)
  refine lv_aload_n S.1 S.2.1 dX8_clear_17 rfl (lv_at hl 0 rfl) ?_
  refine s_get S hX G (i := 0) (kd := 8) (a := (I 0)) (v := .ref (E.2.2.2 1)) (C := RX8) (T := TX8) (N := 4) 0 (rfl : sh 0 = 8) rfl rfl rfl (by decide) rfl (fun _ h => (List.mem_cons_of_mem _ (List.mem_append_left _ (List.mem_append_left _ (List.mem_append_left _ (List.mem_append_left _ (List.mem_append_left _ (List.mem_append_left _ (List.mem_append_left _ (List.mem_append_right _ h)))))))))) (by decide) (List.mem_of_getElem? (i := 2) rfl) (fun _ h => h) dX8_clear_18 ?_
  refine lv_iload_n S.1 S.2.1 dX8_clear_21 rfl (lv_at hl 1 rfl) ?_
  refine s_callV (C := RX0) (As := [.int (1 : Int32)]) (rest := []) (i := 1) (kd := 0) S hX G (k_X0_loadAt_1 l E 1 (by unfold IsB; decide)) (cwV (bytes := cX0_loadAt) (maxL := 2) (ret := (some (.object "BridgeLegs$Load"))) 1 S.2.2.2.2 gX8_clear_X0_loadAt rfl rfl rfl (by decide +kernel) ⟨Nat.le_of_ble_eq_true rfl, Nat.le_of_ble_eq_true rfl⟩) (rfl : sh 1 = 0) rfl rfl rfl (by decide) rfl hl.1 rfl (Nat.le_of_ble_eq_true rfl) ⟨Nat.zero_le _, Nat.zero_le _⟩ dX8_clear_22 (fun v I1 L1 H locs hR G => ?_)
  obtain ⟨hv, hI, hL⟩ := hR
  subst hv
  have G : GS E I L sg H locs := G.same hI hL
  refine W.eq (g2 := F0 mg 25 ls [.ref (E.2.2.2 11)]) rfl ?_
  refine lv_astore_n (lv' := [(3, .ref (E.2.2.2 11)), (0, .ref (E.2.2.2 0)), (1, .int (1 : Int32)), (2, .int (1 : Int32))]) S.1 S.2.1 dX8_clear_25 rfl hl (by decide) rfl (fun ls hl => ?_)
  refine lv_aload_n S.1 S.2.1 dX8_clear_26 rfl (lv_at hl 0 rfl) ?_
  refine lv_iload_n S.1 S.2.1 dX8_clear_27 rfl (lv_at hl 3 rfl) ?_
  refine lv_aload_n S.1 S.2.1 dX8_clear_28 rfl (lv_at hl 1 rfl) ?_
  refine s_get S hX G (i := 0) (kd := 8) (a := (I 0)) (v := .ref (E.2.2.2 1)) (C := RX8) (T := TX8) (N := 4) 0 (rfl : sh 0 = 8) rfl rfl rfl (by decide) rfl (fun _ h => (List.mem_cons_of_mem _ (List.mem_append_left _ (List.mem_append_left _ (List.mem_append_left _ (List.mem_append_left _ (List.mem_append_left _ (List.mem_append_left _ (List.mem_append_left _ (List.mem_append_right _ h)))))))))) (by decide) (List.mem_of_getElem? (i := 2) rfl) (fun _ h => h) dX8_clear_29 ?_
  refine s_getN S hX G (i := 1) (kd := 0) (a := (I 1)) (v := .ref (E.2.2.2 20)) (C := RX0) (T := TX0) (N := 5) 2 (rfl : sh 1 = 0) rfl rfl rfl (by decide) rfl (fun _ h => (List.mem_cons_of_mem _ (List.mem_append_left _ (List.mem_append_left _ (List.mem_append_left _ (List.mem_append_left _ (List.mem_append_left _ (List.mem_append_left _ (List.mem_append_right _ h))))))))) (by decide) (List.mem_of_getElem? (i := 33) rfl) (fun _ h => h) dX8_clear_32 ?_
  refine s_callV (C := RX5) (As := [.int (1 : Int32), .ref (E.2.2.2 20)]) (rest := []) (i := 11) (kd := 5) S hX G (k_X5_isClearable_1 l E 11 20 b t u sv (by unfold IsLd; decide) (rfl : sh 20 = 1) (rfl : sh 21 = 20) e_b e_t e_u e_sv) (cwV (bytes := cX5_isClearable) (maxL := 3) (ret := (some .boolean)) 2 S.2.2.2.2 gX8_clear_X5_isClearable rfl rfl rfl (by decide +kernel) ⟨Nat.le_of_ble_eq_true rfl, Nat.le_of_ble_eq_true rfl⟩) (rfl : sh 11 = 5) rfl rfl rfl (by decide) rfl hl.1 rfl (Nat.le_of_ble_eq_true rfl) ⟨Nat.zero_le _, Nat.zero_le _⟩ dX8_clear_35 (fun v I1 L1 H locs hR G => ?_)
  obtain ⟨hv, hI, hL⟩ := hR
  subst hv
  have G : GS E I L sg H locs := G.same hI hL
  refine W.eq (g2 := F0 mg 38 ls [.int (if ¬ t 1 = 0 ∧ plcF t u 1 = 0 then 1 else 0)]) rfl ?_
  refine s_if_ne_b (P := ¬ t 1 = 0 ∧ plcF t u 1 = 0) (tgt := 44) S dX8_clear_38 (by decide) (fun h => absurd h ht) (fun _ => ?_)
  refine lv_ldc (v := (-2000000002 : Int32)) S.1 S.2.1 S.2.2.2.1 (S.2.2.2.2 _ (List.mem_of_getElem? (i := 3) rfl)) dX8_clear_41 ?_
  refine s_iret (x := (-2000000002 : Int32)) S G hr hlk dX8_clear_43 ?_
  exact ⟨rfl, rfl, rfl⟩
set_option maxHeartbeats 4000000 in
set_option maxRecDepth 100000 in
theorem k_X8_clear_ok_1_2 (l : Launch) (E : Ev) {I : SI} {L : SL} (h : Nat → Int32) (b : Nat → Int32) (n : Nat → Int32) (t : Nat → Int32) (u : Nat → Int32) (sv : Nat → Int32) (o kp : Nat) (e_h : I (53) = h) (e_b : I (11) = b) (e_n : I (16) = n) (e_t : I (17) = t) (e_u : I (18) = u) (e_sv : I (21) = sv) (ho : h 1 = nI o) (hk : h 2 = nI kp) (ho4 : o < 4) (hkp : kp ≤ 4) (hisb : IsbB I 1) (ht : ¬ t 2 = 0 ∧ plcF t u 2 = 0 ∧ ¬ sv 4 / 2 < b 5) : CS l yX8_clear wsX8_clear ({ frames := 5, cells := 0, slots := 0, locals := 110 }) E [.ref (E.2.2.2 0), .int (1 : Int32), .int (2 : Int32)] I L (fun vv I' L' => vv = some (.int (n 3 - 1)) ∧ ∃ I1 L1, RecP I L I1 L1 o kp ∧ I' = (up (up I1 (16) (upd n 3 (n 3 - 1))) (17) (upd t 2 0)) ∧ L' = L1) := by
  refine CS.of (cc := cX8_clear) (maxL := 4) (ret := (some .int)) (by decide) rfl (Nat.le_of_ble_eq_true rfl) ?_
  intro pg en sg mg below meth cg ls S hr hlk hX G hl
  have S : CallFix pg mg cg cX8_clear 4 sg _ wsX8_clear RX8 := S
  have hl : lv_has ls 4 [(0, .ref (E.2.2.2 0)), (1, .int (1 : Int32)), (2, .int (2 : Int32))] := hl
  refine lv_iload_n S.1 S.2.1 dX8_clear_0 rfl (lv_at hl 1 rfl) ?_
  refine s_callS (As := [.int (1 : Int32)]) (rest := []) S hX G (k_X8_isLoad l E (1 : Int32)) (va_cwS (bytes := cX8_isLoad) (maxL := 1) (ret := (some .boolean)) 1 S.2.2.2.2 gX8_clear_X8_isLoad rfl rfl rfl (by decide +kernel) ⟨Nat.le_of_ble_eq_true rfl, Nat.le_of_ble_eq_true rfl⟩) rfl hl.1 rfl (Nat.le_of_ble_eq_true rfl) ⟨Nat.zero_le _, Nat.zero_le _⟩ dX8_clear_1 (fun v I1 L1 H locs hR G => ?_)
  obtain ⟨hv, hI, hL⟩ := hR
  subst hv
  have G : GS E I L sg H locs := G.same hI hL
  refine W.eq (g2 := F0 mg 4 ls [.int (if ¬ (1 : Int32) < (0 : Int32) ∧ ¬ (1 : Int32) < (1 : Int32) then 1 else 0)]) rfl ?_
  refine s_if_eq_b (P := ¬ (1 : Int32) < (0 : Int32) ∧ ¬ (1 : Int32) < (1 : Int32)) (tgt := 14) S dX8_clear_4 (by decide) (fun h => absurd (by decide) h) (fun _ => ?_)
  refine lv_iload_n S.1 S.2.1 dX8_clear_7 rfl (lv_at hl 2 rfl) ?_
  refine s_callS (As := [.int (2 : Int32)]) (rest := []) S hX G (k_X8_isFault l E (2 : Int32)) (va_cwS (bytes := cX8_isFault) (maxL := 1) (ret := (some .boolean)) 1 S.2.2.2.2 gX8_clear_X8_isFault rfl rfl rfl (by decide +kernel) ⟨Nat.le_of_ble_eq_true rfl, Nat.le_of_ble_eq_true rfl⟩) rfl hl.1 rfl (Nat.le_of_ble_eq_true rfl) ⟨Nat.zero_le _, Nat.zero_le _⟩ dX8_clear_8 (fun v I1 L1 H locs hR G => ?_)
  obtain ⟨hv, hI, hL⟩ := hR
  subst hv
  have G : GS E I L sg H locs := G.same hI hL
  refine W.eq (g2 := F0 mg 11 ls [.int (if ¬ (2 : Int32) < (0 : Int32) ∧ ¬ (2 : Int32) < (2 : Int32) then 1 else 0)]) rfl ?_
  refine s_if_ne_b (P := ¬ (2 : Int32) < (0 : Int32) ∧ ¬ (2 : Int32) < (2 : Int32)) (tgt := 17) S dX8_clear_11 (by decide) (fun _ => ?_) (fun h => absurd (by decide) h)
  refine lv_aload_n S.1 S.2.1 dX8_clear_17 rfl (lv_at hl 0 rfl) ?_
  refine s_get S hX G (i := 0) (kd := 8) (a := (I 0)) (v := .ref (E.2.2.2 1)) (C := RX8) (T := TX8) (N := 4) 0 (rfl : sh 0 = 8) rfl rfl rfl (by decide) rfl (fun _ h => (List.mem_cons_of_mem _ (List.mem_append_left _ (List.mem_append_left _ (List.mem_append_left _ (List.mem_append_left _ (List.mem_append_left _ (List.mem_append_left _ (List.mem_append_left _ (List.mem_append_right _ h)))))))))) (by decide) (List.mem_of_getElem? (i := 2) rfl) (fun _ h => h) dX8_clear_18 ?_
  refine lv_iload_n S.1 S.2.1 dX8_clear_21 rfl (lv_at hl 1 rfl) ?_
  refine s_callV (C := RX0) (As := [.int (1 : Int32)]) (rest := []) (i := 1) (kd := 0) S hX G (k_X0_loadAt_1 l E 1 (by unfold IsB; decide)) (cwV (bytes := cX0_loadAt) (maxL := 2) (ret := (some (.object "BridgeLegs$Load"))) 1 S.2.2.2.2 gX8_clear_X0_loadAt rfl rfl rfl (by decide +kernel) ⟨Nat.le_of_ble_eq_true rfl, Nat.le_of_ble_eq_true rfl⟩) (rfl : sh 1 = 0) rfl rfl rfl (by decide) rfl hl.1 rfl (Nat.le_of_ble_eq_true rfl) ⟨Nat.zero_le _, Nat.zero_le _⟩ dX8_clear_22 (fun v I1 L1 H locs hR G => ?_)
  obtain ⟨hv, hI, hL⟩ := hR
  subst hv
  have G : GS E I L sg H locs := G.same hI hL
  refine W.eq (g2 := F0 mg 25 ls [.ref (E.2.2.2 11)]) rfl ?_
  refine lv_astore_n (lv' := [(3, .ref (E.2.2.2 11)), (0, .ref (E.2.2.2 0)), (1, .int (1 : Int32)), (2, .int (2 : Int32))]) S.1 S.2.1 dX8_clear_25 rfl hl (by decide) rfl (fun ls hl => ?_)
  refine lv_aload_n S.1 S.2.1 dX8_clear_26 rfl (lv_at hl 0 rfl) ?_
  refine lv_iload_n S.1 S.2.1 dX8_clear_27 rfl (lv_at hl 3 rfl) ?_
  refine lv_aload_n S.1 S.2.1 dX8_clear_28 rfl (lv_at hl 1 rfl) ?_
  refine s_get S hX G (i := 0) (kd := 8) (a := (I 0)) (v := .ref (E.2.2.2 1)) (C := RX8) (T := TX8) (N := 4) 0 (rfl : sh 0 = 8) rfl rfl rfl (by decide) rfl (fun _ h => (List.mem_cons_of_mem _ (List.mem_append_left _ (List.mem_append_left _ (List.mem_append_left _ (List.mem_append_left _ (List.mem_append_left _ (List.mem_append_left _ (List.mem_append_left _ (List.mem_append_right _ h)))))))))) (by decide) (List.mem_of_getElem? (i := 2) rfl) (fun _ h => h) dX8_clear_29 ?_
  refine s_getN S hX G (i := 1) (kd := 0) (a := (I 1)) (v := .ref (E.2.2.2 20)) (C := RX0) (T := TX0) (N := 5) 2 (rfl : sh 1 = 0) rfl rfl rfl (by decide) rfl (fun _ h => (List.mem_cons_of_mem _ (List.mem_append_left _ (List.mem_append_left _ (List.mem_append_left _ (List.mem_append_left _ (List.mem_append_left _ (List.mem_append_left _ (List.mem_append_right _ h))))))))) (by decide) (List.mem_of_getElem? (i := 33) rfl) (fun _ h => h) dX8_clear_32 ?_
  refine s_callV (C := RX5) (As := [.int (2 : Int32), .ref (E.2.2.2 20)]) (rest := []) (i := 11) (kd := 5) S hX G (k_X5_isClearable_2 l E 11 20 b t u sv (by unfold IsLd; decide) (rfl : sh 20 = 1) (rfl : sh 21 = 20) e_b e_t e_u e_sv) (cwV (bytes := cX5_isClearable) (maxL := 3) (ret := (some .boolean)) 2 S.2.2.2.2 gX8_clear_X5_isClearable rfl rfl rfl (by decide +kernel) ⟨Nat.le_of_ble_eq_true rfl, Nat.le_of_ble_eq_true rfl⟩) (rfl : sh 11 = 5) rfl rfl rfl (by decide) rfl hl.1 rfl (Nat.le_of_ble_eq_true rfl) ⟨Nat.zero_le _, Nat.zero_le _⟩ dX8_clear_35 (fun v I1 L1 H locs hR G => ?_)
  obtain ⟨hv, hI, hL⟩ := hR
  subst hv
  have G : GS E I L sg H locs := G.same hI hL
  refine W.eq (g2 := F0 mg 38 ls [.int (if ¬ t 2 = 0 ∧ plcF t u 2 = 0 ∧ ¬ sv 4 / 2 < b 5 then 1 else 0)]) rfl ?_
  refine s_if_ne_b (P := ¬ t 2 = 0 ∧ plcF t u 2 = 0 ∧ ¬ sv 4 / 2 < b 5) (tgt := 44) S dX8_clear_38 (by decide) (fun _ => ?_) (fun h => absurd ht h)
  refine lv_aload_n S.1 S.2.1 dX8_clear_44 rfl (lv_at hl 1 rfl) ?_
  refine s_get S hX G (i := 0) (kd := 8) (a := (I 0)) (v := .ref (E.2.2.2 53)) (C := RX8) (T := TX8) (N := 4) 2 (rfl : sh 0 = 8) rfl rfl rfl (by decide) rfl (fun _ h => (List.mem_cons_of_mem _ (List.mem_append_left _ (List.mem_append_left _ (List.mem_append_left _ (List.mem_append_left _ (List.mem_append_left _ (List.mem_append_left _ (List.mem_append_left _ (List.mem_append_right _ h)))))))))) (by decide) (List.mem_of_getElem? (i := 4) rfl) (fun _ h => h) dX8_clear_45 ?_
  refine lv_aload_n S.1 S.2.1 dX8_clear_48 rfl (lv_at hl 1 rfl) ?_
  refine s_get S hX G (i := 0) (kd := 8) (a := (I 0)) (v := .ref (E.2.2.2 1)) (C := RX8) (T := TX8) (N := 4) 0 (rfl : sh 0 = 8) rfl rfl rfl (by decide) rfl (fun _ h => (List.mem_cons_of_mem _ (List.mem_append_left _ (List.mem_append_left _ (List.mem_append_left _ (List.mem_append_left _ (List.mem_append_left _ (List.mem_append_left _ (List.mem_append_left _ (List.mem_append_right _ h)))))))))) (by decide) (List.mem_of_getElem? (i := 2) rfl) (fun _ h => h) dX8_clear_49 ?_
  refine s_callV (C := RX2) (As := [.ref (E.2.2.2 1)]) (rest := []) (i := 53) (kd := 2) S hX G (k_X2_record l E h o kp e_h ho hk ho4 hkp hisb) (cwV (bytes := cX2_record) (maxL := 2) (ret := none) 1 S.2.2.2.2 gX8_clear_X2_record rfl rfl rfl (by decide +kernel) ⟨Nat.le_of_ble_eq_true rfl, Nat.le_of_ble_eq_true rfl⟩) (rfl : sh 53 = 2) rfl rfl rfl (by decide) rfl hl.1 rfl (Nat.le_of_ble_eq_true rfl) ⟨Nat.zero_le _, Nat.zero_le _⟩ dX8_clear_52 (fun v I2 L2 H locs hR G => ?_)
  obtain ⟨hv, hRec⟩ := hR
  subst hv
  refine W.eq (g2 := F0 mg 55 ls []) rfl ?_
  refine lv_aload_n S.1 S.2.1 dX8_clear_55 rfl (lv_at hl 0 rfl) ?_
  refine s_getN S hX G (i := 11) (kd := 5) (a := b) (v := .ref (E.2.2.2 16)) (C := RX5) (T := TX5) (N := 13) 3 (rfl : sh 11 = 5) (Eq.trans (hRec.fr (by decide) (by decide)) e_b) rfl rfl (by decide) rfl (fun _ h => (List.mem_cons_of_mem _ (List.mem_append_left _ (List.mem_append_left _ (List.mem_append_left _ (List.mem_append_left _ (List.mem_append_left _ (List.mem_append_right _ h)))))))) (by decide) (List.mem_of_getElem? (i := 19) rfl) (fun _ h => h) dX8_clear_56 ?_
  refine lv_iload_n S.1 S.2.1 dX8_clear_59 rfl (lv_at hl 3 rfl) ?_
  refine s_callV (C := RX3) (As := [.int (2 : Int32)]) (rest := []) (i := 16) (kd := 3) S hX G (k_X3_release_2 l E 16 n t (rfl : sh 16 = 3) (rfl : sh 17 = 10) (rfl : sh 18 = 17) (rfl : sh 19 = 17) (Eq.trans (hRec.fr (by decide) (by decide)) e_n) (Eq.trans (hRec.fr (by decide) (by decide)) e_t)) (cwV (bytes := cX3_release) (maxL := 2) (ret := none) 1 S.2.2.2.2 gX8_clear_X3_release rfl rfl rfl (by decide +kernel) ⟨Nat.le_of_ble_eq_true rfl, Nat.le_of_ble_eq_true rfl⟩) (rfl : sh 16 = 3) rfl rfl rfl (by decide) rfl hl.1 rfl (Nat.le_of_ble_eq_true rfl) ⟨Nat.zero_le _, Nat.zero_le _⟩ dX8_clear_60 (fun v I1 L1 H locs hR G => ?_)
  obtain ⟨hv, hI, hL⟩ := hR
  subst hv
  obtain ⟨r_1, er_1⟩ : ∃ r : Nat → Int32, r = (if ¬ t 2 = 0 then upd n 3 (n 3 - 1) else n) := ⟨_, rfl⟩
  rw [← er_1] at hI
  obtain ⟨r_2, er_2⟩ : ∃ r : Nat → Int32, r = (if ¬ t 2 = 0 then upd t 2 0 else t) := ⟨_, rfl⟩
  rw [← er_2] at hI
  have G : GS E (up (up I2 16 r_1) 17 r_2) L2 sg H locs := G.same hI hL
  refine W.eq (g2 := F0 mg 63 ls []) rfl ?_
  refine lv_aload_n S.1 S.2.1 dX8_clear_63 rfl (lv_at hl 0 rfl) ?_
  refine s_getN S hX G (i := 11) (kd := 5) (a := b) (v := .ref (E.2.2.2 16)) (C := RX5) (T := TX5) (N := 13) 3 (rfl : sh 11 = 5) ((up_ne (by decide)).trans ((up_ne (by decide)).trans (Eq.trans (hRec.fr (by decide) (by decide)) e_b))) rfl rfl (by decide) rfl (fun _ h => (List.mem_cons_of_mem _ (List.mem_append_left _ (List.mem_append_left _ (List.mem_append_left _ (List.mem_append_left _ (List.mem_append_left _ (List.mem_append_right _ h)))))))) (by decide) (List.mem_of_getElem? (i := 19) rfl) (fun _ h => h) dX8_clear_64 ?_
  refine s_getN S hX G (i := 16) (kd := 3) (a := r_1) (v := .int (r_1 3)) (C := RX3) (T := TX3) (N := 4) 3 (rfl : sh 16 = 3) ((up_ne (by decide)).trans up_eq) rfl rfl (by decide) rfl (fun _ h => (List.mem_cons_of_mem _ (List.mem_append_left _ (List.mem_append_left _ (List.mem_append_left _ (List.mem_append_left _ (List.mem_append_right _ h))))))) (by decide) (List.mem_of_getElem? (i := 13) rfl) (fun _ h => h) dX8_clear_67 ?_
  refine s_iret (x := (r_1 3)) S G hr hlk dX8_clear_70 ?_
  exact ⟨(congrArg (fun q : Int32 => some (Value.int q)) (show (r_1 3) = (n 3 - 1) by subst er_2 er_1; rw [if_pos ht.1]; rfl)), I2, L2, hRec, (st_eq2 (Eq.trans ((up_ne (by decide)).trans up_eq) (show r_1 = (upd n 3 (n 3 - 1)) by subst er_2 er_1; rw [if_pos ht.1])) (Eq.trans up_eq (show r_2 = (upd t 2 0) by subst er_2 er_1; rw [if_pos ht.1])) (fun _ g0 g1 => ((up_ne g1).trans (up_ne g0)))), rfl⟩
set_option maxHeartbeats 4000000 in
set_option maxRecDepth 100000 in
theorem k_X8_clear_np_1_2 (l : Launch) (E : Ev) {I : SI} {L : SL} (b : Nat → Int32) (n : Nat → Int32) (t : Nat → Int32) (u : Nat → Int32) (sv : Nat → Int32) (e_b : I (11) = b) (e_n : I (16) = n) (e_t : I (17) = t) (e_u : I (18) = u) (e_sv : I (21) = sv) (ht : ¬ (¬ t 2 = 0 ∧ plcF t u 2 = 0 ∧ ¬ sv 4 / 2 < b 5)) : CS l yX8_clear wsX8_clear ({ frames := 5, cells := 0, slots := 0, locals := 110 }) E [.ref (E.2.2.2 0), .int (1 : Int32), .int (2 : Int32)] I L (fun vv I' L' => vv = some (.int (-2000000002 : Int32)) ∧ I' = I ∧ L' = L) := by
  refine CS.of (cc := cX8_clear) (maxL := 4) (ret := (some .int)) (by decide) rfl (Nat.le_of_ble_eq_true rfl) ?_
  intro pg en sg mg below meth cg ls S hr hlk hX G hl
  have S : CallFix pg mg cg cX8_clear 4 sg _ wsX8_clear RX8 := S
  have hl : lv_has ls 4 [(0, .ref (E.2.2.2 0)), (1, .int (1 : Int32)), (2, .int (2 : Int32))] := hl
  refine lv_iload_n S.1 S.2.1 dX8_clear_0 rfl (lv_at hl 1 rfl) ?_
  refine s_callS (As := [.int (1 : Int32)]) (rest := []) S hX G (k_X8_isLoad l E (1 : Int32)) (va_cwS (bytes := cX8_isLoad) (maxL := 1) (ret := (some .boolean)) 1 S.2.2.2.2 gX8_clear_X8_isLoad rfl rfl rfl (by decide +kernel) ⟨Nat.le_of_ble_eq_true rfl, Nat.le_of_ble_eq_true rfl⟩) rfl hl.1 rfl (Nat.le_of_ble_eq_true rfl) ⟨Nat.zero_le _, Nat.zero_le _⟩ dX8_clear_1 (fun v I1 L1 H locs hR G => ?_)
  obtain ⟨hv, hI, hL⟩ := hR
  subst hv
  have G : GS E I L sg H locs := G.same hI hL
  refine W.eq (g2 := F0 mg 4 ls [.int (if ¬ (1 : Int32) < (0 : Int32) ∧ ¬ (1 : Int32) < (1 : Int32) then 1 else 0)]) rfl ?_
  refine s_if_eq_b (P := ¬ (1 : Int32) < (0 : Int32) ∧ ¬ (1 : Int32) < (1 : Int32)) (tgt := 14) S dX8_clear_4 (by decide) (fun h => absurd (by decide) h) (fun _ => ?_)
  refine lv_iload_n S.1 S.2.1 dX8_clear_7 rfl (lv_at hl 2 rfl) ?_
  refine s_callS (As := [.int (2 : Int32)]) (rest := []) S hX G (k_X8_isFault l E (2 : Int32)) (va_cwS (bytes := cX8_isFault) (maxL := 1) (ret := (some .boolean)) 1 S.2.2.2.2 gX8_clear_X8_isFault rfl rfl rfl (by decide +kernel) ⟨Nat.le_of_ble_eq_true rfl, Nat.le_of_ble_eq_true rfl⟩) rfl hl.1 rfl (Nat.le_of_ble_eq_true rfl) ⟨Nat.zero_le _, Nat.zero_le _⟩ dX8_clear_8 (fun v I1 L1 H locs hR G => ?_)
  obtain ⟨hv, hI, hL⟩ := hR
  subst hv
  have G : GS E I L sg H locs := G.same hI hL
  refine W.eq (g2 := F0 mg 11 ls [.int (if ¬ (2 : Int32) < (0 : Int32) ∧ ¬ (2 : Int32) < (2 : Int32) then 1 else 0)]) rfl ?_
  refine s_if_ne_b (P := ¬ (2 : Int32) < (0 : Int32) ∧ ¬ (2 : Int32) < (2 : Int32)) (tgt := 17) S dX8_clear_11 (by decide) (fun _ => ?_) (fun h => absurd (by decide) h)
  refine lv_aload_n S.1 S.2.1 dX8_clear_17 rfl (lv_at hl 0 rfl) ?_
  refine s_get S hX G (i := 0) (kd := 8) (a := (I 0)) (v := .ref (E.2.2.2 1)) (C := RX8) (T := TX8) (N := 4) 0 (rfl : sh 0 = 8) rfl rfl rfl (by decide) rfl (fun _ h => (List.mem_cons_of_mem _ (List.mem_append_left _ (List.mem_append_left _ (List.mem_append_left _ (List.mem_append_left _ (List.mem_append_left _ (List.mem_append_left _ (List.mem_append_left _ (List.mem_append_right _ h)))))))))) (by decide) (List.mem_of_getElem? (i := 2) rfl) (fun _ h => h) dX8_clear_18 ?_
  refine lv_iload_n S.1 S.2.1 dX8_clear_21 rfl (lv_at hl 1 rfl) ?_
  refine s_callV (C := RX0) (As := [.int (1 : Int32)]) (rest := []) (i := 1) (kd := 0) S hX G (k_X0_loadAt_1 l E 1 (by unfold IsB; decide)) (cwV (bytes := cX0_loadAt) (maxL := 2) (ret := (some (.object "BridgeLegs$Load"))) 1 S.2.2.2.2 gX8_clear_X0_loadAt rfl rfl rfl (by decide +kernel) ⟨Nat.le_of_ble_eq_true rfl, Nat.le_of_ble_eq_true rfl⟩) (rfl : sh 1 = 0) rfl rfl rfl (by decide) rfl hl.1 rfl (Nat.le_of_ble_eq_true rfl) ⟨Nat.zero_le _, Nat.zero_le _⟩ dX8_clear_22 (fun v I1 L1 H locs hR G => ?_)
  obtain ⟨hv, hI, hL⟩ := hR
  subst hv
  have G : GS E I L sg H locs := G.same hI hL
  refine W.eq (g2 := F0 mg 25 ls [.ref (E.2.2.2 11)]) rfl ?_
  refine lv_astore_n (lv' := [(3, .ref (E.2.2.2 11)), (0, .ref (E.2.2.2 0)), (1, .int (1 : Int32)), (2, .int (2 : Int32))]) S.1 S.2.1 dX8_clear_25 rfl hl (by decide) rfl (fun ls hl => ?_)
  refine lv_aload_n S.1 S.2.1 dX8_clear_26 rfl (lv_at hl 0 rfl) ?_
  refine lv_iload_n S.1 S.2.1 dX8_clear_27 rfl (lv_at hl 3 rfl) ?_
  refine lv_aload_n S.1 S.2.1 dX8_clear_28 rfl (lv_at hl 1 rfl) ?_
  refine s_get S hX G (i := 0) (kd := 8) (a := (I 0)) (v := .ref (E.2.2.2 1)) (C := RX8) (T := TX8) (N := 4) 0 (rfl : sh 0 = 8) rfl rfl rfl (by decide) rfl (fun _ h => (List.mem_cons_of_mem _ (List.mem_append_left _ (List.mem_append_left _ (List.mem_append_left _ (List.mem_append_left _ (List.mem_append_left _ (List.mem_append_left _ (List.mem_append_left _ (List.mem_append_right _ h)))))))))) (by decide) (List.mem_of_getElem? (i := 2) rfl) (fun _ h => h) dX8_clear_29 ?_
  refine s_getN S hX G (i := 1) (kd := 0) (a := (I 1)) (v := .ref (E.2.2.2 20)) (C := RX0) (T := TX0) (N := 5) 2 (rfl : sh 1 = 0) rfl rfl rfl (by decide) rfl (fun _ h => (List.mem_cons_of_mem _ (List.mem_append_left _ (List.mem_append_left _ (List.mem_append_left _ (List.mem_append_left _ (List.mem_append_left _ (List.mem_append_left _ (List.mem_append_right _ h))))))))) (by decide) (List.mem_of_getElem? (i := 33) rfl) (fun _ h => h) dX8_clear_32 ?_
  refine s_callV (C := RX5) (As := [.int (2 : Int32), .ref (E.2.2.2 20)]) (rest := []) (i := 11) (kd := 5) S hX G (k_X5_isClearable_2 l E 11 20 b t u sv (by unfold IsLd; decide) (rfl : sh 20 = 1) (rfl : sh 21 = 20) e_b e_t e_u e_sv) (cwV (bytes := cX5_isClearable) (maxL := 3) (ret := (some .boolean)) 2 S.2.2.2.2 gX8_clear_X5_isClearable rfl rfl rfl (by decide +kernel) ⟨Nat.le_of_ble_eq_true rfl, Nat.le_of_ble_eq_true rfl⟩) (rfl : sh 11 = 5) rfl rfl rfl (by decide) rfl hl.1 rfl (Nat.le_of_ble_eq_true rfl) ⟨Nat.zero_le _, Nat.zero_le _⟩ dX8_clear_35 (fun v I1 L1 H locs hR G => ?_)
  obtain ⟨hv, hI, hL⟩ := hR
  subst hv
  have G : GS E I L sg H locs := G.same hI hL
  refine W.eq (g2 := F0 mg 38 ls [.int (if ¬ t 2 = 0 ∧ plcF t u 2 = 0 ∧ ¬ sv 4 / 2 < b 5 then 1 else 0)]) rfl ?_
  refine s_if_ne_b (P := ¬ t 2 = 0 ∧ plcF t u 2 = 0 ∧ ¬ sv 4 / 2 < b 5) (tgt := 44) S dX8_clear_38 (by decide) (fun h => absurd h ht) (fun _ => ?_)
  refine lv_ldc (v := (-2000000002 : Int32)) S.1 S.2.1 S.2.2.2.1 (S.2.2.2.2 _ (List.mem_of_getElem? (i := 3) rfl)) dX8_clear_41 ?_
  refine s_iret (x := (-2000000002 : Int32)) S G hr hlk dX8_clear_43 ?_
  exact ⟨rfl, rfl, rfl⟩
set_option maxHeartbeats 4000000 in
set_option maxRecDepth 100000 in
theorem k_X8_clear_no (l : Launch) (E : Ev) {I : SI} {L : SL} (load : Int32) (fault : Int32) (ht : ¬ (IN1 load ∧ IN2 fault)) : CS l yX8_clear wsX8_clear ({ frames := 2, cells := 0, slots := 0, locals := 42 }) E [.ref (E.2.2.2 0), .int load, .int fault] I L (fun vv I' L' => vv = some (.int (-2000000001 : Int32)) ∧ I' = I ∧ L' = L) := by
  refine CS.of (cc := cX8_clear) (maxL := 4) (ret := (some .int)) (by decide) rfl (Nat.le_of_ble_eq_true rfl) ?_
  intro pg en sg mg below meth cg ls S hr hlk hX G hl
  have S : CallFix pg mg cg cX8_clear 4 sg _ wsX8_clear RX8 := S
  have hl : lv_has ls 4 [(0, .ref (E.2.2.2 0)), (1, .int load), (2, .int fault)] := hl
  refine lv_iload_n S.1 S.2.1 dX8_clear_0 rfl (lv_at hl 1 rfl) ?_
  refine s_callS (As := [.int load]) (rest := []) S hX G (k_X8_isLoad l E load) (va_cwS (bytes := cX8_isLoad) (maxL := 1) (ret := (some .boolean)) 1 S.2.2.2.2 gX8_clear_X8_isLoad rfl rfl rfl (by decide +kernel) ⟨Nat.le_of_ble_eq_true rfl, Nat.le_of_ble_eq_true rfl⟩) rfl hl.1 rfl (Nat.le_of_ble_eq_true rfl) ⟨Nat.zero_le _, Nat.zero_le _⟩ dX8_clear_1 (fun v I1 L1 H locs hR G => ?_)
  obtain ⟨hv, hI, hL⟩ := hR
  subst hv
  have G : GS E I L sg H locs := G.same hI hL
  refine W.eq (g2 := F0 mg 4 ls [.int (if ¬ load < (0 : Int32) ∧ ¬ (1 : Int32) < load then 1 else 0)]) rfl ?_
  refine s_if_eq_b (P := ¬ load < (0 : Int32) ∧ ¬ (1 : Int32) < load) (tgt := 14) S dX8_clear_4 (by decide) (fun c_1 => ?_) (fun c_1 => ?_)
  · refine lv_ldc (v := (-2000000001 : Int32)) S.1 S.2.1 S.2.2.2.1 (S.2.2.2.2 _ (List.mem_of_getElem? (i := 1) rfl)) dX8_clear_14 ?_
    refine s_iret (x := (-2000000001 : Int32)) S G hr hlk dX8_clear_16 ?_
    exact ⟨rfl, rfl, rfl⟩
  · refine lv_iload_n S.1 S.2.1 dX8_clear_7 rfl (lv_at hl 2 rfl) ?_
    refine s_callS (As := [.int fault]) (rest := []) S hX G (k_X8_isFault l E fault) (va_cwS (bytes := cX8_isFault) (maxL := 1) (ret := (some .boolean)) 1 S.2.2.2.2 gX8_clear_X8_isFault rfl rfl rfl (by decide +kernel) ⟨Nat.le_of_ble_eq_true rfl, Nat.le_of_ble_eq_true rfl⟩) rfl hl.1 rfl (Nat.le_of_ble_eq_true rfl) ⟨Nat.zero_le _, Nat.zero_le _⟩ dX8_clear_8 (fun v I1 L1 H locs hR G => ?_)
    obtain ⟨hv, hI, hL⟩ := hR
    subst hv
    have G : GS E I L sg H locs := G.same hI hL
    refine W.eq (g2 := F0 mg 11 ls [.int (if ¬ fault < (0 : Int32) ∧ ¬ (2 : Int32) < fault then 1 else 0)]) rfl ?_
    refine s_if_ne_b (P := ¬ fault < (0 : Int32) ∧ ¬ (2 : Int32) < fault) (tgt := 17) S dX8_clear_11 (by decide) (fun c_2 => ?_) (fun c_2 => ?_)
    · exact absurd (And.intro c_1 c_2) ht
    · refine lv_ldc (v := (-2000000001 : Int32)) S.1 S.2.1 S.2.2.2.1 (S.2.2.2.2 _ (List.mem_of_getElem? (i := 1) rfl)) dX8_clear_14 ?_
      refine s_iret (x := (-2000000001 : Int32)) S G hr hlk dX8_clear_16 ?_
      exact ⟨rfl, rfl, rfl⟩
set_option maxHeartbeats 4000000 in
set_option maxRecDepth 100000 in
theorem k_X8_undo_ok (l : Launch) (E : Ev) {I : SI} {L : SL} (h : Nat → Int32) (o kq : Nat) (e_h : I (53) = h) (ho : h 1 = nI o) (hk : h 2 = nI (kq + 1)) (ho4 : o < 4) (hkq : kq < 4) (hisb : IsbB I (recT o kq)) : CS l yX8_undo wsX8_undo ({ frames := 5, cells := 0, slots := 0, locals := 102 }) E [.ref (E.2.2.2 0)] I L (fun vv I' L' => vv = some (.int (nI kq)) ∧ RstP I L I' L' o kq) := by
  refine CS.of (cc := cX8_undo) (maxL := 1) (ret := (some .int)) (by decide) rfl (Nat.le_of_ble_eq_true rfl) ?_
  intro pg en sg mg below meth cg ls S hr hlk hX G hl
  have S : CallFix pg mg cg cX8_undo 1 sg _ wsX8_undo RX8 := S
  have hl : lv_has ls 1 [(0, .ref (E.2.2.2 0))] := hl
  refine lv_aload_n S.1 S.2.1 dX8_undo_0 rfl (lv_at hl 0 rfl) ?_
  refine s_get S hX G (i := 0) (kd := 8) (a := (I 0)) (v := .ref (E.2.2.2 53)) (C := RX8) (T := TX8) (N := 4) 2 (rfl : sh 0 = 8) rfl rfl rfl (by decide) rfl (fun _ h => (List.mem_cons_of_mem _ (List.mem_append_left _ (List.mem_append_left _ (List.mem_append_left _ (List.mem_append_left _ (List.mem_append_left _ (List.mem_append_left _ (List.mem_append_left _ (List.mem_append_right _ h)))))))))) (by decide) (List.mem_of_getElem? (i := 1) rfl) (fun _ h => h) dX8_undo_1 ?_
  refine s_getN S hX G (i := 53) (kd := 2) (a := h) (v := .int (h 2)) (C := RX2) (T := TX2) (N := 3) 2 (rfl : sh 53 = 2) e_h rfl rfl (by decide) rfl (fun _ h => (List.mem_cons_of_mem _ (List.mem_append_left _ (List.mem_append_left _ (List.mem_append_left _ (List.mem_append_left _ (List.mem_append_left _ (List.mem_append_left _ (List.mem_append_right _ h))))))))) (by decide) (List.mem_of_getElem? (i := 36) rfl) (fun _ h => h) dX8_undo_4 ?_
  refine s_conv (y := (nI (kq + 1))) hk ?_
  refine lv_if_ne (tgt := 13) S.1 S.2.1 dX8_undo_7 (by decide) (fun _ => ?_) (fun h => absurd h (nI_s0 (by omega)))
  refine lv_aload_n S.1 S.2.1 dX8_undo_13 rfl (lv_at hl 0 rfl) ?_
  refine s_get S hX G (i := 0) (kd := 8) (a := (I 0)) (v := .ref (E.2.2.2 53)) (C := RX8) (T := TX8) (N := 4) 2 (rfl : sh 0 = 8) rfl rfl rfl (by decide) rfl (fun _ h => (List.mem_cons_of_mem _ (List.mem_append_left _ (List.mem_append_left _ (List.mem_append_left _ (List.mem_append_left _ (List.mem_append_left _ (List.mem_append_left _ (List.mem_append_left _ (List.mem_append_right _ h)))))))))) (by decide) (List.mem_of_getElem? (i := 1) rfl) (fun _ h => h) dX8_undo_14 ?_
  refine lv_aload_n S.1 S.2.1 dX8_undo_17 rfl (lv_at hl 0 rfl) ?_
  refine s_get S hX G (i := 0) (kd := 8) (a := (I 0)) (v := .ref (E.2.2.2 1)) (C := RX8) (T := TX8) (N := 4) 0 (rfl : sh 0 = 8) rfl rfl rfl (by decide) rfl (fun _ h => (List.mem_cons_of_mem _ (List.mem_append_left _ (List.mem_append_left _ (List.mem_append_left _ (List.mem_append_left _ (List.mem_append_left _ (List.mem_append_left _ (List.mem_append_left _ (List.mem_append_right _ h)))))))))) (by decide) (List.mem_of_getElem? (i := 3) rfl) (fun _ h => h) dX8_undo_18 ?_
  refine s_callV (C := RX2) (As := [.ref (E.2.2.2 1)]) (rest := []) (i := 53) (kd := 2) S hX G (k_X2_restore l E h o kq e_h ho hk ho4 hkq hisb) (cwV (bytes := cX2_restore) (maxL := 2) (ret := none) 1 S.2.2.2.2 gX8_undo_X2_restore rfl rfl rfl (by decide +kernel) ⟨Nat.le_of_ble_eq_true rfl, Nat.le_of_ble_eq_true rfl⟩) (rfl : sh 53 = 2) rfl rfl rfl (by decide) rfl hl.1 rfl (Nat.le_of_ble_eq_true rfl) ⟨Nat.zero_le _, Nat.zero_le _⟩ dX8_undo_21 (fun v I2 L2 H locs hR G => ?_)
  obtain ⟨hv, hRst⟩ := hR
  subst hv
  refine W.eq (g2 := F0 mg 24 ls []) rfl ?_
  refine lv_aload_n S.1 S.2.1 dX8_undo_24 rfl (lv_at hl 0 rfl) ?_
  refine s_get S hX G (i := 0) (kd := 8) (a := (I2 0)) (v := .ref (E.2.2.2 53)) (C := RX8) (T := TX8) (N := 4) 2 (rfl : sh 0 = 8) rfl rfl rfl (by decide) rfl (fun _ h => (List.mem_cons_of_mem _ (List.mem_append_left _ (List.mem_append_left _ (List.mem_append_left _ (List.mem_append_left _ (List.mem_append_left _ (List.mem_append_left _ (List.mem_append_left _ (List.mem_append_right _ h)))))))))) (by decide) (List.mem_of_getElem? (i := 1) rfl) (fun _ h => h) dX8_undo_25 ?_
  refine s_getN S hX G (i := 53) (kd := 2) (a := (I2 53)) (v := .int ((I2 53) 2)) (C := RX2) (T := TX2) (N := 3) 2 (rfl : sh 53 = 2) rfl rfl rfl (by decide) rfl (fun _ h => (List.mem_cons_of_mem _ (List.mem_append_left _ (List.mem_append_left _ (List.mem_append_left _ (List.mem_append_left _ (List.mem_append_left _ (List.mem_append_left _ (List.mem_append_right _ h))))))))) (by decide) (List.mem_of_getElem? (i := 36) rfl) (fun _ h => h) dX8_undo_28 ?_
  refine s_iret (x := ((I2 53) 2)) S G hr hlk dX8_undo_31 ?_
  exact ⟨(congrArg (fun q : Int32 => some (Value.int q)) hRst.2.2.2.2), hRst⟩
set_option maxHeartbeats 4000000 in
set_option maxRecDepth 100000 in
theorem k_X8_undo_no (l : Launch) (E : Ev) {I : SI} {L : SL} (h : Nat → Int32) (e_h : I (53) = h) (hk : h 2 = 0) : CS l yX8_undo wsX8_undo ({ frames := 0, cells := 0, slots := 0, locals := 0 }) E [.ref (E.2.2.2 0)] I L (fun vv I' L' => vv = some (.int (-2000000002 : Int32)) ∧ I' = I ∧ L' = L) := by
  refine CS.of (cc := cX8_undo) (maxL := 1) (ret := (some .int)) (by decide) rfl (Nat.le_of_ble_eq_true rfl) ?_
  intro pg en sg mg below meth cg ls S hr hlk hX G hl
  have S : CallFix pg mg cg cX8_undo 1 sg _ wsX8_undo RX8 := S
  have hl : lv_has ls 1 [(0, .ref (E.2.2.2 0))] := hl
  refine lv_aload_n S.1 S.2.1 dX8_undo_0 rfl (lv_at hl 0 rfl) ?_
  refine s_get S hX G (i := 0) (kd := 8) (a := (I 0)) (v := .ref (E.2.2.2 53)) (C := RX8) (T := TX8) (N := 4) 2 (rfl : sh 0 = 8) rfl rfl rfl (by decide) rfl (fun _ h => (List.mem_cons_of_mem _ (List.mem_append_left _ (List.mem_append_left _ (List.mem_append_left _ (List.mem_append_left _ (List.mem_append_left _ (List.mem_append_left _ (List.mem_append_left _ (List.mem_append_right _ h)))))))))) (by decide) (List.mem_of_getElem? (i := 1) rfl) (fun _ h => h) dX8_undo_1 ?_
  refine s_getN S hX G (i := 53) (kd := 2) (a := h) (v := .int (h 2)) (C := RX2) (T := TX2) (N := 3) 2 (rfl : sh 53 = 2) e_h rfl rfl (by decide) rfl (fun _ h => (List.mem_cons_of_mem _ (List.mem_append_left _ (List.mem_append_left _ (List.mem_append_left _ (List.mem_append_left _ (List.mem_append_left _ (List.mem_append_left _ (List.mem_append_right _ h))))))))) (by decide) (List.mem_of_getElem? (i := 36) rfl) (fun _ h => h) dX8_undo_4 ?_
  refine lv_if_ne (tgt := 13) S.1 S.2.1 dX8_undo_7 (by decide) (fun h => absurd hk h) (fun _ => ?_)
  refine lv_ldc (v := (-2000000002 : Int32)) S.1 S.2.1 S.2.2.2.1 (S.2.2.2.2 _ (List.mem_of_getElem? (i := 2) rfl)) dX8_undo_10 ?_
  refine s_iret (x := (-2000000002 : Int32)) S G hr hlk dX8_undo_12 ?_
  exact ⟨rfl, rfl, rfl⟩
set_option maxHeartbeats 4000000 in
set_option maxRecDepth 100000 in
theorem k_X8_go_ok (l : Launch) (E : Ev) {I : SI} {L : SL} (n : Nat) (h : Nat → Int32) (br : Nat → Int32) (o kp k0 : Nat) (e_h : I (53) = h) (e_br : I (1) = br) (ho : h 1 = nI o) (hk : h 2 = nI kp) (ho4 : o < 4) (hkp : kp ≤ 4) (hisb : IsbB I 1) (hs : br 4 = nI k0) (h1 : 1 ≤ n) (h2 : n ≤ 1000) (h3 : k0 + n ≤ 100000) : CS l yX8_go wsX8_go ({ frames := 6, cells := 0, slots := 0, locals := 135 }) E [.ref (E.2.2.2 0), .int (nI n)] I L (fun vv I' L' => ∃ I1 L1, RecP I L I1 L1 o kp ∧ vv = some (.int (brSum 1 k0 n (I1, L1))) ∧ I' = (brIt 1 k0 n (I1, L1)).1 ∧ L' = (brIt 1 k0 n (I1, L1)).2) := by
  refine CS.of (cc := cX8_go) (maxL := 2) (ret := (some .int)) (by decide) rfl (Nat.le_of_ble_eq_true rfl) ?_
  intro pg en sg mg below meth cg ls S hr hlk hX G hl
  have S : CallFix pg mg cg cX8_go 2 sg _ wsX8_go RX8 := S
  have hl : lv_has ls 2 [(0, .ref (E.2.2.2 0)), (1, .int (nI n))] := hl
  refine lv_iload_n S.1 S.2.1 dX8_go_0 rfl (lv_at hl 1 rfl) ?_
  refine lv_iconst (v := (1 : Int32)) S.1 S.2.1 dX8_go_1 (by decide) ?_
  refine lv_sipush (v := (1000 : Int32)) S.1 S.2.1 dX8_go_2 (by decide) ?_
  refine s_callS (As := [.int (nI n), .int (1 : Int32), .int (1000 : Int32)]) (rest := []) S hX G (k_X8_isWithin l E (nI n) (1 : Int32) (1000 : Int32)) (va_cwS (bytes := cX8_isWithin) (maxL := 3) (ret := (some .boolean)) 3 S.2.2.2.2 gX8_go_X8_isWithin rfl rfl rfl (by decide +kernel) ⟨Nat.le_of_ble_eq_true rfl, Nat.le_of_ble_eq_true rfl⟩) rfl hl.1 rfl (Nat.le_of_ble_eq_true rfl) ⟨Nat.zero_le _, Nat.zero_le _⟩ dX8_go_5 (fun v I1 L1 H locs hR G => ?_)
  obtain ⟨hv, hI, hL⟩ := hR
  subst hv
  have G : GS E I L sg H locs := G.same hI hL
  refine W.eq (g2 := F0 mg 8 ls [.int (if ¬ (nI n) < (1 : Int32) ∧ ¬ (1000 : Int32) < (nI n) then 1 else 0)]) rfl ?_
  refine s_if_ne_b (P := ¬ (nI n) < (1 : Int32) ∧ ¬ (1000 : Int32) < (nI n)) (tgt := 14) S dX8_go_8 (by decide) (fun _ => ?_) (fun h => absurd (inR h1 h2 (by decide)) h)
  refine lv_iload_n S.1 S.2.1 dX8_go_14 rfl (lv_at hl 1 rfl) ?_
  refine lv_ldc (v := (100000 : Int32)) S.1 S.2.1 S.2.2.2.1 (S.2.2.2.2 _ (List.mem_of_getElem? (i := 2) rfl)) dX8_go_15 ?_
  refine lv_aload_n S.1 S.2.1 dX8_go_17 rfl (lv_at hl 0 rfl) ?_
  refine s_get S hX G (i := 0) (kd := 8) (a := (I 0)) (v := .ref (E.2.2.2 1)) (C := RX8) (T := TX8) (N := 4) 0 (rfl : sh 0 = 8) rfl rfl rfl (by decide) rfl (fun _ h => (List.mem_cons_of_mem _ (List.mem_append_left _ (List.mem_append_left _ (List.mem_append_left _ (List.mem_append_left _ (List.mem_append_left _ (List.mem_append_left _ (List.mem_append_left _ (List.mem_append_right _ h)))))))))) (by decide) (List.mem_of_getElem? (i := 3) rfl) (fun _ h => h) dX8_go_18 ?_
  refine s_getN S hX G (i := 1) (kd := 0) (a := br) (v := .int (br 4)) (C := RX0) (T := TX0) (N := 5) 4 (rfl : sh 1 = 0) e_br rfl rfl (by decide) rfl (fun _ h => (List.mem_cons_of_mem _ (List.mem_append_left _ (List.mem_append_left _ (List.mem_append_left _ (List.mem_append_left _ (List.mem_append_left _ (List.mem_append_left _ (List.mem_append_right _ h))))))))) (by decide) (List.mem_of_getElem? (i := 35) rfl) (fun _ h => h) dX8_go_21 ?_
  refine s_conv (y := (nI k0)) hs ?_
  refine s_isub (v := (nI (100000 - k0))) S dX8_go_24 (pk_sub (a := 100000) (b := k0) (by omega)) ?_
  refine lv_icmp_le (tgt := 31) S.1 S.2.1 dX8_go_25 (by decide) (fun _ => ?_) (fun h => absurd (nI_le (by omega) (by omega)) h)
  refine lv_aload_n S.1 S.2.1 dX8_go_31 rfl (lv_at hl 0 rfl) ?_
  refine s_get S hX G (i := 0) (kd := 8) (a := (I 0)) (v := .ref (E.2.2.2 53)) (C := RX8) (T := TX8) (N := 4) 2 (rfl : sh 0 = 8) rfl rfl rfl (by decide) rfl (fun _ h => (List.mem_cons_of_mem _ (List.mem_append_left _ (List.mem_append_left _ (List.mem_append_left _ (List.mem_append_left _ (List.mem_append_left _ (List.mem_append_left _ (List.mem_append_left _ (List.mem_append_right _ h)))))))))) (by decide) (List.mem_of_getElem? (i := 5) rfl) (fun _ h => h) dX8_go_32 ?_
  refine lv_aload_n S.1 S.2.1 dX8_go_35 rfl (lv_at hl 0 rfl) ?_
  refine s_get S hX G (i := 0) (kd := 8) (a := (I 0)) (v := .ref (E.2.2.2 1)) (C := RX8) (T := TX8) (N := 4) 0 (rfl : sh 0 = 8) rfl rfl rfl (by decide) rfl (fun _ h => (List.mem_cons_of_mem _ (List.mem_append_left _ (List.mem_append_left _ (List.mem_append_left _ (List.mem_append_left _ (List.mem_append_left _ (List.mem_append_left _ (List.mem_append_left _ (List.mem_append_right _ h)))))))))) (by decide) (List.mem_of_getElem? (i := 3) rfl) (fun _ h => h) dX8_go_36 ?_
  refine s_callV (C := RX2) (As := [.ref (E.2.2.2 1)]) (rest := []) (i := 53) (kd := 2) S hX G (k_X2_record l E h o kp e_h ho hk ho4 hkp hisb) (cwV (bytes := cX2_record) (maxL := 2) (ret := none) 1 S.2.2.2.2 gX8_go_X2_record rfl rfl rfl (by decide +kernel) ⟨Nat.le_of_ble_eq_true rfl, Nat.le_of_ble_eq_true rfl⟩) (rfl : sh 53 = 2) rfl rfl rfl (by decide) rfl hl.1 rfl (Nat.le_of_ble_eq_true rfl) ⟨Nat.zero_le _, Nat.zero_le _⟩ dX8_go_39 (fun v I2 L2 H locs hR G => ?_)
  obtain ⟨hv, hRec⟩ := hR
  subst hv
  refine W.eq (g2 := F0 mg 42 ls []) rfl ?_
  refine lv_aload_n S.1 S.2.1 dX8_go_42 rfl (lv_at hl 0 rfl) ?_
  refine s_get S hX G (i := 0) (kd := 8) (a := (I2 0)) (v := .ref (E.2.2.2 1)) (C := RX8) (T := TX8) (N := 4) 0 (rfl : sh 0 = 8) rfl rfl rfl (by decide) rfl (fun _ h => (List.mem_cons_of_mem _ (List.mem_append_left _ (List.mem_append_left _ (List.mem_append_left _ (List.mem_append_left _ (List.mem_append_left _ (List.mem_append_left _ (List.mem_append_left _ (List.mem_append_right _ h)))))))))) (by decide) (List.mem_of_getElem? (i := 3) rfl) (fun _ h => h) dX8_go_43 ?_
  refine lv_iload_n S.1 S.2.1 dX8_go_46 rfl (lv_at hl 1 rfl) ?_
  refine s_callV (C := RX0) (As := [.int (nI n)]) (rest := []) (i := 1) (kd := 0) S hX G (k_X0_pass l E 1 n k0 (by unfold IsB; decide) (by omega) (Eq.trans (congrFun (hRec.fr (z := 1) (by decide) (by decide)) 4) (Eq.trans (congrFun e_br 4) hs)) (by rw [hRec.fr (by decide) (by decide)]; exact (hisb 1 (by decide)).2.1) (by rw [hRec.fr (by decide) (by decide)]; exact (hisb 10 (by decide)).2.1)) (cwV (bytes := cX0_pass) (maxL := 4) (ret := (some .int)) 1 S.2.2.2.2 gX8_go_X0_pass rfl rfl rfl (by decide +kernel) ⟨Nat.le_of_ble_eq_true rfl, Nat.le_of_ble_eq_true rfl⟩) (rfl : sh 1 = 0) rfl rfl rfl (by decide) rfl hl.1 rfl (Nat.le_of_ble_eq_true rfl) ⟨Nat.zero_le _, Nat.zero_le _⟩ dX8_go_47 (fun v I3 L3 H locs hR G => ?_)
  obtain ⟨hv, hIp, hLp⟩ := hR
  subst hv
  refine W.eq (g2 := F0 mg 50 ls [.int (brSum 1 k0 n (I2, L2))]) rfl ?_
  refine s_iret (x := (brSum 1 k0 n (I2, L2))) S G hr hlk dX8_go_50 ?_
  exact ⟨I2, L2, hRec, rfl, hIp, hLp⟩
set_option maxHeartbeats 4000000 in
set_option maxRecDepth 100000 in
theorem k_X8_go_lim (l : Launch) (E : Ev) {I : SI} {L : SL} (n : Nat) (br : Nat → Int32) (k0 : Nat) (e_br : I (1) = br) (hs : br 4 = nI k0) (h1 : 1 ≤ n) (h2 : n ≤ 1000) (hk : k0 ≤ 100000) (h3 : 100000 < k0 + n) : CS l yX8_go wsX8_go ({ frames := 1, cells := 0, slots := 0, locals := 22 }) E [.ref (E.2.2.2 0), .int (nI n)] I L (fun vv I' L' => vv = some (.int (-2000000003 : Int32)) ∧ I' = I ∧ L' = L) := by
  refine CS.of (cc := cX8_go) (maxL := 2) (ret := (some .int)) (by decide) rfl (Nat.le_of_ble_eq_true rfl) ?_
  intro pg en sg mg below meth cg ls S hr hlk hX G hl
  have S : CallFix pg mg cg cX8_go 2 sg _ wsX8_go RX8 := S
  have hl : lv_has ls 2 [(0, .ref (E.2.2.2 0)), (1, .int (nI n))] := hl
  refine lv_iload_n S.1 S.2.1 dX8_go_0 rfl (lv_at hl 1 rfl) ?_
  refine lv_iconst (v := (1 : Int32)) S.1 S.2.1 dX8_go_1 (by decide) ?_
  refine lv_sipush (v := (1000 : Int32)) S.1 S.2.1 dX8_go_2 (by decide) ?_
  refine s_callS (As := [.int (nI n), .int (1 : Int32), .int (1000 : Int32)]) (rest := []) S hX G (k_X8_isWithin l E (nI n) (1 : Int32) (1000 : Int32)) (va_cwS (bytes := cX8_isWithin) (maxL := 3) (ret := (some .boolean)) 3 S.2.2.2.2 gX8_go_X8_isWithin rfl rfl rfl (by decide +kernel) ⟨Nat.le_of_ble_eq_true rfl, Nat.le_of_ble_eq_true rfl⟩) rfl hl.1 rfl (Nat.le_of_ble_eq_true rfl) ⟨Nat.zero_le _, Nat.zero_le _⟩ dX8_go_5 (fun v I1 L1 H locs hR G => ?_)
  obtain ⟨hv, hI, hL⟩ := hR
  subst hv
  have G : GS E I L sg H locs := G.same hI hL
  refine W.eq (g2 := F0 mg 8 ls [.int (if ¬ (nI n) < (1 : Int32) ∧ ¬ (1000 : Int32) < (nI n) then 1 else 0)]) rfl ?_
  refine s_if_ne_b (P := ¬ (nI n) < (1 : Int32) ∧ ¬ (1000 : Int32) < (nI n)) (tgt := 14) S dX8_go_8 (by decide) (fun _ => ?_) (fun h => absurd (inR h1 h2 (by decide)) h)
  refine lv_iload_n S.1 S.2.1 dX8_go_14 rfl (lv_at hl 1 rfl) ?_
  refine lv_ldc (v := (100000 : Int32)) S.1 S.2.1 S.2.2.2.1 (S.2.2.2.2 _ (List.mem_of_getElem? (i := 2) rfl)) dX8_go_15 ?_
  refine lv_aload_n S.1 S.2.1 dX8_go_17 rfl (lv_at hl 0 rfl) ?_
  refine s_get S hX G (i := 0) (kd := 8) (a := (I 0)) (v := .ref (E.2.2.2 1)) (C := RX8) (T := TX8) (N := 4) 0 (rfl : sh 0 = 8) rfl rfl rfl (by decide) rfl (fun _ h => (List.mem_cons_of_mem _ (List.mem_append_left _ (List.mem_append_left _ (List.mem_append_left _ (List.mem_append_left _ (List.mem_append_left _ (List.mem_append_left _ (List.mem_append_left _ (List.mem_append_right _ h)))))))))) (by decide) (List.mem_of_getElem? (i := 3) rfl) (fun _ h => h) dX8_go_18 ?_
  refine s_getN S hX G (i := 1) (kd := 0) (a := br) (v := .int (br 4)) (C := RX0) (T := TX0) (N := 5) 4 (rfl : sh 1 = 0) e_br rfl rfl (by decide) rfl (fun _ h => (List.mem_cons_of_mem _ (List.mem_append_left _ (List.mem_append_left _ (List.mem_append_left _ (List.mem_append_left _ (List.mem_append_left _ (List.mem_append_left _ (List.mem_append_right _ h))))))))) (by decide) (List.mem_of_getElem? (i := 35) rfl) (fun _ h => h) dX8_go_21 ?_
  refine s_conv (y := (nI k0)) hs ?_
  refine s_isub (v := (nI (100000 - k0))) S dX8_go_24 (pk_sub (a := 100000) (b := k0) (by omega)) ?_
  refine lv_icmp_le (tgt := 31) S.1 S.2.1 dX8_go_25 (by decide) (fun h => absurd h (nI_ge (by omega) (by omega))) (fun _ => ?_)
  refine lv_ldc (v := (-2000000003 : Int32)) S.1 S.2.1 S.2.2.2.1 (S.2.2.2.2 _ (List.mem_of_getElem? (i := 4) rfl)) dX8_go_28 ?_
  refine s_iret (x := (-2000000003 : Int32)) S G hr hlk dX8_go_30 ?_
  exact ⟨rfl, rfl, rfl⟩
set_option maxHeartbeats 4000000 in
set_option maxRecDepth 100000 in
theorem k_X8_go_no (l : Launch) (E : Ev) {I : SI} {L : SL} (slots : Int32) (ht : ¬ INR slots 1 1000) : CS l yX8_go wsX8_go ({ frames := 1, cells := 0, slots := 0, locals := 22 }) E [.ref (E.2.2.2 0), .int slots] I L (fun vv I' L' => vv = some (.int (-2000000001 : Int32)) ∧ I' = I ∧ L' = L) := by
  refine CS.of (cc := cX8_go) (maxL := 2) (ret := (some .int)) (by decide) rfl (Nat.le_of_ble_eq_true rfl) ?_
  intro pg en sg mg below meth cg ls S hr hlk hX G hl
  have S : CallFix pg mg cg cX8_go 2 sg _ wsX8_go RX8 := S
  have hl : lv_has ls 2 [(0, .ref (E.2.2.2 0)), (1, .int slots)] := hl
  refine lv_iload_n S.1 S.2.1 dX8_go_0 rfl (lv_at hl 1 rfl) ?_
  refine lv_iconst (v := (1 : Int32)) S.1 S.2.1 dX8_go_1 (by decide) ?_
  refine lv_sipush (v := (1000 : Int32)) S.1 S.2.1 dX8_go_2 (by decide) ?_
  refine s_callS (As := [.int slots, .int (1 : Int32), .int (1000 : Int32)]) (rest := []) S hX G (k_X8_isWithin l E slots (1 : Int32) (1000 : Int32)) (va_cwS (bytes := cX8_isWithin) (maxL := 3) (ret := (some .boolean)) 3 S.2.2.2.2 gX8_go_X8_isWithin rfl rfl rfl (by decide +kernel) ⟨Nat.le_of_ble_eq_true rfl, Nat.le_of_ble_eq_true rfl⟩) rfl hl.1 rfl (Nat.le_of_ble_eq_true rfl) ⟨Nat.zero_le _, Nat.zero_le _⟩ dX8_go_5 (fun v I1 L1 H locs hR G => ?_)
  obtain ⟨hv, hI, hL⟩ := hR
  subst hv
  have G : GS E I L sg H locs := G.same hI hL
  refine W.eq (g2 := F0 mg 8 ls [.int (if ¬ slots < (1 : Int32) ∧ ¬ (1000 : Int32) < slots then 1 else 0)]) rfl ?_
  refine s_if_ne_b (P := ¬ slots < (1 : Int32) ∧ ¬ (1000 : Int32) < slots) (tgt := 14) S dX8_go_8 (by decide) (fun h => absurd h ht) (fun _ => ?_)
  refine lv_ldc (v := (-2000000001 : Int32)) S.1 S.2.1 S.2.2.2.1 (S.2.2.2.2 _ (List.mem_of_getElem? (i := 1) rfl)) dX8_go_11 ?_
  refine s_iret (x := (-2000000001 : Int32)) S G hr hlk dX8_go_13 ?_
  exact ⟨rfl, rfl, rfl⟩
