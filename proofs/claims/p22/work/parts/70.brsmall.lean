set_option maxHeartbeats 4000000 in
set_option maxRecDepth 100000 in
theorem k_X6_copyFrom (l : Launch) (E : Ev) {I : SI} {L : SL} (i : Nat) (j : Nat) (a1 : Nat → Int32) (a2 : Nat → Int32) (a3 : Nat → Int32) (a4 : Nat → Int32) (b1 : Nat → Int32) (b2 : Nat → Int32) (b3 : Nat → Int32) (b4 : Nat → Int32) (hi : sh (i) = 6) (hi_1 : sh (i+1) = 46) (hi_2 : sh (i+2) = 46) (hi_3 : sh (i+3) = 46) (hi_4 : sh (i+4) = 46) (hj : sh (j) = 6) (hj_1 : sh (j+1) = 46) (hj_2 : sh (j+2) = 46) (hj_3 : sh (j+3) = 46) (hj_4 : sh (j+4) = 46) (e_a1 : I (i+1) = a1) (e_a2 : I (i+2) = a2) (e_a3 : I (i+3) = a3) (e_a4 : I (i+4) = a4) (e_b1 : I (j+1) = b1) (e_b2 : I (j+2) = b2) (e_b3 : I (j+3) = b3) (e_b4 : I (j+4) = b4) (hne : i + 4 < j ∨ j + 4 < i) : CS l yX6_copyFrom wsX6_copyFrom ({ frames := 1, cells := 0, slots := 0, locals := 18 }) E [.ref (E.2.2.2 i), .ref (E.2.2.2 j)] I L (fun vv I' L' => vv = none ∧ I' = (up (up (up (up I (i+1) (va_cpy b1 a1 0 0 32)) (i+2) (va_cpy b2 a2 0 0 32)) (i+3) (va_cpy b3 a3 0 0 32)) (i+4) (va_cpy b4 a4 0 0 32)) ∧ L' = L) := by
  refine CS.of (cc := cX6_copyFrom) (maxL := 2) (ret := none) (by decide) rfl (Nat.le_of_ble_eq_true rfl) ?_
  intro pg en sg mg below meth cg ls S hr hlk hX G hl
  have S : CallFix pg mg cg cX6_copyFrom 2 sg _ wsX6_copyFrom RX6 := S
  have hl : lv_has ls 2 [(0, .ref (E.2.2.2 i)), (1, .ref (E.2.2.2 j))] := hl
  refine lv_aload_n S.1 S.2.1 dX6_copyFrom_0 rfl (lv_at hl 1 rfl) ?_
  refine s_get S hX G (i := j) (kd := 6) (a := (I j)) (v := .ref (E.2.2.2 (j + 1))) (C := RX6) (T := TX6) (N := 4) 0 hj rfl rfl rfl (by decide) rfl (fun _ h => (List.mem_cons_of_mem _ (List.mem_append_right _ h))) (by decide) (List.mem_of_getElem? (i := 1) rfl) (fun _ h => h) dX6_copyFrom_1 ?_
  refine lv_iconst (v := (0 : Int32)) S.1 S.2.1 dX6_copyFrom_4 (by decide) ?_
  refine lv_aload_n S.1 S.2.1 dX6_copyFrom_5 rfl (lv_at hl 0 rfl) ?_
  refine s_get S hX G (i := i) (kd := 6) (a := (I i)) (v := .ref (E.2.2.2 (i + 1))) (C := RX6) (T := TX6) (N := 4) 0 hi rfl rfl rfl (by decide) rfl (fun _ h => (List.mem_cons_of_mem _ (List.mem_append_right _ h))) (by decide) (List.mem_of_getElem? (i := 1) rfl) (fun _ h => h) dX6_copyFrom_6 ?_
  refine lv_iconst (v := (0 : Int32)) S.1 S.2.1 dX6_copyFrom_9 (by decide) ?_
  refine lv_bipush (v := (32 : Int32)) S.1 S.2.1 dX6_copyFrom_10 (by decide) ?_
  refine s_copy S hX G (i := (j + 1)) (j := (i + 1)) (kd := 46) (n := 32) (a := b1) (b := a1) (I' := (up I (i + 1) (va_cpy b1 a1 0 0 32))) hj_1 hi_1 e_b1 e_a1 (fun _ => rfl) (fun _ => rfl) (by decide) (by decide) (by decide) rfl (List.mem_of_getElem? (i := 2) rfl) (List.mem_of_getElem? (i := 3) rfl) (List.mem_of_getElem? (i := 4) rfl) (List.mem_of_getElem? (i := 5) rfl) hl.1 (Nat.le_of_ble_eq_true rfl) (Nat.le_of_ble_eq_true rfl) dX6_copyFrom_12 (fun H locs G => ?_)
  refine lv_aload_n S.1 S.2.1 dX6_copyFrom_15 rfl (lv_at hl 1 rfl) ?_
  refine s_get S hX G (i := j) (kd := 6) (a := (I j)) (v := .ref (E.2.2.2 (j + 2))) (C := RX6) (T := TX6) (N := 4) 1 hj (up_ne (by omega)) rfl rfl (by decide) rfl (fun _ h => (List.mem_cons_of_mem _ (List.mem_append_right _ h))) (by decide) (List.mem_of_getElem? (i := 6) rfl) (fun _ h => h) dX6_copyFrom_16 ?_
  refine lv_iconst (v := (0 : Int32)) S.1 S.2.1 dX6_copyFrom_19 (by decide) ?_
  refine lv_aload_n S.1 S.2.1 dX6_copyFrom_20 rfl (lv_at hl 0 rfl) ?_
  refine s_get S hX G (i := i) (kd := 6) (a := (I i)) (v := .ref (E.2.2.2 (i + 2))) (C := RX6) (T := TX6) (N := 4) 1 hi (up_ne (by omega)) rfl rfl (by decide) rfl (fun _ h => (List.mem_cons_of_mem _ (List.mem_append_right _ h))) (by decide) (List.mem_of_getElem? (i := 6) rfl) (fun _ h => h) dX6_copyFrom_21 ?_
  refine lv_iconst (v := (0 : Int32)) S.1 S.2.1 dX6_copyFrom_24 (by decide) ?_
  refine lv_bipush (v := (32 : Int32)) S.1 S.2.1 dX6_copyFrom_25 (by decide) ?_
  refine s_copy S hX G (i := (j + 2)) (j := (i + 2)) (kd := 46) (n := 32) (a := b2) (b := a2) (I' := (up (up I (i + 1) (va_cpy b1 a1 0 0 32)) (i + 2) (va_cpy b2 a2 0 0 32))) hj_2 hi_2 ((up_ne (by omega)).trans e_b2) ((up_ne (by omega)).trans e_a2) (fun _ => rfl) (fun _ => rfl) (by decide) (by decide) (by decide) rfl (List.mem_of_getElem? (i := 2) rfl) (List.mem_of_getElem? (i := 3) rfl) (List.mem_of_getElem? (i := 4) rfl) (List.mem_of_getElem? (i := 5) rfl) hl.1 (Nat.le_of_ble_eq_true rfl) (Nat.le_of_ble_eq_true rfl) dX6_copyFrom_27 (fun H locs G => ?_)
  refine lv_aload_n S.1 S.2.1 dX6_copyFrom_30 rfl (lv_at hl 1 rfl) ?_
  refine s_get S hX G (i := j) (kd := 6) (a := (I j)) (v := .ref (E.2.2.2 (j + 3))) (C := RX6) (T := TX6) (N := 4) 2 hj ((up_ne (by omega)).trans (up_ne (by omega))) rfl rfl (by decide) rfl (fun _ h => (List.mem_cons_of_mem _ (List.mem_append_right _ h))) (by decide) (List.mem_of_getElem? (i := 7) rfl) (fun _ h => h) dX6_copyFrom_31 ?_
  refine lv_iconst (v := (0 : Int32)) S.1 S.2.1 dX6_copyFrom_34 (by decide) ?_
  refine lv_aload_n S.1 S.2.1 dX6_copyFrom_35 rfl (lv_at hl 0 rfl) ?_
  refine s_get S hX G (i := i) (kd := 6) (a := (I i)) (v := .ref (E.2.2.2 (i + 3))) (C := RX6) (T := TX6) (N := 4) 2 hi ((up_ne (by omega)).trans (up_ne (by omega))) rfl rfl (by decide) rfl (fun _ h => (List.mem_cons_of_mem _ (List.mem_append_right _ h))) (by decide) (List.mem_of_getElem? (i := 7) rfl) (fun _ h => h) dX6_copyFrom_36 ?_
  refine lv_iconst (v := (0 : Int32)) S.1 S.2.1 dX6_copyFrom_39 (by decide) ?_
  refine lv_bipush (v := (32 : Int32)) S.1 S.2.1 dX6_copyFrom_40 (by decide) ?_
  refine s_copy S hX G (i := (j + 3)) (j := (i + 3)) (kd := 46) (n := 32) (a := b3) (b := a3) (I' := (up (up (up I (i + 1) (va_cpy b1 a1 0 0 32)) (i + 2) (va_cpy b2 a2 0 0 32)) (i + 3) (va_cpy b3 a3 0 0 32))) hj_3 hi_3 ((up_ne (by omega)).trans ((up_ne (by omega)).trans e_b3)) ((up_ne (by omega)).trans ((up_ne (by omega)).trans e_a3)) (fun _ => rfl) (fun _ => rfl) (by decide) (by decide) (by decide) rfl (List.mem_of_getElem? (i := 2) rfl) (List.mem_of_getElem? (i := 3) rfl) (List.mem_of_getElem? (i := 4) rfl) (List.mem_of_getElem? (i := 5) rfl) hl.1 (Nat.le_of_ble_eq_true rfl) (Nat.le_of_ble_eq_true rfl) dX6_copyFrom_42 (fun H locs G => ?_)
  refine lv_aload_n S.1 S.2.1 dX6_copyFrom_45 rfl (lv_at hl 1 rfl) ?_
  refine s_get S hX G (i := j) (kd := 6) (a := (I j)) (v := .ref (E.2.2.2 (j + 4))) (C := RX6) (T := TX6) (N := 4) 3 hj ((up_ne (by omega)).trans ((up_ne (by omega)).trans (up_ne (by omega)))) rfl rfl (by decide) rfl (fun _ h => (List.mem_cons_of_mem _ (List.mem_append_right _ h))) (by decide) (List.mem_of_getElem? (i := 8) rfl) (fun _ h => h) dX6_copyFrom_46 ?_
  refine lv_iconst (v := (0 : Int32)) S.1 S.2.1 dX6_copyFrom_49 (by decide) ?_
  refine lv_aload_n S.1 S.2.1 dX6_copyFrom_50 rfl (lv_at hl 0 rfl) ?_
  refine s_get S hX G (i := i) (kd := 6) (a := (I i)) (v := .ref (E.2.2.2 (i + 4))) (C := RX6) (T := TX6) (N := 4) 3 hi ((up_ne (by omega)).trans ((up_ne (by omega)).trans (up_ne (by omega)))) rfl rfl (by decide) rfl (fun _ h => (List.mem_cons_of_mem _ (List.mem_append_right _ h))) (by decide) (List.mem_of_getElem? (i := 8) rfl) (fun _ h => h) dX6_copyFrom_51 ?_
  refine lv_iconst (v := (0 : Int32)) S.1 S.2.1 dX6_copyFrom_54 (by decide) ?_
  refine lv_bipush (v := (32 : Int32)) S.1 S.2.1 dX6_copyFrom_55 (by decide) ?_
  refine s_copy S hX G (i := (j + 4)) (j := (i + 4)) (kd := 46) (n := 32) (a := b4) (b := a4) (I' := (up (up (up (up I (i + 1) (va_cpy b1 a1 0 0 32)) (i + 2) (va_cpy b2 a2 0 0 32)) (i + 3) (va_cpy b3 a3 0 0 32)) (i + 4) (va_cpy b4 a4 0 0 32))) hj_4 hi_4 ((up_ne (by omega)).trans ((up_ne (by omega)).trans ((up_ne (by omega)).trans e_b4))) ((up_ne (by omega)).trans ((up_ne (by omega)).trans ((up_ne (by omega)).trans e_a4))) (fun _ => rfl) (fun _ => rfl) (by decide) (by decide) (by decide) rfl (List.mem_of_getElem? (i := 2) rfl) (List.mem_of_getElem? (i := 3) rfl) (List.mem_of_getElem? (i := 4) rfl) (List.mem_of_getElem? (i := 5) rfl) hl.1 (Nat.le_of_ble_eq_true rfl) (Nat.le_of_ble_eq_true rfl) dX6_copyFrom_57 (fun H locs G => ?_)
  refine s_vret S G hr hlk dX6_copyFrom_60 ?_
  exact ⟨rfl, (st_eq4 ((up_ne (by omega)).trans ((up_ne (by omega)).trans ((up_ne (by omega)).trans up_eq))) ((up_ne (by omega)).trans ((up_ne (by omega)).trans up_eq)) ((up_ne (by omega)).trans up_eq) up_eq (fun _ g0 g1 g2 g3 => ((up_ne g3).trans ((up_ne g2).trans ((up_ne g1).trans (up_ne g0)))))), rfl⟩
set_option maxHeartbeats 4000000 in
set_option maxRecDepth 100000 in
theorem k_X0_loadAt_0 (l : Launch) (E : Ev) {I : SI} {L : SL} (B : Nat) (hB : IsB B) : CS l yX0_loadAt wsX0_loadAt ({ frames := 0, cells := 0, slots := 0, locals := 0 }) E [.ref (E.2.2.2 B), .int (0 : Int32)] I L (fun vv I' L' => vv = some (.ref (E.2.2.2 (B+1))) ∧ I' = I ∧ L' = L) := by
  refine CS.of (cc := cX0_loadAt) (maxL := 2) (ret := (some (.object "BridgeLegs$Load"))) (by decide) rfl (Nat.le_of_ble_eq_true rfl) ?_
  intro pg en sg mg below meth cg ls S hr hlk hX G hl
  have S : CallFix pg mg cg cX0_loadAt 2 sg _ wsX0_loadAt RX0 := S
  have hl : lv_has ls 2 [(0, .ref (E.2.2.2 B)), (1, .int (0 : Int32))] := hl
  refine lv_iload_n S.1 S.2.1 dX0_loadAt_0 rfl (lv_at hl 1 rfl) ?_
  refine lv_if_ne (tgt := 11) S.1 S.2.1 dX0_loadAt_1 (by decide) (fun h => absurd (by decide) h) (fun _ => ?_)
  refine lv_aload_n S.1 S.2.1 dX0_loadAt_4 rfl (lv_at hl 0 rfl) ?_
  refine s_get S hX G (i := B) (kd := 0) (a := (I B)) (v := .ref (E.2.2.2 (B + 1))) (C := RX0) (T := TX0) (N := 5) 0 (hB 0 (by decide)) rfl rfl rfl (by decide) rfl (fun _ h => (List.mem_cons_of_mem _ (List.mem_append_right _ h))) (by decide) (List.mem_of_getElem? (i := 1) rfl) (fun _ h => h) dX0_loadAt_5 ?_
  refine lv_goto (tgt := 15) S.1 S.2.1 dX0_loadAt_8 (by decide) ?_
  refine s_aret (a := E.2.2.2 (B + 1)) S G hr hlk dX0_loadAt_15 ?_
  exact ⟨rfl, rfl, rfl⟩
set_option maxHeartbeats 4000000 in
set_option maxRecDepth 100000 in
theorem k_X0_loadAt_1 (l : Launch) (E : Ev) {I : SI} {L : SL} (B : Nat) (hB : IsB B) : CS l yX0_loadAt wsX0_loadAt ({ frames := 0, cells := 0, slots := 0, locals := 0 }) E [.ref (E.2.2.2 B), .int (1 : Int32)] I L (fun vv I' L' => vv = some (.ref (E.2.2.2 (B+10))) ∧ I' = I ∧ L' = L) := by
  refine CS.of (cc := cX0_loadAt) (maxL := 2) (ret := (some (.object "BridgeLegs$Load"))) (by decide) rfl (Nat.le_of_ble_eq_true rfl) ?_
  intro pg en sg mg below meth cg ls S hr hlk hX G hl
  have S : CallFix pg mg cg cX0_loadAt 2 sg _ wsX0_loadAt RX0 := S
  have hl : lv_has ls 2 [(0, .ref (E.2.2.2 B)), (1, .int (1 : Int32))] := hl
  refine lv_iload_n S.1 S.2.1 dX0_loadAt_0 rfl (lv_at hl 1 rfl) ?_
  refine lv_if_ne (tgt := 11) S.1 S.2.1 dX0_loadAt_1 (by decide) (fun _ => ?_) (fun h => absurd h (by decide))
  refine lv_aload_n S.1 S.2.1 dX0_loadAt_11 rfl (lv_at hl 0 rfl) ?_
  refine s_get S hX G (i := B) (kd := 0) (a := (I B)) (v := .ref (E.2.2.2 (B + 10))) (C := RX0) (T := TX0) (N := 5) 1 (hB 0 (by decide)) rfl rfl rfl (by decide) rfl (fun _ h => (List.mem_cons_of_mem _ (List.mem_append_right _ h))) (by decide) (List.mem_of_getElem? (i := 2) rfl) (fun _ h => h) dX0_loadAt_12 ?_
  refine s_aret (a := E.2.2.2 (B + 10)) S G hr hlk dX0_loadAt_15 ?_
  exact ⟨rfl, rfl, rfl⟩
set_option maxHeartbeats 4000000 in
set_option maxRecDepth 100000 in
theorem k_X0_legAt_0 (l : Launch) (E : Ev) {I : SI} {L : SL} (B : Nat) (hB : IsB B) : CS l yX0_legAt wsX0_legAt ({ frames := 1, cells := 0, slots := 0, locals := 21 }) E [.ref (E.2.2.2 B), .int (0 : Int32)] I L (fun vv I' L' => vv = some (.ref (E.2.2.2 (B+2))) ∧ I' = I ∧ L' = L) := by
  refine CS.of (cc := cX0_legAt) (maxL := 3) (ret := (some (.object "BridgeLegs$Leg"))) (by decide) rfl (Nat.le_of_ble_eq_true rfl) ?_
  intro pg en sg mg below meth cg ls S hr hlk hX G hl
  have S : CallFix pg mg cg cX0_legAt 3 sg _ wsX0_legAt RX0 := S
  have hl : lv_has ls 3 [(0, .ref (E.2.2.2 B)), (1, .int (0 : Int32))] := hl
  refine lv_aload_n S.1 S.2.1 dX0_legAt_0 rfl (lv_at hl 0 rfl) ?_
  refine lv_iload_n S.1 S.2.1 dX0_legAt_1 rfl (lv_at hl 1 rfl) ?_
  refine lv_iconst (v := (2 : Int32)) S.1 S.2.1 dX0_legAt_2 (by decide) ?_
  refine s_idiv (v := (0 : Int32)) S dX0_legAt_3 (by decide) (by decide) ?_
  refine s_callV (C := RX0) (As := [.int (0 : Int32)]) (rest := []) (i := B) (kd := 0) S hX G (k_X0_loadAt_0 l E B hB) (cwV (bytes := cX0_loadAt) (maxL := 2) (ret := (some (.object "BridgeLegs$Load"))) 1 S.2.2.2.2 gX0_legAt_X0_loadAt rfl rfl rfl (by decide +kernel) ⟨Nat.le_of_ble_eq_true rfl, Nat.le_of_ble_eq_true rfl⟩) (hB 0 (by decide)) rfl rfl rfl (by decide) rfl hl.1 rfl (Nat.le_of_ble_eq_true rfl) ⟨Nat.zero_le _, Nat.zero_le _⟩ dX0_legAt_4 (fun v I1 L1 H locs hR G => ?_)
  obtain ⟨hv, hI, hL⟩ := hR
  subst hv
  have G : GS E I L sg H locs := G.same hI hL
  refine W.eq (g2 := F0 mg 7 ls [.ref (E.2.2.2 (B + 1))]) rfl ?_
  refine lv_astore_n (lv' := [(2, .ref (E.2.2.2 (B + 1))), (0, .ref (E.2.2.2 B)), (1, .int (0 : Int32))]) S.1 S.2.1 dX0_legAt_7 rfl hl (by decide) rfl (fun ls hl => ?_)
  refine lv_iload_n S.1 S.2.1 dX0_legAt_8 rfl (lv_at hl 2 rfl) ?_
  refine lv_iconst (v := (2 : Int32)) S.1 S.2.1 dX0_legAt_9 (by decide) ?_
  refine s_irem (v := (0 : Int32)) S dX0_legAt_10 (by decide) (by decide) ?_
  refine lv_if_ne (tgt := 21) S.1 S.2.1 dX0_legAt_11 (by decide) (fun h => absurd (by decide) h) (fun _ => ?_)
  refine lv_aload_n S.1 S.2.1 dX0_legAt_14 rfl (lv_at hl 0 rfl) ?_
  refine s_getN S hX G (i := (B + 1)) (kd := 5) (a := (I (B + 1))) (v := .ref (E.2.2.2 (B + 2))) (C := RX5) (T := TX5) (N := 13) 0 (hB 1 (by decide)) rfl rfl rfl (by decide) rfl (fun _ h => (List.mem_cons_of_mem _ (List.mem_append_left _ (List.mem_append_right _ h)))) (by decide) (List.mem_of_getElem? (i := 15) rfl) (fun _ h => h) dX0_legAt_15 ?_
  refine lv_goto (tgt := 25) S.1 S.2.1 dX0_legAt_18 (by decide) ?_
  refine s_aret (a := E.2.2.2 (B + 2)) S G hr hlk dX0_legAt_25 ?_
  exact ⟨rfl, rfl, rfl⟩
set_option maxHeartbeats 4000000 in
set_option maxRecDepth 100000 in
theorem k_X0_legAt_1 (l : Launch) (E : Ev) {I : SI} {L : SL} (B : Nat) (hB : IsB B) : CS l yX0_legAt wsX0_legAt ({ frames := 1, cells := 0, slots := 0, locals := 21 }) E [.ref (E.2.2.2 B), .int (1 : Int32)] I L (fun vv I' L' => vv = some (.ref (E.2.2.2 (B+3))) ∧ I' = I ∧ L' = L) := by
  refine CS.of (cc := cX0_legAt) (maxL := 3) (ret := (some (.object "BridgeLegs$Leg"))) (by decide) rfl (Nat.le_of_ble_eq_true rfl) ?_
  intro pg en sg mg below meth cg ls S hr hlk hX G hl
  have S : CallFix pg mg cg cX0_legAt 3 sg _ wsX0_legAt RX0 := S
  have hl : lv_has ls 3 [(0, .ref (E.2.2.2 B)), (1, .int (1 : Int32))] := hl
  refine lv_aload_n S.1 S.2.1 dX0_legAt_0 rfl (lv_at hl 0 rfl) ?_
  refine lv_iload_n S.1 S.2.1 dX0_legAt_1 rfl (lv_at hl 1 rfl) ?_
  refine lv_iconst (v := (2 : Int32)) S.1 S.2.1 dX0_legAt_2 (by decide) ?_
  refine s_idiv (v := (0 : Int32)) S dX0_legAt_3 (by decide) (by decide) ?_
  refine s_callV (C := RX0) (As := [.int (0 : Int32)]) (rest := []) (i := B) (kd := 0) S hX G (k_X0_loadAt_0 l E B hB) (cwV (bytes := cX0_loadAt) (maxL := 2) (ret := (some (.object "BridgeLegs$Load"))) 1 S.2.2.2.2 gX0_legAt_X0_loadAt rfl rfl rfl (by decide +kernel) ⟨Nat.le_of_ble_eq_true rfl, Nat.le_of_ble_eq_true rfl⟩) (hB 0 (by decide)) rfl rfl rfl (by decide) rfl hl.1 rfl (Nat.le_of_ble_eq_true rfl) ⟨Nat.zero_le _, Nat.zero_le _⟩ dX0_legAt_4 (fun v I1 L1 H locs hR G => ?_)
  obtain ⟨hv, hI, hL⟩ := hR
  subst hv
  have G : GS E I L sg H locs := G.same hI hL
  refine W.eq (g2 := F0 mg 7 ls [.ref (E.2.2.2 (B + 1))]) rfl ?_
  refine lv_astore_n (lv' := [(2, .ref (E.2.2.2 (B + 1))), (0, .ref (E.2.2.2 B)), (1, .int (1 : Int32))]) S.1 S.2.1 dX0_legAt_7 rfl hl (by decide) rfl (fun ls hl => ?_)
  refine lv_iload_n S.1 S.2.1 dX0_legAt_8 rfl (lv_at hl 2 rfl) ?_
  refine lv_iconst (v := (2 : Int32)) S.1 S.2.1 dX0_legAt_9 (by decide) ?_
  refine s_irem (v := (1 : Int32)) S dX0_legAt_10 (by decide) (by decide) ?_
  refine lv_if_ne (tgt := 21) S.1 S.2.1 dX0_legAt_11 (by decide) (fun _ => ?_) (fun h => absurd h (by decide))
  refine lv_aload_n S.1 S.2.1 dX0_legAt_21 rfl (lv_at hl 0 rfl) ?_
  refine s_getN S hX G (i := (B + 1)) (kd := 5) (a := (I (B + 1))) (v := .ref (E.2.2.2 (B + 3))) (C := RX5) (T := TX5) (N := 13) 1 (hB 1 (by decide)) rfl rfl rfl (by decide) rfl (fun _ h => (List.mem_cons_of_mem _ (List.mem_append_left _ (List.mem_append_right _ h)))) (by decide) (List.mem_of_getElem? (i := 17) rfl) (fun _ h => h) dX0_legAt_22 ?_
  refine s_aret (a := E.2.2.2 (B + 3)) S G hr hlk dX0_legAt_25 ?_
  exact ⟨rfl, rfl, rfl⟩
set_option maxHeartbeats 4000000 in
set_option maxRecDepth 100000 in
theorem k_X0_legAt_2 (l : Launch) (E : Ev) {I : SI} {L : SL} (B : Nat) (hB : IsB B) : CS l yX0_legAt wsX0_legAt ({ frames := 1, cells := 0, slots := 0, locals := 21 }) E [.ref (E.2.2.2 B), .int (2 : Int32)] I L (fun vv I' L' => vv = some (.ref (E.2.2.2 (B+11))) ∧ I' = I ∧ L' = L) := by
  refine CS.of (cc := cX0_legAt) (maxL := 3) (ret := (some (.object "BridgeLegs$Leg"))) (by decide) rfl (Nat.le_of_ble_eq_true rfl) ?_
  intro pg en sg mg below meth cg ls S hr hlk hX G hl
  have S : CallFix pg mg cg cX0_legAt 3 sg _ wsX0_legAt RX0 := S
  have hl : lv_has ls 3 [(0, .ref (E.2.2.2 B)), (1, .int (2 : Int32))] := hl
  refine lv_aload_n S.1 S.2.1 dX0_legAt_0 rfl (lv_at hl 0 rfl) ?_
  refine lv_iload_n S.1 S.2.1 dX0_legAt_1 rfl (lv_at hl 1 rfl) ?_
  refine lv_iconst (v := (2 : Int32)) S.1 S.2.1 dX0_legAt_2 (by decide) ?_
  refine s_idiv (v := (1 : Int32)) S dX0_legAt_3 (by decide) (by decide) ?_
  refine s_callV (C := RX0) (As := [.int (1 : Int32)]) (rest := []) (i := B) (kd := 0) S hX G (k_X0_loadAt_1 l E B hB) (cwV (bytes := cX0_loadAt) (maxL := 2) (ret := (some (.object "BridgeLegs$Load"))) 1 S.2.2.2.2 gX0_legAt_X0_loadAt rfl rfl rfl (by decide +kernel) ⟨Nat.le_of_ble_eq_true rfl, Nat.le_of_ble_eq_true rfl⟩) (hB 0 (by decide)) rfl rfl rfl (by decide) rfl hl.1 rfl (Nat.le_of_ble_eq_true rfl) ⟨Nat.zero_le _, Nat.zero_le _⟩ dX0_legAt_4 (fun v I1 L1 H locs hR G => ?_)
  obtain ⟨hv, hI, hL⟩ := hR
  subst hv
  have G : GS E I L sg H locs := G.same hI hL
  refine W.eq (g2 := F0 mg 7 ls [.ref (E.2.2.2 (B + 10))]) rfl ?_
  refine lv_astore_n (lv' := [(2, .ref (E.2.2.2 (B + 10))), (0, .ref (E.2.2.2 B)), (1, .int (2 : Int32))]) S.1 S.2.1 dX0_legAt_7 rfl hl (by decide) rfl (fun ls hl => ?_)
  refine lv_iload_n S.1 S.2.1 dX0_legAt_8 rfl (lv_at hl 2 rfl) ?_
  refine lv_iconst (v := (2 : Int32)) S.1 S.2.1 dX0_legAt_9 (by decide) ?_
  refine s_irem (v := (0 : Int32)) S dX0_legAt_10 (by decide) (by decide) ?_
  refine lv_if_ne (tgt := 21) S.1 S.2.1 dX0_legAt_11 (by decide) (fun h => absurd (by decide) h) (fun _ => ?_)
  refine lv_aload_n S.1 S.2.1 dX0_legAt_14 rfl (lv_at hl 0 rfl) ?_
  refine s_getN S hX G (i := (B + 10)) (kd := 5) (a := (I (B + 10))) (v := .ref (E.2.2.2 (B + 11))) (C := RX5) (T := TX5) (N := 13) 0 (hB 10 (by decide)) rfl rfl rfl (by decide) rfl (fun _ h => (List.mem_cons_of_mem _ (List.mem_append_left _ (List.mem_append_right _ h)))) (by decide) (List.mem_of_getElem? (i := 15) rfl) (fun _ h => h) dX0_legAt_15 ?_
  refine lv_goto (tgt := 25) S.1 S.2.1 dX0_legAt_18 (by decide) ?_
  refine s_aret (a := E.2.2.2 (B + 11)) S G hr hlk dX0_legAt_25 ?_
  exact ⟨rfl, rfl, rfl⟩
set_option maxHeartbeats 4000000 in
set_option maxRecDepth 100000 in
theorem k_X0_legAt_3 (l : Launch) (E : Ev) {I : SI} {L : SL} (B : Nat) (hB : IsB B) : CS l yX0_legAt wsX0_legAt ({ frames := 1, cells := 0, slots := 0, locals := 21 }) E [.ref (E.2.2.2 B), .int (3 : Int32)] I L (fun vv I' L' => vv = some (.ref (E.2.2.2 (B+12))) ∧ I' = I ∧ L' = L) := by
  refine CS.of (cc := cX0_legAt) (maxL := 3) (ret := (some (.object "BridgeLegs$Leg"))) (by decide) rfl (Nat.le_of_ble_eq_true rfl) ?_
  intro pg en sg mg below meth cg ls S hr hlk hX G hl
  have S : CallFix pg mg cg cX0_legAt 3 sg _ wsX0_legAt RX0 := S
  have hl : lv_has ls 3 [(0, .ref (E.2.2.2 B)), (1, .int (3 : Int32))] := hl
  refine lv_aload_n S.1 S.2.1 dX0_legAt_0 rfl (lv_at hl 0 rfl) ?_
  refine lv_iload_n S.1 S.2.1 dX0_legAt_1 rfl (lv_at hl 1 rfl) ?_
  refine lv_iconst (v := (2 : Int32)) S.1 S.2.1 dX0_legAt_2 (by decide) ?_
  refine s_idiv (v := (1 : Int32)) S dX0_legAt_3 (by decide) (by decide) ?_
  refine s_callV (C := RX0) (As := [.int (1 : Int32)]) (rest := []) (i := B) (kd := 0) S hX G (k_X0_loadAt_1 l E B hB) (cwV (bytes := cX0_loadAt) (maxL := 2) (ret := (some (.object "BridgeLegs$Load"))) 1 S.2.2.2.2 gX0_legAt_X0_loadAt rfl rfl rfl (by decide +kernel) ⟨Nat.le_of_ble_eq_true rfl, Nat.le_of_ble_eq_true rfl⟩) (hB 0 (by decide)) rfl rfl rfl (by decide) rfl hl.1 rfl (Nat.le_of_ble_eq_true rfl) ⟨Nat.zero_le _, Nat.zero_le _⟩ dX0_legAt_4 (fun v I1 L1 H locs hR G => ?_)
  obtain ⟨hv, hI, hL⟩ := hR
  subst hv
  have G : GS E I L sg H locs := G.same hI hL
  refine W.eq (g2 := F0 mg 7 ls [.ref (E.2.2.2 (B + 10))]) rfl ?_
  refine lv_astore_n (lv' := [(2, .ref (E.2.2.2 (B + 10))), (0, .ref (E.2.2.2 B)), (1, .int (3 : Int32))]) S.1 S.2.1 dX0_legAt_7 rfl hl (by decide) rfl (fun ls hl => ?_)
  refine lv_iload_n S.1 S.2.1 dX0_legAt_8 rfl (lv_at hl 2 rfl) ?_
  refine lv_iconst (v := (2 : Int32)) S.1 S.2.1 dX0_legAt_9 (by decide) ?_
  refine s_irem (v := (1 : Int32)) S dX0_legAt_10 (by decide) (by decide) ?_
  refine lv_if_ne (tgt := 21) S.1 S.2.1 dX0_legAt_11 (by decide) (fun _ => ?_) (fun h => absurd h (by decide))
  refine lv_aload_n S.1 S.2.1 dX0_legAt_21 rfl (lv_at hl 0 rfl) ?_
  refine s_getN S hX G (i := (B + 10)) (kd := 5) (a := (I (B + 10))) (v := .ref (E.2.2.2 (B + 12))) (C := RX5) (T := TX5) (N := 13) 1 (hB 10 (by decide)) rfl rfl rfl (by decide) rfl (fun _ h => (List.mem_cons_of_mem _ (List.mem_append_left _ (List.mem_append_right _ h)))) (by decide) (List.mem_of_getElem? (i := 17) rfl) (fun _ h => h) dX0_legAt_22 ?_
  refine s_aret (a := E.2.2.2 (B + 12)) S G hr hlk dX0_legAt_25 ?_
  exact ⟨rfl, rfl, rfl⟩
set_option maxHeartbeats 4000000 in
set_option maxRecDepth 100000 in
theorem k_X0_wishOf_0 (l : Launch) (E : Ev) {I : SI} {L : SL} (B : Nat) (b : Nat → Int32) (p : Nat → Int32) (q : Nat → Int32) (n : Nat → Int32) (hB : IsB B) (e_b : I (B+1) = b) (e_p : I (B+2) = p) (e_q : I (B+3) = q) (e_n : I (B+6) = n) : CS l yX0_wishOf wsX0_wishOf ({ frames := 1, cells := 0, slots := 0, locals := 21 }) E [.ref (E.2.2.2 B), .int (0 : Int32)] I L (fun vv I' L' => vv = some (.int (fWishF b p q n)) ∧ I' = I ∧ L' = L) := by
  refine CS.of (cc := cX0_wishOf) (maxL := 3) (ret := (some .int)) (by decide) rfl (Nat.le_of_ble_eq_true rfl) ?_
  intro pg en sg mg below meth cg ls S hr hlk hX G hl
  have S : CallFix pg mg cg cX0_wishOf 3 sg _ wsX0_wishOf RX0 := S
  have hl : lv_has ls 3 [(0, .ref (E.2.2.2 B)), (1, .int (0 : Int32))] := hl
  refine lv_aload_n S.1 S.2.1 dX0_wishOf_0 rfl (lv_at hl 0 rfl) ?_
  refine lv_iload_n S.1 S.2.1 dX0_wishOf_1 rfl (lv_at hl 1 rfl) ?_
  refine lv_iconst (v := (2 : Int32)) S.1 S.2.1 dX0_wishOf_2 (by decide) ?_
  refine s_idiv (v := (0 : Int32)) S dX0_wishOf_3 (by decide) (by decide) ?_
  refine s_callV (C := RX0) (As := [.int (0 : Int32)]) (rest := []) (i := B) (kd := 0) S hX G (k_X0_loadAt_0 l E B hB) (cwV (bytes := cX0_loadAt) (maxL := 2) (ret := (some (.object "BridgeLegs$Load"))) 1 S.2.2.2.2 gX0_wishOf_X0_loadAt rfl rfl rfl (by decide +kernel) ⟨Nat.le_of_ble_eq_true rfl, Nat.le_of_ble_eq_true rfl⟩) (hB 0 (by decide)) rfl rfl rfl (by decide) rfl hl.1 rfl (Nat.le_of_ble_eq_true rfl) ⟨Nat.zero_le _, Nat.zero_le _⟩ dX0_wishOf_4 (fun v I1 L1 H locs hR G => ?_)
  obtain ⟨hv, hI, hL⟩ := hR
  subst hv
  have G : GS E I L sg H locs := G.same hI hL
  refine W.eq (g2 := F0 mg 7 ls [.ref (E.2.2.2 (B + 1))]) rfl ?_
  refine lv_astore_n (lv' := [(2, .ref (E.2.2.2 (B + 1))), (0, .ref (E.2.2.2 B)), (1, .int (0 : Int32))]) S.1 S.2.1 dX0_wishOf_7 rfl hl (by decide) rfl (fun ls hl => ?_)
  refine lv_iload_n S.1 S.2.1 dX0_wishOf_8 rfl (lv_at hl 2 rfl) ?_
  refine lv_iconst (v := (2 : Int32)) S.1 S.2.1 dX0_wishOf_9 (by decide) ?_
  refine s_irem (v := (0 : Int32)) S dX0_wishOf_10 (by decide) (by decide) ?_
  refine lv_if_ne (tgt := 21) S.1 S.2.1 dX0_wishOf_11 (by decide) (fun h => absurd (by decide) h) (fun _ => ?_)
  refine lv_aload_n S.1 S.2.1 dX0_wishOf_14 rfl (lv_at hl 0 rfl) ?_
  refine s_callV (C := RX5) (As := []) (rest := []) (i := (B + 1)) (kd := 5) S hX G (k_X5_firstWish l E (B + 1) b p q n (ld_of_b0 hB) e_b e_p e_q e_n) (cwV (bytes := cX5_firstWish) (maxL := 1) (ret := (some .int)) 0 S.2.2.2.2 gX0_wishOf_X5_firstWish rfl rfl rfl (by decide +kernel) ⟨Nat.le_of_ble_eq_true rfl, Nat.le_of_ble_eq_true rfl⟩) (hB 1 (by decide)) rfl rfl rfl (by decide) rfl hl.1 rfl (Nat.le_of_ble_eq_true rfl) ⟨Nat.zero_le _, Nat.zero_le _⟩ dX0_wishOf_15 (fun v I1 L1 H locs hR G => ?_)
  obtain ⟨hv, hI, hL⟩ := hR
  subst hv
  have G : GS E I L sg H locs := G.same hI hL
  refine W.eq (g2 := F0 mg 18 ls [.int (fWishF b p q n)]) rfl ?_
  refine lv_topi (fun y_1 ey_1 => ?_)
  refine lv_goto (tgt := 25) S.1 S.2.1 dX0_wishOf_18 (by decide) ?_
  refine s_iret (x := y_1) S G hr hlk dX0_wishOf_25 ?_
  exact ⟨(congrArg (fun q : Int32 => some (Value.int q)) (show y_1 = (fWishF b p q n) by subst ey_1; (first | (simp []; done) | (clear S hX G hl; grind [])))), rfl, rfl⟩
set_option maxHeartbeats 4000000 in
set_option maxRecDepth 100000 in
theorem k_X0_wishOf_1 (l : Launch) (E : Ev) {I : SI} {L : SL} (B : Nat) (b : Nat → Int32) (p : Nat → Int32) (q : Nat → Int32) (n : Nat → Int32) (hB : IsB B) (e_b : I (B+1) = b) (e_p : I (B+2) = p) (e_q : I (B+3) = q) (e_n : I (B+6) = n) : CS l yX0_wishOf wsX0_wishOf ({ frames := 1, cells := 0, slots := 0, locals := 21 }) E [.ref (E.2.2.2 B), .int (1 : Int32)] I L (fun vv I' L' => vv = some (.int (sWishF q n)) ∧ I' = I ∧ L' = L) := by
  refine CS.of (cc := cX0_wishOf) (maxL := 3) (ret := (some .int)) (by decide) rfl (Nat.le_of_ble_eq_true rfl) ?_
  intro pg en sg mg below meth cg ls S hr hlk hX G hl
  have S : CallFix pg mg cg cX0_wishOf 3 sg _ wsX0_wishOf RX0 := S
  have hl : lv_has ls 3 [(0, .ref (E.2.2.2 B)), (1, .int (1 : Int32))] := hl
  refine lv_aload_n S.1 S.2.1 dX0_wishOf_0 rfl (lv_at hl 0 rfl) ?_
  refine lv_iload_n S.1 S.2.1 dX0_wishOf_1 rfl (lv_at hl 1 rfl) ?_
  refine lv_iconst (v := (2 : Int32)) S.1 S.2.1 dX0_wishOf_2 (by decide) ?_
  refine s_idiv (v := (0 : Int32)) S dX0_wishOf_3 (by decide) (by decide) ?_
  refine s_callV (C := RX0) (As := [.int (0 : Int32)]) (rest := []) (i := B) (kd := 0) S hX G (k_X0_loadAt_0 l E B hB) (cwV (bytes := cX0_loadAt) (maxL := 2) (ret := (some (.object "BridgeLegs$Load"))) 1 S.2.2.2.2 gX0_wishOf_X0_loadAt rfl rfl rfl (by decide +kernel) ⟨Nat.le_of_ble_eq_true rfl, Nat.le_of_ble_eq_true rfl⟩) (hB 0 (by decide)) rfl rfl rfl (by decide) rfl hl.1 rfl (Nat.le_of_ble_eq_true rfl) ⟨Nat.zero_le _, Nat.zero_le _⟩ dX0_wishOf_4 (fun v I1 L1 H locs hR G => ?_)
  obtain ⟨hv, hI, hL⟩ := hR
  subst hv
  have G : GS E I L sg H locs := G.same hI hL
  refine W.eq (g2 := F0 mg 7 ls [.ref (E.2.2.2 (B + 1))]) rfl ?_
  refine lv_astore_n (lv' := [(2, .ref (E.2.2.2 (B + 1))), (0, .ref (E.2.2.2 B)), (1, .int (1 : Int32))]) S.1 S.2.1 dX0_wishOf_7 rfl hl (by decide) rfl (fun ls hl => ?_)
  refine lv_iload_n S.1 S.2.1 dX0_wishOf_8 rfl (lv_at hl 2 rfl) ?_
  refine lv_iconst (v := (2 : Int32)) S.1 S.2.1 dX0_wishOf_9 (by decide) ?_
  refine s_irem (v := (1 : Int32)) S dX0_wishOf_10 (by decide) (by decide) ?_
  refine lv_if_ne (tgt := 21) S.1 S.2.1 dX0_wishOf_11 (by decide) (fun _ => ?_) (fun h => absurd h (by decide))
  refine lv_aload_n S.1 S.2.1 dX0_wishOf_21 rfl (lv_at hl 0 rfl) ?_
  refine s_callV (C := RX5) (As := []) (rest := []) (i := (B + 1)) (kd := 5) S hX G (k_X5_secondWish l E (B + 1) q n (ld_of_b0 hB) e_q e_n) (cwV (bytes := cX5_secondWish) (maxL := 1) (ret := (some .int)) 0 S.2.2.2.2 gX0_wishOf_X5_secondWish rfl rfl rfl (by decide +kernel) ⟨Nat.le_of_ble_eq_true rfl, Nat.le_of_ble_eq_true rfl⟩) (hB 1 (by decide)) rfl rfl rfl (by decide) rfl hl.1 rfl (Nat.le_of_ble_eq_true rfl) ⟨Nat.zero_le _, Nat.zero_le _⟩ dX0_wishOf_22 (fun v I1 L1 H locs hR G => ?_)
  obtain ⟨hv, hI, hL⟩ := hR
  subst hv
  have G : GS E I L sg H locs := G.same hI hL
  refine W.eq (g2 := F0 mg 25 ls [.int (sWishF q n)]) rfl ?_
  refine lv_topi (fun y_1 ey_1 => ?_)
  refine s_iret (x := y_1) S G hr hlk dX0_wishOf_25 ?_
  exact ⟨(congrArg (fun q : Int32 => some (Value.int q)) (show y_1 = (sWishF q n) by subst ey_1; (first | (simp []; done) | (clear S hX G hl; grind [])))), rfl, rfl⟩
set_option maxHeartbeats 4000000 in
set_option maxRecDepth 100000 in
theorem k_X0_wishOf_2 (l : Launch) (E : Ev) {I : SI} {L : SL} (B : Nat) (b : Nat → Int32) (p : Nat → Int32) (q : Nat → Int32) (n : Nat → Int32) (hB : IsB B) (e_b : I (B+10) = b) (e_p : I (B+11) = p) (e_q : I (B+12) = q) (e_n : I (B+15) = n) : CS l yX0_wishOf wsX0_wishOf ({ frames := 1, cells := 0, slots := 0, locals := 21 }) E [.ref (E.2.2.2 B), .int (2 : Int32)] I L (fun vv I' L' => vv = some (.int (fWishF b p q n)) ∧ I' = I ∧ L' = L) := by
  refine CS.of (cc := cX0_wishOf) (maxL := 3) (ret := (some .int)) (by decide) rfl (Nat.le_of_ble_eq_true rfl) ?_
  intro pg en sg mg below meth cg ls S hr hlk hX G hl
  have S : CallFix pg mg cg cX0_wishOf 3 sg _ wsX0_wishOf RX0 := S
  have hl : lv_has ls 3 [(0, .ref (E.2.2.2 B)), (1, .int (2 : Int32))] := hl
  refine lv_aload_n S.1 S.2.1 dX0_wishOf_0 rfl (lv_at hl 0 rfl) ?_
  refine lv_iload_n S.1 S.2.1 dX0_wishOf_1 rfl (lv_at hl 1 rfl) ?_
  refine lv_iconst (v := (2 : Int32)) S.1 S.2.1 dX0_wishOf_2 (by decide) ?_
  refine s_idiv (v := (1 : Int32)) S dX0_wishOf_3 (by decide) (by decide) ?_
  refine s_callV (C := RX0) (As := [.int (1 : Int32)]) (rest := []) (i := B) (kd := 0) S hX G (k_X0_loadAt_1 l E B hB) (cwV (bytes := cX0_loadAt) (maxL := 2) (ret := (some (.object "BridgeLegs$Load"))) 1 S.2.2.2.2 gX0_wishOf_X0_loadAt rfl rfl rfl (by decide +kernel) ⟨Nat.le_of_ble_eq_true rfl, Nat.le_of_ble_eq_true rfl⟩) (hB 0 (by decide)) rfl rfl rfl (by decide) rfl hl.1 rfl (Nat.le_of_ble_eq_true rfl) ⟨Nat.zero_le _, Nat.zero_le _⟩ dX0_wishOf_4 (fun v I1 L1 H locs hR G => ?_)
  obtain ⟨hv, hI, hL⟩ := hR
  subst hv
  have G : GS E I L sg H locs := G.same hI hL
  refine W.eq (g2 := F0 mg 7 ls [.ref (E.2.2.2 (B + 10))]) rfl ?_
  refine lv_astore_n (lv' := [(2, .ref (E.2.2.2 (B + 10))), (0, .ref (E.2.2.2 B)), (1, .int (2 : Int32))]) S.1 S.2.1 dX0_wishOf_7 rfl hl (by decide) rfl (fun ls hl => ?_)
  refine lv_iload_n S.1 S.2.1 dX0_wishOf_8 rfl (lv_at hl 2 rfl) ?_
  refine lv_iconst (v := (2 : Int32)) S.1 S.2.1 dX0_wishOf_9 (by decide) ?_
  refine s_irem (v := (0 : Int32)) S dX0_wishOf_10 (by decide) (by decide) ?_
  refine lv_if_ne (tgt := 21) S.1 S.2.1 dX0_wishOf_11 (by decide) (fun h => absurd (by decide) h) (fun _ => ?_)
  refine lv_aload_n S.1 S.2.1 dX0_wishOf_14 rfl (lv_at hl 0 rfl) ?_
  refine s_callV (C := RX5) (As := []) (rest := []) (i := (B + 10)) (kd := 5) S hX G (k_X5_firstWish l E (B + 10) b p q n (ld_of_b1 hB) e_b e_p e_q e_n) (cwV (bytes := cX5_firstWish) (maxL := 1) (ret := (some .int)) 0 S.2.2.2.2 gX0_wishOf_X5_firstWish rfl rfl rfl (by decide +kernel) ⟨Nat.le_of_ble_eq_true rfl, Nat.le_of_ble_eq_true rfl⟩) (hB 10 (by decide)) rfl rfl rfl (by decide) rfl hl.1 rfl (Nat.le_of_ble_eq_true rfl) ⟨Nat.zero_le _, Nat.zero_le _⟩ dX0_wishOf_15 (fun v I1 L1 H locs hR G => ?_)
  obtain ⟨hv, hI, hL⟩ := hR
  subst hv
  have G : GS E I L sg H locs := G.same hI hL
  refine W.eq (g2 := F0 mg 18 ls [.int (fWishF b p q n)]) rfl ?_
  refine lv_topi (fun y_1 ey_1 => ?_)
  refine lv_goto (tgt := 25) S.1 S.2.1 dX0_wishOf_18 (by decide) ?_
  refine s_iret (x := y_1) S G hr hlk dX0_wishOf_25 ?_
  exact ⟨(congrArg (fun q : Int32 => some (Value.int q)) (show y_1 = (fWishF b p q n) by subst ey_1; (first | (simp []; done) | (clear S hX G hl; grind [])))), rfl, rfl⟩
set_option maxHeartbeats 4000000 in
set_option maxRecDepth 100000 in
theorem k_X0_wishOf_3 (l : Launch) (E : Ev) {I : SI} {L : SL} (B : Nat) (b : Nat → Int32) (p : Nat → Int32) (q : Nat → Int32) (n : Nat → Int32) (hB : IsB B) (e_b : I (B+10) = b) (e_p : I (B+11) = p) (e_q : I (B+12) = q) (e_n : I (B+15) = n) : CS l yX0_wishOf wsX0_wishOf ({ frames := 1, cells := 0, slots := 0, locals := 21 }) E [.ref (E.2.2.2 B), .int (3 : Int32)] I L (fun vv I' L' => vv = some (.int (sWishF q n)) ∧ I' = I ∧ L' = L) := by
  refine CS.of (cc := cX0_wishOf) (maxL := 3) (ret := (some .int)) (by decide) rfl (Nat.le_of_ble_eq_true rfl) ?_
  intro pg en sg mg below meth cg ls S hr hlk hX G hl
  have S : CallFix pg mg cg cX0_wishOf 3 sg _ wsX0_wishOf RX0 := S
  have hl : lv_has ls 3 [(0, .ref (E.2.2.2 B)), (1, .int (3 : Int32))] := hl
  refine lv_aload_n S.1 S.2.1 dX0_wishOf_0 rfl (lv_at hl 0 rfl) ?_
  refine lv_iload_n S.1 S.2.1 dX0_wishOf_1 rfl (lv_at hl 1 rfl) ?_
  refine lv_iconst (v := (2 : Int32)) S.1 S.2.1 dX0_wishOf_2 (by decide) ?_
  refine s_idiv (v := (1 : Int32)) S dX0_wishOf_3 (by decide) (by decide) ?_
  refine s_callV (C := RX0) (As := [.int (1 : Int32)]) (rest := []) (i := B) (kd := 0) S hX G (k_X0_loadAt_1 l E B hB) (cwV (bytes := cX0_loadAt) (maxL := 2) (ret := (some (.object "BridgeLegs$Load"))) 1 S.2.2.2.2 gX0_wishOf_X0_loadAt rfl rfl rfl (by decide +kernel) ⟨Nat.le_of_ble_eq_true rfl, Nat.le_of_ble_eq_true rfl⟩) (hB 0 (by decide)) rfl rfl rfl (by decide) rfl hl.1 rfl (Nat.le_of_ble_eq_true rfl) ⟨Nat.zero_le _, Nat.zero_le _⟩ dX0_wishOf_4 (fun v I1 L1 H locs hR G => ?_)
  obtain ⟨hv, hI, hL⟩ := hR
  subst hv
  have G : GS E I L sg H locs := G.same hI hL
  refine W.eq (g2 := F0 mg 7 ls [.ref (E.2.2.2 (B + 10))]) rfl ?_
  refine lv_astore_n (lv' := [(2, .ref (E.2.2.2 (B + 10))), (0, .ref (E.2.2.2 B)), (1, .int (3 : Int32))]) S.1 S.2.1 dX0_wishOf_7 rfl hl (by decide) rfl (fun ls hl => ?_)
  refine lv_iload_n S.1 S.2.1 dX0_wishOf_8 rfl (lv_at hl 2 rfl) ?_
  refine lv_iconst (v := (2 : Int32)) S.1 S.2.1 dX0_wishOf_9 (by decide) ?_
  refine s_irem (v := (1 : Int32)) S dX0_wishOf_10 (by decide) (by decide) ?_
  refine lv_if_ne (tgt := 21) S.1 S.2.1 dX0_wishOf_11 (by decide) (fun _ => ?_) (fun h => absurd h (by decide))
  refine lv_aload_n S.1 S.2.1 dX0_wishOf_21 rfl (lv_at hl 0 rfl) ?_
  refine s_callV (C := RX5) (As := []) (rest := []) (i := (B + 10)) (kd := 5) S hX G (k_X5_secondWish l E (B + 10) q n (ld_of_b1 hB) e_q e_n) (cwV (bytes := cX5_secondWish) (maxL := 1) (ret := (some .int)) 0 S.2.2.2.2 gX0_wishOf_X5_secondWish rfl rfl rfl (by decide +kernel) ⟨Nat.le_of_ble_eq_true rfl, Nat.le_of_ble_eq_true rfl⟩) (hB 10 (by decide)) rfl rfl rfl (by decide) rfl hl.1 rfl (Nat.le_of_ble_eq_true rfl) ⟨Nat.zero_le _, Nat.zero_le _⟩ dX0_wishOf_22 (fun v I1 L1 H locs hR G => ?_)
  obtain ⟨hv, hI, hL⟩ := hR
  subst hv
  have G : GS E I L sg H locs := G.same hI hL
  refine W.eq (g2 := F0 mg 25 ls [.int (sWishF q n)]) rfl ?_
  refine lv_topi (fun y_1 ey_1 => ?_)
  refine s_iret (x := y_1) S G hr hlk dX0_wishOf_25 ?_
  exact ⟨(congrArg (fun q : Int32 => some (Value.int q)) (show y_1 = (sWishF q n) by subst ey_1; (first | (simp []; done) | (clear S hX G hl; grind [])))), rfl, rfl⟩
set_option maxHeartbeats 4000000 in
set_option maxRecDepth 100000 in
theorem k_X0_slotsInScope (l : Launch) (E : Ev) {I : SI} {L : SL} (B : Nat) (a : Nat → Int32) (hB : IsB B) (e_a : I (B) = a) : CS l yX0_slotsInScope wsX0_slotsInScope ({ frames := 1, cells := 0, slots := 0, locals := 13 }) E [.ref (E.2.2.2 B)] I L (fun vv I' L' => vv = some (.int (minI (a 4) 32)) ∧ I' = I ∧ L' = L) := by
  refine CS.of (cc := cX0_slotsInScope) (maxL := 1) (ret := (some .int)) (by decide) rfl (Nat.le_of_ble_eq_true rfl) ?_
  intro pg en sg mg below meth cg ls S hr hlk hX G hl
  have S : CallFix pg mg cg cX0_slotsInScope 1 sg _ wsX0_slotsInScope RX0 := S
  have hl : lv_has ls 1 [(0, .ref (E.2.2.2 B))] := hl
  refine lv_aload_n S.1 S.2.1 dX0_slotsInScope_0 rfl (lv_at hl 0 rfl) ?_
  refine s_get S hX G (i := B) (kd := 0) (a := a) (v := .int (a 4)) (C := RX0) (T := TX0) (N := 5) 4 (hB 0 (by decide)) e_a rfl rfl (by decide) rfl (fun _ h => (List.mem_cons_of_mem _ (List.mem_append_right _ h))) (by decide) (List.mem_of_getElem? (i := 1) rfl) (fun _ h => h) dX0_slotsInScope_1 ?_
  refine lv_bipush (v := (32 : Int32)) S.1 S.2.1 dX0_slotsInScope_4 (by decide) ?_
  refine va_mmin (rest := []) S.1 S.2.1 (S.2.2.1.trans hl.1.symm) S.2.2.2.1 (S.2.2.2.2 _ (List.mem_of_getElem? (i := 2) rfl)) (S.2.2.2.2 _ (List.mem_of_getElem? (i := 3) rfl)) (S.2.2.2.2 _ (List.mem_of_getElem? (i := 4) rfl)) (S.2.2.2.2 _ (List.mem_of_getElem? (i := 5) rfl)) (Nat.le_of_ble_eq_true rfl) (Nat.le_of_ble_eq_true rfl) (Nat.zero_le _) (Nat.zero_le _) dX0_slotsInScope_6 ?_
  refine W.eq (g2 := F0 mg 9 ls [.int (minI (a 4) (32 : Int32))]) rfl ?_
  refine lv_topi (fun y_1 ey_1 => ?_)
  refine s_iret (x := y_1) S G hr hlk dX0_slotsInScope_9 ?_
  exact ⟨(congrArg (fun q : Int32 => some (Value.int q)) (show y_1 = (minI (a 4) 32) by subst ey_1; rfl)), rfl, rfl⟩
