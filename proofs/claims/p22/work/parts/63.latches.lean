def plc1 (t u : Nat → Int32) (o f : Nat) : Int32 := if ¬ t o = 0 ∧ (u o < u f ∨ (u o = u f ∧ o < f)) then 1 else 0
def plcF (t u : Nat → Int32) (f : Nat) : Int32 := 0 + plc1 t u 0 f + plc1 t u 1 f + plc1 t u 2 f
set_option maxHeartbeats 4000000 in
set_option maxRecDepth 100000 in
theorem k_X3_isLatched_0 (l : Launch) (E : Ev) {I : SI} {L : SL} (i : Nat) (t : Nat → Int32) (hi : sh (i) = 3) (hi_1 : sh (i+1) = 10) (hi_2 : sh (i+2) = 17) (hi_3 : sh (i+3) = 17) (e_t : I (i+1) = t) : CS l yX3_isLatched wsX3_isLatched ({ frames := 2, cells := 0, slots := 0, locals := 42 }) E [.ref (E.2.2.2 i), .int (0 : Int32)] I L (fun vv I' L' => vv = some (.int (if ¬ t 0 = 0 then 1 else 0)) ∧ I' = I ∧ L' = L) := by
  refine CS.of (cc := cX3_isLatched) (maxL := 2) (ret := (some .boolean)) (by decide) rfl (Nat.le_of_ble_eq_true rfl) ?_
  intro pg en sg mg below meth cg ls S hr hlk hX G hl
  have S : CallFix pg mg cg cX3_isLatched 2 sg _ wsX3_isLatched RX3 := S
  have hl : lv_has ls 2 [(0, .ref (E.2.2.2 i)), (1, .int (0 : Int32))] := hl
  refine lv_iload_n S.1 S.2.1 dX3_isLatched_0 rfl (lv_at hl 1 rfl) ?_
  refine s_callSN (As := [.int (0 : Int32)]) (rest := []) S hX G (k_X8_isFault l E (0 : Int32)) (va_cnB (bytes := cX8_isFault) (maxL := 1) (ret := (some .boolean)) 1 S.2.2.2.2 gX3_isLatched_X8_isFault_n26 rfl rfl rfl (hX.2.2.1.2 _ (List.mem_of_getElem? (i := 2) rfl)) (S.2.2.2.2 _ (List.mem_of_getElem? (i := 3) rfl)) (by decide +kernel) ⟨Nat.le_of_ble_eq_true rfl, Nat.le_of_ble_eq_true rfl⟩) (List.mem_of_getElem? (i := 2) rfl) rfl hl.1 rfl (Nat.le_of_ble_eq_true rfl) ⟨Nat.zero_le _, Nat.zero_le _⟩ dX3_isLatched_1 (fun v I1 L1 H locs hR G => ?_)
  obtain ⟨hv, hI, hL⟩ := hR
  subst hv
  have G : GS E I L sg H locs := G.same hI hL
  refine W.eq (g2 := F0 mg 4 ls [.int (if ¬ (0 : Int32) < (0 : Int32) ∧ ¬ (2 : Int32) < (0 : Int32) then 1 else 0)]) rfl ?_
  refine s_if_eq_b (P := ¬ (0 : Int32) < (0 : Int32) ∧ ¬ (2 : Int32) < (0 : Int32)) (tgt := 20) S dX3_isLatched_4 (by decide) (fun h => absurd (by decide) h) (fun _ => ?_)
  refine lv_aload_n S.1 S.2.1 dX3_isLatched_7 rfl (lv_at hl 0 rfl) ?_
  refine s_get S hX G (i := i) (kd := 3) (a := (I i)) (v := .ref (E.2.2.2 (i + 1))) (C := RX3) (T := TX3) (N := 4) 0 hi rfl rfl rfl (by decide) rfl (fun _ h => (List.mem_cons_of_mem _ (List.mem_append_right _ h))) (by decide) (List.mem_of_getElem? (i := 1) rfl) (fun _ h => h) dX3_isLatched_8 ?_
  refine lv_iload_n S.1 S.2.1 dX3_isLatched_11 rfl (lv_at hl 1 rfl) ?_
  refine s_zald S hX G (i := (i + 1)) (a := t) (x := (t 0)) hi_1 e_t (by unfold vp_in; decide) (congrArg t (by decide)) dX3_isLatched_12 ?_
  refine lv_if_eq (tgt := 20) S.1 S.2.1 dX3_isLatched_13 (by decide) (fun c_1 => ?_) (fun c_1 => ?_)
  · refine lv_iconst (v := (0 : Int32)) S.1 S.2.1 dX3_isLatched_20 (by decide) ?_
    refine s_zret (x := (0 : Int32)) S G hr hlk dX3_isLatched_21 (Or.inl rfl) ?_
    exact ⟨(congrArg (fun q : Int32 => some (Value.int q)) (show (0 : Int32) = (if ¬ t 0 = 0 then 1 else 0) by first | (simp [c_1]; done) | (clear S hX G hl; grind []))), rfl, rfl⟩
  · refine lv_iconst (v := (1 : Int32)) S.1 S.2.1 dX3_isLatched_16 (by decide) ?_
    refine lv_goto (tgt := 21) S.1 S.2.1 dX3_isLatched_17 (by decide) ?_
    refine s_zret (x := (1 : Int32)) S G hr hlk dX3_isLatched_21 (Or.inr rfl) ?_
    exact ⟨(congrArg (fun q : Int32 => some (Value.int q)) (show (1 : Int32) = (if ¬ t 0 = 0 then 1 else 0) by first | (simp [c_1]; done) | (clear S hX G hl; grind []))), rfl, rfl⟩
set_option maxHeartbeats 4000000 in
set_option maxRecDepth 100000 in
theorem k_X3_slotOf_0 (l : Launch) (E : Ev) {I : SI} {L : SL} (i : Nat) (u : Nat → Int32) (hi : sh (i) = 3) (hi_1 : sh (i+1) = 10) (hi_2 : sh (i+2) = 17) (hi_3 : sh (i+3) = 17) (e_u : I (i+2) = u) : CS l yX3_slotOf wsX3_slotOf ({ frames := 2, cells := 0, slots := 0, locals := 42 }) E [.ref (E.2.2.2 i), .int (0 : Int32)] I L (fun vv I' L' => vv = some (.int (u 0)) ∧ I' = I ∧ L' = L) := by
  refine CS.of (cc := cX3_slotOf) (maxL := 2) (ret := (some .int)) (by decide) rfl (Nat.le_of_ble_eq_true rfl) ?_
  intro pg en sg mg below meth cg ls S hr hlk hX G hl
  have S : CallFix pg mg cg cX3_slotOf 2 sg _ wsX3_slotOf RX3 := S
  have hl : lv_has ls 2 [(0, .ref (E.2.2.2 i)), (1, .int (0 : Int32))] := hl
  refine lv_iload_n S.1 S.2.1 dX3_slotOf_0 rfl (lv_at hl 1 rfl) ?_
  refine s_callSN (As := [.int (0 : Int32)]) (rest := []) S hX G (k_X8_isFault l E (0 : Int32)) (va_cnB (bytes := cX8_isFault) (maxL := 1) (ret := (some .boolean)) 1 S.2.2.2.2 gX3_slotOf_X8_isFault_n26 rfl rfl rfl (hX.2.2.1.2 _ (List.mem_of_getElem? (i := 2) rfl)) (S.2.2.2.2 _ (List.mem_of_getElem? (i := 3) rfl)) (by decide +kernel) ⟨Nat.le_of_ble_eq_true rfl, Nat.le_of_ble_eq_true rfl⟩) (List.mem_of_getElem? (i := 2) rfl) rfl hl.1 rfl (Nat.le_of_ble_eq_true rfl) ⟨Nat.zero_le _, Nat.zero_le _⟩ dX3_slotOf_1 (fun v I1 L1 H locs hR G => ?_)
  obtain ⟨hv, hI, hL⟩ := hR
  subst hv
  have G : GS E I L sg H locs := G.same hI hL
  refine W.eq (g2 := F0 mg 4 ls [.int (if ¬ (0 : Int32) < (0 : Int32) ∧ ¬ (2 : Int32) < (0 : Int32) then 1 else 0)]) rfl ?_
  refine s_if_eq_b (P := ¬ (0 : Int32) < (0 : Int32) ∧ ¬ (2 : Int32) < (0 : Int32)) (tgt := 16) S dX3_slotOf_4 (by decide) (fun h => absurd (by decide) h) (fun _ => ?_)
  refine lv_aload_n S.1 S.2.1 dX3_slotOf_7 rfl (lv_at hl 0 rfl) ?_
  refine s_get S hX G (i := i) (kd := 3) (a := (I i)) (v := .ref (E.2.2.2 (i + 2))) (C := RX3) (T := TX3) (N := 4) 1 hi rfl rfl rfl (by decide) rfl (fun _ h => (List.mem_cons_of_mem _ (List.mem_append_right _ h))) (by decide) (List.mem_of_getElem? (i := 1) rfl) (fun _ h => h) dX3_slotOf_8 ?_
  refine lv_iload_n S.1 S.2.1 dX3_slotOf_11 rfl (lv_at hl 1 rfl) ?_
  refine s_iald S hX G (i := (i + 2)) (kd := 17) (n := 3) (a := u) (x := (u 0)) hi_2 e_u rfl (by decide) (by unfold vp_in; decide) (congrArg u (by decide)) dX3_slotOf_12 ?_
  refine lv_goto (tgt := 17) S.1 S.2.1 dX3_slotOf_13 (by decide) ?_
  refine s_iret (x := (u 0)) S G hr hlk dX3_slotOf_17 ?_
  exact ⟨rfl, rfl, rfl⟩
set_option maxHeartbeats 4000000 in
set_option maxRecDepth 100000 in
theorem k_X3_currentOf_0 (l : Launch) (E : Ev) {I : SI} {L : SL} (i : Nat) (w : Nat → Int32) (hi : sh (i) = 3) (hi_1 : sh (i+1) = 10) (hi_2 : sh (i+2) = 17) (hi_3 : sh (i+3) = 17) (e_w : I (i+3) = w) : CS l yX3_currentOf wsX3_currentOf ({ frames := 2, cells := 0, slots := 0, locals := 42 }) E [.ref (E.2.2.2 i), .int (0 : Int32)] I L (fun vv I' L' => vv = some (.int (w 0)) ∧ I' = I ∧ L' = L) := by
  refine CS.of (cc := cX3_currentOf) (maxL := 2) (ret := (some .int)) (by decide) rfl (Nat.le_of_ble_eq_true rfl) ?_
  intro pg en sg mg below meth cg ls S hr hlk hX G hl
  have S : CallFix pg mg cg cX3_currentOf 2 sg _ wsX3_currentOf RX3 := S
  have hl : lv_has ls 2 [(0, .ref (E.2.2.2 i)), (1, .int (0 : Int32))] := hl
  refine lv_iload_n S.1 S.2.1 dX3_currentOf_0 rfl (lv_at hl 1 rfl) ?_
  refine s_callSN (As := [.int (0 : Int32)]) (rest := []) S hX G (k_X8_isFault l E (0 : Int32)) (va_cnB (bytes := cX8_isFault) (maxL := 1) (ret := (some .boolean)) 1 S.2.2.2.2 gX3_currentOf_X8_isFault_n26 rfl rfl rfl (hX.2.2.1.2 _ (List.mem_of_getElem? (i := 2) rfl)) (S.2.2.2.2 _ (List.mem_of_getElem? (i := 3) rfl)) (by decide +kernel) ⟨Nat.le_of_ble_eq_true rfl, Nat.le_of_ble_eq_true rfl⟩) (List.mem_of_getElem? (i := 2) rfl) rfl hl.1 rfl (Nat.le_of_ble_eq_true rfl) ⟨Nat.zero_le _, Nat.zero_le _⟩ dX3_currentOf_1 (fun v I1 L1 H locs hR G => ?_)
  obtain ⟨hv, hI, hL⟩ := hR
  subst hv
  have G : GS E I L sg H locs := G.same hI hL
  refine W.eq (g2 := F0 mg 4 ls [.int (if ¬ (0 : Int32) < (0 : Int32) ∧ ¬ (2 : Int32) < (0 : Int32) then 1 else 0)]) rfl ?_
  refine s_if_eq_b (P := ¬ (0 : Int32) < (0 : Int32) ∧ ¬ (2 : Int32) < (0 : Int32)) (tgt := 16) S dX3_currentOf_4 (by decide) (fun h => absurd (by decide) h) (fun _ => ?_)
  refine lv_aload_n S.1 S.2.1 dX3_currentOf_7 rfl (lv_at hl 0 rfl) ?_
  refine s_get S hX G (i := i) (kd := 3) (a := (I i)) (v := .ref (E.2.2.2 (i + 3))) (C := RX3) (T := TX3) (N := 4) 2 hi rfl rfl rfl (by decide) rfl (fun _ h => (List.mem_cons_of_mem _ (List.mem_append_right _ h))) (by decide) (List.mem_of_getElem? (i := 1) rfl) (fun _ h => h) dX3_currentOf_8 ?_
  refine lv_iload_n S.1 S.2.1 dX3_currentOf_11 rfl (lv_at hl 1 rfl) ?_
  refine s_iald S hX G (i := (i + 3)) (kd := 17) (n := 3) (a := w) (x := (w 0)) hi_3 e_w rfl (by decide) (by unfold vp_in; decide) (congrArg w (by decide)) dX3_currentOf_12 ?_
  refine lv_goto (tgt := 17) S.1 S.2.1 dX3_currentOf_13 (by decide) ?_
  refine s_iret (x := (w 0)) S G hr hlk dX3_currentOf_17 ?_
  exact ⟨rfl, rfl, rfl⟩
set_option maxHeartbeats 4000000 in
set_option maxRecDepth 100000 in
theorem k_X3_placeOf_0 (l : Launch) (E : Ev) {I : SI} {L : SL} (i : Nat) (t : Nat → Int32) (u : Nat → Int32) (hi : sh (i) = 3) (hi_1 : sh (i+1) = 10) (hi_2 : sh (i+2) = 17) (hi_3 : sh (i+3) = 17) (e_t : I (i+1) = t) (e_u : I (i+2) = u) : CS l yX3_placeOf wsX3_placeOf ({ frames := 3, cells := 0, slots := 0, locals := 63 }) E [.ref (E.2.2.2 i), .int (0 : Int32)] I L (fun vv I' L' => vv = some (.int (plcF t u 0)) ∧ I' = I ∧ L' = L) := by
  refine CS.of (cc := cX3_placeOf) (maxL := 6) (ret := (some .int)) (by decide) rfl (Nat.le_of_ble_eq_true rfl) ?_
  intro pg en sg mg below meth cg ls S hr hlk hX G hl
  have S : CallFix pg mg cg cX3_placeOf 6 sg _ wsX3_placeOf RX3 := S
  have hl : lv_has ls 6 [(0, .ref (E.2.2.2 i)), (1, .int (0 : Int32))] := hl
  refine lv_aload_n S.1 S.2.1 dX3_placeOf_0 rfl (lv_at hl 0 rfl) ?_
  refine lv_iload_n S.1 S.2.1 dX3_placeOf_1 rfl (lv_at hl 1 rfl) ?_
  refine s_callV (C := RX3) (As := [.int (0 : Int32)]) (rest := []) (i := i) (kd := 3) S hX G (k_X3_slotOf_0 l E i u hi hi_1 hi_2 hi_3 e_u) (cwV (bytes := cX3_slotOf) (maxL := 2) (ret := (some .int)) 1 S.2.2.2.2 gX3_placeOf_X3_slotOf rfl rfl rfl (by decide +kernel) ⟨Nat.le_of_ble_eq_true rfl, Nat.le_of_ble_eq_true rfl⟩) hi rfl rfl rfl (by decide) rfl hl.1 rfl (Nat.le_of_ble_eq_true rfl) ⟨Nat.zero_le _, Nat.zero_le _⟩ dX3_placeOf_2 (fun v I1 L1 H locs hR G => ?_)
  obtain ⟨hv, hI, hL⟩ := hR
  subst hv
  have G : GS E I L sg H locs := G.same hI hL
  refine W.eq (g2 := F0 mg 5 ls [.int (u 0)]) rfl ?_
  refine lv_istore_n (lv' := [(2, .int (u 0)), (0, .ref (E.2.2.2 i)), (1, .int (0 : Int32))]) S.1 S.2.1 dX3_placeOf_5 rfl hl (by decide) rfl (fun ls hl => ?_)
  refine lv_iconst (v := (0 : Int32)) S.1 S.2.1 dX3_placeOf_6 (by decide) ?_
  refine lv_istore_n (lv' := [(3, .int (0 : Int32)), (2, .int (u 0)), (0, .ref (E.2.2.2 i)), (1, .int (0 : Int32))]) S.1 S.2.1 dX3_placeOf_7 rfl hl (by decide) rfl (fun ls hl => ?_)
  refine lv_iconst (v := (0 : Int32)) S.1 S.2.1 dX3_placeOf_8 (by decide) ?_
  refine lv_istore (lv' := [(4, .int (0 : Int32)), (3, .int (0 : Int32)), (2, .int (u 0)), (0, .ref (E.2.2.2 i)), (1, .int (0 : Int32))]) S.1 S.2.1 dX3_placeOf_9 hl (by decide) rfl (fun ls hl => ?_)
  refine s_cut (α := Int32) (nL := 6) (E := E) (fun x I' L' => x = ((0 : Int32) + plc1 t u 0 0) ∧ I' = I ∧ L' = L) (fun x => [(4, .int (1 : Int32)), (3, .int x), (2, .int (u 0)), (0, .ref (E.2.2.2 i)), (1, .int (0 : Int32))]) 11 (fun x => []) (fun kJ_1 => ?_) (fun x I1 L1 H locs ls hP G hl => ?_)
  · refine lv_iload S.1 S.2.1 dX3_placeOf_11 (lv_at hl 0 rfl) ?_
    refine lv_iconst (v := (3 : Int32)) S.1 S.2.1 dX3_placeOf_13 (by decide) ?_
    refine lv_icmp_ge (tgt := 76) S.1 S.2.1 dX3_placeOf_14 (by decide) (fun h => absurd h (by decide)) (fun _ => ?_)
    refine lv_aload_n S.1 S.2.1 dX3_placeOf_17 rfl (lv_at hl 3 rfl) ?_
    refine s_get S hX G (i := i) (kd := 3) (a := (I i)) (v := .ref (E.2.2.2 (i + 2))) (C := RX3) (T := TX3) (N := 4) 1 hi rfl rfl rfl (by decide) rfl (fun _ h => (List.mem_cons_of_mem _ (List.mem_append_right _ h))) (by decide) (List.mem_of_getElem? (i := 1) rfl) (fun _ h => h) dX3_placeOf_18 ?_
    refine lv_iload S.1 S.2.1 dX3_placeOf_21 (lv_at hl 0 rfl) ?_
    refine s_iald S hX G (i := (i + 2)) (kd := 17) (n := 3) (a := u) (x := (u 0)) hi_2 e_u rfl (by decide) (by unfold vp_in; decide) (congrArg u (by decide)) dX3_placeOf_23 ?_
    refine lv_iload_n S.1 S.2.1 dX3_placeOf_24 rfl (lv_at hl 2 rfl) ?_
    refine lv_icmp_lt (tgt := 45) S.1 S.2.1 dX3_placeOf_25 (by decide) (fun c_2 => ?_) (fun c_2 => ?_)
    · refine lv_iconst (v := (1 : Int32)) S.1 S.2.1 dX3_placeOf_45 (by decide) ?_
      refine lv_goto (tgt := 50) S.1 S.2.1 dX3_placeOf_46 (by decide) ?_
      refine lv_istore (lv' := [(5, .int (1 : Int32)), (4, .int (0 : Int32)), (3, .int (0 : Int32)), (2, .int (u 0)), (0, .ref (E.2.2.2 i)), (1, .int (0 : Int32))]) S.1 S.2.1 dX3_placeOf_50 hl (by decide) rfl (fun ls hl => ?_)
      refine lv_aload_n S.1 S.2.1 dX3_placeOf_52 rfl (lv_at hl 4 rfl) ?_
      refine s_get S hX G (i := i) (kd := 3) (a := (I i)) (v := .ref (E.2.2.2 (i + 1))) (C := RX3) (T := TX3) (N := 4) 0 hi rfl rfl rfl (by decide) rfl (fun _ h => (List.mem_cons_of_mem _ (List.mem_append_right _ h))) (by decide) (List.mem_of_getElem? (i := 2) rfl) (fun _ h => h) dX3_placeOf_53 ?_
      refine lv_iload S.1 S.2.1 dX3_placeOf_56 (lv_at hl 1 rfl) ?_
      refine s_zald S hX G (i := (i + 1)) (a := t) (x := (t 0)) hi_1 e_t (by unfold vp_in; decide) (congrArg t (by decide)) dX3_placeOf_58 ?_
      refine lv_if_eq (tgt := 70) S.1 S.2.1 dX3_placeOf_59 (by decide) (fun c_3 => ?_) (fun c_3 => ?_)
      · refine lv_iinc (v := (1 : Int32)) (lv' := [(4, .int (1 : Int32)), (5, .int (1 : Int32)), (3, .int (0 : Int32)), (2, .int (u 0)), (0, .ref (E.2.2.2 i)), (1, .int (0 : Int32))]) S.1 S.2.1 dX3_placeOf_70 hl (k := 1) rfl (by decide) (by decide) rfl (fun ls hl => ?_)
        refine lv_goto (tgt := 11) S.1 S.2.1 dX3_placeOf_73 (by decide) ?_
        exact kJ_1 (0 : Int32) _ _ _ _ _ ⟨(show (0 : Int32) = (0 : Int32) + plc1 t u 0 0 by first | (simp [plc1, c_2, c_3]; done) | (clear S hX G hl; grind [plc1])), rfl, rfl⟩ G (lv_sub hl [0, 2, 3, 4, 5] rfl)
      · refine lv_iload S.1 S.2.1 dX3_placeOf_62 (lv_at hl 0 rfl) ?_
        refine lv_if_eq (tgt := 70) S.1 S.2.1 dX3_placeOf_64 (by decide) (fun h => absurd h (by decide)) (fun _ => ?_)
        refine lv_iinc (v := (1 : Int32)) (lv' := [(3, .int (1 : Int32)), (5, .int (1 : Int32)), (4, .int (0 : Int32)), (2, .int (u 0)), (0, .ref (E.2.2.2 i)), (1, .int (0 : Int32))]) S.1 S.2.1 dX3_placeOf_67 hl (k := 2) rfl (by decide) (by decide) rfl (fun ls hl => ?_)
        refine lv_iinc (v := (1 : Int32)) (lv' := [(4, .int (1 : Int32)), (3, .int (1 : Int32)), (5, .int (1 : Int32)), (2, .int (u 0)), (0, .ref (E.2.2.2 i)), (1, .int (0 : Int32))]) S.1 S.2.1 dX3_placeOf_70 hl (k := 2) rfl (by decide) (by decide) rfl (fun ls hl => ?_)
        refine lv_goto (tgt := 11) S.1 S.2.1 dX3_placeOf_73 (by decide) ?_
        exact kJ_1 (1 : Int32) _ _ _ _ _ ⟨(show (1 : Int32) = (0 : Int32) + plc1 t u 0 0 by first | (simp [plc1, c_2, c_3]; done) | (clear S hX G hl; grind [plc1])), rfl, rfl⟩ G (lv_sub hl [0, 1, 3, 4, 5] rfl)
    · refine lv_aload_n S.1 S.2.1 dX3_placeOf_28 rfl (lv_at hl 3 rfl) ?_
      refine s_get S hX G (i := i) (kd := 3) (a := (I i)) (v := .ref (E.2.2.2 (i + 2))) (C := RX3) (T := TX3) (N := 4) 1 hi rfl rfl rfl (by decide) rfl (fun _ h => (List.mem_cons_of_mem _ (List.mem_append_right _ h))) (by decide) (List.mem_of_getElem? (i := 1) rfl) (fun _ h => h) dX3_placeOf_29 ?_
      refine lv_iload S.1 S.2.1 dX3_placeOf_32 (lv_at hl 0 rfl) ?_
      refine s_iald S hX G (i := (i + 2)) (kd := 17) (n := 3) (a := u) (x := (u 0)) hi_2 e_u rfl (by decide) (by unfold vp_in; decide) (congrArg u (by decide)) dX3_placeOf_34 ?_
      refine lv_iload_n S.1 S.2.1 dX3_placeOf_35 rfl (lv_at hl 2 rfl) ?_
      refine lv_icmp_ne (tgt := 49) S.1 S.2.1 dX3_placeOf_36 (by decide) (fun c_4 => ?_) (fun c_4 => ?_)
      · refine lv_iconst (v := (0 : Int32)) S.1 S.2.1 dX3_placeOf_49 (by decide) ?_
        refine lv_istore (lv' := [(5, .int (0 : Int32)), (4, .int (0 : Int32)), (3, .int (0 : Int32)), (2, .int (u 0)), (0, .ref (E.2.2.2 i)), (1, .int (0 : Int32))]) S.1 S.2.1 dX3_placeOf_50 hl (by decide) rfl (fun ls hl => ?_)
        refine lv_aload_n S.1 S.2.1 dX3_placeOf_52 rfl (lv_at hl 4 rfl) ?_
        refine s_get S hX G (i := i) (kd := 3) (a := (I i)) (v := .ref (E.2.2.2 (i + 1))) (C := RX3) (T := TX3) (N := 4) 0 hi rfl rfl rfl (by decide) rfl (fun _ h => (List.mem_cons_of_mem _ (List.mem_append_right _ h))) (by decide) (List.mem_of_getElem? (i := 2) rfl) (fun _ h => h) dX3_placeOf_53 ?_
        refine lv_iload S.1 S.2.1 dX3_placeOf_56 (lv_at hl 1 rfl) ?_
        refine s_zald S hX G (i := (i + 1)) (a := t) (x := (t 0)) hi_1 e_t (by unfold vp_in; decide) (congrArg t (by decide)) dX3_placeOf_58 ?_
        refine lv_if_eq (tgt := 70) S.1 S.2.1 dX3_placeOf_59 (by decide) (fun c_5 => ?_) (fun c_5 => ?_)
        · refine lv_iinc (v := (1 : Int32)) (lv' := [(4, .int (1 : Int32)), (5, .int (0 : Int32)), (3, .int (0 : Int32)), (2, .int (u 0)), (0, .ref (E.2.2.2 i)), (1, .int (0 : Int32))]) S.1 S.2.1 dX3_placeOf_70 hl (k := 1) rfl (by decide) (by decide) rfl (fun ls hl => ?_)
          refine lv_goto (tgt := 11) S.1 S.2.1 dX3_placeOf_73 (by decide) ?_
          exact kJ_1 (0 : Int32) _ _ _ _ _ ⟨(show (0 : Int32) = (0 : Int32) + plc1 t u 0 0 by first | (simp [plc1, c_2, c_4, c_5]; done) | (clear S hX G hl; grind [plc1])), rfl, rfl⟩ G (lv_sub hl [0, 2, 3, 4, 5] rfl)
        · refine lv_iload S.1 S.2.1 dX3_placeOf_62 (lv_at hl 0 rfl) ?_
          refine lv_if_eq (tgt := 70) S.1 S.2.1 dX3_placeOf_64 (by decide) (fun _ => ?_) (fun h => absurd (by decide) h)
          refine lv_iinc (v := (1 : Int32)) (lv' := [(4, .int (1 : Int32)), (5, .int (0 : Int32)), (3, .int (0 : Int32)), (2, .int (u 0)), (0, .ref (E.2.2.2 i)), (1, .int (0 : Int32))]) S.1 S.2.1 dX3_placeOf_70 hl (k := 1) rfl (by decide) (by decide) rfl (fun ls hl => ?_)
          refine lv_goto (tgt := 11) S.1 S.2.1 dX3_placeOf_73 (by decide) ?_
          exact kJ_1 (0 : Int32) _ _ _ _ _ ⟨(show (0 : Int32) = (0 : Int32) + plc1 t u 0 0 by first | (simp [plc1, c_2, c_4, c_5]; done) | (clear S hX G hl; grind [plc1])), rfl, rfl⟩ G (lv_sub hl [0, 2, 3, 4, 5] rfl)
      · refine lv_iload S.1 S.2.1 dX3_placeOf_39 (lv_at hl 0 rfl) ?_
        refine lv_iload_n S.1 S.2.1 dX3_placeOf_41 rfl (lv_at hl 4 rfl) ?_
        refine lv_icmp_ge (tgt := 49) S.1 S.2.1 dX3_placeOf_42 (by decide) (fun _ => ?_) (fun h => absurd (by decide) h)
        refine lv_iconst (v := (0 : Int32)) S.1 S.2.1 dX3_placeOf_49 (by decide) ?_
        refine lv_istore (lv' := [(5, .int (0 : Int32)), (4, .int (0 : Int32)), (3, .int (0 : Int32)), (2, .int (u 0)), (0, .ref (E.2.2.2 i)), (1, .int (0 : Int32))]) S.1 S.2.1 dX3_placeOf_50 hl (by decide) rfl (fun ls hl => ?_)
        refine lv_aload_n S.1 S.2.1 dX3_placeOf_52 rfl (lv_at hl 4 rfl) ?_
        refine s_get S hX G (i := i) (kd := 3) (a := (I i)) (v := .ref (E.2.2.2 (i + 1))) (C := RX3) (T := TX3) (N := 4) 0 hi rfl rfl rfl (by decide) rfl (fun _ h => (List.mem_cons_of_mem _ (List.mem_append_right _ h))) (by decide) (List.mem_of_getElem? (i := 2) rfl) (fun _ h => h) dX3_placeOf_53 ?_
        refine lv_iload S.1 S.2.1 dX3_placeOf_56 (lv_at hl 1 rfl) ?_
        refine s_zald S hX G (i := (i + 1)) (a := t) (x := (t 0)) hi_1 e_t (by unfold vp_in; decide) (congrArg t (by decide)) dX3_placeOf_58 ?_
        refine lv_if_eq (tgt := 70) S.1 S.2.1 dX3_placeOf_59 (by decide) (fun c_6 => ?_) (fun c_6 => ?_)
        · refine lv_iinc (v := (1 : Int32)) (lv' := [(4, .int (1 : Int32)), (5, .int (0 : Int32)), (3, .int (0 : Int32)), (2, .int (u 0)), (0, .ref (E.2.2.2 i)), (1, .int (0 : Int32))]) S.1 S.2.1 dX3_placeOf_70 hl (k := 1) rfl (by decide) (by decide) rfl (fun ls hl => ?_)
          refine lv_goto (tgt := 11) S.1 S.2.1 dX3_placeOf_73 (by decide) ?_
          exact kJ_1 (0 : Int32) _ _ _ _ _ ⟨(show (0 : Int32) = (0 : Int32) + plc1 t u 0 0 by first | (simp [plc1, c_2, c_4, c_6]; done) | (clear S hX G hl; grind [plc1])), rfl, rfl⟩ G (lv_sub hl [0, 2, 3, 4, 5] rfl)
        · refine lv_iload S.1 S.2.1 dX3_placeOf_62 (lv_at hl 0 rfl) ?_
          refine lv_if_eq (tgt := 70) S.1 S.2.1 dX3_placeOf_64 (by decide) (fun _ => ?_) (fun h => absurd (by decide) h)
          refine lv_iinc (v := (1 : Int32)) (lv' := [(4, .int (1 : Int32)), (5, .int (0 : Int32)), (3, .int (0 : Int32)), (2, .int (u 0)), (0, .ref (E.2.2.2 i)), (1, .int (0 : Int32))]) S.1 S.2.1 dX3_placeOf_70 hl (k := 1) rfl (by decide) (by decide) rfl (fun ls hl => ?_)
          refine lv_goto (tgt := 11) S.1 S.2.1 dX3_placeOf_73 (by decide) ?_
          exact kJ_1 (0 : Int32) _ _ _ _ _ ⟨(show (0 : Int32) = (0 : Int32) + plc1 t u 0 0 by first | (simp [plc1, c_2, c_4, c_6]; done) | (clear S hX G hl; grind [plc1])), rfl, rfl⟩ G (lv_sub hl [0, 2, 3, 4, 5] rfl)
  · obtain ⟨h0, hI, hL⟩ := hP
    have h0 : x = ((0 : Int32) + plc1 t u 0 0) := h0
    have hl : lv_has ls 6 [(4, .int (1 : Int32)), (3, .int x), (2, .int (u 0)), (0, .ref (E.2.2.2 i)), (1, .int (0 : Int32))] := hl
    subst h0
    have G : GS E I L sg H locs := G.same hI hL
    refine W.eq (g2 := F0 mg 11 ls []) rfl ?_
    refine s_cut (α := Int32) (nL := 6) (E := E) (fun x I' L' => x = (((0 : Int32) + plc1 t u 0 0) + plc1 t u 1 0) ∧ I' = I ∧ L' = L) (fun x => [(4, .int (2 : Int32)), (3, .int x), (2, .int (u 0)), (0, .ref (E.2.2.2 i)), (1, .int (0 : Int32))]) 11 (fun x => []) (fun kJ_7 => ?_) (fun x I1 L1 H locs ls hP G hl => ?_)
    · refine lv_iload S.1 S.2.1 dX3_placeOf_11 (lv_at hl 0 rfl) ?_
      refine lv_iconst (v := (3 : Int32)) S.1 S.2.1 dX3_placeOf_13 (by decide) ?_
      refine lv_icmp_ge (tgt := 76) S.1 S.2.1 dX3_placeOf_14 (by decide) (fun h => absurd h (by decide)) (fun _ => ?_)
      refine lv_aload_n S.1 S.2.1 dX3_placeOf_17 rfl (lv_at hl 3 rfl) ?_
      refine s_get S hX G (i := i) (kd := 3) (a := (I i)) (v := .ref (E.2.2.2 (i + 2))) (C := RX3) (T := TX3) (N := 4) 1 hi rfl rfl rfl (by decide) rfl (fun _ h => (List.mem_cons_of_mem _ (List.mem_append_right _ h))) (by decide) (List.mem_of_getElem? (i := 1) rfl) (fun _ h => h) dX3_placeOf_18 ?_
      refine lv_iload S.1 S.2.1 dX3_placeOf_21 (lv_at hl 0 rfl) ?_
      refine s_iald S hX G (i := (i + 2)) (kd := 17) (n := 3) (a := u) (x := (u 1)) hi_2 e_u rfl (by decide) (by unfold vp_in; decide) (congrArg u (by decide)) dX3_placeOf_23 ?_
      refine lv_iload_n S.1 S.2.1 dX3_placeOf_24 rfl (lv_at hl 2 rfl) ?_
      refine lv_icmp_lt (tgt := 45) S.1 S.2.1 dX3_placeOf_25 (by decide) (fun c_8 => ?_) (fun c_8 => ?_)
      · refine lv_iconst (v := (1 : Int32)) S.1 S.2.1 dX3_placeOf_45 (by decide) ?_
        refine lv_goto (tgt := 50) S.1 S.2.1 dX3_placeOf_46 (by decide) ?_
        refine lv_istore (lv' := [(5, .int (1 : Int32)), (4, .int (1 : Int32)), (3, .int ((0 : Int32) + plc1 t u 0 0)), (2, .int (u 0)), (0, .ref (E.2.2.2 i)), (1, .int (0 : Int32))]) S.1 S.2.1 dX3_placeOf_50 hl (by decide) rfl (fun ls hl => ?_)
        refine lv_aload_n S.1 S.2.1 dX3_placeOf_52 rfl (lv_at hl 4 rfl) ?_
        refine s_get S hX G (i := i) (kd := 3) (a := (I i)) (v := .ref (E.2.2.2 (i + 1))) (C := RX3) (T := TX3) (N := 4) 0 hi rfl rfl rfl (by decide) rfl (fun _ h => (List.mem_cons_of_mem _ (List.mem_append_right _ h))) (by decide) (List.mem_of_getElem? (i := 2) rfl) (fun _ h => h) dX3_placeOf_53 ?_
        refine lv_iload S.1 S.2.1 dX3_placeOf_56 (lv_at hl 1 rfl) ?_
        refine s_zald S hX G (i := (i + 1)) (a := t) (x := (t 1)) hi_1 e_t (by unfold vp_in; decide) (congrArg t (by decide)) dX3_placeOf_58 ?_
        refine lv_if_eq (tgt := 70) S.1 S.2.1 dX3_placeOf_59 (by decide) (fun c_9 => ?_) (fun c_9 => ?_)
        · refine lv_iinc (v := (2 : Int32)) (lv' := [(4, .int (2 : Int32)), (5, .int (1 : Int32)), (3, .int ((0 : Int32) + plc1 t u 0 0)), (2, .int (u 0)), (0, .ref (E.2.2.2 i)), (1, .int (0 : Int32))]) S.1 S.2.1 dX3_placeOf_70 hl (k := 1) rfl (by decide) (by decide) rfl (fun ls hl => ?_)
          refine lv_goto (tgt := 11) S.1 S.2.1 dX3_placeOf_73 (by decide) ?_
          exact kJ_7 ((0 : Int32) + plc1 t u 0 0) _ _ _ _ _ ⟨(show ((0 : Int32) + plc1 t u 0 0) = ((0 : Int32) + plc1 t u 0 0) + plc1 t u 1 0 by first | (simp [plc1, c_8, c_9]; done) | (clear S hX G hl; grind [plc1])), rfl, rfl⟩ G (lv_sub hl [0, 2, 3, 4, 5] rfl)
        · refine lv_iload S.1 S.2.1 dX3_placeOf_62 (lv_at hl 0 rfl) ?_
          refine lv_if_eq (tgt := 70) S.1 S.2.1 dX3_placeOf_64 (by decide) (fun h => absurd h (by decide)) (fun _ => ?_)
          refine lv_iinc (v := (((0 : Int32) + plc1 t u 0 0) + 1)) (lv' := [(3, .int (((0 : Int32) + plc1 t u 0 0) + 1)), (5, .int (1 : Int32)), (4, .int (1 : Int32)), (2, .int (u 0)), (0, .ref (E.2.2.2 i)), (1, .int (0 : Int32))]) S.1 S.2.1 dX3_placeOf_67 hl (k := 2) rfl rfl (by decide) rfl (fun ls hl => ?_)
          refine lv_iinc (v := (2 : Int32)) (lv' := [(4, .int (2 : Int32)), (3, .int (((0 : Int32) + plc1 t u 0 0) + 1)), (5, .int (1 : Int32)), (2, .int (u 0)), (0, .ref (E.2.2.2 i)), (1, .int (0 : Int32))]) S.1 S.2.1 dX3_placeOf_70 hl (k := 2) rfl (by decide) (by decide) rfl (fun ls hl => ?_)
          refine lv_goto (tgt := 11) S.1 S.2.1 dX3_placeOf_73 (by decide) ?_
          exact kJ_7 (((0 : Int32) + plc1 t u 0 0) + 1) _ _ _ _ _ ⟨(show (((0 : Int32) + plc1 t u 0 0) + 1) = ((0 : Int32) + plc1 t u 0 0) + plc1 t u 1 0 by first | (simp [plc1, c_8, c_9]; done) | (clear S hX G hl; grind [plc1])), rfl, rfl⟩ G (lv_sub hl [0, 1, 3, 4, 5] rfl)
      · refine lv_aload_n S.1 S.2.1 dX3_placeOf_28 rfl (lv_at hl 3 rfl) ?_
        refine s_get S hX G (i := i) (kd := 3) (a := (I i)) (v := .ref (E.2.2.2 (i + 2))) (C := RX3) (T := TX3) (N := 4) 1 hi rfl rfl rfl (by decide) rfl (fun _ h => (List.mem_cons_of_mem _ (List.mem_append_right _ h))) (by decide) (List.mem_of_getElem? (i := 1) rfl) (fun _ h => h) dX3_placeOf_29 ?_
        refine lv_iload S.1 S.2.1 dX3_placeOf_32 (lv_at hl 0 rfl) ?_
        refine s_iald S hX G (i := (i + 2)) (kd := 17) (n := 3) (a := u) (x := (u 1)) hi_2 e_u rfl (by decide) (by unfold vp_in; decide) (congrArg u (by decide)) dX3_placeOf_34 ?_
        refine lv_iload_n S.1 S.2.1 dX3_placeOf_35 rfl (lv_at hl 2 rfl) ?_
        refine lv_icmp_ne (tgt := 49) S.1 S.2.1 dX3_placeOf_36 (by decide) (fun c_10 => ?_) (fun c_10 => ?_)
        · refine lv_iconst (v := (0 : Int32)) S.1 S.2.1 dX3_placeOf_49 (by decide) ?_
          refine lv_istore (lv' := [(5, .int (0 : Int32)), (4, .int (1 : Int32)), (3, .int ((0 : Int32) + plc1 t u 0 0)), (2, .int (u 0)), (0, .ref (E.2.2.2 i)), (1, .int (0 : Int32))]) S.1 S.2.1 dX3_placeOf_50 hl (by decide) rfl (fun ls hl => ?_)
          refine lv_aload_n S.1 S.2.1 dX3_placeOf_52 rfl (lv_at hl 4 rfl) ?_
          refine s_get S hX G (i := i) (kd := 3) (a := (I i)) (v := .ref (E.2.2.2 (i + 1))) (C := RX3) (T := TX3) (N := 4) 0 hi rfl rfl rfl (by decide) rfl (fun _ h => (List.mem_cons_of_mem _ (List.mem_append_right _ h))) (by decide) (List.mem_of_getElem? (i := 2) rfl) (fun _ h => h) dX3_placeOf_53 ?_
          refine lv_iload S.1 S.2.1 dX3_placeOf_56 (lv_at hl 1 rfl) ?_
          refine s_zald S hX G (i := (i + 1)) (a := t) (x := (t 1)) hi_1 e_t (by unfold vp_in; decide) (congrArg t (by decide)) dX3_placeOf_58 ?_
          refine lv_if_eq (tgt := 70) S.1 S.2.1 dX3_placeOf_59 (by decide) (fun c_11 => ?_) (fun c_11 => ?_)
          · refine lv_iinc (v := (2 : Int32)) (lv' := [(4, .int (2 : Int32)), (5, .int (0 : Int32)), (3, .int ((0 : Int32) + plc1 t u 0 0)), (2, .int (u 0)), (0, .ref (E.2.2.2 i)), (1, .int (0 : Int32))]) S.1 S.2.1 dX3_placeOf_70 hl (k := 1) rfl (by decide) (by decide) rfl (fun ls hl => ?_)
            refine lv_goto (tgt := 11) S.1 S.2.1 dX3_placeOf_73 (by decide) ?_
            exact kJ_7 ((0 : Int32) + plc1 t u 0 0) _ _ _ _ _ ⟨(show ((0 : Int32) + plc1 t u 0 0) = ((0 : Int32) + plc1 t u 0 0) + plc1 t u 1 0 by first | (simp [plc1, c_8, c_10, c_11]; done) | (clear S hX G hl; grind [plc1])), rfl, rfl⟩ G (lv_sub hl [0, 2, 3, 4, 5] rfl)
          · refine lv_iload S.1 S.2.1 dX3_placeOf_62 (lv_at hl 0 rfl) ?_
            refine lv_if_eq (tgt := 70) S.1 S.2.1 dX3_placeOf_64 (by decide) (fun _ => ?_) (fun h => absurd (by decide) h)
            refine lv_iinc (v := (2 : Int32)) (lv' := [(4, .int (2 : Int32)), (5, .int (0 : Int32)), (3, .int ((0 : Int32) + plc1 t u 0 0)), (2, .int (u 0)), (0, .ref (E.2.2.2 i)), (1, .int (0 : Int32))]) S.1 S.2.1 dX3_placeOf_70 hl (k := 1) rfl (by decide) (by decide) rfl (fun ls hl => ?_)
            refine lv_goto (tgt := 11) S.1 S.2.1 dX3_placeOf_73 (by decide) ?_
            exact kJ_7 ((0 : Int32) + plc1 t u 0 0) _ _ _ _ _ ⟨(show ((0 : Int32) + plc1 t u 0 0) = ((0 : Int32) + plc1 t u 0 0) + plc1 t u 1 0 by first | (simp [plc1, c_8, c_10, c_11]; done) | (clear S hX G hl; grind [plc1])), rfl, rfl⟩ G (lv_sub hl [0, 2, 3, 4, 5] rfl)
        · refine lv_iload S.1 S.2.1 dX3_placeOf_39 (lv_at hl 0 rfl) ?_
          refine lv_iload_n S.1 S.2.1 dX3_placeOf_41 rfl (lv_at hl 4 rfl) ?_
          refine lv_icmp_ge (tgt := 49) S.1 S.2.1 dX3_placeOf_42 (by decide) (fun _ => ?_) (fun h => absurd (by decide) h)
          refine lv_iconst (v := (0 : Int32)) S.1 S.2.1 dX3_placeOf_49 (by decide) ?_
          refine lv_istore (lv' := [(5, .int (0 : Int32)), (4, .int (1 : Int32)), (3, .int ((0 : Int32) + plc1 t u 0 0)), (2, .int (u 0)), (0, .ref (E.2.2.2 i)), (1, .int (0 : Int32))]) S.1 S.2.1 dX3_placeOf_50 hl (by decide) rfl (fun ls hl => ?_)
          refine lv_aload_n S.1 S.2.1 dX3_placeOf_52 rfl (lv_at hl 4 rfl) ?_
          refine s_get S hX G (i := i) (kd := 3) (a := (I i)) (v := .ref (E.2.2.2 (i + 1))) (C := RX3) (T := TX3) (N := 4) 0 hi rfl rfl rfl (by decide) rfl (fun _ h => (List.mem_cons_of_mem _ (List.mem_append_right _ h))) (by decide) (List.mem_of_getElem? (i := 2) rfl) (fun _ h => h) dX3_placeOf_53 ?_
          refine lv_iload S.1 S.2.1 dX3_placeOf_56 (lv_at hl 1 rfl) ?_
          refine s_zald S hX G (i := (i + 1)) (a := t) (x := (t 1)) hi_1 e_t (by unfold vp_in; decide) (congrArg t (by decide)) dX3_placeOf_58 ?_
          refine lv_if_eq (tgt := 70) S.1 S.2.1 dX3_placeOf_59 (by decide) (fun c_12 => ?_) (fun c_12 => ?_)
          · refine lv_iinc (v := (2 : Int32)) (lv' := [(4, .int (2 : Int32)), (5, .int (0 : Int32)), (3, .int ((0 : Int32) + plc1 t u 0 0)), (2, .int (u 0)), (0, .ref (E.2.2.2 i)), (1, .int (0 : Int32))]) S.1 S.2.1 dX3_placeOf_70 hl (k := 1) rfl (by decide) (by decide) rfl (fun ls hl => ?_)
            refine lv_goto (tgt := 11) S.1 S.2.1 dX3_placeOf_73 (by decide) ?_
            exact kJ_7 ((0 : Int32) + plc1 t u 0 0) _ _ _ _ _ ⟨(show ((0 : Int32) + plc1 t u 0 0) = ((0 : Int32) + plc1 t u 0 0) + plc1 t u 1 0 by first | (simp [plc1, c_8, c_10, c_12]; done) | (clear S hX G hl; grind [plc1])), rfl, rfl⟩ G (lv_sub hl [0, 2, 3, 4, 5] rfl)
          · refine lv_iload S.1 S.2.1 dX3_placeOf_62 (lv_at hl 0 rfl) ?_
            refine lv_if_eq (tgt := 70) S.1 S.2.1 dX3_placeOf_64 (by decide) (fun _ => ?_) (fun h => absurd (by decide) h)
            refine lv_iinc (v := (2 : Int32)) (lv' := [(4, .int (2 : Int32)), (5, .int (0 : Int32)), (3, .int ((0 : Int32) + plc1 t u 0 0)), (2, .int (u 0)), (0, .ref (E.2.2.2 i)), (1, .int (0 : Int32))]) S.1 S.2.1 dX3_placeOf_70 hl (k := 1) rfl (by decide) (by decide) rfl (fun ls hl => ?_)
            refine lv_goto (tgt := 11) S.1 S.2.1 dX3_placeOf_73 (by decide) ?_
            exact kJ_7 ((0 : Int32) + plc1 t u 0 0) _ _ _ _ _ ⟨(show ((0 : Int32) + plc1 t u 0 0) = ((0 : Int32) + plc1 t u 0 0) + plc1 t u 1 0 by first | (simp [plc1, c_8, c_10, c_12]; done) | (clear S hX G hl; grind [plc1])), rfl, rfl⟩ G (lv_sub hl [0, 2, 3, 4, 5] rfl)
    · obtain ⟨h0, hI, hL⟩ := hP
      have h0 : x = (((0 : Int32) + plc1 t u 0 0) + plc1 t u 1 0) := h0
      have hl : lv_has ls 6 [(4, .int (2 : Int32)), (3, .int x), (2, .int (u 0)), (0, .ref (E.2.2.2 i)), (1, .int (0 : Int32))] := hl
      subst h0
      have G : GS E I L sg H locs := G.same hI hL
      refine W.eq (g2 := F0 mg 11 ls []) rfl ?_
      refine s_cut (α := Int32) (nL := 6) (E := E) (fun x I' L' => x = ((((0 : Int32) + plc1 t u 0 0) + plc1 t u 1 0) + plc1 t u 2 0) ∧ I' = I ∧ L' = L) (fun x => [(4, .int (3 : Int32)), (3, .int x), (2, .int (u 0)), (0, .ref (E.2.2.2 i)), (1, .int (0 : Int32))]) 11 (fun x => []) (fun kJ_13 => ?_) (fun x I1 L1 H locs ls hP G hl => ?_)
      · refine lv_iload S.1 S.2.1 dX3_placeOf_11 (lv_at hl 0 rfl) ?_
        refine lv_iconst (v := (3 : Int32)) S.1 S.2.1 dX3_placeOf_13 (by decide) ?_
        refine lv_icmp_ge (tgt := 76) S.1 S.2.1 dX3_placeOf_14 (by decide) (fun h => absurd h (by decide)) (fun _ => ?_)
        refine lv_aload_n S.1 S.2.1 dX3_placeOf_17 rfl (lv_at hl 3 rfl) ?_
        refine s_get S hX G (i := i) (kd := 3) (a := (I i)) (v := .ref (E.2.2.2 (i + 2))) (C := RX3) (T := TX3) (N := 4) 1 hi rfl rfl rfl (by decide) rfl (fun _ h => (List.mem_cons_of_mem _ (List.mem_append_right _ h))) (by decide) (List.mem_of_getElem? (i := 1) rfl) (fun _ h => h) dX3_placeOf_18 ?_
        refine lv_iload S.1 S.2.1 dX3_placeOf_21 (lv_at hl 0 rfl) ?_
        refine s_iald S hX G (i := (i + 2)) (kd := 17) (n := 3) (a := u) (x := (u 2)) hi_2 e_u rfl (by decide) (by unfold vp_in; decide) (congrArg u (by decide)) dX3_placeOf_23 ?_
        refine lv_iload_n S.1 S.2.1 dX3_placeOf_24 rfl (lv_at hl 2 rfl) ?_
        refine lv_icmp_lt (tgt := 45) S.1 S.2.1 dX3_placeOf_25 (by decide) (fun c_14 => ?_) (fun c_14 => ?_)
        · refine lv_iconst (v := (1 : Int32)) S.1 S.2.1 dX3_placeOf_45 (by decide) ?_
          refine lv_goto (tgt := 50) S.1 S.2.1 dX3_placeOf_46 (by decide) ?_
          refine lv_istore (lv' := [(5, .int (1 : Int32)), (4, .int (2 : Int32)), (3, .int (((0 : Int32) + plc1 t u 0 0) + plc1 t u 1 0)), (2, .int (u 0)), (0, .ref (E.2.2.2 i)), (1, .int (0 : Int32))]) S.1 S.2.1 dX3_placeOf_50 hl (by decide) rfl (fun ls hl => ?_)
          refine lv_aload_n S.1 S.2.1 dX3_placeOf_52 rfl (lv_at hl 4 rfl) ?_
          refine s_get S hX G (i := i) (kd := 3) (a := (I i)) (v := .ref (E.2.2.2 (i + 1))) (C := RX3) (T := TX3) (N := 4) 0 hi rfl rfl rfl (by decide) rfl (fun _ h => (List.mem_cons_of_mem _ (List.mem_append_right _ h))) (by decide) (List.mem_of_getElem? (i := 2) rfl) (fun _ h => h) dX3_placeOf_53 ?_
          refine lv_iload S.1 S.2.1 dX3_placeOf_56 (lv_at hl 1 rfl) ?_
          refine s_zald S hX G (i := (i + 1)) (a := t) (x := (t 2)) hi_1 e_t (by unfold vp_in; decide) (congrArg t (by decide)) dX3_placeOf_58 ?_
          refine lv_if_eq (tgt := 70) S.1 S.2.1 dX3_placeOf_59 (by decide) (fun c_15 => ?_) (fun c_15 => ?_)
          · refine lv_iinc (v := (3 : Int32)) (lv' := [(4, .int (3 : Int32)), (5, .int (1 : Int32)), (3, .int (((0 : Int32) + plc1 t u 0 0) + plc1 t u 1 0)), (2, .int (u 0)), (0, .ref (E.2.2.2 i)), (1, .int (0 : Int32))]) S.1 S.2.1 dX3_placeOf_70 hl (k := 1) rfl (by decide) (by decide) rfl (fun ls hl => ?_)
            refine lv_goto (tgt := 11) S.1 S.2.1 dX3_placeOf_73 (by decide) ?_
            exact kJ_13 (((0 : Int32) + plc1 t u 0 0) + plc1 t u 1 0) _ _ _ _ _ ⟨(show (((0 : Int32) + plc1 t u 0 0) + plc1 t u 1 0) = (((0 : Int32) + plc1 t u 0 0) + plc1 t u 1 0) + plc1 t u 2 0 by first | (simp [plc1, c_14, c_15]; done) | (clear S hX G hl; grind [plc1])), rfl, rfl⟩ G (lv_sub hl [0, 2, 3, 4, 5] rfl)
          · refine lv_iload S.1 S.2.1 dX3_placeOf_62 (lv_at hl 0 rfl) ?_
            refine lv_if_eq (tgt := 70) S.1 S.2.1 dX3_placeOf_64 (by decide) (fun h => absurd h (by decide)) (fun _ => ?_)
            refine lv_iinc (v := ((((0 : Int32) + plc1 t u 0 0) + plc1 t u 1 0) + 1)) (lv' := [(3, .int ((((0 : Int32) + plc1 t u 0 0) + plc1 t u 1 0) + 1)), (5, .int (1 : Int32)), (4, .int (2 : Int32)), (2, .int (u 0)), (0, .ref (E.2.2.2 i)), (1, .int (0 : Int32))]) S.1 S.2.1 dX3_placeOf_67 hl (k := 2) rfl rfl (by decide) rfl (fun ls hl => ?_)
            refine lv_iinc (v := (3 : Int32)) (lv' := [(4, .int (3 : Int32)), (3, .int ((((0 : Int32) + plc1 t u 0 0) + plc1 t u 1 0) + 1)), (5, .int (1 : Int32)), (2, .int (u 0)), (0, .ref (E.2.2.2 i)), (1, .int (0 : Int32))]) S.1 S.2.1 dX3_placeOf_70 hl (k := 2) rfl (by decide) (by decide) rfl (fun ls hl => ?_)
            refine lv_goto (tgt := 11) S.1 S.2.1 dX3_placeOf_73 (by decide) ?_
            exact kJ_13 ((((0 : Int32) + plc1 t u 0 0) + plc1 t u 1 0) + 1) _ _ _ _ _ ⟨(show ((((0 : Int32) + plc1 t u 0 0) + plc1 t u 1 0) + 1) = (((0 : Int32) + plc1 t u 0 0) + plc1 t u 1 0) + plc1 t u 2 0 by first | (simp [plc1, c_14, c_15]; done) | (clear S hX G hl; grind [plc1])), rfl, rfl⟩ G (lv_sub hl [0, 1, 3, 4, 5] rfl)
        · refine lv_aload_n S.1 S.2.1 dX3_placeOf_28 rfl (lv_at hl 3 rfl) ?_
          refine s_get S hX G (i := i) (kd := 3) (a := (I i)) (v := .ref (E.2.2.2 (i + 2))) (C := RX3) (T := TX3) (N := 4) 1 hi rfl rfl rfl (by decide) rfl (fun _ h => (List.mem_cons_of_mem _ (List.mem_append_right _ h))) (by decide) (List.mem_of_getElem? (i := 1) rfl) (fun _ h => h) dX3_placeOf_29 ?_
          refine lv_iload S.1 S.2.1 dX3_placeOf_32 (lv_at hl 0 rfl) ?_
          refine s_iald S hX G (i := (i + 2)) (kd := 17) (n := 3) (a := u) (x := (u 2)) hi_2 e_u rfl (by decide) (by unfold vp_in; decide) (congrArg u (by decide)) dX3_placeOf_34 ?_
          refine lv_iload_n S.1 S.2.1 dX3_placeOf_35 rfl (lv_at hl 2 rfl) ?_
          refine lv_icmp_ne (tgt := 49) S.1 S.2.1 dX3_placeOf_36 (by decide) (fun c_16 => ?_) (fun c_16 => ?_)
          · refine lv_iconst (v := (0 : Int32)) S.1 S.2.1 dX3_placeOf_49 (by decide) ?_
            refine lv_istore (lv' := [(5, .int (0 : Int32)), (4, .int (2 : Int32)), (3, .int (((0 : Int32) + plc1 t u 0 0) + plc1 t u 1 0)), (2, .int (u 0)), (0, .ref (E.2.2.2 i)), (1, .int (0 : Int32))]) S.1 S.2.1 dX3_placeOf_50 hl (by decide) rfl (fun ls hl => ?_)
            refine lv_aload_n S.1 S.2.1 dX3_placeOf_52 rfl (lv_at hl 4 rfl) ?_
            refine s_get S hX G (i := i) (kd := 3) (a := (I i)) (v := .ref (E.2.2.2 (i + 1))) (C := RX3) (T := TX3) (N := 4) 0 hi rfl rfl rfl (by decide) rfl (fun _ h => (List.mem_cons_of_mem _ (List.mem_append_right _ h))) (by decide) (List.mem_of_getElem? (i := 2) rfl) (fun _ h => h) dX3_placeOf_53 ?_
            refine lv_iload S.1 S.2.1 dX3_placeOf_56 (lv_at hl 1 rfl) ?_
            refine s_zald S hX G (i := (i + 1)) (a := t) (x := (t 2)) hi_1 e_t (by unfold vp_in; decide) (congrArg t (by decide)) dX3_placeOf_58 ?_
            refine lv_if_eq (tgt := 70) S.1 S.2.1 dX3_placeOf_59 (by decide) (fun c_17 => ?_) (fun c_17 => ?_)
            · refine lv_iinc (v := (3 : Int32)) (lv' := [(4, .int (3 : Int32)), (5, .int (0 : Int32)), (3, .int (((0 : Int32) + plc1 t u 0 0) + plc1 t u 1 0)), (2, .int (u 0)), (0, .ref (E.2.2.2 i)), (1, .int (0 : Int32))]) S.1 S.2.1 dX3_placeOf_70 hl (k := 1) rfl (by decide) (by decide) rfl (fun ls hl => ?_)
              refine lv_goto (tgt := 11) S.1 S.2.1 dX3_placeOf_73 (by decide) ?_
              exact kJ_13 (((0 : Int32) + plc1 t u 0 0) + plc1 t u 1 0) _ _ _ _ _ ⟨(show (((0 : Int32) + plc1 t u 0 0) + plc1 t u 1 0) = (((0 : Int32) + plc1 t u 0 0) + plc1 t u 1 0) + plc1 t u 2 0 by first | (simp [plc1, c_14, c_16, c_17]; done) | (clear S hX G hl; grind [plc1])), rfl, rfl⟩ G (lv_sub hl [0, 2, 3, 4, 5] rfl)
            · refine lv_iload S.1 S.2.1 dX3_placeOf_62 (lv_at hl 0 rfl) ?_
              refine lv_if_eq (tgt := 70) S.1 S.2.1 dX3_placeOf_64 (by decide) (fun _ => ?_) (fun h => absurd (by decide) h)
              refine lv_iinc (v := (3 : Int32)) (lv' := [(4, .int (3 : Int32)), (5, .int (0 : Int32)), (3, .int (((0 : Int32) + plc1 t u 0 0) + plc1 t u 1 0)), (2, .int (u 0)), (0, .ref (E.2.2.2 i)), (1, .int (0 : Int32))]) S.1 S.2.1 dX3_placeOf_70 hl (k := 1) rfl (by decide) (by decide) rfl (fun ls hl => ?_)
              refine lv_goto (tgt := 11) S.1 S.2.1 dX3_placeOf_73 (by decide) ?_
              exact kJ_13 (((0 : Int32) + plc1 t u 0 0) + plc1 t u 1 0) _ _ _ _ _ ⟨(show (((0 : Int32) + plc1 t u 0 0) + plc1 t u 1 0) = (((0 : Int32) + plc1 t u 0 0) + plc1 t u 1 0) + plc1 t u 2 0 by first | (simp [plc1, c_14, c_16, c_17]; done) | (clear S hX G hl; grind [plc1])), rfl, rfl⟩ G (lv_sub hl [0, 2, 3, 4, 5] rfl)
          · refine lv_iload S.1 S.2.1 dX3_placeOf_39 (lv_at hl 0 rfl) ?_
            refine lv_iload_n S.1 S.2.1 dX3_placeOf_41 rfl (lv_at hl 4 rfl) ?_
            refine lv_icmp_ge (tgt := 49) S.1 S.2.1 dX3_placeOf_42 (by decide) (fun _ => ?_) (fun h => absurd (by decide) h)
            refine lv_iconst (v := (0 : Int32)) S.1 S.2.1 dX3_placeOf_49 (by decide) ?_
            refine lv_istore (lv' := [(5, .int (0 : Int32)), (4, .int (2 : Int32)), (3, .int (((0 : Int32) + plc1 t u 0 0) + plc1 t u 1 0)), (2, .int (u 0)), (0, .ref (E.2.2.2 i)), (1, .int (0 : Int32))]) S.1 S.2.1 dX3_placeOf_50 hl (by decide) rfl (fun ls hl => ?_)
            refine lv_aload_n S.1 S.2.1 dX3_placeOf_52 rfl (lv_at hl 4 rfl) ?_
            refine s_get S hX G (i := i) (kd := 3) (a := (I i)) (v := .ref (E.2.2.2 (i + 1))) (C := RX3) (T := TX3) (N := 4) 0 hi rfl rfl rfl (by decide) rfl (fun _ h => (List.mem_cons_of_mem _ (List.mem_append_right _ h))) (by decide) (List.mem_of_getElem? (i := 2) rfl) (fun _ h => h) dX3_placeOf_53 ?_
            refine lv_iload S.1 S.2.1 dX3_placeOf_56 (lv_at hl 1 rfl) ?_
            refine s_zald S hX G (i := (i + 1)) (a := t) (x := (t 2)) hi_1 e_t (by unfold vp_in; decide) (congrArg t (by decide)) dX3_placeOf_58 ?_
            refine lv_if_eq (tgt := 70) S.1 S.2.1 dX3_placeOf_59 (by decide) (fun c_18 => ?_) (fun c_18 => ?_)
            · refine lv_iinc (v := (3 : Int32)) (lv' := [(4, .int (3 : Int32)), (5, .int (0 : Int32)), (3, .int (((0 : Int32) + plc1 t u 0 0) + plc1 t u 1 0)), (2, .int (u 0)), (0, .ref (E.2.2.2 i)), (1, .int (0 : Int32))]) S.1 S.2.1 dX3_placeOf_70 hl (k := 1) rfl (by decide) (by decide) rfl (fun ls hl => ?_)
              refine lv_goto (tgt := 11) S.1 S.2.1 dX3_placeOf_73 (by decide) ?_
              exact kJ_13 (((0 : Int32) + plc1 t u 0 0) + plc1 t u 1 0) _ _ _ _ _ ⟨(show (((0 : Int32) + plc1 t u 0 0) + plc1 t u 1 0) = (((0 : Int32) + plc1 t u 0 0) + plc1 t u 1 0) + plc1 t u 2 0 by first | (simp [plc1, c_14, c_16, c_18]; done) | (clear S hX G hl; grind [plc1])), rfl, rfl⟩ G (lv_sub hl [0, 2, 3, 4, 5] rfl)
            · refine lv_iload S.1 S.2.1 dX3_placeOf_62 (lv_at hl 0 rfl) ?_
              refine lv_if_eq (tgt := 70) S.1 S.2.1 dX3_placeOf_64 (by decide) (fun _ => ?_) (fun h => absurd (by decide) h)
              refine lv_iinc (v := (3 : Int32)) (lv' := [(4, .int (3 : Int32)), (5, .int (0 : Int32)), (3, .int (((0 : Int32) + plc1 t u 0 0) + plc1 t u 1 0)), (2, .int (u 0)), (0, .ref (E.2.2.2 i)), (1, .int (0 : Int32))]) S.1 S.2.1 dX3_placeOf_70 hl (k := 1) rfl (by decide) (by decide) rfl (fun ls hl => ?_)
              refine lv_goto (tgt := 11) S.1 S.2.1 dX3_placeOf_73 (by decide) ?_
              exact kJ_13 (((0 : Int32) + plc1 t u 0 0) + plc1 t u 1 0) _ _ _ _ _ ⟨(show (((0 : Int32) + plc1 t u 0 0) + plc1 t u 1 0) = (((0 : Int32) + plc1 t u 0 0) + plc1 t u 1 0) + plc1 t u 2 0 by first | (simp [plc1, c_14, c_16, c_18]; done) | (clear S hX G hl; grind [plc1])), rfl, rfl⟩ G (lv_sub hl [0, 2, 3, 4, 5] rfl)
      · obtain ⟨h0, hI, hL⟩ := hP
        have h0 : x = ((((0 : Int32) + plc1 t u 0 0) + plc1 t u 1 0) + plc1 t u 2 0) := h0
        have hl : lv_has ls 6 [(4, .int (3 : Int32)), (3, .int x), (2, .int (u 0)), (0, .ref (E.2.2.2 i)), (1, .int (0 : Int32))] := hl
        subst h0
        have G : GS E I L sg H locs := G.same hI hL
        refine W.eq (g2 := F0 mg 11 ls []) rfl ?_
        refine lv_iload S.1 S.2.1 dX3_placeOf_11 (lv_at hl 0 rfl) ?_
        refine lv_iconst (v := (3 : Int32)) S.1 S.2.1 dX3_placeOf_13 (by decide) ?_
        refine lv_icmp_ge (tgt := 76) S.1 S.2.1 dX3_placeOf_14 (by decide) (fun _ => ?_) (fun h => absurd (by decide) h)
        refine lv_iload_n S.1 S.2.1 dX3_placeOf_76 rfl (lv_at hl 1 rfl) ?_
        refine s_iret (x := ((((0 : Int32) + plc1 t u 0 0) + plc1 t u 1 0) + plc1 t u 2 0)) S G hr hlk dX3_placeOf_77 ?_
        exact ⟨(congrArg (fun q : Int32 => some (Value.int q)) (show ((((0 : Int32) + plc1 t u 0 0) + plc1 t u 1 0) + plc1 t u 2 0) = (plcF t u 0) by simp [plcF])), rfl, rfl⟩
set_option maxHeartbeats 4000000 in
set_option maxRecDepth 100000 in
theorem k_X3_latch_0 (l : Launch) (E : Ev) {I : SI} {L : SL} (i : Nat) (slot : Int32) (current : Int32) (n : Nat → Int32) (t : Nat → Int32) (u : Nat → Int32) (w : Nat → Int32) (hi : sh (i) = 3) (hi_1 : sh (i+1) = 10) (hi_2 : sh (i+2) = 17) (hi_3 : sh (i+3) = 17) (e_n : I (i) = n) (e_t : I (i+1) = t) (e_u : I (i+2) = u) (e_w : I (i+3) = w) : CS l yX3_latch wsX3_latch ({ frames := 2, cells := 0, slots := 0, locals := 42 }) E [.ref (E.2.2.2 i), .int (0 : Int32), .int slot, .int current] I L (fun vv I' L' => vv = none ∧ I' = (up (up (up (up I (i) (if t 0 = 0 then upd n 3 (n 3 + 1) else n)) (i+1) (if t 0 = 0 then upd t 0 1 else t)) (i+2) (if t 0 = 0 then upd u 0 slot else u)) (i+3) (if t 0 = 0 then upd w 0 current else w)) ∧ L' = L) := by
  refine CS.of (cc := cX3_latch) (maxL := 4) (ret := none) (by decide) rfl (Nat.le_of_ble_eq_true rfl) ?_
  intro pg en sg mg below meth cg ls S hr hlk hX G hl
  have S : CallFix pg mg cg cX3_latch 4 sg _ wsX3_latch RX3 := S
  have hl : lv_has ls 4 [(0, .ref (E.2.2.2 i)), (1, .int (0 : Int32)), (2, .int slot), (3, .int current)] := hl
  refine lv_iload_n S.1 S.2.1 dX3_latch_0 rfl (lv_at hl 1 rfl) ?_
  refine s_callSN (As := [.int (0 : Int32)]) (rest := []) S hX G (k_X8_isFault l E (0 : Int32)) (va_cnB (bytes := cX8_isFault) (maxL := 1) (ret := (some .boolean)) 1 S.2.2.2.2 gX3_latch_X8_isFault_n26 rfl rfl rfl (hX.2.2.1.2 _ (List.mem_of_getElem? (i := 2) rfl)) (S.2.2.2.2 _ (List.mem_of_getElem? (i := 6) rfl)) (by decide +kernel) ⟨Nat.le_of_ble_eq_true rfl, Nat.le_of_ble_eq_true rfl⟩) (List.mem_of_getElem? (i := 5) rfl) rfl hl.1 rfl (Nat.le_of_ble_eq_true rfl) ⟨Nat.zero_le _, Nat.zero_le _⟩ dX3_latch_1 (fun v I1 L1 H locs hR G => ?_)
  obtain ⟨hv, hI, hL⟩ := hR
  subst hv
  have G : GS E I L sg H locs := G.same hI hL
  refine W.eq (g2 := F0 mg 4 ls [.int (if ¬ (0 : Int32) < (0 : Int32) ∧ ¬ (2 : Int32) < (0 : Int32) then 1 else 0)]) rfl ?_
  refine s_if_eq_b (P := ¬ (0 : Int32) < (0 : Int32) ∧ ¬ (2 : Int32) < (0 : Int32)) (tgt := 47) S dX3_latch_4 (by decide) (fun h => absurd (by decide) h) (fun _ => ?_)
  refine lv_aload_n S.1 S.2.1 dX3_latch_7 rfl (lv_at hl 0 rfl) ?_
  refine s_get S hX G (i := i) (kd := 3) (a := n) (v := .ref (E.2.2.2 (i + 1))) (C := RX3) (T := TX3) (N := 4) 0 hi e_n rfl rfl (by decide) rfl (fun _ h => (List.mem_cons_of_mem _ (List.mem_append_right _ h))) (by decide) (List.mem_of_getElem? (i := 1) rfl) (fun _ h => h) dX3_latch_8 ?_
  refine lv_iload_n S.1 S.2.1 dX3_latch_11 rfl (lv_at hl 1 rfl) ?_
  refine s_zald S hX G (i := (i + 1)) (a := t) (x := (t 0)) hi_1 e_t (by unfold vp_in; decide) (congrArg t (by decide)) dX3_latch_12 ?_
  refine lv_if_ne (tgt := 47) S.1 S.2.1 dX3_latch_13 (by decide) (fun c_1 => ?_) (fun c_1 => ?_)
  · refine s_vret S G hr hlk dX3_latch_47 ?_
    exact ⟨rfl, (st_eq4 (Eq.trans e_n (show n = (if t 0 = 0 then upd n 3 (n 3 + 1) else n) by first | (simp [c_1]; done) | (clear S hX G hl; grind []))) (Eq.trans e_t (show t = (if t 0 = 0 then upd t 0 1 else t) by first | (simp [c_1]; done) | (clear S hX G hl; grind []))) (Eq.trans e_u (show u = (if t 0 = 0 then upd u 0 slot else u) by first | (simp [c_1]; done) | (clear S hX G hl; grind []))) (Eq.trans e_w (show w = (if t 0 = 0 then upd w 0 current else w) by first | (simp [c_1]; done) | (clear S hX G hl; grind []))) (fun _ g0 g1 g2 g3 => rfl)), rfl⟩
  · refine lv_aload_n S.1 S.2.1 dX3_latch_16 rfl (lv_at hl 0 rfl) ?_
    refine s_get S hX G (i := i) (kd := 3) (a := n) (v := .ref (E.2.2.2 (i + 1))) (C := RX3) (T := TX3) (N := 4) 0 hi e_n rfl rfl (by decide) rfl (fun _ h => (List.mem_cons_of_mem _ (List.mem_append_right _ h))) (by decide) (List.mem_of_getElem? (i := 1) rfl) (fun _ h => h) dX3_latch_17 ?_
    refine lv_iload_n S.1 S.2.1 dX3_latch_20 rfl (lv_at hl 1 rfl) ?_
    refine lv_iconst (v := (1 : Int32)) S.1 S.2.1 dX3_latch_21 (by decide) ?_
    refine s_zast S hX G (i := (i + 1)) (jn := 0) (a := t) (I' := (up I (i + 1) (upd t 0 (1 : Int32)))) hi_1 e_t (by unfold vp_in; decide) (by decide) (Or.inr rfl) rfl dX3_latch_22 (fun H locs G => ?_)
    refine lv_aload_n S.1 S.2.1 dX3_latch_23 rfl (lv_at hl 0 rfl) ?_
    refine s_get S hX G (i := i) (kd := 3) (a := n) (v := .ref (E.2.2.2 (i + 2))) (C := RX3) (T := TX3) (N := 4) 1 hi ((up_ne (by omega)).trans e_n) rfl rfl (by decide) rfl (fun _ h => (List.mem_cons_of_mem _ (List.mem_append_right _ h))) (by decide) (List.mem_of_getElem? (i := 2) rfl) (fun _ h => h) dX3_latch_24 ?_
    refine lv_iload_n S.1 S.2.1 dX3_latch_27 rfl (lv_at hl 1 rfl) ?_
    refine lv_iload_n S.1 S.2.1 dX3_latch_28 rfl (lv_at hl 2 rfl) ?_
    refine s_iast S hX G (i := (i + 2)) (kd := 17) (n := 3) (jn := 0) (a := u) (I' := (up (up I (i + 1) (upd t 0 (1 : Int32))) (i + 2) (upd u 0 slot))) hi_2 ((up_ne (by omega)).trans e_u) (fun _ => rfl) (by decide) (by unfold vp_in; decide) (by decide) rfl dX3_latch_29 (fun H locs G => ?_)
    refine lv_aload_n S.1 S.2.1 dX3_latch_30 rfl (lv_at hl 0 rfl) ?_
    refine s_get S hX G (i := i) (kd := 3) (a := n) (v := .ref (E.2.2.2 (i + 3))) (C := RX3) (T := TX3) (N := 4) 2 hi ((up_ne (by omega)).trans ((up_ne (by omega)).trans e_n)) rfl rfl (by decide) rfl (fun _ h => (List.mem_cons_of_mem _ (List.mem_append_right _ h))) (by decide) (List.mem_of_getElem? (i := 3) rfl) (fun _ h => h) dX3_latch_31 ?_
    refine lv_iload_n S.1 S.2.1 dX3_latch_34 rfl (lv_at hl 1 rfl) ?_
    refine lv_iload_n S.1 S.2.1 dX3_latch_35 rfl (lv_at hl 3 rfl) ?_
    refine s_iast S hX G (i := (i + 3)) (kd := 17) (n := 3) (jn := 0) (a := w) (I' := (up (up (up I (i + 1) (upd t 0 (1 : Int32))) (i + 2) (upd u 0 slot)) (i + 3) (upd w 0 current))) hi_3 ((up_ne (by omega)).trans ((up_ne (by omega)).trans e_w)) (fun _ => rfl) (by decide) (by unfold vp_in; decide) (by decide) rfl dX3_latch_36 (fun H locs G => ?_)
    refine lv_aload_n S.1 S.2.1 dX3_latch_37 rfl (lv_at hl 0 rfl) ?_
    refine lv_dup S.1 S.2.1 dX3_latch_38 rfl ?_
    refine s_get S hX G (i := i) (kd := 3) (a := n) (v := .int (n 3)) (C := RX3) (T := TX3) (N := 4) 3 hi ((up_ne (by omega)).trans ((up_ne (by omega)).trans ((up_ne (by omega)).trans e_n))) rfl rfl (by decide) rfl (fun _ h => (List.mem_cons_of_mem _ (List.mem_append_right _ h))) (by decide) (List.mem_of_getElem? (i := 4) rfl) (fun _ h => h) dX3_latch_39 ?_
    refine lv_iconst (v := (1 : Int32)) S.1 S.2.1 dX3_latch_42 (by decide) ?_
    refine s_iadd (v := ((n 3) + (1 : Int32))) S dX3_latch_43 rfl ?_
    refine lv_topi (fun y_2 ey_2 => ?_)
    refine s_put S hX G (i := i) (kd := 3) (a := n) (a' := (upd n 3 y_2)) (I' := (up (up (up (up I (i + 1) (upd t 0 (1 : Int32))) (i + 2) (upd u 0 slot)) (i + 3) (upd w 0 current)) i (upd n 3 y_2))) (v := .int y_2) (ty := .int) (ty0 := tyX3) (C := RX3) (T := TX3) (N := 4) 3 hi ((up_ne (by omega)).trans ((up_ne (by omega)).trans ((up_ne (by omega)).trans e_n))) rfl rfl rfl (by decide) rfl (fun _ h => (List.mem_cons_of_mem _ (List.mem_append_right _ h))) tyX3_ok nmX3 (by decide) (List.mem_of_getElem? (i := 4) rfl) (fun _ h => h) rfl (by decide +kernel) rfl rfl (Nat.le_of_ble_eq_true rfl) dX3_latch_44 (fun H locs G => ?_)
    refine s_vret S G hr hlk dX3_latch_47 ?_
    exact ⟨rfl, (st_eq4 (Eq.trans up_eq (show (upd n 3 y_2) = (if t 0 = 0 then upd n 3 (n 3 + 1) else n) by subst ey_2; (first | (simp [c_1]; done) | (clear S hX G hl; grind [])))) (Eq.trans ((up_ne (by omega)).trans ((up_ne (by omega)).trans ((up_ne (by omega)).trans up_eq))) (show (upd t 0 (1 : Int32)) = (if t 0 = 0 then upd t 0 1 else t) by subst ey_2; (first | (simp [c_1]; done) | (clear S hX G hl; grind [])))) (Eq.trans ((up_ne (by omega)).trans ((up_ne (by omega)).trans up_eq)) (show (upd u 0 slot) = (if t 0 = 0 then upd u 0 slot else u) by subst ey_2; (first | (simp [c_1]; done) | (clear S hX G hl; grind [])))) (Eq.trans ((up_ne (by omega)).trans up_eq) (show (upd w 0 current) = (if t 0 = 0 then upd w 0 current else w) by subst ey_2; (first | (simp [c_1]; done) | (clear S hX G hl; grind [])))) (fun _ g0 g1 g2 g3 => ((up_ne g0).trans ((up_ne g3).trans ((up_ne g2).trans (up_ne g1)))))), rfl⟩
set_option maxHeartbeats 4000000 in
set_option maxRecDepth 100000 in
theorem k_X3_release_0 (l : Launch) (E : Ev) {I : SI} {L : SL} (i : Nat) (n : Nat → Int32) (t : Nat → Int32) (hi : sh (i) = 3) (hi_1 : sh (i+1) = 10) (hi_2 : sh (i+2) = 17) (hi_3 : sh (i+3) = 17) (e_n : I (i) = n) (e_t : I (i+1) = t) : CS l yX3_release wsX3_release ({ frames := 3, cells := 0, slots := 0, locals := 63 }) E [.ref (E.2.2.2 i), .int (0 : Int32)] I L (fun vv I' L' => vv = none ∧ I' = (up (up I (i) (if ¬ t 0 = 0 then upd n 3 (n 3 - 1) else n)) (i+1) (if ¬ t 0 = 0 then upd t 0 0 else t)) ∧ L' = L) := by
  refine CS.of (cc := cX3_release) (maxL := 2) (ret := none) (by decide) rfl (Nat.le_of_ble_eq_true rfl) ?_
  intro pg en sg mg below meth cg ls S hr hlk hX G hl
  have S : CallFix pg mg cg cX3_release 2 sg _ wsX3_release RX3 := S
  have hl : lv_has ls 2 [(0, .ref (E.2.2.2 i)), (1, .int (0 : Int32))] := hl
  refine lv_aload_n S.1 S.2.1 dX3_release_0 rfl (lv_at hl 0 rfl) ?_
  refine lv_iload_n S.1 S.2.1 dX3_release_1 rfl (lv_at hl 1 rfl) ?_
  refine s_callV (C := RX3) (As := [.int (0 : Int32)]) (rest := []) (i := i) (kd := 3) S hX G (k_X3_isLatched_0 l E i t hi hi_1 hi_2 hi_3 e_t) (cwV (bytes := cX3_isLatched) (maxL := 2) (ret := (some .boolean)) 1 S.2.2.2.2 gX3_release_X3_isLatched rfl rfl rfl (by decide +kernel) ⟨Nat.le_of_ble_eq_true rfl, Nat.le_of_ble_eq_true rfl⟩) hi rfl rfl rfl (by decide) rfl hl.1 rfl (Nat.le_of_ble_eq_true rfl) ⟨Nat.zero_le _, Nat.zero_le _⟩ dX3_release_2 (fun v I1 L1 H locs hR G => ?_)
  obtain ⟨hv, hI, hL⟩ := hR
  subst hv
  have G : GS E I L sg H locs := G.same hI hL
  refine W.eq (g2 := F0 mg 5 ls [.int (if ¬ t 0 = 0 then 1 else 0)]) rfl ?_
  refine s_if_eq_b (P := ¬ t 0 = 0) (tgt := 25) S dX3_release_5 (by decide) (fun c_1 => ?_) (fun c_1 => ?_)
  · refine s_vret S G hr hlk dX3_release_25 ?_
    exact ⟨rfl, (st_eq2 (Eq.trans e_n (show n = (if ¬ t 0 = 0 then upd n 3 (n 3 - 1) else n) by first | (simp [c_1]; done) | (clear S hX G hl; grind []))) (Eq.trans e_t (show t = (if ¬ t 0 = 0 then upd t 0 0 else t) by first | (simp [c_1]; done) | (clear S hX G hl; grind []))) (fun _ g0 g1 => rfl)), rfl⟩
  · refine lv_aload_n S.1 S.2.1 dX3_release_8 rfl (lv_at hl 0 rfl) ?_
    refine s_get S hX G (i := i) (kd := 3) (a := n) (v := .ref (E.2.2.2 (i + 1))) (C := RX3) (T := TX3) (N := 4) 0 hi e_n rfl rfl (by decide) rfl (fun _ h => (List.mem_cons_of_mem _ (List.mem_append_right _ h))) (by decide) (List.mem_of_getElem? (i := 1) rfl) (fun _ h => h) dX3_release_9 ?_
    refine lv_iload_n S.1 S.2.1 dX3_release_12 rfl (lv_at hl 1 rfl) ?_
    refine lv_iconst (v := (0 : Int32)) S.1 S.2.1 dX3_release_13 (by decide) ?_
    refine s_zast S hX G (i := (i + 1)) (jn := 0) (a := t) (I' := (up I (i + 1) (upd t 0 (0 : Int32)))) hi_1 e_t (by unfold vp_in; decide) (by decide) (Or.inl rfl) rfl dX3_release_14 (fun H locs G => ?_)
    refine lv_aload_n S.1 S.2.1 dX3_release_15 rfl (lv_at hl 0 rfl) ?_
    refine lv_dup S.1 S.2.1 dX3_release_16 rfl ?_
    refine s_get S hX G (i := i) (kd := 3) (a := n) (v := .int (n 3)) (C := RX3) (T := TX3) (N := 4) 3 hi ((up_ne (by omega)).trans e_n) rfl rfl (by decide) rfl (fun _ h => (List.mem_cons_of_mem _ (List.mem_append_right _ h))) (by decide) (List.mem_of_getElem? (i := 2) rfl) (fun _ h => h) dX3_release_17 ?_
    refine lv_iconst (v := (1 : Int32)) S.1 S.2.1 dX3_release_20 (by decide) ?_
    refine s_isub (v := ((n 3) - (1 : Int32))) S dX3_release_21 rfl ?_
    refine lv_topi (fun y_2 ey_2 => ?_)
    refine s_put S hX G (i := i) (kd := 3) (a := n) (a' := (upd n 3 y_2)) (I' := (up (up I (i + 1) (upd t 0 (0 : Int32))) i (upd n 3 y_2))) (v := .int y_2) (ty := .int) (ty0 := tyX3) (C := RX3) (T := TX3) (N := 4) 3 hi ((up_ne (by omega)).trans e_n) rfl rfl rfl (by decide) rfl (fun _ h => (List.mem_cons_of_mem _ (List.mem_append_right _ h))) tyX3_ok nmX3 (by decide) (List.mem_of_getElem? (i := 2) rfl) (fun _ h => h) rfl (by decide +kernel) rfl rfl (Nat.le_of_ble_eq_true rfl) dX3_release_22 (fun H locs G => ?_)
    refine s_vret S G hr hlk dX3_release_25 ?_
    exact ⟨rfl, (st_eq2 (Eq.trans up_eq (show (upd n 3 y_2) = (if ¬ t 0 = 0 then upd n 3 (n 3 - 1) else n) by subst ey_2; (first | (simp [c_1]; done) | (clear S hX G hl; grind [])))) (Eq.trans ((up_ne (by omega)).trans up_eq) (show (upd t 0 (0 : Int32)) = (if ¬ t 0 = 0 then upd t 0 0 else t) by subst ey_2; (first | (simp [c_1]; done) | (clear S hX G hl; grind [])))) (fun _ g0 g1 => ((up_ne g0).trans (up_ne g1)))), rfl⟩
set_option maxHeartbeats 4000000 in
set_option maxRecDepth 100000 in
theorem k_X3_isLatched_1 (l : Launch) (E : Ev) {I : SI} {L : SL} (i : Nat) (t : Nat → Int32) (hi : sh (i) = 3) (hi_1 : sh (i+1) = 10) (hi_2 : sh (i+2) = 17) (hi_3 : sh (i+3) = 17) (e_t : I (i+1) = t) : CS l yX3_isLatched wsX3_isLatched ({ frames := 2, cells := 0, slots := 0, locals := 42 }) E [.ref (E.2.2.2 i), .int (1 : Int32)] I L (fun vv I' L' => vv = some (.int (if ¬ t 1 = 0 then 1 else 0)) ∧ I' = I ∧ L' = L) := by
  refine CS.of (cc := cX3_isLatched) (maxL := 2) (ret := (some .boolean)) (by decide) rfl (Nat.le_of_ble_eq_true rfl) ?_
  intro pg en sg mg below meth cg ls S hr hlk hX G hl
  have S : CallFix pg mg cg cX3_isLatched 2 sg _ wsX3_isLatched RX3 := S
  have hl : lv_has ls 2 [(0, .ref (E.2.2.2 i)), (1, .int (1 : Int32))] := hl
  refine lv_iload_n S.1 S.2.1 dX3_isLatched_0 rfl (lv_at hl 1 rfl) ?_
  refine s_callSN (As := [.int (1 : Int32)]) (rest := []) S hX G (k_X8_isFault l E (1 : Int32)) (va_cnB (bytes := cX8_isFault) (maxL := 1) (ret := (some .boolean)) 1 S.2.2.2.2 gX3_isLatched_X8_isFault_n26 rfl rfl rfl (hX.2.2.1.2 _ (List.mem_of_getElem? (i := 2) rfl)) (S.2.2.2.2 _ (List.mem_of_getElem? (i := 3) rfl)) (by decide +kernel) ⟨Nat.le_of_ble_eq_true rfl, Nat.le_of_ble_eq_true rfl⟩) (List.mem_of_getElem? (i := 2) rfl) rfl hl.1 rfl (Nat.le_of_ble_eq_true rfl) ⟨Nat.zero_le _, Nat.zero_le _⟩ dX3_isLatched_1 (fun v I1 L1 H locs hR G => ?_)
  obtain ⟨hv, hI, hL⟩ := hR
  subst hv
  have G : GS E I L sg H locs := G.same hI hL
  refine W.eq (g2 := F0 mg 4 ls [.int (if ¬ (1 : Int32) < (0 : Int32) ∧ ¬ (2 : Int32) < (1 : Int32) then 1 else 0)]) rfl ?_
  refine s_if_eq_b (P := ¬ (1 : Int32) < (0 : Int32) ∧ ¬ (2 : Int32) < (1 : Int32)) (tgt := 20) S dX3_isLatched_4 (by decide) (fun h => absurd (by decide) h) (fun _ => ?_)
  refine lv_aload_n S.1 S.2.1 dX3_isLatched_7 rfl (lv_at hl 0 rfl) ?_
  refine s_get S hX G (i := i) (kd := 3) (a := (I i)) (v := .ref (E.2.2.2 (i + 1))) (C := RX3) (T := TX3) (N := 4) 0 hi rfl rfl rfl (by decide) rfl (fun _ h => (List.mem_cons_of_mem _ (List.mem_append_right _ h))) (by decide) (List.mem_of_getElem? (i := 1) rfl) (fun _ h => h) dX3_isLatched_8 ?_
  refine lv_iload_n S.1 S.2.1 dX3_isLatched_11 rfl (lv_at hl 1 rfl) ?_
  refine s_zald S hX G (i := (i + 1)) (a := t) (x := (t 1)) hi_1 e_t (by unfold vp_in; decide) (congrArg t (by decide)) dX3_isLatched_12 ?_
  refine lv_if_eq (tgt := 20) S.1 S.2.1 dX3_isLatched_13 (by decide) (fun c_1 => ?_) (fun c_1 => ?_)
  · refine lv_iconst (v := (0 : Int32)) S.1 S.2.1 dX3_isLatched_20 (by decide) ?_
    refine s_zret (x := (0 : Int32)) S G hr hlk dX3_isLatched_21 (Or.inl rfl) ?_
    exact ⟨(congrArg (fun q : Int32 => some (Value.int q)) (show (0 : Int32) = (if ¬ t 1 = 0 then 1 else 0) by first | (simp [c_1]; done) | (clear S hX G hl; grind []))), rfl, rfl⟩
  · refine lv_iconst (v := (1 : Int32)) S.1 S.2.1 dX3_isLatched_16 (by decide) ?_
    refine lv_goto (tgt := 21) S.1 S.2.1 dX3_isLatched_17 (by decide) ?_
    refine s_zret (x := (1 : Int32)) S G hr hlk dX3_isLatched_21 (Or.inr rfl) ?_
    exact ⟨(congrArg (fun q : Int32 => some (Value.int q)) (show (1 : Int32) = (if ¬ t 1 = 0 then 1 else 0) by first | (simp [c_1]; done) | (clear S hX G hl; grind []))), rfl, rfl⟩
set_option maxHeartbeats 4000000 in
set_option maxRecDepth 100000 in
theorem k_X3_slotOf_1 (l : Launch) (E : Ev) {I : SI} {L : SL} (i : Nat) (u : Nat → Int32) (hi : sh (i) = 3) (hi_1 : sh (i+1) = 10) (hi_2 : sh (i+2) = 17) (hi_3 : sh (i+3) = 17) (e_u : I (i+2) = u) : CS l yX3_slotOf wsX3_slotOf ({ frames := 2, cells := 0, slots := 0, locals := 42 }) E [.ref (E.2.2.2 i), .int (1 : Int32)] I L (fun vv I' L' => vv = some (.int (u 1)) ∧ I' = I ∧ L' = L) := by
  refine CS.of (cc := cX3_slotOf) (maxL := 2) (ret := (some .int)) (by decide) rfl (Nat.le_of_ble_eq_true rfl) ?_
  intro pg en sg mg below meth cg ls S hr hlk hX G hl
  have S : CallFix pg mg cg cX3_slotOf 2 sg _ wsX3_slotOf RX3 := S
  have hl : lv_has ls 2 [(0, .ref (E.2.2.2 i)), (1, .int (1 : Int32))] := hl
  refine lv_iload_n S.1 S.2.1 dX3_slotOf_0 rfl (lv_at hl 1 rfl) ?_
  refine s_callSN (As := [.int (1 : Int32)]) (rest := []) S hX G (k_X8_isFault l E (1 : Int32)) (va_cnB (bytes := cX8_isFault) (maxL := 1) (ret := (some .boolean)) 1 S.2.2.2.2 gX3_slotOf_X8_isFault_n26 rfl rfl rfl (hX.2.2.1.2 _ (List.mem_of_getElem? (i := 2) rfl)) (S.2.2.2.2 _ (List.mem_of_getElem? (i := 3) rfl)) (by decide +kernel) ⟨Nat.le_of_ble_eq_true rfl, Nat.le_of_ble_eq_true rfl⟩) (List.mem_of_getElem? (i := 2) rfl) rfl hl.1 rfl (Nat.le_of_ble_eq_true rfl) ⟨Nat.zero_le _, Nat.zero_le _⟩ dX3_slotOf_1 (fun v I1 L1 H locs hR G => ?_)
  obtain ⟨hv, hI, hL⟩ := hR
  subst hv
  have G : GS E I L sg H locs := G.same hI hL
  refine W.eq (g2 := F0 mg 4 ls [.int (if ¬ (1 : Int32) < (0 : Int32) ∧ ¬ (2 : Int32) < (1 : Int32) then 1 else 0)]) rfl ?_
  refine s_if_eq_b (P := ¬ (1 : Int32) < (0 : Int32) ∧ ¬ (2 : Int32) < (1 : Int32)) (tgt := 16) S dX3_slotOf_4 (by decide) (fun h => absurd (by decide) h) (fun _ => ?_)
  refine lv_aload_n S.1 S.2.1 dX3_slotOf_7 rfl (lv_at hl 0 rfl) ?_
  refine s_get S hX G (i := i) (kd := 3) (a := (I i)) (v := .ref (E.2.2.2 (i + 2))) (C := RX3) (T := TX3) (N := 4) 1 hi rfl rfl rfl (by decide) rfl (fun _ h => (List.mem_cons_of_mem _ (List.mem_append_right _ h))) (by decide) (List.mem_of_getElem? (i := 1) rfl) (fun _ h => h) dX3_slotOf_8 ?_
  refine lv_iload_n S.1 S.2.1 dX3_slotOf_11 rfl (lv_at hl 1 rfl) ?_
  refine s_iald S hX G (i := (i + 2)) (kd := 17) (n := 3) (a := u) (x := (u 1)) hi_2 e_u rfl (by decide) (by unfold vp_in; decide) (congrArg u (by decide)) dX3_slotOf_12 ?_
  refine lv_goto (tgt := 17) S.1 S.2.1 dX3_slotOf_13 (by decide) ?_
  refine s_iret (x := (u 1)) S G hr hlk dX3_slotOf_17 ?_
  exact ⟨rfl, rfl, rfl⟩
set_option maxHeartbeats 4000000 in
set_option maxRecDepth 100000 in
theorem k_X3_currentOf_1 (l : Launch) (E : Ev) {I : SI} {L : SL} (i : Nat) (w : Nat → Int32) (hi : sh (i) = 3) (hi_1 : sh (i+1) = 10) (hi_2 : sh (i+2) = 17) (hi_3 : sh (i+3) = 17) (e_w : I (i+3) = w) : CS l yX3_currentOf wsX3_currentOf ({ frames := 2, cells := 0, slots := 0, locals := 42 }) E [.ref (E.2.2.2 i), .int (1 : Int32)] I L (fun vv I' L' => vv = some (.int (w 1)) ∧ I' = I ∧ L' = L) := by
  refine CS.of (cc := cX3_currentOf) (maxL := 2) (ret := (some .int)) (by decide) rfl (Nat.le_of_ble_eq_true rfl) ?_
  intro pg en sg mg below meth cg ls S hr hlk hX G hl
  have S : CallFix pg mg cg cX3_currentOf 2 sg _ wsX3_currentOf RX3 := S
  have hl : lv_has ls 2 [(0, .ref (E.2.2.2 i)), (1, .int (1 : Int32))] := hl
  refine lv_iload_n S.1 S.2.1 dX3_currentOf_0 rfl (lv_at hl 1 rfl) ?_
  refine s_callSN (As := [.int (1 : Int32)]) (rest := []) S hX G (k_X8_isFault l E (1 : Int32)) (va_cnB (bytes := cX8_isFault) (maxL := 1) (ret := (some .boolean)) 1 S.2.2.2.2 gX3_currentOf_X8_isFault_n26 rfl rfl rfl (hX.2.2.1.2 _ (List.mem_of_getElem? (i := 2) rfl)) (S.2.2.2.2 _ (List.mem_of_getElem? (i := 3) rfl)) (by decide +kernel) ⟨Nat.le_of_ble_eq_true rfl, Nat.le_of_ble_eq_true rfl⟩) (List.mem_of_getElem? (i := 2) rfl) rfl hl.1 rfl (Nat.le_of_ble_eq_true rfl) ⟨Nat.zero_le _, Nat.zero_le _⟩ dX3_currentOf_1 (fun v I1 L1 H locs hR G => ?_)
  obtain ⟨hv, hI, hL⟩ := hR
  subst hv
  have G : GS E I L sg H locs := G.same hI hL
  refine W.eq (g2 := F0 mg 4 ls [.int (if ¬ (1 : Int32) < (0 : Int32) ∧ ¬ (2 : Int32) < (1 : Int32) then 1 else 0)]) rfl ?_
  refine s_if_eq_b (P := ¬ (1 : Int32) < (0 : Int32) ∧ ¬ (2 : Int32) < (1 : Int32)) (tgt := 16) S dX3_currentOf_4 (by decide) (fun h => absurd (by decide) h) (fun _ => ?_)
  refine lv_aload_n S.1 S.2.1 dX3_currentOf_7 rfl (lv_at hl 0 rfl) ?_
  refine s_get S hX G (i := i) (kd := 3) (a := (I i)) (v := .ref (E.2.2.2 (i + 3))) (C := RX3) (T := TX3) (N := 4) 2 hi rfl rfl rfl (by decide) rfl (fun _ h => (List.mem_cons_of_mem _ (List.mem_append_right _ h))) (by decide) (List.mem_of_getElem? (i := 1) rfl) (fun _ h => h) dX3_currentOf_8 ?_
  refine lv_iload_n S.1 S.2.1 dX3_currentOf_11 rfl (lv_at hl 1 rfl) ?_
  refine s_iald S hX G (i := (i + 3)) (kd := 17) (n := 3) (a := w) (x := (w 1)) hi_3 e_w rfl (by decide) (by unfold vp_in; decide) (congrArg w (by decide)) dX3_currentOf_12 ?_
  refine lv_goto (tgt := 17) S.1 S.2.1 dX3_currentOf_13 (by decide) ?_
  refine s_iret (x := (w 1)) S G hr hlk dX3_currentOf_17 ?_
  exact ⟨rfl, rfl, rfl⟩
set_option maxHeartbeats 4000000 in
set_option maxRecDepth 100000 in
theorem k_X3_placeOf_1 (l : Launch) (E : Ev) {I : SI} {L : SL} (i : Nat) (t : Nat → Int32) (u : Nat → Int32) (hi : sh (i) = 3) (hi_1 : sh (i+1) = 10) (hi_2 : sh (i+2) = 17) (hi_3 : sh (i+3) = 17) (e_t : I (i+1) = t) (e_u : I (i+2) = u) : CS l yX3_placeOf wsX3_placeOf ({ frames := 3, cells := 0, slots := 0, locals := 63 }) E [.ref (E.2.2.2 i), .int (1 : Int32)] I L (fun vv I' L' => vv = some (.int (plcF t u 1)) ∧ I' = I ∧ L' = L) := by
  refine CS.of (cc := cX3_placeOf) (maxL := 6) (ret := (some .int)) (by decide) rfl (Nat.le_of_ble_eq_true rfl) ?_
  intro pg en sg mg below meth cg ls S hr hlk hX G hl
  have S : CallFix pg mg cg cX3_placeOf 6 sg _ wsX3_placeOf RX3 := S
  have hl : lv_has ls 6 [(0, .ref (E.2.2.2 i)), (1, .int (1 : Int32))] := hl
  refine lv_aload_n S.1 S.2.1 dX3_placeOf_0 rfl (lv_at hl 0 rfl) ?_
  refine lv_iload_n S.1 S.2.1 dX3_placeOf_1 rfl (lv_at hl 1 rfl) ?_
  refine s_callV (C := RX3) (As := [.int (1 : Int32)]) (rest := []) (i := i) (kd := 3) S hX G (k_X3_slotOf_1 l E i u hi hi_1 hi_2 hi_3 e_u) (cwV (bytes := cX3_slotOf) (maxL := 2) (ret := (some .int)) 1 S.2.2.2.2 gX3_placeOf_X3_slotOf rfl rfl rfl (by decide +kernel) ⟨Nat.le_of_ble_eq_true rfl, Nat.le_of_ble_eq_true rfl⟩) hi rfl rfl rfl (by decide) rfl hl.1 rfl (Nat.le_of_ble_eq_true rfl) ⟨Nat.zero_le _, Nat.zero_le _⟩ dX3_placeOf_2 (fun v I1 L1 H locs hR G => ?_)
  obtain ⟨hv, hI, hL⟩ := hR
  subst hv
  have G : GS E I L sg H locs := G.same hI hL
  refine W.eq (g2 := F0 mg 5 ls [.int (u 1)]) rfl ?_
  refine lv_istore_n (lv' := [(2, .int (u 1)), (0, .ref (E.2.2.2 i)), (1, .int (1 : Int32))]) S.1 S.2.1 dX3_placeOf_5 rfl hl (by decide) rfl (fun ls hl => ?_)
  refine lv_iconst (v := (0 : Int32)) S.1 S.2.1 dX3_placeOf_6 (by decide) ?_
  refine lv_istore_n (lv' := [(3, .int (0 : Int32)), (2, .int (u 1)), (0, .ref (E.2.2.2 i)), (1, .int (1 : Int32))]) S.1 S.2.1 dX3_placeOf_7 rfl hl (by decide) rfl (fun ls hl => ?_)
  refine lv_iconst (v := (0 : Int32)) S.1 S.2.1 dX3_placeOf_8 (by decide) ?_
  refine lv_istore (lv' := [(4, .int (0 : Int32)), (3, .int (0 : Int32)), (2, .int (u 1)), (0, .ref (E.2.2.2 i)), (1, .int (1 : Int32))]) S.1 S.2.1 dX3_placeOf_9 hl (by decide) rfl (fun ls hl => ?_)
  refine s_cut (α := Int32) (nL := 6) (E := E) (fun x I' L' => x = ((0 : Int32) + plc1 t u 0 1) ∧ I' = I ∧ L' = L) (fun x => [(4, .int (1 : Int32)), (3, .int x), (2, .int (u 1)), (0, .ref (E.2.2.2 i)), (1, .int (1 : Int32))]) 11 (fun x => []) (fun kJ_1 => ?_) (fun x I1 L1 H locs ls hP G hl => ?_)
  · refine lv_iload S.1 S.2.1 dX3_placeOf_11 (lv_at hl 0 rfl) ?_
    refine lv_iconst (v := (3 : Int32)) S.1 S.2.1 dX3_placeOf_13 (by decide) ?_
    refine lv_icmp_ge (tgt := 76) S.1 S.2.1 dX3_placeOf_14 (by decide) (fun h => absurd h (by decide)) (fun _ => ?_)
    refine lv_aload_n S.1 S.2.1 dX3_placeOf_17 rfl (lv_at hl 3 rfl) ?_
    refine s_get S hX G (i := i) (kd := 3) (a := (I i)) (v := .ref (E.2.2.2 (i + 2))) (C := RX3) (T := TX3) (N := 4) 1 hi rfl rfl rfl (by decide) rfl (fun _ h => (List.mem_cons_of_mem _ (List.mem_append_right _ h))) (by decide) (List.mem_of_getElem? (i := 1) rfl) (fun _ h => h) dX3_placeOf_18 ?_
    refine lv_iload S.1 S.2.1 dX3_placeOf_21 (lv_at hl 0 rfl) ?_
    refine s_iald S hX G (i := (i + 2)) (kd := 17) (n := 3) (a := u) (x := (u 0)) hi_2 e_u rfl (by decide) (by unfold vp_in; decide) (congrArg u (by decide)) dX3_placeOf_23 ?_
    refine lv_iload_n S.1 S.2.1 dX3_placeOf_24 rfl (lv_at hl 2 rfl) ?_
    refine lv_icmp_lt (tgt := 45) S.1 S.2.1 dX3_placeOf_25 (by decide) (fun c_2 => ?_) (fun c_2 => ?_)
    · refine lv_iconst (v := (1 : Int32)) S.1 S.2.1 dX3_placeOf_45 (by decide) ?_
      refine lv_goto (tgt := 50) S.1 S.2.1 dX3_placeOf_46 (by decide) ?_
      refine lv_istore (lv' := [(5, .int (1 : Int32)), (4, .int (0 : Int32)), (3, .int (0 : Int32)), (2, .int (u 1)), (0, .ref (E.2.2.2 i)), (1, .int (1 : Int32))]) S.1 S.2.1 dX3_placeOf_50 hl (by decide) rfl (fun ls hl => ?_)
      refine lv_aload_n S.1 S.2.1 dX3_placeOf_52 rfl (lv_at hl 4 rfl) ?_
      refine s_get S hX G (i := i) (kd := 3) (a := (I i)) (v := .ref (E.2.2.2 (i + 1))) (C := RX3) (T := TX3) (N := 4) 0 hi rfl rfl rfl (by decide) rfl (fun _ h => (List.mem_cons_of_mem _ (List.mem_append_right _ h))) (by decide) (List.mem_of_getElem? (i := 2) rfl) (fun _ h => h) dX3_placeOf_53 ?_
      refine lv_iload S.1 S.2.1 dX3_placeOf_56 (lv_at hl 1 rfl) ?_
      refine s_zald S hX G (i := (i + 1)) (a := t) (x := (t 0)) hi_1 e_t (by unfold vp_in; decide) (congrArg t (by decide)) dX3_placeOf_58 ?_
      refine lv_if_eq (tgt := 70) S.1 S.2.1 dX3_placeOf_59 (by decide) (fun c_3 => ?_) (fun c_3 => ?_)
      · refine lv_iinc (v := (1 : Int32)) (lv' := [(4, .int (1 : Int32)), (5, .int (1 : Int32)), (3, .int (0 : Int32)), (2, .int (u 1)), (0, .ref (E.2.2.2 i)), (1, .int (1 : Int32))]) S.1 S.2.1 dX3_placeOf_70 hl (k := 1) rfl (by decide) (by decide) rfl (fun ls hl => ?_)
        refine lv_goto (tgt := 11) S.1 S.2.1 dX3_placeOf_73 (by decide) ?_
        exact kJ_1 (0 : Int32) _ _ _ _ _ ⟨(show (0 : Int32) = (0 : Int32) + plc1 t u 0 1 by first | (simp [plc1, c_2, c_3]; done) | (clear S hX G hl; grind [plc1])), rfl, rfl⟩ G (lv_sub hl [0, 2, 3, 4, 5] rfl)
      · refine lv_iload S.1 S.2.1 dX3_placeOf_62 (lv_at hl 0 rfl) ?_
        refine lv_if_eq (tgt := 70) S.1 S.2.1 dX3_placeOf_64 (by decide) (fun h => absurd h (by decide)) (fun _ => ?_)
        refine lv_iinc (v := (1 : Int32)) (lv' := [(3, .int (1 : Int32)), (5, .int (1 : Int32)), (4, .int (0 : Int32)), (2, .int (u 1)), (0, .ref (E.2.2.2 i)), (1, .int (1 : Int32))]) S.1 S.2.1 dX3_placeOf_67 hl (k := 2) rfl (by decide) (by decide) rfl (fun ls hl => ?_)
        refine lv_iinc (v := (1 : Int32)) (lv' := [(4, .int (1 : Int32)), (3, .int (1 : Int32)), (5, .int (1 : Int32)), (2, .int (u 1)), (0, .ref (E.2.2.2 i)), (1, .int (1 : Int32))]) S.1 S.2.1 dX3_placeOf_70 hl (k := 2) rfl (by decide) (by decide) rfl (fun ls hl => ?_)
        refine lv_goto (tgt := 11) S.1 S.2.1 dX3_placeOf_73 (by decide) ?_
        exact kJ_1 (1 : Int32) _ _ _ _ _ ⟨(show (1 : Int32) = (0 : Int32) + plc1 t u 0 1 by first | (simp [plc1, c_2, c_3]; done) | (clear S hX G hl; grind [plc1])), rfl, rfl⟩ G (lv_sub hl [0, 1, 3, 4, 5] rfl)
    · refine lv_aload_n S.1 S.2.1 dX3_placeOf_28 rfl (lv_at hl 3 rfl) ?_
      refine s_get S hX G (i := i) (kd := 3) (a := (I i)) (v := .ref (E.2.2.2 (i + 2))) (C := RX3) (T := TX3) (N := 4) 1 hi rfl rfl rfl (by decide) rfl (fun _ h => (List.mem_cons_of_mem _ (List.mem_append_right _ h))) (by decide) (List.mem_of_getElem? (i := 1) rfl) (fun _ h => h) dX3_placeOf_29 ?_
      refine lv_iload S.1 S.2.1 dX3_placeOf_32 (lv_at hl 0 rfl) ?_
      refine s_iald S hX G (i := (i + 2)) (kd := 17) (n := 3) (a := u) (x := (u 0)) hi_2 e_u rfl (by decide) (by unfold vp_in; decide) (congrArg u (by decide)) dX3_placeOf_34 ?_
      refine lv_iload_n S.1 S.2.1 dX3_placeOf_35 rfl (lv_at hl 2 rfl) ?_
      refine lv_icmp_ne (tgt := 49) S.1 S.2.1 dX3_placeOf_36 (by decide) (fun c_4 => ?_) (fun c_4 => ?_)
      · refine lv_iconst (v := (0 : Int32)) S.1 S.2.1 dX3_placeOf_49 (by decide) ?_
        refine lv_istore (lv' := [(5, .int (0 : Int32)), (4, .int (0 : Int32)), (3, .int (0 : Int32)), (2, .int (u 1)), (0, .ref (E.2.2.2 i)), (1, .int (1 : Int32))]) S.1 S.2.1 dX3_placeOf_50 hl (by decide) rfl (fun ls hl => ?_)
        refine lv_aload_n S.1 S.2.1 dX3_placeOf_52 rfl (lv_at hl 4 rfl) ?_
        refine s_get S hX G (i := i) (kd := 3) (a := (I i)) (v := .ref (E.2.2.2 (i + 1))) (C := RX3) (T := TX3) (N := 4) 0 hi rfl rfl rfl (by decide) rfl (fun _ h => (List.mem_cons_of_mem _ (List.mem_append_right _ h))) (by decide) (List.mem_of_getElem? (i := 2) rfl) (fun _ h => h) dX3_placeOf_53 ?_
        refine lv_iload S.1 S.2.1 dX3_placeOf_56 (lv_at hl 1 rfl) ?_
        refine s_zald S hX G (i := (i + 1)) (a := t) (x := (t 0)) hi_1 e_t (by unfold vp_in; decide) (congrArg t (by decide)) dX3_placeOf_58 ?_
        refine lv_if_eq (tgt := 70) S.1 S.2.1 dX3_placeOf_59 (by decide) (fun c_5 => ?_) (fun c_5 => ?_)
        · refine lv_iinc (v := (1 : Int32)) (lv' := [(4, .int (1 : Int32)), (5, .int (0 : Int32)), (3, .int (0 : Int32)), (2, .int (u 1)), (0, .ref (E.2.2.2 i)), (1, .int (1 : Int32))]) S.1 S.2.1 dX3_placeOf_70 hl (k := 1) rfl (by decide) (by decide) rfl (fun ls hl => ?_)
          refine lv_goto (tgt := 11) S.1 S.2.1 dX3_placeOf_73 (by decide) ?_
          exact kJ_1 (0 : Int32) _ _ _ _ _ ⟨(show (0 : Int32) = (0 : Int32) + plc1 t u 0 1 by first | (simp [plc1, c_2, c_4, c_5]; done) | (clear S hX G hl; grind [plc1])), rfl, rfl⟩ G (lv_sub hl [0, 2, 3, 4, 5] rfl)
        · refine lv_iload S.1 S.2.1 dX3_placeOf_62 (lv_at hl 0 rfl) ?_
          refine lv_if_eq (tgt := 70) S.1 S.2.1 dX3_placeOf_64 (by decide) (fun _ => ?_) (fun h => absurd (by decide) h)
          refine lv_iinc (v := (1 : Int32)) (lv' := [(4, .int (1 : Int32)), (5, .int (0 : Int32)), (3, .int (0 : Int32)), (2, .int (u 1)), (0, .ref (E.2.2.2 i)), (1, .int (1 : Int32))]) S.1 S.2.1 dX3_placeOf_70 hl (k := 1) rfl (by decide) (by decide) rfl (fun ls hl => ?_)
          refine lv_goto (tgt := 11) S.1 S.2.1 dX3_placeOf_73 (by decide) ?_
          exact kJ_1 (0 : Int32) _ _ _ _ _ ⟨(show (0 : Int32) = (0 : Int32) + plc1 t u 0 1 by first | (simp [plc1, c_2, c_4, c_5]; done) | (clear S hX G hl; grind [plc1])), rfl, rfl⟩ G (lv_sub hl [0, 2, 3, 4, 5] rfl)
      · refine lv_iload S.1 S.2.1 dX3_placeOf_39 (lv_at hl 0 rfl) ?_
        refine lv_iload_n S.1 S.2.1 dX3_placeOf_41 rfl (lv_at hl 4 rfl) ?_
        refine lv_icmp_ge (tgt := 49) S.1 S.2.1 dX3_placeOf_42 (by decide) (fun h => absurd h (by decide)) (fun _ => ?_)
        refine lv_iconst (v := (1 : Int32)) S.1 S.2.1 dX3_placeOf_45 (by decide) ?_
        refine lv_goto (tgt := 50) S.1 S.2.1 dX3_placeOf_46 (by decide) ?_
        refine lv_istore (lv' := [(5, .int (1 : Int32)), (4, .int (0 : Int32)), (3, .int (0 : Int32)), (2, .int (u 1)), (0, .ref (E.2.2.2 i)), (1, .int (1 : Int32))]) S.1 S.2.1 dX3_placeOf_50 hl (by decide) rfl (fun ls hl => ?_)
        refine lv_aload_n S.1 S.2.1 dX3_placeOf_52 rfl (lv_at hl 4 rfl) ?_
        refine s_get S hX G (i := i) (kd := 3) (a := (I i)) (v := .ref (E.2.2.2 (i + 1))) (C := RX3) (T := TX3) (N := 4) 0 hi rfl rfl rfl (by decide) rfl (fun _ h => (List.mem_cons_of_mem _ (List.mem_append_right _ h))) (by decide) (List.mem_of_getElem? (i := 2) rfl) (fun _ h => h) dX3_placeOf_53 ?_
        refine lv_iload S.1 S.2.1 dX3_placeOf_56 (lv_at hl 1 rfl) ?_
        refine s_zald S hX G (i := (i + 1)) (a := t) (x := (t 0)) hi_1 e_t (by unfold vp_in; decide) (congrArg t (by decide)) dX3_placeOf_58 ?_
        refine lv_if_eq (tgt := 70) S.1 S.2.1 dX3_placeOf_59 (by decide) (fun c_6 => ?_) (fun c_6 => ?_)
        · refine lv_iinc (v := (1 : Int32)) (lv' := [(4, .int (1 : Int32)), (5, .int (1 : Int32)), (3, .int (0 : Int32)), (2, .int (u 1)), (0, .ref (E.2.2.2 i)), (1, .int (1 : Int32))]) S.1 S.2.1 dX3_placeOf_70 hl (k := 1) rfl (by decide) (by decide) rfl (fun ls hl => ?_)
          refine lv_goto (tgt := 11) S.1 S.2.1 dX3_placeOf_73 (by decide) ?_
          exact kJ_1 (0 : Int32) _ _ _ _ _ ⟨(show (0 : Int32) = (0 : Int32) + plc1 t u 0 1 by first | (simp [plc1, c_2, c_4, c_6]; done) | (clear S hX G hl; grind [plc1])), rfl, rfl⟩ G (lv_sub hl [0, 2, 3, 4, 5] rfl)
        · refine lv_iload S.1 S.2.1 dX3_placeOf_62 (lv_at hl 0 rfl) ?_
          refine lv_if_eq (tgt := 70) S.1 S.2.1 dX3_placeOf_64 (by decide) (fun h => absurd h (by decide)) (fun _ => ?_)
          refine lv_iinc (v := (1 : Int32)) (lv' := [(3, .int (1 : Int32)), (5, .int (1 : Int32)), (4, .int (0 : Int32)), (2, .int (u 1)), (0, .ref (E.2.2.2 i)), (1, .int (1 : Int32))]) S.1 S.2.1 dX3_placeOf_67 hl (k := 2) rfl (by decide) (by decide) rfl (fun ls hl => ?_)
          refine lv_iinc (v := (1 : Int32)) (lv' := [(4, .int (1 : Int32)), (3, .int (1 : Int32)), (5, .int (1 : Int32)), (2, .int (u 1)), (0, .ref (E.2.2.2 i)), (1, .int (1 : Int32))]) S.1 S.2.1 dX3_placeOf_70 hl (k := 2) rfl (by decide) (by decide) rfl (fun ls hl => ?_)
          refine lv_goto (tgt := 11) S.1 S.2.1 dX3_placeOf_73 (by decide) ?_
          exact kJ_1 (1 : Int32) _ _ _ _ _ ⟨(show (1 : Int32) = (0 : Int32) + plc1 t u 0 1 by first | (simp [plc1, c_2, c_4, c_6]; done) | (clear S hX G hl; grind [plc1])), rfl, rfl⟩ G (lv_sub hl [0, 1, 3, 4, 5] rfl)
  · obtain ⟨h0, hI, hL⟩ := hP
    have h0 : x = ((0 : Int32) + plc1 t u 0 1) := h0
    have hl : lv_has ls 6 [(4, .int (1 : Int32)), (3, .int x), (2, .int (u 1)), (0, .ref (E.2.2.2 i)), (1, .int (1 : Int32))] := hl
    subst h0
    have G : GS E I L sg H locs := G.same hI hL
    refine W.eq (g2 := F0 mg 11 ls []) rfl ?_
    refine s_cut (α := Int32) (nL := 6) (E := E) (fun x I' L' => x = (((0 : Int32) + plc1 t u 0 1) + plc1 t u 1 1) ∧ I' = I ∧ L' = L) (fun x => [(4, .int (2 : Int32)), (3, .int x), (2, .int (u 1)), (0, .ref (E.2.2.2 i)), (1, .int (1 : Int32))]) 11 (fun x => []) (fun kJ_7 => ?_) (fun x I1 L1 H locs ls hP G hl => ?_)
    · refine lv_iload S.1 S.2.1 dX3_placeOf_11 (lv_at hl 0 rfl) ?_
      refine lv_iconst (v := (3 : Int32)) S.1 S.2.1 dX3_placeOf_13 (by decide) ?_
      refine lv_icmp_ge (tgt := 76) S.1 S.2.1 dX3_placeOf_14 (by decide) (fun h => absurd h (by decide)) (fun _ => ?_)
      refine lv_aload_n S.1 S.2.1 dX3_placeOf_17 rfl (lv_at hl 3 rfl) ?_
      refine s_get S hX G (i := i) (kd := 3) (a := (I i)) (v := .ref (E.2.2.2 (i + 2))) (C := RX3) (T := TX3) (N := 4) 1 hi rfl rfl rfl (by decide) rfl (fun _ h => (List.mem_cons_of_mem _ (List.mem_append_right _ h))) (by decide) (List.mem_of_getElem? (i := 1) rfl) (fun _ h => h) dX3_placeOf_18 ?_
      refine lv_iload S.1 S.2.1 dX3_placeOf_21 (lv_at hl 0 rfl) ?_
      refine s_iald S hX G (i := (i + 2)) (kd := 17) (n := 3) (a := u) (x := (u 1)) hi_2 e_u rfl (by decide) (by unfold vp_in; decide) (congrArg u (by decide)) dX3_placeOf_23 ?_
      refine lv_iload_n S.1 S.2.1 dX3_placeOf_24 rfl (lv_at hl 2 rfl) ?_
      refine lv_icmp_lt (tgt := 45) S.1 S.2.1 dX3_placeOf_25 (by decide) (fun c_8 => ?_) (fun c_8 => ?_)
      · refine lv_iconst (v := (1 : Int32)) S.1 S.2.1 dX3_placeOf_45 (by decide) ?_
        refine lv_goto (tgt := 50) S.1 S.2.1 dX3_placeOf_46 (by decide) ?_
        refine lv_istore (lv' := [(5, .int (1 : Int32)), (4, .int (1 : Int32)), (3, .int ((0 : Int32) + plc1 t u 0 1)), (2, .int (u 1)), (0, .ref (E.2.2.2 i)), (1, .int (1 : Int32))]) S.1 S.2.1 dX3_placeOf_50 hl (by decide) rfl (fun ls hl => ?_)
        refine lv_aload_n S.1 S.2.1 dX3_placeOf_52 rfl (lv_at hl 4 rfl) ?_
        refine s_get S hX G (i := i) (kd := 3) (a := (I i)) (v := .ref (E.2.2.2 (i + 1))) (C := RX3) (T := TX3) (N := 4) 0 hi rfl rfl rfl (by decide) rfl (fun _ h => (List.mem_cons_of_mem _ (List.mem_append_right _ h))) (by decide) (List.mem_of_getElem? (i := 2) rfl) (fun _ h => h) dX3_placeOf_53 ?_
        refine lv_iload S.1 S.2.1 dX3_placeOf_56 (lv_at hl 1 rfl) ?_
        refine s_zald S hX G (i := (i + 1)) (a := t) (x := (t 1)) hi_1 e_t (by unfold vp_in; decide) (congrArg t (by decide)) dX3_placeOf_58 ?_
        refine lv_if_eq (tgt := 70) S.1 S.2.1 dX3_placeOf_59 (by decide) (fun c_9 => ?_) (fun c_9 => ?_)
        · refine lv_iinc (v := (2 : Int32)) (lv' := [(4, .int (2 : Int32)), (5, .int (1 : Int32)), (3, .int ((0 : Int32) + plc1 t u 0 1)), (2, .int (u 1)), (0, .ref (E.2.2.2 i)), (1, .int (1 : Int32))]) S.1 S.2.1 dX3_placeOf_70 hl (k := 1) rfl (by decide) (by decide) rfl (fun ls hl => ?_)
          refine lv_goto (tgt := 11) S.1 S.2.1 dX3_placeOf_73 (by decide) ?_
          exact kJ_7 ((0 : Int32) + plc1 t u 0 1) _ _ _ _ _ ⟨(show ((0 : Int32) + plc1 t u 0 1) = ((0 : Int32) + plc1 t u 0 1) + plc1 t u 1 1 by first | (simp [plc1, c_8, c_9]; done) | (clear S hX G hl; grind [plc1])), rfl, rfl⟩ G (lv_sub hl [0, 2, 3, 4, 5] rfl)
        · refine lv_iload S.1 S.2.1 dX3_placeOf_62 (lv_at hl 0 rfl) ?_
          refine lv_if_eq (tgt := 70) S.1 S.2.1 dX3_placeOf_64 (by decide) (fun h => absurd h (by decide)) (fun _ => ?_)
          refine lv_iinc (v := (((0 : Int32) + plc1 t u 0 1) + 1)) (lv' := [(3, .int (((0 : Int32) + plc1 t u 0 1) + 1)), (5, .int (1 : Int32)), (4, .int (1 : Int32)), (2, .int (u 1)), (0, .ref (E.2.2.2 i)), (1, .int (1 : Int32))]) S.1 S.2.1 dX3_placeOf_67 hl (k := 2) rfl rfl (by decide) rfl (fun ls hl => ?_)
          refine lv_iinc (v := (2 : Int32)) (lv' := [(4, .int (2 : Int32)), (3, .int (((0 : Int32) + plc1 t u 0 1) + 1)), (5, .int (1 : Int32)), (2, .int (u 1)), (0, .ref (E.2.2.2 i)), (1, .int (1 : Int32))]) S.1 S.2.1 dX3_placeOf_70 hl (k := 2) rfl (by decide) (by decide) rfl (fun ls hl => ?_)
          refine lv_goto (tgt := 11) S.1 S.2.1 dX3_placeOf_73 (by decide) ?_
          exact kJ_7 (((0 : Int32) + plc1 t u 0 1) + 1) _ _ _ _ _ ⟨(show (((0 : Int32) + plc1 t u 0 1) + 1) = ((0 : Int32) + plc1 t u 0 1) + plc1 t u 1 1 by first | (simp [plc1, c_8, c_9]; done) | (clear S hX G hl; grind [plc1])), rfl, rfl⟩ G (lv_sub hl [0, 1, 3, 4, 5] rfl)
      · refine lv_aload_n S.1 S.2.1 dX3_placeOf_28 rfl (lv_at hl 3 rfl) ?_
        refine s_get S hX G (i := i) (kd := 3) (a := (I i)) (v := .ref (E.2.2.2 (i + 2))) (C := RX3) (T := TX3) (N := 4) 1 hi rfl rfl rfl (by decide) rfl (fun _ h => (List.mem_cons_of_mem _ (List.mem_append_right _ h))) (by decide) (List.mem_of_getElem? (i := 1) rfl) (fun _ h => h) dX3_placeOf_29 ?_
        refine lv_iload S.1 S.2.1 dX3_placeOf_32 (lv_at hl 0 rfl) ?_
        refine s_iald S hX G (i := (i + 2)) (kd := 17) (n := 3) (a := u) (x := (u 1)) hi_2 e_u rfl (by decide) (by unfold vp_in; decide) (congrArg u (by decide)) dX3_placeOf_34 ?_
        refine lv_iload_n S.1 S.2.1 dX3_placeOf_35 rfl (lv_at hl 2 rfl) ?_
        refine lv_icmp_ne (tgt := 49) S.1 S.2.1 dX3_placeOf_36 (by decide) (fun c_10 => ?_) (fun c_10 => ?_)
        · refine lv_iconst (v := (0 : Int32)) S.1 S.2.1 dX3_placeOf_49 (by decide) ?_
          refine lv_istore (lv' := [(5, .int (0 : Int32)), (4, .int (1 : Int32)), (3, .int ((0 : Int32) + plc1 t u 0 1)), (2, .int (u 1)), (0, .ref (E.2.2.2 i)), (1, .int (1 : Int32))]) S.1 S.2.1 dX3_placeOf_50 hl (by decide) rfl (fun ls hl => ?_)
          refine lv_aload_n S.1 S.2.1 dX3_placeOf_52 rfl (lv_at hl 4 rfl) ?_
          refine s_get S hX G (i := i) (kd := 3) (a := (I i)) (v := .ref (E.2.2.2 (i + 1))) (C := RX3) (T := TX3) (N := 4) 0 hi rfl rfl rfl (by decide) rfl (fun _ h => (List.mem_cons_of_mem _ (List.mem_append_right _ h))) (by decide) (List.mem_of_getElem? (i := 2) rfl) (fun _ h => h) dX3_placeOf_53 ?_
          refine lv_iload S.1 S.2.1 dX3_placeOf_56 (lv_at hl 1 rfl) ?_
          refine s_zald S hX G (i := (i + 1)) (a := t) (x := (t 1)) hi_1 e_t (by unfold vp_in; decide) (congrArg t (by decide)) dX3_placeOf_58 ?_
          refine lv_if_eq (tgt := 70) S.1 S.2.1 dX3_placeOf_59 (by decide) (fun c_11 => ?_) (fun c_11 => ?_)
          · refine lv_iinc (v := (2 : Int32)) (lv' := [(4, .int (2 : Int32)), (5, .int (0 : Int32)), (3, .int ((0 : Int32) + plc1 t u 0 1)), (2, .int (u 1)), (0, .ref (E.2.2.2 i)), (1, .int (1 : Int32))]) S.1 S.2.1 dX3_placeOf_70 hl (k := 1) rfl (by decide) (by decide) rfl (fun ls hl => ?_)
            refine lv_goto (tgt := 11) S.1 S.2.1 dX3_placeOf_73 (by decide) ?_
            exact kJ_7 ((0 : Int32) + plc1 t u 0 1) _ _ _ _ _ ⟨(show ((0 : Int32) + plc1 t u 0 1) = ((0 : Int32) + plc1 t u 0 1) + plc1 t u 1 1 by first | (simp [plc1, c_8, c_10, c_11]; done) | (clear S hX G hl; grind [plc1])), rfl, rfl⟩ G (lv_sub hl [0, 2, 3, 4, 5] rfl)
          · refine lv_iload S.1 S.2.1 dX3_placeOf_62 (lv_at hl 0 rfl) ?_
            refine lv_if_eq (tgt := 70) S.1 S.2.1 dX3_placeOf_64 (by decide) (fun _ => ?_) (fun h => absurd (by decide) h)
            refine lv_iinc (v := (2 : Int32)) (lv' := [(4, .int (2 : Int32)), (5, .int (0 : Int32)), (3, .int ((0 : Int32) + plc1 t u 0 1)), (2, .int (u 1)), (0, .ref (E.2.2.2 i)), (1, .int (1 : Int32))]) S.1 S.2.1 dX3_placeOf_70 hl (k := 1) rfl (by decide) (by decide) rfl (fun ls hl => ?_)
            refine lv_goto (tgt := 11) S.1 S.2.1 dX3_placeOf_73 (by decide) ?_
            exact kJ_7 ((0 : Int32) + plc1 t u 0 1) _ _ _ _ _ ⟨(show ((0 : Int32) + plc1 t u 0 1) = ((0 : Int32) + plc1 t u 0 1) + plc1 t u 1 1 by first | (simp [plc1, c_8, c_10, c_11]; done) | (clear S hX G hl; grind [plc1])), rfl, rfl⟩ G (lv_sub hl [0, 2, 3, 4, 5] rfl)
        · refine lv_iload S.1 S.2.1 dX3_placeOf_39 (lv_at hl 0 rfl) ?_
          refine lv_iload_n S.1 S.2.1 dX3_placeOf_41 rfl (lv_at hl 4 rfl) ?_
          refine lv_icmp_ge (tgt := 49) S.1 S.2.1 dX3_placeOf_42 (by decide) (fun _ => ?_) (fun h => absurd (by decide) h)
          refine lv_iconst (v := (0 : Int32)) S.1 S.2.1 dX3_placeOf_49 (by decide) ?_
          refine lv_istore (lv' := [(5, .int (0 : Int32)), (4, .int (1 : Int32)), (3, .int ((0 : Int32) + plc1 t u 0 1)), (2, .int (u 1)), (0, .ref (E.2.2.2 i)), (1, .int (1 : Int32))]) S.1 S.2.1 dX3_placeOf_50 hl (by decide) rfl (fun ls hl => ?_)
          refine lv_aload_n S.1 S.2.1 dX3_placeOf_52 rfl (lv_at hl 4 rfl) ?_
          refine s_get S hX G (i := i) (kd := 3) (a := (I i)) (v := .ref (E.2.2.2 (i + 1))) (C := RX3) (T := TX3) (N := 4) 0 hi rfl rfl rfl (by decide) rfl (fun _ h => (List.mem_cons_of_mem _ (List.mem_append_right _ h))) (by decide) (List.mem_of_getElem? (i := 2) rfl) (fun _ h => h) dX3_placeOf_53 ?_
          refine lv_iload S.1 S.2.1 dX3_placeOf_56 (lv_at hl 1 rfl) ?_
          refine s_zald S hX G (i := (i + 1)) (a := t) (x := (t 1)) hi_1 e_t (by unfold vp_in; decide) (congrArg t (by decide)) dX3_placeOf_58 ?_
          refine lv_if_eq (tgt := 70) S.1 S.2.1 dX3_placeOf_59 (by decide) (fun c_12 => ?_) (fun c_12 => ?_)
          · refine lv_iinc (v := (2 : Int32)) (lv' := [(4, .int (2 : Int32)), (5, .int (0 : Int32)), (3, .int ((0 : Int32) + plc1 t u 0 1)), (2, .int (u 1)), (0, .ref (E.2.2.2 i)), (1, .int (1 : Int32))]) S.1 S.2.1 dX3_placeOf_70 hl (k := 1) rfl (by decide) (by decide) rfl (fun ls hl => ?_)
            refine lv_goto (tgt := 11) S.1 S.2.1 dX3_placeOf_73 (by decide) ?_
            exact kJ_7 ((0 : Int32) + plc1 t u 0 1) _ _ _ _ _ ⟨(show ((0 : Int32) + plc1 t u 0 1) = ((0 : Int32) + plc1 t u 0 1) + plc1 t u 1 1 by first | (simp [plc1, c_8, c_10, c_12]; done) | (clear S hX G hl; grind [plc1])), rfl, rfl⟩ G (lv_sub hl [0, 2, 3, 4, 5] rfl)
          · refine lv_iload S.1 S.2.1 dX3_placeOf_62 (lv_at hl 0 rfl) ?_
            refine lv_if_eq (tgt := 70) S.1 S.2.1 dX3_placeOf_64 (by decide) (fun _ => ?_) (fun h => absurd (by decide) h)
            refine lv_iinc (v := (2 : Int32)) (lv' := [(4, .int (2 : Int32)), (5, .int (0 : Int32)), (3, .int ((0 : Int32) + plc1 t u 0 1)), (2, .int (u 1)), (0, .ref (E.2.2.2 i)), (1, .int (1 : Int32))]) S.1 S.2.1 dX3_placeOf_70 hl (k := 1) rfl (by decide) (by decide) rfl (fun ls hl => ?_)
            refine lv_goto (tgt := 11) S.1 S.2.1 dX3_placeOf_73 (by decide) ?_
            exact kJ_7 ((0 : Int32) + plc1 t u 0 1) _ _ _ _ _ ⟨(show ((0 : Int32) + plc1 t u 0 1) = ((0 : Int32) + plc1 t u 0 1) + plc1 t u 1 1 by first | (simp [plc1, c_8, c_10, c_12]; done) | (clear S hX G hl; grind [plc1])), rfl, rfl⟩ G (lv_sub hl [0, 2, 3, 4, 5] rfl)
    · obtain ⟨h0, hI, hL⟩ := hP
      have h0 : x = (((0 : Int32) + plc1 t u 0 1) + plc1 t u 1 1) := h0
      have hl : lv_has ls 6 [(4, .int (2 : Int32)), (3, .int x), (2, .int (u 1)), (0, .ref (E.2.2.2 i)), (1, .int (1 : Int32))] := hl
      subst h0
      have G : GS E I L sg H locs := G.same hI hL
      refine W.eq (g2 := F0 mg 11 ls []) rfl ?_
      refine s_cut (α := Int32) (nL := 6) (E := E) (fun x I' L' => x = ((((0 : Int32) + plc1 t u 0 1) + plc1 t u 1 1) + plc1 t u 2 1) ∧ I' = I ∧ L' = L) (fun x => [(4, .int (3 : Int32)), (3, .int x), (2, .int (u 1)), (0, .ref (E.2.2.2 i)), (1, .int (1 : Int32))]) 11 (fun x => []) (fun kJ_13 => ?_) (fun x I1 L1 H locs ls hP G hl => ?_)
      · refine lv_iload S.1 S.2.1 dX3_placeOf_11 (lv_at hl 0 rfl) ?_
        refine lv_iconst (v := (3 : Int32)) S.1 S.2.1 dX3_placeOf_13 (by decide) ?_
        refine lv_icmp_ge (tgt := 76) S.1 S.2.1 dX3_placeOf_14 (by decide) (fun h => absurd h (by decide)) (fun _ => ?_)
        refine lv_aload_n S.1 S.2.1 dX3_placeOf_17 rfl (lv_at hl 3 rfl) ?_
        refine s_get S hX G (i := i) (kd := 3) (a := (I i)) (v := .ref (E.2.2.2 (i + 2))) (C := RX3) (T := TX3) (N := 4) 1 hi rfl rfl rfl (by decide) rfl (fun _ h => (List.mem_cons_of_mem _ (List.mem_append_right _ h))) (by decide) (List.mem_of_getElem? (i := 1) rfl) (fun _ h => h) dX3_placeOf_18 ?_
        refine lv_iload S.1 S.2.1 dX3_placeOf_21 (lv_at hl 0 rfl) ?_
        refine s_iald S hX G (i := (i + 2)) (kd := 17) (n := 3) (a := u) (x := (u 2)) hi_2 e_u rfl (by decide) (by unfold vp_in; decide) (congrArg u (by decide)) dX3_placeOf_23 ?_
        refine lv_iload_n S.1 S.2.1 dX3_placeOf_24 rfl (lv_at hl 2 rfl) ?_
        refine lv_icmp_lt (tgt := 45) S.1 S.2.1 dX3_placeOf_25 (by decide) (fun c_14 => ?_) (fun c_14 => ?_)
        · refine lv_iconst (v := (1 : Int32)) S.1 S.2.1 dX3_placeOf_45 (by decide) ?_
          refine lv_goto (tgt := 50) S.1 S.2.1 dX3_placeOf_46 (by decide) ?_
          refine lv_istore (lv' := [(5, .int (1 : Int32)), (4, .int (2 : Int32)), (3, .int (((0 : Int32) + plc1 t u 0 1) + plc1 t u 1 1)), (2, .int (u 1)), (0, .ref (E.2.2.2 i)), (1, .int (1 : Int32))]) S.1 S.2.1 dX3_placeOf_50 hl (by decide) rfl (fun ls hl => ?_)
          refine lv_aload_n S.1 S.2.1 dX3_placeOf_52 rfl (lv_at hl 4 rfl) ?_
          refine s_get S hX G (i := i) (kd := 3) (a := (I i)) (v := .ref (E.2.2.2 (i + 1))) (C := RX3) (T := TX3) (N := 4) 0 hi rfl rfl rfl (by decide) rfl (fun _ h => (List.mem_cons_of_mem _ (List.mem_append_right _ h))) (by decide) (List.mem_of_getElem? (i := 2) rfl) (fun _ h => h) dX3_placeOf_53 ?_
          refine lv_iload S.1 S.2.1 dX3_placeOf_56 (lv_at hl 1 rfl) ?_
          refine s_zald S hX G (i := (i + 1)) (a := t) (x := (t 2)) hi_1 e_t (by unfold vp_in; decide) (congrArg t (by decide)) dX3_placeOf_58 ?_
          refine lv_if_eq (tgt := 70) S.1 S.2.1 dX3_placeOf_59 (by decide) (fun c_15 => ?_) (fun c_15 => ?_)
          · refine lv_iinc (v := (3 : Int32)) (lv' := [(4, .int (3 : Int32)), (5, .int (1 : Int32)), (3, .int (((0 : Int32) + plc1 t u 0 1) + plc1 t u 1 1)), (2, .int (u 1)), (0, .ref (E.2.2.2 i)), (1, .int (1 : Int32))]) S.1 S.2.1 dX3_placeOf_70 hl (k := 1) rfl (by decide) (by decide) rfl (fun ls hl => ?_)
            refine lv_goto (tgt := 11) S.1 S.2.1 dX3_placeOf_73 (by decide) ?_
            exact kJ_13 (((0 : Int32) + plc1 t u 0 1) + plc1 t u 1 1) _ _ _ _ _ ⟨(show (((0 : Int32) + plc1 t u 0 1) + plc1 t u 1 1) = (((0 : Int32) + plc1 t u 0 1) + plc1 t u 1 1) + plc1 t u 2 1 by first | (simp [plc1, c_14, c_15]; done) | (clear S hX G hl; grind [plc1])), rfl, rfl⟩ G (lv_sub hl [0, 2, 3, 4, 5] rfl)
          · refine lv_iload S.1 S.2.1 dX3_placeOf_62 (lv_at hl 0 rfl) ?_
            refine lv_if_eq (tgt := 70) S.1 S.2.1 dX3_placeOf_64 (by decide) (fun h => absurd h (by decide)) (fun _ => ?_)
            refine lv_iinc (v := ((((0 : Int32) + plc1 t u 0 1) + plc1 t u 1 1) + 1)) (lv' := [(3, .int ((((0 : Int32) + plc1 t u 0 1) + plc1 t u 1 1) + 1)), (5, .int (1 : Int32)), (4, .int (2 : Int32)), (2, .int (u 1)), (0, .ref (E.2.2.2 i)), (1, .int (1 : Int32))]) S.1 S.2.1 dX3_placeOf_67 hl (k := 2) rfl rfl (by decide) rfl (fun ls hl => ?_)
            refine lv_iinc (v := (3 : Int32)) (lv' := [(4, .int (3 : Int32)), (3, .int ((((0 : Int32) + plc1 t u 0 1) + plc1 t u 1 1) + 1)), (5, .int (1 : Int32)), (2, .int (u 1)), (0, .ref (E.2.2.2 i)), (1, .int (1 : Int32))]) S.1 S.2.1 dX3_placeOf_70 hl (k := 2) rfl (by decide) (by decide) rfl (fun ls hl => ?_)
            refine lv_goto (tgt := 11) S.1 S.2.1 dX3_placeOf_73 (by decide) ?_
            exact kJ_13 ((((0 : Int32) + plc1 t u 0 1) + plc1 t u 1 1) + 1) _ _ _ _ _ ⟨(show ((((0 : Int32) + plc1 t u 0 1) + plc1 t u 1 1) + 1) = (((0 : Int32) + plc1 t u 0 1) + plc1 t u 1 1) + plc1 t u 2 1 by first | (simp [plc1, c_14, c_15]; done) | (clear S hX G hl; grind [plc1])), rfl, rfl⟩ G (lv_sub hl [0, 1, 3, 4, 5] rfl)
        · refine lv_aload_n S.1 S.2.1 dX3_placeOf_28 rfl (lv_at hl 3 rfl) ?_
          refine s_get S hX G (i := i) (kd := 3) (a := (I i)) (v := .ref (E.2.2.2 (i + 2))) (C := RX3) (T := TX3) (N := 4) 1 hi rfl rfl rfl (by decide) rfl (fun _ h => (List.mem_cons_of_mem _ (List.mem_append_right _ h))) (by decide) (List.mem_of_getElem? (i := 1) rfl) (fun _ h => h) dX3_placeOf_29 ?_
          refine lv_iload S.1 S.2.1 dX3_placeOf_32 (lv_at hl 0 rfl) ?_
          refine s_iald S hX G (i := (i + 2)) (kd := 17) (n := 3) (a := u) (x := (u 2)) hi_2 e_u rfl (by decide) (by unfold vp_in; decide) (congrArg u (by decide)) dX3_placeOf_34 ?_
          refine lv_iload_n S.1 S.2.1 dX3_placeOf_35 rfl (lv_at hl 2 rfl) ?_
          refine lv_icmp_ne (tgt := 49) S.1 S.2.1 dX3_placeOf_36 (by decide) (fun c_16 => ?_) (fun c_16 => ?_)
          · refine lv_iconst (v := (0 : Int32)) S.1 S.2.1 dX3_placeOf_49 (by decide) ?_
            refine lv_istore (lv' := [(5, .int (0 : Int32)), (4, .int (2 : Int32)), (3, .int (((0 : Int32) + plc1 t u 0 1) + plc1 t u 1 1)), (2, .int (u 1)), (0, .ref (E.2.2.2 i)), (1, .int (1 : Int32))]) S.1 S.2.1 dX3_placeOf_50 hl (by decide) rfl (fun ls hl => ?_)
            refine lv_aload_n S.1 S.2.1 dX3_placeOf_52 rfl (lv_at hl 4 rfl) ?_
            refine s_get S hX G (i := i) (kd := 3) (a := (I i)) (v := .ref (E.2.2.2 (i + 1))) (C := RX3) (T := TX3) (N := 4) 0 hi rfl rfl rfl (by decide) rfl (fun _ h => (List.mem_cons_of_mem _ (List.mem_append_right _ h))) (by decide) (List.mem_of_getElem? (i := 2) rfl) (fun _ h => h) dX3_placeOf_53 ?_
            refine lv_iload S.1 S.2.1 dX3_placeOf_56 (lv_at hl 1 rfl) ?_
            refine s_zald S hX G (i := (i + 1)) (a := t) (x := (t 2)) hi_1 e_t (by unfold vp_in; decide) (congrArg t (by decide)) dX3_placeOf_58 ?_
            refine lv_if_eq (tgt := 70) S.1 S.2.1 dX3_placeOf_59 (by decide) (fun c_17 => ?_) (fun c_17 => ?_)
            · refine lv_iinc (v := (3 : Int32)) (lv' := [(4, .int (3 : Int32)), (5, .int (0 : Int32)), (3, .int (((0 : Int32) + plc1 t u 0 1) + plc1 t u 1 1)), (2, .int (u 1)), (0, .ref (E.2.2.2 i)), (1, .int (1 : Int32))]) S.1 S.2.1 dX3_placeOf_70 hl (k := 1) rfl (by decide) (by decide) rfl (fun ls hl => ?_)
              refine lv_goto (tgt := 11) S.1 S.2.1 dX3_placeOf_73 (by decide) ?_
              exact kJ_13 (((0 : Int32) + plc1 t u 0 1) + plc1 t u 1 1) _ _ _ _ _ ⟨(show (((0 : Int32) + plc1 t u 0 1) + plc1 t u 1 1) = (((0 : Int32) + plc1 t u 0 1) + plc1 t u 1 1) + plc1 t u 2 1 by first | (simp [plc1, c_14, c_16, c_17]; done) | (clear S hX G hl; grind [plc1])), rfl, rfl⟩ G (lv_sub hl [0, 2, 3, 4, 5] rfl)
            · refine lv_iload S.1 S.2.1 dX3_placeOf_62 (lv_at hl 0 rfl) ?_
              refine lv_if_eq (tgt := 70) S.1 S.2.1 dX3_placeOf_64 (by decide) (fun _ => ?_) (fun h => absurd (by decide) h)
              refine lv_iinc (v := (3 : Int32)) (lv' := [(4, .int (3 : Int32)), (5, .int (0 : Int32)), (3, .int (((0 : Int32) + plc1 t u 0 1) + plc1 t u 1 1)), (2, .int (u 1)), (0, .ref (E.2.2.2 i)), (1, .int (1 : Int32))]) S.1 S.2.1 dX3_placeOf_70 hl (k := 1) rfl (by decide) (by decide) rfl (fun ls hl => ?_)
              refine lv_goto (tgt := 11) S.1 S.2.1 dX3_placeOf_73 (by decide) ?_
              exact kJ_13 (((0 : Int32) + plc1 t u 0 1) + plc1 t u 1 1) _ _ _ _ _ ⟨(show (((0 : Int32) + plc1 t u 0 1) + plc1 t u 1 1) = (((0 : Int32) + plc1 t u 0 1) + plc1 t u 1 1) + plc1 t u 2 1 by first | (simp [plc1, c_14, c_16, c_17]; done) | (clear S hX G hl; grind [plc1])), rfl, rfl⟩ G (lv_sub hl [0, 2, 3, 4, 5] rfl)
          · refine lv_iload S.1 S.2.1 dX3_placeOf_39 (lv_at hl 0 rfl) ?_
            refine lv_iload_n S.1 S.2.1 dX3_placeOf_41 rfl (lv_at hl 4 rfl) ?_
            refine lv_icmp_ge (tgt := 49) S.1 S.2.1 dX3_placeOf_42 (by decide) (fun _ => ?_) (fun h => absurd (by decide) h)
            refine lv_iconst (v := (0 : Int32)) S.1 S.2.1 dX3_placeOf_49 (by decide) ?_
            refine lv_istore (lv' := [(5, .int (0 : Int32)), (4, .int (2 : Int32)), (3, .int (((0 : Int32) + plc1 t u 0 1) + plc1 t u 1 1)), (2, .int (u 1)), (0, .ref (E.2.2.2 i)), (1, .int (1 : Int32))]) S.1 S.2.1 dX3_placeOf_50 hl (by decide) rfl (fun ls hl => ?_)
            refine lv_aload_n S.1 S.2.1 dX3_placeOf_52 rfl (lv_at hl 4 rfl) ?_
            refine s_get S hX G (i := i) (kd := 3) (a := (I i)) (v := .ref (E.2.2.2 (i + 1))) (C := RX3) (T := TX3) (N := 4) 0 hi rfl rfl rfl (by decide) rfl (fun _ h => (List.mem_cons_of_mem _ (List.mem_append_right _ h))) (by decide) (List.mem_of_getElem? (i := 2) rfl) (fun _ h => h) dX3_placeOf_53 ?_
            refine lv_iload S.1 S.2.1 dX3_placeOf_56 (lv_at hl 1 rfl) ?_
            refine s_zald S hX G (i := (i + 1)) (a := t) (x := (t 2)) hi_1 e_t (by unfold vp_in; decide) (congrArg t (by decide)) dX3_placeOf_58 ?_
            refine lv_if_eq (tgt := 70) S.1 S.2.1 dX3_placeOf_59 (by decide) (fun c_18 => ?_) (fun c_18 => ?_)
            · refine lv_iinc (v := (3 : Int32)) (lv' := [(4, .int (3 : Int32)), (5, .int (0 : Int32)), (3, .int (((0 : Int32) + plc1 t u 0 1) + plc1 t u 1 1)), (2, .int (u 1)), (0, .ref (E.2.2.2 i)), (1, .int (1 : Int32))]) S.1 S.2.1 dX3_placeOf_70 hl (k := 1) rfl (by decide) (by decide) rfl (fun ls hl => ?_)
              refine lv_goto (tgt := 11) S.1 S.2.1 dX3_placeOf_73 (by decide) ?_
              exact kJ_13 (((0 : Int32) + plc1 t u 0 1) + plc1 t u 1 1) _ _ _ _ _ ⟨(show (((0 : Int32) + plc1 t u 0 1) + plc1 t u 1 1) = (((0 : Int32) + plc1 t u 0 1) + plc1 t u 1 1) + plc1 t u 2 1 by first | (simp [plc1, c_14, c_16, c_18]; done) | (clear S hX G hl; grind [plc1])), rfl, rfl⟩ G (lv_sub hl [0, 2, 3, 4, 5] rfl)
            · refine lv_iload S.1 S.2.1 dX3_placeOf_62 (lv_at hl 0 rfl) ?_
              refine lv_if_eq (tgt := 70) S.1 S.2.1 dX3_placeOf_64 (by decide) (fun _ => ?_) (fun h => absurd (by decide) h)
              refine lv_iinc (v := (3 : Int32)) (lv' := [(4, .int (3 : Int32)), (5, .int (0 : Int32)), (3, .int (((0 : Int32) + plc1 t u 0 1) + plc1 t u 1 1)), (2, .int (u 1)), (0, .ref (E.2.2.2 i)), (1, .int (1 : Int32))]) S.1 S.2.1 dX3_placeOf_70 hl (k := 1) rfl (by decide) (by decide) rfl (fun ls hl => ?_)
              refine lv_goto (tgt := 11) S.1 S.2.1 dX3_placeOf_73 (by decide) ?_
              exact kJ_13 (((0 : Int32) + plc1 t u 0 1) + plc1 t u 1 1) _ _ _ _ _ ⟨(show (((0 : Int32) + plc1 t u 0 1) + plc1 t u 1 1) = (((0 : Int32) + plc1 t u 0 1) + plc1 t u 1 1) + plc1 t u 2 1 by first | (simp [plc1, c_14, c_16, c_18]; done) | (clear S hX G hl; grind [plc1])), rfl, rfl⟩ G (lv_sub hl [0, 2, 3, 4, 5] rfl)
      · obtain ⟨h0, hI, hL⟩ := hP
        have h0 : x = ((((0 : Int32) + plc1 t u 0 1) + plc1 t u 1 1) + plc1 t u 2 1) := h0
        have hl : lv_has ls 6 [(4, .int (3 : Int32)), (3, .int x), (2, .int (u 1)), (0, .ref (E.2.2.2 i)), (1, .int (1 : Int32))] := hl
        subst h0
        have G : GS E I L sg H locs := G.same hI hL
        refine W.eq (g2 := F0 mg 11 ls []) rfl ?_
        refine lv_iload S.1 S.2.1 dX3_placeOf_11 (lv_at hl 0 rfl) ?_
        refine lv_iconst (v := (3 : Int32)) S.1 S.2.1 dX3_placeOf_13 (by decide) ?_
        refine lv_icmp_ge (tgt := 76) S.1 S.2.1 dX3_placeOf_14 (by decide) (fun _ => ?_) (fun h => absurd (by decide) h)
        refine lv_iload_n S.1 S.2.1 dX3_placeOf_76 rfl (lv_at hl 1 rfl) ?_
        refine s_iret (x := ((((0 : Int32) + plc1 t u 0 1) + plc1 t u 1 1) + plc1 t u 2 1)) S G hr hlk dX3_placeOf_77 ?_
        exact ⟨(congrArg (fun q : Int32 => some (Value.int q)) (show ((((0 : Int32) + plc1 t u 0 1) + plc1 t u 1 1) + plc1 t u 2 1) = (plcF t u 1) by simp [plcF])), rfl, rfl⟩
set_option maxHeartbeats 4000000 in
set_option maxRecDepth 100000 in
theorem k_X3_latch_1 (l : Launch) (E : Ev) {I : SI} {L : SL} (i : Nat) (slot : Int32) (current : Int32) (n : Nat → Int32) (t : Nat → Int32) (u : Nat → Int32) (w : Nat → Int32) (hi : sh (i) = 3) (hi_1 : sh (i+1) = 10) (hi_2 : sh (i+2) = 17) (hi_3 : sh (i+3) = 17) (e_n : I (i) = n) (e_t : I (i+1) = t) (e_u : I (i+2) = u) (e_w : I (i+3) = w) : CS l yX3_latch wsX3_latch ({ frames := 2, cells := 0, slots := 0, locals := 42 }) E [.ref (E.2.2.2 i), .int (1 : Int32), .int slot, .int current] I L (fun vv I' L' => vv = none ∧ I' = (up (up (up (up I (i) (if t 1 = 0 then upd n 3 (n 3 + 1) else n)) (i+1) (if t 1 = 0 then upd t 1 1 else t)) (i+2) (if t 1 = 0 then upd u 1 slot else u)) (i+3) (if t 1 = 0 then upd w 1 current else w)) ∧ L' = L) := by
  refine CS.of (cc := cX3_latch) (maxL := 4) (ret := none) (by decide) rfl (Nat.le_of_ble_eq_true rfl) ?_
  intro pg en sg mg below meth cg ls S hr hlk hX G hl
  have S : CallFix pg mg cg cX3_latch 4 sg _ wsX3_latch RX3 := S
  have hl : lv_has ls 4 [(0, .ref (E.2.2.2 i)), (1, .int (1 : Int32)), (2, .int slot), (3, .int current)] := hl
  refine lv_iload_n S.1 S.2.1 dX3_latch_0 rfl (lv_at hl 1 rfl) ?_
  refine s_callSN (As := [.int (1 : Int32)]) (rest := []) S hX G (k_X8_isFault l E (1 : Int32)) (va_cnB (bytes := cX8_isFault) (maxL := 1) (ret := (some .boolean)) 1 S.2.2.2.2 gX3_latch_X8_isFault_n26 rfl rfl rfl (hX.2.2.1.2 _ (List.mem_of_getElem? (i := 2) rfl)) (S.2.2.2.2 _ (List.mem_of_getElem? (i := 6) rfl)) (by decide +kernel) ⟨Nat.le_of_ble_eq_true rfl, Nat.le_of_ble_eq_true rfl⟩) (List.mem_of_getElem? (i := 5) rfl) rfl hl.1 rfl (Nat.le_of_ble_eq_true rfl) ⟨Nat.zero_le _, Nat.zero_le _⟩ dX3_latch_1 (fun v I1 L1 H locs hR G => ?_)
  obtain ⟨hv, hI, hL⟩ := hR
  subst hv
  have G : GS E I L sg H locs := G.same hI hL
  refine W.eq (g2 := F0 mg 4 ls [.int (if ¬ (1 : Int32) < (0 : Int32) ∧ ¬ (2 : Int32) < (1 : Int32) then 1 else 0)]) rfl ?_
  refine s_if_eq_b (P := ¬ (1 : Int32) < (0 : Int32) ∧ ¬ (2 : Int32) < (1 : Int32)) (tgt := 47) S dX3_latch_4 (by decide) (fun h => absurd (by decide) h) (fun _ => ?_)
  refine lv_aload_n S.1 S.2.1 dX3_latch_7 rfl (lv_at hl 0 rfl) ?_
  refine s_get S hX G (i := i) (kd := 3) (a := n) (v := .ref (E.2.2.2 (i + 1))) (C := RX3) (T := TX3) (N := 4) 0 hi e_n rfl rfl (by decide) rfl (fun _ h => (List.mem_cons_of_mem _ (List.mem_append_right _ h))) (by decide) (List.mem_of_getElem? (i := 1) rfl) (fun _ h => h) dX3_latch_8 ?_
  refine lv_iload_n S.1 S.2.1 dX3_latch_11 rfl (lv_at hl 1 rfl) ?_
  refine s_zald S hX G (i := (i + 1)) (a := t) (x := (t 1)) hi_1 e_t (by unfold vp_in; decide) (congrArg t (by decide)) dX3_latch_12 ?_
  refine lv_if_ne (tgt := 47) S.1 S.2.1 dX3_latch_13 (by decide) (fun c_1 => ?_) (fun c_1 => ?_)
  · refine s_vret S G hr hlk dX3_latch_47 ?_
    exact ⟨rfl, (st_eq4 (Eq.trans e_n (show n = (if t 1 = 0 then upd n 3 (n 3 + 1) else n) by first | (simp [c_1]; done) | (clear S hX G hl; grind []))) (Eq.trans e_t (show t = (if t 1 = 0 then upd t 1 1 else t) by first | (simp [c_1]; done) | (clear S hX G hl; grind []))) (Eq.trans e_u (show u = (if t 1 = 0 then upd u 1 slot else u) by first | (simp [c_1]; done) | (clear S hX G hl; grind []))) (Eq.trans e_w (show w = (if t 1 = 0 then upd w 1 current else w) by first | (simp [c_1]; done) | (clear S hX G hl; grind []))) (fun _ g0 g1 g2 g3 => rfl)), rfl⟩
  · refine lv_aload_n S.1 S.2.1 dX3_latch_16 rfl (lv_at hl 0 rfl) ?_
    refine s_get S hX G (i := i) (kd := 3) (a := n) (v := .ref (E.2.2.2 (i + 1))) (C := RX3) (T := TX3) (N := 4) 0 hi e_n rfl rfl (by decide) rfl (fun _ h => (List.mem_cons_of_mem _ (List.mem_append_right _ h))) (by decide) (List.mem_of_getElem? (i := 1) rfl) (fun _ h => h) dX3_latch_17 ?_
    refine lv_iload_n S.1 S.2.1 dX3_latch_20 rfl (lv_at hl 1 rfl) ?_
    refine lv_iconst (v := (1 : Int32)) S.1 S.2.1 dX3_latch_21 (by decide) ?_
    refine s_zast S hX G (i := (i + 1)) (jn := 1) (a := t) (I' := (up I (i + 1) (upd t 1 (1 : Int32)))) hi_1 e_t (by unfold vp_in; decide) (by decide) (Or.inr rfl) rfl dX3_latch_22 (fun H locs G => ?_)
    refine lv_aload_n S.1 S.2.1 dX3_latch_23 rfl (lv_at hl 0 rfl) ?_
    refine s_get S hX G (i := i) (kd := 3) (a := n) (v := .ref (E.2.2.2 (i + 2))) (C := RX3) (T := TX3) (N := 4) 1 hi ((up_ne (by omega)).trans e_n) rfl rfl (by decide) rfl (fun _ h => (List.mem_cons_of_mem _ (List.mem_append_right _ h))) (by decide) (List.mem_of_getElem? (i := 2) rfl) (fun _ h => h) dX3_latch_24 ?_
    refine lv_iload_n S.1 S.2.1 dX3_latch_27 rfl (lv_at hl 1 rfl) ?_
    refine lv_iload_n S.1 S.2.1 dX3_latch_28 rfl (lv_at hl 2 rfl) ?_
    refine s_iast S hX G (i := (i + 2)) (kd := 17) (n := 3) (jn := 1) (a := u) (I' := (up (up I (i + 1) (upd t 1 (1 : Int32))) (i + 2) (upd u 1 slot))) hi_2 ((up_ne (by omega)).trans e_u) (fun _ => rfl) (by decide) (by unfold vp_in; decide) (by decide) rfl dX3_latch_29 (fun H locs G => ?_)
    refine lv_aload_n S.1 S.2.1 dX3_latch_30 rfl (lv_at hl 0 rfl) ?_
    refine s_get S hX G (i := i) (kd := 3) (a := n) (v := .ref (E.2.2.2 (i + 3))) (C := RX3) (T := TX3) (N := 4) 2 hi ((up_ne (by omega)).trans ((up_ne (by omega)).trans e_n)) rfl rfl (by decide) rfl (fun _ h => (List.mem_cons_of_mem _ (List.mem_append_right _ h))) (by decide) (List.mem_of_getElem? (i := 3) rfl) (fun _ h => h) dX3_latch_31 ?_
    refine lv_iload_n S.1 S.2.1 dX3_latch_34 rfl (lv_at hl 1 rfl) ?_
    refine lv_iload_n S.1 S.2.1 dX3_latch_35 rfl (lv_at hl 3 rfl) ?_
    refine s_iast S hX G (i := (i + 3)) (kd := 17) (n := 3) (jn := 1) (a := w) (I' := (up (up (up I (i + 1) (upd t 1 (1 : Int32))) (i + 2) (upd u 1 slot)) (i + 3) (upd w 1 current))) hi_3 ((up_ne (by omega)).trans ((up_ne (by omega)).trans e_w)) (fun _ => rfl) (by decide) (by unfold vp_in; decide) (by decide) rfl dX3_latch_36 (fun H locs G => ?_)
    refine lv_aload_n S.1 S.2.1 dX3_latch_37 rfl (lv_at hl 0 rfl) ?_
    refine lv_dup S.1 S.2.1 dX3_latch_38 rfl ?_
    refine s_get S hX G (i := i) (kd := 3) (a := n) (v := .int (n 3)) (C := RX3) (T := TX3) (N := 4) 3 hi ((up_ne (by omega)).trans ((up_ne (by omega)).trans ((up_ne (by omega)).trans e_n))) rfl rfl (by decide) rfl (fun _ h => (List.mem_cons_of_mem _ (List.mem_append_right _ h))) (by decide) (List.mem_of_getElem? (i := 4) rfl) (fun _ h => h) dX3_latch_39 ?_
    refine lv_iconst (v := (1 : Int32)) S.1 S.2.1 dX3_latch_42 (by decide) ?_
    refine s_iadd (v := ((n 3) + (1 : Int32))) S dX3_latch_43 rfl ?_
    refine lv_topi (fun y_2 ey_2 => ?_)
    refine s_put S hX G (i := i) (kd := 3) (a := n) (a' := (upd n 3 y_2)) (I' := (up (up (up (up I (i + 1) (upd t 1 (1 : Int32))) (i + 2) (upd u 1 slot)) (i + 3) (upd w 1 current)) i (upd n 3 y_2))) (v := .int y_2) (ty := .int) (ty0 := tyX3) (C := RX3) (T := TX3) (N := 4) 3 hi ((up_ne (by omega)).trans ((up_ne (by omega)).trans ((up_ne (by omega)).trans e_n))) rfl rfl rfl (by decide) rfl (fun _ h => (List.mem_cons_of_mem _ (List.mem_append_right _ h))) tyX3_ok nmX3 (by decide) (List.mem_of_getElem? (i := 4) rfl) (fun _ h => h) rfl (by decide +kernel) rfl rfl (Nat.le_of_ble_eq_true rfl) dX3_latch_44 (fun H locs G => ?_)
    refine s_vret S G hr hlk dX3_latch_47 ?_
    exact ⟨rfl, (st_eq4 (Eq.trans up_eq (show (upd n 3 y_2) = (if t 1 = 0 then upd n 3 (n 3 + 1) else n) by subst ey_2; (first | (simp [c_1]; done) | (clear S hX G hl; grind [])))) (Eq.trans ((up_ne (by omega)).trans ((up_ne (by omega)).trans ((up_ne (by omega)).trans up_eq))) (show (upd t 1 (1 : Int32)) = (if t 1 = 0 then upd t 1 1 else t) by subst ey_2; (first | (simp [c_1]; done) | (clear S hX G hl; grind [])))) (Eq.trans ((up_ne (by omega)).trans ((up_ne (by omega)).trans up_eq)) (show (upd u 1 slot) = (if t 1 = 0 then upd u 1 slot else u) by subst ey_2; (first | (simp [c_1]; done) | (clear S hX G hl; grind [])))) (Eq.trans ((up_ne (by omega)).trans up_eq) (show (upd w 1 current) = (if t 1 = 0 then upd w 1 current else w) by subst ey_2; (first | (simp [c_1]; done) | (clear S hX G hl; grind [])))) (fun _ g0 g1 g2 g3 => ((up_ne g0).trans ((up_ne g3).trans ((up_ne g2).trans (up_ne g1)))))), rfl⟩
set_option maxHeartbeats 4000000 in
set_option maxRecDepth 100000 in
theorem k_X3_release_1 (l : Launch) (E : Ev) {I : SI} {L : SL} (i : Nat) (n : Nat → Int32) (t : Nat → Int32) (hi : sh (i) = 3) (hi_1 : sh (i+1) = 10) (hi_2 : sh (i+2) = 17) (hi_3 : sh (i+3) = 17) (e_n : I (i) = n) (e_t : I (i+1) = t) : CS l yX3_release wsX3_release ({ frames := 3, cells := 0, slots := 0, locals := 63 }) E [.ref (E.2.2.2 i), .int (1 : Int32)] I L (fun vv I' L' => vv = none ∧ I' = (up (up I (i) (if ¬ t 1 = 0 then upd n 3 (n 3 - 1) else n)) (i+1) (if ¬ t 1 = 0 then upd t 1 0 else t)) ∧ L' = L) := by
  refine CS.of (cc := cX3_release) (maxL := 2) (ret := none) (by decide) rfl (Nat.le_of_ble_eq_true rfl) ?_
  intro pg en sg mg below meth cg ls S hr hlk hX G hl
  have S : CallFix pg mg cg cX3_release 2 sg _ wsX3_release RX3 := S
  have hl : lv_has ls 2 [(0, .ref (E.2.2.2 i)), (1, .int (1 : Int32))] := hl
  refine lv_aload_n S.1 S.2.1 dX3_release_0 rfl (lv_at hl 0 rfl) ?_
  refine lv_iload_n S.1 S.2.1 dX3_release_1 rfl (lv_at hl 1 rfl) ?_
  refine s_callV (C := RX3) (As := [.int (1 : Int32)]) (rest := []) (i := i) (kd := 3) S hX G (k_X3_isLatched_1 l E i t hi hi_1 hi_2 hi_3 e_t) (cwV (bytes := cX3_isLatched) (maxL := 2) (ret := (some .boolean)) 1 S.2.2.2.2 gX3_release_X3_isLatched rfl rfl rfl (by decide +kernel) ⟨Nat.le_of_ble_eq_true rfl, Nat.le_of_ble_eq_true rfl⟩) hi rfl rfl rfl (by decide) rfl hl.1 rfl (Nat.le_of_ble_eq_true rfl) ⟨Nat.zero_le _, Nat.zero_le _⟩ dX3_release_2 (fun v I1 L1 H locs hR G => ?_)
  obtain ⟨hv, hI, hL⟩ := hR
  subst hv
  have G : GS E I L sg H locs := G.same hI hL
  refine W.eq (g2 := F0 mg 5 ls [.int (if ¬ t 1 = 0 then 1 else 0)]) rfl ?_
  refine s_if_eq_b (P := ¬ t 1 = 0) (tgt := 25) S dX3_release_5 (by decide) (fun c_1 => ?_) (fun c_1 => ?_)
  · refine s_vret S G hr hlk dX3_release_25 ?_
    exact ⟨rfl, (st_eq2 (Eq.trans e_n (show n = (if ¬ t 1 = 0 then upd n 3 (n 3 - 1) else n) by first | (simp [c_1]; done) | (clear S hX G hl; grind []))) (Eq.trans e_t (show t = (if ¬ t 1 = 0 then upd t 1 0 else t) by first | (simp [c_1]; done) | (clear S hX G hl; grind []))) (fun _ g0 g1 => rfl)), rfl⟩
  · refine lv_aload_n S.1 S.2.1 dX3_release_8 rfl (lv_at hl 0 rfl) ?_
    refine s_get S hX G (i := i) (kd := 3) (a := n) (v := .ref (E.2.2.2 (i + 1))) (C := RX3) (T := TX3) (N := 4) 0 hi e_n rfl rfl (by decide) rfl (fun _ h => (List.mem_cons_of_mem _ (List.mem_append_right _ h))) (by decide) (List.mem_of_getElem? (i := 1) rfl) (fun _ h => h) dX3_release_9 ?_
    refine lv_iload_n S.1 S.2.1 dX3_release_12 rfl (lv_at hl 1 rfl) ?_
    refine lv_iconst (v := (0 : Int32)) S.1 S.2.1 dX3_release_13 (by decide) ?_
    refine s_zast S hX G (i := (i + 1)) (jn := 1) (a := t) (I' := (up I (i + 1) (upd t 1 (0 : Int32)))) hi_1 e_t (by unfold vp_in; decide) (by decide) (Or.inl rfl) rfl dX3_release_14 (fun H locs G => ?_)
    refine lv_aload_n S.1 S.2.1 dX3_release_15 rfl (lv_at hl 0 rfl) ?_
    refine lv_dup S.1 S.2.1 dX3_release_16 rfl ?_
    refine s_get S hX G (i := i) (kd := 3) (a := n) (v := .int (n 3)) (C := RX3) (T := TX3) (N := 4) 3 hi ((up_ne (by omega)).trans e_n) rfl rfl (by decide) rfl (fun _ h => (List.mem_cons_of_mem _ (List.mem_append_right _ h))) (by decide) (List.mem_of_getElem? (i := 2) rfl) (fun _ h => h) dX3_release_17 ?_
    refine lv_iconst (v := (1 : Int32)) S.1 S.2.1 dX3_release_20 (by decide) ?_
    refine s_isub (v := ((n 3) - (1 : Int32))) S dX3_release_21 rfl ?_
    refine lv_topi (fun y_2 ey_2 => ?_)
    refine s_put S hX G (i := i) (kd := 3) (a := n) (a' := (upd n 3 y_2)) (I' := (up (up I (i + 1) (upd t 1 (0 : Int32))) i (upd n 3 y_2))) (v := .int y_2) (ty := .int) (ty0 := tyX3) (C := RX3) (T := TX3) (N := 4) 3 hi ((up_ne (by omega)).trans e_n) rfl rfl rfl (by decide) rfl (fun _ h => (List.mem_cons_of_mem _ (List.mem_append_right _ h))) tyX3_ok nmX3 (by decide) (List.mem_of_getElem? (i := 2) rfl) (fun _ h => h) rfl (by decide +kernel) rfl rfl (Nat.le_of_ble_eq_true rfl) dX3_release_22 (fun H locs G => ?_)
    refine s_vret S G hr hlk dX3_release_25 ?_
    exact ⟨rfl, (st_eq2 (Eq.trans up_eq (show (upd n 3 y_2) = (if ¬ t 1 = 0 then upd n 3 (n 3 - 1) else n) by subst ey_2; (first | (simp [c_1]; done) | (clear S hX G hl; grind [])))) (Eq.trans ((up_ne (by omega)).trans up_eq) (show (upd t 1 (0 : Int32)) = (if ¬ t 1 = 0 then upd t 1 0 else t) by subst ey_2; (first | (simp [c_1]; done) | (clear S hX G hl; grind [])))) (fun _ g0 g1 => ((up_ne g0).trans (up_ne g1)))), rfl⟩
set_option maxHeartbeats 4000000 in
set_option maxRecDepth 100000 in
theorem k_X3_isLatched_2 (l : Launch) (E : Ev) {I : SI} {L : SL} (i : Nat) (t : Nat → Int32) (hi : sh (i) = 3) (hi_1 : sh (i+1) = 10) (hi_2 : sh (i+2) = 17) (hi_3 : sh (i+3) = 17) (e_t : I (i+1) = t) : CS l yX3_isLatched wsX3_isLatched ({ frames := 2, cells := 0, slots := 0, locals := 42 }) E [.ref (E.2.2.2 i), .int (2 : Int32)] I L (fun vv I' L' => vv = some (.int (if ¬ t 2 = 0 then 1 else 0)) ∧ I' = I ∧ L' = L) := by
  refine CS.of (cc := cX3_isLatched) (maxL := 2) (ret := (some .boolean)) (by decide) rfl (Nat.le_of_ble_eq_true rfl) ?_
  intro pg en sg mg below meth cg ls S hr hlk hX G hl
  have S : CallFix pg mg cg cX3_isLatched 2 sg _ wsX3_isLatched RX3 := S
  have hl : lv_has ls 2 [(0, .ref (E.2.2.2 i)), (1, .int (2 : Int32))] := hl
  refine lv_iload_n S.1 S.2.1 dX3_isLatched_0 rfl (lv_at hl 1 rfl) ?_
  refine s_callSN (As := [.int (2 : Int32)]) (rest := []) S hX G (k_X8_isFault l E (2 : Int32)) (va_cnB (bytes := cX8_isFault) (maxL := 1) (ret := (some .boolean)) 1 S.2.2.2.2 gX3_isLatched_X8_isFault_n26 rfl rfl rfl (hX.2.2.1.2 _ (List.mem_of_getElem? (i := 2) rfl)) (S.2.2.2.2 _ (List.mem_of_getElem? (i := 3) rfl)) (by decide +kernel) ⟨Nat.le_of_ble_eq_true rfl, Nat.le_of_ble_eq_true rfl⟩) (List.mem_of_getElem? (i := 2) rfl) rfl hl.1 rfl (Nat.le_of_ble_eq_true rfl) ⟨Nat.zero_le _, Nat.zero_le _⟩ dX3_isLatched_1 (fun v I1 L1 H locs hR G => ?_)
  obtain ⟨hv, hI, hL⟩ := hR
  subst hv
  have G : GS E I L sg H locs := G.same hI hL
  refine W.eq (g2 := F0 mg 4 ls [.int (if ¬ (2 : Int32) < (0 : Int32) ∧ ¬ (2 : Int32) < (2 : Int32) then 1 else 0)]) rfl ?_
  refine s_if_eq_b (P := ¬ (2 : Int32) < (0 : Int32) ∧ ¬ (2 : Int32) < (2 : Int32)) (tgt := 20) S dX3_isLatched_4 (by decide) (fun h => absurd (by decide) h) (fun _ => ?_)
  refine lv_aload_n S.1 S.2.1 dX3_isLatched_7 rfl (lv_at hl 0 rfl) ?_
  refine s_get S hX G (i := i) (kd := 3) (a := (I i)) (v := .ref (E.2.2.2 (i + 1))) (C := RX3) (T := TX3) (N := 4) 0 hi rfl rfl rfl (by decide) rfl (fun _ h => (List.mem_cons_of_mem _ (List.mem_append_right _ h))) (by decide) (List.mem_of_getElem? (i := 1) rfl) (fun _ h => h) dX3_isLatched_8 ?_
  refine lv_iload_n S.1 S.2.1 dX3_isLatched_11 rfl (lv_at hl 1 rfl) ?_
  refine s_zald S hX G (i := (i + 1)) (a := t) (x := (t 2)) hi_1 e_t (by unfold vp_in; decide) (congrArg t (by decide)) dX3_isLatched_12 ?_
  refine lv_if_eq (tgt := 20) S.1 S.2.1 dX3_isLatched_13 (by decide) (fun c_1 => ?_) (fun c_1 => ?_)
  · refine lv_iconst (v := (0 : Int32)) S.1 S.2.1 dX3_isLatched_20 (by decide) ?_
    refine s_zret (x := (0 : Int32)) S G hr hlk dX3_isLatched_21 (Or.inl rfl) ?_
    exact ⟨(congrArg (fun q : Int32 => some (Value.int q)) (show (0 : Int32) = (if ¬ t 2 = 0 then 1 else 0) by first | (simp [c_1]; done) | (clear S hX G hl; grind []))), rfl, rfl⟩
  · refine lv_iconst (v := (1 : Int32)) S.1 S.2.1 dX3_isLatched_16 (by decide) ?_
    refine lv_goto (tgt := 21) S.1 S.2.1 dX3_isLatched_17 (by decide) ?_
    refine s_zret (x := (1 : Int32)) S G hr hlk dX3_isLatched_21 (Or.inr rfl) ?_
    exact ⟨(congrArg (fun q : Int32 => some (Value.int q)) (show (1 : Int32) = (if ¬ t 2 = 0 then 1 else 0) by first | (simp [c_1]; done) | (clear S hX G hl; grind []))), rfl, rfl⟩
set_option maxHeartbeats 4000000 in
set_option maxRecDepth 100000 in
theorem k_X3_slotOf_2 (l : Launch) (E : Ev) {I : SI} {L : SL} (i : Nat) (u : Nat → Int32) (hi : sh (i) = 3) (hi_1 : sh (i+1) = 10) (hi_2 : sh (i+2) = 17) (hi_3 : sh (i+3) = 17) (e_u : I (i+2) = u) : CS l yX3_slotOf wsX3_slotOf ({ frames := 2, cells := 0, slots := 0, locals := 42 }) E [.ref (E.2.2.2 i), .int (2 : Int32)] I L (fun vv I' L' => vv = some (.int (u 2)) ∧ I' = I ∧ L' = L) := by
  refine CS.of (cc := cX3_slotOf) (maxL := 2) (ret := (some .int)) (by decide) rfl (Nat.le_of_ble_eq_true rfl) ?_
  intro pg en sg mg below meth cg ls S hr hlk hX G hl
  have S : CallFix pg mg cg cX3_slotOf 2 sg _ wsX3_slotOf RX3 := S
  have hl : lv_has ls 2 [(0, .ref (E.2.2.2 i)), (1, .int (2 : Int32))] := hl
  refine lv_iload_n S.1 S.2.1 dX3_slotOf_0 rfl (lv_at hl 1 rfl) ?_
  refine s_callSN (As := [.int (2 : Int32)]) (rest := []) S hX G (k_X8_isFault l E (2 : Int32)) (va_cnB (bytes := cX8_isFault) (maxL := 1) (ret := (some .boolean)) 1 S.2.2.2.2 gX3_slotOf_X8_isFault_n26 rfl rfl rfl (hX.2.2.1.2 _ (List.mem_of_getElem? (i := 2) rfl)) (S.2.2.2.2 _ (List.mem_of_getElem? (i := 3) rfl)) (by decide +kernel) ⟨Nat.le_of_ble_eq_true rfl, Nat.le_of_ble_eq_true rfl⟩) (List.mem_of_getElem? (i := 2) rfl) rfl hl.1 rfl (Nat.le_of_ble_eq_true rfl) ⟨Nat.zero_le _, Nat.zero_le _⟩ dX3_slotOf_1 (fun v I1 L1 H locs hR G => ?_)
  obtain ⟨hv, hI, hL⟩ := hR
  subst hv
  have G : GS E I L sg H locs := G.same hI hL
  refine W.eq (g2 := F0 mg 4 ls [.int (if ¬ (2 : Int32) < (0 : Int32) ∧ ¬ (2 : Int32) < (2 : Int32) then 1 else 0)]) rfl ?_
  refine s_if_eq_b (P := ¬ (2 : Int32) < (0 : Int32) ∧ ¬ (2 : Int32) < (2 : Int32)) (tgt := 16) S dX3_slotOf_4 (by decide) (fun h => absurd (by decide) h) (fun _ => ?_)
  refine lv_aload_n S.1 S.2.1 dX3_slotOf_7 rfl (lv_at hl 0 rfl) ?_
  refine s_get S hX G (i := i) (kd := 3) (a := (I i)) (v := .ref (E.2.2.2 (i + 2))) (C := RX3) (T := TX3) (N := 4) 1 hi rfl rfl rfl (by decide) rfl (fun _ h => (List.mem_cons_of_mem _ (List.mem_append_right _ h))) (by decide) (List.mem_of_getElem? (i := 1) rfl) (fun _ h => h) dX3_slotOf_8 ?_
  refine lv_iload_n S.1 S.2.1 dX3_slotOf_11 rfl (lv_at hl 1 rfl) ?_
  refine s_iald S hX G (i := (i + 2)) (kd := 17) (n := 3) (a := u) (x := (u 2)) hi_2 e_u rfl (by decide) (by unfold vp_in; decide) (congrArg u (by decide)) dX3_slotOf_12 ?_
  refine lv_goto (tgt := 17) S.1 S.2.1 dX3_slotOf_13 (by decide) ?_
  refine s_iret (x := (u 2)) S G hr hlk dX3_slotOf_17 ?_
  exact ⟨rfl, rfl, rfl⟩
set_option maxHeartbeats 4000000 in
set_option maxRecDepth 100000 in
theorem k_X3_currentOf_2 (l : Launch) (E : Ev) {I : SI} {L : SL} (i : Nat) (w : Nat → Int32) (hi : sh (i) = 3) (hi_1 : sh (i+1) = 10) (hi_2 : sh (i+2) = 17) (hi_3 : sh (i+3) = 17) (e_w : I (i+3) = w) : CS l yX3_currentOf wsX3_currentOf ({ frames := 2, cells := 0, slots := 0, locals := 42 }) E [.ref (E.2.2.2 i), .int (2 : Int32)] I L (fun vv I' L' => vv = some (.int (w 2)) ∧ I' = I ∧ L' = L) := by
  refine CS.of (cc := cX3_currentOf) (maxL := 2) (ret := (some .int)) (by decide) rfl (Nat.le_of_ble_eq_true rfl) ?_
  intro pg en sg mg below meth cg ls S hr hlk hX G hl
  have S : CallFix pg mg cg cX3_currentOf 2 sg _ wsX3_currentOf RX3 := S
  have hl : lv_has ls 2 [(0, .ref (E.2.2.2 i)), (1, .int (2 : Int32))] := hl
  refine lv_iload_n S.1 S.2.1 dX3_currentOf_0 rfl (lv_at hl 1 rfl) ?_
  refine s_callSN (As := [.int (2 : Int32)]) (rest := []) S hX G (k_X8_isFault l E (2 : Int32)) (va_cnB (bytes := cX8_isFault) (maxL := 1) (ret := (some .boolean)) 1 S.2.2.2.2 gX3_currentOf_X8_isFault_n26 rfl rfl rfl (hX.2.2.1.2 _ (List.mem_of_getElem? (i := 2) rfl)) (S.2.2.2.2 _ (List.mem_of_getElem? (i := 3) rfl)) (by decide +kernel) ⟨Nat.le_of_ble_eq_true rfl, Nat.le_of_ble_eq_true rfl⟩) (List.mem_of_getElem? (i := 2) rfl) rfl hl.1 rfl (Nat.le_of_ble_eq_true rfl) ⟨Nat.zero_le _, Nat.zero_le _⟩ dX3_currentOf_1 (fun v I1 L1 H locs hR G => ?_)
  obtain ⟨hv, hI, hL⟩ := hR
  subst hv
  have G : GS E I L sg H locs := G.same hI hL
  refine W.eq (g2 := F0 mg 4 ls [.int (if ¬ (2 : Int32) < (0 : Int32) ∧ ¬ (2 : Int32) < (2 : Int32) then 1 else 0)]) rfl ?_
  refine s_if_eq_b (P := ¬ (2 : Int32) < (0 : Int32) ∧ ¬ (2 : Int32) < (2 : Int32)) (tgt := 16) S dX3_currentOf_4 (by decide) (fun h => absurd (by decide) h) (fun _ => ?_)
  refine lv_aload_n S.1 S.2.1 dX3_currentOf_7 rfl (lv_at hl 0 rfl) ?_
  refine s_get S hX G (i := i) (kd := 3) (a := (I i)) (v := .ref (E.2.2.2 (i + 3))) (C := RX3) (T := TX3) (N := 4) 2 hi rfl rfl rfl (by decide) rfl (fun _ h => (List.mem_cons_of_mem _ (List.mem_append_right _ h))) (by decide) (List.mem_of_getElem? (i := 1) rfl) (fun _ h => h) dX3_currentOf_8 ?_
  refine lv_iload_n S.1 S.2.1 dX3_currentOf_11 rfl (lv_at hl 1 rfl) ?_
  refine s_iald S hX G (i := (i + 3)) (kd := 17) (n := 3) (a := w) (x := (w 2)) hi_3 e_w rfl (by decide) (by unfold vp_in; decide) (congrArg w (by decide)) dX3_currentOf_12 ?_
  refine lv_goto (tgt := 17) S.1 S.2.1 dX3_currentOf_13 (by decide) ?_
  refine s_iret (x := (w 2)) S G hr hlk dX3_currentOf_17 ?_
  exact ⟨rfl, rfl, rfl⟩
set_option maxHeartbeats 4000000 in
set_option maxRecDepth 100000 in
theorem k_X3_placeOf_2 (l : Launch) (E : Ev) {I : SI} {L : SL} (i : Nat) (t : Nat → Int32) (u : Nat → Int32) (hi : sh (i) = 3) (hi_1 : sh (i+1) = 10) (hi_2 : sh (i+2) = 17) (hi_3 : sh (i+3) = 17) (e_t : I (i+1) = t) (e_u : I (i+2) = u) : CS l yX3_placeOf wsX3_placeOf ({ frames := 3, cells := 0, slots := 0, locals := 63 }) E [.ref (E.2.2.2 i), .int (2 : Int32)] I L (fun vv I' L' => vv = some (.int (plcF t u 2)) ∧ I' = I ∧ L' = L) := by
  refine CS.of (cc := cX3_placeOf) (maxL := 6) (ret := (some .int)) (by decide) rfl (Nat.le_of_ble_eq_true rfl) ?_
  intro pg en sg mg below meth cg ls S hr hlk hX G hl
  have S : CallFix pg mg cg cX3_placeOf 6 sg _ wsX3_placeOf RX3 := S
  have hl : lv_has ls 6 [(0, .ref (E.2.2.2 i)), (1, .int (2 : Int32))] := hl
  refine lv_aload_n S.1 S.2.1 dX3_placeOf_0 rfl (lv_at hl 0 rfl) ?_
  refine lv_iload_n S.1 S.2.1 dX3_placeOf_1 rfl (lv_at hl 1 rfl) ?_
  refine s_callV (C := RX3) (As := [.int (2 : Int32)]) (rest := []) (i := i) (kd := 3) S hX G (k_X3_slotOf_2 l E i u hi hi_1 hi_2 hi_3 e_u) (cwV (bytes := cX3_slotOf) (maxL := 2) (ret := (some .int)) 1 S.2.2.2.2 gX3_placeOf_X3_slotOf rfl rfl rfl (by decide +kernel) ⟨Nat.le_of_ble_eq_true rfl, Nat.le_of_ble_eq_true rfl⟩) hi rfl rfl rfl (by decide) rfl hl.1 rfl (Nat.le_of_ble_eq_true rfl) ⟨Nat.zero_le _, Nat.zero_le _⟩ dX3_placeOf_2 (fun v I1 L1 H locs hR G => ?_)
  obtain ⟨hv, hI, hL⟩ := hR
  subst hv
  have G : GS E I L sg H locs := G.same hI hL
  refine W.eq (g2 := F0 mg 5 ls [.int (u 2)]) rfl ?_
  refine lv_istore_n (lv' := [(2, .int (u 2)), (0, .ref (E.2.2.2 i)), (1, .int (2 : Int32))]) S.1 S.2.1 dX3_placeOf_5 rfl hl (by decide) rfl (fun ls hl => ?_)
  refine lv_iconst (v := (0 : Int32)) S.1 S.2.1 dX3_placeOf_6 (by decide) ?_
  refine lv_istore_n (lv' := [(3, .int (0 : Int32)), (2, .int (u 2)), (0, .ref (E.2.2.2 i)), (1, .int (2 : Int32))]) S.1 S.2.1 dX3_placeOf_7 rfl hl (by decide) rfl (fun ls hl => ?_)
  refine lv_iconst (v := (0 : Int32)) S.1 S.2.1 dX3_placeOf_8 (by decide) ?_
  refine lv_istore (lv' := [(4, .int (0 : Int32)), (3, .int (0 : Int32)), (2, .int (u 2)), (0, .ref (E.2.2.2 i)), (1, .int (2 : Int32))]) S.1 S.2.1 dX3_placeOf_9 hl (by decide) rfl (fun ls hl => ?_)
  refine s_cut (α := Int32) (nL := 6) (E := E) (fun x I' L' => x = ((0 : Int32) + plc1 t u 0 2) ∧ I' = I ∧ L' = L) (fun x => [(4, .int (1 : Int32)), (3, .int x), (2, .int (u 2)), (0, .ref (E.2.2.2 i)), (1, .int (2 : Int32))]) 11 (fun x => []) (fun kJ_1 => ?_) (fun x I1 L1 H locs ls hP G hl => ?_)
  · refine lv_iload S.1 S.2.1 dX3_placeOf_11 (lv_at hl 0 rfl) ?_
    refine lv_iconst (v := (3 : Int32)) S.1 S.2.1 dX3_placeOf_13 (by decide) ?_
    refine lv_icmp_ge (tgt := 76) S.1 S.2.1 dX3_placeOf_14 (by decide) (fun h => absurd h (by decide)) (fun _ => ?_)
    refine lv_aload_n S.1 S.2.1 dX3_placeOf_17 rfl (lv_at hl 3 rfl) ?_
    refine s_get S hX G (i := i) (kd := 3) (a := (I i)) (v := .ref (E.2.2.2 (i + 2))) (C := RX3) (T := TX3) (N := 4) 1 hi rfl rfl rfl (by decide) rfl (fun _ h => (List.mem_cons_of_mem _ (List.mem_append_right _ h))) (by decide) (List.mem_of_getElem? (i := 1) rfl) (fun _ h => h) dX3_placeOf_18 ?_
    refine lv_iload S.1 S.2.1 dX3_placeOf_21 (lv_at hl 0 rfl) ?_
    refine s_iald S hX G (i := (i + 2)) (kd := 17) (n := 3) (a := u) (x := (u 0)) hi_2 e_u rfl (by decide) (by unfold vp_in; decide) (congrArg u (by decide)) dX3_placeOf_23 ?_
    refine lv_iload_n S.1 S.2.1 dX3_placeOf_24 rfl (lv_at hl 2 rfl) ?_
    refine lv_icmp_lt (tgt := 45) S.1 S.2.1 dX3_placeOf_25 (by decide) (fun c_2 => ?_) (fun c_2 => ?_)
    · refine lv_iconst (v := (1 : Int32)) S.1 S.2.1 dX3_placeOf_45 (by decide) ?_
      refine lv_goto (tgt := 50) S.1 S.2.1 dX3_placeOf_46 (by decide) ?_
      refine lv_istore (lv' := [(5, .int (1 : Int32)), (4, .int (0 : Int32)), (3, .int (0 : Int32)), (2, .int (u 2)), (0, .ref (E.2.2.2 i)), (1, .int (2 : Int32))]) S.1 S.2.1 dX3_placeOf_50 hl (by decide) rfl (fun ls hl => ?_)
      refine lv_aload_n S.1 S.2.1 dX3_placeOf_52 rfl (lv_at hl 4 rfl) ?_
      refine s_get S hX G (i := i) (kd := 3) (a := (I i)) (v := .ref (E.2.2.2 (i + 1))) (C := RX3) (T := TX3) (N := 4) 0 hi rfl rfl rfl (by decide) rfl (fun _ h => (List.mem_cons_of_mem _ (List.mem_append_right _ h))) (by decide) (List.mem_of_getElem? (i := 2) rfl) (fun _ h => h) dX3_placeOf_53 ?_
      refine lv_iload S.1 S.2.1 dX3_placeOf_56 (lv_at hl 1 rfl) ?_
      refine s_zald S hX G (i := (i + 1)) (a := t) (x := (t 0)) hi_1 e_t (by unfold vp_in; decide) (congrArg t (by decide)) dX3_placeOf_58 ?_
      refine lv_if_eq (tgt := 70) S.1 S.2.1 dX3_placeOf_59 (by decide) (fun c_3 => ?_) (fun c_3 => ?_)
      · refine lv_iinc (v := (1 : Int32)) (lv' := [(4, .int (1 : Int32)), (5, .int (1 : Int32)), (3, .int (0 : Int32)), (2, .int (u 2)), (0, .ref (E.2.2.2 i)), (1, .int (2 : Int32))]) S.1 S.2.1 dX3_placeOf_70 hl (k := 1) rfl (by decide) (by decide) rfl (fun ls hl => ?_)
        refine lv_goto (tgt := 11) S.1 S.2.1 dX3_placeOf_73 (by decide) ?_
        exact kJ_1 (0 : Int32) _ _ _ _ _ ⟨(show (0 : Int32) = (0 : Int32) + plc1 t u 0 2 by first | (simp [plc1, c_2, c_3]; done) | (clear S hX G hl; grind [plc1])), rfl, rfl⟩ G (lv_sub hl [0, 2, 3, 4, 5] rfl)
      · refine lv_iload S.1 S.2.1 dX3_placeOf_62 (lv_at hl 0 rfl) ?_
        refine lv_if_eq (tgt := 70) S.1 S.2.1 dX3_placeOf_64 (by decide) (fun h => absurd h (by decide)) (fun _ => ?_)
        refine lv_iinc (v := (1 : Int32)) (lv' := [(3, .int (1 : Int32)), (5, .int (1 : Int32)), (4, .int (0 : Int32)), (2, .int (u 2)), (0, .ref (E.2.2.2 i)), (1, .int (2 : Int32))]) S.1 S.2.1 dX3_placeOf_67 hl (k := 2) rfl (by decide) (by decide) rfl (fun ls hl => ?_)
        refine lv_iinc (v := (1 : Int32)) (lv' := [(4, .int (1 : Int32)), (3, .int (1 : Int32)), (5, .int (1 : Int32)), (2, .int (u 2)), (0, .ref (E.2.2.2 i)), (1, .int (2 : Int32))]) S.1 S.2.1 dX3_placeOf_70 hl (k := 2) rfl (by decide) (by decide) rfl (fun ls hl => ?_)
        refine lv_goto (tgt := 11) S.1 S.2.1 dX3_placeOf_73 (by decide) ?_
        exact kJ_1 (1 : Int32) _ _ _ _ _ ⟨(show (1 : Int32) = (0 : Int32) + plc1 t u 0 2 by first | (simp [plc1, c_2, c_3]; done) | (clear S hX G hl; grind [plc1])), rfl, rfl⟩ G (lv_sub hl [0, 1, 3, 4, 5] rfl)
    · refine lv_aload_n S.1 S.2.1 dX3_placeOf_28 rfl (lv_at hl 3 rfl) ?_
      refine s_get S hX G (i := i) (kd := 3) (a := (I i)) (v := .ref (E.2.2.2 (i + 2))) (C := RX3) (T := TX3) (N := 4) 1 hi rfl rfl rfl (by decide) rfl (fun _ h => (List.mem_cons_of_mem _ (List.mem_append_right _ h))) (by decide) (List.mem_of_getElem? (i := 1) rfl) (fun _ h => h) dX3_placeOf_29 ?_
      refine lv_iload S.1 S.2.1 dX3_placeOf_32 (lv_at hl 0 rfl) ?_
      refine s_iald S hX G (i := (i + 2)) (kd := 17) (n := 3) (a := u) (x := (u 0)) hi_2 e_u rfl (by decide) (by unfold vp_in; decide) (congrArg u (by decide)) dX3_placeOf_34 ?_
      refine lv_iload_n S.1 S.2.1 dX3_placeOf_35 rfl (lv_at hl 2 rfl) ?_
      refine lv_icmp_ne (tgt := 49) S.1 S.2.1 dX3_placeOf_36 (by decide) (fun c_4 => ?_) (fun c_4 => ?_)
      · refine lv_iconst (v := (0 : Int32)) S.1 S.2.1 dX3_placeOf_49 (by decide) ?_
        refine lv_istore (lv' := [(5, .int (0 : Int32)), (4, .int (0 : Int32)), (3, .int (0 : Int32)), (2, .int (u 2)), (0, .ref (E.2.2.2 i)), (1, .int (2 : Int32))]) S.1 S.2.1 dX3_placeOf_50 hl (by decide) rfl (fun ls hl => ?_)
        refine lv_aload_n S.1 S.2.1 dX3_placeOf_52 rfl (lv_at hl 4 rfl) ?_
        refine s_get S hX G (i := i) (kd := 3) (a := (I i)) (v := .ref (E.2.2.2 (i + 1))) (C := RX3) (T := TX3) (N := 4) 0 hi rfl rfl rfl (by decide) rfl (fun _ h => (List.mem_cons_of_mem _ (List.mem_append_right _ h))) (by decide) (List.mem_of_getElem? (i := 2) rfl) (fun _ h => h) dX3_placeOf_53 ?_
        refine lv_iload S.1 S.2.1 dX3_placeOf_56 (lv_at hl 1 rfl) ?_
        refine s_zald S hX G (i := (i + 1)) (a := t) (x := (t 0)) hi_1 e_t (by unfold vp_in; decide) (congrArg t (by decide)) dX3_placeOf_58 ?_
        refine lv_if_eq (tgt := 70) S.1 S.2.1 dX3_placeOf_59 (by decide) (fun c_5 => ?_) (fun c_5 => ?_)
        · refine lv_iinc (v := (1 : Int32)) (lv' := [(4, .int (1 : Int32)), (5, .int (0 : Int32)), (3, .int (0 : Int32)), (2, .int (u 2)), (0, .ref (E.2.2.2 i)), (1, .int (2 : Int32))]) S.1 S.2.1 dX3_placeOf_70 hl (k := 1) rfl (by decide) (by decide) rfl (fun ls hl => ?_)
          refine lv_goto (tgt := 11) S.1 S.2.1 dX3_placeOf_73 (by decide) ?_
          exact kJ_1 (0 : Int32) _ _ _ _ _ ⟨(show (0 : Int32) = (0 : Int32) + plc1 t u 0 2 by first | (simp [plc1, c_2, c_4, c_5]; done) | (clear S hX G hl; grind [plc1])), rfl, rfl⟩ G (lv_sub hl [0, 2, 3, 4, 5] rfl)
        · refine lv_iload S.1 S.2.1 dX3_placeOf_62 (lv_at hl 0 rfl) ?_
          refine lv_if_eq (tgt := 70) S.1 S.2.1 dX3_placeOf_64 (by decide) (fun _ => ?_) (fun h => absurd (by decide) h)
          refine lv_iinc (v := (1 : Int32)) (lv' := [(4, .int (1 : Int32)), (5, .int (0 : Int32)), (3, .int (0 : Int32)), (2, .int (u 2)), (0, .ref (E.2.2.2 i)), (1, .int (2 : Int32))]) S.1 S.2.1 dX3_placeOf_70 hl (k := 1) rfl (by decide) (by decide) rfl (fun ls hl => ?_)
          refine lv_goto (tgt := 11) S.1 S.2.1 dX3_placeOf_73 (by decide) ?_
          exact kJ_1 (0 : Int32) _ _ _ _ _ ⟨(show (0 : Int32) = (0 : Int32) + plc1 t u 0 2 by first | (simp [plc1, c_2, c_4, c_5]; done) | (clear S hX G hl; grind [plc1])), rfl, rfl⟩ G (lv_sub hl [0, 2, 3, 4, 5] rfl)
      · refine lv_iload S.1 S.2.1 dX3_placeOf_39 (lv_at hl 0 rfl) ?_
        refine lv_iload_n S.1 S.2.1 dX3_placeOf_41 rfl (lv_at hl 4 rfl) ?_
        refine lv_icmp_ge (tgt := 49) S.1 S.2.1 dX3_placeOf_42 (by decide) (fun h => absurd h (by decide)) (fun _ => ?_)
        refine lv_iconst (v := (1 : Int32)) S.1 S.2.1 dX3_placeOf_45 (by decide) ?_
        refine lv_goto (tgt := 50) S.1 S.2.1 dX3_placeOf_46 (by decide) ?_
        refine lv_istore (lv' := [(5, .int (1 : Int32)), (4, .int (0 : Int32)), (3, .int (0 : Int32)), (2, .int (u 2)), (0, .ref (E.2.2.2 i)), (1, .int (2 : Int32))]) S.1 S.2.1 dX3_placeOf_50 hl (by decide) rfl (fun ls hl => ?_)
        refine lv_aload_n S.1 S.2.1 dX3_placeOf_52 rfl (lv_at hl 4 rfl) ?_
        refine s_get S hX G (i := i) (kd := 3) (a := (I i)) (v := .ref (E.2.2.2 (i + 1))) (C := RX3) (T := TX3) (N := 4) 0 hi rfl rfl rfl (by decide) rfl (fun _ h => (List.mem_cons_of_mem _ (List.mem_append_right _ h))) (by decide) (List.mem_of_getElem? (i := 2) rfl) (fun _ h => h) dX3_placeOf_53 ?_
        refine lv_iload S.1 S.2.1 dX3_placeOf_56 (lv_at hl 1 rfl) ?_
        refine s_zald S hX G (i := (i + 1)) (a := t) (x := (t 0)) hi_1 e_t (by unfold vp_in; decide) (congrArg t (by decide)) dX3_placeOf_58 ?_
        refine lv_if_eq (tgt := 70) S.1 S.2.1 dX3_placeOf_59 (by decide) (fun c_6 => ?_) (fun c_6 => ?_)
        · refine lv_iinc (v := (1 : Int32)) (lv' := [(4, .int (1 : Int32)), (5, .int (1 : Int32)), (3, .int (0 : Int32)), (2, .int (u 2)), (0, .ref (E.2.2.2 i)), (1, .int (2 : Int32))]) S.1 S.2.1 dX3_placeOf_70 hl (k := 1) rfl (by decide) (by decide) rfl (fun ls hl => ?_)
          refine lv_goto (tgt := 11) S.1 S.2.1 dX3_placeOf_73 (by decide) ?_
          exact kJ_1 (0 : Int32) _ _ _ _ _ ⟨(show (0 : Int32) = (0 : Int32) + plc1 t u 0 2 by first | (simp [plc1, c_2, c_4, c_6]; done) | (clear S hX G hl; grind [plc1])), rfl, rfl⟩ G (lv_sub hl [0, 2, 3, 4, 5] rfl)
        · refine lv_iload S.1 S.2.1 dX3_placeOf_62 (lv_at hl 0 rfl) ?_
          refine lv_if_eq (tgt := 70) S.1 S.2.1 dX3_placeOf_64 (by decide) (fun h => absurd h (by decide)) (fun _ => ?_)
          refine lv_iinc (v := (1 : Int32)) (lv' := [(3, .int (1 : Int32)), (5, .int (1 : Int32)), (4, .int (0 : Int32)), (2, .int (u 2)), (0, .ref (E.2.2.2 i)), (1, .int (2 : Int32))]) S.1 S.2.1 dX3_placeOf_67 hl (k := 2) rfl (by decide) (by decide) rfl (fun ls hl => ?_)
          refine lv_iinc (v := (1 : Int32)) (lv' := [(4, .int (1 : Int32)), (3, .int (1 : Int32)), (5, .int (1 : Int32)), (2, .int (u 2)), (0, .ref (E.2.2.2 i)), (1, .int (2 : Int32))]) S.1 S.2.1 dX3_placeOf_70 hl (k := 2) rfl (by decide) (by decide) rfl (fun ls hl => ?_)
          refine lv_goto (tgt := 11) S.1 S.2.1 dX3_placeOf_73 (by decide) ?_
          exact kJ_1 (1 : Int32) _ _ _ _ _ ⟨(show (1 : Int32) = (0 : Int32) + plc1 t u 0 2 by first | (simp [plc1, c_2, c_4, c_6]; done) | (clear S hX G hl; grind [plc1])), rfl, rfl⟩ G (lv_sub hl [0, 1, 3, 4, 5] rfl)
  · obtain ⟨h0, hI, hL⟩ := hP
    have h0 : x = ((0 : Int32) + plc1 t u 0 2) := h0
    have hl : lv_has ls 6 [(4, .int (1 : Int32)), (3, .int x), (2, .int (u 2)), (0, .ref (E.2.2.2 i)), (1, .int (2 : Int32))] := hl
    subst h0
    have G : GS E I L sg H locs := G.same hI hL
    refine W.eq (g2 := F0 mg 11 ls []) rfl ?_
    refine s_cut (α := Int32) (nL := 6) (E := E) (fun x I' L' => x = (((0 : Int32) + plc1 t u 0 2) + plc1 t u 1 2) ∧ I' = I ∧ L' = L) (fun x => [(4, .int (2 : Int32)), (3, .int x), (2, .int (u 2)), (0, .ref (E.2.2.2 i)), (1, .int (2 : Int32))]) 11 (fun x => []) (fun kJ_7 => ?_) (fun x I1 L1 H locs ls hP G hl => ?_)
    · refine lv_iload S.1 S.2.1 dX3_placeOf_11 (lv_at hl 0 rfl) ?_
      refine lv_iconst (v := (3 : Int32)) S.1 S.2.1 dX3_placeOf_13 (by decide) ?_
      refine lv_icmp_ge (tgt := 76) S.1 S.2.1 dX3_placeOf_14 (by decide) (fun h => absurd h (by decide)) (fun _ => ?_)
      refine lv_aload_n S.1 S.2.1 dX3_placeOf_17 rfl (lv_at hl 3 rfl) ?_
      refine s_get S hX G (i := i) (kd := 3) (a := (I i)) (v := .ref (E.2.2.2 (i + 2))) (C := RX3) (T := TX3) (N := 4) 1 hi rfl rfl rfl (by decide) rfl (fun _ h => (List.mem_cons_of_mem _ (List.mem_append_right _ h))) (by decide) (List.mem_of_getElem? (i := 1) rfl) (fun _ h => h) dX3_placeOf_18 ?_
      refine lv_iload S.1 S.2.1 dX3_placeOf_21 (lv_at hl 0 rfl) ?_
      refine s_iald S hX G (i := (i + 2)) (kd := 17) (n := 3) (a := u) (x := (u 1)) hi_2 e_u rfl (by decide) (by unfold vp_in; decide) (congrArg u (by decide)) dX3_placeOf_23 ?_
      refine lv_iload_n S.1 S.2.1 dX3_placeOf_24 rfl (lv_at hl 2 rfl) ?_
      refine lv_icmp_lt (tgt := 45) S.1 S.2.1 dX3_placeOf_25 (by decide) (fun c_8 => ?_) (fun c_8 => ?_)
      · refine lv_iconst (v := (1 : Int32)) S.1 S.2.1 dX3_placeOf_45 (by decide) ?_
        refine lv_goto (tgt := 50) S.1 S.2.1 dX3_placeOf_46 (by decide) ?_
        refine lv_istore (lv' := [(5, .int (1 : Int32)), (4, .int (1 : Int32)), (3, .int ((0 : Int32) + plc1 t u 0 2)), (2, .int (u 2)), (0, .ref (E.2.2.2 i)), (1, .int (2 : Int32))]) S.1 S.2.1 dX3_placeOf_50 hl (by decide) rfl (fun ls hl => ?_)
        refine lv_aload_n S.1 S.2.1 dX3_placeOf_52 rfl (lv_at hl 4 rfl) ?_
        refine s_get S hX G (i := i) (kd := 3) (a := (I i)) (v := .ref (E.2.2.2 (i + 1))) (C := RX3) (T := TX3) (N := 4) 0 hi rfl rfl rfl (by decide) rfl (fun _ h => (List.mem_cons_of_mem _ (List.mem_append_right _ h))) (by decide) (List.mem_of_getElem? (i := 2) rfl) (fun _ h => h) dX3_placeOf_53 ?_
        refine lv_iload S.1 S.2.1 dX3_placeOf_56 (lv_at hl 1 rfl) ?_
        refine s_zald S hX G (i := (i + 1)) (a := t) (x := (t 1)) hi_1 e_t (by unfold vp_in; decide) (congrArg t (by decide)) dX3_placeOf_58 ?_
        refine lv_if_eq (tgt := 70) S.1 S.2.1 dX3_placeOf_59 (by decide) (fun c_9 => ?_) (fun c_9 => ?_)
        · refine lv_iinc (v := (2 : Int32)) (lv' := [(4, .int (2 : Int32)), (5, .int (1 : Int32)), (3, .int ((0 : Int32) + plc1 t u 0 2)), (2, .int (u 2)), (0, .ref (E.2.2.2 i)), (1, .int (2 : Int32))]) S.1 S.2.1 dX3_placeOf_70 hl (k := 1) rfl (by decide) (by decide) rfl (fun ls hl => ?_)
          refine lv_goto (tgt := 11) S.1 S.2.1 dX3_placeOf_73 (by decide) ?_
          exact kJ_7 ((0 : Int32) + plc1 t u 0 2) _ _ _ _ _ ⟨(show ((0 : Int32) + plc1 t u 0 2) = ((0 : Int32) + plc1 t u 0 2) + plc1 t u 1 2 by first | (simp [plc1, c_8, c_9]; done) | (clear S hX G hl; grind [plc1])), rfl, rfl⟩ G (lv_sub hl [0, 2, 3, 4, 5] rfl)
        · refine lv_iload S.1 S.2.1 dX3_placeOf_62 (lv_at hl 0 rfl) ?_
          refine lv_if_eq (tgt := 70) S.1 S.2.1 dX3_placeOf_64 (by decide) (fun h => absurd h (by decide)) (fun _ => ?_)
          refine lv_iinc (v := (((0 : Int32) + plc1 t u 0 2) + 1)) (lv' := [(3, .int (((0 : Int32) + plc1 t u 0 2) + 1)), (5, .int (1 : Int32)), (4, .int (1 : Int32)), (2, .int (u 2)), (0, .ref (E.2.2.2 i)), (1, .int (2 : Int32))]) S.1 S.2.1 dX3_placeOf_67 hl (k := 2) rfl rfl (by decide) rfl (fun ls hl => ?_)
          refine lv_iinc (v := (2 : Int32)) (lv' := [(4, .int (2 : Int32)), (3, .int (((0 : Int32) + plc1 t u 0 2) + 1)), (5, .int (1 : Int32)), (2, .int (u 2)), (0, .ref (E.2.2.2 i)), (1, .int (2 : Int32))]) S.1 S.2.1 dX3_placeOf_70 hl (k := 2) rfl (by decide) (by decide) rfl (fun ls hl => ?_)
          refine lv_goto (tgt := 11) S.1 S.2.1 dX3_placeOf_73 (by decide) ?_
          exact kJ_7 (((0 : Int32) + plc1 t u 0 2) + 1) _ _ _ _ _ ⟨(show (((0 : Int32) + plc1 t u 0 2) + 1) = ((0 : Int32) + plc1 t u 0 2) + plc1 t u 1 2 by first | (simp [plc1, c_8, c_9]; done) | (clear S hX G hl; grind [plc1])), rfl, rfl⟩ G (lv_sub hl [0, 1, 3, 4, 5] rfl)
      · refine lv_aload_n S.1 S.2.1 dX3_placeOf_28 rfl (lv_at hl 3 rfl) ?_
        refine s_get S hX G (i := i) (kd := 3) (a := (I i)) (v := .ref (E.2.2.2 (i + 2))) (C := RX3) (T := TX3) (N := 4) 1 hi rfl rfl rfl (by decide) rfl (fun _ h => (List.mem_cons_of_mem _ (List.mem_append_right _ h))) (by decide) (List.mem_of_getElem? (i := 1) rfl) (fun _ h => h) dX3_placeOf_29 ?_
        refine lv_iload S.1 S.2.1 dX3_placeOf_32 (lv_at hl 0 rfl) ?_
        refine s_iald S hX G (i := (i + 2)) (kd := 17) (n := 3) (a := u) (x := (u 1)) hi_2 e_u rfl (by decide) (by unfold vp_in; decide) (congrArg u (by decide)) dX3_placeOf_34 ?_
        refine lv_iload_n S.1 S.2.1 dX3_placeOf_35 rfl (lv_at hl 2 rfl) ?_
        refine lv_icmp_ne (tgt := 49) S.1 S.2.1 dX3_placeOf_36 (by decide) (fun c_10 => ?_) (fun c_10 => ?_)
        · refine lv_iconst (v := (0 : Int32)) S.1 S.2.1 dX3_placeOf_49 (by decide) ?_
          refine lv_istore (lv' := [(5, .int (0 : Int32)), (4, .int (1 : Int32)), (3, .int ((0 : Int32) + plc1 t u 0 2)), (2, .int (u 2)), (0, .ref (E.2.2.2 i)), (1, .int (2 : Int32))]) S.1 S.2.1 dX3_placeOf_50 hl (by decide) rfl (fun ls hl => ?_)
          refine lv_aload_n S.1 S.2.1 dX3_placeOf_52 rfl (lv_at hl 4 rfl) ?_
          refine s_get S hX G (i := i) (kd := 3) (a := (I i)) (v := .ref (E.2.2.2 (i + 1))) (C := RX3) (T := TX3) (N := 4) 0 hi rfl rfl rfl (by decide) rfl (fun _ h => (List.mem_cons_of_mem _ (List.mem_append_right _ h))) (by decide) (List.mem_of_getElem? (i := 2) rfl) (fun _ h => h) dX3_placeOf_53 ?_
          refine lv_iload S.1 S.2.1 dX3_placeOf_56 (lv_at hl 1 rfl) ?_
          refine s_zald S hX G (i := (i + 1)) (a := t) (x := (t 1)) hi_1 e_t (by unfold vp_in; decide) (congrArg t (by decide)) dX3_placeOf_58 ?_
          refine lv_if_eq (tgt := 70) S.1 S.2.1 dX3_placeOf_59 (by decide) (fun c_11 => ?_) (fun c_11 => ?_)
          · refine lv_iinc (v := (2 : Int32)) (lv' := [(4, .int (2 : Int32)), (5, .int (0 : Int32)), (3, .int ((0 : Int32) + plc1 t u 0 2)), (2, .int (u 2)), (0, .ref (E.2.2.2 i)), (1, .int (2 : Int32))]) S.1 S.2.1 dX3_placeOf_70 hl (k := 1) rfl (by decide) (by decide) rfl (fun ls hl => ?_)
            refine lv_goto (tgt := 11) S.1 S.2.1 dX3_placeOf_73 (by decide) ?_
            exact kJ_7 ((0 : Int32) + plc1 t u 0 2) _ _ _ _ _ ⟨(show ((0 : Int32) + plc1 t u 0 2) = ((0 : Int32) + plc1 t u 0 2) + plc1 t u 1 2 by first | (simp [plc1, c_8, c_10, c_11]; done) | (clear S hX G hl; grind [plc1])), rfl, rfl⟩ G (lv_sub hl [0, 2, 3, 4, 5] rfl)
          · refine lv_iload S.1 S.2.1 dX3_placeOf_62 (lv_at hl 0 rfl) ?_
            refine lv_if_eq (tgt := 70) S.1 S.2.1 dX3_placeOf_64 (by decide) (fun _ => ?_) (fun h => absurd (by decide) h)
            refine lv_iinc (v := (2 : Int32)) (lv' := [(4, .int (2 : Int32)), (5, .int (0 : Int32)), (3, .int ((0 : Int32) + plc1 t u 0 2)), (2, .int (u 2)), (0, .ref (E.2.2.2 i)), (1, .int (2 : Int32))]) S.1 S.2.1 dX3_placeOf_70 hl (k := 1) rfl (by decide) (by decide) rfl (fun ls hl => ?_)
            refine lv_goto (tgt := 11) S.1 S.2.1 dX3_placeOf_73 (by decide) ?_
            exact kJ_7 ((0 : Int32) + plc1 t u 0 2) _ _ _ _ _ ⟨(show ((0 : Int32) + plc1 t u 0 2) = ((0 : Int32) + plc1 t u 0 2) + plc1 t u 1 2 by first | (simp [plc1, c_8, c_10, c_11]; done) | (clear S hX G hl; grind [plc1])), rfl, rfl⟩ G (lv_sub hl [0, 2, 3, 4, 5] rfl)
        · refine lv_iload S.1 S.2.1 dX3_placeOf_39 (lv_at hl 0 rfl) ?_
          refine lv_iload_n S.1 S.2.1 dX3_placeOf_41 rfl (lv_at hl 4 rfl) ?_
          refine lv_icmp_ge (tgt := 49) S.1 S.2.1 dX3_placeOf_42 (by decide) (fun h => absurd h (by decide)) (fun _ => ?_)
          refine lv_iconst (v := (1 : Int32)) S.1 S.2.1 dX3_placeOf_45 (by decide) ?_
          refine lv_goto (tgt := 50) S.1 S.2.1 dX3_placeOf_46 (by decide) ?_
          refine lv_istore (lv' := [(5, .int (1 : Int32)), (4, .int (1 : Int32)), (3, .int ((0 : Int32) + plc1 t u 0 2)), (2, .int (u 2)), (0, .ref (E.2.2.2 i)), (1, .int (2 : Int32))]) S.1 S.2.1 dX3_placeOf_50 hl (by decide) rfl (fun ls hl => ?_)
          refine lv_aload_n S.1 S.2.1 dX3_placeOf_52 rfl (lv_at hl 4 rfl) ?_
          refine s_get S hX G (i := i) (kd := 3) (a := (I i)) (v := .ref (E.2.2.2 (i + 1))) (C := RX3) (T := TX3) (N := 4) 0 hi rfl rfl rfl (by decide) rfl (fun _ h => (List.mem_cons_of_mem _ (List.mem_append_right _ h))) (by decide) (List.mem_of_getElem? (i := 2) rfl) (fun _ h => h) dX3_placeOf_53 ?_
          refine lv_iload S.1 S.2.1 dX3_placeOf_56 (lv_at hl 1 rfl) ?_
          refine s_zald S hX G (i := (i + 1)) (a := t) (x := (t 1)) hi_1 e_t (by unfold vp_in; decide) (congrArg t (by decide)) dX3_placeOf_58 ?_
          refine lv_if_eq (tgt := 70) S.1 S.2.1 dX3_placeOf_59 (by decide) (fun c_12 => ?_) (fun c_12 => ?_)
          · refine lv_iinc (v := (2 : Int32)) (lv' := [(4, .int (2 : Int32)), (5, .int (1 : Int32)), (3, .int ((0 : Int32) + plc1 t u 0 2)), (2, .int (u 2)), (0, .ref (E.2.2.2 i)), (1, .int (2 : Int32))]) S.1 S.2.1 dX3_placeOf_70 hl (k := 1) rfl (by decide) (by decide) rfl (fun ls hl => ?_)
            refine lv_goto (tgt := 11) S.1 S.2.1 dX3_placeOf_73 (by decide) ?_
            exact kJ_7 ((0 : Int32) + plc1 t u 0 2) _ _ _ _ _ ⟨(show ((0 : Int32) + plc1 t u 0 2) = ((0 : Int32) + plc1 t u 0 2) + plc1 t u 1 2 by first | (simp [plc1, c_8, c_10, c_12]; done) | (clear S hX G hl; grind [plc1])), rfl, rfl⟩ G (lv_sub hl [0, 2, 3, 4, 5] rfl)
          · refine lv_iload S.1 S.2.1 dX3_placeOf_62 (lv_at hl 0 rfl) ?_
            refine lv_if_eq (tgt := 70) S.1 S.2.1 dX3_placeOf_64 (by decide) (fun h => absurd h (by decide)) (fun _ => ?_)
            refine lv_iinc (v := (((0 : Int32) + plc1 t u 0 2) + 1)) (lv' := [(3, .int (((0 : Int32) + plc1 t u 0 2) + 1)), (5, .int (1 : Int32)), (4, .int (1 : Int32)), (2, .int (u 2)), (0, .ref (E.2.2.2 i)), (1, .int (2 : Int32))]) S.1 S.2.1 dX3_placeOf_67 hl (k := 2) rfl rfl (by decide) rfl (fun ls hl => ?_)
            refine lv_iinc (v := (2 : Int32)) (lv' := [(4, .int (2 : Int32)), (3, .int (((0 : Int32) + plc1 t u 0 2) + 1)), (5, .int (1 : Int32)), (2, .int (u 2)), (0, .ref (E.2.2.2 i)), (1, .int (2 : Int32))]) S.1 S.2.1 dX3_placeOf_70 hl (k := 2) rfl (by decide) (by decide) rfl (fun ls hl => ?_)
            refine lv_goto (tgt := 11) S.1 S.2.1 dX3_placeOf_73 (by decide) ?_
            exact kJ_7 (((0 : Int32) + plc1 t u 0 2) + 1) _ _ _ _ _ ⟨(show (((0 : Int32) + plc1 t u 0 2) + 1) = ((0 : Int32) + plc1 t u 0 2) + plc1 t u 1 2 by first | (simp [plc1, c_8, c_10, c_12]; done) | (clear S hX G hl; grind [plc1])), rfl, rfl⟩ G (lv_sub hl [0, 1, 3, 4, 5] rfl)
    · obtain ⟨h0, hI, hL⟩ := hP
      have h0 : x = (((0 : Int32) + plc1 t u 0 2) + plc1 t u 1 2) := h0
      have hl : lv_has ls 6 [(4, .int (2 : Int32)), (3, .int x), (2, .int (u 2)), (0, .ref (E.2.2.2 i)), (1, .int (2 : Int32))] := hl
      subst h0
      have G : GS E I L sg H locs := G.same hI hL
      refine W.eq (g2 := F0 mg 11 ls []) rfl ?_
      refine s_cut (α := Int32) (nL := 6) (E := E) (fun x I' L' => x = ((((0 : Int32) + plc1 t u 0 2) + plc1 t u 1 2) + plc1 t u 2 2) ∧ I' = I ∧ L' = L) (fun x => [(4, .int (3 : Int32)), (3, .int x), (2, .int (u 2)), (0, .ref (E.2.2.2 i)), (1, .int (2 : Int32))]) 11 (fun x => []) (fun kJ_13 => ?_) (fun x I1 L1 H locs ls hP G hl => ?_)
      · refine lv_iload S.1 S.2.1 dX3_placeOf_11 (lv_at hl 0 rfl) ?_
        refine lv_iconst (v := (3 : Int32)) S.1 S.2.1 dX3_placeOf_13 (by decide) ?_
        refine lv_icmp_ge (tgt := 76) S.1 S.2.1 dX3_placeOf_14 (by decide) (fun h => absurd h (by decide)) (fun _ => ?_)
        refine lv_aload_n S.1 S.2.1 dX3_placeOf_17 rfl (lv_at hl 3 rfl) ?_
        refine s_get S hX G (i := i) (kd := 3) (a := (I i)) (v := .ref (E.2.2.2 (i + 2))) (C := RX3) (T := TX3) (N := 4) 1 hi rfl rfl rfl (by decide) rfl (fun _ h => (List.mem_cons_of_mem _ (List.mem_append_right _ h))) (by decide) (List.mem_of_getElem? (i := 1) rfl) (fun _ h => h) dX3_placeOf_18 ?_
        refine lv_iload S.1 S.2.1 dX3_placeOf_21 (lv_at hl 0 rfl) ?_
        refine s_iald S hX G (i := (i + 2)) (kd := 17) (n := 3) (a := u) (x := (u 2)) hi_2 e_u rfl (by decide) (by unfold vp_in; decide) (congrArg u (by decide)) dX3_placeOf_23 ?_
        refine lv_iload_n S.1 S.2.1 dX3_placeOf_24 rfl (lv_at hl 2 rfl) ?_
        refine lv_icmp_lt (tgt := 45) S.1 S.2.1 dX3_placeOf_25 (by decide) (fun c_14 => ?_) (fun c_14 => ?_)
        · refine lv_iconst (v := (1 : Int32)) S.1 S.2.1 dX3_placeOf_45 (by decide) ?_
          refine lv_goto (tgt := 50) S.1 S.2.1 dX3_placeOf_46 (by decide) ?_
          refine lv_istore (lv' := [(5, .int (1 : Int32)), (4, .int (2 : Int32)), (3, .int (((0 : Int32) + plc1 t u 0 2) + plc1 t u 1 2)), (2, .int (u 2)), (0, .ref (E.2.2.2 i)), (1, .int (2 : Int32))]) S.1 S.2.1 dX3_placeOf_50 hl (by decide) rfl (fun ls hl => ?_)
          refine lv_aload_n S.1 S.2.1 dX3_placeOf_52 rfl (lv_at hl 4 rfl) ?_
          refine s_get S hX G (i := i) (kd := 3) (a := (I i)) (v := .ref (E.2.2.2 (i + 1))) (C := RX3) (T := TX3) (N := 4) 0 hi rfl rfl rfl (by decide) rfl (fun _ h => (List.mem_cons_of_mem _ (List.mem_append_right _ h))) (by decide) (List.mem_of_getElem? (i := 2) rfl) (fun _ h => h) dX3_placeOf_53 ?_
          refine lv_iload S.1 S.2.1 dX3_placeOf_56 (lv_at hl 1 rfl) ?_
          refine s_zald S hX G (i := (i + 1)) (a := t) (x := (t 2)) hi_1 e_t (by unfold vp_in; decide) (congrArg t (by decide)) dX3_placeOf_58 ?_
          refine lv_if_eq (tgt := 70) S.1 S.2.1 dX3_placeOf_59 (by decide) (fun c_15 => ?_) (fun c_15 => ?_)
          · refine lv_iinc (v := (3 : Int32)) (lv' := [(4, .int (3 : Int32)), (5, .int (1 : Int32)), (3, .int (((0 : Int32) + plc1 t u 0 2) + plc1 t u 1 2)), (2, .int (u 2)), (0, .ref (E.2.2.2 i)), (1, .int (2 : Int32))]) S.1 S.2.1 dX3_placeOf_70 hl (k := 1) rfl (by decide) (by decide) rfl (fun ls hl => ?_)
            refine lv_goto (tgt := 11) S.1 S.2.1 dX3_placeOf_73 (by decide) ?_
            exact kJ_13 (((0 : Int32) + plc1 t u 0 2) + plc1 t u 1 2) _ _ _ _ _ ⟨(show (((0 : Int32) + plc1 t u 0 2) + plc1 t u 1 2) = (((0 : Int32) + plc1 t u 0 2) + plc1 t u 1 2) + plc1 t u 2 2 by first | (simp [plc1, c_14, c_15]; done) | (clear S hX G hl; grind [plc1])), rfl, rfl⟩ G (lv_sub hl [0, 2, 3, 4, 5] rfl)
          · refine lv_iload S.1 S.2.1 dX3_placeOf_62 (lv_at hl 0 rfl) ?_
            refine lv_if_eq (tgt := 70) S.1 S.2.1 dX3_placeOf_64 (by decide) (fun h => absurd h (by decide)) (fun _ => ?_)
            refine lv_iinc (v := ((((0 : Int32) + plc1 t u 0 2) + plc1 t u 1 2) + 1)) (lv' := [(3, .int ((((0 : Int32) + plc1 t u 0 2) + plc1 t u 1 2) + 1)), (5, .int (1 : Int32)), (4, .int (2 : Int32)), (2, .int (u 2)), (0, .ref (E.2.2.2 i)), (1, .int (2 : Int32))]) S.1 S.2.1 dX3_placeOf_67 hl (k := 2) rfl rfl (by decide) rfl (fun ls hl => ?_)
            refine lv_iinc (v := (3 : Int32)) (lv' := [(4, .int (3 : Int32)), (3, .int ((((0 : Int32) + plc1 t u 0 2) + plc1 t u 1 2) + 1)), (5, .int (1 : Int32)), (2, .int (u 2)), (0, .ref (E.2.2.2 i)), (1, .int (2 : Int32))]) S.1 S.2.1 dX3_placeOf_70 hl (k := 2) rfl (by decide) (by decide) rfl (fun ls hl => ?_)
            refine lv_goto (tgt := 11) S.1 S.2.1 dX3_placeOf_73 (by decide) ?_
            exact kJ_13 ((((0 : Int32) + plc1 t u 0 2) + plc1 t u 1 2) + 1) _ _ _ _ _ ⟨(show ((((0 : Int32) + plc1 t u 0 2) + plc1 t u 1 2) + 1) = (((0 : Int32) + plc1 t u 0 2) + plc1 t u 1 2) + plc1 t u 2 2 by first | (simp [plc1, c_14, c_15]; done) | (clear S hX G hl; grind [plc1])), rfl, rfl⟩ G (lv_sub hl [0, 1, 3, 4, 5] rfl)
        · refine lv_aload_n S.1 S.2.1 dX3_placeOf_28 rfl (lv_at hl 3 rfl) ?_
          refine s_get S hX G (i := i) (kd := 3) (a := (I i)) (v := .ref (E.2.2.2 (i + 2))) (C := RX3) (T := TX3) (N := 4) 1 hi rfl rfl rfl (by decide) rfl (fun _ h => (List.mem_cons_of_mem _ (List.mem_append_right _ h))) (by decide) (List.mem_of_getElem? (i := 1) rfl) (fun _ h => h) dX3_placeOf_29 ?_
          refine lv_iload S.1 S.2.1 dX3_placeOf_32 (lv_at hl 0 rfl) ?_
          refine s_iald S hX G (i := (i + 2)) (kd := 17) (n := 3) (a := u) (x := (u 2)) hi_2 e_u rfl (by decide) (by unfold vp_in; decide) (congrArg u (by decide)) dX3_placeOf_34 ?_
          refine lv_iload_n S.1 S.2.1 dX3_placeOf_35 rfl (lv_at hl 2 rfl) ?_
          refine lv_icmp_ne (tgt := 49) S.1 S.2.1 dX3_placeOf_36 (by decide) (fun c_16 => ?_) (fun c_16 => ?_)
          · refine lv_iconst (v := (0 : Int32)) S.1 S.2.1 dX3_placeOf_49 (by decide) ?_
            refine lv_istore (lv' := [(5, .int (0 : Int32)), (4, .int (2 : Int32)), (3, .int (((0 : Int32) + plc1 t u 0 2) + plc1 t u 1 2)), (2, .int (u 2)), (0, .ref (E.2.2.2 i)), (1, .int (2 : Int32))]) S.1 S.2.1 dX3_placeOf_50 hl (by decide) rfl (fun ls hl => ?_)
            refine lv_aload_n S.1 S.2.1 dX3_placeOf_52 rfl (lv_at hl 4 rfl) ?_
            refine s_get S hX G (i := i) (kd := 3) (a := (I i)) (v := .ref (E.2.2.2 (i + 1))) (C := RX3) (T := TX3) (N := 4) 0 hi rfl rfl rfl (by decide) rfl (fun _ h => (List.mem_cons_of_mem _ (List.mem_append_right _ h))) (by decide) (List.mem_of_getElem? (i := 2) rfl) (fun _ h => h) dX3_placeOf_53 ?_
            refine lv_iload S.1 S.2.1 dX3_placeOf_56 (lv_at hl 1 rfl) ?_
            refine s_zald S hX G (i := (i + 1)) (a := t) (x := (t 2)) hi_1 e_t (by unfold vp_in; decide) (congrArg t (by decide)) dX3_placeOf_58 ?_
            refine lv_if_eq (tgt := 70) S.1 S.2.1 dX3_placeOf_59 (by decide) (fun c_17 => ?_) (fun c_17 => ?_)
            · refine lv_iinc (v := (3 : Int32)) (lv' := [(4, .int (3 : Int32)), (5, .int (0 : Int32)), (3, .int (((0 : Int32) + plc1 t u 0 2) + plc1 t u 1 2)), (2, .int (u 2)), (0, .ref (E.2.2.2 i)), (1, .int (2 : Int32))]) S.1 S.2.1 dX3_placeOf_70 hl (k := 1) rfl (by decide) (by decide) rfl (fun ls hl => ?_)
              refine lv_goto (tgt := 11) S.1 S.2.1 dX3_placeOf_73 (by decide) ?_
              exact kJ_13 (((0 : Int32) + plc1 t u 0 2) + plc1 t u 1 2) _ _ _ _ _ ⟨(show (((0 : Int32) + plc1 t u 0 2) + plc1 t u 1 2) = (((0 : Int32) + plc1 t u 0 2) + plc1 t u 1 2) + plc1 t u 2 2 by first | (simp [plc1, c_14, c_16, c_17]; done) | (clear S hX G hl; grind [plc1])), rfl, rfl⟩ G (lv_sub hl [0, 2, 3, 4, 5] rfl)
            · refine lv_iload S.1 S.2.1 dX3_placeOf_62 (lv_at hl 0 rfl) ?_
              refine lv_if_eq (tgt := 70) S.1 S.2.1 dX3_placeOf_64 (by decide) (fun _ => ?_) (fun h => absurd (by decide) h)
              refine lv_iinc (v := (3 : Int32)) (lv' := [(4, .int (3 : Int32)), (5, .int (0 : Int32)), (3, .int (((0 : Int32) + plc1 t u 0 2) + plc1 t u 1 2)), (2, .int (u 2)), (0, .ref (E.2.2.2 i)), (1, .int (2 : Int32))]) S.1 S.2.1 dX3_placeOf_70 hl (k := 1) rfl (by decide) (by decide) rfl (fun ls hl => ?_)
              refine lv_goto (tgt := 11) S.1 S.2.1 dX3_placeOf_73 (by decide) ?_
              exact kJ_13 (((0 : Int32) + plc1 t u 0 2) + plc1 t u 1 2) _ _ _ _ _ ⟨(show (((0 : Int32) + plc1 t u 0 2) + plc1 t u 1 2) = (((0 : Int32) + plc1 t u 0 2) + plc1 t u 1 2) + plc1 t u 2 2 by first | (simp [plc1, c_14, c_16, c_17]; done) | (clear S hX G hl; grind [plc1])), rfl, rfl⟩ G (lv_sub hl [0, 2, 3, 4, 5] rfl)
          · refine lv_iload S.1 S.2.1 dX3_placeOf_39 (lv_at hl 0 rfl) ?_
            refine lv_iload_n S.1 S.2.1 dX3_placeOf_41 rfl (lv_at hl 4 rfl) ?_
            refine lv_icmp_ge (tgt := 49) S.1 S.2.1 dX3_placeOf_42 (by decide) (fun _ => ?_) (fun h => absurd (by decide) h)
            refine lv_iconst (v := (0 : Int32)) S.1 S.2.1 dX3_placeOf_49 (by decide) ?_
            refine lv_istore (lv' := [(5, .int (0 : Int32)), (4, .int (2 : Int32)), (3, .int (((0 : Int32) + plc1 t u 0 2) + plc1 t u 1 2)), (2, .int (u 2)), (0, .ref (E.2.2.2 i)), (1, .int (2 : Int32))]) S.1 S.2.1 dX3_placeOf_50 hl (by decide) rfl (fun ls hl => ?_)
            refine lv_aload_n S.1 S.2.1 dX3_placeOf_52 rfl (lv_at hl 4 rfl) ?_
            refine s_get S hX G (i := i) (kd := 3) (a := (I i)) (v := .ref (E.2.2.2 (i + 1))) (C := RX3) (T := TX3) (N := 4) 0 hi rfl rfl rfl (by decide) rfl (fun _ h => (List.mem_cons_of_mem _ (List.mem_append_right _ h))) (by decide) (List.mem_of_getElem? (i := 2) rfl) (fun _ h => h) dX3_placeOf_53 ?_
            refine lv_iload S.1 S.2.1 dX3_placeOf_56 (lv_at hl 1 rfl) ?_
            refine s_zald S hX G (i := (i + 1)) (a := t) (x := (t 2)) hi_1 e_t (by unfold vp_in; decide) (congrArg t (by decide)) dX3_placeOf_58 ?_
            refine lv_if_eq (tgt := 70) S.1 S.2.1 dX3_placeOf_59 (by decide) (fun c_18 => ?_) (fun c_18 => ?_)
            · refine lv_iinc (v := (3 : Int32)) (lv' := [(4, .int (3 : Int32)), (5, .int (0 : Int32)), (3, .int (((0 : Int32) + plc1 t u 0 2) + plc1 t u 1 2)), (2, .int (u 2)), (0, .ref (E.2.2.2 i)), (1, .int (2 : Int32))]) S.1 S.2.1 dX3_placeOf_70 hl (k := 1) rfl (by decide) (by decide) rfl (fun ls hl => ?_)
              refine lv_goto (tgt := 11) S.1 S.2.1 dX3_placeOf_73 (by decide) ?_
              exact kJ_13 (((0 : Int32) + plc1 t u 0 2) + plc1 t u 1 2) _ _ _ _ _ ⟨(show (((0 : Int32) + plc1 t u 0 2) + plc1 t u 1 2) = (((0 : Int32) + plc1 t u 0 2) + plc1 t u 1 2) + plc1 t u 2 2 by first | (simp [plc1, c_14, c_16, c_18]; done) | (clear S hX G hl; grind [plc1])), rfl, rfl⟩ G (lv_sub hl [0, 2, 3, 4, 5] rfl)
            · refine lv_iload S.1 S.2.1 dX3_placeOf_62 (lv_at hl 0 rfl) ?_
              refine lv_if_eq (tgt := 70) S.1 S.2.1 dX3_placeOf_64 (by decide) (fun _ => ?_) (fun h => absurd (by decide) h)
              refine lv_iinc (v := (3 : Int32)) (lv' := [(4, .int (3 : Int32)), (5, .int (0 : Int32)), (3, .int (((0 : Int32) + plc1 t u 0 2) + plc1 t u 1 2)), (2, .int (u 2)), (0, .ref (E.2.2.2 i)), (1, .int (2 : Int32))]) S.1 S.2.1 dX3_placeOf_70 hl (k := 1) rfl (by decide) (by decide) rfl (fun ls hl => ?_)
              refine lv_goto (tgt := 11) S.1 S.2.1 dX3_placeOf_73 (by decide) ?_
              exact kJ_13 (((0 : Int32) + plc1 t u 0 2) + plc1 t u 1 2) _ _ _ _ _ ⟨(show (((0 : Int32) + plc1 t u 0 2) + plc1 t u 1 2) = (((0 : Int32) + plc1 t u 0 2) + plc1 t u 1 2) + plc1 t u 2 2 by first | (simp [plc1, c_14, c_16, c_18]; done) | (clear S hX G hl; grind [plc1])), rfl, rfl⟩ G (lv_sub hl [0, 2, 3, 4, 5] rfl)
      · obtain ⟨h0, hI, hL⟩ := hP
        have h0 : x = ((((0 : Int32) + plc1 t u 0 2) + plc1 t u 1 2) + plc1 t u 2 2) := h0
        have hl : lv_has ls 6 [(4, .int (3 : Int32)), (3, .int x), (2, .int (u 2)), (0, .ref (E.2.2.2 i)), (1, .int (2 : Int32))] := hl
        subst h0
        have G : GS E I L sg H locs := G.same hI hL
        refine W.eq (g2 := F0 mg 11 ls []) rfl ?_
        refine lv_iload S.1 S.2.1 dX3_placeOf_11 (lv_at hl 0 rfl) ?_
        refine lv_iconst (v := (3 : Int32)) S.1 S.2.1 dX3_placeOf_13 (by decide) ?_
        refine lv_icmp_ge (tgt := 76) S.1 S.2.1 dX3_placeOf_14 (by decide) (fun _ => ?_) (fun h => absurd (by decide) h)
        refine lv_iload_n S.1 S.2.1 dX3_placeOf_76 rfl (lv_at hl 1 rfl) ?_
        refine s_iret (x := ((((0 : Int32) + plc1 t u 0 2) + plc1 t u 1 2) + plc1 t u 2 2)) S G hr hlk dX3_placeOf_77 ?_
        exact ⟨(congrArg (fun q : Int32 => some (Value.int q)) (show ((((0 : Int32) + plc1 t u 0 2) + plc1 t u 1 2) + plc1 t u 2 2) = (plcF t u 2) by simp [plcF])), rfl, rfl⟩
set_option maxHeartbeats 4000000 in
set_option maxRecDepth 100000 in
theorem k_X3_latch_2 (l : Launch) (E : Ev) {I : SI} {L : SL} (i : Nat) (slot : Int32) (current : Int32) (n : Nat → Int32) (t : Nat → Int32) (u : Nat → Int32) (w : Nat → Int32) (hi : sh (i) = 3) (hi_1 : sh (i+1) = 10) (hi_2 : sh (i+2) = 17) (hi_3 : sh (i+3) = 17) (e_n : I (i) = n) (e_t : I (i+1) = t) (e_u : I (i+2) = u) (e_w : I (i+3) = w) : CS l yX3_latch wsX3_latch ({ frames := 2, cells := 0, slots := 0, locals := 42 }) E [.ref (E.2.2.2 i), .int (2 : Int32), .int slot, .int current] I L (fun vv I' L' => vv = none ∧ I' = (up (up (up (up I (i) (if t 2 = 0 then upd n 3 (n 3 + 1) else n)) (i+1) (if t 2 = 0 then upd t 2 1 else t)) (i+2) (if t 2 = 0 then upd u 2 slot else u)) (i+3) (if t 2 = 0 then upd w 2 current else w)) ∧ L' = L) := by
  refine CS.of (cc := cX3_latch) (maxL := 4) (ret := none) (by decide) rfl (Nat.le_of_ble_eq_true rfl) ?_
  intro pg en sg mg below meth cg ls S hr hlk hX G hl
  have S : CallFix pg mg cg cX3_latch 4 sg _ wsX3_latch RX3 := S
  have hl : lv_has ls 4 [(0, .ref (E.2.2.2 i)), (1, .int (2 : Int32)), (2, .int slot), (3, .int current)] := hl
  refine lv_iload_n S.1 S.2.1 dX3_latch_0 rfl (lv_at hl 1 rfl) ?_
  refine s_callSN (As := [.int (2 : Int32)]) (rest := []) S hX G (k_X8_isFault l E (2 : Int32)) (va_cnB (bytes := cX8_isFault) (maxL := 1) (ret := (some .boolean)) 1 S.2.2.2.2 gX3_latch_X8_isFault_n26 rfl rfl rfl (hX.2.2.1.2 _ (List.mem_of_getElem? (i := 2) rfl)) (S.2.2.2.2 _ (List.mem_of_getElem? (i := 6) rfl)) (by decide +kernel) ⟨Nat.le_of_ble_eq_true rfl, Nat.le_of_ble_eq_true rfl⟩) (List.mem_of_getElem? (i := 5) rfl) rfl hl.1 rfl (Nat.le_of_ble_eq_true rfl) ⟨Nat.zero_le _, Nat.zero_le _⟩ dX3_latch_1 (fun v I1 L1 H locs hR G => ?_)
  obtain ⟨hv, hI, hL⟩ := hR
  subst hv
  have G : GS E I L sg H locs := G.same hI hL
  refine W.eq (g2 := F0 mg 4 ls [.int (if ¬ (2 : Int32) < (0 : Int32) ∧ ¬ (2 : Int32) < (2 : Int32) then 1 else 0)]) rfl ?_
  refine s_if_eq_b (P := ¬ (2 : Int32) < (0 : Int32) ∧ ¬ (2 : Int32) < (2 : Int32)) (tgt := 47) S dX3_latch_4 (by decide) (fun h => absurd (by decide) h) (fun _ => ?_)
  refine lv_aload_n S.1 S.2.1 dX3_latch_7 rfl (lv_at hl 0 rfl) ?_
  refine s_get S hX G (i := i) (kd := 3) (a := n) (v := .ref (E.2.2.2 (i + 1))) (C := RX3) (T := TX3) (N := 4) 0 hi e_n rfl rfl (by decide) rfl (fun _ h => (List.mem_cons_of_mem _ (List.mem_append_right _ h))) (by decide) (List.mem_of_getElem? (i := 1) rfl) (fun _ h => h) dX3_latch_8 ?_
  refine lv_iload_n S.1 S.2.1 dX3_latch_11 rfl (lv_at hl 1 rfl) ?_
  refine s_zald S hX G (i := (i + 1)) (a := t) (x := (t 2)) hi_1 e_t (by unfold vp_in; decide) (congrArg t (by decide)) dX3_latch_12 ?_
  refine lv_if_ne (tgt := 47) S.1 S.2.1 dX3_latch_13 (by decide) (fun c_1 => ?_) (fun c_1 => ?_)
  · refine s_vret S G hr hlk dX3_latch_47 ?_
    exact ⟨rfl, (st_eq4 (Eq.trans e_n (show n = (if t 2 = 0 then upd n 3 (n 3 + 1) else n) by first | (simp [c_1]; done) | (clear S hX G hl; grind []))) (Eq.trans e_t (show t = (if t 2 = 0 then upd t 2 1 else t) by first | (simp [c_1]; done) | (clear S hX G hl; grind []))) (Eq.trans e_u (show u = (if t 2 = 0 then upd u 2 slot else u) by first | (simp [c_1]; done) | (clear S hX G hl; grind []))) (Eq.trans e_w (show w = (if t 2 = 0 then upd w 2 current else w) by first | (simp [c_1]; done) | (clear S hX G hl; grind []))) (fun _ g0 g1 g2 g3 => rfl)), rfl⟩
  · refine lv_aload_n S.1 S.2.1 dX3_latch_16 rfl (lv_at hl 0 rfl) ?_
    refine s_get S hX G (i := i) (kd := 3) (a := n) (v := .ref (E.2.2.2 (i + 1))) (C := RX3) (T := TX3) (N := 4) 0 hi e_n rfl rfl (by decide) rfl (fun _ h => (List.mem_cons_of_mem _ (List.mem_append_right _ h))) (by decide) (List.mem_of_getElem? (i := 1) rfl) (fun _ h => h) dX3_latch_17 ?_
    refine lv_iload_n S.1 S.2.1 dX3_latch_20 rfl (lv_at hl 1 rfl) ?_
    refine lv_iconst (v := (1 : Int32)) S.1 S.2.1 dX3_latch_21 (by decide) ?_
    refine s_zast S hX G (i := (i + 1)) (jn := 2) (a := t) (I' := (up I (i + 1) (upd t 2 (1 : Int32)))) hi_1 e_t (by unfold vp_in; decide) (by decide) (Or.inr rfl) rfl dX3_latch_22 (fun H locs G => ?_)
    refine lv_aload_n S.1 S.2.1 dX3_latch_23 rfl (lv_at hl 0 rfl) ?_
    refine s_get S hX G (i := i) (kd := 3) (a := n) (v := .ref (E.2.2.2 (i + 2))) (C := RX3) (T := TX3) (N := 4) 1 hi ((up_ne (by omega)).trans e_n) rfl rfl (by decide) rfl (fun _ h => (List.mem_cons_of_mem _ (List.mem_append_right _ h))) (by decide) (List.mem_of_getElem? (i := 2) rfl) (fun _ h => h) dX3_latch_24 ?_
    refine lv_iload_n S.1 S.2.1 dX3_latch_27 rfl (lv_at hl 1 rfl) ?_
    refine lv_iload_n S.1 S.2.1 dX3_latch_28 rfl (lv_at hl 2 rfl) ?_
    refine s_iast S hX G (i := (i + 2)) (kd := 17) (n := 3) (jn := 2) (a := u) (I' := (up (up I (i + 1) (upd t 2 (1 : Int32))) (i + 2) (upd u 2 slot))) hi_2 ((up_ne (by omega)).trans e_u) (fun _ => rfl) (by decide) (by unfold vp_in; decide) (by decide) rfl dX3_latch_29 (fun H locs G => ?_)
    refine lv_aload_n S.1 S.2.1 dX3_latch_30 rfl (lv_at hl 0 rfl) ?_
    refine s_get S hX G (i := i) (kd := 3) (a := n) (v := .ref (E.2.2.2 (i + 3))) (C := RX3) (T := TX3) (N := 4) 2 hi ((up_ne (by omega)).trans ((up_ne (by omega)).trans e_n)) rfl rfl (by decide) rfl (fun _ h => (List.mem_cons_of_mem _ (List.mem_append_right _ h))) (by decide) (List.mem_of_getElem? (i := 3) rfl) (fun _ h => h) dX3_latch_31 ?_
    refine lv_iload_n S.1 S.2.1 dX3_latch_34 rfl (lv_at hl 1 rfl) ?_
    refine lv_iload_n S.1 S.2.1 dX3_latch_35 rfl (lv_at hl 3 rfl) ?_
    refine s_iast S hX G (i := (i + 3)) (kd := 17) (n := 3) (jn := 2) (a := w) (I' := (up (up (up I (i + 1) (upd t 2 (1 : Int32))) (i + 2) (upd u 2 slot)) (i + 3) (upd w 2 current))) hi_3 ((up_ne (by omega)).trans ((up_ne (by omega)).trans e_w)) (fun _ => rfl) (by decide) (by unfold vp_in; decide) (by decide) rfl dX3_latch_36 (fun H locs G => ?_)
    refine lv_aload_n S.1 S.2.1 dX3_latch_37 rfl (lv_at hl 0 rfl) ?_
    refine lv_dup S.1 S.2.1 dX3_latch_38 rfl ?_
    refine s_get S hX G (i := i) (kd := 3) (a := n) (v := .int (n 3)) (C := RX3) (T := TX3) (N := 4) 3 hi ((up_ne (by omega)).trans ((up_ne (by omega)).trans ((up_ne (by omega)).trans e_n))) rfl rfl (by decide) rfl (fun _ h => (List.mem_cons_of_mem _ (List.mem_append_right _ h))) (by decide) (List.mem_of_getElem? (i := 4) rfl) (fun _ h => h) dX3_latch_39 ?_
    refine lv_iconst (v := (1 : Int32)) S.1 S.2.1 dX3_latch_42 (by decide) ?_
    refine s_iadd (v := ((n 3) + (1 : Int32))) S dX3_latch_43 rfl ?_
    refine lv_topi (fun y_2 ey_2 => ?_)
    refine s_put S hX G (i := i) (kd := 3) (a := n) (a' := (upd n 3 y_2)) (I' := (up (up (up (up I (i + 1) (upd t 2 (1 : Int32))) (i + 2) (upd u 2 slot)) (i + 3) (upd w 2 current)) i (upd n 3 y_2))) (v := .int y_2) (ty := .int) (ty0 := tyX3) (C := RX3) (T := TX3) (N := 4) 3 hi ((up_ne (by omega)).trans ((up_ne (by omega)).trans ((up_ne (by omega)).trans e_n))) rfl rfl rfl (by decide) rfl (fun _ h => (List.mem_cons_of_mem _ (List.mem_append_right _ h))) tyX3_ok nmX3 (by decide) (List.mem_of_getElem? (i := 4) rfl) (fun _ h => h) rfl (by decide +kernel) rfl rfl (Nat.le_of_ble_eq_true rfl) dX3_latch_44 (fun H locs G => ?_)
    refine s_vret S G hr hlk dX3_latch_47 ?_
    exact ⟨rfl, (st_eq4 (Eq.trans up_eq (show (upd n 3 y_2) = (if t 2 = 0 then upd n 3 (n 3 + 1) else n) by subst ey_2; (first | (simp [c_1]; done) | (clear S hX G hl; grind [])))) (Eq.trans ((up_ne (by omega)).trans ((up_ne (by omega)).trans ((up_ne (by omega)).trans up_eq))) (show (upd t 2 (1 : Int32)) = (if t 2 = 0 then upd t 2 1 else t) by subst ey_2; (first | (simp [c_1]; done) | (clear S hX G hl; grind [])))) (Eq.trans ((up_ne (by omega)).trans ((up_ne (by omega)).trans up_eq)) (show (upd u 2 slot) = (if t 2 = 0 then upd u 2 slot else u) by subst ey_2; (first | (simp [c_1]; done) | (clear S hX G hl; grind [])))) (Eq.trans ((up_ne (by omega)).trans up_eq) (show (upd w 2 current) = (if t 2 = 0 then upd w 2 current else w) by subst ey_2; (first | (simp [c_1]; done) | (clear S hX G hl; grind [])))) (fun _ g0 g1 g2 g3 => ((up_ne g0).trans ((up_ne g3).trans ((up_ne g2).trans (up_ne g1)))))), rfl⟩
set_option maxHeartbeats 4000000 in
set_option maxRecDepth 100000 in
theorem k_X3_release_2 (l : Launch) (E : Ev) {I : SI} {L : SL} (i : Nat) (n : Nat → Int32) (t : Nat → Int32) (hi : sh (i) = 3) (hi_1 : sh (i+1) = 10) (hi_2 : sh (i+2) = 17) (hi_3 : sh (i+3) = 17) (e_n : I (i) = n) (e_t : I (i+1) = t) : CS l yX3_release wsX3_release ({ frames := 3, cells := 0, slots := 0, locals := 63 }) E [.ref (E.2.2.2 i), .int (2 : Int32)] I L (fun vv I' L' => vv = none ∧ I' = (up (up I (i) (if ¬ t 2 = 0 then upd n 3 (n 3 - 1) else n)) (i+1) (if ¬ t 2 = 0 then upd t 2 0 else t)) ∧ L' = L) := by
  refine CS.of (cc := cX3_release) (maxL := 2) (ret := none) (by decide) rfl (Nat.le_of_ble_eq_true rfl) ?_
  intro pg en sg mg below meth cg ls S hr hlk hX G hl
  have S : CallFix pg mg cg cX3_release 2 sg _ wsX3_release RX3 := S
  have hl : lv_has ls 2 [(0, .ref (E.2.2.2 i)), (1, .int (2 : Int32))] := hl
  refine lv_aload_n S.1 S.2.1 dX3_release_0 rfl (lv_at hl 0 rfl) ?_
  refine lv_iload_n S.1 S.2.1 dX3_release_1 rfl (lv_at hl 1 rfl) ?_
  refine s_callV (C := RX3) (As := [.int (2 : Int32)]) (rest := []) (i := i) (kd := 3) S hX G (k_X3_isLatched_2 l E i t hi hi_1 hi_2 hi_3 e_t) (cwV (bytes := cX3_isLatched) (maxL := 2) (ret := (some .boolean)) 1 S.2.2.2.2 gX3_release_X3_isLatched rfl rfl rfl (by decide +kernel) ⟨Nat.le_of_ble_eq_true rfl, Nat.le_of_ble_eq_true rfl⟩) hi rfl rfl rfl (by decide) rfl hl.1 rfl (Nat.le_of_ble_eq_true rfl) ⟨Nat.zero_le _, Nat.zero_le _⟩ dX3_release_2 (fun v I1 L1 H locs hR G => ?_)
  obtain ⟨hv, hI, hL⟩ := hR
  subst hv
  have G : GS E I L sg H locs := G.same hI hL
  refine W.eq (g2 := F0 mg 5 ls [.int (if ¬ t 2 = 0 then 1 else 0)]) rfl ?_
  refine s_if_eq_b (P := ¬ t 2 = 0) (tgt := 25) S dX3_release_5 (by decide) (fun c_1 => ?_) (fun c_1 => ?_)
  · refine s_vret S G hr hlk dX3_release_25 ?_
    exact ⟨rfl, (st_eq2 (Eq.trans e_n (show n = (if ¬ t 2 = 0 then upd n 3 (n 3 - 1) else n) by first | (simp [c_1]; done) | (clear S hX G hl; grind []))) (Eq.trans e_t (show t = (if ¬ t 2 = 0 then upd t 2 0 else t) by first | (simp [c_1]; done) | (clear S hX G hl; grind []))) (fun _ g0 g1 => rfl)), rfl⟩
  · refine lv_aload_n S.1 S.2.1 dX3_release_8 rfl (lv_at hl 0 rfl) ?_
    refine s_get S hX G (i := i) (kd := 3) (a := n) (v := .ref (E.2.2.2 (i + 1))) (C := RX3) (T := TX3) (N := 4) 0 hi e_n rfl rfl (by decide) rfl (fun _ h => (List.mem_cons_of_mem _ (List.mem_append_right _ h))) (by decide) (List.mem_of_getElem? (i := 1) rfl) (fun _ h => h) dX3_release_9 ?_
    refine lv_iload_n S.1 S.2.1 dX3_release_12 rfl (lv_at hl 1 rfl) ?_
    refine lv_iconst (v := (0 : Int32)) S.1 S.2.1 dX3_release_13 (by decide) ?_
    refine s_zast S hX G (i := (i + 1)) (jn := 2) (a := t) (I' := (up I (i + 1) (upd t 2 (0 : Int32)))) hi_1 e_t (by unfold vp_in; decide) (by decide) (Or.inl rfl) rfl dX3_release_14 (fun H locs G => ?_)
    refine lv_aload_n S.1 S.2.1 dX3_release_15 rfl (lv_at hl 0 rfl) ?_
    refine lv_dup S.1 S.2.1 dX3_release_16 rfl ?_
    refine s_get S hX G (i := i) (kd := 3) (a := n) (v := .int (n 3)) (C := RX3) (T := TX3) (N := 4) 3 hi ((up_ne (by omega)).trans e_n) rfl rfl (by decide) rfl (fun _ h => (List.mem_cons_of_mem _ (List.mem_append_right _ h))) (by decide) (List.mem_of_getElem? (i := 2) rfl) (fun _ h => h) dX3_release_17 ?_
    refine lv_iconst (v := (1 : Int32)) S.1 S.2.1 dX3_release_20 (by decide) ?_
    refine s_isub (v := ((n 3) - (1 : Int32))) S dX3_release_21 rfl ?_
    refine lv_topi (fun y_2 ey_2 => ?_)
    refine s_put S hX G (i := i) (kd := 3) (a := n) (a' := (upd n 3 y_2)) (I' := (up (up I (i + 1) (upd t 2 (0 : Int32))) i (upd n 3 y_2))) (v := .int y_2) (ty := .int) (ty0 := tyX3) (C := RX3) (T := TX3) (N := 4) 3 hi ((up_ne (by omega)).trans e_n) rfl rfl rfl (by decide) rfl (fun _ h => (List.mem_cons_of_mem _ (List.mem_append_right _ h))) tyX3_ok nmX3 (by decide) (List.mem_of_getElem? (i := 2) rfl) (fun _ h => h) rfl (by decide +kernel) rfl rfl (Nat.le_of_ble_eq_true rfl) dX3_release_22 (fun H locs G => ?_)
    refine s_vret S G hr hlk dX3_release_25 ?_
    exact ⟨rfl, (st_eq2 (Eq.trans up_eq (show (upd n 3 y_2) = (if ¬ t 2 = 0 then upd n 3 (n 3 - 1) else n) by subst ey_2; (first | (simp [c_1]; done) | (clear S hX G hl; grind [])))) (Eq.trans ((up_ne (by omega)).trans up_eq) (show (upd t 2 (0 : Int32)) = (if ¬ t 2 = 0 then upd t 2 0 else t) by subst ey_2; (first | (simp [c_1]; done) | (clear S hX G hl; grind [])))) (fun _ g0 g1 => ((up_ne g0).trans (up_ne g1)))), rfl⟩
set_option maxHeartbeats 4000000 in
set_option maxRecDepth 100000 in
theorem k_X3_copyFrom (l : Launch) (E : Ev) {I : SI} {L : SL} (i : Nat) (j : Nat) (n : Nat → Int32) (t : Nat → Int32) (u : Nat → Int32) (w : Nat → Int32) (nj : Nat → Int32) (tj : Nat → Int32) (uj : Nat → Int32) (wj : Nat → Int32) (hi : sh (i) = 3) (hi_1 : sh (i+1) = 10) (hi_2 : sh (i+2) = 17) (hi_3 : sh (i+3) = 17) (hj : sh (j) = 3) (hj_1 : sh (j+1) = 10) (hj_2 : sh (j+2) = 17) (hj_3 : sh (j+3) = 17) (e_n : I (i) = n) (e_t : I (i+1) = t) (e_u : I (i+2) = u) (e_w : I (i+3) = w) (e_nj : I (j) = nj) (e_tj : I (j+1) = tj) (e_uj : I (j+2) = uj) (e_wj : I (j+3) = wj) (hne : i + 3 < j ∨ j + 3 < i) (g0 : isb (tj 0)) (g1 : isb (tj 1)) (g2 : isb (tj 2)) : CS l yX3_copyFrom wsX3_copyFrom ({ frames := 0, cells := 0, slots := 0, locals := 0 }) E [.ref (E.2.2.2 i), .ref (E.2.2.2 j)] I L (fun vv I' L' => vv = none ∧ I' = (up (up (up (up I (i) (upd n 3 (nj 3))) (i+1) (upd (upd (upd t 0 (tj 0)) 1 (tj 1)) 2 (tj 2))) (i+2) (upd (upd (upd u 0 (uj 0)) 1 (uj 1)) 2 (uj 2))) (i+3) (upd (upd (upd w 0 (wj 0)) 1 (wj 1)) 2 (wj 2))) ∧ L' = L) := by
  refine CS.of (cc := cX3_copyFrom) (maxL := 3) (ret := none) (by decide) rfl (Nat.le_of_ble_eq_true rfl) ?_
  intro pg en sg mg below meth cg ls S hr hlk hX G hl
  have S : CallFix pg mg cg cX3_copyFrom 3 sg _ wsX3_copyFrom RX3 := S
  have hl : lv_has ls 3 [(0, .ref (E.2.2.2 i)), (1, .ref (E.2.2.2 j))] := hl
  refine lv_iconst (v := (0 : Int32)) S.1 S.2.1 dX3_copyFrom_0 (by decide) ?_
  refine lv_istore_n (lv' := [(2, .int (0 : Int32)), (0, .ref (E.2.2.2 i)), (1, .ref (E.2.2.2 j))]) S.1 S.2.1 dX3_copyFrom_1 rfl hl (by decide) rfl (fun ls hl => ?_)
  refine lv_iload_n S.1 S.2.1 dX3_copyFrom_2 rfl (lv_at hl 0 rfl) ?_
  refine lv_iconst (v := (3 : Int32)) S.1 S.2.1 dX3_copyFrom_3 (by decide) ?_
  refine lv_icmp_ge (tgt := 49) S.1 S.2.1 dX3_copyFrom_4 (by decide) (fun h => absurd h (by decide)) (fun _ => ?_)
  refine lv_aload_n S.1 S.2.1 dX3_copyFrom_7 rfl (lv_at hl 1 rfl) ?_
  refine s_get S hX G (i := i) (kd := 3) (a := n) (v := .ref (E.2.2.2 (i + 1))) (C := RX3) (T := TX3) (N := 4) 0 hi e_n rfl rfl (by decide) rfl (fun _ h => (List.mem_cons_of_mem _ (List.mem_append_right _ h))) (by decide) (List.mem_of_getElem? (i := 1) rfl) (fun _ h => h) dX3_copyFrom_8 ?_
  refine lv_iload_n S.1 S.2.1 dX3_copyFrom_11 rfl (lv_at hl 0 rfl) ?_
  refine lv_aload_n S.1 S.2.1 dX3_copyFrom_12 rfl (lv_at hl 2 rfl) ?_
  refine s_get S hX G (i := j) (kd := 3) (a := nj) (v := .ref (E.2.2.2 (j + 1))) (C := RX3) (T := TX3) (N := 4) 0 hj e_nj rfl rfl (by decide) rfl (fun _ h => (List.mem_cons_of_mem _ (List.mem_append_right _ h))) (by decide) (List.mem_of_getElem? (i := 1) rfl) (fun _ h => h) dX3_copyFrom_13 ?_
  refine lv_iload_n S.1 S.2.1 dX3_copyFrom_16 rfl (lv_at hl 0 rfl) ?_
  refine s_zald S hX G (i := (j + 1)) (a := tj) (x := (tj 0)) hj_1 e_tj (by unfold vp_in; decide) (congrArg tj (by decide)) dX3_copyFrom_17 ?_
  refine s_zast S hX G (i := (i + 1)) (jn := 0) (a := t) (I' := (up I (i + 1) (upd t 0 (tj 0)))) hi_1 e_t (by unfold vp_in; decide) (by decide) g0 rfl dX3_copyFrom_18 (fun H locs G => ?_)
  refine lv_aload_n S.1 S.2.1 dX3_copyFrom_19 rfl (lv_at hl 1 rfl) ?_
  refine s_get S hX G (i := i) (kd := 3) (a := n) (v := .ref (E.2.2.2 (i + 2))) (C := RX3) (T := TX3) (N := 4) 1 hi ((up_ne (by omega)).trans e_n) rfl rfl (by decide) rfl (fun _ h => (List.mem_cons_of_mem _ (List.mem_append_right _ h))) (by decide) (List.mem_of_getElem? (i := 2) rfl) (fun _ h => h) dX3_copyFrom_20 ?_
  refine lv_iload_n S.1 S.2.1 dX3_copyFrom_23 rfl (lv_at hl 0 rfl) ?_
  refine lv_aload_n S.1 S.2.1 dX3_copyFrom_24 rfl (lv_at hl 2 rfl) ?_
  refine s_get S hX G (i := j) (kd := 3) (a := nj) (v := .ref (E.2.2.2 (j + 2))) (C := RX3) (T := TX3) (N := 4) 1 hj ((up_ne (by omega)).trans e_nj) rfl rfl (by decide) rfl (fun _ h => (List.mem_cons_of_mem _ (List.mem_append_right _ h))) (by decide) (List.mem_of_getElem? (i := 2) rfl) (fun _ h => h) dX3_copyFrom_25 ?_
  refine lv_iload_n S.1 S.2.1 dX3_copyFrom_28 rfl (lv_at hl 0 rfl) ?_
  refine s_iald S hX G (i := (j + 2)) (kd := 17) (n := 3) (a := uj) (x := (uj 0)) hj_2 ((up_ne (by omega)).trans e_uj) rfl (by decide) (by unfold vp_in; decide) (congrArg uj (by decide)) dX3_copyFrom_29 ?_
  refine s_iast S hX G (i := (i + 2)) (kd := 17) (n := 3) (jn := 0) (a := u) (I' := (up (up I (i + 1) (upd t 0 (tj 0))) (i + 2) (upd u 0 (uj 0)))) hi_2 ((up_ne (by omega)).trans e_u) (fun _ => rfl) (by decide) (by unfold vp_in; decide) (by decide) rfl dX3_copyFrom_30 (fun H locs G => ?_)
  refine lv_aload_n S.1 S.2.1 dX3_copyFrom_31 rfl (lv_at hl 1 rfl) ?_
  refine s_get S hX G (i := i) (kd := 3) (a := n) (v := .ref (E.2.2.2 (i + 3))) (C := RX3) (T := TX3) (N := 4) 2 hi ((up_ne (by omega)).trans ((up_ne (by omega)).trans e_n)) rfl rfl (by decide) rfl (fun _ h => (List.mem_cons_of_mem _ (List.mem_append_right _ h))) (by decide) (List.mem_of_getElem? (i := 3) rfl) (fun _ h => h) dX3_copyFrom_32 ?_
  refine lv_iload_n S.1 S.2.1 dX3_copyFrom_35 rfl (lv_at hl 0 rfl) ?_
  refine lv_aload_n S.1 S.2.1 dX3_copyFrom_36 rfl (lv_at hl 2 rfl) ?_
  refine s_get S hX G (i := j) (kd := 3) (a := nj) (v := .ref (E.2.2.2 (j + 3))) (C := RX3) (T := TX3) (N := 4) 2 hj ((up_ne (by omega)).trans ((up_ne (by omega)).trans e_nj)) rfl rfl (by decide) rfl (fun _ h => (List.mem_cons_of_mem _ (List.mem_append_right _ h))) (by decide) (List.mem_of_getElem? (i := 3) rfl) (fun _ h => h) dX3_copyFrom_37 ?_
  refine lv_iload_n S.1 S.2.1 dX3_copyFrom_40 rfl (lv_at hl 0 rfl) ?_
  refine s_iald S hX G (i := (j + 3)) (kd := 17) (n := 3) (a := wj) (x := (wj 0)) hj_3 ((up_ne (by omega)).trans ((up_ne (by omega)).trans e_wj)) rfl (by decide) (by unfold vp_in; decide) (congrArg wj (by decide)) dX3_copyFrom_41 ?_
  refine s_iast S hX G (i := (i + 3)) (kd := 17) (n := 3) (jn := 0) (a := w) (I' := (up (up (up I (i + 1) (upd t 0 (tj 0))) (i + 2) (upd u 0 (uj 0))) (i + 3) (upd w 0 (wj 0)))) hi_3 ((up_ne (by omega)).trans ((up_ne (by omega)).trans e_w)) (fun _ => rfl) (by decide) (by unfold vp_in; decide) (by decide) rfl dX3_copyFrom_42 (fun H locs G => ?_)
  refine lv_iinc (v := (1 : Int32)) (lv' := [(2, .int (1 : Int32)), (0, .ref (E.2.2.2 i)), (1, .ref (E.2.2.2 j))]) S.1 S.2.1 dX3_copyFrom_43 hl (k := 0) rfl (by decide) (by decide) rfl (fun ls hl => ?_)
  refine lv_goto (tgt := 2) S.1 S.2.1 dX3_copyFrom_46 (by decide) ?_
  refine lv_iload_n S.1 S.2.1 dX3_copyFrom_2 rfl (lv_at hl 0 rfl) ?_
  refine lv_iconst (v := (3 : Int32)) S.1 S.2.1 dX3_copyFrom_3 (by decide) ?_
  refine lv_icmp_ge (tgt := 49) S.1 S.2.1 dX3_copyFrom_4 (by decide) (fun h => absurd h (by decide)) (fun _ => ?_)
  refine lv_aload_n S.1 S.2.1 dX3_copyFrom_7 rfl (lv_at hl 1 rfl) ?_
  refine s_get S hX G (i := i) (kd := 3) (a := n) (v := .ref (E.2.2.2 (i + 1))) (C := RX3) (T := TX3) (N := 4) 0 hi ((up_ne (by omega)).trans ((up_ne (by omega)).trans ((up_ne (by omega)).trans e_n))) rfl rfl (by decide) rfl (fun _ h => (List.mem_cons_of_mem _ (List.mem_append_right _ h))) (by decide) (List.mem_of_getElem? (i := 1) rfl) (fun _ h => h) dX3_copyFrom_8 ?_
  refine lv_iload_n S.1 S.2.1 dX3_copyFrom_11 rfl (lv_at hl 0 rfl) ?_
  refine lv_aload_n S.1 S.2.1 dX3_copyFrom_12 rfl (lv_at hl 2 rfl) ?_
  refine s_get S hX G (i := j) (kd := 3) (a := nj) (v := .ref (E.2.2.2 (j + 1))) (C := RX3) (T := TX3) (N := 4) 0 hj ((up_ne (by omega)).trans ((up_ne (by omega)).trans ((up_ne (by omega)).trans e_nj))) rfl rfl (by decide) rfl (fun _ h => (List.mem_cons_of_mem _ (List.mem_append_right _ h))) (by decide) (List.mem_of_getElem? (i := 1) rfl) (fun _ h => h) dX3_copyFrom_13 ?_
  refine lv_iload_n S.1 S.2.1 dX3_copyFrom_16 rfl (lv_at hl 0 rfl) ?_
  refine s_zald S hX G (i := (j + 1)) (a := tj) (x := (tj 1)) hj_1 ((up_ne (by omega)).trans ((up_ne (by omega)).trans ((up_ne (by omega)).trans e_tj))) (by unfold vp_in; decide) (congrArg tj (by decide)) dX3_copyFrom_17 ?_
  refine s_zast S hX G (i := (i + 1)) (jn := 1) (a := (upd t 0 (tj 0))) (I' := (up (up (up I (i + 2) (upd u 0 (uj 0))) (i + 3) (upd w 0 (wj 0))) (i + 1) (upd (upd t 0 (tj 0)) 1 (tj 1)))) hi_1 ((up_ne (by omega)).trans ((up_ne (by omega)).trans up_eq)) (by unfold vp_in; decide) (by decide) g1 (by rw [up_swap (i := (i + 1)) (j := (i + 2)) (by omega), up_swap (i := (i + 1)) (j := (i + 3)) (by omega), up_up]) dX3_copyFrom_18 (fun H locs G => ?_)
  refine lv_aload_n S.1 S.2.1 dX3_copyFrom_19 rfl (lv_at hl 1 rfl) ?_
  refine s_get S hX G (i := i) (kd := 3) (a := n) (v := .ref (E.2.2.2 (i + 2))) (C := RX3) (T := TX3) (N := 4) 1 hi ((up_ne (by omega)).trans ((up_ne (by omega)).trans ((up_ne (by omega)).trans e_n))) rfl rfl (by decide) rfl (fun _ h => (List.mem_cons_of_mem _ (List.mem_append_right _ h))) (by decide) (List.mem_of_getElem? (i := 2) rfl) (fun _ h => h) dX3_copyFrom_20 ?_
  refine lv_iload_n S.1 S.2.1 dX3_copyFrom_23 rfl (lv_at hl 0 rfl) ?_
  refine lv_aload_n S.1 S.2.1 dX3_copyFrom_24 rfl (lv_at hl 2 rfl) ?_
  refine s_get S hX G (i := j) (kd := 3) (a := nj) (v := .ref (E.2.2.2 (j + 2))) (C := RX3) (T := TX3) (N := 4) 1 hj ((up_ne (by omega)).trans ((up_ne (by omega)).trans ((up_ne (by omega)).trans e_nj))) rfl rfl (by decide) rfl (fun _ h => (List.mem_cons_of_mem _ (List.mem_append_right _ h))) (by decide) (List.mem_of_getElem? (i := 2) rfl) (fun _ h => h) dX3_copyFrom_25 ?_
  refine lv_iload_n S.1 S.2.1 dX3_copyFrom_28 rfl (lv_at hl 0 rfl) ?_
  refine s_iald S hX G (i := (j + 2)) (kd := 17) (n := 3) (a := uj) (x := (uj 1)) hj_2 ((up_ne (by omega)).trans ((up_ne (by omega)).trans ((up_ne (by omega)).trans e_uj))) rfl (by decide) (by unfold vp_in; decide) (congrArg uj (by decide)) dX3_copyFrom_29 ?_
  refine s_iast S hX G (i := (i + 2)) (kd := 17) (n := 3) (jn := 1) (a := (upd u 0 (uj 0))) (I' := (up (up (up I (i + 3) (upd w 0 (wj 0))) (i + 1) (upd (upd t 0 (tj 0)) 1 (tj 1))) (i + 2) (upd (upd u 0 (uj 0)) 1 (uj 1)))) hi_2 ((up_ne (by omega)).trans ((up_ne (by omega)).trans up_eq)) (fun _ => rfl) (by decide) (by unfold vp_in; decide) (by decide) (by rw [up_swap (i := (i + 2)) (j := (i + 3)) (by omega), up_swap (i := (i + 2)) (j := (i + 1)) (by omega), up_up]) dX3_copyFrom_30 (fun H locs G => ?_)
  refine lv_aload_n S.1 S.2.1 dX3_copyFrom_31 rfl (lv_at hl 1 rfl) ?_
  refine s_get S hX G (i := i) (kd := 3) (a := n) (v := .ref (E.2.2.2 (i + 3))) (C := RX3) (T := TX3) (N := 4) 2 hi ((up_ne (by omega)).trans ((up_ne (by omega)).trans ((up_ne (by omega)).trans e_n))) rfl rfl (by decide) rfl (fun _ h => (List.mem_cons_of_mem _ (List.mem_append_right _ h))) (by decide) (List.mem_of_getElem? (i := 3) rfl) (fun _ h => h) dX3_copyFrom_32 ?_
  refine lv_iload_n S.1 S.2.1 dX3_copyFrom_35 rfl (lv_at hl 0 rfl) ?_
  refine lv_aload_n S.1 S.2.1 dX3_copyFrom_36 rfl (lv_at hl 2 rfl) ?_
  refine s_get S hX G (i := j) (kd := 3) (a := nj) (v := .ref (E.2.2.2 (j + 3))) (C := RX3) (T := TX3) (N := 4) 2 hj ((up_ne (by omega)).trans ((up_ne (by omega)).trans ((up_ne (by omega)).trans e_nj))) rfl rfl (by decide) rfl (fun _ h => (List.mem_cons_of_mem _ (List.mem_append_right _ h))) (by decide) (List.mem_of_getElem? (i := 3) rfl) (fun _ h => h) dX3_copyFrom_37 ?_
  refine lv_iload_n S.1 S.2.1 dX3_copyFrom_40 rfl (lv_at hl 0 rfl) ?_
  refine s_iald S hX G (i := (j + 3)) (kd := 17) (n := 3) (a := wj) (x := (wj 1)) hj_3 ((up_ne (by omega)).trans ((up_ne (by omega)).trans ((up_ne (by omega)).trans e_wj))) rfl (by decide) (by unfold vp_in; decide) (congrArg wj (by decide)) dX3_copyFrom_41 ?_
  refine s_iast S hX G (i := (i + 3)) (kd := 17) (n := 3) (jn := 1) (a := (upd w 0 (wj 0))) (I' := (up (up (up I (i + 1) (upd (upd t 0 (tj 0)) 1 (tj 1))) (i + 2) (upd (upd u 0 (uj 0)) 1 (uj 1))) (i + 3) (upd (upd w 0 (wj 0)) 1 (wj 1)))) hi_3 ((up_ne (by omega)).trans ((up_ne (by omega)).trans up_eq)) (fun _ => rfl) (by decide) (by unfold vp_in; decide) (by decide) (by rw [up_swap (i := (i + 3)) (j := (i + 1)) (by omega), up_swap (i := (i + 3)) (j := (i + 2)) (by omega), up_up]) dX3_copyFrom_42 (fun H locs G => ?_)
  refine lv_iinc (v := (2 : Int32)) (lv' := [(2, .int (2 : Int32)), (0, .ref (E.2.2.2 i)), (1, .ref (E.2.2.2 j))]) S.1 S.2.1 dX3_copyFrom_43 hl (k := 0) rfl (by decide) (by decide) rfl (fun ls hl => ?_)
  refine lv_goto (tgt := 2) S.1 S.2.1 dX3_copyFrom_46 (by decide) ?_
  refine lv_iload_n S.1 S.2.1 dX3_copyFrom_2 rfl (lv_at hl 0 rfl) ?_
  refine lv_iconst (v := (3 : Int32)) S.1 S.2.1 dX3_copyFrom_3 (by decide) ?_
  refine lv_icmp_ge (tgt := 49) S.1 S.2.1 dX3_copyFrom_4 (by decide) (fun h => absurd h (by decide)) (fun _ => ?_)
  refine lv_aload_n S.1 S.2.1 dX3_copyFrom_7 rfl (lv_at hl 1 rfl) ?_
  refine s_get S hX G (i := i) (kd := 3) (a := n) (v := .ref (E.2.2.2 (i + 1))) (C := RX3) (T := TX3) (N := 4) 0 hi ((up_ne (by omega)).trans ((up_ne (by omega)).trans ((up_ne (by omega)).trans e_n))) rfl rfl (by decide) rfl (fun _ h => (List.mem_cons_of_mem _ (List.mem_append_right _ h))) (by decide) (List.mem_of_getElem? (i := 1) rfl) (fun _ h => h) dX3_copyFrom_8 ?_
  refine lv_iload_n S.1 S.2.1 dX3_copyFrom_11 rfl (lv_at hl 0 rfl) ?_
  refine lv_aload_n S.1 S.2.1 dX3_copyFrom_12 rfl (lv_at hl 2 rfl) ?_
  refine s_get S hX G (i := j) (kd := 3) (a := nj) (v := .ref (E.2.2.2 (j + 1))) (C := RX3) (T := TX3) (N := 4) 0 hj ((up_ne (by omega)).trans ((up_ne (by omega)).trans ((up_ne (by omega)).trans e_nj))) rfl rfl (by decide) rfl (fun _ h => (List.mem_cons_of_mem _ (List.mem_append_right _ h))) (by decide) (List.mem_of_getElem? (i := 1) rfl) (fun _ h => h) dX3_copyFrom_13 ?_
  refine lv_iload_n S.1 S.2.1 dX3_copyFrom_16 rfl (lv_at hl 0 rfl) ?_
  refine s_zald S hX G (i := (j + 1)) (a := tj) (x := (tj 2)) hj_1 ((up_ne (by omega)).trans ((up_ne (by omega)).trans ((up_ne (by omega)).trans e_tj))) (by unfold vp_in; decide) (congrArg tj (by decide)) dX3_copyFrom_17 ?_
  refine s_zast S hX G (i := (i + 1)) (jn := 2) (a := (upd (upd t 0 (tj 0)) 1 (tj 1))) (I' := (up (up (up I (i + 2) (upd (upd u 0 (uj 0)) 1 (uj 1))) (i + 3) (upd (upd w 0 (wj 0)) 1 (wj 1))) (i + 1) (upd (upd (upd t 0 (tj 0)) 1 (tj 1)) 2 (tj 2)))) hi_1 ((up_ne (by omega)).trans ((up_ne (by omega)).trans up_eq)) (by unfold vp_in; decide) (by decide) g2 (by rw [up_swap (i := (i + 1)) (j := (i + 2)) (by omega), up_swap (i := (i + 1)) (j := (i + 3)) (by omega), up_up]) dX3_copyFrom_18 (fun H locs G => ?_)
  refine lv_aload_n S.1 S.2.1 dX3_copyFrom_19 rfl (lv_at hl 1 rfl) ?_
  refine s_get S hX G (i := i) (kd := 3) (a := n) (v := .ref (E.2.2.2 (i + 2))) (C := RX3) (T := TX3) (N := 4) 1 hi ((up_ne (by omega)).trans ((up_ne (by omega)).trans ((up_ne (by omega)).trans e_n))) rfl rfl (by decide) rfl (fun _ h => (List.mem_cons_of_mem _ (List.mem_append_right _ h))) (by decide) (List.mem_of_getElem? (i := 2) rfl) (fun _ h => h) dX3_copyFrom_20 ?_
  refine lv_iload_n S.1 S.2.1 dX3_copyFrom_23 rfl (lv_at hl 0 rfl) ?_
  refine lv_aload_n S.1 S.2.1 dX3_copyFrom_24 rfl (lv_at hl 2 rfl) ?_
  refine s_get S hX G (i := j) (kd := 3) (a := nj) (v := .ref (E.2.2.2 (j + 2))) (C := RX3) (T := TX3) (N := 4) 1 hj ((up_ne (by omega)).trans ((up_ne (by omega)).trans ((up_ne (by omega)).trans e_nj))) rfl rfl (by decide) rfl (fun _ h => (List.mem_cons_of_mem _ (List.mem_append_right _ h))) (by decide) (List.mem_of_getElem? (i := 2) rfl) (fun _ h => h) dX3_copyFrom_25 ?_
  refine lv_iload_n S.1 S.2.1 dX3_copyFrom_28 rfl (lv_at hl 0 rfl) ?_
  refine s_iald S hX G (i := (j + 2)) (kd := 17) (n := 3) (a := uj) (x := (uj 2)) hj_2 ((up_ne (by omega)).trans ((up_ne (by omega)).trans ((up_ne (by omega)).trans e_uj))) rfl (by decide) (by unfold vp_in; decide) (congrArg uj (by decide)) dX3_copyFrom_29 ?_
  refine s_iast S hX G (i := (i + 2)) (kd := 17) (n := 3) (jn := 2) (a := (upd (upd u 0 (uj 0)) 1 (uj 1))) (I' := (up (up (up I (i + 3) (upd (upd w 0 (wj 0)) 1 (wj 1))) (i + 1) (upd (upd (upd t 0 (tj 0)) 1 (tj 1)) 2 (tj 2))) (i + 2) (upd (upd (upd u 0 (uj 0)) 1 (uj 1)) 2 (uj 2)))) hi_2 ((up_ne (by omega)).trans ((up_ne (by omega)).trans up_eq)) (fun _ => rfl) (by decide) (by unfold vp_in; decide) (by decide) (by rw [up_swap (i := (i + 2)) (j := (i + 3)) (by omega), up_swap (i := (i + 2)) (j := (i + 1)) (by omega), up_up]) dX3_copyFrom_30 (fun H locs G => ?_)
  refine lv_aload_n S.1 S.2.1 dX3_copyFrom_31 rfl (lv_at hl 1 rfl) ?_
  refine s_get S hX G (i := i) (kd := 3) (a := n) (v := .ref (E.2.2.2 (i + 3))) (C := RX3) (T := TX3) (N := 4) 2 hi ((up_ne (by omega)).trans ((up_ne (by omega)).trans ((up_ne (by omega)).trans e_n))) rfl rfl (by decide) rfl (fun _ h => (List.mem_cons_of_mem _ (List.mem_append_right _ h))) (by decide) (List.mem_of_getElem? (i := 3) rfl) (fun _ h => h) dX3_copyFrom_32 ?_
  refine lv_iload_n S.1 S.2.1 dX3_copyFrom_35 rfl (lv_at hl 0 rfl) ?_
  refine lv_aload_n S.1 S.2.1 dX3_copyFrom_36 rfl (lv_at hl 2 rfl) ?_
  refine s_get S hX G (i := j) (kd := 3) (a := nj) (v := .ref (E.2.2.2 (j + 3))) (C := RX3) (T := TX3) (N := 4) 2 hj ((up_ne (by omega)).trans ((up_ne (by omega)).trans ((up_ne (by omega)).trans e_nj))) rfl rfl (by decide) rfl (fun _ h => (List.mem_cons_of_mem _ (List.mem_append_right _ h))) (by decide) (List.mem_of_getElem? (i := 3) rfl) (fun _ h => h) dX3_copyFrom_37 ?_
  refine lv_iload_n S.1 S.2.1 dX3_copyFrom_40 rfl (lv_at hl 0 rfl) ?_
  refine s_iald S hX G (i := (j + 3)) (kd := 17) (n := 3) (a := wj) (x := (wj 2)) hj_3 ((up_ne (by omega)).trans ((up_ne (by omega)).trans ((up_ne (by omega)).trans e_wj))) rfl (by decide) (by unfold vp_in; decide) (congrArg wj (by decide)) dX3_copyFrom_41 ?_
  refine s_iast S hX G (i := (i + 3)) (kd := 17) (n := 3) (jn := 2) (a := (upd (upd w 0 (wj 0)) 1 (wj 1))) (I' := (up (up (up I (i + 1) (upd (upd (upd t 0 (tj 0)) 1 (tj 1)) 2 (tj 2))) (i + 2) (upd (upd (upd u 0 (uj 0)) 1 (uj 1)) 2 (uj 2))) (i + 3) (upd (upd (upd w 0 (wj 0)) 1 (wj 1)) 2 (wj 2)))) hi_3 ((up_ne (by omega)).trans ((up_ne (by omega)).trans up_eq)) (fun _ => rfl) (by decide) (by unfold vp_in; decide) (by decide) (by rw [up_swap (i := (i + 3)) (j := (i + 1)) (by omega), up_swap (i := (i + 3)) (j := (i + 2)) (by omega), up_up]) dX3_copyFrom_42 (fun H locs G => ?_)
  refine lv_iinc (v := (3 : Int32)) (lv' := [(2, .int (3 : Int32)), (0, .ref (E.2.2.2 i)), (1, .ref (E.2.2.2 j))]) S.1 S.2.1 dX3_copyFrom_43 hl (k := 0) rfl (by decide) (by decide) rfl (fun ls hl => ?_)
  refine lv_goto (tgt := 2) S.1 S.2.1 dX3_copyFrom_46 (by decide) ?_
  refine lv_iload_n S.1 S.2.1 dX3_copyFrom_2 rfl (lv_at hl 0 rfl) ?_
  refine lv_iconst (v := (3 : Int32)) S.1 S.2.1 dX3_copyFrom_3 (by decide) ?_
  refine lv_icmp_ge (tgt := 49) S.1 S.2.1 dX3_copyFrom_4 (by decide) (fun _ => ?_) (fun h => absurd (by decide) h)
  refine lv_aload_n S.1 S.2.1 dX3_copyFrom_49 rfl (lv_at hl 1 rfl) ?_
  refine lv_aload_n S.1 S.2.1 dX3_copyFrom_50 rfl (lv_at hl 2 rfl) ?_
  refine s_get S hX G (i := j) (kd := 3) (a := nj) (v := .int (nj 3)) (C := RX3) (T := TX3) (N := 4) 3 hj ((up_ne (by omega)).trans ((up_ne (by omega)).trans ((up_ne (by omega)).trans e_nj))) rfl rfl (by decide) rfl (fun _ h => (List.mem_cons_of_mem _ (List.mem_append_right _ h))) (by decide) (List.mem_of_getElem? (i := 4) rfl) (fun _ h => h) dX3_copyFrom_51 ?_
  refine s_put S hX G (i := i) (kd := 3) (a := n) (a' := (upd n 3 (nj 3))) (I' := (up (up (up (up I (i + 1) (upd (upd (upd t 0 (tj 0)) 1 (tj 1)) 2 (tj 2))) (i + 2) (upd (upd (upd u 0 (uj 0)) 1 (uj 1)) 2 (uj 2))) (i + 3) (upd (upd (upd w 0 (wj 0)) 1 (wj 1)) 2 (wj 2))) i (upd n 3 (nj 3)))) (v := .int (nj 3)) (ty := .int) (ty0 := tyX3) (C := RX3) (T := TX3) (N := 4) 3 hi ((up_ne (by omega)).trans ((up_ne (by omega)).trans ((up_ne (by omega)).trans e_n))) rfl rfl rfl (by decide) rfl (fun _ h => (List.mem_cons_of_mem _ (List.mem_append_right _ h))) tyX3_ok nmX3 (by decide) (List.mem_of_getElem? (i := 4) rfl) (fun _ h => h) rfl (by decide +kernel) rfl rfl (Nat.le_of_ble_eq_true rfl) dX3_copyFrom_54 (fun H locs G => ?_)
  refine s_vret S G hr hlk dX3_copyFrom_57 ?_
  exact ⟨rfl, (st_eq4 up_eq ((up_ne (by omega)).trans ((up_ne (by omega)).trans ((up_ne (by omega)).trans up_eq))) ((up_ne (by omega)).trans ((up_ne (by omega)).trans up_eq)) ((up_ne (by omega)).trans up_eq) (fun _ g0 g1 g2 g3 => ((up_ne g0).trans ((up_ne g3).trans ((up_ne g2).trans (up_ne g1)))))), rfl⟩
