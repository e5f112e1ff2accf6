set_option maxHeartbeats 4000000 in
set_option maxRecDepth 100000 in
theorem k_X9_wish_0 (l : Launch) (E : Ev) {I : SI} {L : SL} (d : Nat → Int32) (e_d : I (162) = d) : CS l yX9_wish wsX9_wish ({ frames := 3, cells := 0, slots := 0, locals := 65 }) E [.ref (E.2.2.2 161), .int (0 : Int32)] I L (fun vv I' L' => vv = some (.int (wshF d 0 8 40)) ∧ I' = I ∧ L' = L) := by
  refine CS.of (cc := cX9_wish) (maxL := 4) (ret := (some .int)) (by decide) rfl (Nat.le_of_ble_eq_true rfl) ?_
  intro pg en sg mg below meth cg ls S hr hlk hX G hl
  have S : CallFix pg mg cg cX9_wish 4 sg _ wsX9_wish RX9 := S
  have hl : lv_has ls 4 [(0, .ref (E.2.2.2 161)), (1, .int (0 : Int32))] := hl
  refine lv_iload_n S.1 S.2.1 dX9_wish_0 rfl (lv_at hl 1 rfl) ?_
  refine lv_iconst (v := (2 : Int32)) S.1 S.2.1 dX9_wish_1 (by decide) ?_
  refine s_idiv (v := (0 : Int32)) S dX9_wish_2 (by decide) (by decide) ?_
  refine lv_istore_n (lv' := [(2, .int (0 : Int32)), (0, .ref (E.2.2.2 161)), (1, .int (0 : Int32))]) S.1 S.2.1 dX9_wish_3 rfl hl (by decide) rfl (fun ls hl => ?_)
  refine lv_aload_n S.1 S.2.1 dX9_wish_4 rfl (lv_at hl 1 rfl) ?_
  refine lv_iload_n S.1 S.2.1 dX9_wish_5 rfl (lv_at hl 0 rfl) ?_
  refine s_callV (C := RX9) (As := [.int (0 : Int32)]) (rest := []) (i := 161) (kd := 9) S hX G (k_X9_latched_0 l E d e_d) (cwV (bytes := cX9_latched) (maxL := 4) (ret := (some .int)) 1 S.2.2.2.2 gX9_wish_X9_latched rfl rfl rfl (by decide +kernel) ⟨Nat.le_of_ble_eq_true rfl, Nat.le_of_ble_eq_true rfl⟩) (rfl : sh 161 = 9) rfl rfl rfl (by decide) rfl hl.1 rfl (Nat.le_of_ble_eq_true rfl) ⟨Nat.zero_le _, Nat.zero_le _⟩ dX9_wish_6 (fun v I1 L1 H locs hR G => ?_)
  obtain ⟨hv, hI, hL⟩ := hR
  subst hv
  have G : GS E I L sg H locs := G.same hI hL
  refine W.eq (g2 := F0 mg 9 ls [.int (ltdF d 40)]) rfl ?_
  refine lv_topi (fun y_1 ey_1 => ?_)
  refine lv_if_le (tgt := 14) S.1 S.2.1 dX9_wish_9 (by decide) (fun c_2 => ?_) (fun c_2 => ?_)
  · refine lv_iload_n S.1 S.2.1 dX9_wish_14 rfl (lv_at hl 2 rfl) ?_
    refine lv_iconst (v := (2 : Int32)) S.1 S.2.1 dX9_wish_15 (by decide) ?_
    refine s_irem (v := (0 : Int32)) S dX9_wish_16 (by decide) (by decide) ?_
    refine lv_if_ne (tgt := 40) S.1 S.2.1 dX9_wish_17 (by decide) (fun h => absurd (by decide) h) (fun _ => ?_)
    refine lv_aload_n S.1 S.2.1 dX9_wish_20 rfl (lv_at hl 1 rfl) ?_
    refine s_get S hX G (i := 161) (kd := 9) (a := (I 161)) (v := .ref (E.2.2.2 162)) (C := RX9) (T := TX9) (N := 13) 0 (rfl : sh 161 = 9) rfl rfl rfl (by decide) rfl (fun _ h => (List.mem_cons_of_mem _ (List.mem_append_right _ h))) (by decide) (List.mem_of_getElem? (i := 1) rfl) (fun _ h => h) dX9_wish_21 ?_
    refine lv_iload_n S.1 S.2.1 dX9_wish_24 rfl (lv_at hl 0 rfl) ?_
    refine s_callS (As := [.int (0 : Int32)]) (rest := [.ref (E.2.2.2 162)]) S hX G (k_X9_loadAt_0 l E) (va_cwS (bytes := cX9_loadAt) (maxL := 1) (ret := (some .int)) 1 S.2.2.2.2 gX9_wish_X9_loadAt rfl rfl rfl (by decide +kernel) ⟨Nat.le_of_ble_eq_true rfl, Nat.le_of_ble_eq_true rfl⟩) rfl hl.1 rfl (Nat.le_of_ble_eq_true rfl) ⟨Nat.zero_le _, Nat.zero_le _⟩ dX9_wish_25 (fun v I1 L1 H locs hR G => ?_)
    obtain ⟨hv, hI, hL⟩ := hR
    subst hv
    have G : GS E I L sg H locs := G.same hI hL
    refine W.eq (g2 := F0 mg 28 ls [.int (40 : Int32), .ref (E.2.2.2 162)]) rfl ?_
    refine lv_bipush (v := (7 : Int32)) S.1 S.2.1 dX9_wish_28 (by decide) ?_
    refine s_iadd (v := (47 : Int32)) S dX9_wish_30 (by decide) ?_
    refine s_iald S hX G (i := 162) (kd := 284) (n := 270) (a := d) (x := (d 47)) (rfl : sh 162 = 284) e_d rfl (by decide) (by unfold vp_in; decide) (congrArg d (by decide)) dX9_wish_31 ?_
    refine lv_iconst (v := (1 : Int32)) S.1 S.2.1 dX9_wish_32 (by decide) ?_
    refine lv_icmp_ne (tgt := 40) S.1 S.2.1 dX9_wish_33 (by decide) (fun c_3 => ?_) (fun c_3 => ?_)
    · refine lv_iconst (v := (0 : Int32)) S.1 S.2.1 dX9_wish_40 (by decide) ?_
      refine lv_istore_n (lv' := [(3, .int (0 : Int32)), (2, .int (0 : Int32)), (0, .ref (E.2.2.2 161)), (1, .int (0 : Int32))]) S.1 S.2.1 dX9_wish_41 rfl hl (by decide) rfl (fun ls hl => ?_)
      refine lv_aload_n S.1 S.2.1 dX9_wish_42 rfl (lv_at hl 2 rfl) ?_
      refine s_get S hX G (i := 161) (kd := 9) (a := (I 161)) (v := .ref (E.2.2.2 162)) (C := RX9) (T := TX9) (N := 13) 0 (rfl : sh 161 = 9) rfl rfl rfl (by decide) rfl (fun _ h => (List.mem_cons_of_mem _ (List.mem_append_right _ h))) (by decide) (List.mem_of_getElem? (i := 1) rfl) (fun _ h => h) dX9_wish_43 ?_
      refine lv_iload_n S.1 S.2.1 dX9_wish_46 rfl (lv_at hl 0 rfl) ?_
      refine lv_if_eq (tgt := 56) S.1 S.2.1 dX9_wish_47 (by decide) (fun _ => ?_) (fun h => absurd (by decide) h)
      refine lv_iload_n S.1 S.2.1 dX9_wish_56 rfl (lv_at hl 3 rfl) ?_
      refine s_callS (As := [.int (0 : Int32)]) (rest := [.ref (E.2.2.2 162)]) S hX G (k_X9_legAt_0 l E) (va_cwS (bytes := cX9_legAt) (maxL := 1) (ret := (some .int)) 1 S.2.2.2.2 gX9_wish_X9_legAt rfl rfl rfl (by decide +kernel) ⟨Nat.le_of_ble_eq_true rfl, Nat.le_of_ble_eq_true rfl⟩) rfl hl.1 rfl (Nat.le_of_ble_eq_true rfl) ⟨Nat.zero_le _, Nat.zero_le _⟩ dX9_wish_57 (fun v I1 L1 H locs hR G => ?_)
      obtain ⟨hv, hI, hL⟩ := hR
      subst hv
      have G : GS E I L sg H locs := G.same hI hL
      refine W.eq (g2 := F0 mg 60 ls [.int (8 : Int32), .ref (E.2.2.2 162)]) rfl ?_
      refine lv_iconst (v := (0 : Int32)) S.1 S.2.1 dX9_wish_60 (by decide) ?_
      refine s_iadd (v := (8 : Int32)) S dX9_wish_61 (by decide) ?_
      refine s_iald S hX G (i := 162) (kd := 284) (n := 270) (a := d) (x := (d 8)) (rfl : sh 162 = 284) e_d rfl (by decide) (by unfold vp_in; decide) (congrArg d (by decide)) dX9_wish_62 ?_
      refine s_iret (x := (d 8)) S G hr hlk dX9_wish_63 ?_
      exact ⟨(congrArg (fun q : Int32 => some (Value.int q)) (show (d 8) = (wshF d 0 8 40) by subst ey_1; (first | (simp [wshF, c_2, c_3]; done) | (clear S hX G hl; grind [wshF])))), rfl, rfl⟩
    · refine lv_iconst (v := (1 : Int32)) S.1 S.2.1 dX9_wish_36 (by decide) ?_
      refine lv_goto (tgt := 41) S.1 S.2.1 dX9_wish_37 (by decide) ?_
      refine lv_istore_n (lv' := [(3, .int (1 : Int32)), (2, .int (0 : Int32)), (0, .ref (E.2.2.2 161)), (1, .int (0 : Int32))]) S.1 S.2.1 dX9_wish_41 rfl hl (by decide) rfl (fun ls hl => ?_)
      refine lv_aload_n S.1 S.2.1 dX9_wish_42 rfl (lv_at hl 2 rfl) ?_
      refine s_get S hX G (i := 161) (kd := 9) (a := (I 161)) (v := .ref (E.2.2.2 162)) (C := RX9) (T := TX9) (N := 13) 0 (rfl : sh 161 = 9) rfl rfl rfl (by decide) rfl (fun _ h => (List.mem_cons_of_mem _ (List.mem_append_right _ h))) (by decide) (List.mem_of_getElem? (i := 1) rfl) (fun _ h => h) dX9_wish_43 ?_
      refine lv_iload_n S.1 S.2.1 dX9_wish_46 rfl (lv_at hl 0 rfl) ?_
      refine lv_if_eq (tgt := 56) S.1 S.2.1 dX9_wish_47 (by decide) (fun h => absurd h (by decide)) (fun _ => ?_)
      refine lv_iload_n S.1 S.2.1 dX9_wish_50 rfl (lv_at hl 3 rfl) ?_
      refine lv_iconst (v := (1 : Int32)) S.1 S.2.1 dX9_wish_51 (by decide) ?_
      refine s_iadd (v := (1 : Int32)) S dX9_wish_52 (by decide) ?_
      refine lv_goto (tgt := 57) S.1 S.2.1 dX9_wish_53 (by decide) ?_
      refine s_callS (As := [.int (1 : Int32)]) (rest := [.ref (E.2.2.2 162)]) S hX G (k_X9_legAt_1 l E) (va_cwS (bytes := cX9_legAt) (maxL := 1) (ret := (some .int)) 1 S.2.2.2.2 gX9_wish_X9_legAt rfl rfl rfl (by decide +kernel) ⟨Nat.le_of_ble_eq_true rfl, Nat.le_of_ble_eq_true rfl⟩) rfl hl.1 rfl (Nat.le_of_ble_eq_true rfl) ⟨Nat.zero_le _, Nat.zero_le _⟩ dX9_wish_57 (fun v I1 L1 H locs hR G => ?_)
      obtain ⟨hv, hI, hL⟩ := hR
      subst hv
      have G : GS E I L sg H locs := G.same hI hL
      refine W.eq (g2 := F0 mg 60 ls [.int (16 : Int32), .ref (E.2.2.2 162)]) rfl ?_
      refine lv_iconst (v := (0 : Int32)) S.1 S.2.1 dX9_wish_60 (by decide) ?_
      refine s_iadd (v := (16 : Int32)) S dX9_wish_61 (by decide) ?_
      refine s_iald S hX G (i := 162) (kd := 284) (n := 270) (a := d) (x := (d 16)) (rfl : sh 162 = 284) e_d rfl (by decide) (by unfold vp_in; decide) (congrArg d (by decide)) dX9_wish_62 ?_
      refine s_iret (x := (d 16)) S G hr hlk dX9_wish_63 ?_
      exact ⟨(congrArg (fun q : Int32 => some (Value.int q)) (show (d 16) = (wshF d 0 8 40) by subst ey_1; (first | (simp [wshF, c_2, c_3]; done) | (clear S hX G hl; grind [wshF])))), rfl, rfl⟩
  · refine lv_iconst (v := (0 : Int32)) S.1 S.2.1 dX9_wish_12 (by decide) ?_
    refine s_iret (x := (0 : Int32)) S G hr hlk dX9_wish_13 ?_
    exact ⟨(congrArg (fun q : Int32 => some (Value.int q)) (show (0 : Int32) = (wshF d 0 8 40) by subst ey_1; (first | (simp [wshF, c_2]; done) | (clear S hX G hl; grind [wshF])))), rfl, rfl⟩
set_option maxHeartbeats 4000000 in
set_option maxRecDepth 100000 in
theorem k_X9_wish_1 (l : Launch) (E : Ev) {I : SI} {L : SL} (d : Nat → Int32) (e_d : I (162) = d) : CS l yX9_wish wsX9_wish ({ frames := 3, cells := 0, slots := 0, locals := 65 }) E [.ref (E.2.2.2 161), .int (1 : Int32)] I L (fun vv I' L' => vv = some (.int (wshF d 1 16 40)) ∧ I' = I ∧ L' = L) := by
  refine CS.of (cc := cX9_wish) (maxL := 4) (ret := (some .int)) (by decide) rfl (Nat.le_of_ble_eq_true rfl) ?_
  intro pg en sg mg below meth cg ls S hr hlk hX G hl
  have S : CallFix pg mg cg cX9_wish 4 sg _ wsX9_wish RX9 := S
  have hl : lv_has ls 4 [(0, .ref (E.2.2.2 161)), (1, .int (1 : Int32))] := hl
  refine lv_iload_n S.1 S.2.1 dX9_wish_0 rfl (lv_at hl 1 rfl) ?_
  refine lv_iconst (v := (2 : Int32)) S.1 S.2.1 dX9_wish_1 (by decide) ?_
  refine s_idiv (v := (0 : Int32)) S dX9_wish_2 (by decide) (by decide) ?_
  refine lv_istore_n (lv' := [(2, .int (0 : Int32)), (0, .ref (E.2.2.2 161)), (1, .int (1 : Int32))]) S.1 S.2.1 dX9_wish_3 rfl hl (by decide) rfl (fun ls hl => ?_)
  refine lv_aload_n S.1 S.2.1 dX9_wish_4 rfl (lv_at hl 1 rfl) ?_
  refine lv_iload_n S.1 S.2.1 dX9_wish_5 rfl (lv_at hl 0 rfl) ?_
  refine s_callV (C := RX9) (As := [.int (0 : Int32)]) (rest := []) (i := 161) (kd := 9) S hX G (k_X9_latched_0 l E d e_d) (cwV (bytes := cX9_latched) (maxL := 4) (ret := (some .int)) 1 S.2.2.2.2 gX9_wish_X9_latched rfl rfl rfl (by decide +kernel) ⟨Nat.le_of_ble_eq_true rfl, Nat.le_of_ble_eq_true rfl⟩) (rfl : sh 161 = 9) rfl rfl rfl (by decide) rfl hl.1 rfl (Nat.le_of_ble_eq_true rfl) ⟨Nat.zero_le _, Nat.zero_le _⟩ dX9_wish_6 (fun v I1 L1 H locs hR G => ?_)
  obtain ⟨hv, hI, hL⟩ := hR
  subst hv
  have G : GS E I L sg H locs := G.same hI hL
  refine W.eq (g2 := F0 mg 9 ls [.int (ltdF d 40)]) rfl ?_
  refine lv_topi (fun y_1 ey_1 => ?_)
  refine lv_if_le (tgt := 14) S.1 S.2.1 dX9_wish_9 (by decide) (fun c_2 => ?_) (fun c_2 => ?_)
  · refine lv_iload_n S.1 S.2.1 dX9_wish_14 rfl (lv_at hl 2 rfl) ?_
    refine lv_iconst (v := (2 : Int32)) S.1 S.2.1 dX9_wish_15 (by decide) ?_
    refine s_irem (v := (1 : Int32)) S dX9_wish_16 (by decide) (by decide) ?_
    refine lv_if_ne (tgt := 40) S.1 S.2.1 dX9_wish_17 (by decide) (fun _ => ?_) (fun h => absurd h (by decide))
    refine lv_iconst (v := (0 : Int32)) S.1 S.2.1 dX9_wish_40 (by decide) ?_
    refine lv_istore_n (lv' := [(3, .int (0 : Int32)), (2, .int (0 : Int32)), (0, .ref (E.2.2.2 161)), (1, .int (1 : Int32))]) S.1 S.2.1 dX9_wish_41 rfl hl (by decide) rfl (fun ls hl => ?_)
    refine lv_aload_n S.1 S.2.1 dX9_wish_42 rfl (lv_at hl 2 rfl) ?_
    refine s_get S hX G (i := 161) (kd := 9) (a := (I 161)) (v := .ref (E.2.2.2 162)) (C := RX9) (T := TX9) (N := 13) 0 (rfl : sh 161 = 9) rfl rfl rfl (by decide) rfl (fun _ h => (List.mem_cons_of_mem _ (List.mem_append_right _ h))) (by decide) (List.mem_of_getElem? (i := 1) rfl) (fun _ h => h) dX9_wish_43 ?_
    refine lv_iload_n S.1 S.2.1 dX9_wish_46 rfl (lv_at hl 0 rfl) ?_
    refine lv_if_eq (tgt := 56) S.1 S.2.1 dX9_wish_47 (by decide) (fun _ => ?_) (fun h => absurd (by decide) h)
    refine lv_iload_n S.1 S.2.1 dX9_wish_56 rfl (lv_at hl 3 rfl) ?_
    refine s_callS (As := [.int (1 : Int32)]) (rest := [.ref (E.2.2.2 162)]) S hX G (k_X9_legAt_1 l E) (va_cwS (bytes := cX9_legAt) (maxL := 1) (ret := (some .int)) 1 S.2.2.2.2 gX9_wish_X9_legAt rfl rfl rfl (by decide +kernel) ⟨Nat.le_of_ble_eq_true rfl, Nat.le_of_ble_eq_true rfl⟩) rfl hl.1 rfl (Nat.le_of_ble_eq_true rfl) ⟨Nat.zero_le _, Nat.zero_le _⟩ dX9_wish_57 (fun v I1 L1 H locs hR G => ?_)
    obtain ⟨hv, hI, hL⟩ := hR
    subst hv
    have G : GS E I L sg H locs := G.same hI hL
    refine W.eq (g2 := F0 mg 60 ls [.int (16 : Int32), .ref (E.2.2.2 162)]) rfl ?_
    refine lv_iconst (v := (0 : Int32)) S.1 S.2.1 dX9_wish_60 (by decide) ?_
    refine s_iadd (v := (16 : Int32)) S dX9_wish_61 (by decide) ?_
    refine s_iald S hX G (i := 162) (kd := 284) (n := 270) (a := d) (x := (d 16)) (rfl : sh 162 = 284) e_d rfl (by decide) (by unfold vp_in; decide) (congrArg d (by decide)) dX9_wish_62 ?_
    refine s_iret (x := (d 16)) S G hr hlk dX9_wish_63 ?_
    exact ⟨(congrArg (fun q : Int32 => some (Value.int q)) (show (d 16) = (wshF d 1 16 40) by subst ey_1; (first | (simp [wshF, c_2]; done) | (clear S hX G hl; grind [wshF])))), rfl, rfl⟩
  · refine lv_iconst (v := (0 : Int32)) S.1 S.2.1 dX9_wish_12 (by decide) ?_
    refine s_iret (x := (0 : Int32)) S G hr hlk dX9_wish_13 ?_
    exact ⟨(congrArg (fun q : Int32 => some (Value.int q)) (show (0 : Int32) = (wshF d 1 16 40) by subst ey_1; (first | (simp [wshF, c_2]; done) | (clear S hX G hl; grind [wshF])))), rfl, rfl⟩
set_option maxHeartbeats 4000000 in
set_option maxRecDepth 100000 in
theorem k_X9_wish_2 (l : Launch) (E : Ev) {I : SI} {L : SL} (d : Nat → Int32) (e_d : I (162) = d) : CS l yX9_wish wsX9_wish ({ frames := 3, cells := 0, slots := 0, locals := 65 }) E [.ref (E.2.2.2 161), .int (2 : Int32)] I L (fun vv I' L' => vv = some (.int (wshF d 2 24 70)) ∧ I' = I ∧ L' = L) := by
  refine CS.of (cc := cX9_wish) (maxL := 4) (ret := (some .int)) (by decide) rfl (Nat.le_of_ble_eq_true rfl) ?_
  intro pg en sg mg below meth cg ls S hr hlk hX G hl
  have S : CallFix pg mg cg cX9_wish 4 sg _ wsX9_wish RX9 := S
  have hl : lv_has ls 4 [(0, .ref (E.2.2.2 161)), (1, .int (2 : Int32))] := hl
  refine lv_iload_n S.1 S.2.1 dX9_wish_0 rfl (lv_at hl 1 rfl) ?_
  refine lv_iconst (v := (2 : Int32)) S.1 S.2.1 dX9_wish_1 (by decide) ?_
  refine s_idiv (v := (1 : Int32)) S dX9_wish_2 (by decide) (by decide) ?_
  refine lv_istore_n (lv' := [(2, .int (1 : Int32)), (0, .ref (E.2.2.2 161)), (1, .int (2 : Int32))]) S.1 S.2.1 dX9_wish_3 rfl hl (by decide) rfl (fun ls hl => ?_)
  refine lv_aload_n S.1 S.2.1 dX9_wish_4 rfl (lv_at hl 1 rfl) ?_
  refine lv_iload_n S.1 S.2.1 dX9_wish_5 rfl (lv_at hl 0 rfl) ?_
  refine s_callV (C := RX9) (As := [.int (1 : Int32)]) (rest := []) (i := 161) (kd := 9) S hX G (k_X9_latched_1 l E d e_d) (cwV (bytes := cX9_latched) (maxL := 4) (ret := (some .int)) 1 S.2.2.2.2 gX9_wish_X9_latched rfl rfl rfl (by decide +kernel) ⟨Nat.le_of_ble_eq_true rfl, Nat.le_of_ble_eq_true rfl⟩) (rfl : sh 161 = 9) rfl rfl rfl (by decide) rfl hl.1 rfl (Nat.le_of_ble_eq_true rfl) ⟨Nat.zero_le _, Nat.zero_le _⟩ dX9_wish_6 (fun v I1 L1 H locs hR G => ?_)
  obtain ⟨hv, hI, hL⟩ := hR
  subst hv
  have G : GS E I L sg H locs := G.same hI hL
  refine W.eq (g2 := F0 mg 9 ls [.int (ltdF d 70)]) rfl ?_
  refine lv_topi (fun y_1 ey_1 => ?_)
  refine lv_if_le (tgt := 14) S.1 S.2.1 dX9_wish_9 (by decide) (fun c_2 => ?_) (fun c_2 => ?_)
  · refine lv_iload_n S.1 S.2.1 dX9_wish_14 rfl (lv_at hl 2 rfl) ?_
    refine lv_iconst (v := (2 : Int32)) S.1 S.2.1 dX9_wish_15 (by decide) ?_
    refine s_irem (v := (0 : Int32)) S dX9_wish_16 (by decide) (by decide) ?_
    refine lv_if_ne (tgt := 40) S.1 S.2.1 dX9_wish_17 (by decide) (fun h => absurd (by decide) h) (fun _ => ?_)
    refine lv_aload_n S.1 S.2.1 dX9_wish_20 rfl (lv_at hl 1 rfl) ?_
    refine s_get S hX G (i := 161) (kd := 9) (a := (I 161)) (v := .ref (E.2.2.2 162)) (C := RX9) (T := TX9) (N := 13) 0 (rfl : sh 161 = 9) rfl rfl rfl (by decide) rfl (fun _ h => (List.mem_cons_of_mem _ (List.mem_append_right _ h))) (by decide) (List.mem_of_getElem? (i := 1) rfl) (fun _ h => h) dX9_wish_21 ?_
    refine lv_iload_n S.1 S.2.1 dX9_wish_24 rfl (lv_at hl 0 rfl) ?_
    refine s_callS (As := [.int (1 : Int32)]) (rest := [.ref (E.2.2.2 162)]) S hX G (k_X9_loadAt_1 l E) (va_cwS (bytes := cX9_loadAt) (maxL := 1) (ret := (some .int)) 1 S.2.2.2.2 gX9_wish_X9_loadAt rfl rfl rfl (by decide +kernel) ⟨Nat.le_of_ble_eq_true rfl, Nat.le_of_ble_eq_true rfl⟩) rfl hl.1 rfl (Nat.le_of_ble_eq_true rfl) ⟨Nat.zero_le _, Nat.zero_le _⟩ dX9_wish_25 (fun v I1 L1 H locs hR G => ?_)
    obtain ⟨hv, hI, hL⟩ := hR
    subst hv
    have G : GS E I L sg H locs := G.same hI hL
    refine W.eq (g2 := F0 mg 28 ls [.int (70 : Int32), .ref (E.2.2.2 162)]) rfl ?_
    refine lv_bipush (v := (7 : Int32)) S.1 S.2.1 dX9_wish_28 (by decide) ?_
    refine s_iadd (v := (77 : Int32)) S dX9_wish_30 (by decide) ?_
    refine s_iald S hX G (i := 162) (kd := 284) (n := 270) (a := d) (x := (d 77)) (rfl : sh 162 = 284) e_d rfl (by decide) (by unfold vp_in; decide) (congrArg d (by decide)) dX9_wish_31 ?_
    refine lv_iconst (v := (1 : Int32)) S.1 S.2.1 dX9_wish_32 (by decide) ?_
    refine lv_icmp_ne (tgt := 40) S.1 S.2.1 dX9_wish_33 (by decide) (fun c_3 => ?_) (fun c_3 => ?_)
    · refine lv_iconst (v := (0 : Int32)) S.1 S.2.1 dX9_wish_40 (by decide) ?_
      refine lv_istore_n (lv' := [(3, .int (0 : Int32)), (2, .int (1 : Int32)), (0, .ref (E.2.2.2 161)), (1, .int (2 : Int32))]) S.1 S.2.1 dX9_wish_41 rfl hl (by decide) rfl (fun ls hl => ?_)
      refine lv_aload_n S.1 S.2.1 dX9_wish_42 rfl (lv_at hl 2 rfl) ?_
      refine s_get S hX G (i := 161) (kd := 9) (a := (I 161)) (v := .ref (E.2.2.2 162)) (C := RX9) (T := TX9) (N := 13) 0 (rfl : sh 161 = 9) rfl rfl rfl (by decide) rfl (fun _ h => (List.mem_cons_of_mem _ (List.mem_append_right _ h))) (by decide) (List.mem_of_getElem? (i := 1) rfl) (fun _ h => h) dX9_wish_43 ?_
      refine lv_iload_n S.1 S.2.1 dX9_wish_46 rfl (lv_at hl 0 rfl) ?_
      refine lv_if_eq (tgt := 56) S.1 S.2.1 dX9_wish_47 (by decide) (fun _ => ?_) (fun h => absurd (by decide) h)
      refine lv_iload_n S.1 S.2.1 dX9_wish_56 rfl (lv_at hl 3 rfl) ?_
      refine s_callS (As := [.int (2 : Int32)]) (rest := [.ref (E.2.2.2 162)]) S hX G (k_X9_legAt_2 l E) (va_cwS (bytes := cX9_legAt) (maxL := 1) (ret := (some .int)) 1 S.2.2.2.2 gX9_wish_X9_legAt rfl rfl rfl (by decide +kernel) ⟨Nat.le_of_ble_eq_true rfl, Nat.le_of_ble_eq_true rfl⟩) rfl hl.1 rfl (Nat.le_of_ble_eq_true rfl) ⟨Nat.zero_le _, Nat.zero_le _⟩ dX9_wish_57 (fun v I1 L1 H locs hR G => ?_)
      obtain ⟨hv, hI, hL⟩ := hR
      subst hv
      have G : GS E I L sg H locs := G.same hI hL
      refine W.eq (g2 := F0 mg 60 ls [.int (24 : Int32), .ref (E.2.2.2 162)]) rfl ?_
      refine lv_iconst (v := (0 : Int32)) S.1 S.2.1 dX9_wish_60 (by decide) ?_
      refine s_iadd (v := (24 : Int32)) S dX9_wish_61 (by decide) ?_
      refine s_iald S hX G (i := 162) (kd := 284) (n := 270) (a := d) (x := (d 24)) (rfl : sh 162 = 284) e_d rfl (by decide) (by unfold vp_in; decide) (congrArg d (by decide)) dX9_wish_62 ?_
      refine s_iret (x := (d 24)) S G hr hlk dX9_wish_63 ?_
      exact ⟨(congrArg (fun q : Int32 => some (Value.int q)) (show (d 24) = (wshF d 2 24 70) by subst ey_1; (first | (simp [wshF, c_2, c_3]; done) | (clear S hX G hl; grind [wshF])))), rfl, rfl⟩
    · refine lv_iconst (v := (1 : Int32)) S.1 S.2.1 dX9_wish_36 (by decide) ?_
      refine lv_goto (tgt := 41) S.1 S.2.1 dX9_wish_37 (by decide) ?_
      refine lv_istore_n (lv' := [(3, .int (1 : Int32)), (2, .int (1 : Int32)), (0, .ref (E.2.2.2 161)), (1, .int (2 : Int32))]) S.1 S.2.1 dX9_wish_41 rfl hl (by decide) rfl (fun ls hl => ?_)
      refine lv_aload_n S.1 S.2.1 dX9_wish_42 rfl (lv_at hl 2 rfl) ?_
      refine s_get S hX G (i := 161) (kd := 9) (a := (I 161)) (v := .ref (E.2.2.2 162)) (C := RX9) (T := TX9) (N := 13) 0 (rfl : sh 161 = 9) rfl rfl rfl (by decide) rfl (fun _ h => (List.mem_cons_of_mem _ (List.mem_append_right _ h))) (by decide) (List.mem_of_getElem? (i := 1) rfl) (fun _ h => h) dX9_wish_43 ?_
      refine lv_iload_n S.1 S.2.1 dX9_wish_46 rfl (lv_at hl 0 rfl) ?_
      refine lv_if_eq (tgt := 56) S.1 S.2.1 dX9_wish_47 (by decide) (fun h => absurd h (by decide)) (fun _ => ?_)
      refine lv_iload_n S.1 S.2.1 dX9_wish_50 rfl (lv_at hl 3 rfl) ?_
      refine lv_iconst (v := (1 : Int32)) S.1 S.2.1 dX9_wish_51 (by decide) ?_
      refine s_iadd (v := (3 : Int32)) S dX9_wish_52 (by decide) ?_
      refine lv_goto (tgt := 57) S.1 S.2.1 dX9_wish_53 (by decide) ?_
      refine s_callS (As := [.int (3 : Int32)]) (rest := [.ref (E.2.2.2 162)]) S hX G (k_X9_legAt_3 l E) (va_cwS (bytes := cX9_legAt) (maxL := 1) (ret := (some .int)) 1 S.2.2.2.2 gX9_wish_X9_legAt rfl rfl rfl (by decide +kernel) ⟨Nat.le_of_ble_eq_true rfl, Nat.le_of_ble_eq_true rfl⟩) rfl hl.1 rfl (Nat.le_of_ble_eq_true rfl) ⟨Nat.zero_le _, Nat.zero_le _⟩ dX9_wish_57 (fun v I1 L1 H locs hR G => ?_)
      obtain ⟨hv, hI, hL⟩ := hR
      subst hv
      have G : GS E I L sg H locs := G.same hI hL
      refine W.eq (g2 := F0 mg 60 ls [.int (32 : Int32), .ref (E.2.2.2 162)]) rfl ?_
      refine lv_iconst (v := (0 : Int32)) S.1 S.2.1 dX9_wish_60 (by decide) ?_
      refine s_iadd (v := (32 : Int32)) S dX9_wish_61 (by decide) ?_
      refine s_iald S hX G (i := 162) (kd := 284) (n := 270) (a := d) (x := (d 32)) (rfl : sh 162 = 284) e_d rfl (by decide) (by unfold vp_in; decide) (congrArg d (by decide)) dX9_wish_62 ?_
      refine s_iret (x := (d 32)) S G hr hlk dX9_wish_63 ?_
      exact ⟨(congrArg (fun q : Int32 => some (Value.int q)) (show (d 32) = (wshF d 2 24 70) by subst ey_1; (first | (simp [wshF, c_2, c_3]; done) | (clear S hX G hl; grind [wshF])))), rfl, rfl⟩
  · refine lv_iconst (v := (0 : Int32)) S.1 S.2.1 dX9_wish_12 (by decide) ?_
    refine s_iret (x := (0 : Int32)) S G hr hlk dX9_wish_13 ?_
    exact ⟨(congrArg (fun q : Int32 => some (Value.int q)) (show (0 : Int32) = (wshF d 2 24 70) by subst ey_1; (first | (simp [wshF, c_2]; done) | (clear S hX G hl; grind [wshF])))), rfl, rfl⟩
set_option maxHeartbeats 4000000 in
set_option maxRecDepth 100000 in
theorem k_X9_wish_3 (l : Launch) (E : Ev) {I : SI} {L : SL} (d : Nat → Int32) (e_d : I (162) = d) : CS l yX9_wish wsX9_wish ({ frames := 3, cells := 0, slots := 0, locals := 65 }) E [.ref (E.2.2.2 161), .int (3 : Int32)] I L (fun vv I' L' => vv = some (.int (wshF d 3 32 70)) ∧ I' = I ∧ L' = L) := by
  refine CS.of (cc := cX9_wish) (maxL := 4) (ret := (some .int)) (by decide) rfl (Nat.le_of_ble_eq_true rfl) ?_
  intro pg en sg mg below meth cg ls S hr hlk hX G hl
  have S : CallFix pg mg cg cX9_wish 4 sg _ wsX9_wish RX9 := S
  have hl : lv_has ls 4 [(0, .ref (E.2.2.2 161)), (1, .int (3 : Int32))] := hl
  refine lv_iload_n S.1 S.2.1 dX9_wish_0 rfl (lv_at hl 1 rfl) ?_
  refine lv_iconst (v := (2 : Int32)) S.1 S.2.1 dX9_wish_1 (by decide) ?_
  refine s_idiv (v := (1 : Int32)) S dX9_wish_2 (by decide) (by decide) ?_
  refine lv_istore_n (lv' := [(2, .int (1 : Int32)), (0, .ref (E.2.2.2 161)), (1, .int (3 : Int32))]) S.1 S.2.1 dX9_wish_3 rfl hl (by decide) rfl (fun ls hl => ?_)
  refine lv_aload_n S.1 S.2.1 dX9_wish_4 rfl (lv_at hl 1 rfl) ?_
  refine lv_iload_n S.1 S.2.1 dX9_wish_5 rfl (lv_at hl 0 rfl) ?_
  refine s_callV (C := RX9) (As := [.int (1 : Int32)]) (rest := []) (i := 161) (kd := 9) S hX G (k_X9_latched_1 l E d e_d) (cwV (bytes := cX9_latched) (maxL := 4) (ret := (some .int)) 1 S.2.2.2.2 gX9_wish_X9_latched rfl rfl rfl (by decide +kernel) ⟨Nat.le_of_ble_eq_true rfl, Nat.le_of_ble_eq_true rfl⟩) (rfl : sh 161 = 9) rfl rfl rfl (by decide) rfl hl.1 rfl (Nat.le_of_ble_eq_true rfl) ⟨Nat.zero_le _, Nat.zero_le _⟩ dX9_wish_6 (fun v I1 L1 H locs hR G => ?_)
  obtain ⟨hv, hI, hL⟩ := hR
  subst hv
  have G : GS E I L sg H locs := G.same hI hL
  refine W.eq (g2 := F0 mg 9 ls [.int (ltdF d 70)]) rfl ?_
  refine lv_topi (fun y_1 ey_1 => ?_)
  refine lv_if_le (tgt := 14) S.1 S.2.1 dX9_wish_9 (by decide) (fun c_2 => ?_) (fun c_2 => ?_)
  · refine lv_iload_n S.1 S.2.1 dX9_wish_14 rfl (lv_at hl 2 rfl) ?_
    refine lv_iconst (v := (2 : Int32)) S.1 S.2.1 dX9_wish_15 (by decide) ?_
    refine s_irem (v := (1 : Int32)) S dX9_wish_16 (by decide) (by decide) ?_
    refine lv_if_ne (tgt := 40) S.1 S.2.1 dX9_wish_17 (by decide) (fun _ => ?_) (fun h => absurd h (by decide))
    refine lv_iconst (v := (0 : Int32)) S.1 S.2.1 dX9_wish_40 (by decide) ?_
    refine lv_istore_n (lv' := [(3, .int (0 : Int32)), (2, .int (1 : Int32)), (0, .ref (E.2.2.2 161)), (1, .int (3 : Int32))]) S.1 S.2.1 dX9_wish_41 rfl hl (by decide) rfl (fun ls hl => ?_)
    refine lv_aload_n S.1 S.2.1 dX9_wish_42 rfl (lv_at hl 2 rfl) ?_
    refine s_get S hX G (i := 161) (kd := 9) (a := (I 161)) (v := .ref (E.2.2.2 162)) (C := RX9) (T := TX9) (N := 13) 0 (rfl : sh 161 = 9) rfl rfl rfl (by decide) rfl (fun _ h => (List.mem_cons_of_mem _ (List.mem_append_right _ h))) (by decide) (List.mem_of_getElem? (i := 1) rfl) (fun _ h => h) dX9_wish_43 ?_
    refine lv_iload_n S.1 S.2.1 dX9_wish_46 rfl (lv_at hl 0 rfl) ?_
    refine lv_if_eq (tgt := 56) S.1 S.2.1 dX9_wish_47 (by decide) (fun _ => ?_) (fun h => absurd (by decide) h)
    refine lv_iload_n S.1 S.2.1 dX9_wish_56 rfl (lv_at hl 3 rfl) ?_
    refine s_callS (As := [.int (3 : Int32)]) (rest := [.ref (E.2.2.2 162)]) S hX G (k_X9_legAt_3 l E) (va_cwS (bytes := cX9_legAt) (maxL := 1) (ret := (some .int)) 1 S.2.2.2.2 gX9_wish_X9_legAt rfl rfl rfl (by decide +kernel) ⟨Nat.le_of_ble_eq_true rfl, Nat.le_of_ble_eq_true rfl⟩) rfl hl.1 rfl (Nat.le_of_ble_eq_true rfl) ⟨Nat.zero_le _, Nat.zero_le _⟩ dX9_wish_57 (fun v I1 L1 H locs hR G => ?_)
    obtain ⟨hv, hI, hL⟩ := hR
    subst hv
    have G : GS E I L sg H locs := G.same hI hL
    refine W.eq (g2 := F0 mg 60 ls [.int (32 : Int32), .ref (E.2.2.2 162)]) rfl ?_
    refine lv_iconst (v := (0 : Int32)) S.1 S.2.1 dX9_wish_60 (by decide) ?_
    refine s_iadd (v := (32 : Int32)) S dX9_wish_61 (by decide) ?_
    refine s_iald S hX G (i := 162) (kd := 284) (n := 270) (a := d) (x := (d 32)) (rfl : sh 162 = 284) e_d rfl (by decide) (by unfold vp_in; decide) (congrArg d (by decide)) dX9_wish_62 ?_
    refine s_iret (x := (d 32)) S G hr hlk dX9_wish_63 ?_
    exact ⟨(congrArg (fun q : Int32 => some (Value.int q)) (show (d 32) = (wshF d 3 32 70) by subst ey_1; (first | (simp [wshF, c_2]; done) | (clear S hX G hl; grind [wshF])))), rfl, rfl⟩
  · refine lv_iconst (v := (0 : Int32)) S.1 S.2.1 dX9_wish_12 (by decide) ?_
    refine s_iret (x := (0 : Int32)) S G hr hlk dX9_wish_13 ?_
    exact ⟨(congrArg (fun q : Int32 => some (Value.int q)) (show (0 : Int32) = (wshF d 3 32 70) by subst ey_1; (first | (simp [wshF, c_2]; done) | (clear S hX G hl; grind [wshF])))), rfl, rfl⟩
theorem nowF_in {d : Nat → Int32} {l : Nat} {w : Int32} (h : w = 0 ∨ w = 1 ∨ w = 2) : nowF d l w = 0 ∨ nowF d l w = 1 ∨ nowF d l w = 2 := by
  unfold nowF
  split
  · exact h
  · split
    · exact h
    · split
      · exact h
      · split
        · exact h
        · exact Or.inl rfl
theorem ixF_le {x : Int32} : ixF x ≤ 2 := by
  unfold ixF
  split
  · exact Nat.le_refl 2
  · split
    · exact Nat.zero_le 2
    · decide
theorem ixF_e {x : Int32} {a : Nat} (h : x = 0 ∨ x = 1 ∨ x = 2) : nI a + (if x = 0 then 2 else x - 1) = nI (a + ixF x) := by
  rcases h with rfl | rfl | rfl
  · rw [if_pos rfl, show ixF 0 = 2 from rfl, ← nI_add]; rfl
  · rw [if_neg (by decide), show ixF 1 = 0 from by decide, ← nI_add]; rfl
  · rw [if_neg (by decide), show ixF 2 = 1 from by decide, ← nI_add]; rfl
def swF (d : Nat → Int32) (l L : Nat) (now : Int32) : Nat → Int32 := if now = d (l + 1) then upd d (l + 1) now else upd (upd (upd (upd d (l + 1) now) (l + 3) (d (l + 3) + 1)) 100 (d 100 + 1)) (L + 8) (d 2)
def sinF (now s : Int32) : Int32 := if ¬ now ≤ 0 then 0 else if s = -1 then -1 else s + 1
def tlF (d : Nat → Int32) (l L : Nat) (now : Int32) : Nat → Int32 :=
  let d3 := swF d l L now
  let d4 := upd d3 (l + 2) (sinF now (d3 (l + 2)))
  upd d4 (l + 4 + ixF now) (d4 (l + 4 + ixF now) + 1)
set_option maxHeartbeats 4000000 in
set_option maxRecDepth 100000 in
theorem k_X9_turnsLeg_0 (l : Launch) (E : Ev) {I : SI} {L : SL} (wish : Int32) (d : Nat → Int32) (e_d : I (162) = d) (hw : wish = 0 ∨ wish = 1 ∨ wish = 2) : CS l yX9_turnsLeg wsX9_turnsLeg ({ frames := 1, cells := 0, slots := 0, locals := 20 }) E [.ref (E.2.2.2 161), .int (0 : Int32), .int wish] I L (fun vv I' L' => vv = none ∧ I' = (up I (162) (tlF d 8 40 (nowF d 8 wish))) ∧ L' = L) := by
  refine CS.of (cc := cX9_turnsLeg) (maxL := 7) (ret := none) (by decide) rfl (Nat.le_of_ble_eq_true rfl) ?_
  intro pg en sg mg below meth cg ls S hr hlk hX G hl
  have S : CallFix pg mg cg cX9_turnsLeg 7 sg _ wsX9_turnsLeg RX9 := S
  have hl : lv_has ls 7 [(0, .ref (E.2.2.2 161)), (1, .int (0 : Int32)), (2, .int wish)] := hl
  refine lv_iload_n S.1 S.2.1 dX9_turnsLeg_0 rfl (lv_at hl 1 rfl) ?_
  refine s_callS (As := [.int (0 : Int32)]) (rest := []) S hX G (k_X9_legAt_0 l E) (va_cwS (bytes := cX9_legAt) (maxL := 1) (ret := (some .int)) 1 S.2.2.2.2 gX9_turnsLeg_X9_legAt rfl rfl rfl (by decide +kernel) ⟨Nat.le_of_ble_eq_true rfl, Nat.le_of_ble_eq_true rfl⟩) rfl hl.1 rfl (Nat.le_of_ble_eq_true rfl) ⟨Nat.zero_le _, Nat.zero_le _⟩ dX9_turnsLeg_1 (fun v I1 L1 H locs hR G => ?_)
  obtain ⟨hv, hI, hL⟩ := hR
  subst hv
  have G : GS E I L sg H locs := G.same hI hL
  refine W.eq (g2 := F0 mg 4 ls [.int (8 : Int32)]) rfl ?_
  refine lv_istore_n (lv' := [(3, .int (8 : Int32)), (0, .ref (E.2.2.2 161)), (1, .int (0 : Int32)), (2, .int wish)]) S.1 S.2.1 dX9_turnsLeg_4 rfl hl (by decide) rfl (fun ls hl => ?_)
  refine lv_aload_n S.1 S.2.1 dX9_turnsLeg_5 rfl (lv_at hl 1 rfl) ?_
  refine s_get S hX G (i := 161) (kd := 9) (a := (I 161)) (v := .ref (E.2.2.2 162)) (C := RX9) (T := TX9) (N := 13) 0 (rfl : sh 161 = 9) rfl rfl rfl (by decide) rfl (fun _ h => (List.mem_cons_of_mem _ (List.mem_append_right _ h))) (by decide) (List.mem_of_getElem? (i := 1) rfl) (fun _ h => h) dX9_turnsLeg_6 ?_
  refine lv_iload_n S.1 S.2.1 dX9_turnsLeg_9 rfl (lv_at hl 0 rfl) ?_
  refine lv_iconst (v := (1 : Int32)) S.1 S.2.1 dX9_turnsLeg_10 (by decide) ?_
  refine s_iadd (v := (9 : Int32)) S dX9_turnsLeg_11 (by decide) ?_
  refine s_iald S hX G (i := 162) (kd := 284) (n := 270) (a := d) (x := (d 9)) (rfl : sh 162 = 284) e_d rfl (by decide) (by unfold vp_in; decide) (congrArg d (by decide)) dX9_turnsLeg_12 ?_
  refine lv_istore (lv' := [(4, .int (d 9)), (3, .int (8 : Int32)), (0, .ref (E.2.2.2 161)), (1, .int (0 : Int32)), (2, .int wish)]) S.1 S.2.1 dX9_turnsLeg_13 hl (by decide) rfl (fun ls hl => ?_)
  refine s_cut (α := Int32) (nL := 7) (E := E) (fun x I' L' => x = (if d 10 = -1 ∨ ¬ d 10 < d 1 then 1 else 0) ∧ I' = I ∧ L' = L) (fun x => [(4, .int (d 9)), (3, .int (8 : Int32)), (0, .ref (E.2.2.2 161)), (1, .int (0 : Int32)), (2, .int wish)]) 49 (fun x => [.int x]) (fun kJ_1 => ?_) (fun x I1 L1 H locs ls hP G hl => ?_)
  · refine lv_aload_n S.1 S.2.1 dX9_turnsLeg_15 rfl (lv_at hl 2 rfl) ?_
    refine s_get S hX G (i := 161) (kd := 9) (a := (I 161)) (v := .ref (E.2.2.2 162)) (C := RX9) (T := TX9) (N := 13) 0 (rfl : sh 161 = 9) rfl rfl rfl (by decide) rfl (fun _ h => (List.mem_cons_of_mem _ (List.mem_append_right _ h))) (by decide) (List.mem_of_getElem? (i := 1) rfl) (fun _ h => h) dX9_turnsLeg_16 ?_
    refine lv_iload_n S.1 S.2.1 dX9_turnsLeg_19 rfl (lv_at hl 1 rfl) ?_
    refine lv_iconst (v := (2 : Int32)) S.1 S.2.1 dX9_turnsLeg_20 (by decide) ?_
    refine s_iadd (v := (10 : Int32)) S dX9_turnsLeg_21 (by decide) ?_
    refine s_iald S hX G (i := 162) (kd := 284) (n := 270) (a := d) (x := (d 10)) (rfl : sh 162 = 284) e_d rfl (by decide) (by unfold vp_in; decide) (congrArg d (by decide)) dX9_turnsLeg_22 ?_
    refine lv_iconst (v := (-1 : Int32)) S.1 S.2.1 dX9_turnsLeg_23 (by decide) ?_
    refine lv_icmp_eq (tgt := 44) S.1 S.2.1 dX9_turnsLeg_24 (by decide) (fun c_2 => ?_) (fun c_2 => ?_)
    · refine lv_iconst (v := (1 : Int32)) S.1 S.2.1 dX9_turnsLeg_44 (by decide) ?_
      refine lv_goto (tgt := 49) S.1 S.2.1 dX9_turnsLeg_45 (by decide) ?_
      exact kJ_1 (1 : Int32) _ _ _ _ _ ⟨(show (1 : Int32) = (if d 10 = -1 ∨ ¬ d 10 < d 1 then 1 else 0) by simp [c_2]), rfl, rfl⟩ G (lv_sub hl [0, 1, 2, 3, 4] rfl)
    · refine lv_aload_n S.1 S.2.1 dX9_turnsLeg_27 rfl (lv_at hl 2 rfl) ?_
      refine s_get S hX G (i := 161) (kd := 9) (a := (I 161)) (v := .ref (E.2.2.2 162)) (C := RX9) (T := TX9) (N := 13) 0 (rfl : sh 161 = 9) rfl rfl rfl (by decide) rfl (fun _ h => (List.mem_cons_of_mem _ (List.mem_append_right _ h))) (by decide) (List.mem_of_getElem? (i := 1) rfl) (fun _ h => h) dX9_turnsLeg_28 ?_
      refine lv_iload_n S.1 S.2.1 dX9_turnsLeg_31 rfl (lv_at hl 1 rfl) ?_
      refine lv_iconst (v := (2 : Int32)) S.1 S.2.1 dX9_turnsLeg_32 (by decide) ?_
      refine s_iadd (v := (10 : Int32)) S dX9_turnsLeg_33 (by decide) ?_
      refine s_iald S hX G (i := 162) (kd := 284) (n := 270) (a := d) (x := (d 10)) (rfl : sh 162 = 284) e_d rfl (by decide) (by unfold vp_in; decide) (congrArg d (by decide)) dX9_turnsLeg_34 ?_
      refine lv_aload_n S.1 S.2.1 dX9_turnsLeg_35 rfl (lv_at hl 2 rfl) ?_
      refine s_get S hX G (i := 161) (kd := 9) (a := (I 161)) (v := .ref (E.2.2.2 162)) (C := RX9) (T := TX9) (N := 13) 0 (rfl : sh 161 = 9) rfl rfl rfl (by decide) rfl (fun _ h => (List.mem_cons_of_mem _ (List.mem_append_right _ h))) (by decide) (List.mem_of_getElem? (i := 1) rfl) (fun _ h => h) dX9_turnsLeg_36 ?_
      refine lv_iconst (v := (1 : Int32)) S.1 S.2.1 dX9_turnsLeg_39 (by decide) ?_
      refine s_iald S hX G (i := 162) (kd := 284) (n := 270) (a := d) (x := (d 1)) (rfl : sh 162 = 284) e_d rfl (by decide) (by unfold vp_in; decide) (congrArg d (by decide)) dX9_turnsLeg_40 ?_
      refine lv_icmp_lt (tgt := 48) S.1 S.2.1 dX9_turnsLeg_41 (by decide) (fun c_3 => ?_) (fun c_3 => ?_)
      · refine lv_iconst (v := (0 : Int32)) S.1 S.2.1 dX9_turnsLeg_48 (by decide) ?_
        exact kJ_1 (0 : Int32) _ _ _ _ _ ⟨(show (0 : Int32) = (if d 10 = -1 ∨ ¬ d 10 < d 1 then 1 else 0) by simp [c_2, c_3]), rfl, rfl⟩ G (lv_sub hl [0, 1, 2, 3, 4] rfl)
      · refine lv_iconst (v := (1 : Int32)) S.1 S.2.1 dX9_turnsLeg_44 (by decide) ?_
        refine lv_goto (tgt := 49) S.1 S.2.1 dX9_turnsLeg_45 (by decide) ?_
        exact kJ_1 (1 : Int32) _ _ _ _ _ ⟨(show (1 : Int32) = (if d 10 = -1 ∨ ¬ d 10 < d 1 then 1 else 0) by simp [c_2, c_3]), rfl, rfl⟩ G (lv_sub hl [0, 1, 2, 3, 4] rfl)
  · obtain ⟨h0, hI, hL⟩ := hP
    have h0 : x = (if d 10 = -1 ∨ ¬ d 10 < d 1 then 1 else 0) := h0
    have hl : lv_has ls 7 [(4, .int (d 9)), (3, .int (8 : Int32)), (0, .ref (E.2.2.2 161)), (1, .int (0 : Int32)), (2, .int wish)] := hl
    subst h0
    have G : GS E I L sg H locs := G.same hI hL
    refine W.eq (g2 := F0 mg 49 ls [.int (if d 10 = -1 ∨ ¬ d 10 < d 1 then 1 else 0)]) rfl ?_
    refine lv_istore (lv' := [(5, .int (if d 10 = -1 ∨ ¬ d 10 < d 1 then 1 else 0)), (4, .int (d 9)), (3, .int (8 : Int32)), (0, .ref (E.2.2.2 161)), (1, .int (0 : Int32)), (2, .int wish)]) S.1 S.2.1 dX9_turnsLeg_49 hl (by decide) rfl (fun ls hl => ?_)
    refine s_cut (α := Int32) (nL := 7) (E := E) (fun x I' L' => x = (nowF d 8 wish) ∧ I' = I ∧ L' = L) (fun x => [(5, .int (if d 10 = -1 ∨ ¬ d 10 < d 1 then 1 else 0)), (4, .int (d 9)), (3, .int (8 : Int32)), (0, .ref (E.2.2.2 161)), (1, .int (0 : Int32)), (2, .int wish)]) 89 (fun x => [.int x]) (fun kJ_4 => ?_) (fun x I1 L1 H locs ls hP G hl => ?_)
    · refine lv_iload_n S.1 S.2.1 dX9_turnsLeg_51 rfl (lv_at hl 5 rfl) ?_
      refine lv_iload S.1 S.2.1 dX9_turnsLeg_52 (lv_at hl 1 rfl) ?_
      refine lv_icmp_eq (tgt := 61) S.1 S.2.1 dX9_turnsLeg_54 (by decide) (fun c_5 => ?_) (fun c_5 => ?_)
      · refine lv_iload_n S.1 S.2.1 dX9_turnsLeg_61 rfl (lv_at hl 5 rfl) ?_
        refine lv_goto (tgt := 89) S.1 S.2.1 dX9_turnsLeg_62 (by decide) ?_
        exact kJ_4 wish _ _ _ _ _ ⟨(show wish = (nowF d 8 wish) by first | (simp [nowF, c_5]; done) | (clear S hX G hl; grind [nowF])), rfl, rfl⟩ G (lv_sub hl [0, 1, 2, 3, 4, 5] rfl)
      · refine lv_iload_n S.1 S.2.1 dX9_turnsLeg_57 rfl (lv_at hl 5 rfl) ?_
        refine lv_if_ne (tgt := 65) S.1 S.2.1 dX9_turnsLeg_58 (by decide) (fun c_6 => ?_) (fun c_6 => ?_)
        · refine lv_iload S.1 S.2.1 dX9_turnsLeg_65 (lv_at hl 1 rfl) ?_
          refine lv_if_ne (tgt := 75) S.1 S.2.1 dX9_turnsLeg_67 (by decide) (fun c_7 => ?_) (fun c_7 => ?_)
          · refine lv_aload_n S.1 S.2.1 dX9_turnsLeg_75 rfl (lv_at hl 3 rfl) ?_
            refine s_get S hX G (i := 161) (kd := 9) (a := (I 161)) (v := .ref (E.2.2.2 162)) (C := RX9) (T := TX9) (N := 13) 0 (rfl : sh 161 = 9) rfl rfl rfl (by decide) rfl (fun _ h => (List.mem_cons_of_mem _ (List.mem_append_right _ h))) (by decide) (List.mem_of_getElem? (i := 1) rfl) (fun _ h => h) dX9_turnsLeg_76 ?_
            refine lv_iconst (v := (1 : Int32)) S.1 S.2.1 dX9_turnsLeg_79 (by decide) ?_
            refine s_iald S hX G (i := 162) (kd := 284) (n := 270) (a := d) (x := (d 1)) (rfl : sh 162 = 284) e_d rfl (by decide) (by unfold vp_in; decide) (congrArg d (by decide)) dX9_turnsLeg_80 ?_
            refine lv_if_ne (tgt := 88) S.1 S.2.1 dX9_turnsLeg_81 (by decide) (fun c_8 => ?_) (fun c_8 => ?_)
            · refine lv_iconst (v := (0 : Int32)) S.1 S.2.1 dX9_turnsLeg_88 (by decide) ?_
              exact kJ_4 (0 : Int32) _ _ _ _ _ ⟨(show (0 : Int32) = (nowF d 8 wish) by first | (simp [nowF, c_5, c_6, c_7, c_8]; done) | (clear S hX G hl; grind [nowF])), rfl, rfl⟩ G (lv_sub hl [0, 1, 2, 3, 4, 5] rfl)
            · refine lv_iload_n S.1 S.2.1 dX9_turnsLeg_84 rfl (lv_at hl 5 rfl) ?_
              refine lv_goto (tgt := 89) S.1 S.2.1 dX9_turnsLeg_85 (by decide) ?_
              exact kJ_4 wish _ _ _ _ _ ⟨(show wish = (nowF d 8 wish) by first | (simp [nowF, c_5, c_6, c_7, c_8]; done) | (clear S hX G hl; grind [nowF])), rfl, rfl⟩ G (lv_sub hl [0, 1, 2, 3, 4, 5] rfl)
          · refine lv_iload S.1 S.2.1 dX9_turnsLeg_70 (lv_at hl 0 rfl) ?_
            refine s_if_ne_b (P := d 10 = -1 ∨ ¬ d 10 < d 1) (tgt := 84) S dX9_turnsLeg_72 (by decide) (fun c_9 => ?_) (fun c_9 => ?_)
            · refine lv_iload_n S.1 S.2.1 dX9_turnsLeg_84 rfl (lv_at hl 5 rfl) ?_
              refine lv_goto (tgt := 89) S.1 S.2.1 dX9_turnsLeg_85 (by decide) ?_
              exact kJ_4 wish _ _ _ _ _ ⟨(show wish = (nowF d 8 wish) by first | (simp [nowF, c_5, c_6, c_7, c_9]; done) | (clear S hX G hl; grind [nowF])), rfl, rfl⟩ G (lv_sub hl [0, 1, 2, 3, 4, 5] rfl)
            · refine lv_aload_n S.1 S.2.1 dX9_turnsLeg_75 rfl (lv_at hl 3 rfl) ?_
              refine s_get S hX G (i := 161) (kd := 9) (a := (I 161)) (v := .ref (E.2.2.2 162)) (C := RX9) (T := TX9) (N := 13) 0 (rfl : sh 161 = 9) rfl rfl rfl (by decide) rfl (fun _ h => (List.mem_cons_of_mem _ (List.mem_append_right _ h))) (by decide) (List.mem_of_getElem? (i := 1) rfl) (fun _ h => h) dX9_turnsLeg_76 ?_
              refine lv_iconst (v := (1 : Int32)) S.1 S.2.1 dX9_turnsLeg_79 (by decide) ?_
              refine s_iald S hX G (i := 162) (kd := 284) (n := 270) (a := d) (x := (d 1)) (rfl : sh 162 = 284) e_d rfl (by decide) (by unfold vp_in; decide) (congrArg d (by decide)) dX9_turnsLeg_80 ?_
              refine lv_if_ne (tgt := 88) S.1 S.2.1 dX9_turnsLeg_81 (by decide) (fun c_10 => ?_) (fun c_10 => ?_)
              · refine lv_iconst (v := (0 : Int32)) S.1 S.2.1 dX9_turnsLeg_88 (by decide) ?_
                exact kJ_4 (0 : Int32) _ _ _ _ _ ⟨(show (0 : Int32) = (nowF d 8 wish) by first | (simp [nowF, c_5, c_6, c_7, c_9, c_10]; done) | (clear S hX G hl; grind [nowF])), rfl, rfl⟩ G (lv_sub hl [0, 1, 2, 3, 4, 5] rfl)
              · refine lv_iload_n S.1 S.2.1 dX9_turnsLeg_84 rfl (lv_at hl 5 rfl) ?_
                refine lv_goto (tgt := 89) S.1 S.2.1 dX9_turnsLeg_85 (by decide) ?_
                exact kJ_4 wish _ _ _ _ _ ⟨(show wish = (nowF d 8 wish) by first | (simp [nowF, c_5, c_6, c_7, c_9, c_10]; done) | (clear S hX G hl; grind [nowF])), rfl, rfl⟩ G (lv_sub hl [0, 1, 2, 3, 4, 5] rfl)
        · refine lv_iload_n S.1 S.2.1 dX9_turnsLeg_61 rfl (lv_at hl 5 rfl) ?_
          refine lv_goto (tgt := 89) S.1 S.2.1 dX9_turnsLeg_62 (by decide) ?_
          exact kJ_4 wish _ _ _ _ _ ⟨(show wish = (nowF d 8 wish) by first | (simp [nowF, c_5, c_6]; done) | (clear S hX G hl; grind [nowF])), rfl, rfl⟩ G (lv_sub hl [0, 1, 2, 3, 4, 5] rfl)
    · obtain ⟨h0, hI, hL⟩ := hP
      have h0 : x = (nowF d 8 wish) := h0
      have hl : lv_has ls 7 [(5, .int (if d 10 = -1 ∨ ¬ d 10 < d 1 then 1 else 0)), (4, .int (d 9)), (3, .int (8 : Int32)), (0, .ref (E.2.2.2 161)), (1, .int (0 : Int32)), (2, .int wish)] := hl
      obtain ⟨m_11, rfl⟩ : ∃ z, z = x := ⟨_, rfl⟩
      have em_11 : m_11 = (nowF d 8 wish) := h0
      have G : GS E I L sg H locs := G.same hI hL
      refine W.eq (g2 := F0 mg 89 ls [.int m_11]) rfl ?_
      refine lv_istore (lv' := [(6, .int m_11), (5, .int (if d 10 = -1 ∨ ¬ d 10 < d 1 then 1 else 0)), (4, .int (d 9)), (3, .int (8 : Int32)), (0, .ref (E.2.2.2 161)), (1, .int (0 : Int32)), (2, .int wish)]) S.1 S.2.1 dX9_turnsLeg_89 hl (by decide) rfl (fun ls hl => ?_)
      refine lv_aload_n S.1 S.2.1 dX9_turnsLeg_91 rfl (lv_at hl 4 rfl) ?_
      refine s_get S hX G (i := 161) (kd := 9) (a := (I 161)) (v := .ref (E.2.2.2 162)) (C := RX9) (T := TX9) (N := 13) 0 (rfl : sh 161 = 9) rfl rfl rfl (by decide) rfl (fun _ h => (List.mem_cons_of_mem _ (List.mem_append_right _ h))) (by decide) (List.mem_of_getElem? (i := 1) rfl) (fun _ h => h) dX9_turnsLeg_92 ?_
      refine lv_iload_n S.1 S.2.1 dX9_turnsLeg_95 rfl (lv_at hl 3 rfl) ?_
      refine lv_iconst (v := (1 : Int32)) S.1 S.2.1 dX9_turnsLeg_96 (by decide) ?_
      refine s_iadd (v := (9 : Int32)) S dX9_turnsLeg_97 (by decide) ?_
      refine lv_iload S.1 S.2.1 dX9_turnsLeg_98 (lv_at hl 0 rfl) ?_
      refine s_iast S hX G (i := 162) (kd := 284) (n := 270) (jn := 9) (a := d) (I' := (up I 162 (upd d 9 m_11))) (rfl : sh 162 = 284) e_d (fun _ => rfl) (by decide) (by unfold vp_in; decide) (by decide) rfl dX9_turnsLeg_100 (fun H locs G => ?_)
      refine s_cut (α := Unit) (nL := 7) (E := E) (fun x I' L' => I' = (up I 162 (swF d 8 40 m_11)) ∧ L' = L) (fun x => [(6, .int m_11), (5, .int (if d 10 = -1 ∨ ¬ d 10 < d 1 then 1 else 0)), (4, .int (d 9)), (3, .int (8 : Int32)), (0, .ref (E.2.2.2 161)), (1, .int (0 : Int32)), (2, .int wish)]) 151 (fun x => []) (fun kJ_12 => ?_) (fun x I1 L1 H locs ls hP G hl => ?_)
      · refine lv_iload S.1 S.2.1 dX9_turnsLeg_101 (lv_at hl 0 rfl) ?_
        refine lv_iload S.1 S.2.1 dX9_turnsLeg_103 (lv_at hl 2 rfl) ?_
        refine lv_icmp_eq (tgt := 151) S.1 S.2.1 dX9_turnsLeg_105 (by decide) (fun c_13 => ?_) (fun c_13 => ?_)
        · exact kJ_12 () _ _ _ _ _ ⟨(st_eq1 (Eq.trans up_eq (show (upd d 9 m_11) = (swF d 8 40 m_11) by subst em_11; (unfold swF; first | exact (if_pos c_13).symm | exact (if_neg c_13).symm))) (fun _ g0 => (up_ne g0))), rfl⟩ G (lv_sub hl [0, 1, 2, 3, 4, 5, 6] rfl)
        · refine lv_aload_n S.1 S.2.1 dX9_turnsLeg_108 rfl (lv_at hl 4 rfl) ?_
          refine s_get S hX G (i := 161) (kd := 9) (a := (I 161)) (v := .ref (E.2.2.2 162)) (C := RX9) (T := TX9) (N := 13) 0 (rfl : sh 161 = 9) (up_ne (by decide)) rfl rfl (by decide) rfl (fun _ h => (List.mem_cons_of_mem _ (List.mem_append_right _ h))) (by decide) (List.mem_of_getElem? (i := 1) rfl) (fun _ h => h) dX9_turnsLeg_109 ?_
          refine lv_iload_n S.1 S.2.1 dX9_turnsLeg_112 rfl (lv_at hl 3 rfl) ?_
          refine lv_iconst (v := (3 : Int32)) S.1 S.2.1 dX9_turnsLeg_113 (by decide) ?_
          refine s_iadd (v := (11 : Int32)) S dX9_turnsLeg_114 (by decide) ?_
          refine lv_dup2_11 S.1 S.2.1 dX9_turnsLeg_115 rfl rfl ?_
          refine s_iald S hX G (i := 162) (kd := 284) (n := 270) (a := (upd d 9 m_11)) (x := (d 11)) (rfl : sh 162 = 284) up_eq rfl (by decide) (by unfold vp_in; decide) (show (upd d 9 m_11) (Int32.toNatClampNeg (11 : Int32)) = (d 11) from congrArg (upd d 9 m_11) (show Int32.toNatClampNeg (11 : Int32) = 11 from (by decide))) dX9_turnsLeg_116 ?_
          refine lv_iconst (v := (1 : Int32)) S.1 S.2.1 dX9_turnsLeg_117 (by decide) ?_
          refine s_iadd (v := ((d 11) + (1 : Int32))) S dX9_turnsLeg_118 rfl ?_
          refine lv_topi (fun y_14 ey_14 => ?_)
          refine s_iast S hX G (i := 162) (kd := 284) (n := 270) (jn := 11) (a := (upd d 9 m_11)) (I' := (up I 162 (upd (upd d 9 m_11) 11 y_14))) (rfl : sh 162 = 284) up_eq (fun _ => rfl) (by decide) (by unfold vp_in; decide) (by decide) (by rw [up_up]) dX9_turnsLeg_119 (fun H locs G => ?_)
          refine lv_aload_n S.1 S.2.1 dX9_turnsLeg_120 rfl (lv_at hl 4 rfl) ?_
          refine s_get S hX G (i := 161) (kd := 9) (a := (I 161)) (v := .ref (E.2.2.2 162)) (C := RX9) (T := TX9) (N := 13) 0 (rfl : sh 161 = 9) (up_ne (by decide)) rfl rfl (by decide) rfl (fun _ h => (List.mem_cons_of_mem _ (List.mem_append_right _ h))) (by decide) (List.mem_of_getElem? (i := 1) rfl) (fun _ h => h) dX9_turnsLeg_121 ?_
          refine lv_bipush (v := (100 : Int32)) S.1 S.2.1 dX9_turnsLeg_124 (by decide) ?_
          refine lv_dup2_11 S.1 S.2.1 dX9_turnsLeg_126 rfl rfl ?_
          refine s_iald S hX G (i := 162) (kd := 284) (n := 270) (a := (upd (upd d 9 m_11) 11 y_14)) (x := (d 100)) (rfl : sh 162 = 284) up_eq rfl (by decide) (by unfold vp_in; decide) (show (upd (upd d 9 m_11) 11 y_14) (Int32.toNatClampNeg (100 : Int32)) = (d 100) from congrArg (upd (upd d 9 m_11) 11 y_14) (show Int32.toNatClampNeg (100 : Int32) = 100 from (by decide))) dX9_turnsLeg_127 ?_
          refine lv_iconst (v := (1 : Int32)) S.1 S.2.1 dX9_turnsLeg_128 (by decide) ?_
          refine s_iadd (v := ((d 100) + (1 : Int32))) S dX9_turnsLeg_129 rfl ?_
          refine lv_topi (fun y_15 ey_15 => ?_)
          refine s_iast S hX G (i := 162) (kd := 284) (n := 270) (jn := 100) (a := (upd (upd d 9 m_11) 11 y_14)) (I' := (up I 162 (upd (upd (upd d 9 m_11) 11 y_14) 100 y_15))) (rfl : sh 162 = 284) up_eq (fun _ => rfl) (by decide) (by unfold vp_in; decide) (by decide) (by rw [up_up]) dX9_turnsLeg_130 (fun H locs G => ?_)
          refine lv_aload_n S.1 S.2.1 dX9_turnsLeg_131 rfl (lv_at hl 4 rfl) ?_
          refine s_get S hX G (i := 161) (kd := 9) (a := (I 161)) (v := .ref (E.2.2.2 162)) (C := RX9) (T := TX9) (N := 13) 0 (rfl : sh 161 = 9) (up_ne (by decide)) rfl rfl (by decide) rfl (fun _ h => (List.mem_cons_of_mem _ (List.mem_append_right _ h))) (by decide) (List.mem_of_getElem? (i := 1) rfl) (fun _ h => h) dX9_turnsLeg_132 ?_
          refine lv_iload_n S.1 S.2.1 dX9_turnsLeg_135 rfl (lv_at hl 5 rfl) ?_
          refine lv_iconst (v := (2 : Int32)) S.1 S.2.1 dX9_turnsLeg_136 (by decide) ?_
          refine s_idiv (v := (0 : Int32)) S dX9_turnsLeg_137 (by decide) (by decide) ?_
          refine s_callS (As := [.int (0 : Int32)]) (rest := [.ref (E.2.2.2 162)]) S hX G (k_X9_loadAt_0 l E) (va_cwS (bytes := cX9_loadAt) (maxL := 1) (ret := (some .int)) 1 S.2.2.2.2 gX9_turnsLeg_X9_loadAt rfl rfl rfl (by decide +kernel) ⟨Nat.le_of_ble_eq_true rfl, Nat.le_of_ble_eq_true rfl⟩) rfl hl.1 rfl (Nat.le_of_ble_eq_true rfl) ⟨Nat.zero_le _, Nat.zero_le _⟩ dX9_turnsLeg_138 (fun v I1 L1 H locs hR G => ?_)
          obtain ⟨hv, hI, hL⟩ := hR
          subst hv
          have G : GS E (up I 162 (upd (upd (upd d 9 m_11) 11 y_14) 100 y_15)) L sg H locs := G.same hI hL
          refine W.eq (g2 := F0 mg 141 ls [.int (40 : Int32), .ref (E.2.2.2 162)]) rfl ?_
          refine lv_bipush (v := (8 : Int32)) S.1 S.2.1 dX9_turnsLeg_141 (by decide) ?_
          refine s_iadd (v := (48 : Int32)) S dX9_turnsLeg_143 (by decide) ?_
          refine lv_aload_n S.1 S.2.1 dX9_turnsLeg_144 rfl (lv_at hl 4 rfl) ?_
          refine s_get S hX G (i := 161) (kd := 9) (a := (I 161)) (v := .ref (E.2.2.2 162)) (C := RX9) (T := TX9) (N := 13) 0 (rfl : sh 161 = 9) (up_ne (by decide)) rfl rfl (by decide) rfl (fun _ h => (List.mem_cons_of_mem _ (List.mem_append_right _ h))) (by decide) (List.mem_of_getElem? (i := 1) rfl) (fun _ h => h) dX9_turnsLeg_145 ?_
          refine lv_iconst (v := (2 : Int32)) S.1 S.2.1 dX9_turnsLeg_148 (by decide) ?_
          refine s_iald S hX G (i := 162) (kd := 284) (n := 270) (a := (upd (upd (upd d 9 m_11) 11 y_14) 100 y_15)) (x := (d 2)) (rfl : sh 162 = 284) up_eq rfl (by decide) (by unfold vp_in; decide) (show (upd (upd (upd d 9 m_11) 11 y_14) 100 y_15) (Int32.toNatClampNeg (2 : Int32)) = (d 2) from congrArg (upd (upd (upd d 9 m_11) 11 y_14) 100 y_15) (show Int32.toNatClampNeg (2 : Int32) = 2 from (by decide))) dX9_turnsLeg_149 ?_
          refine s_iast S hX G (i := 162) (kd := 284) (n := 270) (jn := 48) (a := (upd (upd (upd d 9 m_11) 11 y_14) 100 y_15)) (I' := (up I 162 (upd (upd (upd (upd d 9 m_11) 11 y_14) 100 y_15) 48 (d 2)))) (rfl : sh 162 = 284) up_eq (fun _ => rfl) (by decide) (by unfold vp_in; decide) (by decide) (by rw [up_up]) dX9_turnsLeg_150 (fun H locs G => ?_)
          exact kJ_12 () _ _ _ _ _ ⟨(st_eq1 (Eq.trans up_eq (show (upd (upd (upd (upd d 9 m_11) 11 y_14) 100 y_15) 48 (d 2)) = (swF d 8 40 m_11) by subst ey_15 ey_14 em_11; (unfold swF; first | exact (if_pos c_13).symm | exact (if_neg c_13).symm))) (fun _ g0 => (up_ne g0))), rfl⟩ G (lv_sub hl [0, 1, 2, 3, 4, 5, 6] rfl)
      · obtain ⟨hI, hL⟩ := hP
        have hl : lv_has ls 7 [(6, .int m_11), (5, .int (if d 10 = -1 ∨ ¬ d 10 < d 1 then 1 else 0)), (4, .int (d 9)), (3, .int (8 : Int32)), (0, .ref (E.2.2.2 161)), (1, .int (0 : Int32)), (2, .int wish)] := hl
        have G : GS E (up I 162 (swF d 8 40 m_11)) L sg H locs := G.same hI hL
        obtain ⟨r_16, er_16⟩ : ∃ r : Nat → Int32, r = (swF d 8 40 m_11) := ⟨_, rfl⟩
        rw [← er_16] at G
        refine W.eq (g2 := F0 mg 151 ls []) rfl ?_
        refine lv_aload_n S.1 S.2.1 dX9_turnsLeg_151 rfl (lv_at hl 4 rfl) ?_
        refine s_get S hX G (i := 161) (kd := 9) (a := (I 161)) (v := .ref (E.2.2.2 162)) (C := RX9) (T := TX9) (N := 13) 0 (rfl : sh 161 = 9) (up_ne (by decide)) rfl rfl (by decide) rfl (fun _ h => (List.mem_cons_of_mem _ (List.mem_append_right _ h))) (by decide) (List.mem_of_getElem? (i := 1) rfl) (fun _ h => h) dX9_turnsLeg_152 ?_
        refine lv_iload_n S.1 S.2.1 dX9_turnsLeg_155 rfl (lv_at hl 3 rfl) ?_
        refine lv_iconst (v := (2 : Int32)) S.1 S.2.1 dX9_turnsLeg_156 (by decide) ?_
        refine s_iadd (v := (10 : Int32)) S dX9_turnsLeg_157 (by decide) ?_
        refine s_cut (α := Int32) (nL := 7) (E := E) (fun x I' L' => x = (sinF m_11 (r_16 10)) ∧ I' = (up I 162 r_16) ∧ L' = L) (fun x => [(6, .int m_11), (5, .int (if d 10 = -1 ∨ ¬ d 10 < d 1 then 1 else 0)), (4, .int (d 9)), (3, .int (8 : Int32)), (0, .ref (E.2.2.2 161)), (1, .int (0 : Int32)), (2, .int wish)]) 193 (fun x => [.int x, .int (10 : Int32), .ref (E.2.2.2 162)]) (fun kJ_17 => ?_) (fun x I1 L1 H locs ls hP G hl => ?_)
        · refine lv_iload S.1 S.2.1 dX9_turnsLeg_158 (lv_at hl 0 rfl) ?_
          refine lv_if_le (tgt := 167) S.1 S.2.1 dX9_turnsLeg_160 (by decide) (fun c_18 => ?_) (fun c_18 => ?_)
          · refine lv_aload_n S.1 S.2.1 dX9_turnsLeg_167 rfl (lv_at hl 4 rfl) ?_
            refine s_get S hX G (i := 161) (kd := 9) (a := (I 161)) (v := .ref (E.2.2.2 162)) (C := RX9) (T := TX9) (N := 13) 0 (rfl : sh 161 = 9) (up_ne (by decide)) rfl rfl (by decide) rfl (fun _ h => (List.mem_cons_of_mem _ (List.mem_append_right _ h))) (by decide) (List.mem_of_getElem? (i := 1) rfl) (fun _ h => h) dX9_turnsLeg_168 ?_
            refine lv_iload_n S.1 S.2.1 dX9_turnsLeg_171 rfl (lv_at hl 3 rfl) ?_
            refine lv_iconst (v := (2 : Int32)) S.1 S.2.1 dX9_turnsLeg_172 (by decide) ?_
            refine s_iadd (v := (10 : Int32)) S dX9_turnsLeg_173 (by decide) ?_
            refine s_iald S hX G (i := 162) (kd := 284) (n := 270) (a := r_16) (x := (r_16 10)) (rfl : sh 162 = 284) up_eq rfl (by decide) (by unfold vp_in; decide) (congrArg r_16 (by decide)) dX9_turnsLeg_174 ?_
            refine lv_iconst (v := (-1 : Int32)) S.1 S.2.1 dX9_turnsLeg_175 (by decide) ?_
            refine lv_icmp_ne (tgt := 183) S.1 S.2.1 dX9_turnsLeg_176 (by decide) (fun c_19 => ?_) (fun c_19 => ?_)
            · refine lv_aload_n S.1 S.2.1 dX9_turnsLeg_183 rfl (lv_at hl 4 rfl) ?_
              refine s_get S hX G (i := 161) (kd := 9) (a := (I 161)) (v := .ref (E.2.2.2 162)) (C := RX9) (T := TX9) (N := 13) 0 (rfl : sh 161 = 9) (up_ne (by decide)) rfl rfl (by decide) rfl (fun _ h => (List.mem_cons_of_mem _ (List.mem_append_right _ h))) (by decide) (List.mem_of_getElem? (i := 1) rfl) (fun _ h => h) dX9_turnsLeg_184 ?_
              refine lv_iload_n S.1 S.2.1 dX9_turnsLeg_187 rfl (lv_at hl 3 rfl) ?_
              refine lv_iconst (v := (2 : Int32)) S.1 S.2.1 dX9_turnsLeg_188 (by decide) ?_
              refine s_iadd (v := (10 : Int32)) S dX9_turnsLeg_189 (by decide) ?_
              refine s_iald S hX G (i := 162) (kd := 284) (n := 270) (a := r_16) (x := (r_16 10)) (rfl : sh 162 = 284) up_eq rfl (by decide) (by unfold vp_in; decide) (congrArg r_16 (by decide)) dX9_turnsLeg_190 ?_
              refine lv_iconst (v := (1 : Int32)) S.1 S.2.1 dX9_turnsLeg_191 (by decide) ?_
              refine s_iadd (v := ((r_16 10) + (1 : Int32))) S dX9_turnsLeg_192 rfl ?_
              exact kJ_17 ((r_16 10) + (1 : Int32)) _ _ _ _ _ ⟨(show ((r_16 10) + (1 : Int32)) = (sinF m_11 (r_16 10)) by subst er_16 em_11; simp [sinF, c_18, c_19]), rfl, rfl⟩ G (lv_sub hl [0, 1, 2, 3, 4, 5, 6] rfl)
            · refine lv_iconst (v := (-1 : Int32)) S.1 S.2.1 dX9_turnsLeg_179 (by decide) ?_
              refine lv_goto (tgt := 193) S.1 S.2.1 dX9_turnsLeg_180 (by decide) ?_
              exact kJ_17 (-1 : Int32) _ _ _ _ _ ⟨(show (-1 : Int32) = (sinF m_11 (r_16 10)) by subst er_16 em_11; simp [sinF, c_18, c_19]), rfl, rfl⟩ G (lv_sub hl [0, 1, 2, 3, 4, 5, 6] rfl)
          · refine lv_iconst (v := (0 : Int32)) S.1 S.2.1 dX9_turnsLeg_163 (by decide) ?_
            refine lv_goto (tgt := 193) S.1 S.2.1 dX9_turnsLeg_164 (by decide) ?_
            exact kJ_17 (0 : Int32) _ _ _ _ _ ⟨(show (0 : Int32) = (sinF m_11 (r_16 10)) by subst er_16 em_11; simp [sinF, c_18]), rfl, rfl⟩ G (lv_sub hl [0, 1, 2, 3, 4, 5, 6] rfl)
        · obtain ⟨h0, hI, hL⟩ := hP
          have h0 : x = (sinF m_11 (r_16 10)) := h0
          have hl : lv_has ls 7 [(6, .int m_11), (5, .int (if d 10 = -1 ∨ ¬ d 10 < d 1 then 1 else 0)), (4, .int (d 9)), (3, .int (8 : Int32)), (0, .ref (E.2.2.2 161)), (1, .int (0 : Int32)), (2, .int wish)] := hl
          obtain ⟨m_20, rfl⟩ : ∃ z, z = x := ⟨_, rfl⟩
          have em_20 : m_20 = (sinF m_11 (r_16 10)) := h0
          have G : GS E (up I 162 r_16) L sg H locs := G.same hI hL
          refine W.eq (g2 := F0 mg 193 ls [.int m_20, .int (10 : Int32), .ref (E.2.2.2 162)]) rfl ?_
          refine s_iast S hX G (i := 162) (kd := 284) (n := 270) (jn := 10) (a := r_16) (I' := (up I 162 (upd r_16 10 m_20))) (rfl : sh 162 = 284) up_eq (fun _ => rfl) (by decide) (by unfold vp_in; decide) (by decide) (by rw [up_up]) dX9_turnsLeg_193 (fun H locs G => ?_)
          refine lv_aload_n S.1 S.2.1 dX9_turnsLeg_194 rfl (lv_at hl 4 rfl) ?_
          refine s_get S hX G (i := 161) (kd := 9) (a := (I 161)) (v := .ref (E.2.2.2 162)) (C := RX9) (T := TX9) (N := 13) 0 (rfl : sh 161 = 9) (up_ne (by decide)) rfl rfl (by decide) rfl (fun _ h => (List.mem_cons_of_mem _ (List.mem_append_right _ h))) (by decide) (List.mem_of_getElem? (i := 1) rfl) (fun _ h => h) dX9_turnsLeg_195 ?_
          refine lv_iload_n S.1 S.2.1 dX9_turnsLeg_198 rfl (lv_at hl 3 rfl) ?_
          refine lv_iconst (v := (4 : Int32)) S.1 S.2.1 dX9_turnsLeg_199 (by decide) ?_
          refine s_iadd (v := (12 : Int32)) S dX9_turnsLeg_200 (by decide) ?_
          refine s_cut (α := Int32) (nL := 7) (E := E) (fun x I' L' => x = (if m_11 = 0 then 2 else m_11 - 1) ∧ I' = (up I 162 (upd r_16 10 m_20)) ∧ L' = L) (fun x => [(6, .int m_11), (5, .int (if d 10 = -1 ∨ ¬ d 10 < d 1 then 1 else 0)), (4, .int (d 9)), (3, .int (8 : Int32)), (0, .ref (E.2.2.2 161)), (1, .int (0 : Int32)), (2, .int wish)]) 214 (fun x => [.int x, .int (12 : Int32), .ref (E.2.2.2 162)]) (fun kJ_21 => ?_) (fun x I1 L1 H locs ls hP G hl => ?_)
          · refine lv_iload S.1 S.2.1 dX9_turnsLeg_201 (lv_at hl 0 rfl) ?_
            refine lv_if_ne (tgt := 210) S.1 S.2.1 dX9_turnsLeg_203 (by decide) (fun c_22 => ?_) (fun c_22 => ?_)
            · refine lv_iload S.1 S.2.1 dX9_turnsLeg_210 (lv_at hl 0 rfl) ?_
              refine lv_iconst (v := (1 : Int32)) S.1 S.2.1 dX9_turnsLeg_212 (by decide) ?_
              refine s_isub (v := (m_11 - (1 : Int32))) S dX9_turnsLeg_213 rfl ?_
              exact kJ_21 (m_11 - (1 : Int32)) _ _ _ _ _ ⟨(show (m_11 - (1 : Int32)) = (if m_11 = 0 then 2 else m_11 - 1) by subst em_20 er_16 em_11; simp [c_22]), rfl, rfl⟩ G (lv_sub hl [0, 1, 2, 3, 4, 5, 6] rfl)
            · refine lv_iconst (v := (2 : Int32)) S.1 S.2.1 dX9_turnsLeg_206 (by decide) ?_
              refine lv_goto (tgt := 214) S.1 S.2.1 dX9_turnsLeg_207 (by decide) ?_
              exact kJ_21 (2 : Int32) _ _ _ _ _ ⟨(show (2 : Int32) = (if m_11 = 0 then 2 else m_11 - 1) by subst em_20 er_16 em_11; simp [c_22]), rfl, rfl⟩ G (lv_sub hl [0, 1, 2, 3, 4, 5, 6] rfl)
          · obtain ⟨h0, hI, hL⟩ := hP
            have h0 : x = (if m_11 = 0 then 2 else m_11 - 1) := h0
            have hl : lv_has ls 7 [(6, .int m_11), (5, .int (if d 10 = -1 ∨ ¬ d 10 < d 1 then 1 else 0)), (4, .int (d 9)), (3, .int (8 : Int32)), (0, .ref (E.2.2.2 161)), (1, .int (0 : Int32)), (2, .int wish)] := hl
            subst h0
            have G : GS E (up I 162 (upd r_16 10 m_20)) L sg H locs := G.same hI hL
            refine W.eq (g2 := F0 mg 214 ls [.int (if m_11 = 0 then 2 else m_11 - 1), .int (12 : Int32), .ref (E.2.2.2 162)]) rfl ?_
            refine s_iadd (v := ((12 : Int32) + (if m_11 = 0 then 2 else m_11 - 1))) S dX9_turnsLeg_214 rfl ?_
            refine s_conv (y := (nI (12 + ixF m_11))) (ixF_e (a := 12) (em_11 ▸ nowF_in hw)) ?_
            refine lv_dup2_11 S.1 S.2.1 dX9_turnsLeg_215 rfl rfl ?_
            refine s_iald S hX G (i := 162) (kd := 284) (n := 270) (a := (upd r_16 10 m_20)) (x := ((upd r_16 10 m_20) (12 + ixF m_11))) (rfl : sh 162 = 284) up_eq rfl (by decide) (vp_in_nI (by have := @ixF_le m_11; omega) (by decide)) (congrArg (upd r_16 10 m_20) (nI_clamp (by have := @ixF_le m_11; omega))) dX9_turnsLeg_216 ?_
            refine lv_iconst (v := (1 : Int32)) S.1 S.2.1 dX9_turnsLeg_217 (by decide) ?_
            refine s_iadd (v := (((upd r_16 10 m_20) (12 + ixF m_11)) + (1 : Int32))) S dX9_turnsLeg_218 rfl ?_
            refine lv_topi (fun y_23 ey_23 => ?_)
            refine s_iast S hX G (i := 162) (kd := 284) (n := 270) (jn := (12 + ixF m_11)) (a := (upd r_16 10 m_20)) (I' := (up I 162 (upd (upd r_16 10 m_20) (12 + ixF m_11) y_23))) (rfl : sh 162 = 284) up_eq (fun _ => rfl) (by decide) (vp_in_nI (by have := @ixF_le m_11; omega) (by decide)) (nI_clamp (by have := @ixF_le m_11; omega)) (by rw [up_up]) dX9_turnsLeg_219 (fun H locs G => ?_)
            refine s_vret S G hr hlk dX9_turnsLeg_220 ?_
            exact ⟨rfl, (st_eq1 (Eq.trans up_eq (show (upd (upd r_16 10 m_20) (12 + ixF m_11) y_23) = (tlF d 8 40 (nowF d 8 wish)) by subst ey_23 em_20 er_16 em_11; rfl)) (fun _ g0 => (up_ne g0))), rfl⟩
set_option maxHeartbeats 4000000 in
set_option maxRecDepth 100000 in
theorem k_X9_turnsLeg_1 (l : Launch) (E : Ev) {I : SI} {L : SL} (wish : Int32) (d : Nat → Int32) (e_d : I (162) = d) (hw : wish = 0 ∨ wish = 1 ∨ wish = 2) : CS l yX9_turnsLeg wsX9_turnsLeg ({ frames := 1, cells := 0, slots := 0, locals := 20 }) E [.ref (E.2.2.2 161), .int (1 : Int32), .int wish] I L (fun vv I' L' => vv = none ∧ I' = (up I (162) (tlF d 16 40 (nowF d 16 wish))) ∧ L' = L) := by
  refine CS.of (cc := cX9_turnsLeg) (maxL := 7) (ret := none) (by decide) rfl (Nat.le_of_ble_eq_true rfl) ?_
  intro pg en sg mg below meth cg ls S hr hlk hX G hl
  have S : CallFix pg mg cg cX9_turnsLeg 7 sg _ wsX9_turnsLeg RX9 := S
  have hl : lv_has ls 7 [(0, .ref (E.2.2.2 161)), (1, .int (1 : Int32)), (2, .int wish)] := hl
  refine lv_iload_n S.1 S.2.1 dX9_turnsLeg_0 rfl (lv_at hl 1 rfl) ?_
  refine s_callS (As := [.int (1 : Int32)]) (rest := []) S hX G (k_X9_legAt_1 l E) (va_cwS (bytes := cX9_legAt) (maxL := 1) (ret := (some .int)) 1 S.2.2.2.2 gX9_turnsLeg_X9_legAt rfl rfl rfl (by decide +kernel) ⟨Nat.le_of_ble_eq_true rfl, Nat.le_of_ble_eq_true rfl⟩) rfl hl.1 rfl (Nat.le_of_ble_eq_true rfl) ⟨Nat.zero_le _, Nat.zero_le _⟩ dX9_turnsLeg_1 (fun v I1 L1 H locs hR G => ?_)
  obtain ⟨hv, hI, hL⟩ := hR
  subst hv
  have G : GS E I L sg H locs := G.same hI hL
  refine W.eq (g2 := F0 mg 4 ls [.int (16 : Int32)]) rfl ?_
  refine lv_istore_n (lv' := [(3, .int (16 : Int32)), (0, .ref (E.2.2.2 161)), (1, .int (1 : Int32)), (2, .int wish)]) S.1 S.2.1 dX9_turnsLeg_4 rfl hl (by decide) rfl (fun ls hl => ?_)
  refine lv_aload_n S.1 S.2.1 dX9_turnsLeg_5 rfl (lv_at hl 1 rfl) ?_
  refine s_get S hX G (i := 161) (kd := 9) (a := (I 161)) (v := .ref (E.2.2.2 162)) (C := RX9) (T := TX9) (N := 13) 0 (rfl : sh 161 = 9) rfl rfl rfl (by decide) rfl (fun _ h => (List.mem_cons_of_mem _ (List.mem_append_right _ h))) (by decide) (List.mem_of_getElem? (i := 1) rfl) (fun _ h => h) dX9_turnsLeg_6 ?_
  refine lv_iload_n S.1 S.2.1 dX9_turnsLeg_9 rfl (lv_at hl 0 rfl) ?_
  refine lv_iconst (v := (1 : Int32)) S.1 S.2.1 dX9_turnsLeg_10 (by decide) ?_
  refine s_iadd (v := (17 : Int32)) S dX9_turnsLeg_11 (by decide) ?_
  refine s_iald S hX G (i := 162) (kd := 284) (n := 270) (a := d) (x := (d 17)) (rfl : sh 162 = 284) e_d rfl (by decide) (by unfold vp_in; decide) (congrArg d (by decide)) dX9_turnsLeg_12 ?_
  refine lv_istore (lv' := [(4, .int (d 17)), (3, .int (16 : Int32)), (0, .ref (E.2.2.2 161)), (1, .int (1 : Int32)), (2, .int wish)]) S.1 S.2.1 dX9_turnsLeg_13 hl (by decide) rfl (fun ls hl => ?_)
  refine s_cut (α := Int32) (nL := 7) (E := E) (fun x I' L' => x = (if d 18 = -1 ∨ ¬ d 18 < d 1 then 1 else 0) ∧ I' = I ∧ L' = L) (fun x => [(4, .int (d 17)), (3, .int (16 : Int32)), (0, .ref (E.2.2.2 161)), (1, .int (1 : Int32)), (2, .int wish)]) 49 (fun x => [.int x]) (fun kJ_1 => ?_) (fun x I1 L1 H locs ls hP G hl => ?_)
  · refine lv_aload_n S.1 S.2.1 dX9_turnsLeg_15 rfl (lv_at hl 2 rfl) ?_
    refine s_get S hX G (i := 161) (kd := 9) (a := (I 161)) (v := .ref (E.2.2.2 162)) (C := RX9) (T := TX9) (N := 13) 0 (rfl : sh 161 = 9) rfl rfl rfl (by decide) rfl (fun _ h => (List.mem_cons_of_mem _ (List.mem_append_right _ h))) (by decide) (List.mem_of_getElem? (i := 1) rfl) (fun _ h => h) dX9_turnsLeg_16 ?_
    refine lv_iload_n S.1 S.2.1 dX9_turnsLeg_19 rfl (lv_at hl 1 rfl) ?_
    refine lv_iconst (v := (2 : Int32)) S.1 S.2.1 dX9_turnsLeg_20 (by decide) ?_
    refine s_iadd (v := (18 : Int32)) S dX9_turnsLeg_21 (by decide) ?_
    refine s_iald S hX G (i := 162) (kd := 284) (n := 270) (a := d) (x := (d 18)) (rfl : sh 162 = 284) e_d rfl (by decide) (by unfold vp_in; decide) (congrArg d (by decide)) dX9_turnsLeg_22 ?_
    refine lv_iconst (v := (-1 : Int32)) S.1 S.2.1 dX9_turnsLeg_23 (by decide) ?_
    refine lv_icmp_eq (tgt := 44) S.1 S.2.1 dX9_turnsLeg_24 (by decide) (fun c_2 => ?_) (fun c_2 => ?_)
    · refine lv_iconst (v := (1 : Int32)) S.1 S.2.1 dX9_turnsLeg_44 (by decide) ?_
      refine lv_goto (tgt := 49) S.1 S.2.1 dX9_turnsLeg_45 (by decide) ?_
      exact kJ_1 (1 : Int32) _ _ _ _ _ ⟨(show (1 : Int32) = (if d 18 = -1 ∨ ¬ d 18 < d 1 then 1 else 0) by simp [c_2]), rfl, rfl⟩ G (lv_sub hl [0, 1, 2, 3, 4] rfl)
    · refine lv_aload_n S.1 S.2.1 dX9_turnsLeg_27 rfl (lv_at hl 2 rfl) ?_
      refine s_get S hX G (i := 161) (kd := 9) (a := (I 161)) (v := .ref (E.2.2.2 162)) (C := RX9) (T := TX9) (N := 13) 0 (rfl : sh 161 = 9) rfl rfl rfl (by decide) rfl (fun _ h => (List.mem_cons_of_mem _ (List.mem_append_right _ h))) (by decide) (List.mem_of_getElem? (i := 1) rfl) (fun _ h => h) dX9_turnsLeg_28 ?_
      refine lv_iload_n S.1 S.2.1 dX9_turnsLeg_31 rfl (lv_at hl 1 rfl) ?_
      refine lv_iconst (v := (2 : Int32)) S.1 S.2.1 dX9_turnsLeg_32 (by decide) ?_
      refine s_iadd (v := (18 : Int32)) S dX9_turnsLeg_33 (by decide) ?_
      refine s_iald S hX G (i := 162) (kd := 284) (n := 270) (a := d) (x := (d 18)) (rfl : sh 162 = 284) e_d rfl (by decide) (by unfold vp_in; decide) (congrArg d (by decide)) dX9_turnsLeg_34 ?_
      refine lv_aload_n S.1 S.2.1 dX9_turnsLeg_35 rfl (lv_at hl 2 rfl) ?_
      refine s_get S hX G (i := 161) (kd := 9) (a := (I 161)) (v := .ref (E.2.2.2 162)) (C := RX9) (T := TX9) (N := 13) 0 (rfl : sh 161 = 9) rfl rfl rfl (by decide) rfl (fun _ h => (List.mem_cons_of_mem _ (List.mem_append_right _ h))) (by decide) (List.mem_of_getElem? (i := 1) rfl) (fun _ h => h) dX9_turnsLeg_36 ?_
      refine lv_iconst (v := (1 : Int32)) S.1 S.2.1 dX9_turnsLeg_39 (by decide) ?_
      refine s_iald S hX G (i := 162) (kd := 284) (n := 270) (a := d) (x := (d 1)) (rfl : sh 162 = 284) e_d rfl (by decide) (by unfold vp_in; decide) (congrArg d (by decide)) dX9_turnsLeg_40 ?_
      refine lv_icmp_lt (tgt := 48) S.1 S.2.1 dX9_turnsLeg_41 (by decide) (fun c_3 => ?_) (fun c_3 => ?_)
      · refine lv_iconst (v := (0 : Int32)) S.1 S.2.1 dX9_turnsLeg_48 (by decide) ?_
        exact kJ_1 (0 : Int32) _ _ _ _ _ ⟨(show (0 : Int32) = (if d 18 = -1 ∨ ¬ d 18 < d 1 then 1 else 0) by simp [c_2, c_3]), rfl, rfl⟩ G (lv_sub hl [0, 1, 2, 3, 4] rfl)
      · refine lv_iconst (v := (1 : Int32)) S.1 S.2.1 dX9_turnsLeg_44 (by decide) ?_
        refine lv_goto (tgt := 49) S.1 S.2.1 dX9_turnsLeg_45 (by decide) ?_
        exact kJ_1 (1 : Int32) _ _ _ _ _ ⟨(show (1 : Int32) = (if d 18 = -1 ∨ ¬ d 18 < d 1 then 1 else 0) by simp [c_2, c_3]), rfl, rfl⟩ G (lv_sub hl [0, 1, 2, 3, 4] rfl)
  · obtain ⟨h0, hI, hL⟩ := hP
    have h0 : x = (if d 18 = -1 ∨ ¬ d 18 < d 1 then 1 else 0) := h0
    have hl : lv_has ls 7 [(4, .int (d 17)), (3, .int (16 : Int32)), (0, .ref (E.2.2.2 161)), (1, .int (1 : Int32)), (2, .int wish)] := hl
    subst h0
    have G : GS E I L sg H locs := G.same hI hL
    refine W.eq (g2 := F0 mg 49 ls [.int (if d 18 = -1 ∨ ¬ d 18 < d 1 then 1 else 0)]) rfl ?_
    refine lv_istore (lv' := [(5, .int (if d 18 = -1 ∨ ¬ d 18 < d 1 then 1 else 0)), (4, .int (d 17)), (3, .int (16 : Int32)), (0, .ref (E.2.2.2 161)), (1, .int (1 : Int32)), (2, .int wish)]) S.1 S.2.1 dX9_turnsLeg_49 hl (by decide) rfl (fun ls hl => ?_)
    refine s_cut (α := Int32) (nL := 7) (E := E) (fun x I' L' => x = (nowF d 16 wish) ∧ I' = I ∧ L' = L) (fun x => [(5, .int (if d 18 = -1 ∨ ¬ d 18 < d 1 then 1 else 0)), (4, .int (d 17)), (3, .int (16 : Int32)), (0, .ref (E.2.2.2 161)), (1, .int (1 : Int32)), (2, .int wish)]) 89 (fun x => [.int x]) (fun kJ_4 => ?_) (fun x I1 L1 H locs ls hP G hl => ?_)
    · refine lv_iload_n S.1 S.2.1 dX9_turnsLeg_51 rfl (lv_at hl 5 rfl) ?_
      refine lv_iload S.1 S.2.1 dX9_turnsLeg_52 (lv_at hl 1 rfl) ?_
      refine lv_icmp_eq (tgt := 61) S.1 S.2.1 dX9_turnsLeg_54 (by decide) (fun c_5 => ?_) (fun c_5 => ?_)
      · refine lv_iload_n S.1 S.2.1 dX9_turnsLeg_61 rfl (lv_at hl 5 rfl) ?_
        refine lv_goto (tgt := 89) S.1 S.2.1 dX9_turnsLeg_62 (by decide) ?_
        exact kJ_4 wish _ _ _ _ _ ⟨(show wish = (nowF d 16 wish) by first | (simp [nowF, c_5]; done) | (clear S hX G hl; grind [nowF])), rfl, rfl⟩ G (lv_sub hl [0, 1, 2, 3, 4, 5] rfl)
      · refine lv_iload_n S.1 S.2.1 dX9_turnsLeg_57 rfl (lv_at hl 5 rfl) ?_
        refine lv_if_ne (tgt := 65) S.1 S.2.1 dX9_turnsLeg_58 (by decide) (fun c_6 => ?_) (fun c_6 => ?_)
        · refine lv_iload S.1 S.2.1 dX9_turnsLeg_65 (lv_at hl 1 rfl) ?_
          refine lv_if_ne (tgt := 75) S.1 S.2.1 dX9_turnsLeg_67 (by decide) (fun c_7 => ?_) (fun c_7 => ?_)
          · refine lv_aload_n S.1 S.2.1 dX9_turnsLeg_75 rfl (lv_at hl 3 rfl) ?_
            refine s_get S hX G (i := 161) (kd := 9) (a := (I 161)) (v := .ref (E.2.2.2 162)) (C := RX9) (T := TX9) (N := 13) 0 (rfl : sh 161 = 9) rfl rfl rfl (by decide) rfl (fun _ h => (List.mem_cons_of_mem _ (List.mem_append_right _ h))) (by decide) (List.mem_of_getElem? (i := 1) rfl) (fun _ h => h) dX9_turnsLeg_76 ?_
            refine lv_iconst (v := (1 : Int32)) S.1 S.2.1 dX9_turnsLeg_79 (by decide) ?_
            refine s_iald S hX G (i := 162) (kd := 284) (n := 270) (a := d) (x := (d 1)) (rfl : sh 162 = 284) e_d rfl (by decide) (by unfold vp_in; decide) (congrArg d (by decide)) dX9_turnsLeg_80 ?_
            refine lv_if_ne (tgt := 88) S.1 S.2.1 dX9_turnsLeg_81 (by decide) (fun c_8 => ?_) (fun c_8 => ?_)
            · refine lv_iconst (v := (0 : Int32)) S.1 S.2.1 dX9_turnsLeg_88 (by decide) ?_
              exact kJ_4 (0 : Int32) _ _ _ _ _ ⟨(show (0 : Int32) = (nowF d 16 wish) by first | (simp [nowF, c_5, c_6, c_7, c_8]; done) | (clear S hX G hl; grind [nowF])), rfl, rfl⟩ G (lv_sub hl [0, 1, 2, 3, 4, 5] rfl)
            · refine lv_iload_n S.1 S.2.1 dX9_turnsLeg_84 rfl (lv_at hl 5 rfl) ?_
              refine lv_goto (tgt := 89) S.1 S.2.1 dX9_turnsLeg_85 (by decide) ?_
              exact kJ_4 wish _ _ _ _ _ ⟨(show wish = (nowF d 16 wish) by first | (simp [nowF, c_5, c_6, c_7, c_8]; done) | (clear S hX G hl; grind [nowF])), rfl, rfl⟩ G (lv_sub hl [0, 1, 2, 3, 4, 5] rfl)
          · refine lv_iload S.1 S.2.1 dX9_turnsLeg_70 (lv_at hl 0 rfl) ?_
            refine s_if_ne_b (P := d 18 = -1 ∨ ¬ d 18 < d 1) (tgt := 84) S dX9_turnsLeg_72 (by decide) (fun c_9 => ?_) (fun c_9 => ?_)
            · refine lv_iload_n S.1 S.2.1 dX9_turnsLeg_84 rfl (lv_at hl 5 rfl) ?_
              refine lv_goto (tgt := 89) S.1 S.2.1 dX9_turnsLeg_85 (by decide) ?_
              exact kJ_4 wish _ _ _ _ _ ⟨(show wish = (nowF d 16 wish) by first | (simp [nowF, c_5, c_6, c_7, c_9]; done) | (clear S hX G hl; grind [nowF])), rfl, rfl⟩ G (lv_sub hl [0, 1, 2, 3, 4, 5] rfl)
            · refine lv_aload_n S.1 S.2.1 dX9_turnsLeg_75 rfl (lv_at hl 3 rfl) ?_
              refine s_get S hX G (i := 161) (kd := 9) (a := (I 161)) (v := .ref (E.2.2.2 162)) (C := RX9) (T := TX9) (N := 13) 0 (rfl : sh 161 = 9) rfl rfl rfl (by decide) rfl (fun _ h => (List.mem_cons_of_mem _ (List.mem_append_right _ h))) (by decide) (List.mem_of_getElem? (i := 1) rfl) (fun _ h => h) dX9_turnsLeg_76 ?_
              refine lv_iconst (v := (1 : Int32)) S.1 S.2.1 dX9_turnsLeg_79 (by decide) ?_
              refine s_iald S hX G (i := 162) (kd := 284) (n := 270) (a := d) (x := (d 1)) (rfl : sh 162 = 284) e_d rfl (by decide) (by unfold vp_in; decide) (congrArg d (by decide)) dX9_turnsLeg_80 ?_
              refine lv_if_ne (tgt := 88) S.1 S.2.1 dX9_turnsLeg_81 (by decide) (fun c_10 => ?_) (fun c_10 => ?_)
              · refine lv_iconst (v := (0 : Int32)) S.1 S.2.1 dX9_turnsLeg_88 (by decide) ?_
                exact kJ_4 (0 : Int32) _ _ _ _ _ ⟨(show (0 : Int32) = (nowF d 16 wish) by first | (simp [nowF, c_5, c_6, c_7, c_9, c_10]; done) | (clear S hX G hl; grind [nowF])), rfl, rfl⟩ G (lv_sub hl [0, 1, 2, 3, 4, 5] rfl)
              · refine lv_iload_n S.1 S.2.1 dX9_turnsLeg_84 rfl (lv_at hl 5 rfl) ?_
                refine lv_goto (tgt := 89) S.1 S.2.1 dX9_turnsLeg_85 (by decide) ?_
                exact kJ_4 wish _ _ _ _ _ ⟨(show wish = (nowF d 16 wish) by first | (simp [nowF, c_5, c_6, c_7, c_9, c_10]; done) | (clear S hX G hl; grind [nowF])), rfl, rfl⟩ G (lv_sub hl [0, 1, 2, 3, 4, 5] rfl)
        · refine lv_iload_n S.1 S.2.1 dX9_turnsLeg_61 rfl (lv_at hl 5 rfl) ?_
          refine lv_goto (tgt := 89) S.1 S.2.1 dX9_turnsLeg_62 (by decide) ?_
          exact kJ_4 wish _ _ _ _ _ ⟨(show wish = (nowF d 16 wish) by first | (simp [nowF, c_5, c_6]; done) | (clear S hX G hl; grind [nowF])), rfl, rfl⟩ G (lv_sub hl [0, 1, 2, 3, 4, 5] rfl)
    · obtain ⟨h0, hI, hL⟩ := hP
      have h0 : x = (nowF d 16 wish) := h0
      have hl : lv_has ls 7 [(5, .int (if d 18 = -1 ∨ ¬ d 18 < d 1 then 1 else 0)), (4, .int (d 17)), (3, .int (16 : Int32)), (0, .ref (E.2.2.2 161)), (1, .int (1 : Int32)), (2, .int wish)] := hl
      obtain ⟨m_11, rfl⟩ : ∃ z, z = x := ⟨_, rfl⟩
      have em_11 : m_11 = (nowF d 16 wish) := h0
      have G : GS E I L sg H locs := G.same hI hL
      refine W.eq (g2 := F0 mg 89 ls [.int m_11]) rfl ?_
      refine lv_istore (lv' := [(6, .int m_11), (5, .int (if d 18 = -1 ∨ ¬ d 18 < d 1 then 1 else 0)), (4, .int (d 17)), (3, .int (16 : Int32)), (0, .ref (E.2.2.2 161)), (1, .int (1 : Int32)), (2, .int wish)]) S.1 S.2.1 dX9_turnsLeg_89 hl (by decide) rfl (fun ls hl => ?_)
      refine lv_aload_n S.1 S.2.1 dX9_turnsLeg_91 rfl (lv_at hl 4 rfl) ?_
      refine s_get S hX G (i := 161) (kd := 9) (a := (I 161)) (v := .ref (E.2.2.2 162)) (C := RX9) (T := TX9) (N := 13) 0 (rfl : sh 161 = 9) rfl rfl rfl (by decide) rfl (fun _ h => (List.mem_cons_of_mem _ (List.mem_append_right _ h))) (by decide) (List.mem_of_getElem? (i := 1) rfl) (fun _ h => h) dX9_turnsLeg_92 ?_
      refine lv_iload_n S.1 S.2.1 dX9_turnsLeg_95 rfl (lv_at hl 3 rfl) ?_
      refine lv_iconst (v := (1 : Int32)) S.1 S.2.1 dX9_turnsLeg_96 (by decide) ?_
      refine s_iadd (v := (17 : Int32)) S dX9_turnsLeg_97 (by decide) ?_
      refine lv_iload S.1 S.2.1 dX9_turnsLeg_98 (lv_at hl 0 rfl) ?_
      refine s_iast S hX G (i := 162) (kd := 284) (n := 270) (jn := 17) (a := d) (I' := (up I 162 (upd d 17 m_11))) (rfl : sh 162 = 284) e_d (fun _ => rfl) (by decide) (by unfold vp_in; decide) (by decide) rfl dX9_turnsLeg_100 (fun H locs G => ?_)
      refine s_cut (α := Unit) (nL := 7) (E := E) (fun x I' L' => I' = (up I 162 (swF d 16 40 m_11)) ∧ L' = L) (fun x => [(6, .int m_11), (5, .int (if d 18 = -1 ∨ ¬ d 18 < d 1 then 1 else 0)), (4, .int (d 17)), (3, .int (16 : Int32)), (0, .ref (E.2.2.2 161)), (1, .int (1 : Int32)), (2, .int wish)]) 151 (fun x => []) (fun kJ_12 => ?_) (fun x I1 L1 H locs ls hP G hl => ?_)
      · refine lv_iload S.1 S.2.1 dX9_turnsLeg_101 (lv_at hl 0 rfl) ?_
        refine lv_iload S.1 S.2.1 dX9_turnsLeg_103 (lv_at hl 2 rfl) ?_
        refine lv_icmp_eq (tgt := 151) S.1 S.2.1 dX9_turnsLeg_105 (by decide) (fun c_13 => ?_) (fun c_13 => ?_)
        · exact kJ_12 () _ _ _ _ _ ⟨(st_eq1 (Eq.trans up_eq (show (upd d 17 m_11) = (swF d 16 40 m_11) by subst em_11; (unfold swF; first | exact (if_pos c_13).symm | exact (if_neg c_13).symm))) (fun _ g0 => (up_ne g0))), rfl⟩ G (lv_sub hl [0, 1, 2, 3, 4, 5, 6] rfl)
        · refine lv_aload_n S.1 S.2.1 dX9_turnsLeg_108 rfl (lv_at hl 4 rfl) ?_
          refine s_get S hX G (i := 161) (kd := 9) (a := (I 161)) (v := .ref (E.2.2.2 162)) (C := RX9) (T := TX9) (N := 13) 0 (rfl : sh 161 = 9) (up_ne (by decide)) rfl rfl (by decide) rfl (fun _ h => (List.mem_cons_of_mem _ (List.mem_append_right _ h))) (by decide) (List.mem_of_getElem? (i := 1) rfl) (fun _ h => h) dX9_turnsLeg_109 ?_
          refine lv_iload_n S.1 S.2.1 dX9_turnsLeg_112 rfl (lv_at hl 3 rfl) ?_
          refine lv_iconst (v := (3 : Int32)) S.1 S.2.1 dX9_turnsLeg_113 (by decide) ?_
          refine s_iadd (v := (19 : Int32)) S dX9_turnsLeg_114 (by decide) ?_
          refine lv_dup2_11 S.1 S.2.1 dX9_turnsLeg_115 rfl rfl ?_
          refine s_iald S hX G (i := 162) (kd := 284) (n := 270) (a := (upd d 17 m_11)) (x := (d 19)) (rfl : sh 162 = 284) up_eq rfl (by decide) (by unfold vp_in; decide) (show (upd d 17 m_11) (Int32.toNatClampNeg (19 : Int32)) = (d 19) from congrArg (upd d 17 m_11) (show Int32.toNatClampNeg (19 : Int32) = 19 from (by decide))) dX9_turnsLeg_116 ?_
          refine lv_iconst (v := (1 : Int32)) S.1 S.2.1 dX9_turnsLeg_117 (by decide) ?_
          refine s_iadd (v := ((d 19) + (1 : Int32))) S dX9_turnsLeg_118 rfl ?_
          refine lv_topi (fun y_14 ey_14 => ?_)
          refine s_iast S hX G (i := 162) (kd := 284) (n := 270) (jn := 19) (a := (upd d 17 m_11)) (I' := (up I 162 (upd (upd d 17 m_11) 19 y_14))) (rfl : sh 162 = 284) up_eq (fun _ => rfl) (by decide) (by unfold vp_in; decide) (by decide) (by rw [up_up]) dX9_turnsLeg_119 (fun H locs G => ?_)
          refine lv_aload_n S.1 S.2.1 dX9_turnsLeg_120 rfl (lv_at hl 4 rfl) ?_
          refine s_get S hX G (i := 161) (kd := 9) (a := (I 161)) (v := .ref (E.2.2.2 162)) (C := RX9) (T := TX9) (N := 13) 0 (rfl : sh 161 = 9) (up_ne (by decide)) rfl rfl (by decide) rfl (fun _ h => (List.mem_cons_of_mem _ (List.mem_append_right _ h))) (by decide) (List.mem_of_getElem? (i := 1) rfl) (fun _ h => h) dX9_turnsLeg_121 ?_
          refine lv_bipush (v := (100 : Int32)) S.1 S.2.1 dX9_turnsLeg_124 (by decide) ?_
          refine lv_dup2_11 S.1 S.2.1 dX9_turnsLeg_126 rfl rfl ?_
          refine s_iald S hX G (i := 162) (kd := 284) (n := 270) (a := (upd (upd d 17 m_11) 19 y_14)) (x := (d 100)) (rfl : sh 162 = 284) up_eq rfl (by decide) (by unfold vp_in; decide) (show (upd (upd d 17 m_11) 19 y_14) (Int32.toNatClampNeg (100 : Int32)) = (d 100) from congrArg (upd (upd d 17 m_11) 19 y_14) (show Int32.toNatClampNeg (100 : Int32) = 100 from (by decide))) dX9_turnsLeg_127 ?_
          refine lv_iconst (v := (1 : Int32)) S.1 S.2.1 dX9_turnsLeg_128 (by decide) ?_
          refine s_iadd (v := ((d 100) + (1 : Int32))) S dX9_turnsLeg_129 rfl ?_
          refine lv_topi (fun y_15 ey_15 => ?_)
          refine s_iast S hX G (i := 162) (kd := 284) (n := 270) (jn := 100) (a := (upd (upd d 17 m_11) 19 y_14)) (I' := (up I 162 (upd (upd (upd d 17 m_11) 19 y_14) 100 y_15))) (rfl : sh 162 = 284) up_eq (fun _ => rfl) (by decide) (by unfold vp_in; decide) (by decide) (by rw [up_up]) dX9_turnsLeg_130 (fun H locs G => ?_)
          refine lv_aload_n S.1 S.2.1 dX9_turnsLeg_131 rfl (lv_at hl 4 rfl) ?_
          refine s_get S hX G (i := 161) (kd := 9) (a := (I 161)) (v := .ref (E.2.2.2 162)) (C := RX9) (T := TX9) (N := 13) 0 (rfl : sh 161 = 9) (up_ne (by decide)) rfl rfl (by decide) rfl (fun _ h => (List.mem_cons_of_mem _ (List.mem_append_right _ h))) (by decide) (List.mem_of_getElem? (i := 1) rfl) (fun _ h => h) dX9_turnsLeg_132 ?_
          refine lv_iload_n S.1 S.2.1 dX9_turnsLeg_135 rfl (lv_at hl 5 rfl) ?_
          refine lv_iconst (v := (2 : Int32)) S.1 S.2.1 dX9_turnsLeg_136 (by decide) ?_
          refine s_idiv (v := (0 : Int32)) S dX9_turnsLeg_137 (by decide) (by decide) ?_
          refine s_callS (As := [.int (0 : Int32)]) (rest := [.ref (E.2.2.2 162)]) S hX G (k_X9_loadAt_0 l E) (va_cwS (bytes := cX9_loadAt) (maxL := 1) (ret := (some .int)) 1 S.2.2.2.2 gX9_turnsLeg_X9_loadAt rfl rfl rfl (by decide +kernel) ⟨Nat.le_of_ble_eq_true rfl, Nat.le_of_ble_eq_true rfl⟩) rfl hl.1 rfl (Nat.le_of_ble_eq_true rfl) ⟨Nat.zero_le _, Nat.zero_le _⟩ dX9_turnsLeg_138 (fun v I1 L1 H locs hR G => ?_)
          obtain ⟨hv, hI, hL⟩ := hR
          subst hv
          have G : GS E (up I 162 (upd (upd (upd d 17 m_11) 19 y_14) 100 y_15)) L sg H locs := G.same hI hL
          refine W.eq (g2 := F0 mg 141 ls [.int (40 : Int32), .ref (E.2.2.2 162)]) rfl ?_
          refine lv_bipush (v := (8 : Int32)) S.1 S.2.1 dX9_turnsLeg_141 (by decide) ?_
          refine s_iadd (v := (48 : Int32)) S dX9_turnsLeg_143 (by decide) ?_
          refine lv_aload_n S.1 S.2.1 dX9_turnsLeg_144 rfl (lv_at hl 4 rfl) ?_
          refine s_get S hX G (i := 161) (kd := 9) (a := (I 161)) (v := .ref (E.2.2.2 162)) (C := RX9) (T := TX9) (N := 13) 0 (rfl : sh 161 = 9) (up_ne (by decide)) rfl rfl (by decide) rfl (fun _ h => (List.mem_cons_of_mem _ (List.mem_append_right _ h))) (by decide) (List.mem_of_getElem? (i := 1) rfl) (fun _ h => h) dX9_turnsLeg_145 ?_
          refine lv_iconst (v := (2 : Int32)) S.1 S.2.1 dX9_turnsLeg_148 (by decide) ?_
          refine s_iald S hX G (i := 162) (kd := 284) (n := 270) (a := (upd (upd (upd d 17 m_11) 19 y_14) 100 y_15)) (x := (d 2)) (rfl : sh 162 = 284) up_eq rfl (by decide) (by unfold vp_in; decide) (show (upd (upd (upd d 17 m_11) 19 y_14) 100 y_15) (Int32.toNatClampNeg (2 : Int32)) = (d 2) from congrArg (upd (upd (upd d 17 m_11) 19 y_14) 100 y_15) (show Int32.toNatClampNeg (2 : Int32) = 2 from (by decide))) dX9_turnsLeg_149 ?_
          refine s_iast S hX G (i := 162) (kd := 284) (n := 270) (jn := 48) (a := (upd (upd (upd d 17 m_11) 19 y_14) 100 y_15)) (I' := (up I 162 (upd (upd (upd (upd d 17 m_11) 19 y_14) 100 y_15) 48 (d 2)))) (rfl : sh 162 = 284) up_eq (fun _ => rfl) (by decide) (by unfold vp_in; decide) (by decide) (by rw [up_up]) dX9_turnsLeg_150 (fun H locs G => ?_)
          exact kJ_12 () _ _ _ _ _ ⟨(st_eq1 (Eq.trans up_eq (show (upd (upd (upd (upd d 17 m_11) 19 y_14) 100 y_15) 48 (d 2)) = (swF d 16 40 m_11) by subst ey_15 ey_14 em_11; (unfold swF; first | exact (if_pos c_13).symm | exact (if_neg c_13).symm))) (fun _ g0 => (up_ne g0))), rfl⟩ G (lv_sub hl [0, 1, 2, 3, 4, 5, 6] rfl)
      · obtain ⟨hI, hL⟩ := hP
        have hl : lv_has ls 7 [(6, .int m_11), (5, .int (if d 18 = -1 ∨ ¬ d 18 < d 1 then 1 else 0)), (4, .int (d 17)), (3, .int (16 : Int32)), (0, .ref (E.2.2.2 161)), (1, .int (1 : Int32)), (2, .int wish)] := hl
        have G : GS E (up I 162 (swF d 16 40 m_11)) L sg H locs := G.same hI hL
        obtain ⟨r_16, er_16⟩ : ∃ r : Nat → Int32, r = (swF d 16 40 m_11) := ⟨_, rfl⟩
        rw [← er_16] at G
        refine W.eq (g2 := F0 mg 151 ls []) rfl ?_
        refine lv_aload_n S.1 S.2.1 dX9_turnsLeg_151 rfl (lv_at hl 4 rfl) ?_
        refine s_get S hX G (i := 161) (kd := 9) (a := (I 161)) (v := .ref (E.2.2.2 162)) (C := RX9) (T := TX9) (N := 13) 0 (rfl : sh 161 = 9) (up_ne (by decide)) rfl rfl (by decide) rfl (fun _ h => (List.mem_cons_of_mem _ (List.mem_append_right _ h))) (by decide) (List.mem_of_getElem? (i := 1) rfl) (fun _ h => h) dX9_turnsLeg_152 ?_
        refine lv_iload_n S.1 S.2.1 dX9_turnsLeg_155 rfl (lv_at hl 3 rfl) ?_
        refine lv_iconst (v := (2 : Int32)) S.1 S.2.1 dX9_turnsLeg_156 (by decide) ?_
        refine s_iadd (v := (18 : Int32)) S dX9_turnsLeg_157 (by decide) ?_
        refine s_cut (α := Int32) (nL := 7) (E := E) (fun x I' L' => x = (sinF m_11 (r_16 18)) ∧ I' = (up I 162 r_16) ∧ L' = L) (fun x => [(6, .int m_11), (5, .int (if d 18 = -1 ∨ ¬ d 18 < d 1 then 1 else 0)), (4, .int (d 17)), (3, .int (16 : Int32)), (0, .ref (E.2.2.2 161)), (1, .int (1 : Int32)), (2, .int wish)]) 193 (fun x => [.int x, .int (18 : Int32), .ref (E.2.2.2 162)]) (fun kJ_17 => ?_) (fun x I1 L1 H locs ls hP G hl => ?_)
        · refine lv_iload S.1 S.2.1 dX9_turnsLeg_158 (lv_at hl 0 rfl) ?_
          refine lv_if_le (tgt := 167) S.1 S.2.1 dX9_turnsLeg_160 (by decide) (fun c_18 => ?_) (fun c_18 => ?_)
          · refine lv_aload_n S.1 S.2.1 dX9_turnsLeg_167 rfl (lv_at hl 4 rfl) ?_
            refine s_get S hX G (i := 161) (kd := 9) (a := (I 161)) (v := .ref (E.2.2.2 162)) (C := RX9) (T := TX9) (N := 13) 0 (rfl : sh 161 = 9) (up_ne (by decide)) rfl rfl (by decide) rfl (fun _ h => (List.mem_cons_of_mem _ (List.mem_append_right _ h))) (by decide) (List.mem_of_getElem? (i := 1) rfl) (fun _ h => h) dX9_turnsLeg_168 ?_
            refine lv_iload_n S.1 S.2.1 dX9_turnsLeg_171 rfl (lv_at hl 3 rfl) ?_
            refine lv_iconst (v := (2 : Int32)) S.1 S.2.1 dX9_turnsLeg_172 (by decide) ?_
            refine s_iadd (v := (18 : Int32)) S dX9_turnsLeg_173 (by decide) ?_
            refine s_iald S hX G (i := 162) (kd := 284) (n := 270) (a := r_16) (x := (r_16 18)) (rfl : sh 162 = 284) up_eq rfl (by decide) (by unfold vp_in; decide) (congrArg r_16 (by decide)) dX9_turnsLeg_174 ?_
            refine lv_iconst (v := (-1 : Int32)) S.1 S.2.1 dX9_turnsLeg_175 (by decide) ?_
            refine lv_icmp_ne (tgt := 183) S.1 S.2.1 dX9_turnsLeg_176 (by decide) (fun c_19 => ?_) (fun c_19 => ?_)
            · refine lv_aload_n S.1 S.2.1 dX9_turnsLeg_183 rfl (lv_at hl 4 rfl) ?_
              refine s_get S hX G (i := 161) (kd := 9) (a := (I 161)) (v := .ref (E.2.2.2 162)) (C := RX9) (T := TX9) (N := 13) 0 (rfl : sh 161 = 9) (up_ne (by decide)) rfl rfl (by decide) rfl (fun _ h => (List.mem_cons_of_mem _ (List.mem_append_right _ h))) (by decide) (List.mem_of_getElem? (i := 1) rfl) (fun _ h => h) dX9_turnsLeg_184 ?_
              refine lv_iload_n S.1 S.2.1 dX9_turnsLeg_187 rfl (lv_at hl 3 rfl) ?_
              refine lv_iconst (v := (2 : Int32)) S.1 S.2.1 dX9_turnsLeg_188 (by decide) ?_
              refine s_iadd (v := (18 : Int32)) S dX9_turnsLeg_189 (by decide) ?_
              refine s_iald S hX G (i := 162) (kd := 284) (n := 270) (a := r_16) (x := (r_16 18)) (rfl : sh 162 = 284) up_eq rfl (by decide) (by unfold vp_in; decide) (congrArg r_16 (by decide)) dX9_turnsLeg_190 ?_
              refine lv_iconst (v := (1 : Int32)) S.1 S.2.1 dX9_turnsLeg_191 (by decide) ?_
              refine s_iadd (v := ((r_16 18) + (1 : Int32))) S dX9_turnsLeg_192 rfl ?_
              exact kJ_17 ((r_16 18) + (1 : Int32)) _ _ _ _ _ ⟨(show ((r_16 18) + (1 : Int32)) = (sinF m_11 (r_16 18)) by subst er_16 em_11; simp [sinF, c_18, c_19]), rfl, rfl⟩ G (lv_sub hl [0, 1, 2, 3, 4, 5, 6] rfl)
            · refine lv_iconst (v := (-1 : Int32)) S.1 S.2.1 dX9_turnsLeg_179 (by decide) ?_
              refine lv_goto (tgt := 193) S.1 S.2.1 dX9_turnsLeg_180 (by decide) ?_
              exact kJ_17 (-1 : Int32) _ _ _ _ _ ⟨(show (-1 : Int32) = (sinF m_11 (r_16 18)) by subst er_16 em_11; simp [sinF, c_18, c_19]), rfl, rfl⟩ G (lv_sub hl [0, 1, 2, 3, 4, 5, 6] rfl)
          · refine lv_iconst (v := (0 : Int32)) S.1 S.2.1 dX9_turnsLeg_163 (by decide) ?_
            refine lv_goto (tgt := 193) S.1 S.2.1 dX9_turnsLeg_164 (by decide) ?_
            exact kJ_17 (0 : Int32) _ _ _ _ _ ⟨(show (0 : Int32) = (sinF m_11 (r_16 18)) by subst er_16 em_11; simp [sinF, c_18]), rfl, rfl⟩ G (lv_sub hl [0, 1, 2, 3, 4, 5, 6] rfl)
        · obtain ⟨h0, hI, hL⟩ := hP
          have h0 : x = (sinF m_11 (r_16 18)) := h0
          have hl : lv_has ls 7 [(6, .int m_11), (5, .int (if d 18 = -1 ∨ ¬ d 18 < d 1 then 1 else 0)), (4, .int (d 17)), (3, .int (16 : Int32)), (0, .ref (E.2.2.2 161)), (1, .int (1 : Int32)), (2, .int wish)] := hl
          obtain ⟨m_20, rfl⟩ : ∃ z, z = x := ⟨_, rfl⟩
          have em_20 : m_20 = (sinF m_11 (r_16 18)) := h0
          have G : GS E (up I 162 r_16) L sg H locs := G.same hI hL
          refine W.eq (g2 := F0 mg 193 ls [.int m_20, .int (18 : Int32), .ref (E.2.2.2 162)]) rfl ?_
          refine s_iast S hX G (i := 162) (kd := 284) (n := 270) (jn := 18) (a := r_16) (I' := (up I 162 (upd r_16 18 m_20))) (rfl : sh 162 = 284) up_eq (fun _ => rfl) (by decide) (by unfold vp_in; decide) (by decide) (by rw [up_up]) dX9_turnsLeg_193 (fun H locs G => ?_)
          refine lv_aload_n S.1 S.2.1 dX9_turnsLeg_194 rfl (lv_at hl 4 rfl) ?_
          refine s_get S hX G (i := 161) (kd := 9) (a := (I 161)) (v := .ref (E.2.2.2 162)) (C := RX9) (T := TX9) (N := 13) 0 (rfl : sh 161 = 9) (up_ne (by decide)) rfl rfl (by decide) rfl (fun _ h => (List.mem_cons_of_mem _ (List.mem_append_right _ h))) (by decide) (List.mem_of_getElem? (i := 1) rfl) (fun _ h => h) dX9_turnsLeg_195 ?_
          refine lv_iload_n S.1 S.2.1 dX9_turnsLeg_198 rfl (lv_at hl 3 rfl) ?_
          refine lv_iconst (v := (4 : Int32)) S.1 S.2.1 dX9_turnsLeg_199 (by decide) ?_
          refine s_iadd (v := (20 : Int32)) S dX9_turnsLeg_200 (by decide) ?_
          refine s_cut (α := Int32) (nL := 7) (E := E) (fun x I' L' => x = (if m_11 = 0 then 2 else m_11 - 1) ∧ I' = (up I 162 (upd r_16 18 m_20)) ∧ L' = L) (fun x => [(6, .int m_11), (5, .int (if d 18 = -1 ∨ ¬ d 18 < d 1 then 1 else 0)), (4, .int (d 17)), (3, .int (16 : Int32)), (0, .ref (E.2.2.2 161)), (1, .int (1 : Int32)), (2, .int wish)]) 214 (fun x => [.int x, .int (20 : Int32), .ref (E.2.2.2 162)]) (fun kJ_21 => ?_) (fun x I1 L1 H locs ls hP G hl => ?_)
          · refine lv_iload S.1 S.2.1 dX9_turnsLeg_201 (lv_at hl 0 rfl) ?_
            refine lv_if_ne (tgt := 210) S.1 S.2.1 dX9_turnsLeg_203 (by decide) (fun c_22 => ?_) (fun c_22 => ?_)
            · refine lv_iload S.1 S.2.1 dX9_turnsLeg_210 (lv_at hl 0 rfl) ?_
              refine lv_iconst (v := (1 : Int32)) S.1 S.2.1 dX9_turnsLeg_212 (by decide) ?_
              refine s_isub (v := (m_11 - (1 : Int32))) S dX9_turnsLeg_213 rfl ?_
              exact kJ_21 (m_11 - (1 : Int32)) _ _ _ _ _ ⟨(show (m_11 - (1 : Int32)) = (if m_11 = 0 then 2 else m_11 - 1) by subst em_20 er_16 em_11; simp [c_22]), rfl, rfl⟩ G (lv_sub hl [0, 1, 2, 3, 4, 5, 6] rfl)
            · refine lv_iconst (v := (2 : Int32)) S.1 S.2.1 dX9_turnsLeg_206 (by decide) ?_
              refine lv_goto (tgt := 214) S.1 S.2.1 dX9_turnsLeg_207 (by decide) ?_
              exact kJ_21 (2 : Int32) _ _ _ _ _ ⟨(show (2 : Int32) = (if m_11 = 0 then 2 else m_11 - 1) by subst em_20 er_16 em_11; simp [c_22]), rfl, rfl⟩ G (lv_sub hl [0, 1, 2, 3, 4, 5, 6] rfl)
          · obtain ⟨h0, hI, hL⟩ := hP
            have h0 : x = (if m_11 = 0 then 2 else m_11 - 1) := h0
            have hl : lv_has ls 7 [(6, .int m_11), (5, .int (if d 18 = -1 ∨ ¬ d 18 < d 1 then 1 else 0)), (4, .int (d 17)), (3, .int (16 : Int32)), (0, .ref (E.2.2.2 161)), (1, .int (1 : Int32)), (2, .int wish)] := hl
            subst h0
            have G : GS E (up I 162 (upd r_16 18 m_20)) L sg H locs := G.same hI hL
            refine W.eq (g2 := F0 mg 214 ls [.int (if m_11 = 0 then 2 else m_11 - 1), .int (20 : Int32), .ref (E.2.2.2 162)]) rfl ?_
            refine s_iadd (v := ((20 : Int32) + (if m_11 = 0 then 2 else m_11 - 1))) S dX9_turnsLeg_214 rfl ?_
            refine s_conv (y := (nI (20 + ixF m_11))) (ixF_e (a := 20) (em_11 ▸ nowF_in hw)) ?_
            refine lv_dup2_11 S.1 S.2.1 dX9_turnsLeg_215 rfl rfl ?_
            refine s_iald S hX G (i := 162) (kd := 284) (n := 270) (a := (upd r_16 18 m_20)) (x := ((upd r_16 18 m_20) (20 + ixF m_11))) (rfl : sh 162 = 284) up_eq rfl (by decide) (vp_in_nI (by have := @ixF_le m_11; omega) (by decide)) (congrArg (upd r_16 18 m_20) (nI_clamp (by have := @ixF_le m_11; omega))) dX9_turnsLeg_216 ?_
            refine lv_iconst (v := (1 : Int32)) S.1 S.2.1 dX9_turnsLeg_217 (by decide) ?_
            refine s_iadd (v := (((upd r_16 18 m_20) (20 + ixF m_11)) + (1 : Int32))) S dX9_turnsLeg_218 rfl ?_
            refine lv_topi (fun y_23 ey_23 => ?_)
            refine s_iast S hX G (i := 162) (kd := 284) (n := 270) (jn := (20 + ixF m_11)) (a := (upd r_16 18 m_20)) (I' := (up I 162 (upd (upd r_16 18 m_20) (20 + ixF m_11) y_23))) (rfl : sh 162 = 284) up_eq (fun _ => rfl) (by decide) (vp_in_nI (by have := @ixF_le m_11; omega) (by decide)) (nI_clamp (by have := @ixF_le m_11; omega)) (by rw [up_up]) dX9_turnsLeg_219 (fun H locs G => ?_)
            refine s_vret S G hr hlk dX9_turnsLeg_220 ?_
            exact ⟨rfl, (st_eq1 (Eq.trans up_eq (show (upd (upd r_16 18 m_20) (20 + ixF m_11) y_23) = (tlF d 16 40 (nowF d 16 wish)) by subst ey_23 em_20 er_16 em_11; rfl)) (fun _ g0 => (up_ne g0))), rfl⟩
set_option maxHeartbeats 4000000 in
set_option maxRecDepth 100000 in
theorem k_X9_turnsLeg_2 (l : Launch) (E : Ev) {I : SI} {L : SL} (wish : Int32) (d : Nat → Int32) (e_d : I (162) = d) (hw : wish = 0 ∨ wish = 1 ∨ wish = 2) : CS l yX9_turnsLeg wsX9_turnsLeg ({ frames := 1, cells := 0, slots := 0, locals := 20 }) E [.ref (E.2.2.2 161), .int (2 : Int32), .int wish] I L (fun vv I' L' => vv = none ∧ I' = (up I (162) (tlF d 24 70 (nowF d 24 wish))) ∧ L' = L) := by
  refine CS.of (cc := cX9_turnsLeg) (maxL := 7) (ret := none) (by decide) rfl (Nat.le_of_ble_eq_true rfl) ?_
  intro pg en sg mg below meth cg ls S hr hlk hX G hl
  have S : CallFix pg mg cg cX9_turnsLeg 7 sg _ wsX9_turnsLeg RX9 := S
  have hl : lv_has ls 7 [(0, .ref (E.2.2.2 161)), (1, .int (2 : Int32)), (2, .int wish)] := hl
  refine lv_iload_n S.1 S.2.1 dX9_turnsLeg_0 rfl (lv_at hl 1 rfl) ?_
  refine s_callS (As := [.int (2 : Int32)]) (rest := []) S hX G (k_X9_legAt_2 l E) (va_cwS (bytes := cX9_legAt) (maxL := 1) (ret := (some .int)) 1 S.2.2.2.2 gX9_turnsLeg_X9_legAt rfl rfl rfl (by decide +kernel) ⟨Nat.le_of_ble_eq_true rfl, Nat.le_of_ble_eq_true rfl⟩) rfl hl.1 rfl (Nat.le_of_ble_eq_true rfl) ⟨Nat.zero_le _, Nat.zero_le _⟩ dX9_turnsLeg_1 (fun v I1 L1 H locs hR G => ?_)
  obtain ⟨hv, hI, hL⟩ := hR
  subst hv
  have G : GS E I L sg H locs := G.same hI hL
  refine W.eq (g2 := F0 mg 4 ls [.int (24 : Int32)]) rfl ?_
  refine lv_istore_n (lv' := [(3, .int (24 : Int32)), (0, .ref (E.2.2.2 161)), (1, .int (2 : Int32)), (2, .int wish)]) S.1 S.2.1 dX9_turnsLeg_4 rfl hl (by decide) rfl (fun ls hl => ?_)
  refine lv_aload_n S.1 S.2.1 dX9_turnsLeg_5 rfl (lv_at hl 1 rfl) ?_
  refine s_get S hX G (i := 161) (kd := 9) (a := (I 161)) (v := .ref (E.2.2.2 162)) (C := RX9) (T := TX9) (N := 13) 0 (rfl : sh 161 = 9) rfl rfl rfl (by decide) rfl (fun _ h => (List.mem_cons_of_mem _ (List.mem_append_right _ h))) (by decide) (List.mem_of_getElem? (i := 1) rfl) (fun _ h => h) dX9_turnsLeg_6 ?_
  refine lv_iload_n S.1 S.2.1 dX9_turnsLeg_9 rfl (lv_at hl 0 rfl) ?_
  refine lv_iconst (v := (1 : Int32)) S.1 S.2.1 dX9_turnsLeg_10 (by decide) ?_
  refine s_iadd (v := (25 : Int32)) S dX9_turnsLeg_11 (by decide) ?_
  refine s_iald S hX G (i := 162) (kd := 284) (n := 270) (a := d) (x := (d 25)) (rfl : sh 162 = 284) e_d rfl (by decide) (by unfold vp_in; decide) (congrArg d (by decide)) dX9_turnsLeg_12 ?_
  refine lv_istore (lv' := [(4, .int (d 25)), (3, .int (24 : Int32)), (0, .ref (E.2.2.2 161)), (1, .int (2 : Int32)), (2, .int wish)]) S.1 S.2.1 dX9_turnsLeg_13 hl (by decide) rfl (fun ls hl => ?_)
  refine s_cut (α := Int32) (nL := 7) (E := E) (fun x I' L' => x = (if d 26 = -1 ∨ ¬ d 26 < d 1 then 1 else 0) ∧ I' = I ∧ L' = L) (fun x => [(4, .int (d 25)), (3, .int (24 : Int32)), (0, .ref (E.2.2.2 161)), (1, .int (2 : Int32)), (2, .int wish)]) 49 (fun x => [.int x]) (fun kJ_1 => ?_) (fun x I1 L1 H locs ls hP G hl => ?_)
  · refine lv_aload_n S.1 S.2.1 dX9_turnsLeg_15 rfl (lv_at hl 2 rfl) ?_
    refine s_get S hX G (i := 161) (kd := 9) (a := (I 161)) (v := .ref (E.2.2.2 162)) (C := RX9) (T := TX9) (N := 13) 0 (rfl : sh 161 = 9) rfl rfl rfl (by decide) rfl (fun _ h => (List.mem_cons_of_mem _ (List.mem_append_right _ h))) (by decide) (List.mem_of_getElem? (i := 1) rfl) (fun _ h => h) dX9_turnsLeg_16 ?_
    refine lv_iload_n S.1 S.2.1 dX9_turnsLeg_19 rfl (lv_at hl 1 rfl) ?_
    refine lv_iconst (v := (2 : Int32)) S.1 S.2.1 dX9_turnsLeg_20 (by decide) ?_
    refine s_iadd (v := (26 : Int32)) S dX9_turnsLeg_21 (by decide) ?_
    refine s_iald S hX G (i := 162) (kd := 284) (n := 270) (a := d) (x := (d 26)) (rfl : sh 162 = 284) e_d rfl (by decide) (by unfold vp_in; decide) (congrArg d (by decide)) dX9_turnsLeg_22 ?_
    refine lv_iconst (v := (-1 : Int32)) S.1 S.2.1 dX9_turnsLeg_23 (by decide) ?_
    refine lv_icmp_eq (tgt := 44) S.1 S.2.1 dX9_turnsLeg_24 (by decide) (fun c_2 => ?_) (fun c_2 => ?_)
    · refine lv_iconst (v := (1 : Int32)) S.1 S.2.1 dX9_turnsLeg_44 (by decide) ?_
      refine lv_goto (tgt := 49) S.1 S.2.1 dX9_turnsLeg_45 (by decide) ?_
      exact kJ_1 (1 : Int32) _ _ _ _ _ ⟨(show (1 : Int32) = (if d 26 = -1 ∨ ¬ d 26 < d 1 then 1 else 0) by simp [c_2]), rfl, rfl⟩ G (lv_sub hl [0, 1, 2, 3, 4] rfl)
    · refine lv_aload_n S.1 S.2.1 dX9_turnsLeg_27 rfl (lv_at hl 2 rfl) ?_
      refine s_get S hX G (i := 161) (kd := 9) (a := (I 161)) (v := .ref (E.2.2.2 162)) (C := RX9) (T := TX9) (N := 13) 0 (rfl : sh 161 = 9) rfl rfl rfl (by decide) rfl (fun _ h => (List.mem_cons_of_mem _ (List.mem_append_right _ h))) (by decide) (List.mem_of_getElem? (i := 1) rfl) (fun _ h => h) dX9_turnsLeg_28 ?_
      refine lv_iload_n S.1 S.2.1 dX9_turnsLeg_31 rfl (lv_at hl 1 rfl) ?_
      refine lv_iconst (v := (2 : Int32)) S.1 S.2.1 dX9_turnsLeg_32 (by decide) ?_
      refine s_iadd (v := (26 : Int32)) S dX9_turnsLeg_33 (by decide) ?_
      refine s_iald S hX G (i := 162) (kd := 284) (n := 270) (a := d) (x := (d 26)) (rfl : sh 162 = 284) e_d rfl (by decide) (by unfold vp_in; decide) (congrArg d (by decide)) dX9_turnsLeg_34 ?_
      refine lv_aload_n S.1 S.2.1 dX9_turnsLeg_35 rfl (lv_at hl 2 rfl) ?_
      refine s_get S hX G (i := 161) (kd := 9) (a := (I 161)) (v := .ref (E.2.2.2 162)) (C := RX9) (T := TX9) (N := 13) 0 (rfl : sh 161 = 9) rfl rfl rfl (by decide) rfl (fun _ h => (List.mem_cons_of_mem _ (List.mem_append_right _ h))) (by decide) (List.mem_of_getElem? (i := 1) rfl) (fun _ h => h) dX9_turnsLeg_36 ?_
      refine lv_iconst (v := (1 : Int32)) S.1 S.2.1 dX9_turnsLeg_39 (by decide) ?_
      refine s_iald S hX G (i := 162) (kd := 284) (n := 270) (a := d) (x := (d 1)) (rfl : sh 162 = 284) e_d rfl (by decide) (by unfold vp_in; decide) (congrArg d (by decide)) dX9_turnsLeg_40 ?_
      refine lv_icmp_lt (tgt := 48) S.1 S.2.1 dX9_turnsLeg_41 (by decide) (fun c_3 => ?_) (fun c_3 => ?_)
      · refine lv_iconst (v := (0 : Int32)) S.1 S.2.1 dX9_turnsLeg_48 (by decide) ?_
        exact kJ_1 (0 : Int32) _ _ _ _ _ ⟨(show (0 : Int32) = (if d 26 = -1 ∨ ¬ d 26 < d 1 then 1 else 0) by simp [c_2, c_3]), rfl, rfl⟩ G (lv_sub hl [0, 1, 2, 3, 4] rfl)
      · refine lv_iconst (v := (1 : Int32)) S.1 S.2.1 dX9_turnsLeg_44 (by decide) ?_
        refine lv_goto (tgt := 49) S.1 S.2.1 dX9_turnsLeg_45 (by decide) ?_
        exact kJ_1 (1 : Int32) _ _ _ _ _ ⟨(show (1 : Int32) = (if d 26 = -1 ∨ ¬ d 26 < d 1 then 1 else 0) by simp [c_2, c_3]), rfl, rfl⟩ G (lv_sub hl [0, 1, 2, 3, 4] rfl)
  · obtain ⟨h0, hI, hL⟩ := hP
    have h0 : x = (if d 26 = -1 ∨ ¬ d 26 < d 1 then 1 else 0) := h0
    have hl : lv_has ls 7 [(4, .int (d 25)), (3, .int (24 : Int32)), (0, .ref (E.2.2.2 161)), (1, .int (2 : Int32)), (2, .int wish)] := hl
    subst h0
    have G : GS E I L sg H locs := G.same hI hL
    refine W.eq (g2 := F0 mg 49 ls [.int (if d 26 = -1 ∨ ¬ d 26 < d 1 then 1 else 0)]) rfl ?_
    refine lv_istore (lv' := [(5, .int (if d 26 = -1 ∨ ¬ d 26 < d 1 then 1 else 0)), (4, .int (d 25)), (3, .int (24 : Int32)), (0, .ref (E.2.2.2 161)), (1, .int (2 : Int32)), (2, .int wish)]) S.1 S.2.1 dX9_turnsLeg_49 hl (by decide) rfl (fun ls hl => ?_)
    refine s_cut (α := Int32) (nL := 7) (E := E) (fun x I' L' => x = (nowF d 24 wish) ∧ I' = I ∧ L' = L) (fun x => [(5, .int (if d 26 = -1 ∨ ¬ d 26 < d 1 then 1 else 0)), (4, .int (d 25)), (3, .int (24 : Int32)), (0, .ref (E.2.2.2 161)), (1, .int (2 : Int32)), (2, .int wish)]) 89 (fun x => [.int x]) (fun kJ_4 => ?_) (fun x I1 L1 H locs ls hP G hl => ?_)
    · refine lv_iload_n S.1 S.2.1 dX9_turnsLeg_51 rfl (lv_at hl 5 rfl) ?_
      refine lv_iload S.1 S.2.1 dX9_turnsLeg_52 (lv_at hl 1 rfl) ?_
      refine lv_icmp_eq (tgt := 61) S.1 S.2.1 dX9_turnsLeg_54 (by decide) (fun c_5 => ?_) (fun c_5 => ?_)
      · refine lv_iload_n S.1 S.2.1 dX9_turnsLeg_61 rfl (lv_at hl 5 rfl) ?_
        refine lv_goto (tgt := 89) S.1 S.2.1 dX9_turnsLeg_62 (by decide) ?_
        exact kJ_4 wish _ _ _ _ _ ⟨(show wish = (nowF d 24 wish) by first | (simp [nowF, c_5]; done) | (clear S hX G hl; grind [nowF])), rfl, rfl⟩ G (lv_sub hl [0, 1, 2, 3, 4, 5] rfl)
      · refine lv_iload_n S.1 S.2.1 dX9_turnsLeg_57 rfl (lv_at hl 5 rfl) ?_
        refine lv_if_ne (tgt := 65) S.1 S.2.1 dX9_turnsLeg_58 (by decide) (fun c_6 => ?_) (fun c_6 => ?_)
        · refine lv_iload S.1 S.2.1 dX9_turnsLeg_65 (lv_at hl 1 rfl) ?_
          refine lv_if_ne (tgt := 75) S.1 S.2.1 dX9_turnsLeg_67 (by decide) (fun c_7 => ?_) (fun c_7 => ?_)
          · refine lv_aload_n S.1 S.2.1 dX9_turnsLeg_75 rfl (lv_at hl 3 rfl) ?_
            refine s_get S hX G (i := 161) (kd := 9) (a := (I 161)) (v := .ref (E.2.2.2 162)) (C := RX9) (T := TX9) (N := 13) 0 (rfl : sh 161 = 9) rfl rfl rfl (by decide) rfl (fun _ h => (List.mem_cons_of_mem _ (List.mem_append_right _ h))) (by decide) (List.mem_of_getElem? (i := 1) rfl) (fun _ h => h) dX9_turnsLeg_76 ?_
            refine lv_iconst (v := (1 : Int32)) S.1 S.2.1 dX9_turnsLeg_79 (by decide) ?_
            refine s_iald S hX G (i := 162) (kd := 284) (n := 270) (a := d) (x := (d 1)) (rfl : sh 162 = 284) e_d rfl (by decide) (by unfold vp_in; decide) (congrArg d (by decide)) dX9_turnsLeg_80 ?_
            refine lv_if_ne (tgt := 88) S.1 S.2.1 dX9_turnsLeg_81 (by decide) (fun c_8 => ?_) (fun c_8 => ?_)
            · refine lv_iconst (v := (0 : Int32)) S.1 S.2.1 dX9_turnsLeg_88 (by decide) ?_
              exact kJ_4 (0 : Int32) _ _ _ _ _ ⟨(show (0 : Int32) = (nowF d 24 wish) by first | (simp [nowF, c_5, c_6, c_7, c_8]; done) | (clear S hX G hl; grind [nowF])), rfl, rfl⟩ G (lv_sub hl [0, 1, 2, 3, 4, 5] rfl)
            · refine lv_iload_n S.1 S.2.1 dX9_turnsLeg_84 rfl (lv_at hl 5 rfl) ?_
              refine lv_goto (tgt := 89) S.1 S.2.1 dX9_turnsLeg_85 (by decide) ?_
              exact kJ_4 wish _ _ _ _ _ ⟨(show wish = (nowF d 24 wish) by first | (simp [nowF, c_5, c_6, c_7, c_8]; done) | (clear S hX G hl; grind [nowF])), rfl, rfl⟩ G (lv_sub hl [0, 1, 2, 3, 4, 5] rfl)
          · refine lv_iload S.1 S.2.1 dX9_turnsLeg_70 (lv_at hl 0 rfl) ?_
            refine s_if_ne_b (P := d 26 = -1 ∨ ¬ d 26 < d 1) (tgt := 84) S dX9_turnsLeg_72 (by decide) (fun c_9 => ?_) (fun c_9 => ?_)
            · refine lv_iload_n S.1 S.2.1 dX9_turnsLeg_84 rfl (lv_at hl 5 rfl) ?_
              refine lv_goto (tgt := 89) S.1 S.2.1 dX9_turnsLeg_85 (by decide) ?_
              exact kJ_4 wish _ _ _ _ _ ⟨(show wish = (nowF d 24 wish) by first | (simp [nowF, c_5, c_6, c_7, c_9]; done) | (clear S hX G hl; grind [nowF])), rfl, rfl⟩ G (lv_sub hl [0, 1, 2, 3, 4, 5] rfl)
            · refine lv_aload_n S.1 S.2.1 dX9_turnsLeg_75 rfl (lv_at hl 3 rfl) ?_
              refine s_get S hX G (i := 161) (kd := 9) (a := (I 161)) (v := .ref (E.2.2.2 162)) (C := RX9) (T := TX9) (N := 13) 0 (rfl : sh 161 = 9) rfl rfl rfl (by decide) rfl (fun _ h => (List.mem_cons_of_mem _ (List.mem_append_right _ h))) (by decide) (List.mem_of_getElem? (i := 1) rfl) (fun _ h => h) dX9_turnsLeg_76 ?_
              refine lv_iconst (v := (1 : Int32)) S.1 S.2.1 dX9_turnsLeg_79 (by decide) ?_
              refine s_iald S hX G (i := 162) (kd := 284) (n := 270) (a := d) (x := (d 1)) (rfl : sh 162 = 284) e_d rfl (by decide) (by unfold vp_in; decide) (congrArg d (by decide)) dX9_turnsLeg_80 ?_
              refine lv_if_ne (tgt := 88) S.1 S.2.1 dX9_turnsLeg_81 (by decide) (fun c_10 => ?_) (fun c_10 => ?_)
              · refine lv_iconst (v := (0 : Int32)) S.1 S.2.1 dX9_turnsLeg_88 (by decide) ?_
                exact kJ_4 (0 : Int32) _ _ _ _ _ ⟨(show (0 : Int32) = (nowF d 24 wish) by first | (simp [nowF, c_5, c_6, c_7, c_9, c_10]; done) | (clear S hX G hl; grind [nowF])), rfl, rfl⟩ G (lv_sub hl [0, 1, 2, 3, 4, 5] rfl)
              · refine lv_iload_n S.1 S.2.1 dX9_turnsLeg_84 rfl (lv_at hl 5 rfl) ?_
                refine lv_goto (tgt := 89) S.1 S.2.1 dX9_turnsLeg_85 (by decide) ?_
                exact kJ_4 wish _ _ _ _ _ ⟨(show wish = (nowF d 24 wish) by first | (simp [nowF, c_5, c_6, c_7, c_9, c_10]; done) | (clear S hX G hl; grind [nowF])), rfl, rfl⟩ G (lv_sub hl [0, 1, 2, 3, 4, 5] rfl)
        · refine lv_iload_n S.1 S.2.1 dX9_turnsLeg_61 rfl (lv_at hl 5 rfl) ?_
          refine lv_goto (tgt := 89) S.1 S.2.1 dX9_turnsLeg_62 (by decide) ?_
          exact kJ_4 wish _ _ _ _ _ ⟨(show wish = (nowF d 24 wish) by first | (simp [nowF, c_5, c_6]; done) | (clear S hX G hl; grind [nowF])), rfl, rfl⟩ G (lv_sub hl [0, 1, 2, 3, 4, 5] rfl)
    · obtain ⟨h0, hI, hL⟩ := hP
      have h0 : x = (nowF d 24 wish) := h0
      have hl : lv_has ls 7 [(5, .int (if d 26 = -1 ∨ ¬ d 26 < d 1 then 1 else 0)), (4, .int (d 25)), (3, .int (24 : Int32)), (0, .ref (E.2.2.2 161)), (1, .int (2 : Int32)), (2, .int wish)] := hl
      obtain ⟨m_11, rfl⟩ : ∃ z, z = x := ⟨_, rfl⟩
      have em_11 : m_11 = (nowF d 24 wish) := h0
      have G : GS E I L sg H locs := G.same hI hL
      refine W.eq (g2 := F0 mg 89 ls [.int m_11]) rfl ?_
      refine lv_istore (lv' := [(6, .int m_11), (5, .int (if d 26 = -1 ∨ ¬ d 26 < d 1 then 1 else 0)), (4, .int (d 25)), (3, .int (24 : Int32)), (0, .ref (E.2.2.2 161)), (1, .int (2 : Int32)), (2, .int wish)]) S.1 S.2.1 dX9_turnsLeg_89 hl (by decide) rfl (fun ls hl => ?_)
      refine lv_aload_n S.1 S.2.1 dX9_turnsLeg_91 rfl (lv_at hl 4 rfl) ?_
      refine s_get S hX G (i := 161) (kd := 9) (a := (I 161)) (v := .ref (E.2.2.2 162)) (C := RX9) (T := TX9) (N := 13) 0 (rfl : sh 161 = 9) rfl rfl rfl (by decide) rfl (fun _ h => (List.mem_cons_of_mem _ (List.mem_append_right _ h))) (by decide) (List.mem_of_getElem? (i := 1) rfl) (fun _ h => h) dX9_turnsLeg_92 ?_
      refine lv_iload_n S.1 S.2.1 dX9_turnsLeg_95 rfl (lv_at hl 3 rfl) ?_
      refine lv_iconst (v := (1 : Int32)) S.1 S.2.1 dX9_turnsLeg_96 (by decide) ?_
      refine s_iadd (v := (25 : Int32)) S dX9_turnsLeg_97 (by decide) ?_
      refine lv_iload S.1 S.2.1 dX9_turnsLeg_98 (lv_at hl 0 rfl) ?_
      refine s_iast S hX G (i := 162) (kd := 284) (n := 270) (jn := 25) (a := d) (I' := (up I 162 (upd d 25 m_11))) (rfl : sh 162 = 284) e_d (fun _ => rfl) (by decide) (by unfold vp_in; decide) (by decide) rfl dX9_turnsLeg_100 (fun H locs G => ?_)
      refine s_cut (α := Unit) (nL := 7) (E := E) (fun x I' L' => I' = (up I 162 (swF d 24 70 m_11)) ∧ L' = L) (fun x => [(6, .int m_11), (5, .int (if d 26 = -1 ∨ ¬ d 26 < d 1 then 1 else 0)), (4, .int (d 25)), (3, .int (24 : Int32)), (0, .ref (E.2.2.2 161)), (1, .int (2 : Int32)), (2, .int wish)]) 151 (fun x => []) (fun kJ_12 => ?_) (fun x I1 L1 H locs ls hP G hl => ?_)
      · refine lv_iload S.1 S.2.1 dX9_turnsLeg_101 (lv_at hl 0 rfl) ?_
        refine lv_iload S.1 S.2.1 dX9_turnsLeg_103 (lv_at hl 2 rfl) ?_
        refine lv_icmp_eq (tgt := 151) S.1 S.2.1 dX9_turnsLeg_105 (by decide) (fun c_13 => ?_) (fun c_13 => ?_)
        · exact kJ_12 () _ _ _ _ _ ⟨(st_eq1 (Eq.trans up_eq (show (upd d 25 m_11) = (swF d 24 70 m_11) by subst em_11; (unfold swF; first | exact (if_pos c_13).symm | exact (if_neg c_13).symm))) (fun _ g0 => (up_ne g0))), rfl⟩ G (lv_sub hl [0, 1, 2, 3, 4, 5, 6] rfl)
        · refine lv_aload_n S.1 S.2.1 dX9_turnsLeg_108 rfl (lv_at hl 4 rfl) ?_
          refine s_get S hX G (i := 161) (kd := 9) (a := (I 161)) (v := .ref (E.2.2.2 162)) (C := RX9) (T := TX9) (N := 13) 0 (rfl : sh 161 = 9) (up_ne (by decide)) rfl rfl (by decide) rfl (fun _ h => (List.mem_cons_of_mem _ (List.mem_append_right _ h))) (by decide) (List.mem_of_getElem? (i := 1) rfl) (fun _ h => h) dX9_turnsLeg_109 ?_
          refine lv_iload_n S.1 S.2.1 dX9_turnsLeg_112 rfl (lv_at hl 3 rfl) ?_
          refine lv_iconst (v := (3 : Int32)) S.1 S.2.1 dX9_turnsLeg_113 (by decide) ?_
          refine s_iadd (v := (27 : Int32)) S dX9_turnsLeg_114 (by decide) ?_
          refine lv_dup2_11 S.1 S.2.1 dX9_turnsLeg_115 rfl rfl ?_
          refine s_iald S hX G (i := 162) (kd := 284) (n := 270) (a := (upd d 25 m_11)) (x := (d 27)) (rfl : sh 162 = 284) up_eq rfl (by decide) (by unfold vp_in; decide) (show (upd d 25 m_11) (Int32.toNatClampNeg (27 : Int32)) = (d 27) from congrArg (upd d 25 m_11) (show Int32.toNatClampNeg (27 : Int32) = 27 from (by decide))) dX9_turnsLeg_116 ?_
          refine lv_iconst (v := (1 : Int32)) S.1 S.2.1 dX9_turnsLeg_117 (by decide) ?_
          refine s_iadd (v := ((d 27) + (1 : Int32))) S dX9_turnsLeg_118 rfl ?_
          refine lv_topi (fun y_14 ey_14 => ?_)
          refine s_iast S hX G (i := 162) (kd := 284) (n := 270) (jn := 27) (a := (upd d 25 m_11)) (I' := (up I 162 (upd (upd d 25 m_11) 27 y_14))) (rfl : sh 162 = 284) up_eq (fun _ => rfl) (by decide) (by unfold vp_in; decide) (by decide) (by rw [up_up]) dX9_turnsLeg_119 (fun H locs G => ?_)
          refine lv_aload_n S.1 S.2.1 dX9_turnsLeg_120 rfl (lv_at hl 4 rfl) ?_
          refine s_get S hX G (i := 161) (kd := 9) (a := (I 161)) (v := .ref (E.2.2.2 162)) (C := RX9) (T := TX9) (N := 13) 0 (rfl : sh 161 = 9) (up_ne (by decide)) rfl rfl (by decide) rfl (fun _ h => (List.mem_cons_of_mem _ (List.mem_append_right _ h))) (by decide) (List.mem_of_getElem? (i := 1) rfl) (fun _ h => h) dX9_turnsLeg_121 ?_
          refine lv_bipush (v := (100 : Int32)) S.1 S.2.1 dX9_turnsLeg_124 (by decide) ?_
          refine lv_dup2_11 S.1 S.2.1 dX9_turnsLeg_126 rfl rfl ?_
          refine s_iald S hX G (i := 162) (kd := 284) (n := 270) (a := (upd (upd d 25 m_11) 27 y_14)) (x := (d 100)) (rfl : sh 162 = 284) up_eq rfl (by decide) (by unfold vp_in; decide) (show (upd (upd d 25 m_11) 27 y_14) (Int32.toNatClampNeg (100 : Int32)) = (d 100) from congrArg (upd (upd d 25 m_11) 27 y_14) (show Int32.toNatClampNeg (100 : Int32) = 100 from (by decide))) dX9_turnsLeg_127 ?_
          refine lv_iconst (v := (1 : Int32)) S.1 S.2.1 dX9_turnsLeg_128 (by decide) ?_
          refine s_iadd (v := ((d 100) + (1 : Int32))) S dX9_turnsLeg_129 rfl ?_
          refine lv_topi (fun y_15 ey_15 => ?_)
          refine s_iast S hX G (i := 162) (kd := 284) (n := 270) (jn := 100) (a := (upd (upd d 25 m_11) 27 y_14)) (I' := (up I 162 (upd (upd (upd d 25 m_11) 27 y_14) 100 y_15))) (rfl : sh 162 = 284) up_eq (fun _ => rfl) (by decide) (by unfold vp_in; decide) (by decide) (by rw [up_up]) dX9_turnsLeg_130 (fun H locs G => ?_)
          refine lv_aload_n S.1 S.2.1 dX9_turnsLeg_131 rfl (lv_at hl 4 rfl) ?_
          refine s_get S hX G (i := 161) (kd := 9) (a := (I 161)) (v := .ref (E.2.2.2 162)) (C := RX9) (T := TX9) (N := 13) 0 (rfl : sh 161 = 9) (up_ne (by decide)) rfl rfl (by decide) rfl (fun _ h => (List.mem_cons_of_mem _ (List.mem_append_right _ h))) (by decide) (List.mem_of_getElem? (i := 1) rfl) (fun _ h => h) dX9_turnsLeg_132 ?_
          refine lv_iload_n S.1 S.2.1 dX9_turnsLeg_135 rfl (lv_at hl 5 rfl) ?_
          refine lv_iconst (v := (2 : Int32)) S.1 S.2.1 dX9_turnsLeg_136 (by decide) ?_
          refine s_idiv (v := (1 : Int32)) S dX9_turnsLeg_137 (by decide) (by decide) ?_
          refine s_callS (As := [.int (1 : Int32)]) (rest := [.ref (E.2.2.2 162)]) S hX G (k_X9_loadAt_1 l E) (va_cwS (bytes := cX9_loadAt) (maxL := 1) (ret := (some .int)) 1 S.2.2.2.2 gX9_turnsLeg_X9_loadAt rfl rfl rfl (by decide +kernel) ⟨Nat.le_of_ble_eq_true rfl, Nat.le_of_ble_eq_true rfl⟩) rfl hl.1 rfl (Nat.le_of_ble_eq_true rfl) ⟨Nat.zero_le _, Nat.zero_le _⟩ dX9_turnsLeg_138 (fun v I1 L1 H locs hR G => ?_)
          obtain ⟨hv, hI, hL⟩ := hR
          subst hv
          have G : GS E (up I 162 (upd (upd (upd d 25 m_11) 27 y_14) 100 y_15)) L sg H locs := G.same hI hL
          refine W.eq (g2 := F0 mg 141 ls [.int (70 : Int32), .ref (E.2.2.2 162)]) rfl ?_
          refine lv_bipush (v := (8 : Int32)) S.1 S.2.1 dX9_turnsLeg_141 (by decide) ?_
          refine s_iadd (v := (78 : Int32)) S dX9_turnsLeg_143 (by decide) ?_
          refine lv_aload_n S.1 S.2.1 dX9_turnsLeg_144 rfl (lv_at hl 4 rfl) ?_
          refine s_get S hX G (i := 161) (kd := 9) (a := (I 161)) (v := .ref (E.2.2.2 162)) (C := RX9) (T := TX9) (N := 13) 0 (rfl : sh 161 = 9) (up_ne (by decide)) rfl rfl (by decide) rfl (fun _ h => (List.mem_cons_of_mem _ (List.mem_append_right _ h))) (by decide) (List.mem_of_getElem? (i := 1) rfl) (fun _ h => h) dX9_turnsLeg_145 ?_
          refine lv_iconst (v := (2 : Int32)) S.1 S.2.1 dX9_turnsLeg_148 (by decide) ?_
          refine s_iald S hX G (i := 162) (kd := 284) (n := 270) (a := (upd (upd (upd d 25 m_11) 27 y_14) 100 y_15)) (x := (d 2)) (rfl : sh 162 = 284) up_eq rfl (by decide) (by unfold vp_in; decide) (show (upd (upd (upd d 25 m_11) 27 y_14) 100 y_15) (Int32.toNatClampNeg (2 : Int32)) = (d 2) from congrArg (upd (upd (upd d 25 m_11) 27 y_14) 100 y_15) (show Int32.toNatClampNeg (2 : Int32) = 2 from (by decide))) dX9_turnsLeg_149 ?_
          refine s_iast S hX G (i := 162) (kd := 284) (n := 270) (jn := 78) (a := (upd (upd (upd d 25 m_11) 27 y_14) 100 y_15)) (I' := (up I 162 (upd (upd (upd (upd d 25 m_11) 27 y_14) 100 y_15) 78 (d 2)))) (rfl : sh 162 = 284) up_eq (fun _ => rfl) (by decide) (by unfold vp_in; decide) (by decide) (by rw [up_up]) dX9_turnsLeg_150 (fun H locs G => ?_)
          exact kJ_12 () _ _ _ _ _ ⟨(st_eq1 (Eq.trans up_eq (show (upd (upd (upd (upd d 25 m_11) 27 y_14) 100 y_15) 78 (d 2)) = (swF d 24 70 m_11) by subst ey_15 ey_14 em_11; (unfold swF; first | exact (if_pos c_13).symm | exact (if_neg c_13).symm))) (fun _ g0 => (up_ne g0))), rfl⟩ G (lv_sub hl [0, 1, 2, 3, 4, 5, 6] rfl)
      · obtain ⟨hI, hL⟩ := hP
        have hl : lv_has ls 7 [(6, .int m_11), (5, .int (if d 26 = -1 ∨ ¬ d 26 < d 1 then 1 else 0)), (4, .int (d 25)), (3, .int (24 : Int32)), (0, .ref (E.2.2.2 161)), (1, .int (2 : Int32)), (2, .int wish)] := hl
        have G : GS E (up I 162 (swF d 24 70 m_11)) L sg H locs := G.same hI hL
        obtain ⟨r_16, er_16⟩ : ∃ r : Nat → Int32, r = (swF d 24 70 m_11) := ⟨_, rfl⟩
        rw [← er_16] at G
        refine W.eq (g2 := F0 mg 151 ls []) rfl ?_
        refine lv_aload_n S.1 S.2.1 dX9_turnsLeg_151 rfl (lv_at hl 4 rfl) ?_
        refine s_get S hX G (i := 161) (kd := 9) (a := (I 161)) (v := .ref (E.2.2.2 162)) (C := RX9) (T := TX9) (N := 13) 0 (rfl : sh 161 = 9) (up_ne (by decide)) rfl rfl (by decide) rfl (fun _ h => (List.mem_cons_of_mem _ (List.mem_append_right _ h))) (by decide) (List.mem_of_getElem? (i := 1) rfl) (fun _ h => h) dX9_turnsLeg_152 ?_
        refine lv_iload_n S.1 S.2.1 dX9_turnsLeg_155 rfl (lv_at hl 3 rfl) ?_
        refine lv_iconst (v := (2 : Int32)) S.1 S.2.1 dX9_turnsLeg_156 (by decide) ?_
        refine s_iadd (v := (26 : Int32)) S dX9_turnsLeg_157 (by decide) ?_
        refine s_cut (α := Int32) (nL := 7) (E := E) (fun x I' L' => x = (sinF m_11 (r_16 26)) ∧ I' = (up I 162 r_16) ∧ L' = L) (fun x => [(6, .int m_11), (5, .int (if d 26 = -1 ∨ ¬ d 26 < d 1 then 1 else 0)), (4, .int (d 25)), (3, .int (24 : Int32)), (0, .ref (E.2.2.2 161)), (1, .int (2 : Int32)), (2, .int wish)]) 193 (fun x => [.int x, .int (26 : Int32), .ref (E.2.2.2 162)]) (fun kJ_17 => ?_) (fun x I1 L1 H locs ls hP G hl => ?_)
        · refine lv_iload S.1 S.2.1 dX9_turnsLeg_158 (lv_at hl 0 rfl) ?_
          refine lv_if_le (tgt := 167) S.1 S.2.1 dX9_turnsLeg_160 (by decide) (fun c_18 => ?_) (fun c_18 => ?_)
          · refine lv_aload_n S.1 S.2.1 dX9_turnsLeg_167 rfl (lv_at hl 4 rfl) ?_
            refine s_get S hX G (i := 161) (kd := 9) (a := (I 161)) (v := .ref (E.2.2.2 162)) (C := RX9) (T := TX9) (N := 13) 0 (rfl : sh 161 = 9) (up_ne (by decide)) rfl rfl (by decide) rfl (fun _ h => (List.mem_cons_of_mem _ (List.mem_append_right _ h))) (by decide) (List.mem_of_getElem? (i := 1) rfl) (fun _ h => h) dX9_turnsLeg_168 ?_
            refine lv_iload_n S.1 S.2.1 dX9_turnsLeg_171 rfl (lv_at hl 3 rfl) ?_
            refine lv_iconst (v := (2 : Int32)) S.1 S.2.1 dX9_turnsLeg_172 (by decide) ?_
            refine s_iadd (v := (26 : Int32)) S dX9_turnsLeg_173 (by decide) ?_
            refine s_iald S hX G (i := 162) (kd := 284) (n := 270) (a := r_16) (x := (r_16 26)) (rfl : sh 162 = 284) up_eq rfl (by decide) (by unfold vp_in; decide) (congrArg r_16 (by decide)) dX9_turnsLeg_174 ?_
            refine lv_iconst (v := (-1 : Int32)) S.1 S.2.1 dX9_turnsLeg_175 (by decide) ?_
            refine lv_icmp_ne (tgt := 183) S.1 S.2.1 dX9_turnsLeg_176 (by decide) (fun c_19 => ?_) (fun c_19 => ?_)
            · refine lv_aload_n S.1 S.2.1 dX9_turnsLeg_183 rfl (lv_at hl 4 rfl) ?_
              refine s_get S hX G (i := 161) (kd := 9) (a := (I 161)) (v := .ref (E.2.2.2 162)) (C := RX9) (T := TX9) (N := 13) 0 (rfl : sh 161 = 9) (up_ne (by decide)) rfl rfl (by decide) rfl (fun _ h => (List.mem_cons_of_mem _ (List.mem_append_right _ h))) (by decide) (List.mem_of_getElem? (i := 1) rfl) (fun _ h => h) dX9_turnsLeg_184 ?_
              refine lv_iload_n S.1 S.2.1 dX9_turnsLeg_187 rfl (lv_at hl 3 rfl) ?_
              refine lv_iconst (v := (2 : Int32)) S.1 S.2.1 dX9_turnsLeg_188 (by decide) ?_
              refine s_iadd (v := (26 : Int32)) S dX9_turnsLeg_189 (by decide) ?_
              refine s_iald S hX G (i := 162) (kd := 284) (n := 270) (a := r_16) (x := (r_16 26)) (rfl : sh 162 = 284) up_eq rfl (by decide) (by unfold vp_in; decide) (congrArg r_16 (by decide)) dX9_turnsLeg_190 ?_
              refine lv_iconst (v := (1 : Int32)) S.1 S.2.1 dX9_turnsLeg_191 (by decide) ?_
              refine s_iadd (v := ((r_16 26) + (1 : Int32))) S dX9_turnsLeg_192 rfl ?_
              exact kJ_17 ((r_16 26) + (1 : Int32)) _ _ _ _ _ ⟨(show ((r_16 26) + (1 : Int32)) = (sinF m_11 (r_16 26)) by subst er_16 em_11; simp [sinF, c_18, c_19]), rfl, rfl⟩ G (lv_sub hl [0, 1, 2, 3, 4, 5, 6] rfl)
            · refine lv_iconst (v := (-1 : Int32)) S.1 S.2.1 dX9_turnsLeg_179 (by decide) ?_
              refine lv_goto (tgt := 193) S.1 S.2.1 dX9_turnsLeg_180 (by decide) ?_
              exact kJ_17 (-1 : Int32) _ _ _ _ _ ⟨(show (-1 : Int32) = (sinF m_11 (r_16 26)) by subst er_16 em_11; simp [sinF, c_18, c_19]), rfl, rfl⟩ G (lv_sub hl [0, 1, 2, 3, 4, 5, 6] rfl)
          · refine lv_iconst (v := (0 : Int32)) S.1 S.2.1 dX9_turnsLeg_163 (by decide) ?_
            refine lv_goto (tgt := 193) S.1 S.2.1 dX9_turnsLeg_164 (by decide) ?_
            exact kJ_17 (0 : Int32) _ _ _ _ _ ⟨(show (0 : Int32) = (sinF m_11 (r_16 26)) by subst er_16 em_11; simp [sinF, c_18]), rfl, rfl⟩ G (lv_sub hl [0, 1, 2, 3, 4, 5, 6] rfl)
        · obtain ⟨h0, hI, hL⟩ := hP
          have h0 : x = (sinF m_11 (r_16 26)) := h0
          have hl : lv_has ls 7 [(6, .int m_11), (5, .int (if d 26 = -1 ∨ ¬ d 26 < d 1 then 1 else 0)), (4, .int (d 25)), (3, .int (24 : Int32)), (0, .ref (E.2.2.2 161)), (1, .int (2 : Int32)), (2, .int wish)] := hl
          obtain ⟨m_20, rfl⟩ : ∃ z, z = x := ⟨_, rfl⟩
          have em_20 : m_20 = (sinF m_11 (r_16 26)) := h0
          have G : GS E (up I 162 r_16) L sg H locs := G.same hI hL
          refine W.eq (g2 := F0 mg 193 ls [.int m_20, .int (26 : Int32), .ref (E.2.2.2 162)]) rfl ?_
          refine s_iast S hX G (i := 162) (kd := 284) (n := 270) (jn := 26) (a := r_16) (I' := (up I 162 (upd r_16 26 m_20))) (rfl : sh 162 = 284) up_eq (fun _ => rfl) (by decide) (by unfold vp_in; decide) (by decide) (by rw [up_up]) dX9_turnsLeg_193 (fun H locs G => ?_)
          refine lv_aload_n S.1 S.2.1 dX9_turnsLeg_194 rfl (lv_at hl 4 rfl) ?_
          refine s_get S hX G (i := 161) (kd := 9) (a := (I 161)) (v := .ref (E.2.2.2 162)) (C := RX9) (T := TX9) (N := 13) 0 (rfl : sh 161 = 9) (up_ne (by decide)) rfl rfl (by decide) rfl (fun _ h => (List.mem_cons_of_mem _ (List.mem_append_right _ h))) (by decide) (List.mem_of_getElem? (i := 1) rfl) (fun _ h => h) dX9_turnsLeg_195 ?_
          refine lv_iload_n S.1 S.2.1 dX9_turnsLeg_198 rfl (lv_at hl 3 rfl) ?_
          refine lv_iconst (v := (4 : Int32)) S.1 S.2.1 dX9_turnsLeg_199 (by decide) ?_
          refine s_iadd (v := (28 : Int32)) S dX9_turnsLeg_200 (by decide) ?_
          refine s_cut (α := Int32) (nL := 7) (E := E) (fun x I' L' => x = (if m_11 = 0 then 2 else m_11 - 1) ∧ I' = (up I 162 (upd r_16 26 m_20)) ∧ L' = L) (fun x => [(6, .int m_11), (5, .int (if d 26 = -1 ∨ ¬ d 26 < d 1 then 1 else 0)), (4, .int (d 25)), (3, .int (24 : Int32)), (0, .ref (E.2.2.2 161)), (1, .int (2 : Int32)), (2, .int wish)]) 214 (fun x => [.int x, .int (28 : Int32), .ref (E.2.2.2 162)]) (fun kJ_21 => ?_) (fun x I1 L1 H locs ls hP G hl => ?_)
          · refine lv_iload S.1 S.2.1 dX9_turnsLeg_201 (lv_at hl 0 rfl) ?_
            refine lv_if_ne (tgt := 210) S.1 S.2.1 dX9_turnsLeg_203 (by decide) (fun c_22 => ?_) (fun c_22 => ?_)
            · refine lv_iload S.1 S.2.1 dX9_turnsLeg_210 (lv_at hl 0 rfl) ?_
              refine lv_iconst (v := (1 : Int32)) S.1 S.2.1 dX9_turnsLeg_212 (by decide) ?_
              refine s_isub (v := (m_11 - (1 : Int32))) S dX9_turnsLeg_213 rfl ?_
              exact kJ_21 (m_11 - (1 : Int32)) _ _ _ _ _ ⟨(show (m_11 - (1 : Int32)) = (if m_11 = 0 then 2 else m_11 - 1) by subst em_20 er_16 em_11; simp [c_22]), rfl, rfl⟩ G (lv_sub hl [0, 1, 2, 3, 4, 5, 6] rfl)
            · refine lv_iconst (v := (2 : Int32)) S.1 S.2.1 dX9_turnsLeg_206 (by decide) ?_
              refine lv_goto (tgt := 214) S.1 S.2.1 dX9_turnsLeg_207 (by decide) ?_
              exact kJ_21 (2 : Int32) _ _ _ _ _ ⟨(show (2 : Int32) = (if m_11 = 0 then 2 else m_11 - 1) by subst em_20 er_16 em_11; simp [c_22]), rfl, rfl⟩ G (lv_sub hl [0, 1, 2, 3, 4, 5, 6] rfl)
          · obtain ⟨h0, hI, hL⟩ := hP
            have h0 : x = (if m_11 = 0 then 2 else m_11 - 1) := h0
            have hl : lv_has ls 7 [(6, .int m_11), (5, .int (if d 26 = -1 ∨ ¬ d 26 < d 1 then 1 else 0)), (4, .int (d 25)), (3, .int (24 : Int32)), (0, .ref (E.2.2.2 161)), (1, .int (2 : Int32)), (2, .int wish)] := hl
            subst h0
            have G : GS E (up I 162 (upd r_16 26 m_20)) L sg H locs := G.same hI hL
            refine W.eq (g2 := F0 mg 214 ls [.int (if m_11 = 0 then 2 else m_11 - 1), .int (28 : Int32), .ref (E.2.2.2 162)]) rfl ?_
            refine s_iadd (v := ((28 : Int32) + (if m_11 = 0 then 2 else m_11 - 1))) S dX9_turnsLeg_214 rfl ?_
            refine s_conv (y := (nI (28 + ixF m_11))) (ixF_e (a := 28) (em_11 ▸ nowF_in hw)) ?_
            refine lv_dup2_11 S.1 S.2.1 dX9_turnsLeg_215 rfl rfl ?_
            refine s_iald S hX G (i := 162) (kd := 284) (n := 270) (a := (upd r_16 26 m_20)) (x := ((upd r_16 26 m_20) (28 + ixF m_11))) (rfl : sh 162 = 284) up_eq rfl (by decide) (vp_in_nI (by have := @ixF_le m_11; omega) (by decide)) (congrArg (upd r_16 26 m_20) (nI_clamp (by have := @ixF_le m_11; omega))) dX9_turnsLeg_216 ?_
            refine lv_iconst (v := (1 : Int32)) S.1 S.2.1 dX9_turnsLeg_217 (by decide) ?_
            refine s_iadd (v := (((upd r_16 26 m_20) (28 + ixF m_11)) + (1 : Int32))) S dX9_turnsLeg_218 rfl ?_
            refine lv_topi (fun y_23 ey_23 => ?_)
            refine s_iast S hX G (i := 162) (kd := 284) (n := 270) (jn := (28 + ixF m_11)) (a := (upd r_16 26 m_20)) (I' := (up I 162 (upd (upd r_16 26 m_20) (28 + ixF m_11) y_23))) (rfl : sh 162 = 284) up_eq (fun _ => rfl) (by decide) (vp_in_nI (by have := @ixF_le m_11; omega) (by decide)) (nI_clamp (by have := @ixF_le m_11; omega)) (by rw [up_up]) dX9_turnsLeg_219 (fun H locs G => ?_)
            refine s_vret S G hr hlk dX9_turnsLeg_220 ?_
            exact ⟨rfl, (st_eq1 (Eq.trans up_eq (show (upd (upd r_16 26 m_20) (28 + ixF m_11) y_23) = (tlF d 24 70 (nowF d 24 wish)) by subst ey_23 em_20 er_16 em_11; rfl)) (fun _ g0 => (up_ne g0))), rfl⟩
set_option maxHeartbeats 4000000 in
set_option maxRecDepth 100000 in
theorem k_X9_turnsLeg_3 (l : Launch) (E : Ev) {I : SI} {L : SL} (wish : Int32) (d : Nat → Int32) (e_d : I (162) = d) (hw : wish = 0 ∨ wish = 1 ∨ wish = 2) : CS l yX9_turnsLeg wsX9_turnsLeg ({ frames := 1, cells := 0, slots := 0, locals := 20 }) E [.ref (E.2.2.2 161), .int (3 : Int32), .int wish] I L (fun vv I' L' => vv = none ∧ I' = (up I (162) (tlF d 32 70 (nowF d 32 wish))) ∧ L' = L) := by
  refine CS.of (cc := cX9_turnsLeg) (maxL := 7) (ret := none) (by decide) rfl (Nat.le_of_ble_eq_true rfl) ?_
  intro pg en sg mg below meth cg ls S hr hlk hX G hl
  have S : CallFix pg mg cg cX9_turnsLeg 7 sg _ wsX9_turnsLeg RX9 := S
  have hl : lv_has ls 7 [(0, .ref (E.2.2.2 161)), (1, .int (3 : Int32)), (2, .int wish)] := hl
  refine lv_iload_n S.1 S.2.1 dX9_turnsLeg_0 rfl (lv_at hl 1 rfl) ?_
  refine s_callS (As := [.int (3 : Int32)]) (rest := []) S hX G (k_X9_legAt_3 l E) (va_cwS (bytes := cX9_legAt) (maxL := 1) (ret := (some .int)) 1 S.2.2.2.2 gX9_turnsLeg_X9_legAt rfl rfl rfl (by decide +kernel) ⟨Nat.le_of_ble_eq_true rfl, Nat.le_of_ble_eq_true rfl⟩) rfl hl.1 rfl (Nat.le_of_ble_eq_true rfl) ⟨Nat.zero_le _, Nat.zero_le _⟩ dX9_turnsLeg_1 (fun v I1 L1 H locs hR G => ?_)
  obtain ⟨hv, hI, hL⟩ := hR
  subst hv
  have G : GS E I L sg H locs := G.same hI hL
  refine W.eq (g2 := F0 mg 4 ls [.int (32 : Int32)]) rfl ?_
  refine lv_istore_n (lv' := [(3, .int (32 : Int32)), (0, .ref (E.2.2.2 161)), (1, .int (3 : Int32)), (2, .int wish)]) S.1 S.2.1 dX9_turnsLeg_4 rfl hl (by decide) rfl (fun ls hl => ?_)
  refine lv_aload_n S.1 S.2.1 dX9_turnsLeg_5 rfl (lv_at hl 1 rfl) ?_
  refine s_get S hX G (i := 161) (kd := 9) (a := (I 161)) (v := .ref (E.2.2.2 162)) (C := RX9) (T := TX9) (N := 13) 0 (rfl : sh 161 = 9) rfl rfl rfl (by decide) rfl (fun _ h => (List.mem_cons_of_mem _ (List.mem_append_right _ h))) (by decide) (List.mem_of_getElem? (i := 1) rfl) (fun _ h => h) dX9_turnsLeg_6 ?_
  refine lv_iload_n S.1 S.2.1 dX9_turnsLeg_9 rfl (lv_at hl 0 rfl) ?_
  refine lv_iconst (v := (1 : Int32)) S.1 S.2.1 dX9_turnsLeg_10 (by decide) ?_
  refine s_iadd (v := (33 : Int32)) S dX9_turnsLeg_11 (by decide) ?_
  refine s_iald S hX G (i := 162) (kd := 284) (n := 270) (a := d) (x := (d 33)) (rfl : sh 162 = 284) e_d rfl (by decide) (by unfold vp_in; decide) (congrArg d (by decide)) dX9_turnsLeg_12 ?_
  refine lv_istore (lv' := [(4, .int (d 33)), (3, .int (32 : Int32)), (0, .ref (E.2.2.2 161)), (1, .int (3 : Int32)), (2, .int wish)]) S.1 S.2.1 dX9_turnsLeg_13 hl (by decide) rfl (fun ls hl => ?_)
  refine s_cut (α := Int32) (nL := 7) (E := E) (fun x I' L' => x = (if d 34 = -1 ∨ ¬ d 34 < d 1 then 1 else 0) ∧ I' = I ∧ L' = L) (fun x => [(4, .int (d 33)), (3, .int (32 : Int32)), (0, .ref (E.2.2.2 161)), (1, .int (3 : Int32)), (2, .int wish)]) 49 (fun x => [.int x]) (fun kJ_1 => ?_) (fun x I1 L1 H locs ls hP G hl => ?_)
  · refine lv_aload_n S.1 S.2.1 dX9_turnsLeg_15 rfl (lv_at hl 2 rfl) ?_
    refine s_get S hX G (i := 161) (kd := 9) (a := (I 161)) (v := .ref (E.2.2.2 162)) (C := RX9) (T := TX9) (N := 13) 0 (rfl : sh 161 = 9) rfl rfl rfl (by decide) rfl (fun _ h => (List.mem_cons_of_mem _ (List.mem_append_right _ h))) (by decide) (List.mem_of_getElem? (i := 1) rfl) (fun _ h => h) dX9_turnsLeg_16 ?_
    refine lv_iload_n S.1 S.2.1 dX9_turnsLeg_19 rfl (lv_at hl 1 rfl) ?_
    refine lv_iconst (v := (2 : Int32)) S.1 S.2.1 dX9_turnsLeg_20 (by decide) ?_
    refine s_iadd (v := (34 : Int32)) S dX9_turnsLeg_21 (by decide) ?_
    refine s_iald S hX G (i := 162) (kd := 284) (n := 270) (a := d) (x := (d 34)) (rfl : sh 162 = 284) e_d rfl (by decide) (by unfold vp_in; decide) (congrArg d (by decide)) dX9_turnsLeg_22 ?_
    refine lv_iconst (v := (-1 : Int32)) S.1 S.2.1 dX9_turnsLeg_23 (by decide) ?_
    refine lv_icmp_eq (tgt := 44) S.1 S.2.1 dX9_turnsLeg_24 (by decide) (fun c_2 => ?_) (fun c_2 => ?_)
    · refine lv_iconst (v := (1 : Int32)) S.1 S.2.1 dX9_turnsLeg_44 (by decide) ?_
      refine lv_goto (tgt := 49) S.1 S.2.1 dX9_turnsLeg_45 (by decide) ?_
      exact kJ_1 (1 : Int32) _ _ _ _ _ ⟨(show (1 : Int32) = (if d 34 = -1 ∨ ¬ d 34 < d 1 then 1 else 0) by simp [c_2]), rfl, rfl⟩ G (lv_sub hl [0, 1, 2, 3, 4] rfl)
    · refine lv_aload_n S.1 S.2.1 dX9_turnsLeg_27 rfl (lv_at hl 2 rfl) ?_
      refine s_get S hX G (i := 161) (kd := 9) (a := (I 161)) (v := .ref (E.2.2.2 162)) (C := RX9) (T := TX9) (N := 13) 0 (rfl : sh 161 = 9) rfl rfl rfl (by decide) rfl (fun _ h => (List.mem_cons_of_mem _ (List.mem_append_right _ h))) (by decide) (List.mem_of_getElem? (i := 1) rfl) (fun _ h => h) dX9_turnsLeg_28 ?_
      refine lv_iload_n S.1 S.2.1 dX9_turnsLeg_31 rfl (lv_at hl 1 rfl) ?_
      refine lv_iconst (v := (2 : Int32)) S.1 S.2.1 dX9_turnsLeg_32 (by decide) ?_
      refine s_iadd (v := (34 : Int32)) S dX9_turnsLeg_33 (by decide) ?_
      refine s_iald S hX G (i := 162) (kd := 284) (n := 270) (a := d) (x := (d 34)) (rfl : sh 162 = 284) e_d rfl (by decide) (by unfold vp_in; decide) (congrArg d (by decide)) dX9_turnsLeg_34 ?_
      refine lv_aload_n S.1 S.2.1 dX9_turnsLeg_35 rfl (lv_at hl 2 rfl) ?_
      refine s_get S hX G (i := 161) (kd := 9) (a := (I 161)) (v := .ref (E.2.2.2 162)) (C := RX9) (T := TX9) (N := 13) 0 (rfl : sh 161 = 9) rfl rfl rfl (by decide) rfl (fun _ h => (List.mem_cons_of_mem _ (List.mem_append_right _ h))) (by decide) (List.mem_of_getElem? (i := 1) rfl) (fun _ h => h) dX9_turnsLeg_36 ?_
      refine lv_iconst (v := (1 : Int32)) S.1 S.2.1 dX9_turnsLeg_39 (by decide) ?_
      refine s_iald S hX G (i := 162) (kd := 284) (n := 270) (a := d) (x := (d 1)) (rfl : sh 162 = 284) e_d rfl (by decide) (by unfold vp_in; decide) (congrArg d (by decide)) dX9_turnsLeg_40 ?_
      refine lv_icmp_lt (tgt := 48) S.1 S.2.1 dX9_turnsLeg_41 (by decide) (fun c_3 => ?_) (fun c_3 => ?_)
      · refine lv_iconst (v := (0 : Int32)) S.1 S.2.1 dX9_turnsLeg_48 (by decide) ?_
        exact kJ_1 (0 : Int32) _ _ _ _ _ ⟨(show (0 : Int32) = (if d 34 = -1 ∨ ¬ d 34 < d 1 then 1 else 0) by simp [c_2, c_3]), rfl, rfl⟩ G (lv_sub hl [0, 1, 2, 3, 4] rfl)
      · refine lv_iconst (v := (1 : Int32)) S.1 S.2.1 dX9_turnsLeg_44 (by decide) ?_
        refine lv_goto (tgt := 49) S.1 S.2.1 dX9_turnsLeg_45 (by decide) ?_
        exact kJ_1 (1 : Int32) _ _ _ _ _ ⟨(show (1 : Int32) = (if d 34 = -1 ∨ ¬ d 34 < d 1 then 1 else 0) by simp [c_2, c_3]), rfl, rfl⟩ G (lv_sub hl [0, 1, 2, 3, 4] rfl)
  · obtain ⟨h0, hI, hL⟩ := hP
    have h0 : x = (if d 34 = -1 ∨ ¬ d 34 < d 1 then 1 else 0) := h0
    have hl : lv_has ls 7 [(4, .int (d 33)), (3, .int (32 : Int32)), (0, .ref (E.2.2.2 161)), (1, .int (3 : Int32)), (2, .int wish)] := hl
    subst h0
    have G : GS E I L sg H locs := G.same hI hL
    refine W.eq (g2 := F0 mg 49 ls [.int (if d 34 = -1 ∨ ¬ d 34 < d 1 then 1 else 0)]) rfl ?_
    refine lv_istore (lv' := [(5, .int (if d 34 = -1 ∨ ¬ d 34 < d 1 then 1 else 0)), (4, .int (d 33)), (3, .int (32 : Int32)), (0, .ref (E.2.2.2 161)), (1, .int (3 : Int32)), (2, .int wish)]) S.1 S.2.1 dX9_turnsLeg_49 hl (by decide) rfl (fun ls hl => ?_)
    refine s_cut (α := Int32) (nL := 7) (E := E) (fun x I' L' => x = (nowF d 32 wish) ∧ I' = I ∧ L' = L) (fun x => [(5, .int (if d 34 = -1 ∨ ¬ d 34 < d 1 then 1 else 0)), (4, .int (d 33)), (3, .int (32 : Int32)), (0, .ref (E.2.2.2 161)), (1, .int (3 : Int32)), (2, .int wish)]) 89 (fun x => [.int x]) (fun kJ_4 => ?_) (fun x I1 L1 H locs ls hP G hl => ?_)
    · refine lv_iload_n S.1 S.2.1 dX9_turnsLeg_51 rfl (lv_at hl 5 rfl) ?_
      refine lv_iload S.1 S.2.1 dX9_turnsLeg_52 (lv_at hl 1 rfl) ?_
      refine lv_icmp_eq (tgt := 61) S.1 S.2.1 dX9_turnsLeg_54 (by decide) (fun c_5 => ?_) (fun c_5 => ?_)
      · refine lv_iload_n S.1 S.2.1 dX9_turnsLeg_61 rfl (lv_at hl 5 rfl) ?_
        refine lv_goto (tgt := 89) S.1 S.2.1 dX9_turnsLeg_62 (by decide) ?_
        exact kJ_4 wish _ _ _ _ _ ⟨(show wish = (nowF d 32 wish) by first | (simp [nowF, c_5]; done) | (clear S hX G hl; grind [nowF])), rfl, rfl⟩ G (lv_sub hl [0, 1, 2, 3, 4, 5] rfl)
      · refine lv_iload_n S.1 S.2.1 dX9_turnsLeg_57 rfl (lv_at hl 5 rfl) ?_
        refine lv_if_ne (tgt := 65) S.1 S.2.1 dX9_turnsLeg_58 (by decide) (fun c_6 => ?_) (fun c_6 => ?_)
        · refine lv_iload S.1 S.2.1 dX9_turnsLeg_65 (lv_at hl 1 rfl) ?_
          refine lv_if_ne (tgt := 75) S.1 S.2.1 dX9_turnsLeg_67 (by decide) (fun c_7 => ?_) (fun c_7 => ?_)
          · refine lv_aload_n S.1 S.2.1 dX9_turnsLeg_75 rfl (lv_at hl 3 rfl) ?_
            refine s_get S hX G (i := 161) (kd := 9) (a := (I 161)) (v := .ref (E.2.2.2 162)) (C := RX9) (T := TX9) (N := 13) 0 (rfl : sh 161 = 9) rfl rfl rfl (by decide) rfl (fun _ h => (List.mem_cons_of_mem _ (List.mem_append_right _ h))) (by decide) (List.mem_of_getElem? (i := 1) rfl) (fun _ h => h) dX9_turnsLeg_76 ?_
            refine lv_iconst (v := (1 : Int32)) S.1 S.2.1 dX9_turnsLeg_79 (by decide) ?_
            refine s_iald S hX G (i := 162) (kd := 284) (n := 270) (a := d) (x := (d 1)) (rfl : sh 162 = 284) e_d rfl (by decide) (by unfold vp_in; decide) (congrArg d (by decide)) dX9_turnsLeg_80 ?_
            refine lv_if_ne (tgt := 88) S.1 S.2.1 dX9_turnsLeg_81 (by decide) (fun c_8 => ?_) (fun c_8 => ?_)
            · refine lv_iconst (v := (0 : Int32)) S.1 S.2.1 dX9_turnsLeg_88 (by decide) ?_
              exact kJ_4 (0 : Int32) _ _ _ _ _ ⟨(show (0 : Int32) = (nowF d 32 wish) by first | (simp [nowF, c_5, c_6, c_7, c_8]; done) | (clear S hX G hl; grind [nowF])), rfl, rfl⟩ G (lv_sub hl [0, 1, 2, 3, 4, 5] rfl)
            · refine lv_iload_n S.1 S.2.1 dX9_turnsLeg_84 rfl (lv_at hl 5 rfl) ?_
              refine lv_goto (tgt := 89) S.1 S.2.1 dX9_turnsLeg_85 (by decide) ?_
              exact kJ_4 wish _ _ _ _ _ ⟨(show wish = (nowF d 32 wish) by first | (simp [nowF, c_5, c_6, c_7, c_8]; done) | (clear S hX G hl; grind [nowF])), rfl, rfl⟩ G (lv_sub hl [0, 1, 2, 3, 4, 5] rfl)
          · refine lv_iload S.1 S.2.1 dX9_turnsLeg_70 (lv_at hl 0 rfl) ?_
            refine s_if_ne_b (P := d 34 = -1 ∨ ¬ d 34 < d 1) (tgt := 84) S dX9_turnsLeg_72 (by decide) (fun c_9 => ?_) (fun c_9 => ?_)
            · refine lv_iload_n S.1 S.2.1 dX9_turnsLeg_84 rfl (lv_at hl 5 rfl) ?_
              refine lv_goto (tgt := 89) S.1 S.2.1 dX9_turnsLeg_85 (by decide) ?_
              exact kJ_4 wish _ _ _ _ _ ⟨(show wish = (nowF d 32 wish) by first | (simp [nowF, c_5, c_6, c_7, c_9]; done) | (clear S hX G hl; grind [nowF])), rfl, rfl⟩ G (lv_sub hl [0, 1, 2, 3, 4, 5] rfl)
            · refine lv_aload_n S.1 S.2.1 dX9_turnsLeg_75 rfl (lv_at hl 3 rfl) ?_
              refine s_get S hX G (i := 161) (kd := 9) (a := (I 161)) (v := .ref (E.2.2.2 162)) (C := RX9) (T := TX9) (N := 13) 0 (rfl : sh 161 = 9) rfl rfl rfl (by decide) rfl (fun _ h => (List.mem_cons_of_mem _ (List.mem_append_right _ h))) (by decide) (List.mem_of_getElem? (i := 1) rfl) (fun _ h => h) dX9_turnsLeg_76 ?_
              refine lv_iconst (v := (1 : Int32)) S.1 S.2.1 dX9_turnsLeg_79 (by decide) ?_
              refine s_iald S hX G (i := 162) (kd := 284) (n := 270) (a := d) (x := (d 1)) (rfl : sh 162 = 284) e_d rfl (by decide) (by unfold vp_in; decide) (congrArg d (by decide)) dX9_turnsLeg_80 ?_
              refine lv_if_ne (tgt := 88) S.1 S.2.1 dX9_turnsLeg_81 (by decide) (fun c_10 => ?_) (fun c_10 => ?_)
              · refine lv_iconst (v := (0 : Int32)) S.1 S.2.1 dX9_turnsLeg_88 (by decide) ?_
                exact kJ_4 (0 : Int32) _ _ _ _ _ ⟨(show (0 : Int32) = (nowF d 32 wish) by first | (simp [nowF, c_5, c_6, c_7, c_9, c_10]; done) | (clear S hX G hl; grind [nowF])), rfl, rfl⟩ G (lv_sub hl [0, 1, 2, 3, 4, 5] rfl)
              · refine lv_iload_n S.1 S.2.1 dX9_turnsLeg_84 rfl (lv_at hl 5 rfl) ?_
                refine lv_goto (tgt := 89) S.1 S.2.1 dX9_turnsLeg_85 (by decide) ?_
                exact kJ_4 wish _ _ _ _ _ ⟨(show wish = (nowF d 32 wish) by first | (simp [nowF, c_5, c_6, c_7, c_9, c_10]; done) | (clear S hX G hl; grind [nowF])), rfl, rfl⟩ G (lv_sub hl [0, 1, 2, 3, 4, 5] rfl)
        · refine lv_iload_n S.1 S.2.1 dX9_turnsLeg_61 rfl (lv_at hl 5 rfl) ?_
          refine lv_goto (tgt := 89) S.1 S.2.1 dX9_turnsLeg_62 (by decide) ?_
          exact kJ_4 wish _ _ _ _ _ ⟨(show wish = (nowF d 32 wish) by first | (simp [nowF, c_5, c_6]; done) | (clear S hX G hl; grind [nowF])), rfl, rfl⟩ G (lv_sub hl [0, 1, 2, 3, 4, 5] rfl)
    · obtain ⟨h0, hI, hL⟩ := hP
      have h0 : x = (nowF d 32 wish) := h0
      have hl : lv_has ls 7 [(5, .int (if d 34 = -1 ∨ ¬ d 34 < d 1 then 1 else 0)), (4, .int (d 33)), (3, .int (32 : Int32)), (0, .ref (E.2.2.2 161)), (1, .int (3 : Int32)), (2, .int wish)] := hl
      obtain ⟨m_11, rfl⟩ : ∃ z, z = x := ⟨_, rfl⟩
      have em_11 : m_11 = (nowF d 32 wish) := h0
      have G : GS E I L sg H locs := G.same hI hL
      refine W.eq (g2 := F0 mg 89 ls [.int m_11]) rfl ?_
      refine lv_istore (lv' := [(6, .int m_11), (5, .int (if d 34 = -1 ∨ ¬ d 34 < d 1 then 1 else 0)), (4, .int (d 33)), (3, .int (32 : Int32)), (0, .ref (E.2.2.2 161)), (1, .int (3 : Int32)), (2, .int wish)]) S.1 S.2.1 dX9_turnsLeg_89 hl (by decide) rfl (fun ls hl => ?_)
      refine lv_aload_n S.1 S.2.1 dX9_turnsLeg_91 rfl (lv_at hl 4 rfl) ?_
      refine s_get S hX G (i := 161) (kd := 9) (a := (I 161)) (v := .ref (E.2.2.2 162)) (C := RX9) (T := TX9) (N := 13) 0 (rfl : sh 161 = 9) rfl rfl rfl (by decide) rfl (fun _ h => (List.mem_cons_of_mem _ (List.mem_append_right _ h))) (by decide) (List.mem_of_getElem? (i := 1) rfl) (fun _ h => h) dX9_turnsLeg_92 ?_
      refine lv_iload_n S.1 S.2.1 dX9_turnsLeg_95 rfl (lv_at hl 3 rfl) ?_
      refine lv_iconst (v := (1 : Int32)) S.1 S.2.1 dX9_turnsLeg_96 (by decide) ?_
      refine s_iadd (v := (33 : Int32)) S dX9_turnsLeg_97 (by decide) ?_
      refine lv_iload S.1 S.2.1 dX9_turnsLeg_98 (lv_at hl 0 rfl) ?_
      refine s_iast S hX G (i := 162) (kd := 284) (n := 270) (jn := 33) (a := d) (I' := (up I 162 (upd d 33 m_11))) (rfl : sh 162 = 284) e_d (fun _ => rfl) (by decide) (by unfold vp_in; decide) (by decide) rfl dX9_turnsLeg_100 (fun H locs G => ?_)
      refine s_cut (α := Unit) (nL := 7) (E := E) (fun x I' L' => I' = (up I 162 (swF d 32 70 m_11)) ∧ L' = L) (fun x => [(6, .int m_11), (5, .int (if d 34 = -1 ∨ ¬ d 34 < d 1 then 1 else 0)), (4, .int (d 33)), (3, .int (32 : Int32)), (0, .ref (E.2.2.2 161)), (1, .int (3 : Int32)), (2, .int wish)]) 151 (fun x => []) (fun kJ_12 => ?_) (fun x I1 L1 H locs ls hP G hl => ?_)
      · refine lv_iload S.1 S.2.1 dX9_turnsLeg_101 (lv_at hl 0 rfl) ?_
        refine lv_iload S.1 S.2.1 dX9_turnsLeg_103 (lv_at hl 2 rfl) ?_
        refine lv_icmp_eq (tgt := 151) S.1 S.2.1 dX9_turnsLeg_105 (by decide) (fun c_13 => ?_) (fun c_13 => ?_)
        · exact kJ_12 () _ _ _ _ _ ⟨(st_eq1 (Eq.trans up_eq (show (upd d 33 m_11) = (swF d 32 70 m_11) by subst em_11; (unfold swF; first | exact (if_pos c_13).symm | exact (if_neg c_13).symm))) (fun _ g0 => (up_ne g0))), rfl⟩ G (lv_sub hl [0, 1, 2, 3, 4, 5, 6] rfl)
        · refine lv_aload_n S.1 S.2.1 dX9_turnsLeg_108 rfl (lv_at hl 4 rfl) ?_
          refine s_get S hX G (i := 161) (kd := 9) (a := (I 161)) (v := .ref (E.2.2.2 162)) (C := RX9) (T := TX9) (N := 13) 0 (rfl : sh 161 = 9) (up_ne (by decide)) rfl rfl (by decide) rfl (fun _ h => (List.mem_cons_of_mem _ (List.mem_append_right _ h))) (by decide) (List.mem_of_getElem? (i := 1) rfl) (fun _ h => h) dX9_turnsLeg_109 ?_
          refine lv_iload_n S.1 S.2.1 dX9_turnsLeg_112 rfl (lv_at hl 3 rfl) ?_
          refine lv_iconst (v := (3 : Int32)) S.1 S.2.1 dX9_turnsLeg_113 (by decide) ?_
          refine s_iadd (v := (35 : Int32)) S dX9_turnsLeg_114 (by decide) ?_
          refine lv_dup2_11 S.1 S.2.1 dX9_turnsLeg_115 rfl rfl ?_
          refine s_iald S hX G (i := 162) (kd := 284) (n := 270) (a := (upd d 33 m_11)) (x := (d 35)) (rfl : sh 162 = 284) up_eq rfl (by decide) (by unfold vp_in; decide) (show (upd d 33 m_11) (Int32.toNatClampNeg (35 : Int32)) = (d 35) from congrArg (upd d 33 m_11) (show Int32.toNatClampNeg (35 : Int32) = 35 from (by decide))) dX9_turnsLeg_116 ?_
          refine lv_iconst (v := (1 : Int32)) S.1 S.2.1 dX9_turnsLeg_117 (by decide) ?_
          refine s_iadd (v := ((d 35) + (1 : Int32))) S dX9_turnsLeg_118 rfl ?_
          refine lv_topi (fun y_14 ey_14 => ?_)
          refine s_iast S hX G (i := 162) (kd := 284) (n := 270) (jn := 35) (a := (upd d 33 m_11)) (I' := (up I 162 (upd (upd d 33 m_11) 35 y_14))) (rfl : sh 162 = 284) up_eq (fun _ => rfl) (by decide) (by unfold vp_in; decide) (by decide) (by rw [up_up]) dX9_turnsLeg_119 (fun H locs G => ?_)
          refine lv_aload_n S.1 S.2.1 dX9_turnsLeg_120 rfl (lv_at hl 4 rfl) ?_
          refine s_get S hX G (i := 161) (kd := 9) (a := (I 161)) (v := .ref (E.2.2.2 162)) (C := RX9) (T := TX9) (N := 13) 0 (rfl : sh 161 = 9) (up_ne (by decide)) rfl rfl (by decide) rfl (fun _ h => (List.mem_cons_of_mem _ (List.mem_append_right _ h))) (by decide) (List.mem_of_getElem? (i := 1) rfl) (fun _ h => h) dX9_turnsLeg_121 ?_
          refine lv_bipush (v := (100 : Int32)) S.1 S.2.1 dX9_turnsLeg_124 (by decide) ?_
          refine lv_dup2_11 S.1 S.2.1 dX9_turnsLeg_126 rfl rfl ?_
          refine s_iald S hX G (i := 162) (kd := 284) (n := 270) (a := (upd (upd d 33 m_11) 35 y_14)) (x := (d 100)) (rfl : sh 162 = 284) up_eq rfl (by decide) (by unfold vp_in; decide) (show (upd (upd d 33 m_11) 35 y_14) (Int32.toNatClampNeg (100 : Int32)) = (d 100) from congrArg (upd (upd d 33 m_11) 35 y_14) (show Int32.toNatClampNeg (100 : Int32) = 100 from (by decide))) dX9_turnsLeg_127 ?_
          refine lv_iconst (v := (1 : Int32)) S.1 S.2.1 dX9_turnsLeg_128 (by decide) ?_
          refine s_iadd (v := ((d 100) + (1 : Int32))) S dX9_turnsLeg_129 rfl ?_
          refine lv_topi (fun y_15 ey_15 => ?_)
          refine s_iast S hX G (i := 162) (kd := 284) (n := 270) (jn := 100) (a := (upd (upd d 33 m_11) 35 y_14)) (I' := (up I 162 (upd (upd (upd d 33 m_11) 35 y_14) 100 y_15))) (rfl : sh 162 = 284) up_eq (fun _ => rfl) (by decide) (by unfold vp_in; decide) (by decide) (by rw [up_up]) dX9_turnsLeg_130 (fun H locs G => ?_)
          refine lv_aload_n S.1 S.2.1 dX9_turnsLeg_131 rfl (lv_at hl 4 rfl) ?_
          refine s_get S hX G (i := 161) (kd := 9) (a := (I 161)) (v := .ref (E.2.2.2 162)) (C := RX9) (T := TX9) (N := 13) 0 (rfl : sh 161 = 9) (up_ne (by decide)) rfl rfl (by decide) rfl (fun _ h => (List.mem_cons_of_mem _ (List.mem_append_right _ h))) (by decide) (List.mem_of_getElem? (i := 1) rfl) (fun _ h => h) dX9_turnsLeg_132 ?_
          refine lv_iload_n S.1 S.2.1 dX9_turnsLeg_135 rfl (lv_at hl 5 rfl) ?_
          refine lv_iconst (v := (2 : Int32)) S.1 S.2.1 dX9_turnsLeg_136 (by decide) ?_
          refine s_idiv (v := (1 : Int32)) S dX9_turnsLeg_137 (by decide) (by decide) ?_
          refine s_callS (As := [.int (1 : Int32)]) (rest := [.ref (E.2.2.2 162)]) S hX G (k_X9_loadAt_1 l E) (va_cwS (bytes := cX9_loadAt) (maxL := 1) (ret := (some .int)) 1 S.2.2.2.2 gX9_turnsLeg_X9_loadAt rfl rfl rfl (by decide +kernel) ⟨Nat.le_of_ble_eq_true rfl, Nat.le_of_ble_eq_true rfl⟩) rfl hl.1 rfl (Nat.le_of_ble_eq_true rfl) ⟨Nat.zero_le _, Nat.zero_le _⟩ dX9_turnsLeg_138 (fun v I1 L1 H locs hR G => ?_)
          obtain ⟨hv, hI, hL⟩ := hR
          subst hv
          have G : GS E (up I 162 (upd (upd (upd d 33 m_11) 35 y_14) 100 y_15)) L sg H locs := G.same hI hL
          refine W.eq (g2 := F0 mg 141 ls [.int (70 : Int32), .ref (E.2.2.2 162)]) rfl ?_
          refine lv_bipush (v := (8 : Int32)) S.1 S.2.1 dX9_turnsLeg_141 (by decide) ?_
          refine s_iadd (v := (78 : Int32)) S dX9_turnsLeg_143 (by decide) ?_
          refine lv_aload_n S.1 S.2.1 dX9_turnsLeg_144 rfl (lv_at hl 4 rfl) ?_
          refine s_get S hX G (i := 161) (kd := 9) (a := (I 161)) (v := .ref (E.2.2.2 162)) (C := RX9) (T := TX9) (N := 13) 0 (rfl : sh 161 = 9) (up_ne (by decide)) rfl rfl (by decide) rfl (fun _ h => (List.mem_cons_of_mem _ (List.mem_append_right _ h))) (by decide) (List.mem_of_getElem? (i := 1) rfl) (fun _ h => h) dX9_turnsLeg_145 ?_
          refine lv_iconst (v := (2 : Int32)) S.1 S.2.1 dX9_turnsLeg_148 (by decide) ?_
          refine s_iald S hX G (i := 162) (kd := 284) (n := 270) (a := (upd (upd (upd d 33 m_11) 35 y_14) 100 y_15)) (x := (d 2)) (rfl : sh 162 = 284) up_eq rfl (by decide) (by unfold vp_in; decide) (show (upd (upd (upd d 33 m_11) 35 y_14) 100 y_15) (Int32.toNatClampNeg (2 : Int32)) = (d 2) from congrArg (upd (upd (upd d 33 m_11) 35 y_14) 100 y_15) (show Int32.toNatClampNeg (2 : Int32) = 2 from (by decide))) dX9_turnsLeg_149 ?_
          refine s_iast S hX G (i := 162) (kd := 284) (n := 270) (jn := 78) (a := (upd (upd (upd d 33 m_11) 35 y_14) 100 y_15)) (I' := (up I 162 (upd (upd (upd (upd d 33 m_11) 35 y_14) 100 y_15) 78 (d 2)))) (rfl : sh 162 = 284) up_eq (fun _ => rfl) (by decide) (by unfold vp_in; decide) (by decide) (by rw [up_up]) dX9_turnsLeg_150 (fun H locs G => ?_)
          exact kJ_12 () _ _ _ _ _ ⟨(st_eq1 (Eq.trans up_eq (show (upd (upd (upd (upd d 33 m_11) 35 y_14) 100 y_15) 78 (d 2)) = (swF d 32 70 m_11) by subst ey_15 ey_14 em_11; (unfold swF; first | exact (if_pos c_13).symm | exact (if_neg c_13).symm))) (fun _ g0 => (up_ne g0))), rfl⟩ G (lv_sub hl [0, 1, 2, 3, 4, 5, 6] rfl)
      · obtain ⟨hI, hL⟩ := hP
        have hl : lv_has ls 7 [(6, .int m_11), (5, .int (if d 34 = -1 ∨ ¬ d 34 < d 1 then 1 else 0)), (4, .int (d 33)), (3, .int (32 : Int32)), (0, .ref (E.2.2.2 161)), (1, .int (3 : Int32)), (2, .int wish)] := hl
        have G : GS E (up I 162 (swF d 32 70 m_11)) L sg H locs := G.same hI hL
        obtain ⟨r_16, er_16⟩ : ∃ r : Nat → Int32, r = (swF d 32 70 m_11) := ⟨_, rfl⟩
        rw [← er_16] at G
        refine W.eq (g2 := F0 mg 151 ls []) rfl ?_
        refine lv_aload_n S.1 S.2.1 dX9_turnsLeg_151 rfl (lv_at hl 4 rfl) ?_
        refine s_get S hX G (i := 161) (kd := 9) (a := (I 161)) (v := .ref (E.2.2.2 162)) (C := RX9) (T := TX9) (N := 13) 0 (rfl : sh 161 = 9) (up_ne (by decide)) rfl rfl (by decide) rfl (fun _ h => (List.mem_cons_of_mem _ (List.mem_append_right _ h))) (by decide) (List.mem_of_getElem? (i := 1) rfl) (fun _ h => h) dX9_turnsLeg_152 ?_
        refine lv_iload_n S.1 S.2.1 dX9_turnsLeg_155 rfl (lv_at hl 3 rfl) ?_
        refine lv_iconst (v := (2 : Int32)) S.1 S.2.1 dX9_turnsLeg_156 (by decide) ?_
        refine s_iadd (v := (34 : Int32)) S dX9_turnsLeg_157 (by decide) ?_
        refine s_cut (α := Int32) (nL := 7) (E := E) (fun x I' L' => x = (sinF m_11 (r_16 34)) ∧ I' = (up I 162 r_16) ∧ L' = L) (fun x => [(6, .int m_11), (5, .int (if d 34 = -1 ∨ ¬ d 34 < d 1 then 1 else 0)), (4, .int (d 33)), (3, .int (32 : Int32)), (0, .ref (E.2.2.2 161)), (1, .int (3 : Int32)), (2, .int wish)]) 193 (fun x => [.int x, .int (34 : Int32), .ref (E.2.2.2 162)]) (fun kJ_17 => ?_) (fun x I1 L1 H locs ls hP G hl => ?_)
        · refine lv_iload S.1 S.2.1 dX9_turnsLeg_158 (lv_at hl 0 rfl) ?_
          refine lv_if_le (tgt := 167) S.1 S.2.1 dX9_turnsLeg_160 (by decide) (fun c_18 => ?_) (fun c_18 => ?_)
          · refine lv_aload_n S.1 S.2.1 dX9_turnsLeg_167 rfl (lv_at hl 4 rfl) ?_
            refine s_get S hX G (i := 161) (kd := 9) (a := (I 161)) (v := .ref (E.2.2.2 162)) (C := RX9) (T := TX9) (N := 13) 0 (rfl : sh 161 = 9) (up_ne (by decide)) rfl rfl (by decide) rfl (fun _ h => (List.mem_cons_of_mem _ (List.mem_append_right _ h))) (by decide) (List.mem_of_getElem? (i := 1) rfl) (fun _ h => h) dX9_turnsLeg_168 ?_
            refine lv_iload_n S.1 S.2.1 dX9_turnsLeg_171 rfl (lv_at hl 3 rfl) ?_
            refine lv_iconst (v := (2 : Int32)) S.1 S.2.1 dX9_turnsLeg_172 (by decide) ?_
            refine s_iadd (v := (34 : Int32)) S dX9_turnsLeg_173 (by decide) ?_
            refine s_iald S hX G (i := 162) (kd := 284) (n := 270) (a := r_16) (x := (r_16 34)) (rfl : sh 162 = 284) up_eq rfl (by decide) (by unfold vp_in; decide) (congrArg r_16 (by decide)) dX9_turnsLeg_174 ?_
            refine lv_iconst (v := (-1 : Int32)) S.1 S.2.1 dX9_turnsLeg_175 (by decide) ?_
            refine lv_icmp_ne (tgt := 183) S.1 S.2.1 dX9_turnsLeg_176 (by decide) (fun c_19 => ?_) (fun c_19 => ?_)
            · refine lv_aload_n S.1 S.2.1 dX9_turnsLeg_183 rfl (lv_at hl 4 rfl) ?_
              refine s_get S hX G (i := 161) (kd := 9) (a := (I 161)) (v := .ref (E.2.2.2 162)) (C := RX9) (T := TX9) (N := 13) 0 (rfl : sh 161 = 9) (up_ne (by decide)) rfl rfl (by decide) rfl (fun _ h => (List.mem_cons_of_mem _ (List.mem_append_right _ h))) (by decide) (List.mem_of_getElem? (i := 1) rfl) (fun _ h => h) dX9_turnsLeg_184 ?_
              refine lv_iload_n S.1 S.2.1 dX9_turnsLeg_187 rfl (lv_at hl 3 rfl) ?_
              refine lv_iconst (v := (2 : Int32)) S.1 S.2.1 dX9_turnsLeg_188 (by decide) ?_
              refine s_iadd (v := (34 : Int32)) S dX9_turnsLeg_189 (by decide) ?_
              refine s_iald S hX G (i := 162) (kd := 284) (n := 270) (a := r_16) (x := (r_16 34)) (rfl : sh 162 = 284) up_eq rfl (by decide) (by unfold vp_in; decide) (congrArg r_16 (by decide)) dX9_turnsLeg_190 ?_
              refine lv_iconst (v := (1 : Int32)) S.1 S.2.1 dX9_turnsLeg_191 (by decide) ?_
              refine s_iadd (v := ((r_16 34) + (1 : Int32))) S dX9_turnsLeg_192 rfl ?_
              exact kJ_17 ((r_16 34) + (1 : Int32)) _ _ _ _ _ ⟨(show ((r_16 34) + (1 : Int32)) = (sinF m_11 (r_16 34)) by subst er_16 em_11; simp [sinF, c_18, c_19]), rfl, rfl⟩ G (lv_sub hl [0, 1, 2, 3, 4, 5, 6] rfl)
            · refine lv_iconst (v := (-1 : Int32)) S.1 S.2.1 dX9_turnsLeg_179 (by decide) ?_
              refine lv_goto (tgt := 193) S.1 S.2.1 dX9_turnsLeg_180 (by decide) ?_
              exact kJ_17 (-1 : Int32) _ _ _ _ _ ⟨(show (-1 : Int32) = (sinF m_11 (r_16 34)) by subst er_16 em_11; simp [sinF, c_18, c_19]), rfl, rfl⟩ G (lv_sub hl [0, 1, 2, 3, 4, 5, 6] rfl)
          · refine lv_iconst (v := (0 : Int32)) S.1 S.2.1 dX9_turnsLeg_163 (by decide) ?_
            refine lv_goto (tgt := 193) S.1 S.2.1 dX9_turnsLeg_164 (by decide) ?_
            exact kJ_17 (0 : Int32) _ _ _ _ _ ⟨(show (0 : Int32) = (sinF m_11 (r_16 34)) by subst er_16 em_11; simp [sinF, c_18]), rfl, rfl⟩ G (lv_sub hl [0, 1, 2, 3, 4, 5, 6] rfl)
        · obtain ⟨h0, hI, hL⟩ := hP
          have h0 : x = (sinF m_11 (r_16 34)) := h0
          have hl : lv_has ls 7 [(6, .int m_11), (5, .int (if d 34 = -1 ∨ ¬ d 34 < d 1 then 1 else 0)), (4, .int (d 33)), (3, .int (32 : Int32)), (0, .ref (E.2.2.2 161)), (1, .int (3 : Int32)), (2, .int wish)] := hl
          obtain ⟨m_20, rfl⟩ : ∃ z, z = x := ⟨_, rfl⟩
          have em_20 : m_20 = (sinF m_11 (r_16 34)) := h0
          have G : GS E (up I 162 r_16) L sg H locs := G.same hI hL
          refine W.eq (g2 := F0 mg 193 ls [.int m_20, .int (34 : Int32), .ref (E.2.2.2 162)]) rfl ?_
          refine s_iast S hX G (i := 162) (kd := 284) (n := 270) (jn := 34) (a := r_16) (I' := (up I 162 (upd r_16 34 m_20))) (rfl : sh 162 = 284) up_eq (fun _ => rfl) (by decide) (by unfold vp_in; decide) (by decide) (by rw [up_up]) dX9_turnsLeg_193 (fun H locs G => ?_)
          refine lv_aload_n S.1 S.2.1 dX9_turnsLeg_194 rfl (lv_at hl 4 rfl) ?_
          refine s_get S hX G (i := 161) (kd := 9) (a := (I 161)) (v := .ref (E.2.2.2 162)) (C := RX9) (T := TX9) (N := 13) 0 (rfl : sh 161 = 9) (up_ne (by decide)) rfl rfl (by decide) rfl (fun _ h => (List.mem_cons_of_mem _ (List.mem_append_right _ h))) (by decide) (List.mem_of_getElem? (i := 1) rfl) (fun _ h => h) dX9_turnsLeg_195 ?_
          refine lv_iload_n S.1 S.2.1 dX9_turnsLeg_198 rfl (lv_at hl 3 rfl) ?_
          refine lv_iconst (v := (4 : Int32)) S.1 S.2.1 dX9_turnsLeg_199 (by decide) ?_
          refine s_iadd (v := (36 : Int32)) S dX9_turnsLeg_200 (by decide) ?_
          refine s_cut (α := Int32) (nL := 7) (E := E) (fun x I' L' => x = (if m_11 = 0 then 2 else m_11 - 1) ∧ I' = (up I 162 (upd r_16 34 m_20)) ∧ L' = L) (fun x => [(6, .int m_11), (5, .int (if d 34 = -1 ∨ ¬ d 34 < d 1 then 1 else 0)), (4, .int (d 33)), (3, .int (32 : Int32)), (0, .ref (E.2.2.2 161)), (1, .int (3 : Int32)), (2, .int wish)]) 214 (fun x => [.int x, .int (36 : Int32), .ref (E.2.2.2 162)]) (fun kJ_21 => ?_) (fun x I1 L1 H locs ls hP G hl => ?_)
          · refine lv_iload S.1 S.2.1 dX9_turnsLeg_201 (lv_at hl 0 rfl) ?_
            refine lv_if_ne (tgt := 210) S.1 S.2.1 dX9_turnsLeg_203 (by decide) (fun c_22 => ?_) (fun c_22 => ?_)
            · refine lv_iload S.1 S.2.1 dX9_turnsLeg_210 (lv_at hl 0 rfl) ?_
              refine lv_iconst (v := (1 : Int32)) S.1 S.2.1 dX9_turnsLeg_212 (by decide) ?_
              refine s_isub (v := (m_11 - (1 : Int32))) S dX9_turnsLeg_213 rfl ?_
              exact kJ_21 (m_11 - (1 : Int32)) _ _ _ _ _ ⟨(show (m_11 - (1 : Int32)) = (if m_11 = 0 then 2 else m_11 - 1) by subst em_20 er_16 em_11; simp [c_22]), rfl, rfl⟩ G (lv_sub hl [0, 1, 2, 3, 4, 5, 6] rfl)
            · refine lv_iconst (v := (2 : Int32)) S.1 S.2.1 dX9_turnsLeg_206 (by decide) ?_
              refine lv_goto (tgt := 214) S.1 S.2.1 dX9_turnsLeg_207 (by decide) ?_
              exact kJ_21 (2 : Int32) _ _ _ _ _ ⟨(show (2 : Int32) = (if m_11 = 0 then 2 else m_11 - 1) by subst em_20 er_16 em_11; simp [c_22]), rfl, rfl⟩ G (lv_sub hl [0, 1, 2, 3, 4, 5, 6] rfl)
          · obtain ⟨h0, hI, hL⟩ := hP
            have h0 : x = (if m_11 = 0 then 2 else m_11 - 1) := h0
            have hl : lv_has ls 7 [(6, .int m_11), (5, .int (if d 34 = -1 ∨ ¬ d 34 < d 1 then 1 else 0)), (4, .int (d 33)), (3, .int (32 : Int32)), (0, .ref (E.2.2.2 161)), (1, .int (3 : Int32)), (2, .int wish)] := hl
            subst h0
            have G : GS E (up I 162 (upd r_16 34 m_20)) L sg H locs := G.same hI hL
            refine W.eq (g2 := F0 mg 214 ls [.int (if m_11 = 0 then 2 else m_11 - 1), .int (36 : Int32), .ref (E.2.2.2 162)]) rfl ?_
            refine s_iadd (v := ((36 : Int32) + (if m_11 = 0 then 2 else m_11 - 1))) S dX9_turnsLeg_214 rfl ?_
            refine s_conv (y := (nI (36 + ixF m_11))) (ixF_e (a := 36) (em_11 ▸ nowF_in hw)) ?_
            refine lv_dup2_11 S.1 S.2.1 dX9_turnsLeg_215 rfl rfl ?_
            refine s_iald S hX G (i := 162) (kd := 284) (n := 270) (a := (upd r_16 34 m_20)) (x := ((upd r_16 34 m_20) (36 + ixF m_11))) (rfl : sh 162 = 284) up_eq rfl (by decide) (vp_in_nI (by have := @ixF_le m_11; omega) (by decide)) (congrArg (upd r_16 34 m_20) (nI_clamp (by have := @ixF_le m_11; omega))) dX9_turnsLeg_216 ?_
            refine lv_iconst (v := (1 : Int32)) S.1 S.2.1 dX9_turnsLeg_217 (by decide) ?_
            refine s_iadd (v := (((upd r_16 34 m_20) (36 + ixF m_11)) + (1 : Int32))) S dX9_turnsLeg_218 rfl ?_
            refine lv_topi (fun y_23 ey_23 => ?_)
            refine s_iast S hX G (i := 162) (kd := 284) (n := 270) (jn := (36 + ixF m_11)) (a := (upd r_16 34 m_20)) (I' := (up I 162 (upd (upd r_16 34 m_20) (36 + ixF m_11) y_23))) (rfl : sh 162 = 284) up_eq (fun _ => rfl) (by decide) (vp_in_nI (by have := @ixF_le m_11; omega) (by decide)) (nI_clamp (by have := @ixF_le m_11; omega)) (by rw [up_up]) dX9_turnsLeg_219 (fun H locs G => ?_)
            refine s_vret S G hr hlk dX9_turnsLeg_220 ?_
            exact ⟨rfl, (st_eq1 (Eq.trans up_eq (show (upd (upd r_16 34 m_20) (36 + ixF m_11) y_23) = (tlF d 32 70 (nowF d 32 wish)) by subst ey_23 em_20 er_16 em_11; rfl)) (fun _ g0 => (up_ne g0))), rfl⟩
