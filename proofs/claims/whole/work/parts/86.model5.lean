set_option maxHeartbeats 4000000 in
set_option maxRecDepth 100000 in
theorem k_X9_keepsSlot (l : Launch) (E : Ev) {I : SI} {L : SL} (d : Nat → Int32) (e_d : I (162) = d) : CS l yX9_keepsSlot wsX9_keepsSlot ({ frames := 1, cells := 0, slots := 0, locals := 20 }) E [.ref (E.2.2.2 161)] I L (fun vv I' L' => vv = none ∧ I' = (up I (162) (kpF d)) ∧ L' = L) := by
  refine CS.of (cc := cX9_keepsSlot) (maxL := 2) (ret := none) (by decide) rfl (Nat.le_of_ble_eq_true rfl) ?_
  intro pg en sg mg below meth cg ls S hr hlk hX G hl
  have S : CallFix pg mg cg cX9_keepsSlot 2 sg _ wsX9_keepsSlot RX9 := S
  have hl : lv_has ls 2 [(0, .ref (E.2.2.2 161))] := hl
  refine lv_aload_n S.1 S.2.1 dX9_keepsSlot_0 rfl (lv_at hl 0 rfl) ?_
  refine s_get S hX G (i := 161) (kd := 9) (a := (I 161)) (v := .ref (E.2.2.2 162)) (C := RX9) (T := TX9) (N := 13) 0 (rfl : sh 161 = 9) rfl rfl rfl (by decide) rfl (fun _ h => (List.mem_cons_of_mem _ (List.mem_append_right _ h))) (by decide) (List.mem_of_getElem? (i := 1) rfl) (fun _ h => h) dX9_keepsSlot_1 ?_
  refine lv_bipush (v := (102 : Int32)) S.1 S.2.1 dX9_keepsSlot_4 (by decide) ?_
  refine s_iald S hX G (i := 162) (kd := 284) (n := 270) (a := d) (x := (d 102)) (rfl : sh 162 = 284) e_d rfl (by decide) (by unfold vp_in; decide) (congrArg d (by decide)) dX9_keepsSlot_6 ?_
  refine lv_bipush (v := (32 : Int32)) S.1 S.2.1 dX9_keepsSlot_7 (by decide) ?_
  refine s_cut (α := Unit) (nL := 2) (E := E) (fun x I' L' => I' = (up I 162 (kpA d)) ∧ L' = L) (fun x => [(0, .ref (E.2.2.2 161))]) 23 (fun x => []) (fun kJ_1 => ?_) (fun x I1 L1 H locs ls hP G hl => ?_)
  · refine lv_icmp_ge (tgt := 23) S.1 S.2.1 dX9_keepsSlot_9 (by decide) (fun c_2 => ?_) (fun c_2 => ?_)
    · exact kJ_1 () _ _ _ _ _ ⟨(st_eq1 (Eq.trans e_d (show d = (kpA d) by unfold kpA; first | exact (if_pos c_2).symm | exact (if_neg c_2).symm)) (fun _ g0 => rfl)), rfl⟩ G (lv_sub hl [0] rfl)
    · refine lv_aload_n S.1 S.2.1 dX9_keepsSlot_12 rfl (lv_at hl 0 rfl) ?_
      refine s_get S hX G (i := 161) (kd := 9) (a := (I 161)) (v := .ref (E.2.2.2 162)) (C := RX9) (T := TX9) (N := 13) 0 (rfl : sh 161 = 9) rfl rfl rfl (by decide) rfl (fun _ h => (List.mem_cons_of_mem _ (List.mem_append_right _ h))) (by decide) (List.mem_of_getElem? (i := 1) rfl) (fun _ h => h) dX9_keepsSlot_13 ?_
      refine lv_bipush (v := (102 : Int32)) S.1 S.2.1 dX9_keepsSlot_16 (by decide) ?_
      refine lv_dup2_11 S.1 S.2.1 dX9_keepsSlot_18 rfl rfl ?_
      refine s_iald S hX G (i := 162) (kd := 284) (n := 270) (a := d) (x := (d 102)) (rfl : sh 162 = 284) e_d rfl (by decide) (by unfold vp_in; decide) (congrArg d (by decide)) dX9_keepsSlot_19 ?_
      refine lv_iconst (v := (1 : Int32)) S.1 S.2.1 dX9_keepsSlot_20 (by decide) ?_
      refine s_iadd (v := ((d 102) + (1 : Int32))) S dX9_keepsSlot_21 rfl ?_
      refine lv_topi (fun y_3 ey_3 => ?_)
      refine s_iast S hX G (i := 162) (kd := 284) (n := 270) (jn := 102) (a := d) (I' := (up I 162 (upd d 102 y_3))) (rfl : sh 162 = 284) e_d (fun _ => rfl) (by decide) (by unfold vp_in; decide) (by decide) rfl dX9_keepsSlot_22 (fun H locs G => ?_)
      exact kJ_1 () _ _ _ _ _ ⟨(st_eq1 (Eq.trans up_eq (show (upd d 102 y_3) = (kpA d) by subst ey_3; (unfold kpA; first | exact (if_pos c_2).symm | exact (if_neg c_2).symm))) (fun _ g0 => (up_ne g0))), rfl⟩ G (lv_sub hl [0] rfl)
  · obtain ⟨hI, hL⟩ := hP
    have hl : lv_has ls 2 [(0, .ref (E.2.2.2 161))] := hl
    have G : GS E (up I 162 (kpA d)) L sg H locs := G.same hI hL
    obtain ⟨dk, edk⟩ : ∃ r : Nat → Int32, r = (kpA d) := ⟨_, rfl⟩
    rw [← edk] at G
    refine W.eq (g2 := F0 mg 23 ls []) rfl ?_
    refine lv_sipush (v := (159 : Int32)) S.1 S.2.1 dX9_keepsSlot_23 (by decide) ?_
    refine lv_istore_n (lv' := [(1, .int (159 : Int32)), (0, .ref (E.2.2.2 161))]) S.1 S.2.1 dX9_keepsSlot_26 rfl hl (by decide) rfl (fun ls hl => ?_)
    refine s_loop (α := Nat) (nL := 2) (E := E) (fun nn x I' L' => nn = x ∧ x ≤ 155 ∧ I' = up I 162 (shs dk (x + 4)) ∧ L' = L) (fun x => [(1, .int (nI (x + 4))), (0, .ref (E.2.2.2 161))]) 27 (fun x => []) (fun nn ih_4 x I1 L1 H locs ls hP G hl => ?_) _ 155 ⟨rfl, (by omega), (congrArg (up I 162) (shs_0 dk).symm), rfl⟩ G (lv_sub hl [0, 1] rfl)
    obtain ⟨q, rfl⟩ : ∃ z, z = x := ⟨x, rfl⟩
    obtain ⟨hn, hq, hIc, hLc⟩ := hP
    have hn : nn = q := hn
    obtain ⟨I_b, rfl⟩ : ∃ z, z = I1 := ⟨I1, rfl⟩
    obtain ⟨L_b, rfl⟩ : ∃ z, z = L1 := ⟨L1, rfl⟩
    have hq : q ≤ 155 := hq
    have hIc : I_b = up I 162 (shs dk (q + 4)) := hIc
    have hLc : L_b = L := hLc
    have hl : lv_has ls 2 [(1, .int (nI (q + 4))), (0, .ref (E.2.2.2 161))] := hl
    refine W.eq (g2 := F0 mg 27 ls []) rfl ?_
    have G : GS E (up I 162 (shs dk (q + 4))) L sg H locs := G.same hIc hLc
    rcases q with _ | q
    · have hl : lv_has ls 2 [(1, .int (4 : Int32)), (0, .ref (E.2.2.2 161))] := hl
      have G : GS E (up I 162 (shs dk 4)) L sg H locs := G
      refine lv_iload_n S.1 S.2.1 dX9_keepsSlot_27 rfl (lv_at hl 0 rfl) ?_
      refine lv_iconst (v := (5 : Int32)) S.1 S.2.1 dX9_keepsSlot_28 (by decide) ?_
      refine lv_icmp_lt (tgt := 58) S.1 S.2.1 dX9_keepsSlot_29 (by decide) (fun _ => ?_) (fun h => absurd (by decide) h)
      refine lv_aload_n S.1 S.2.1 dX9_keepsSlot_58 rfl (lv_at hl 1 rfl) ?_
      refine s_get S hX G (i := 161) (kd := 9) (a := (I 161)) (v := .ref (E.2.2.2 162)) (C := RX9) (T := TX9) (N := 13) 0 (rfl : sh 161 = 9) (up_ne (by decide)) rfl rfl (by decide) rfl (fun _ h => (List.mem_cons_of_mem _ (List.mem_append_right _ h))) (by decide) (List.mem_of_getElem? (i := 1) rfl) (fun _ h => h) dX9_keepsSlot_59 ?_
      refine lv_bipush (v := (110 : Int32)) S.1 S.2.1 dX9_keepsSlot_62 (by decide) ?_
      refine lv_aload_n S.1 S.2.1 dX9_keepsSlot_64 rfl (lv_at hl 1 rfl) ?_
      refine s_get S hX G (i := 161) (kd := 9) (a := (I 161)) (v := .ref (E.2.2.2 162)) (C := RX9) (T := TX9) (N := 13) 0 (rfl : sh 161 = 9) (up_ne (by decide)) rfl rfl (by decide) rfl (fun _ h => (List.mem_cons_of_mem _ (List.mem_append_right _ h))) (by decide) (List.mem_of_getElem? (i := 1) rfl) (fun _ h => h) dX9_keepsSlot_65 ?_
      refine lv_iconst (v := (0 : Int32)) S.1 S.2.1 dX9_keepsSlot_68 (by decide) ?_
      refine s_iald S hX G (i := 162) (kd := 284) (n := 270) (a := (shs dk 4)) (x := ((shs dk 4) 0)) (rfl : sh 162 = 284) up_eq rfl (by decide) (by unfold vp_in; decide) (congrArg (shs dk 4) (by decide)) dX9_keepsSlot_69 ?_
      refine lv_topi (fun y_5 ey_5 => ?_)
      refine s_iast S hX G (i := 162) (kd := 284) (n := 270) (jn := 110) (a := (shs dk 4)) (I' := (up I 162 (upd (shs dk 4) 110 y_5))) (rfl : sh 162 = 284) up_eq (fun _ => rfl) (by decide) (by unfold vp_in; decide) (by decide) (by rw [up_up]) dX9_keepsSlot_70 (fun H locs G => ?_)
      refine lv_aload_n S.1 S.2.1 dX9_keepsSlot_71 rfl (lv_at hl 1 rfl) ?_
      refine s_get S hX G (i := 161) (kd := 9) (a := (I 161)) (v := .ref (E.2.2.2 162)) (C := RX9) (T := TX9) (N := 13) 0 (rfl : sh 161 = 9) (up_ne (by decide)) rfl rfl (by decide) rfl (fun _ h => (List.mem_cons_of_mem _ (List.mem_append_right _ h))) (by decide) (List.mem_of_getElem? (i := 1) rfl) (fun _ h => h) dX9_keepsSlot_72 ?_
      refine lv_bipush (v := (111 : Int32)) S.1 S.2.1 dX9_keepsSlot_75 (by decide) ?_
      refine lv_aload_n S.1 S.2.1 dX9_keepsSlot_77 rfl (lv_at hl 1 rfl) ?_
      refine s_get S hX G (i := 161) (kd := 9) (a := (I 161)) (v := .ref (E.2.2.2 162)) (C := RX9) (T := TX9) (N := 13) 0 (rfl : sh 161 = 9) (up_ne (by decide)) rfl rfl (by decide) rfl (fun _ h => (List.mem_cons_of_mem _ (List.mem_append_right _ h))) (by decide) (List.mem_of_getElem? (i := 1) rfl) (fun _ h => h) dX9_keepsSlot_78 ?_
      refine lv_iconst (v := (0 : Int32)) S.1 S.2.1 dX9_keepsSlot_81 (by decide) ?_
      refine s_callS (As := [.int (0 : Int32)]) (rest := [.ref (E.2.2.2 162), .int (111 : Int32), .ref (E.2.2.2 162)]) S hX G (k_X9_loadAt_0 l E) (va_cwS (bytes := cX9_loadAt) (maxL := 1) (ret := (some .int)) 1 S.2.2.2.2 gX9_keepsSlot_X9_loadAt rfl rfl rfl (by decide +kernel) ⟨Nat.le_of_ble_eq_true rfl, Nat.le_of_ble_eq_true rfl⟩) rfl hl.1 rfl (Nat.le_of_ble_eq_true rfl) ⟨Nat.zero_le _, Nat.zero_le _⟩ dX9_keepsSlot_82 (fun v I1 L1 H locs hR G => ?_)
      obtain ⟨hv, hI, hL⟩ := hR
      subst hv
      have G : GS E (up I 162 (upd (shs dk 4) 110 y_5)) L sg H locs := G.same hI hL
      refine W.eq (g2 := F0 mg 85 ls [.int (40 : Int32), .ref (E.2.2.2 162), .int (111 : Int32), .ref (E.2.2.2 162)]) rfl ?_
      refine lv_iconst (v := (4 : Int32)) S.1 S.2.1 dX9_keepsSlot_85 (by decide) ?_
      refine s_iadd (v := (44 : Int32)) S dX9_keepsSlot_86 (by decide) ?_
      refine s_iald S hX G (i := 162) (kd := 284) (n := 270) (a := (upd (shs dk 4) 110 y_5)) (x := ((shs dk 4) 44)) (rfl : sh 162 = 284) up_eq rfl (by decide) (by unfold vp_in; decide) (show (upd (shs dk 4) 110 y_5) (Int32.toNatClampNeg (44 : Int32)) = ((shs dk 4) 44) from congrArg (upd (shs dk 4) 110 y_5) (show Int32.toNatClampNeg (44 : Int32) = 44 from (by decide))) dX9_keepsSlot_87 ?_
      refine lv_topi (fun y_6 ey_6 => ?_)
      refine s_iast S hX G (i := 162) (kd := 284) (n := 270) (jn := 111) (a := (upd (shs dk 4) 110 y_5)) (I' := (up I 162 (upd (upd (shs dk 4) 110 y_5) 111 y_6))) (rfl : sh 162 = 284) up_eq (fun _ => rfl) (by decide) (by unfold vp_in; decide) (by decide) (by rw [up_up]) dX9_keepsSlot_88 (fun H locs G => ?_)
      refine lv_aload_n S.1 S.2.1 dX9_keepsSlot_89 rfl (lv_at hl 1 rfl) ?_
      refine s_get S hX G (i := 161) (kd := 9) (a := (I 161)) (v := .ref (E.2.2.2 162)) (C := RX9) (T := TX9) (N := 13) 0 (rfl : sh 161 = 9) (up_ne (by decide)) rfl rfl (by decide) rfl (fun _ h => (List.mem_cons_of_mem _ (List.mem_append_right _ h))) (by decide) (List.mem_of_getElem? (i := 1) rfl) (fun _ h => h) dX9_keepsSlot_90 ?_
      refine lv_bipush (v := (112 : Int32)) S.1 S.2.1 dX9_keepsSlot_93 (by decide) ?_
      refine lv_aload_n S.1 S.2.1 dX9_keepsSlot_95 rfl (lv_at hl 1 rfl) ?_
      refine s_get S hX G (i := 161) (kd := 9) (a := (I 161)) (v := .ref (E.2.2.2 162)) (C := RX9) (T := TX9) (N := 13) 0 (rfl : sh 161 = 9) (up_ne (by decide)) rfl rfl (by decide) rfl (fun _ h => (List.mem_cons_of_mem _ (List.mem_append_right _ h))) (by decide) (List.mem_of_getElem? (i := 1) rfl) (fun _ h => h) dX9_keepsSlot_96 ?_
      refine lv_iconst (v := (1 : Int32)) S.1 S.2.1 dX9_keepsSlot_99 (by decide) ?_
      refine s_callS (As := [.int (1 : Int32)]) (rest := [.ref (E.2.2.2 162), .int (112 : Int32), .ref (E.2.2.2 162)]) S hX G (k_X9_loadAt_1 l E) (va_cwS (bytes := cX9_loadAt) (maxL := 1) (ret := (some .int)) 1 S.2.2.2.2 gX9_keepsSlot_X9_loadAt rfl rfl rfl (by decide +kernel) ⟨Nat.le_of_ble_eq_true rfl, Nat.le_of_ble_eq_true rfl⟩) rfl hl.1 rfl (Nat.le_of_ble_eq_true rfl) ⟨Nat.zero_le _, Nat.zero_le _⟩ dX9_keepsSlot_100 (fun v I1 L1 H locs hR G => ?_)
      obtain ⟨hv, hI, hL⟩ := hR
      subst hv
      have G : GS E (up I 162 (upd (upd (shs dk 4) 110 y_5) 111 y_6)) L sg H locs := G.same hI hL
      refine W.eq (g2 := F0 mg 103 ls [.int (70 : Int32), .ref (E.2.2.2 162), .int (112 : Int32), .ref (E.2.2.2 162)]) rfl ?_
      refine lv_iconst (v := (4 : Int32)) S.1 S.2.1 dX9_keepsSlot_103 (by decide) ?_
      refine s_iadd (v := (74 : Int32)) S dX9_keepsSlot_104 (by decide) ?_
      refine s_iald S hX G (i := 162) (kd := 284) (n := 270) (a := (upd (upd (shs dk 4) 110 y_5) 111 y_6)) (x := ((shs dk 4) 74)) (rfl : sh 162 = 284) up_eq rfl (by decide) (by unfold vp_in; decide) (show (upd (upd (shs dk 4) 110 y_5) 111 y_6) (Int32.toNatClampNeg (74 : Int32)) = ((shs dk 4) 74) from congrArg (upd (upd (shs dk 4) 110 y_5) 111 y_6) (show Int32.toNatClampNeg (74 : Int32) = 74 from (by decide))) dX9_keepsSlot_105 ?_
      refine lv_topi (fun y_7 ey_7 => ?_)
      refine s_iast S hX G (i := 162) (kd := 284) (n := 270) (jn := 112) (a := (upd (upd (shs dk 4) 110 y_5) 111 y_6)) (I' := (up I 162 (upd (upd (upd (shs dk 4) 110 y_5) 111 y_6) 112 y_7))) (rfl : sh 162 = 284) up_eq (fun _ => rfl) (by decide) (by unfold vp_in; decide) (by decide) (by rw [up_up]) dX9_keepsSlot_106 (fun H locs G => ?_)
      refine lv_aload_n S.1 S.2.1 dX9_keepsSlot_107 rfl (lv_at hl 1 rfl) ?_
      refine s_get S hX G (i := 161) (kd := 9) (a := (I 161)) (v := .ref (E.2.2.2 162)) (C := RX9) (T := TX9) (N := 13) 0 (rfl : sh 161 = 9) (up_ne (by decide)) rfl rfl (by decide) rfl (fun _ h => (List.mem_cons_of_mem _ (List.mem_append_right _ h))) (by decide) (List.mem_of_getElem? (i := 1) rfl) (fun _ h => h) dX9_keepsSlot_108 ?_
      refine lv_bipush (v := (113 : Int32)) S.1 S.2.1 dX9_keepsSlot_111 (by decide) ?_
      refine lv_aload_n S.1 S.2.1 dX9_keepsSlot_113 rfl (lv_at hl 1 rfl) ?_
      refine s_get S hX G (i := 161) (kd := 9) (a := (I 161)) (v := .ref (E.2.2.2 162)) (C := RX9) (T := TX9) (N := 13) 0 (rfl : sh 161 = 9) (up_ne (by decide)) rfl rfl (by decide) rfl (fun _ h => (List.mem_cons_of_mem _ (List.mem_append_right _ h))) (by decide) (List.mem_of_getElem? (i := 1) rfl) (fun _ h => h) dX9_keepsSlot_114 ?_
      refine lv_iconst (v := (0 : Int32)) S.1 S.2.1 dX9_keepsSlot_117 (by decide) ?_
      refine s_callS (As := [.int (0 : Int32)]) (rest := [.ref (E.2.2.2 162), .int (113 : Int32), .ref (E.2.2.2 162)]) S hX G (k_X9_legAt_0 l E) (va_cwS (bytes := cX9_legAt) (maxL := 1) (ret := (some .int)) 1 S.2.2.2.2 gX9_keepsSlot_X9_legAt rfl rfl rfl (by decide +kernel) ⟨Nat.le_of_ble_eq_true rfl, Nat.le_of_ble_eq_true rfl⟩) rfl hl.1 rfl (Nat.le_of_ble_eq_true rfl) ⟨Nat.zero_le _, Nat.zero_le _⟩ dX9_keepsSlot_118 (fun v I1 L1 H locs hR G => ?_)
      obtain ⟨hv, hI, hL⟩ := hR
      subst hv
      have G : GS E (up I 162 (upd (upd (upd (shs dk 4) 110 y_5) 111 y_6) 112 y_7)) L sg H locs := G.same hI hL
      refine W.eq (g2 := F0 mg 121 ls [.int (8 : Int32), .ref (E.2.2.2 162), .int (113 : Int32), .ref (E.2.2.2 162)]) rfl ?_
      refine lv_iconst (v := (1 : Int32)) S.1 S.2.1 dX9_keepsSlot_121 (by decide) ?_
      refine s_iadd (v := (9 : Int32)) S dX9_keepsSlot_122 (by decide) ?_
      refine s_iald S hX G (i := 162) (kd := 284) (n := 270) (a := (upd (upd (upd (shs dk 4) 110 y_5) 111 y_6) 112 y_7)) (x := ((shs dk 4) 9)) (rfl : sh 162 = 284) up_eq rfl (by decide) (by unfold vp_in; decide) (show (upd (upd (upd (shs dk 4) 110 y_5) 111 y_6) 112 y_7) (Int32.toNatClampNeg (9 : Int32)) = ((shs dk 4) 9) from congrArg (upd (upd (upd (shs dk 4) 110 y_5) 111 y_6) 112 y_7) (show Int32.toNatClampNeg (9 : Int32) = 9 from (by decide))) dX9_keepsSlot_123 ?_
      refine lv_iconst (v := (3 : Int32)) S.1 S.2.1 dX9_keepsSlot_124 (by decide) ?_
      refine lv_aload_n S.1 S.2.1 dX9_keepsSlot_125 rfl (lv_at hl 1 rfl) ?_
      refine s_get S hX G (i := 161) (kd := 9) (a := (I 161)) (v := .ref (E.2.2.2 162)) (C := RX9) (T := TX9) (N := 13) 0 (rfl : sh 161 = 9) (up_ne (by decide)) rfl rfl (by decide) rfl (fun _ h => (List.mem_cons_of_mem _ (List.mem_append_right _ h))) (by decide) (List.mem_of_getElem? (i := 1) rfl) (fun _ h => h) dX9_keepsSlot_126 ?_
      refine lv_iconst (v := (1 : Int32)) S.1 S.2.1 dX9_keepsSlot_129 (by decide) ?_
      refine s_callS (As := [.int (1 : Int32)]) (rest := [.ref (E.2.2.2 162), .int (3 : Int32), .int ((shs dk 4) 9), .int (113 : Int32), .ref (E.2.2.2 162)]) S hX G (k_X9_legAt_1 l E) (va_cwS (bytes := cX9_legAt) (maxL := 1) (ret := (some .int)) 1 S.2.2.2.2 gX9_keepsSlot_X9_legAt rfl rfl rfl (by decide +kernel) ⟨Nat.le_of_ble_eq_true rfl, Nat.le_of_ble_eq_true rfl⟩) rfl hl.1 rfl (Nat.le_of_ble_eq_true rfl) ⟨Nat.zero_le _, Nat.zero_le _⟩ dX9_keepsSlot_130 (fun v I1 L1 H locs hR G => ?_)
      obtain ⟨hv, hI, hL⟩ := hR
      subst hv
      have G : GS E (up I 162 (upd (upd (upd (shs dk 4) 110 y_5) 111 y_6) 112 y_7)) L sg H locs := G.same hI hL
      refine W.eq (g2 := F0 mg 133 ls [.int (16 : Int32), .ref (E.2.2.2 162), .int (3 : Int32), .int ((shs dk 4) 9), .int (113 : Int32), .ref (E.2.2.2 162)]) rfl ?_
      refine lv_iconst (v := (1 : Int32)) S.1 S.2.1 dX9_keepsSlot_133 (by decide) ?_
      refine s_iadd (v := (17 : Int32)) S dX9_keepsSlot_134 (by decide) ?_
      refine s_iald S hX G (i := 162) (kd := 284) (n := 270) (a := (upd (upd (upd (shs dk 4) 110 y_5) 111 y_6) 112 y_7)) (x := ((shs dk 4) 17)) (rfl : sh 162 = 284) up_eq rfl (by decide) (by unfold vp_in; decide) (show (upd (upd (upd (shs dk 4) 110 y_5) 111 y_6) 112 y_7) (Int32.toNatClampNeg (17 : Int32)) = ((shs dk 4) 17) from congrArg (upd (upd (upd (shs dk 4) 110 y_5) 111 y_6) 112 y_7) (show Int32.toNatClampNeg (17 : Int32) = 17 from (by decide))) dX9_keepsSlot_135 ?_
      refine s_imul (v := ((3 : Int32) * ((shs dk 4) 17))) S dX9_keepsSlot_136 rfl ?_
      refine s_iadd (v := (((shs dk 4) 9) + ((3 : Int32) * ((shs dk 4) 17)))) S dX9_keepsSlot_137 rfl ?_
      refine lv_bipush (v := (9 : Int32)) S.1 S.2.1 dX9_keepsSlot_138 (by decide) ?_
      refine lv_aload_n S.1 S.2.1 dX9_keepsSlot_140 rfl (lv_at hl 1 rfl) ?_
      refine s_get S hX G (i := 161) (kd := 9) (a := (I 161)) (v := .ref (E.2.2.2 162)) (C := RX9) (T := TX9) (N := 13) 0 (rfl : sh 161 = 9) (up_ne (by decide)) rfl rfl (by decide) rfl (fun _ h => (List.mem_cons_of_mem _ (List.mem_append_right _ h))) (by decide) (List.mem_of_getElem? (i := 1) rfl) (fun _ h => h) dX9_keepsSlot_141 ?_
      refine lv_iconst (v := (2 : Int32)) S.1 S.2.1 dX9_keepsSlot_144 (by decide) ?_
      refine s_callS (As := [.int (2 : Int32)]) (rest := [.ref (E.2.2.2 162), .int (9 : Int32), .int (((shs dk 4) 9) + ((3 : Int32) * ((shs dk 4) 17))), .int (113 : Int32), .ref (E.2.2.2 162)]) S hX G (k_X9_legAt_2 l E) (va_cwS (bytes := cX9_legAt) (maxL := 1) (ret := (some .int)) 1 S.2.2.2.2 gX9_keepsSlot_X9_legAt rfl rfl rfl (by decide +kernel) ⟨Nat.le_of_ble_eq_true rfl, Nat.le_of_ble_eq_true rfl⟩) rfl hl.1 rfl (Nat.le_of_ble_eq_true rfl) ⟨Nat.zero_le _, Nat.zero_le _⟩ dX9_keepsSlot_145 (fun v I1 L1 H locs hR G => ?_)
      obtain ⟨hv, hI, hL⟩ := hR
      subst hv
      have G : GS E (up I 162 (upd (upd (upd (shs dk 4) 110 y_5) 111 y_6) 112 y_7)) L sg H locs := G.same hI hL
      refine W.eq (g2 := F0 mg 148 ls [.int (24 : Int32), .ref (E.2.2.2 162), .int (9 : Int32), .int (((shs dk 4) 9) + ((3 : Int32) * ((shs dk 4) 17))), .int (113 : Int32), .ref (E.2.2.2 162)]) rfl ?_
      refine lv_iconst (v := (1 : Int32)) S.1 S.2.1 dX9_keepsSlot_148 (by decide) ?_
      refine s_iadd (v := (25 : Int32)) S dX9_keepsSlot_149 (by decide) ?_
      refine s_iald S hX G (i := 162) (kd := 284) (n := 270) (a := (upd (upd (upd (shs dk 4) 110 y_5) 111 y_6) 112 y_7)) (x := ((shs dk 4) 25)) (rfl : sh 162 = 284) up_eq rfl (by decide) (by unfold vp_in; decide) (show (upd (upd (upd (shs dk 4) 110 y_5) 111 y_6) 112 y_7) (Int32.toNatClampNeg (25 : Int32)) = ((shs dk 4) 25) from congrArg (upd (upd (upd (shs dk 4) 110 y_5) 111 y_6) 112 y_7) (show Int32.toNatClampNeg (25 : Int32) = 25 from (by decide))) dX9_keepsSlot_150 ?_
      refine s_imul (v := ((9 : Int32) * ((shs dk 4) 25))) S dX9_keepsSlot_151 rfl ?_
      refine s_iadd (v := ((((shs dk 4) 9) + ((3 : Int32) * ((shs dk 4) 17))) + ((9 : Int32) * ((shs dk 4) 25)))) S dX9_keepsSlot_152 rfl ?_
      refine lv_bipush (v := (27 : Int32)) S.1 S.2.1 dX9_keepsSlot_153 (by decide) ?_
      refine lv_aload_n S.1 S.2.1 dX9_keepsSlot_155 rfl (lv_at hl 1 rfl) ?_
      refine s_get S hX G (i := 161) (kd := 9) (a := (I 161)) (v := .ref (E.2.2.2 162)) (C := RX9) (T := TX9) (N := 13) 0 (rfl : sh 161 = 9) (up_ne (by decide)) rfl rfl (by decide) rfl (fun _ h => (List.mem_cons_of_mem _ (List.mem_append_right _ h))) (by decide) (List.mem_of_getElem? (i := 1) rfl) (fun _ h => h) dX9_keepsSlot_156 ?_
      refine lv_iconst (v := (3 : Int32)) S.1 S.2.1 dX9_keepsSlot_159 (by decide) ?_
      refine s_callS (As := [.int (3 : Int32)]) (rest := [.ref (E.2.2.2 162), .int (27 : Int32), .int ((((shs dk 4) 9) + ((3 : Int32) * ((shs dk 4) 17))) + ((9 : Int32) * ((shs dk 4) 25))), .int (113 : Int32), .ref (E.2.2.2 162)]) S hX G (k_X9_legAt_3 l E) (va_cwS (bytes := cX9_legAt) (maxL := 1) (ret := (some .int)) 1 S.2.2.2.2 gX9_keepsSlot_X9_legAt rfl rfl rfl (by decide +kernel) ⟨Nat.le_of_ble_eq_true rfl, Nat.le_of_ble_eq_true rfl⟩) rfl hl.1 rfl (Nat.le_of_ble_eq_true rfl) ⟨Nat.zero_le _, Nat.zero_le _⟩ dX9_keepsSlot_160 (fun v I1 L1 H locs hR G => ?_)
      obtain ⟨hv, hI, hL⟩ := hR
      subst hv
      have G : GS E (up I 162 (upd (upd (upd (shs dk 4) 110 y_5) 111 y_6) 112 y_7)) L sg H locs := G.same hI hL
      refine W.eq (g2 := F0 mg 163 ls [.int (32 : Int32), .ref (E.2.2.2 162), .int (27 : Int32), .int ((((shs dk 4) 9) + ((3 : Int32) * ((shs dk 4) 17))) + ((9 : Int32) * ((shs dk 4) 25))), .int (113 : Int32), .ref (E.2.2.2 162)]) rfl ?_
      refine lv_iconst (v := (1 : Int32)) S.1 S.2.1 dX9_keepsSlot_163 (by decide) ?_
      refine s_iadd (v := (33 : Int32)) S dX9_keepsSlot_164 (by decide) ?_
      refine s_iald S hX G (i := 162) (kd := 284) (n := 270) (a := (upd (upd (upd (shs dk 4) 110 y_5) 111 y_6) 112 y_7)) (x := ((shs dk 4) 33)) (rfl : sh 162 = 284) up_eq rfl (by decide) (by unfold vp_in; decide) (show (upd (upd (upd (shs dk 4) 110 y_5) 111 y_6) 112 y_7) (Int32.toNatClampNeg (33 : Int32)) = ((shs dk 4) 33) from congrArg (upd (upd (upd (shs dk 4) 110 y_5) 111 y_6) 112 y_7) (show Int32.toNatClampNeg (33 : Int32) = 33 from (by decide))) dX9_keepsSlot_165 ?_
      refine s_imul (v := ((27 : Int32) * ((shs dk 4) 33))) S dX9_keepsSlot_166 rfl ?_
      refine s_iadd (v := (((((shs dk 4) 9) + ((3 : Int32) * ((shs dk 4) 17))) + ((9 : Int32) * ((shs dk 4) 25))) + ((27 : Int32) * ((shs dk 4) 33)))) S dX9_keepsSlot_167 rfl ?_
      refine lv_topi (fun y_8 ey_8 => ?_)
      refine s_iast S hX G (i := 162) (kd := 284) (n := 270) (jn := 113) (a := (upd (upd (upd (shs dk 4) 110 y_5) 111 y_6) 112 y_7)) (I' := (up I 162 (upd (upd (upd (upd (shs dk 4) 110 y_5) 111 y_6) 112 y_7) 113 y_8))) (rfl : sh 162 = 284) up_eq (fun _ => rfl) (by decide) (by unfold vp_in; decide) (by decide) (by rw [up_up]) dX9_keepsSlot_168 (fun H locs G => ?_)
      refine lv_aload_n S.1 S.2.1 dX9_keepsSlot_169 rfl (lv_at hl 1 rfl) ?_
      refine s_get S hX G (i := 161) (kd := 9) (a := (I 161)) (v := .ref (E.2.2.2 162)) (C := RX9) (T := TX9) (N := 13) 0 (rfl : sh 161 = 9) (up_ne (by decide)) rfl rfl (by decide) rfl (fun _ h => (List.mem_cons_of_mem _ (List.mem_append_right _ h))) (by decide) (List.mem_of_getElem? (i := 1) rfl) (fun _ h => h) dX9_keepsSlot_170 ?_
      refine lv_bipush (v := (114 : Int32)) S.1 S.2.1 dX9_keepsSlot_173 (by decide) ?_
      refine lv_aload_n S.1 S.2.1 dX9_keepsSlot_175 rfl (lv_at hl 1 rfl) ?_
      refine s_get S hX G (i := 161) (kd := 9) (a := (I 161)) (v := .ref (E.2.2.2 162)) (C := RX9) (T := TX9) (N := 13) 0 (rfl : sh 161 = 9) (up_ne (by decide)) rfl rfl (by decide) rfl (fun _ h => (List.mem_cons_of_mem _ (List.mem_append_right _ h))) (by decide) (List.mem_of_getElem? (i := 1) rfl) (fun _ h => h) dX9_keepsSlot_176 ?_
      refine lv_iconst (v := (0 : Int32)) S.1 S.2.1 dX9_keepsSlot_179 (by decide) ?_
      refine s_callS (As := [.int (0 : Int32)]) (rest := [.ref (E.2.2.2 162), .int (114 : Int32), .ref (E.2.2.2 162)]) S hX G (k_X9_loadAt_0 l E) (va_cwS (bytes := cX9_loadAt) (maxL := 1) (ret := (some .int)) 1 S.2.2.2.2 gX9_keepsSlot_X9_loadAt rfl rfl rfl (by decide +kernel) ⟨Nat.le_of_ble_eq_true rfl, Nat.le_of_ble_eq_true rfl⟩) rfl hl.1 rfl (Nat.le_of_ble_eq_true rfl) ⟨Nat.zero_le _, Nat.zero_le _⟩ dX9_keepsSlot_180 (fun v I1 L1 H locs hR G => ?_)
      obtain ⟨hv, hI, hL⟩ := hR
      subst hv
      have G : GS E (up I 162 (upd (upd (upd (upd (shs dk 4) 110 y_5) 111 y_6) 112 y_7) 113 y_8)) L sg H locs := G.same hI hL
      refine W.eq (g2 := F0 mg 183 ls [.int (40 : Int32), .ref (E.2.2.2 162), .int (114 : Int32), .ref (E.2.2.2 162)]) rfl ?_
      refine lv_bipush (v := (7 : Int32)) S.1 S.2.1 dX9_keepsSlot_183 (by decide) ?_
      refine s_iadd (v := (47 : Int32)) S dX9_keepsSlot_185 (by decide) ?_
      refine s_iald S hX G (i := 162) (kd := 284) (n := 270) (a := (upd (upd (upd (upd (shs dk 4) 110 y_5) 111 y_6) 112 y_7) 113 y_8)) (x := ((shs dk 4) 47)) (rfl : sh 162 = 284) up_eq rfl (by decide) (by unfold vp_in; decide) (show (upd (upd (upd (upd (shs dk 4) 110 y_5) 111 y_6) 112 y_7) 113 y_8) (Int32.toNatClampNeg (47 : Int32)) = ((shs dk 4) 47) from congrArg (upd (upd (upd (upd (shs dk 4) 110 y_5) 111 y_6) 112 y_7) 113 y_8) (show Int32.toNatClampNeg (47 : Int32) = 47 from (by decide))) dX9_keepsSlot_186 ?_
      refine lv_iconst (v := (2 : Int32)) S.1 S.2.1 dX9_keepsSlot_187 (by decide) ?_
      refine lv_aload_n S.1 S.2.1 dX9_keepsSlot_188 rfl (lv_at hl 1 rfl) ?_
      refine s_get S hX G (i := 161) (kd := 9) (a := (I 161)) (v := .ref (E.2.2.2 162)) (C := RX9) (T := TX9) (N := 13) 0 (rfl : sh 161 = 9) (up_ne (by decide)) rfl rfl (by decide) rfl (fun _ h => (List.mem_cons_of_mem _ (List.mem_append_right _ h))) (by decide) (List.mem_of_getElem? (i := 1) rfl) (fun _ h => h) dX9_keepsSlot_189 ?_
      refine lv_iconst (v := (1 : Int32)) S.1 S.2.1 dX9_keepsSlot_192 (by decide) ?_
      refine s_callS (As := [.int (1 : Int32)]) (rest := [.ref (E.2.2.2 162), .int (2 : Int32), .int ((shs dk 4) 47), .int (114 : Int32), .ref (E.2.2.2 162)]) S hX G (k_X9_loadAt_1 l E) (va_cwS (bytes := cX9_loadAt) (maxL := 1) (ret := (some .int)) 1 S.2.2.2.2 gX9_keepsSlot_X9_loadAt rfl rfl rfl (by decide +kernel) ⟨Nat.le_of_ble_eq_true rfl, Nat.le_of_ble_eq_true rfl⟩) rfl hl.1 rfl (Nat.le_of_ble_eq_true rfl) ⟨Nat.zero_le _, Nat.zero_le _⟩ dX9_keepsSlot_193 (fun v I1 L1 H locs hR G => ?_)
      obtain ⟨hv, hI, hL⟩ := hR
      subst hv
      have G : GS E (up I 162 (upd (upd (upd (upd (shs dk 4) 110 y_5) 111 y_6) 112 y_7) 113 y_8)) L sg H locs := G.same hI hL
      refine W.eq (g2 := F0 mg 196 ls [.int (70 : Int32), .ref (E.2.2.2 162), .int (2 : Int32), .int ((shs dk 4) 47), .int (114 : Int32), .ref (E.2.2.2 162)]) rfl ?_
      refine lv_bipush (v := (7 : Int32)) S.1 S.2.1 dX9_keepsSlot_196 (by decide) ?_
      refine s_iadd (v := (77 : Int32)) S dX9_keepsSlot_198 (by decide) ?_
      refine s_iald S hX G (i := 162) (kd := 284) (n := 270) (a := (upd (upd (upd (upd (shs dk 4) 110 y_5) 111 y_6) 112 y_7) 113 y_8)) (x := ((shs dk 4) 77)) (rfl : sh 162 = 284) up_eq rfl (by decide) (by unfold vp_in; decide) (show (upd (upd (upd (upd (shs dk 4) 110 y_5) 111 y_6) 112 y_7) 113 y_8) (Int32.toNatClampNeg (77 : Int32)) = ((shs dk 4) 77) from congrArg (upd (upd (upd (upd (shs dk 4) 110 y_5) 111 y_6) 112 y_7) 113 y_8) (show Int32.toNatClampNeg (77 : Int32) = 77 from (by decide))) dX9_keepsSlot_199 ?_
      refine s_imul (v := ((2 : Int32) * ((shs dk 4) 77))) S dX9_keepsSlot_200 rfl ?_
      refine s_iadd (v := (((shs dk 4) 47) + ((2 : Int32) * ((shs dk 4) 77)))) S dX9_keepsSlot_201 rfl ?_
      refine lv_topi (fun y_9 ey_9 => ?_)
      refine s_iast S hX G (i := 162) (kd := 284) (n := 270) (jn := 114) (a := (upd (upd (upd (upd (shs dk 4) 110 y_5) 111 y_6) 112 y_7) 113 y_8)) (I' := (up I 162 (upd (upd (upd (upd (upd (shs dk 4) 110 y_5) 111 y_6) 112 y_7) 113 y_8) 114 y_9))) (rfl : sh 162 = 284) up_eq (fun _ => rfl) (by decide) (by unfold vp_in; decide) (by decide) (by rw [up_up]) dX9_keepsSlot_202 (fun H locs G => ?_)
      refine s_vret S G hr hlk dX9_keepsSlot_203 ?_
      exact ⟨rfl, (st_eq1 (Eq.trans up_eq (show (upd (upd (upd (upd (upd (shs dk 4) 110 y_5) 111 y_6) 112 y_7) 113 y_8) 114 y_9) = (kpF d) by subst ey_9 ey_8 ey_7 ey_6 ey_5 edk; rfl)) (fun _ g0 => (up_ne g0))), rfl⟩
    · have hl : lv_has ls 2 [(1, .int (nI (q + 5))), (0, .ref (E.2.2.2 161))] := hl
      have G : GS E (up I 162 (shs dk (q + 5))) L sg H locs := G
      refine lv_iload_n S.1 S.2.1 dX9_keepsSlot_27 rfl (lv_at hl 0 rfl) ?_
      refine lv_iconst (v := (5 : Int32)) S.1 S.2.1 dX9_keepsSlot_28 (by decide) ?_
      refine lv_icmp_lt (tgt := 58) S.1 S.2.1 dX9_keepsSlot_29 (by decide) (fun h => absurd h (nI_nlt (a := q + 5) (b := 5) (by omega) (by omega))) (fun _ => ?_)
      refine lv_aload_n S.1 S.2.1 dX9_keepsSlot_32 rfl (lv_at hl 1 rfl) ?_
      refine s_get S hX G (i := 161) (kd := 9) (a := (I 161)) (v := .ref (E.2.2.2 162)) (C := RX9) (T := TX9) (N := 13) 0 (rfl : sh 161 = 9) (up_ne (by decide)) rfl rfl (by decide) rfl (fun _ h => (List.mem_cons_of_mem _ (List.mem_append_right _ h))) (by decide) (List.mem_of_getElem? (i := 1) rfl) (fun _ h => h) dX9_keepsSlot_33 ?_
      refine lv_bipush (v := (110 : Int32)) S.1 S.2.1 dX9_keepsSlot_36 (by decide) ?_
      refine lv_iload_n S.1 S.2.1 dX9_keepsSlot_38 rfl (lv_at hl 0 rfl) ?_
      refine s_iadd (v := (nI (110 + (q + 5)))) S dX9_keepsSlot_39 (nI_add 110 (q + 5)) ?_
      refine lv_aload_n S.1 S.2.1 dX9_keepsSlot_40 rfl (lv_at hl 1 rfl) ?_
      refine s_get S hX G (i := 161) (kd := 9) (a := (I 161)) (v := .ref (E.2.2.2 162)) (C := RX9) (T := TX9) (N := 13) 0 (rfl : sh 161 = 9) (up_ne (by decide)) rfl rfl (by decide) rfl (fun _ h => (List.mem_cons_of_mem _ (List.mem_append_right _ h))) (by decide) (List.mem_of_getElem? (i := 1) rfl) (fun _ h => h) dX9_keepsSlot_41 ?_
      refine lv_bipush (v := (110 : Int32)) S.1 S.2.1 dX9_keepsSlot_44 (by decide) ?_
      refine lv_iload_n S.1 S.2.1 dX9_keepsSlot_46 rfl (lv_at hl 0 rfl) ?_
      refine s_iadd (v := (nI (110 + (q + 5)))) S dX9_keepsSlot_47 (nI_add 110 (q + 5)) ?_
      refine lv_iconst (v := (5 : Int32)) S.1 S.2.1 dX9_keepsSlot_48 (by decide) ?_
      refine s_isub (v := (nI (105 + (q + 5)))) S dX9_keepsSlot_49 (by rw [show 105 + (q + 5) = 110 + (q + 5) - 5 by omega]; exact pk_sub (a := 110 + (q + 5)) (b := 5) (by omega)) ?_
      refine s_iald S hX G (i := 162) (kd := 284) (n := 270) (a := (shs dk (q + 5))) (x := ((shs dk (q + 5)) (105 + (q + 5)))) (rfl : sh 162 = 284) up_eq rfl (by decide) (vp_in_nI (by omega) (by decide)) (congrArg (shs dk (q + 5)) (nI_clamp (by omega))) dX9_keepsSlot_50 ?_
      refine lv_topi (fun y_10 ey_10 => ?_)
      refine s_iast S hX G (i := 162) (kd := 284) (n := 270) (jn := (110 + (q + 5))) (a := (shs dk (q + 5))) (I' := (up I 162 (upd (shs dk (q + 5)) (110 + (q + 5)) y_10))) (rfl : sh 162 = 284) up_eq (fun _ => rfl) (by decide) (vp_in_nI (by omega) (by decide)) (nI_clamp (by omega)) (by rw [up_up]) dX9_keepsSlot_51 (fun H locs G => ?_)
      refine lv_iinc (v := (nI (q + 4))) (lv' := [(1, .int (nI (q + 4))), (0, .ref (E.2.2.2 161))]) S.1 S.2.1 dX9_keepsSlot_52 hl (k := 0) rfl (pk_m1 (q + 4)) (by decide) rfl (fun ls hl => ?_)
      refine lv_goto (tgt := 27) S.1 S.2.1 dX9_keepsSlot_55 (by decide) ?_
      exact ih_4 _ (show q < nn by omega) q _ _ _ _ _ ⟨rfl, (by omega), (by subst ey_10; exact congrArg (up I 162) (shs_s dk q (by omega))), rfl⟩ G (lv_sub hl [0, 1] rfl)
