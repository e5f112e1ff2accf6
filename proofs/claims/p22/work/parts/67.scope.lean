theorem my_xor (a b : Nat) : nI a ^^^ nI b = nI (a ^^^ b) := by
  apply Int32.toBitVec_inj.1
  show BitVec.ofNat 32 a ^^^ BitVec.ofNat 32 b = BitVec.ofNat 32 (a ^^^ b)
  apply BitVec.eq_of_getLsbD_eq
  intro i hi
  simp [hi]
theorem xor32 {k : Nat} (hk : k < 2 ^ 31) : 0 ≤ nI k ^^^ (32 : Int32) := by
  rw [show (32 : Int32) = nI 32 from rfl, my_xor]
  exact nI_pos' (Nat.xor_lt_two_pow hk (by decide))
set_option maxHeartbeats 4000000 in
set_option maxRecDepth 100000 in
theorem k_J9_floorMod_7cf53 (l : Launch) (E : Ev) {I : SI} {L : SL} (k : Nat) (hk : k < 2 ^ 31) : CS l yJ9_floorMod_7cf53 wsJ9_floorMod_7cf53 ({ frames := 0, cells := 0, slots := 0, locals := 0 }) E [.int (nI k), .int (32 : Int32)] I L (fun vv I' L' => vv = some (.int (nI (k % 32))) ∧ I' = I ∧ L' = L) := by
  refine CS.ofF (cc := cJ9_floorMod_7cf53) (maxL := 3) (ret := (some .int)) (by decide +kernel) rfl (Nat.le_of_ble_eq_true rfl) ?_
  intro pg en sg mg below meth cg ls S hr hlk hX G hl
  have S : CallFix pg mg cg cJ9_floorMod_7cf53 3 sg _ wsJ9_floorMod_7cf53 RJ9 := S
  have hl : lv_has ls 3 [(0, .int (nI k)), (1, .int (32 : Int32))] := hl
  refine lv_iload_n S.1 S.2.1 dJ9_floorMod_7cf53_0 rfl (lv_at hl 0 rfl) ?_
  refine lv_iload_n S.1 S.2.1 dJ9_floorMod_7cf53_1 rfl (lv_at hl 1 rfl) ?_
  refine s_irem (v := (nI (k % 32))) S dJ9_floorMod_7cf53_2 (by decide) (pk_rem (d := 32) hk (by decide) (by decide)) ?_
  refine lv_istore_n (lv' := [(2, .int (nI (k % 32))), (0, .int (nI k)), (1, .int (32 : Int32))]) S.1 S.2.1 dJ9_floorMod_7cf53_3 rfl hl (by decide) rfl (fun ls hl => ?_)
  refine lv_iload_n S.1 S.2.1 dJ9_floorMod_7cf53_4 rfl (lv_at hl 1 rfl) ?_
  refine lv_iload_n S.1 S.2.1 dJ9_floorMod_7cf53_5 rfl (lv_at hl 2 rfl) ?_
  refine lv_ixor S.1 S.2.1 dJ9_floorMod_7cf53_6 ?_
  refine lv_if_ge (tgt := 18) S.1 S.2.1 dJ9_floorMod_7cf53_7 (by decide) (fun _ => ?_) (fun h => absurd (xor32 hk) h)
  refine lv_iload_n S.1 S.2.1 dJ9_floorMod_7cf53_18 rfl (lv_at hl 0 rfl) ?_
  refine s_iret (x := (nI (k % 32))) S G hr hlk dJ9_floorMod_7cf53_19 ?_
  exact ⟨rfl, rfl, rfl⟩
set_option maxHeartbeats 4000000 in
set_option maxRecDepth 100000 in
theorem k_X6_keep (l : Launch) (E : Ev) {I : SI} {L : SL} (i : Nat) (k : Nat) (P : Nat) (Q : Nat) (a1 : Nat → Int32) (a2 : Nat → Int32) (a3 : Nat → Int32) (a4 : Nat → Int32) (x : Nat → Int32) (x1 : Nat → Int32) (x2 : Nat → Int32) (y : Nat → Int32) (y1 : Nat → Int32) (y2 : Nat → Int32) (hi : sh (i) = 6) (hi_1 : sh (i+1) = 46) (hi_2 : sh (i+2) = 46) (hi_3 : sh (i+3) = 46) (hi_4 : sh (i+4) = 46) (hP : IsLd P) (hQ : IsLd Q) (e_a1 : I (i+1) = a1) (e_a2 : I (i+2) = a2) (e_a3 : I (i+3) = a3) (e_a4 : I (i+4) = a4) (e_x : I (P) = x) (e_x1 : I (P+1) = x1) (e_x2 : I (P+2) = x2) (e_y : I (Q) = y) (e_y1 : I (Q+1) = y1) (e_y2 : I (Q+2) = y2) (hk : k < 2 ^ 31) (gx : isb (x 7)) (gy : isb (y 7)) (dP : P + 8 < i ∨ i + 4 < P) (dQ : Q + 8 < i ∨ i + 4 < Q) : CS l yX6_keep wsX6_keep ({ frames := 1, cells := 0, slots := 0, locals := 22 }) E [.ref (E.2.2.2 i), .int (nI k), .ref (E.2.2.2 P), .ref (E.2.2.2 Q)] I L (fun vv I' L' => vv = none ∧ I' = (up (up (up (up I (i+1) (upd a1 (k % 32) (x 4))) (i+2) (upd a2 (k % 32) (y 4))) (i+3) (upd a3 (k % 32) (x1 1 + 3 * x2 1 + 9 * y1 1 + 27 * y2 1))) (i+4) (upd a4 (k % 32) (x 7 + 2 * y 7))) ∧ L' = L) := by
  refine CS.of (cc := cX6_keep) (maxL := 5) (ret := none) (by decide) rfl (Nat.le_of_ble_eq_true rfl) ?_
  intro pg en sg mg below meth cg ls S hr hlk hX G hl
  have S : CallFix pg mg cg cX6_keep 5 sg _ wsX6_keep RX6 := S
  have hl : lv_has ls 5 [(0, .ref (E.2.2.2 i)), (1, .int (nI k)), (2, .ref (E.2.2.2 P)), (3, .ref (E.2.2.2 Q))] := hl
  refine lv_iload_n S.1 S.2.1 dX6_keep_0 rfl (lv_at hl 1 rfl) ?_
  refine lv_bipush (v := (32 : Int32)) S.1 S.2.1 dX6_keep_1 (by decide) ?_
  refine s_callS (As := [.int (nI k), .int (32 : Int32)]) (rest := []) S hX G (k_J9_floorMod_7cf53 l E k (by first | assumption | decide | omega)) (va_cwS (bytes := cJ9_floorMod_7cf53) (maxL := 3) (ret := (some .int)) 2 S.2.2.2.2 gX6_keep_J9_floorMod_7cf53 rfl rfl rfl (by decide +kernel) ⟨Nat.le_of_ble_eq_true rfl, Nat.le_of_ble_eq_true rfl⟩) rfl hl.1 rfl (Nat.le_of_ble_eq_true rfl) ⟨Nat.zero_le _, Nat.zero_le _⟩ dX6_keep_3 (fun v I1 L1 H locs hR G => ?_)
  obtain ⟨hv, hI, hL⟩ := hR
  subst hv
  have G : GS E I L sg H locs := G.same hI hL
  refine W.eq (g2 := F0 mg 6 ls [.int (nI (k % 32))]) rfl ?_
  refine lv_istore (lv' := [(4, .int (nI (k % 32))), (0, .ref (E.2.2.2 i)), (1, .int (nI k)), (2, .ref (E.2.2.2 P)), (3, .ref (E.2.2.2 Q))]) S.1 S.2.1 dX6_keep_6 hl (by decide) rfl (fun ls hl => ?_)
  refine lv_aload_n S.1 S.2.1 dX6_keep_8 rfl (lv_at hl 1 rfl) ?_
  refine s_get S hX G (i := i) (kd := 6) (a := (I i)) (v := .ref (E.2.2.2 (i + 1))) (C := RX6) (T := TX6) (N := 4) 0 hi rfl rfl rfl (by decide) rfl (fun _ h => (List.mem_cons_of_mem _ (List.mem_append_left _ (List.mem_append_left _ (List.mem_append_right _ h))))) (by decide) (List.mem_of_getElem? (i := 1) rfl) (fun _ h => h) dX6_keep_9 ?_
  refine lv_iload S.1 S.2.1 dX6_keep_12 (lv_at hl 0 rfl) ?_
  refine lv_aload_n S.1 S.2.1 dX6_keep_14 rfl (lv_at hl 3 rfl) ?_
  refine s_getN S hX G (i := P) (kd := 5) (a := x) (v := .int (x 4)) (C := RX5) (T := TX5) (N := 13) 4 (hP 0 (by decide)) e_x rfl rfl (by decide) rfl (fun _ h => (List.mem_cons_of_mem _ (List.mem_append_left _ (List.mem_append_right _ h)))) (by decide) (List.mem_of_getElem? (i := 20) rfl) (fun _ h => h) dX6_keep_15 ?_
  refine s_iast S hX G (i := (i + 1)) (kd := 46) (n := 32) (jn := (k % 32)) (a := a1) (I' := (up I (i + 1) (upd a1 (k % 32) (x 4)))) hi_1 e_a1 (fun _ => rfl) (by decide) (vp_in_nI (Nat.mod_lt _ (by decide)) (by decide)) (nI_clamp (by omega)) rfl dX6_keep_18 (fun H locs G => ?_)
  refine lv_aload_n S.1 S.2.1 dX6_keep_19 rfl (lv_at hl 1 rfl) ?_
  refine s_get S hX G (i := i) (kd := 6) (a := (I i)) (v := .ref (E.2.2.2 (i + 2))) (C := RX6) (T := TX6) (N := 4) 1 hi (up_ne (by omega)) rfl rfl (by decide) rfl (fun _ h => (List.mem_cons_of_mem _ (List.mem_append_left _ (List.mem_append_left _ (List.mem_append_right _ h))))) (by decide) (List.mem_of_getElem? (i := 2) rfl) (fun _ h => h) dX6_keep_20 ?_
  refine lv_iload S.1 S.2.1 dX6_keep_23 (lv_at hl 0 rfl) ?_
  refine lv_aload_n S.1 S.2.1 dX6_keep_25 rfl (lv_at hl 4 rfl) ?_
  refine s_getN S hX G (i := Q) (kd := 5) (a := y) (v := .int (y 4)) (C := RX5) (T := TX5) (N := 13) 4 (hQ 0 (by decide)) ((up_ne (by omega)).trans e_y) rfl rfl (by decide) rfl (fun _ h => (List.mem_cons_of_mem _ (List.mem_append_left _ (List.mem_append_right _ h)))) (by decide) (List.mem_of_getElem? (i := 20) rfl) (fun _ h => h) dX6_keep_26 ?_
  refine s_iast S hX G (i := (i + 2)) (kd := 46) (n := 32) (jn := (k % 32)) (a := a2) (I' := (up (up I (i + 1) (upd a1 (k % 32) (x 4))) (i + 2) (upd a2 (k % 32) (y 4)))) hi_2 ((up_ne (by omega)).trans e_a2) (fun _ => rfl) (by decide) (vp_in_nI (Nat.mod_lt _ (by decide)) (by decide)) (nI_clamp (by omega)) rfl dX6_keep_29 (fun H locs G => ?_)
  refine lv_aload_n S.1 S.2.1 dX6_keep_30 rfl (lv_at hl 1 rfl) ?_
  refine s_get S hX G (i := i) (kd := 6) (a := (I i)) (v := .ref (E.2.2.2 (i + 3))) (C := RX6) (T := TX6) (N := 4) 2 hi ((up_ne (by omega)).trans (up_ne (by omega))) rfl rfl (by decide) rfl (fun _ h => (List.mem_cons_of_mem _ (List.mem_append_left _ (List.mem_append_left _ (List.mem_append_right _ h))))) (by decide) (List.mem_of_getElem? (i := 3) rfl) (fun _ h => h) dX6_keep_31 ?_
  refine lv_iload S.1 S.2.1 dX6_keep_34 (lv_at hl 0 rfl) ?_
  refine lv_aload_n S.1 S.2.1 dX6_keep_36 rfl (lv_at hl 3 rfl) ?_
  refine s_getN S hX G (i := P) (kd := 5) (a := x) (v := .ref (E.2.2.2 (P + 1))) (C := RX5) (T := TX5) (N := 13) 0 (hP 0 (by decide)) ((up_ne (by omega)).trans ((up_ne (by omega)).trans e_x)) rfl rfl (by decide) rfl (fun _ h => (List.mem_cons_of_mem _ (List.mem_append_left _ (List.mem_append_right _ h)))) (by decide) (List.mem_of_getElem? (i := 14) rfl) (fun _ h => h) dX6_keep_37 ?_
  refine s_getN S hX G (i := (P + 1)) (kd := 4) (a := x1) (v := .int (x1 1)) (C := RX4) (T := TX4) (N := 7) 1 (hP 1 (by decide)) ((up_ne (by omega)).trans ((up_ne (by omega)).trans e_x1)) rfl rfl (by decide) rfl (fun _ h => (List.mem_cons_of_mem _ (List.mem_append_right _ h))) (by decide) (List.mem_of_getElem? (i := 2) rfl) (fun _ h => h) dX6_keep_40 ?_
  refine lv_iconst (v := (3 : Int32)) S.1 S.2.1 dX6_keep_43 (by decide) ?_
  refine lv_aload_n S.1 S.2.1 dX6_keep_44 rfl (lv_at hl 3 rfl) ?_
  refine s_getN S hX G (i := P) (kd := 5) (a := x) (v := .ref (E.2.2.2 (P + 2))) (C := RX5) (T := TX5) (N := 13) 1 (hP 0 (by decide)) ((up_ne (by omega)).trans ((up_ne (by omega)).trans e_x)) rfl rfl (by decide) rfl (fun _ h => (List.mem_cons_of_mem _ (List.mem_append_left _ (List.mem_append_right _ h)))) (by decide) (List.mem_of_getElem? (i := 16) rfl) (fun _ h => h) dX6_keep_45 ?_
  refine s_getN S hX G (i := (P + 2)) (kd := 4) (a := x2) (v := .int (x2 1)) (C := RX4) (T := TX4) (N := 7) 1 (hP 2 (by decide)) ((up_ne (by omega)).trans ((up_ne (by omega)).trans e_x2)) rfl rfl (by decide) rfl (fun _ h => (List.mem_cons_of_mem _ (List.mem_append_right _ h))) (by decide) (List.mem_of_getElem? (i := 2) rfl) (fun _ h => h) dX6_keep_48 ?_
  refine s_imul (v := ((3 : Int32) * (x2 1))) S dX6_keep_51 rfl ?_
  refine s_iadd (v := ((x1 1) + ((3 : Int32) * (x2 1)))) S dX6_keep_52 rfl ?_
  refine lv_bipush (v := (9 : Int32)) S.1 S.2.1 dX6_keep_53 (by decide) ?_
  refine lv_aload_n S.1 S.2.1 dX6_keep_55 rfl (lv_at hl 4 rfl) ?_
  refine s_getN S hX G (i := Q) (kd := 5) (a := y) (v := .ref (E.2.2.2 (Q + 1))) (C := RX5) (T := TX5) (N := 13) 0 (hQ 0 (by decide)) ((up_ne (by omega)).trans ((up_ne (by omega)).trans e_y)) rfl rfl (by decide) rfl (fun _ h => (List.mem_cons_of_mem _ (List.mem_append_left _ (List.mem_append_right _ h)))) (by decide) (List.mem_of_getElem? (i := 14) rfl) (fun _ h => h) dX6_keep_56 ?_
  refine s_getN S hX G (i := (Q + 1)) (kd := 4) (a := y1) (v := .int (y1 1)) (C := RX4) (T := TX4) (N := 7) 1 (hQ 1 (by decide)) ((up_ne (by omega)).trans ((up_ne (by omega)).trans e_y1)) rfl rfl (by decide) rfl (fun _ h => (List.mem_cons_of_mem _ (List.mem_append_right _ h))) (by decide) (List.mem_of_getElem? (i := 2) rfl) (fun _ h => h) dX6_keep_59 ?_
  refine s_imul (v := ((9 : Int32) * (y1 1))) S dX6_keep_62 rfl ?_
  refine s_iadd (v := (((x1 1) + ((3 : Int32) * (x2 1))) + ((9 : Int32) * (y1 1)))) S dX6_keep_63 rfl ?_
  refine lv_bipush (v := (27 : Int32)) S.1 S.2.1 dX6_keep_64 (by decide) ?_
  refine lv_aload_n S.1 S.2.1 dX6_keep_66 rfl (lv_at hl 4 rfl) ?_
  refine s_getN S hX G (i := Q) (kd := 5) (a := y) (v := .ref (E.2.2.2 (Q + 2))) (C := RX5) (T := TX5) (N := 13) 1 (hQ 0 (by decide)) ((up_ne (by omega)).trans ((up_ne (by omega)).trans e_y)) rfl rfl (by decide) rfl (fun _ h => (List.mem_cons_of_mem _ (List.mem_append_left _ (List.mem_append_right _ h)))) (by decide) (List.mem_of_getElem? (i := 16) rfl) (fun _ h => h) dX6_keep_67 ?_
  refine s_getN S hX G (i := (Q + 2)) (kd := 4) (a := y2) (v := .int (y2 1)) (C := RX4) (T := TX4) (N := 7) 1 (hQ 2 (by decide)) ((up_ne (by omega)).trans ((up_ne (by omega)).trans e_y2)) rfl rfl (by decide) rfl (fun _ h => (List.mem_cons_of_mem _ (List.mem_append_right _ h))) (by decide) (List.mem_of_getElem? (i := 2) rfl) (fun _ h => h) dX6_keep_70 ?_
  refine s_imul (v := ((27 : Int32) * (y2 1))) S dX6_keep_73 rfl ?_
  refine s_iadd (v := ((((x1 1) + ((3 : Int32) * (x2 1))) + ((9 : Int32) * (y1 1))) + ((27 : Int32) * (y2 1)))) S dX6_keep_74 rfl ?_
  refine lv_topi (fun y_1 ey_1 => ?_)
  refine s_iast S hX G (i := (i + 3)) (kd := 46) (n := 32) (jn := (k % 32)) (a := a3) (I' := (up (up (up I (i + 1) (upd a1 (k % 32) (x 4))) (i + 2) (upd a2 (k % 32) (y 4))) (i + 3) (upd a3 (k % 32) y_1))) hi_3 ((up_ne (by omega)).trans ((up_ne (by omega)).trans e_a3)) (fun _ => rfl) (by decide) (vp_in_nI (Nat.mod_lt _ (by decide)) (by decide)) (nI_clamp (by omega)) rfl dX6_keep_75 (fun H locs G => ?_)
  refine lv_aload_n S.1 S.2.1 dX6_keep_76 rfl (lv_at hl 1 rfl) ?_
  refine s_get S hX G (i := i) (kd := 6) (a := (I i)) (v := .ref (E.2.2.2 (i + 4))) (C := RX6) (T := TX6) (N := 4) 3 hi ((up_ne (by omega)).trans ((up_ne (by omega)).trans (up_ne (by omega)))) rfl rfl (by decide) rfl (fun _ h => (List.mem_cons_of_mem _ (List.mem_append_left _ (List.mem_append_left _ (List.mem_append_right _ h))))) (by decide) (List.mem_of_getElem? (i := 4) rfl) (fun _ h => h) dX6_keep_77 ?_
  refine lv_iload S.1 S.2.1 dX6_keep_80 (lv_at hl 0 rfl) ?_
  refine lv_aload_n S.1 S.2.1 dX6_keep_82 rfl (lv_at hl 3 rfl) ?_
  refine s_getN S hX G (i := P) (kd := 5) (a := x) (v := .int (x 7)) (C := RX5) (T := TX5) (N := 13) 7 (hP 0 (by decide)) ((up_ne (by omega)).trans ((up_ne (by omega)).trans ((up_ne (by omega)).trans e_x))) rfl rfl (by decide) rfl (fun _ h => (List.mem_cons_of_mem _ (List.mem_append_left _ (List.mem_append_right _ h)))) (by decide) (List.mem_of_getElem? (i := 24) rfl) (fun _ h => h) dX6_keep_83 ?_
  refine s_callSN (As := [.int (x 7)]) (rest := [.int (nI (k % 32)), .ref (E.2.2.2 (i + 4))]) S hX G (k_X8_bit l E (x 7) gx) (va_cnB (bytes := cX8_bit) (maxL := 1) (ret := (some .int)) 1 S.2.2.2.2 gX6_keep_X8_bit_n58 rfl rfl rfl (hX.2.2.1.2 _ (List.mem_of_getElem? (i := 3) rfl)) (S.2.2.2.2 _ (List.mem_of_getElem? (i := 10) rfl)) (by decide +kernel) ⟨Nat.le_of_ble_eq_true rfl, Nat.le_of_ble_eq_true rfl⟩) (List.mem_of_getElem? (i := 9) rfl) rfl hl.1 rfl (Nat.le_of_ble_eq_true rfl) ⟨Nat.zero_le _, Nat.zero_le _⟩ dX6_keep_86 (fun v I1 L1 H locs hR G => ?_)
  obtain ⟨hv, hI, hL⟩ := hR
  subst hv
  have G : GS E (up (up (up I (i + 1) (upd a1 (k % 32) (x 4))) (i + 2) (upd a2 (k % 32) (y 4))) (i + 3) (upd a3 (k % 32) y_1)) L sg H locs := G.same hI hL
  refine W.eq (g2 := F0 mg 89 ls [.int (x 7), .int (nI (k % 32)), .ref (E.2.2.2 (i + 4))]) rfl ?_
  refine lv_iconst (v := (2 : Int32)) S.1 S.2.1 dX6_keep_89 (by decide) ?_
  refine lv_aload_n S.1 S.2.1 dX6_keep_90 rfl (lv_at hl 4 rfl) ?_
  refine s_getN S hX G (i := Q) (kd := 5) (a := y) (v := .int (y 7)) (C := RX5) (T := TX5) (N := 13) 7 (hQ 0 (by decide)) ((up_ne (by omega)).trans ((up_ne (by omega)).trans ((up_ne (by omega)).trans e_y))) rfl rfl (by decide) rfl (fun _ h => (List.mem_cons_of_mem _ (List.mem_append_left _ (List.mem_append_right _ h)))) (by decide) (List.mem_of_getElem? (i := 24) rfl) (fun _ h => h) dX6_keep_91 ?_
  refine s_callSN (As := [.int (y 7)]) (rest := [.int (2 : Int32), .int (x 7), .int (nI (k % 32)), .ref (E.2.2.2 (i + 4))]) S hX G (k_X8_bit l E (y 7) gy) (va_cnB (bytes := cX8_bit) (maxL := 1) (ret := (some .int)) 1 S.2.2.2.2 gX6_keep_X8_bit_n58 rfl rfl rfl (hX.2.2.1.2 _ (List.mem_of_getElem? (i := 3) rfl)) (S.2.2.2.2 _ (List.mem_of_getElem? (i := 10) rfl)) (by decide +kernel) ⟨Nat.le_of_ble_eq_true rfl, Nat.le_of_ble_eq_true rfl⟩) (List.mem_of_getElem? (i := 9) rfl) rfl hl.1 rfl (Nat.le_of_ble_eq_true rfl) ⟨Nat.zero_le _, Nat.zero_le _⟩ dX6_keep_94 (fun v I1 L1 H locs hR G => ?_)
  obtain ⟨hv, hI, hL⟩ := hR
  subst hv
  have G : GS E (up (up (up I (i + 1) (upd a1 (k % 32) (x 4))) (i + 2) (upd a2 (k % 32) (y 4))) (i + 3) (upd a3 (k % 32) y_1)) L sg H locs := G.same hI hL
  refine W.eq (g2 := F0 mg 97 ls [.int (y 7), .int (2 : Int32), .int (x 7), .int (nI (k % 32)), .ref (E.2.2.2 (i + 4))]) rfl ?_
  refine s_imul (v := ((2 : Int32) * (y 7))) S dX6_keep_97 rfl ?_
  refine s_iadd (v := ((x 7) + ((2 : Int32) * (y 7)))) S dX6_keep_98 rfl ?_
  refine lv_topi (fun y_2 ey_2 => ?_)
  refine s_iast S hX G (i := (i + 4)) (kd := 46) (n := 32) (jn := (k % 32)) (a := a4) (I' := (up (up (up (up I (i + 1) (upd a1 (k % 32) (x 4))) (i + 2) (upd a2 (k % 32) (y 4))) (i + 3) (upd a3 (k % 32) y_1)) (i + 4) (upd a4 (k % 32) y_2))) hi_4 ((up_ne (by omega)).trans ((up_ne (by omega)).trans ((up_ne (by omega)).trans e_a4))) (fun _ => rfl) (by decide) (vp_in_nI (Nat.mod_lt _ (by decide)) (by decide)) (nI_clamp (by omega)) rfl dX6_keep_99 (fun H locs G => ?_)
  refine s_vret S G hr hlk dX6_keep_100 ?_
  exact ⟨rfl, (st_eq4 ((up_ne (by omega)).trans ((up_ne (by omega)).trans ((up_ne (by omega)).trans up_eq))) ((up_ne (by omega)).trans ((up_ne (by omega)).trans up_eq)) (Eq.trans ((up_ne (by omega)).trans up_eq) (show (upd a3 (k % 32) y_1) = (upd a3 (k % 32) (x1 1 + 3 * x2 1 + 9 * y1 1 + 27 * y2 1)) by subst ey_2 ey_1; rfl)) (Eq.trans up_eq (show (upd a4 (k % 32) y_2) = (upd a4 (k % 32) (x 7 + 2 * y 7)) by subst ey_2 ey_1; rfl)) (fun _ g0 g1 g2 g3 => ((up_ne g3).trans ((up_ne g2).trans ((up_ne g1).trans (up_ne g0)))))), rfl⟩
set_option maxHeartbeats 4000000 in
set_option maxRecDepth 100000 in
theorem k_X6_value_1 (l : Launch) (E : Ev) {I : SI} {L : SL} (i : Nat) (k : Nat) (a : Nat → Int32) (hi : sh (i) = 6) (hi_1 : sh (i+1) = 46) (hi_2 : sh (i+2) = 46) (hi_3 : sh (i+3) = 46) (hi_4 : sh (i+4) = 46) (e_a : I (i+1) = a) (hk : k < 2 ^ 31) : CS l yX6_value wsX6_value ({ frames := 1, cells := 0, slots := 0, locals := 22 }) E [.ref (E.2.2.2 i), .int (nI k), .int (1 : Int32)] I L (fun vv I' L' => vv = some (.int (a (k % 32))) ∧ I' = I ∧ L' = L) := by
  refine CS.of (cc := cX6_value) (maxL := 4) (ret := (some .int)) (by decide) rfl (Nat.le_of_ble_eq_true rfl) ?_
  intro pg en sg mg below meth cg ls S hr hlk hX G hl
  have S : CallFix pg mg cg cX6_value 4 sg _ wsX6_value RX6 := S
  have hl : lv_has ls 4 [(0, .ref (E.2.2.2 i)), (1, .int (nI k)), (2, .int (1 : Int32))] := hl
  refine lv_iload_n S.1 S.2.1 dX6_value_0 rfl (lv_at hl 1 rfl) ?_
  refine lv_bipush (v := (32 : Int32)) S.1 S.2.1 dX6_value_1 (by decide) ?_
  refine s_callS (As := [.int (nI k), .int (32 : Int32)]) (rest := []) S hX G (k_J9_floorMod_7cf53 l E k (by first | assumption | decide | omega)) (va_cwS (bytes := cJ9_floorMod_7cf53) (maxL := 3) (ret := (some .int)) 2 S.2.2.2.2 gX6_value_J9_floorMod_7cf53 rfl rfl rfl (by decide +kernel) ⟨Nat.le_of_ble_eq_true rfl, Nat.le_of_ble_eq_true rfl⟩) rfl hl.1 rfl (Nat.le_of_ble_eq_true rfl) ⟨Nat.zero_le _, Nat.zero_le _⟩ dX6_value_3 (fun v I1 L1 H locs hR G => ?_)
  obtain ⟨hv, hI, hL⟩ := hR
  subst hv
  have G : GS E I L sg H locs := G.same hI hL
  refine W.eq (g2 := F0 mg 6 ls [.int (nI (k % 32))]) rfl ?_
  refine lv_istore_n (lv' := [(3, .int (nI (k % 32))), (0, .ref (E.2.2.2 i)), (1, .int (nI k)), (2, .int (1 : Int32))]) S.1 S.2.1 dX6_value_6 rfl hl (by decide) rfl (fun ls hl => ?_)
  refine lv_iload_n S.1 S.2.1 dX6_value_7 rfl (lv_at hl 3 rfl) ?_
  refine lv_tableIn (off := 28) (tgt := 36) S.1 S.2.1 dX6_value_8 (by decide) (by decide) (by decide) (by decide) ?_
  refine lv_aload_n S.1 S.2.1 dX6_value_36 rfl (lv_at hl 1 rfl) ?_
  refine s_get S hX G (i := i) (kd := 6) (a := (I i)) (v := .ref (E.2.2.2 (i + 1))) (C := RX6) (T := TX6) (N := 4) 0 hi rfl rfl rfl (by decide) rfl (fun _ h => (List.mem_cons_of_mem _ (List.mem_append_right _ h))) (by decide) (List.mem_of_getElem? (i := 1) rfl) (fun _ h => h) dX6_value_37 ?_
  refine lv_iload_n S.1 S.2.1 dX6_value_40 rfl (lv_at hl 0 rfl) ?_
  refine s_iald S hX G (i := (i + 1)) (kd := 46) (n := 32) (a := a) (x := (a (k % 32))) hi_1 e_a rfl (by decide) (vp_in_nI (Nat.mod_lt _ (by decide)) (by decide)) (congrArg a (nI_clamp (by omega))) dX6_value_41 ?_
  refine s_iret (x := (a (k % 32))) S G hr hlk dX6_value_42 ?_
  exact ⟨rfl, rfl, rfl⟩
set_option maxHeartbeats 4000000 in
set_option maxRecDepth 100000 in
theorem k_X6_value_2 (l : Launch) (E : Ev) {I : SI} {L : SL} (i : Nat) (k : Nat) (a : Nat → Int32) (hi : sh (i) = 6) (hi_1 : sh (i+1) = 46) (hi_2 : sh (i+2) = 46) (hi_3 : sh (i+3) = 46) (hi_4 : sh (i+4) = 46) (e_a : I (i+2) = a) (hk : k < 2 ^ 31) : CS l yX6_value wsX6_value ({ frames := 1, cells := 0, slots := 0, locals := 22 }) E [.ref (E.2.2.2 i), .int (nI k), .int (2 : Int32)] I L (fun vv I' L' => vv = some (.int (a (k % 32))) ∧ I' = I ∧ L' = L) := by
  refine CS.of (cc := cX6_value) (maxL := 4) (ret := (some .int)) (by decide) rfl (Nat.le_of_ble_eq_true rfl) ?_
  intro pg en sg mg below meth cg ls S hr hlk hX G hl
  have S : CallFix pg mg cg cX6_value 4 sg _ wsX6_value RX6 := S
  have hl : lv_has ls 4 [(0, .ref (E.2.2.2 i)), (1, .int (nI k)), (2, .int (2 : Int32))] := hl
  refine lv_iload_n S.1 S.2.1 dX6_value_0 rfl (lv_at hl 1 rfl) ?_
  refine lv_bipush (v := (32 : Int32)) S.1 S.2.1 dX6_value_1 (by decide) ?_
  refine s_callS (As := [.int (nI k), .int (32 : Int32)]) (rest := []) S hX G (k_J9_floorMod_7cf53 l E k (by first | assumption | decide | omega)) (va_cwS (bytes := cJ9_floorMod_7cf53) (maxL := 3) (ret := (some .int)) 2 S.2.2.2.2 gX6_value_J9_floorMod_7cf53 rfl rfl rfl (by decide +kernel) ⟨Nat.le_of_ble_eq_true rfl, Nat.le_of_ble_eq_true rfl⟩) rfl hl.1 rfl (Nat.le_of_ble_eq_true rfl) ⟨Nat.zero_le _, Nat.zero_le _⟩ dX6_value_3 (fun v I1 L1 H locs hR G => ?_)
  obtain ⟨hv, hI, hL⟩ := hR
  subst hv
  have G : GS E I L sg H locs := G.same hI hL
  refine W.eq (g2 := F0 mg 6 ls [.int (nI (k % 32))]) rfl ?_
  refine lv_istore_n (lv' := [(3, .int (nI (k % 32))), (0, .ref (E.2.2.2 i)), (1, .int (nI k)), (2, .int (2 : Int32))]) S.1 S.2.1 dX6_value_6 rfl hl (by decide) rfl (fun ls hl => ?_)
  refine lv_iload_n S.1 S.2.1 dX6_value_7 rfl (lv_at hl 3 rfl) ?_
  refine lv_tableIn (off := 35) (tgt := 43) S.1 S.2.1 dX6_value_8 (by decide) (by decide) (by decide) (by decide) ?_
  refine lv_aload_n S.1 S.2.1 dX6_value_43 rfl (lv_at hl 1 rfl) ?_
  refine s_get S hX G (i := i) (kd := 6) (a := (I i)) (v := .ref (E.2.2.2 (i + 2))) (C := RX6) (T := TX6) (N := 4) 1 hi rfl rfl rfl (by decide) rfl (fun _ h => (List.mem_cons_of_mem _ (List.mem_append_right _ h))) (by decide) (List.mem_of_getElem? (i := 2) rfl) (fun _ h => h) dX6_value_44 ?_
  refine lv_iload_n S.1 S.2.1 dX6_value_47 rfl (lv_at hl 0 rfl) ?_
  refine s_iald S hX G (i := (i + 2)) (kd := 46) (n := 32) (a := a) (x := (a (k % 32))) hi_2 e_a rfl (by decide) (vp_in_nI (Nat.mod_lt _ (by decide)) (by decide)) (congrArg a (nI_clamp (by omega))) dX6_value_48 ?_
  refine s_iret (x := (a (k % 32))) S G hr hlk dX6_value_49 ?_
  exact ⟨rfl, rfl, rfl⟩
set_option maxHeartbeats 4000000 in
set_option maxRecDepth 100000 in
theorem k_X6_value_3 (l : Launch) (E : Ev) {I : SI} {L : SL} (i : Nat) (k : Nat) (a : Nat → Int32) (hi : sh (i) = 6) (hi_1 : sh (i+1) = 46) (hi_2 : sh (i+2) = 46) (hi_3 : sh (i+3) = 46) (hi_4 : sh (i+4) = 46) (e_a : I (i+3) = a) (hk : k < 2 ^ 31) : CS l yX6_value wsX6_value ({ frames := 1, cells := 0, slots := 0, locals := 22 }) E [.ref (E.2.2.2 i), .int (nI k), .int (3 : Int32)] I L (fun vv I' L' => vv = some (.int (a (k % 32))) ∧ I' = I ∧ L' = L) := by
  refine CS.of (cc := cX6_value) (maxL := 4) (ret := (some .int)) (by decide) rfl (Nat.le_of_ble_eq_true rfl) ?_
  intro pg en sg mg below meth cg ls S hr hlk hX G hl
  have S : CallFix pg mg cg cX6_value 4 sg _ wsX6_value RX6 := S
  have hl : lv_has ls 4 [(0, .ref (E.2.2.2 i)), (1, .int (nI k)), (2, .int (3 : Int32))] := hl
  refine lv_iload_n S.1 S.2.1 dX6_value_0 rfl (lv_at hl 1 rfl) ?_
  refine lv_bipush (v := (32 : Int32)) S.1 S.2.1 dX6_value_1 (by decide) ?_
  refine s_callS (As := [.int (nI k), .int (32 : Int32)]) (rest := []) S hX G (k_J9_floorMod_7cf53 l E k (by first | assumption | decide | omega)) (va_cwS (bytes := cJ9_floorMod_7cf53) (maxL := 3) (ret := (some .int)) 2 S.2.2.2.2 gX6_value_J9_floorMod_7cf53 rfl rfl rfl (by decide +kernel) ⟨Nat.le_of_ble_eq_true rfl, Nat.le_of_ble_eq_true rfl⟩) rfl hl.1 rfl (Nat.le_of_ble_eq_true rfl) ⟨Nat.zero_le _, Nat.zero_le _⟩ dX6_value_3 (fun v I1 L1 H locs hR G => ?_)
  obtain ⟨hv, hI, hL⟩ := hR
  subst hv
  have G : GS E I L sg H locs := G.same hI hL
  refine W.eq (g2 := F0 mg 6 ls [.int (nI (k % 32))]) rfl ?_
  refine lv_istore_n (lv' := [(3, .int (nI (k % 32))), (0, .ref (E.2.2.2 i)), (1, .int (nI k)), (2, .int (3 : Int32))]) S.1 S.2.1 dX6_value_6 rfl hl (by decide) rfl (fun ls hl => ?_)
  refine lv_iload_n S.1 S.2.1 dX6_value_7 rfl (lv_at hl 3 rfl) ?_
  refine lv_tableIn (off := 42) (tgt := 50) S.1 S.2.1 dX6_value_8 (by decide) (by decide) (by decide) (by decide) ?_
  refine lv_aload_n S.1 S.2.1 dX6_value_50 rfl (lv_at hl 1 rfl) ?_
  refine s_get S hX G (i := i) (kd := 6) (a := (I i)) (v := .ref (E.2.2.2 (i + 3))) (C := RX6) (T := TX6) (N := 4) 2 hi rfl rfl rfl (by decide) rfl (fun _ h => (List.mem_cons_of_mem _ (List.mem_append_right _ h))) (by decide) (List.mem_of_getElem? (i := 3) rfl) (fun _ h => h) dX6_value_51 ?_
  refine lv_iload_n S.1 S.2.1 dX6_value_54 rfl (lv_at hl 0 rfl) ?_
  refine s_iald S hX G (i := (i + 3)) (kd := 46) (n := 32) (a := a) (x := (a (k % 32))) hi_3 e_a rfl (by decide) (vp_in_nI (Nat.mod_lt _ (by decide)) (by decide)) (congrArg a (nI_clamp (by omega))) dX6_value_55 ?_
  refine s_iret (x := (a (k % 32))) S G hr hlk dX6_value_56 ?_
  exact ⟨rfl, rfl, rfl⟩
set_option maxHeartbeats 4000000 in
set_option maxRecDepth 100000 in
theorem k_X6_value_4 (l : Launch) (E : Ev) {I : SI} {L : SL} (i : Nat) (k : Nat) (a : Nat → Int32) (hi : sh (i) = 6) (hi_1 : sh (i+1) = 46) (hi_2 : sh (i+2) = 46) (hi_3 : sh (i+3) = 46) (hi_4 : sh (i+4) = 46) (e_a : I (i+4) = a) (hk : k < 2 ^ 31) : CS l yX6_value wsX6_value ({ frames := 1, cells := 0, slots := 0, locals := 22 }) E [.ref (E.2.2.2 i), .int (nI k), .int (4 : Int32)] I L (fun vv I' L' => vv = some (.int (a (k % 32))) ∧ I' = I ∧ L' = L) := by
  refine CS.of (cc := cX6_value) (maxL := 4) (ret := (some .int)) (by decide) rfl (Nat.le_of_ble_eq_true rfl) ?_
  intro pg en sg mg below meth cg ls S hr hlk hX G hl
  have S : CallFix pg mg cg cX6_value 4 sg _ wsX6_value RX6 := S
  have hl : lv_has ls 4 [(0, .ref (E.2.2.2 i)), (1, .int (nI k)), (2, .int (4 : Int32))] := hl
  refine lv_iload_n S.1 S.2.1 dX6_value_0 rfl (lv_at hl 1 rfl) ?_
  refine lv_bipush (v := (32 : Int32)) S.1 S.2.1 dX6_value_1 (by decide) ?_
  refine s_callS (As := [.int (nI k), .int (32 : Int32)]) (rest := []) S hX G (k_J9_floorMod_7cf53 l E k (by first | assumption | decide | omega)) (va_cwS (bytes := cJ9_floorMod_7cf53) (maxL := 3) (ret := (some .int)) 2 S.2.2.2.2 gX6_value_J9_floorMod_7cf53 rfl rfl rfl (by decide +kernel) ⟨Nat.le_of_ble_eq_true rfl, Nat.le_of_ble_eq_true rfl⟩) rfl hl.1 rfl (Nat.le_of_ble_eq_true rfl) ⟨Nat.zero_le _, Nat.zero_le _⟩ dX6_value_3 (fun v I1 L1 H locs hR G => ?_)
  obtain ⟨hv, hI, hL⟩ := hR
  subst hv
  have G : GS E I L sg H locs := G.same hI hL
  refine W.eq (g2 := F0 mg 6 ls [.int (nI (k % 32))]) rfl ?_
  refine lv_istore_n (lv' := [(3, .int (nI (k % 32))), (0, .ref (E.2.2.2 i)), (1, .int (nI k)), (2, .int (4 : Int32))]) S.1 S.2.1 dX6_value_6 rfl hl (by decide) rfl (fun ls hl => ?_)
  refine lv_iload_n S.1 S.2.1 dX6_value_7 rfl (lv_at hl 3 rfl) ?_
  refine lv_tableOut (tgt := 57) S.1 S.2.1 dX6_value_8 (by decide) (by decide) ?_
  refine lv_aload_n S.1 S.2.1 dX6_value_57 rfl (lv_at hl 1 rfl) ?_
  refine s_get S hX G (i := i) (kd := 6) (a := (I i)) (v := .ref (E.2.2.2 (i + 4))) (C := RX6) (T := TX6) (N := 4) 3 hi rfl rfl rfl (by decide) rfl (fun _ h => (List.mem_cons_of_mem _ (List.mem_append_right _ h))) (by decide) (List.mem_of_getElem? (i := 4) rfl) (fun _ h => h) dX6_value_58 ?_
  refine lv_iload_n S.1 S.2.1 dX6_value_61 rfl (lv_at hl 0 rfl) ?_
  refine s_iald S hX G (i := (i + 4)) (kd := 46) (n := 32) (a := a) (x := (a (k % 32))) hi_4 e_a rfl (by decide) (vp_in_nI (Nat.mod_lt _ (by decide)) (by decide)) (congrArg a (nI_clamp (by omega))) dX6_value_62 ?_
  refine s_iret (x := (a (k % 32))) S G hr hlk dX6_value_63 ?_
  exact ⟨rfl, rfl, rfl⟩
