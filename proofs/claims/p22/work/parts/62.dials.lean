theorem vp_lt {x k : Int32} {n : Nat} (h0 : ¬ x < 0) (h1 : ¬ k ≤ x) (hk : k.toInt ≤ n) : vp_in x n := by
  intro h
  rcases h with h | h
  · exact h0 h
  · have h2 : x.toInt < k.toInt := Int32.lt_iff_toInt_lt.mp (Int32.not_le.mp h1)
    have h3 : ¬ x.toInt < 0 := fun q => h0 (Int32.lt_iff_toInt_lt.mpr q)
    unfold Int32.toNatClampNeg at h
    omega
theorem i32_in {x : Int32} {n : Nat} (h0 : ¬ x < 0) (h1 : ¬ nI n ≤ x) (hn : n < 2 ^ 31) : ∃ k, k < n ∧ x = nI k := by
  have h2 : ¬ x.toInt < 0 := fun h => h0 (Int32.lt_iff_toInt_lt.mpr h)
  have h3 : x.toInt < (nI n).toInt := Int32.lt_iff_toInt_lt.mp (Int32.not_le.mp h1)
  rw [nI_toInt hn] at h3
  refine ⟨x.toInt.toNat, by omega, Int32.toInt_inj.mp ?_⟩
  rw [nI_toInt (by omega)]
  omega
theorem tn0 : (0 : Int32).toNatClampNeg = 0 := by decide
theorem tn1 : (1 : Int32).toNatClampNeg = 1 := by decide
theorem tn2 : (2 : Int32).toNatClampNeg = 2 := by decide
theorem tn3 : (3 : Int32).toNatClampNeg = 3 := by decide
theorem in_lt4 {x : Int32} (h : ¬ x < 0 ∧ ¬ (4 : Int32) ≤ x) : x = 0 ∨ x = 1 ∨ x = 2 ∨ x = 3 := by
  obtain ⟨k, hk, rfl⟩ := i32_in (n := 4) h.1 h.2 (by decide)
  rcases (show k = 0 ∨ k = 1 ∨ k = 2 ∨ k = 3 by omega) with rfl | rfl | rfl | rfl
  · exact Or.inl rfl
  · exact Or.inr (Or.inl rfl)
  · exact Or.inr (Or.inr (Or.inl rfl))
  · exact Or.inr (Or.inr (Or.inr rfl))
theorem in_le2 {x : Int32} (h : ¬ x < 0 ∧ ¬ (2 : Int32) < x) : x = 0 ∨ x = 1 ∨ x = 2 := by
  obtain ⟨k, hk, rfl⟩ := i32_in (n := 3) h.1 (fun q => h.2 (Int32.lt_iff_toInt_lt.mpr (by have := Int32.le_iff_toInt_le.mp q; have e1 : (nI 3).toInt = 3 := (by decide); have e2 : (2 : Int32).toInt = 2 := (by decide); omega))) (by decide)
  rcases (show k = 0 ∨ k = 1 ∨ k = 2 by omega) with rfl | rfl | rfl
  · exact Or.inl rfl
  · exact Or.inr (Or.inl rfl)
  · exact Or.inr (Or.inr rfl)
theorem in_le1 {x : Int32} (h : ¬ x < 0 ∧ ¬ (1 : Int32) < x) : x = 0 ∨ x = 1 := by
  rcases in_le2 ⟨h.1, fun q => h.2 (Int32.lt_iff_toInt_lt.mpr (by have := Int32.lt_iff_toInt_lt.mp q; have e1 : (1 : Int32).toInt = 1 := (by decide); have e2 : (2 : Int32).toInt = 2 := (by decide); omega))⟩ with rfl | rfl | rfl
  · exact Or.inl rfl
  · exact Or.inr rfl
  · exact absurd (by decide) h.2
theorem in_le3 {x : Int32} (h : ¬ x < 0 ∧ ¬ (3 : Int32) < x) : x = 0 ∨ x = 1 ∨ x = 2 ∨ x = 3 := in_lt4 ⟨h.1, fun q => h.2 (Int32.lt_iff_toInt_lt.mpr (by have := Int32.le_iff_toInt_le.mp q; have e1 : (3 : Int32).toInt = 3 := (by decide); have e2 : (4 : Int32).toInt = 4 := (by decide); omega))⟩
set_option maxHeartbeats 4000000 in
set_option maxRecDepth 100000 in
theorem k_X1_has6 (l : Launch) (E : Ev) {I : SI} {L : SL} (i : Nat) (what : Int32) (hi : sh (i) = 1) (hi_1 : sh (i+1) = 20) : CS l yX1_has wsX1_has ({ frames := 0, cells := 0, slots := 0, locals := 0 }) E [.ref (E.2.2.2 i), .int what] I L (fun vv I' L' => vv = some (.int (if ¬ what < 0 ∧ ¬ (6 : Int32) ≤ what then 1 else 0)) ∧ I' = I ∧ L' = L) := by
  refine CS.of (cc := cX1_has) (maxL := 2) (ret := (some .boolean)) (by decide) rfl (Nat.le_of_ble_eq_true rfl) ?_
  intro pg en sg mg below meth cg ls S hr hlk hX G hl
  have S : CallFix pg mg cg cX1_has 2 sg _ wsX1_has RX1 := S
  have hl : lv_has ls 2 [(0, .ref (E.2.2.2 i)), (1, .int what)] := hl
  refine lv_iload_n S.1 S.2.1 dX1_has_0 rfl (lv_at hl 1 rfl) ?_
  refine lv_if_lt (tgt := 17) S.1 S.2.1 dX1_has_1 (by decide) (fun c_1 => ?_) (fun c_1 => ?_)
  · refine lv_iconst (v := (0 : Int32)) S.1 S.2.1 dX1_has_17 (by decide) ?_
    refine s_zret (x := (0 : Int32)) S G hr hlk dX1_has_18 (Or.inl rfl) ?_
    exact ⟨(congrArg (fun q : Int32 => some (Value.int q)) (show (0 : Int32) = (if ¬ what < 0 ∧ ¬ (6 : Int32) ≤ what then 1 else 0) by first | (simp [c_1]; done) | (clear S hX G hl; grind []))), rfl, rfl⟩
  · refine lv_iload_n S.1 S.2.1 dX1_has_4 rfl (lv_at hl 1 rfl) ?_
    refine lv_aload_n S.1 S.2.1 dX1_has_5 rfl (lv_at hl 0 rfl) ?_
    refine s_get S hX G (i := i) (kd := 1) (a := (I i)) (v := .ref (E.2.2.2 (i + 1))) (C := RX1) (T := TX1) (N := 2) 1 hi rfl rfl rfl (by decide) rfl (fun _ h => (List.mem_cons_of_mem _ (List.mem_append_right _ h))) (by decide) (List.mem_of_getElem? (i := 1) rfl) (fun _ h => h) dX1_has_6 ?_
    refine s_alen (x := (6 : Int32)) S hX G (i := (i + 1)) (kd := 20) (n := 6) hi_1 rfl (by decide) (by decide) dX1_has_9 ?_
    refine lv_icmp_ge (tgt := 17) S.1 S.2.1 dX1_has_10 (by decide) (fun c_2 => ?_) (fun c_2 => ?_)
    · refine lv_iconst (v := (0 : Int32)) S.1 S.2.1 dX1_has_17 (by decide) ?_
      refine s_zret (x := (0 : Int32)) S G hr hlk dX1_has_18 (Or.inl rfl) ?_
      exact ⟨(congrArg (fun q : Int32 => some (Value.int q)) (show (0 : Int32) = (if ¬ what < 0 ∧ ¬ (6 : Int32) ≤ what then 1 else 0) by first | (simp [c_1, c_2]; done) | (clear S hX G hl; grind []))), rfl, rfl⟩
    · refine lv_iconst (v := (1 : Int32)) S.1 S.2.1 dX1_has_13 (by decide) ?_
      refine lv_goto (tgt := 18) S.1 S.2.1 dX1_has_14 (by decide) ?_
      refine s_zret (x := (1 : Int32)) S G hr hlk dX1_has_18 (Or.inr rfl) ?_
      exact ⟨(congrArg (fun q : Int32 => some (Value.int q)) (show (1 : Int32) = (if ¬ what < 0 ∧ ¬ (6 : Int32) ≤ what then 1 else 0) by first | (simp [c_1, c_2]; done) | (clear S hX G hl; grind []))), rfl, rfl⟩
set_option maxHeartbeats 4000000 in
set_option maxRecDepth 100000 in
theorem k_X1_copyFrom6 (l : Launch) (E : Ev) {I : SI} {L : SL} (i : Nat) (j : Nat) (a : Nat → Int32) (b : Nat → Int32) (hi : sh (i) = 1) (hi_1 : sh (i+1) = 20) (hj : sh (j) = 1) (hj_1 : sh (j+1) = 20) (e_a : I (i+1) = a) (e_b : I (j+1) = b) : CS l yX1_copyFrom wsX1_copyFrom ({ frames := 1, cells := 0, slots := 0, locals := 18 }) E [.ref (E.2.2.2 i), .ref (E.2.2.2 j)] I L (fun vv I' L' => vv = none ∧ I' = (up I (i+1) (va_cpy b a 0 0 6)) ∧ L' = L) := by
  refine CS.of (cc := cX1_copyFrom) (maxL := 2) (ret := none) (by decide) rfl (Nat.le_of_ble_eq_true rfl) ?_
  intro pg en sg mg below meth cg ls S hr hlk hX G hl
  have S : CallFix pg mg cg cX1_copyFrom 2 sg _ wsX1_copyFrom RX1 := S
  have hl : lv_has ls 2 [(0, .ref (E.2.2.2 i)), (1, .ref (E.2.2.2 j))] := hl
  refine lv_aload_n S.1 S.2.1 dX1_copyFrom_0 rfl (lv_at hl 1 rfl) ?_
  refine s_get S hX G (i := j) (kd := 1) (a := (I j)) (v := .ref (E.2.2.2 (j + 1))) (C := RX1) (T := TX1) (N := 2) 1 hj rfl rfl rfl (by decide) rfl (fun _ h => (List.mem_cons_of_mem _ (List.mem_append_right _ h))) (by decide) (List.mem_of_getElem? (i := 1) rfl) (fun _ h => h) dX1_copyFrom_1 ?_
  refine lv_iconst (v := (0 : Int32)) S.1 S.2.1 dX1_copyFrom_4 (by decide) ?_
  refine lv_aload_n S.1 S.2.1 dX1_copyFrom_5 rfl (lv_at hl 0 rfl) ?_
  refine s_get S hX G (i := i) (kd := 1) (a := (I i)) (v := .ref (E.2.2.2 (i + 1))) (C := RX1) (T := TX1) (N := 2) 1 hi rfl rfl rfl (by decide) rfl (fun _ h => (List.mem_cons_of_mem _ (List.mem_append_right _ h))) (by decide) (List.mem_of_getElem? (i := 1) rfl) (fun _ h => h) dX1_copyFrom_6 ?_
  refine lv_iconst (v := (0 : Int32)) S.1 S.2.1 dX1_copyFrom_9 (by decide) ?_
  refine lv_aload_n S.1 S.2.1 dX1_copyFrom_10 rfl (lv_at hl 0 rfl) ?_
  refine s_get S hX G (i := i) (kd := 1) (a := (I i)) (v := .ref (E.2.2.2 (i + 1))) (C := RX1) (T := TX1) (N := 2) 1 hi rfl rfl rfl (by decide) rfl (fun _ h => (List.mem_cons_of_mem _ (List.mem_append_right _ h))) (by decide) (List.mem_of_getElem? (i := 1) rfl) (fun _ h => h) dX1_copyFrom_11 ?_
  refine s_alen (x := (6 : Int32)) S hX G (i := (i + 1)) (kd := 20) (n := 6) hi_1 rfl (by decide) (by decide) dX1_copyFrom_14 ?_
  refine s_copy S hX G (i := (j + 1)) (j := (i + 1)) (kd := 20) (n := 6) (a := b) (b := a) (I' := (up I (i + 1) (va_cpy b a 0 0 6))) hj_1 hi_1 e_b e_a (fun _ => rfl) (fun _ => rfl) (by decide) (by decide) (by decide) rfl (List.mem_of_getElem? (i := 2) rfl) (List.mem_of_getElem? (i := 3) rfl) (List.mem_of_getElem? (i := 4) rfl) (List.mem_of_getElem? (i := 5) rfl) hl.1 (Nat.le_of_ble_eq_true rfl) (Nat.le_of_ble_eq_true rfl) dX1_copyFrom_15 (fun H locs G => ?_)
  refine s_vret S G hr hlk dX1_copyFrom_18 ?_
  exact ⟨rfl, (st_eq1 up_eq (fun _ g0 => (up_ne g0))), rfl⟩
set_option maxHeartbeats 4000000 in
set_option maxRecDepth 100000 in
theorem k_X1_value6 (l : Launch) (E : Ev) {I : SI} {L : SL} (i : Nat) (what : Int32) (v : Nat → Int32) (hi : sh (i) = 1) (hi_1 : sh (i+1) = 20) (e_v : I (i+1) = v) : CS l yX1_value wsX1_value ({ frames := 1, cells := 0, slots := 0, locals := 21 }) E [.ref (E.2.2.2 i), .int what] I L (fun vv I' L' => vv = some (.int (if ¬ what < 0 ∧ ¬ (6 : Int32) ≤ what then v what.toNatClampNeg else 0)) ∧ I' = I ∧ L' = L) := by
  refine CS.of (cc := cX1_value) (maxL := 2) (ret := (some .int)) (by decide) rfl (Nat.le_of_ble_eq_true rfl) ?_
  intro pg en sg mg below meth cg ls S hr hlk hX G hl
  have S : CallFix pg mg cg cX1_value 2 sg _ wsX1_value RX1 := S
  have hl : lv_has ls 2 [(0, .ref (E.2.2.2 i)), (1, .int what)] := hl
  refine lv_aload_n S.1 S.2.1 dX1_value_0 rfl (lv_at hl 0 rfl) ?_
  refine lv_iload_n S.1 S.2.1 dX1_value_1 rfl (lv_at hl 1 rfl) ?_
  refine s_callV (C := RX1) (As := [.int what]) (rest := []) (i := i) (kd := 1) S hX G (k_X1_has6 l E i what hi hi_1) (cwV (bytes := cX1_has) (maxL := 2) (ret := (some .boolean)) 1 S.2.2.2.2 gX1_value_X1_has rfl rfl rfl (by decide +kernel) ⟨Nat.le_of_ble_eq_true rfl, Nat.le_of_ble_eq_true rfl⟩) hi rfl rfl rfl (by decide) rfl hl.1 rfl (Nat.le_of_ble_eq_true rfl) ⟨Nat.zero_le _, Nat.zero_le _⟩ dX1_value_2 (fun v I1 L1 H locs hR G => ?_)
  obtain ⟨hv, hI, hL⟩ := hR
  subst hv
  have G : GS E I L sg H locs := G.same hI hL
  refine W.eq (g2 := F0 mg 5 ls [.int (if ¬ what < 0 ∧ ¬ (6 : Int32) ≤ what then 1 else 0)]) rfl ?_
  refine s_if_eq_b (P := ¬ what < 0 ∧ ¬ (6 : Int32) ≤ what) (tgt := 17) S dX1_value_5 (by decide) (fun c_1 => ?_) (fun c_1 => ?_)
  · refine lv_iconst (v := (0 : Int32)) S.1 S.2.1 dX1_value_17 (by decide) ?_
    refine s_iret (x := (0 : Int32)) S G hr hlk dX1_value_18 ?_
    exact ⟨(congrArg (fun q : Int32 => some (Value.int q)) (show (0 : Int32) = (if ¬ what < 0 ∧ ¬ (6 : Int32) ≤ what then v what.toNatClampNeg else 0) by first | (simp [c_1]; done) | (clear S hX G hl; grind []))), rfl, rfl⟩
  · refine lv_aload_n S.1 S.2.1 dX1_value_8 rfl (lv_at hl 0 rfl) ?_
    refine s_get S hX G (i := i) (kd := 1) (a := (I i)) (v := .ref (E.2.2.2 (i + 1))) (C := RX1) (T := TX1) (N := 2) 1 hi rfl rfl rfl (by decide) rfl (fun _ h => (List.mem_cons_of_mem _ (List.mem_append_right _ h))) (by decide) (List.mem_of_getElem? (i := 1) rfl) (fun _ h => h) dX1_value_9 ?_
    refine lv_iload_n S.1 S.2.1 dX1_value_12 rfl (lv_at hl 1 rfl) ?_
    refine s_iald S hX G (i := (i + 1)) (kd := 20) (n := 6) (a := v) (x := (v what.toNatClampNeg)) hi_1 e_v rfl (by decide) (vp_lt c_1.1 c_1.2 (by decide)) (congrArg v rfl) dX1_value_13 ?_
    refine lv_goto (tgt := 18) S.1 S.2.1 dX1_value_14 (by decide) ?_
    refine s_iret (x := (v what.toNatClampNeg)) S G hr hlk dX1_value_18 ?_
    exact ⟨(congrArg (fun q : Int32 => some (Value.int q)) (show (v what.toNatClampNeg) = (if ¬ what < 0 ∧ ¬ (6 : Int32) ≤ what then v what.toNatClampNeg else 0) by first | (simp [c_1]; done) | (clear S hX G hl; grind []))), rfl, rfl⟩
set_option maxHeartbeats 4000000 in
set_option maxRecDepth 100000 in
theorem k_X1_value6_0 (l : Launch) (E : Ev) {I : SI} {L : SL} (i : Nat) (v : Nat → Int32) (hi : sh (i) = 1) (hi_1 : sh (i+1) = 20) (e_v : I (i+1) = v) : CS l yX1_value wsX1_value ({ frames := 1, cells := 0, slots := 0, locals := 21 }) E [.ref (E.2.2.2 i), .int (0 : Int32)] I L (fun vv I' L' => vv = some (.int (v 0)) ∧ I' = I ∧ L' = L) := by
  refine CS.of (cc := cX1_value) (maxL := 2) (ret := (some .int)) (by decide) rfl (Nat.le_of_ble_eq_true rfl) ?_
  intro pg en sg mg below meth cg ls S hr hlk hX G hl
  have S : CallFix pg mg cg cX1_value 2 sg _ wsX1_value RX1 := S
  have hl : lv_has ls 2 [(0, .ref (E.2.2.2 i)), (1, .int (0 : Int32))] := hl
  refine lv_aload_n S.1 S.2.1 dX1_value_0 rfl (lv_at hl 0 rfl) ?_
  refine lv_iload_n S.1 S.2.1 dX1_value_1 rfl (lv_at hl 1 rfl) ?_
  refine s_callV (C := RX1) (As := [.int (0 : Int32)]) (rest := []) (i := i) (kd := 1) S hX G (k_X1_has6 l E i (0 : Int32) hi hi_1) (cwV (bytes := cX1_has) (maxL := 2) (ret := (some .boolean)) 1 S.2.2.2.2 gX1_value_X1_has rfl rfl rfl (by decide +kernel) ⟨Nat.le_of_ble_eq_true rfl, Nat.le_of_ble_eq_true rfl⟩) hi rfl rfl rfl (by decide) rfl hl.1 rfl (Nat.le_of_ble_eq_true rfl) ⟨Nat.zero_le _, Nat.zero_le _⟩ dX1_value_2 (fun v I1 L1 H locs hR G => ?_)
  obtain ⟨hv, hI, hL⟩ := hR
  subst hv
  have G : GS E I L sg H locs := G.same hI hL
  refine W.eq (g2 := F0 mg 5 ls [.int (if ¬ (0 : Int32) < 0 ∧ ¬ (6 : Int32) ≤ (0 : Int32) then 1 else 0)]) rfl ?_
  refine s_if_eq_b (P := ¬ (0 : Int32) < 0 ∧ ¬ (6 : Int32) ≤ (0 : Int32)) (tgt := 17) S dX1_value_5 (by decide) (fun h => absurd (by decide) h) (fun _ => ?_)
  refine lv_aload_n S.1 S.2.1 dX1_value_8 rfl (lv_at hl 0 rfl) ?_
  refine s_get S hX G (i := i) (kd := 1) (a := (I i)) (v := .ref (E.2.2.2 (i + 1))) (C := RX1) (T := TX1) (N := 2) 1 hi rfl rfl rfl (by decide) rfl (fun _ h => (List.mem_cons_of_mem _ (List.mem_append_right _ h))) (by decide) (List.mem_of_getElem? (i := 1) rfl) (fun _ h => h) dX1_value_9 ?_
  refine lv_iload_n S.1 S.2.1 dX1_value_12 rfl (lv_at hl 1 rfl) ?_
  refine s_iald S hX G (i := (i + 1)) (kd := 20) (n := 6) (a := v) (x := (v 0)) hi_1 e_v rfl (by decide) (by unfold vp_in; decide) (congrArg v (by decide)) dX1_value_13 ?_
  refine lv_goto (tgt := 18) S.1 S.2.1 dX1_value_14 (by decide) ?_
  refine s_iret (x := (v 0)) S G hr hlk dX1_value_18 ?_
  exact ⟨rfl, rfl, rfl⟩
set_option maxHeartbeats 4000000 in
set_option maxRecDepth 100000 in
theorem k_X1_value6_1 (l : Launch) (E : Ev) {I : SI} {L : SL} (i : Nat) (v : Nat → Int32) (hi : sh (i) = 1) (hi_1 : sh (i+1) = 20) (e_v : I (i+1) = v) : CS l yX1_value wsX1_value ({ frames := 1, cells := 0, slots := 0, locals := 21 }) E [.ref (E.2.2.2 i), .int (1 : Int32)] I L (fun vv I' L' => vv = some (.int (v 1)) ∧ I' = I ∧ L' = L) := by
  refine CS.of (cc := cX1_value) (maxL := 2) (ret := (some .int)) (by decide) rfl (Nat.le_of_ble_eq_true rfl) ?_
  intro pg en sg mg below meth cg ls S hr hlk hX G hl
  have S : CallFix pg mg cg cX1_value 2 sg _ wsX1_value RX1 := S
  have hl : lv_has ls 2 [(0, .ref (E.2.2.2 i)), (1, .int (1 : Int32))] := hl
  refine lv_aload_n S.1 S.2.1 dX1_value_0 rfl (lv_at hl 0 rfl) ?_
  refine lv_iload_n S.1 S.2.1 dX1_value_1 rfl (lv_at hl 1 rfl) ?_
  refine s_callV (C := RX1) (As := [.int (1 : Int32)]) (rest := []) (i := i) (kd := 1) S hX G (k_X1_has6 l E i (1 : Int32) hi hi_1) (cwV (bytes := cX1_has) (maxL := 2) (ret := (some .boolean)) 1 S.2.2.2.2 gX1_value_X1_has rfl rfl rfl (by decide +kernel) ⟨Nat.le_of_ble_eq_true rfl, Nat.le_of_ble_eq_true rfl⟩) hi rfl rfl rfl (by decide) rfl hl.1 rfl (Nat.le_of_ble_eq_true rfl) ⟨Nat.zero_le _, Nat.zero_le _⟩ dX1_value_2 (fun v I1 L1 H locs hR G => ?_)
  obtain ⟨hv, hI, hL⟩ := hR
  subst hv
  have G : GS E I L sg H locs := G.same hI hL
  refine W.eq (g2 := F0 mg 5 ls [.int (if ¬ (1 : Int32) < 0 ∧ ¬ (6 : Int32) ≤ (1 : Int32) then 1 else 0)]) rfl ?_
  refine s_if_eq_b (P := ¬ (1 : Int32) < 0 ∧ ¬ (6 : Int32) ≤ (1 : Int32)) (tgt := 17) S dX1_value_5 (by decide) (fun h => absurd (by decide) h) (fun _ => ?_)
  refine lv_aload_n S.1 S.2.1 dX1_value_8 rfl (lv_at hl 0 rfl) ?_
  refine s_get S hX G (i := i) (kd := 1) (a := (I i)) (v := .ref (E.2.2.2 (i + 1))) (C := RX1) (T := TX1) (N := 2) 1 hi rfl rfl rfl (by decide) rfl (fun _ h => (List.mem_cons_of_mem _ (List.mem_append_right _ h))) (by decide) (List.mem_of_getElem? (i := 1) rfl) (fun _ h => h) dX1_value_9 ?_
  refine lv_iload_n S.1 S.2.1 dX1_value_12 rfl (lv_at hl 1 rfl) ?_
  refine s_iald S hX G (i := (i + 1)) (kd := 20) (n := 6) (a := v) (x := (v 1)) hi_1 e_v rfl (by decide) (by unfold vp_in; decide) (congrArg v (by decide)) dX1_value_13 ?_
  refine lv_goto (tgt := 18) S.1 S.2.1 dX1_value_14 (by decide) ?_
  refine s_iret (x := (v 1)) S G hr hlk dX1_value_18 ?_
  exact ⟨rfl, rfl, rfl⟩
set_option maxHeartbeats 4000000 in
set_option maxRecDepth 100000 in
theorem k_X1_value6_2 (l : Launch) (E : Ev) {I : SI} {L : SL} (i : Nat) (v : Nat → Int32) (hi : sh (i) = 1) (hi_1 : sh (i+1) = 20) (e_v : I (i+1) = v) : CS l yX1_value wsX1_value ({ frames := 1, cells := 0, slots := 0, locals := 21 }) E [.ref (E.2.2.2 i), .int (2 : Int32)] I L (fun vv I' L' => vv = some (.int (v 2)) ∧ I' = I ∧ L' = L) := by
  refine CS.of (cc := cX1_value) (maxL := 2) (ret := (some .int)) (by decide) rfl (Nat.le_of_ble_eq_true rfl) ?_
  intro pg en sg mg below meth cg ls S hr hlk hX G hl
  have S : CallFix pg mg cg cX1_value 2 sg _ wsX1_value RX1 := S
  have hl : lv_has ls 2 [(0, .ref (E.2.2.2 i)), (1, .int (2 : Int32))] := hl
  refine lv_aload_n S.1 S.2.1 dX1_value_0 rfl (lv_at hl 0 rfl) ?_
  refine lv_iload_n S.1 S.2.1 dX1_value_1 rfl (lv_at hl 1 rfl) ?_
  refine s_callV (C := RX1) (As := [.int (2 : Int32)]) (rest := []) (i := i) (kd := 1) S hX G (k_X1_has6 l E i (2 : Int32) hi hi_1) (cwV (bytes := cX1_has) (maxL := 2) (ret := (some .boolean)) 1 S.2.2.2.2 gX1_value_X1_has rfl rfl rfl (by decide +kernel) ⟨Nat.le_of_ble_eq_true rfl, Nat.le_of_ble_eq_true rfl⟩) hi rfl rfl rfl (by decide) rfl hl.1 rfl (Nat.le_of_ble_eq_true rfl) ⟨Nat.zero_le _, Nat.zero_le _⟩ dX1_value_2 (fun v I1 L1 H locs hR G => ?_)
  obtain ⟨hv, hI, hL⟩ := hR
  subst hv
  have G : GS E I L sg H locs := G.same hI hL
  refine W.eq (g2 := F0 mg 5 ls [.int (if ¬ (2 : Int32) < 0 ∧ ¬ (6 : Int32) ≤ (2 : Int32) then 1 else 0)]) rfl ?_
  refine s_if_eq_b (P := ¬ (2 : Int32) < 0 ∧ ¬ (6 : Int32) ≤ (2 : Int32)) (tgt := 17) S dX1_value_5 (by decide) (fun h => absurd (by decide) h) (fun _ => ?_)
  refine lv_aload_n S.1 S.2.1 dX1_value_8 rfl (lv_at hl 0 rfl) ?_
  refine s_get S hX G (i := i) (kd := 1) (a := (I i)) (v := .ref (E.2.2.2 (i + 1))) (C := RX1) (T := TX1) (N := 2) 1 hi rfl rfl rfl (by decide) rfl (fun _ h => (List.mem_cons_of_mem _ (List.mem_append_right _ h))) (by decide) (List.mem_of_getElem? (i := 1) rfl) (fun _ h => h) dX1_value_9 ?_
  refine lv_iload_n S.1 S.2.1 dX1_value_12 rfl (lv_at hl 1 rfl) ?_
  refine s_iald S hX G (i := (i + 1)) (kd := 20) (n := 6) (a := v) (x := (v 2)) hi_1 e_v rfl (by decide) (by unfold vp_in; decide) (congrArg v (by decide)) dX1_value_13 ?_
  refine lv_goto (tgt := 18) S.1 S.2.1 dX1_value_14 (by decide) ?_
  refine s_iret (x := (v 2)) S G hr hlk dX1_value_18 ?_
  exact ⟨rfl, rfl, rfl⟩
set_option maxHeartbeats 4000000 in
set_option maxRecDepth 100000 in
theorem k_X1_value6_3 (l : Launch) (E : Ev) {I : SI} {L : SL} (i : Nat) (v : Nat → Int32) (hi : sh (i) = 1) (hi_1 : sh (i+1) = 20) (e_v : I (i+1) = v) : CS l yX1_value wsX1_value ({ frames := 1, cells := 0, slots := 0, locals := 21 }) E [.ref (E.2.2.2 i), .int (3 : Int32)] I L (fun vv I' L' => vv = some (.int (v 3)) ∧ I' = I ∧ L' = L) := by
  refine CS.of (cc := cX1_value) (maxL := 2) (ret := (some .int)) (by decide) rfl (Nat.le_of_ble_eq_true rfl) ?_
  intro pg en sg mg below meth cg ls S hr hlk hX G hl
  have S : CallFix pg mg cg cX1_value 2 sg _ wsX1_value RX1 := S
  have hl : lv_has ls 2 [(0, .ref (E.2.2.2 i)), (1, .int (3 : Int32))] := hl
  refine lv_aload_n S.1 S.2.1 dX1_value_0 rfl (lv_at hl 0 rfl) ?_
  refine lv_iload_n S.1 S.2.1 dX1_value_1 rfl (lv_at hl 1 rfl) ?_
  refine s_callV (C := RX1) (As := [.int (3 : Int32)]) (rest := []) (i := i) (kd := 1) S hX G (k_X1_has6 l E i (3 : Int32) hi hi_1) (cwV (bytes := cX1_has) (maxL := 2) (ret := (some .boolean)) 1 S.2.2.2.2 gX1_value_X1_has rfl rfl rfl (by decide +kernel) ⟨Nat.le_of_ble_eq_true rfl, Nat.le_of_ble_eq_true rfl⟩) hi rfl rfl rfl (by decide) rfl hl.1 rfl (Nat.le_of_ble_eq_true rfl) ⟨Nat.zero_le _, Nat.zero_le _⟩ dX1_value_2 (fun v I1 L1 H locs hR G => ?_)
  obtain ⟨hv, hI, hL⟩ := hR
  subst hv
  have G : GS E I L sg H locs := G.same hI hL
  refine W.eq (g2 := F0 mg 5 ls [.int (if ¬ (3 : Int32) < 0 ∧ ¬ (6 : Int32) ≤ (3 : Int32) then 1 else 0)]) rfl ?_
  refine s_if_eq_b (P := ¬ (3 : Int32) < 0 ∧ ¬ (6 : Int32) ≤ (3 : Int32)) (tgt := 17) S dX1_value_5 (by decide) (fun h => absurd (by decide) h) (fun _ => ?_)
  refine lv_aload_n S.1 S.2.1 dX1_value_8 rfl (lv_at hl 0 rfl) ?_
  refine s_get S hX G (i := i) (kd := 1) (a := (I i)) (v := .ref (E.2.2.2 (i + 1))) (C := RX1) (T := TX1) (N := 2) 1 hi rfl rfl rfl (by decide) rfl (fun _ h => (List.mem_cons_of_mem _ (List.mem_append_right _ h))) (by decide) (List.mem_of_getElem? (i := 1) rfl) (fun _ h => h) dX1_value_9 ?_
  refine lv_iload_n S.1 S.2.1 dX1_value_12 rfl (lv_at hl 1 rfl) ?_
  refine s_iald S hX G (i := (i + 1)) (kd := 20) (n := 6) (a := v) (x := (v 3)) hi_1 e_v rfl (by decide) (by unfold vp_in; decide) (congrArg v (by decide)) dX1_value_13 ?_
  refine lv_goto (tgt := 18) S.1 S.2.1 dX1_value_14 (by decide) ?_
  refine s_iret (x := (v 3)) S G hr hlk dX1_value_18 ?_
  exact ⟨rfl, rfl, rfl⟩
set_option maxHeartbeats 4000000 in
set_option maxRecDepth 100000 in
theorem k_X1_value6_4 (l : Launch) (E : Ev) {I : SI} {L : SL} (i : Nat) (v : Nat → Int32) (hi : sh (i) = 1) (hi_1 : sh (i+1) = 20) (e_v : I (i+1) = v) : CS l yX1_value wsX1_value ({ frames := 1, cells := 0, slots := 0, locals := 21 }) E [.ref (E.2.2.2 i), .int (4 : Int32)] I L (fun vv I' L' => vv = some (.int (v 4)) ∧ I' = I ∧ L' = L) := by
  refine CS.of (cc := cX1_value) (maxL := 2) (ret := (some .int)) (by decide) rfl (Nat.le_of_ble_eq_true rfl) ?_
  intro pg en sg mg below meth cg ls S hr hlk hX G hl
  have S : CallFix pg mg cg cX1_value 2 sg _ wsX1_value RX1 := S
  have hl : lv_has ls 2 [(0, .ref (E.2.2.2 i)), (1, .int (4 : Int32))] := hl
  refine lv_aload_n S.1 S.2.1 dX1_value_0 rfl (lv_at hl 0 rfl) ?_
  refine lv_iload_n S.1 S.2.1 dX1_value_1 rfl (lv_at hl 1 rfl) ?_
  refine s_callV (C := RX1) (As := [.int (4 : Int32)]) (rest := []) (i := i) (kd := 1) S hX G (k_X1_has6 l E i (4 : Int32) hi hi_1) (cwV (bytes := cX1_has) (maxL := 2) (ret := (some .boolean)) 1 S.2.2.2.2 gX1_value_X1_has rfl rfl rfl (by decide +kernel) ⟨Nat.le_of_ble_eq_true rfl, Nat.le_of_ble_eq_true rfl⟩) hi rfl rfl rfl (by decide) rfl hl.1 rfl (Nat.le_of_ble_eq_true rfl) ⟨Nat.zero_le _, Nat.zero_le _⟩ dX1_value_2 (fun v I1 L1 H locs hR G => ?_)
  obtain ⟨hv, hI, hL⟩ := hR
  subst hv
  have G : GS E I L sg H locs := G.same hI hL
  refine W.eq (g2 := F0 mg 5 ls [.int (if ¬ (4 : Int32) < 0 ∧ ¬ (6 : Int32) ≤ (4 : Int32) then 1 else 0)]) rfl ?_
  refine s_if_eq_b (P := ¬ (4 : Int32) < 0 ∧ ¬ (6 : Int32) ≤ (4 : Int32)) (tgt := 17) S dX1_value_5 (by decide) (fun h => absurd (by decide) h) (fun _ => ?_)
  refine lv_aload_n S.1 S.2.1 dX1_value_8 rfl (lv_at hl 0 rfl) ?_
  refine s_get S hX G (i := i) (kd := 1) (a := (I i)) (v := .ref (E.2.2.2 (i + 1))) (C := RX1) (T := TX1) (N := 2) 1 hi rfl rfl rfl (by decide) rfl (fun _ h => (List.mem_cons_of_mem _ (List.mem_append_right _ h))) (by decide) (List.mem_of_getElem? (i := 1) rfl) (fun _ h => h) dX1_value_9 ?_
  refine lv_iload_n S.1 S.2.1 dX1_value_12 rfl (lv_at hl 1 rfl) ?_
  refine s_iald S hX G (i := (i + 1)) (kd := 20) (n := 6) (a := v) (x := (v 4)) hi_1 e_v rfl (by decide) (by unfold vp_in; decide) (congrArg v (by decide)) dX1_value_13 ?_
  refine lv_goto (tgt := 18) S.1 S.2.1 dX1_value_14 (by decide) ?_
  refine s_iret (x := (v 4)) S G hr hlk dX1_value_18 ?_
  exact ⟨rfl, rfl, rfl⟩
set_option maxHeartbeats 4000000 in
set_option maxRecDepth 100000 in
theorem k_X1_value6_5 (l : Launch) (E : Ev) {I : SI} {L : SL} (i : Nat) (v : Nat → Int32) (hi : sh (i) = 1) (hi_1 : sh (i+1) = 20) (e_v : I (i+1) = v) : CS l yX1_value wsX1_value ({ frames := 1, cells := 0, slots := 0, locals := 21 }) E [.ref (E.2.2.2 i), .int (5 : Int32)] I L (fun vv I' L' => vv = some (.int (v 5)) ∧ I' = I ∧ L' = L) := by
  refine CS.of (cc := cX1_value) (maxL := 2) (ret := (some .int)) (by decide) rfl (Nat.le_of_ble_eq_true rfl) ?_
  intro pg en sg mg below meth cg ls S hr hlk hX G hl
  have S : CallFix pg mg cg cX1_value 2 sg _ wsX1_value RX1 := S
  have hl : lv_has ls 2 [(0, .ref (E.2.2.2 i)), (1, .int (5 : Int32))] := hl
  refine lv_aload_n S.1 S.2.1 dX1_value_0 rfl (lv_at hl 0 rfl) ?_
  refine lv_iload_n S.1 S.2.1 dX1_value_1 rfl (lv_at hl 1 rfl) ?_
  refine s_callV (C := RX1) (As := [.int (5 : Int32)]) (rest := []) (i := i) (kd := 1) S hX G (k_X1_has6 l E i (5 : Int32) hi hi_1) (cwV (bytes := cX1_has) (maxL := 2) (ret := (some .boolean)) 1 S.2.2.2.2 gX1_value_X1_has rfl rfl rfl (by decide +kernel) ⟨Nat.le_of_ble_eq_true rfl, Nat.le_of_ble_eq_true rfl⟩) hi rfl rfl rfl (by decide) rfl hl.1 rfl (Nat.le_of_ble_eq_true rfl) ⟨Nat.zero_le _, Nat.zero_le _⟩ dX1_value_2 (fun v I1 L1 H locs hR G => ?_)
  obtain ⟨hv, hI, hL⟩ := hR
  subst hv
  have G : GS E I L sg H locs := G.same hI hL
  refine W.eq (g2 := F0 mg 5 ls [.int (if ¬ (5 : Int32) < 0 ∧ ¬ (6 : Int32) ≤ (5 : Int32) then 1 else 0)]) rfl ?_
  refine s_if_eq_b (P := ¬ (5 : Int32) < 0 ∧ ¬ (6 : Int32) ≤ (5 : Int32)) (tgt := 17) S dX1_value_5 (by decide) (fun h => absurd (by decide) h) (fun _ => ?_)
  refine lv_aload_n S.1 S.2.1 dX1_value_8 rfl (lv_at hl 0 rfl) ?_
  refine s_get S hX G (i := i) (kd := 1) (a := (I i)) (v := .ref (E.2.2.2 (i + 1))) (C := RX1) (T := TX1) (N := 2) 1 hi rfl rfl rfl (by decide) rfl (fun _ h => (List.mem_cons_of_mem _ (List.mem_append_right _ h))) (by decide) (List.mem_of_getElem? (i := 1) rfl) (fun _ h => h) dX1_value_9 ?_
  refine lv_iload_n S.1 S.2.1 dX1_value_12 rfl (lv_at hl 1 rfl) ?_
  refine s_iald S hX G (i := (i + 1)) (kd := 20) (n := 6) (a := v) (x := (v 5)) hi_1 e_v rfl (by decide) (by unfold vp_in; decide) (congrArg v (by decide)) dX1_value_13 ?_
  refine lv_goto (tgt := 18) S.1 S.2.1 dX1_value_14 (by decide) ?_
  refine s_iret (x := (v 5)) S G hr hlk dX1_value_18 ?_
  exact ⟨rfl, rfl, rfl⟩
set_option maxHeartbeats 4000000 in
set_option maxRecDepth 100000 in
theorem k_X1_turn6 (l : Launch) (E : Ev) {I : SI} {L : SL} (i : Nat) (what : Int32) (value : Int32) (v : Nat → Int32) (hi : sh (i) = 1) (hi_1 : sh (i+1) = 20) (e_v : I (i+1) = v) : CS l yX1_turn wsX1_turn ({ frames := 2, cells := 0, slots := 0, locals := 42 }) E [.ref (E.2.2.2 i), .int what, .int value] I L (fun vv I' L' => vv = some (.int (if ¬ what < 0 ∧ ¬ (6 : Int32) ≤ what then v what.toNatClampNeg else 0)) ∧ I' = (up I (i+1) ((if ¬ what < 0 ∧ ¬ (6 : Int32) ≤ what then upd v what.toNatClampNeg value else v))) ∧ L' = L) := by
  refine CS.of (cc := cX1_turn) (maxL := 4) (ret := (some .int)) (by decide) rfl (Nat.le_of_ble_eq_true rfl) ?_
  intro pg en sg mg below meth cg ls S hr hlk hX G hl
  have S : CallFix pg mg cg cX1_turn 4 sg _ wsX1_turn RX1 := S
  have hl : lv_has ls 4 [(0, .ref (E.2.2.2 i)), (1, .int what), (2, .int value)] := hl
  refine lv_aload_n S.1 S.2.1 dX1_turn_0 rfl (lv_at hl 0 rfl) ?_
  refine lv_iload_n S.1 S.2.1 dX1_turn_1 rfl (lv_at hl 1 rfl) ?_
  refine s_callV (C := RX1) (As := [.int what]) (rest := []) (i := i) (kd := 1) S hX G (k_X1_value6 l E i what v hi hi_1 e_v) (cwV (bytes := cX1_value) (maxL := 2) (ret := (some .int)) 1 S.2.2.2.2 gX1_turn_X1_value rfl rfl rfl (by decide +kernel) ⟨Nat.le_of_ble_eq_true rfl, Nat.le_of_ble_eq_true rfl⟩) hi rfl rfl rfl (by decide) rfl hl.1 rfl (Nat.le_of_ble_eq_true rfl) ⟨Nat.zero_le _, Nat.zero_le _⟩ dX1_turn_2 (fun v I1 L1 H locs hR G => ?_)
  obtain ⟨hv, hI, hL⟩ := hR
  subst hv
  have G : GS E I L sg H locs := G.same hI hL
  refine W.eq (g2 := F0 mg 5 ls [.int (if ¬ what < 0 ∧ ¬ (6 : Int32) ≤ what then v what.toNatClampNeg else 0)]) rfl ?_
  refine lv_topi (fun y_1 ey_1 => ?_)
  refine lv_istore_n (lv' := [(3, .int y_1), (0, .ref (E.2.2.2 i)), (1, .int what), (2, .int value)]) S.1 S.2.1 dX1_turn_5 rfl hl (by decide) rfl (fun ls hl => ?_)
  refine lv_aload_n S.1 S.2.1 dX1_turn_6 rfl (lv_at hl 1 rfl) ?_
  refine lv_iload_n S.1 S.2.1 dX1_turn_7 rfl (lv_at hl 2 rfl) ?_
  refine s_callV (C := RX1) (As := [.int what]) (rest := []) (i := i) (kd := 1) S hX G (k_X1_has6 l E i what hi hi_1) (cwV (bytes := cX1_has) (maxL := 2) (ret := (some .boolean)) 1 S.2.2.2.2 gX1_turn_X1_has rfl rfl rfl (by decide +kernel) ⟨Nat.le_of_ble_eq_true rfl, Nat.le_of_ble_eq_true rfl⟩) hi rfl rfl rfl (by decide) rfl hl.1 rfl (Nat.le_of_ble_eq_true rfl) ⟨Nat.zero_le _, Nat.zero_le _⟩ dX1_turn_8 (fun v I1 L1 H locs hR G => ?_)
  obtain ⟨hv, hI, hL⟩ := hR
  subst hv
  have G : GS E I L sg H locs := G.same hI hL
  refine W.eq (g2 := F0 mg 11 ls [.int (if ¬ what < 0 ∧ ¬ (6 : Int32) ≤ what then 1 else 0)]) rfl ?_
  refine s_if_eq_b (P := ¬ what < 0 ∧ ¬ (6 : Int32) ≤ what) (tgt := 21) S dX1_turn_11 (by decide) (fun c_2 => ?_) (fun c_2 => ?_)
  · refine lv_iload_n S.1 S.2.1 dX1_turn_21 rfl (lv_at hl 0 rfl) ?_
    refine s_iret (x := y_1) S G hr hlk dX1_turn_22 ?_
    exact ⟨(congrArg (fun q : Int32 => some (Value.int q)) (show y_1 = (if ¬ what < 0 ∧ ¬ (6 : Int32) ≤ what then v what.toNatClampNeg else 0) by subst ey_1; (first | (simp [c_2]; done) | (clear S hX G hl; grind [])))), (st_eq1 (Eq.trans e_v (show v = (if ¬ what < 0 ∧ ¬ (6 : Int32) ≤ what then upd v what.toNatClampNeg value else v) by subst ey_1; (first | (simp [c_2]; done) | (clear S hX G hl; grind [])))) (fun _ g0 => rfl)), rfl⟩
  · refine lv_aload_n S.1 S.2.1 dX1_turn_14 rfl (lv_at hl 1 rfl) ?_
    refine s_get S hX G (i := i) (kd := 1) (a := (I i)) (v := .ref (E.2.2.2 (i + 1))) (C := RX1) (T := TX1) (N := 2) 1 hi rfl rfl rfl (by decide) rfl (fun _ h => (List.mem_cons_of_mem _ (List.mem_append_right _ h))) (by decide) (List.mem_of_getElem? (i := 1) rfl) (fun _ h => h) dX1_turn_15 ?_
    refine lv_iload_n S.1 S.2.1 dX1_turn_18 rfl (lv_at hl 2 rfl) ?_
    refine lv_iload_n S.1 S.2.1 dX1_turn_19 rfl (lv_at hl 3 rfl) ?_
    refine s_iast S hX G (i := (i + 1)) (kd := 20) (n := 6) (jn := what.toNatClampNeg) (a := v) (I' := (up I (i + 1) (upd v what.toNatClampNeg value))) hi_1 e_v (fun _ => rfl) (by decide) (vp_lt c_2.1 c_2.2 (by decide)) rfl rfl dX1_turn_20 (fun H locs G => ?_)
    refine lv_iload_n S.1 S.2.1 dX1_turn_21 rfl (lv_at hl 0 rfl) ?_
    refine s_iret (x := y_1) S G hr hlk dX1_turn_22 ?_
    exact ⟨(congrArg (fun q : Int32 => some (Value.int q)) (show y_1 = (if ¬ what < 0 ∧ ¬ (6 : Int32) ≤ what then v what.toNatClampNeg else 0) by subst ey_1; (first | (simp [c_2]; done) | (clear S hX G hl; grind [])))), (st_eq1 (Eq.trans up_eq (show (upd v what.toNatClampNeg value) = (if ¬ what < 0 ∧ ¬ (6 : Int32) ≤ what then upd v what.toNatClampNeg value else v) by subst ey_1; (first | (simp [c_2]; done) | (clear S hX G hl; grind [])))) (fun _ g0 => (up_ne g0))), rfl⟩
set_option maxHeartbeats 4000000 in
set_option maxRecDepth 100000 in
theorem k_X1_has4 (l : Launch) (E : Ev) {I : SI} {L : SL} (i : Nat) (what : Int32) (hi : sh (i) = 1) (hi_1 : sh (i+1) = 18) : CS l yX1_has wsX1_has ({ frames := 0, cells := 0, slots := 0, locals := 0 }) E [.ref (E.2.2.2 i), .int what] I L (fun vv I' L' => vv = some (.int (if ¬ what < 0 ∧ ¬ (4 : Int32) ≤ what then 1 else 0)) ∧ I' = I ∧ L' = L) := by
  refine CS.of (cc := cX1_has) (maxL := 2) (ret := (some .boolean)) (by decide) rfl (Nat.le_of_ble_eq_true rfl) ?_
  intro pg en sg mg below meth cg ls S hr hlk hX G hl
  have S : CallFix pg mg cg cX1_has 2 sg _ wsX1_has RX1 := S
  have hl : lv_has ls 2 [(0, .ref (E.2.2.2 i)), (1, .int what)] := hl
  refine lv_iload_n S.1 S.2.1 dX1_has_0 rfl (lv_at hl 1 rfl) ?_
  refine lv_if_lt (tgt := 17) S.1 S.2.1 dX1_has_1 (by decide) (fun c_1 => ?_) (fun c_1 => ?_)
  · refine lv_iconst (v := (0 : Int32)) S.1 S.2.1 dX1_has_17 (by decide) ?_
    refine s_zret (x := (0 : Int32)) S G hr hlk dX1_has_18 (Or.inl rfl) ?_
    exact ⟨(congrArg (fun q : Int32 => some (Value.int q)) (show (0 : Int32) = (if ¬ what < 0 ∧ ¬ (4 : Int32) ≤ what then 1 else 0) by first | (simp [c_1]; done) | (clear S hX G hl; grind []))), rfl, rfl⟩
  · refine lv_iload_n S.1 S.2.1 dX1_has_4 rfl (lv_at hl 1 rfl) ?_
    refine lv_aload_n S.1 S.2.1 dX1_has_5 rfl (lv_at hl 0 rfl) ?_
    refine s_get S hX G (i := i) (kd := 1) (a := (I i)) (v := .ref (E.2.2.2 (i + 1))) (C := RX1) (T := TX1) (N := 2) 1 hi rfl rfl rfl (by decide) rfl (fun _ h => (List.mem_cons_of_mem _ (List.mem_append_right _ h))) (by decide) (List.mem_of_getElem? (i := 1) rfl) (fun _ h => h) dX1_has_6 ?_
    refine s_alen (x := (4 : Int32)) S hX G (i := (i + 1)) (kd := 18) (n := 4) hi_1 rfl (by decide) (by decide) dX1_has_9 ?_
    refine lv_icmp_ge (tgt := 17) S.1 S.2.1 dX1_has_10 (by decide) (fun c_2 => ?_) (fun c_2 => ?_)
    · refine lv_iconst (v := (0 : Int32)) S.1 S.2.1 dX1_has_17 (by decide) ?_
      refine s_zret (x := (0 : Int32)) S G hr hlk dX1_has_18 (Or.inl rfl) ?_
      exact ⟨(congrArg (fun q : Int32 => some (Value.int q)) (show (0 : Int32) = (if ¬ what < 0 ∧ ¬ (4 : Int32) ≤ what then 1 else 0) by first | (simp [c_1, c_2]; done) | (clear S hX G hl; grind []))), rfl, rfl⟩
    · refine lv_iconst (v := (1 : Int32)) S.1 S.2.1 dX1_has_13 (by decide) ?_
      refine lv_goto (tgt := 18) S.1 S.2.1 dX1_has_14 (by decide) ?_
      refine s_zret (x := (1 : Int32)) S G hr hlk dX1_has_18 (Or.inr rfl) ?_
      exact ⟨(congrArg (fun q : Int32 => some (Value.int q)) (show (1 : Int32) = (if ¬ what < 0 ∧ ¬ (4 : Int32) ≤ what then 1 else 0) by first | (simp [c_1, c_2]; done) | (clear S hX G hl; grind []))), rfl, rfl⟩
set_option maxHeartbeats 4000000 in
set_option maxRecDepth 100000 in
theorem k_X1_copyFrom4 (l : Launch) (E : Ev) {I : SI} {L : SL} (i : Nat) (j : Nat) (a : Nat → Int32) (b : Nat → Int32) (hi : sh (i) = 1) (hi_1 : sh (i+1) = 18) (hj : sh (j) = 1) (hj_1 : sh (j+1) = 18) (e_a : I (i+1) = a) (e_b : I (j+1) = b) : CS l yX1_copyFrom wsX1_copyFrom ({ frames := 1, cells := 0, slots := 0, locals := 18 }) E [.ref (E.2.2.2 i), .ref (E.2.2.2 j)] I L (fun vv I' L' => vv = none ∧ I' = (up I (i+1) (va_cpy b a 0 0 4)) ∧ L' = L) := by
  refine CS.of (cc := cX1_copyFrom) (maxL := 2) (ret := none) (by decide) rfl (Nat.le_of_ble_eq_true rfl) ?_
  intro pg en sg mg below meth cg ls S hr hlk hX G hl
  have S : CallFix pg mg cg cX1_copyFrom 2 sg _ wsX1_copyFrom RX1 := S
  have hl : lv_has ls 2 [(0, .ref (E.2.2.2 i)), (1, .ref (E.2.2.2 j))] := hl
  refine lv_aload_n S.1 S.2.1 dX1_copyFrom_0 rfl (lv_at hl 1 rfl) ?_
  refine s_get S hX G (i := j) (kd := 1) (a := (I j)) (v := .ref (E.2.2.2 (j + 1))) (C := RX1) (T := TX1) (N := 2) 1 hj rfl rfl rfl (by decide) rfl (fun _ h => (List.mem_cons_of_mem _ (List.mem_append_right _ h))) (by decide) (List.mem_of_getElem? (i := 1) rfl) (fun _ h => h) dX1_copyFrom_1 ?_
  refine lv_iconst (v := (0 : Int32)) S.1 S.2.1 dX1_copyFrom_4 (by decide) ?_
  refine lv_aload_n S.1 S.2.1 dX1_copyFrom_5 rfl (lv_at hl 0 rfl) ?_
  refine s_get S hX G (i := i) (kd := 1) (a := (I i)) (v := .ref (E.2.2.2 (i + 1))) (C := RX1) (T := TX1) (N := 2) 1 hi rfl rfl rfl (by decide) rfl (fun _ h => (List.mem_cons_of_mem _ (List.mem_append_right _ h))) (by decide) (List.mem_of_getElem? (i := 1) rfl) (fun _ h => h) dX1_copyFrom_6 ?_
  refine lv_iconst (v := (0 : Int32)) S.1 S.2.1 dX1_copyFrom_9 (by decide) ?_
  refine lv_aload_n S.1 S.2.1 dX1_copyFrom_10 rfl (lv_at hl 0 rfl) ?_
  refine s_get S hX G (i := i) (kd := 1) (a := (I i)) (v := .ref (E.2.2.2 (i + 1))) (C := RX1) (T := TX1) (N := 2) 1 hi rfl rfl rfl (by decide) rfl (fun _ h => (List.mem_cons_of_mem _ (List.mem_append_right _ h))) (by decide) (List.mem_of_getElem? (i := 1) rfl) (fun _ h => h) dX1_copyFrom_11 ?_
  refine s_alen (x := (4 : Int32)) S hX G (i := (i + 1)) (kd := 18) (n := 4) hi_1 rfl (by decide) (by decide) dX1_copyFrom_14 ?_
  refine s_copy S hX G (i := (j + 1)) (j := (i + 1)) (kd := 18) (n := 4) (a := b) (b := a) (I' := (up I (i + 1) (va_cpy b a 0 0 4))) hj_1 hi_1 e_b e_a (fun _ => rfl) (fun _ => rfl) (by decide) (by decide) (by decide) rfl (List.mem_of_getElem? (i := 2) rfl) (List.mem_of_getElem? (i := 3) rfl) (List.mem_of_getElem? (i := 4) rfl) (List.mem_of_getElem? (i := 5) rfl) hl.1 (Nat.le_of_ble_eq_true rfl) (Nat.le_of_ble_eq_true rfl) dX1_copyFrom_15 (fun H locs G => ?_)
  refine s_vret S G hr hlk dX1_copyFrom_18 ?_
  exact ⟨rfl, (st_eq1 up_eq (fun _ g0 => (up_ne g0))), rfl⟩
set_option maxHeartbeats 4000000 in
set_option maxRecDepth 100000 in
theorem k_X1_value4 (l : Launch) (E : Ev) {I : SI} {L : SL} (i : Nat) (what : Int32) (v : Nat → Int32) (hi : sh (i) = 1) (hi_1 : sh (i+1) = 18) (e_v : I (i+1) = v) : CS l yX1_value wsX1_value ({ frames := 1, cells := 0, slots := 0, locals := 21 }) E [.ref (E.2.2.2 i), .int what] I L (fun vv I' L' => vv = some (.int (if ¬ what < 0 ∧ ¬ (4 : Int32) ≤ what then v what.toNatClampNeg else 0)) ∧ I' = I ∧ L' = L) := by
  refine CS.of (cc := cX1_value) (maxL := 2) (ret := (some .int)) (by decide) rfl (Nat.le_of_ble_eq_true rfl) ?_
  intro pg en sg mg below meth cg ls S hr hlk hX G hl
  have S : CallFix pg mg cg cX1_value 2 sg _ wsX1_value RX1 := S
  have hl : lv_has ls 2 [(0, .ref (E.2.2.2 i)), (1, .int what)] := hl
  refine lv_aload_n S.1 S.2.1 dX1_value_0 rfl (lv_at hl 0 rfl) ?_
  refine lv_iload_n S.1 S.2.1 dX1_value_1 rfl (lv_at hl 1 rfl) ?_
  refine s_callV (C := RX1) (As := [.int what]) (rest := []) (i := i) (kd := 1) S hX G (k_X1_has4 l E i what hi hi_1) (cwV (bytes := cX1_has) (maxL := 2) (ret := (some .boolean)) 1 S.2.2.2.2 gX1_value_X1_has rfl rfl rfl (by decide +kernel) ⟨Nat.le_of_ble_eq_true rfl, Nat.le_of_ble_eq_true rfl⟩) hi rfl rfl rfl (by decide) rfl hl.1 rfl (Nat.le_of_ble_eq_true rfl) ⟨Nat.zero_le _, Nat.zero_le _⟩ dX1_value_2 (fun v I1 L1 H locs hR G => ?_)
  obtain ⟨hv, hI, hL⟩ := hR
  subst hv
  have G : GS E I L sg H locs := G.same hI hL
  refine W.eq (g2 := F0 mg 5 ls [.int (if ¬ what < 0 ∧ ¬ (4 : Int32) ≤ what then 1 else 0)]) rfl ?_
  refine s_if_eq_b (P := ¬ what < 0 ∧ ¬ (4 : Int32) ≤ what) (tgt := 17) S dX1_value_5 (by decide) (fun c_1 => ?_) (fun c_1 => ?_)
  · refine lv_iconst (v := (0 : Int32)) S.1 S.2.1 dX1_value_17 (by decide) ?_
    refine s_iret (x := (0 : Int32)) S G hr hlk dX1_value_18 ?_
    exact ⟨(congrArg (fun q : Int32 => some (Value.int q)) (show (0 : Int32) = (if ¬ what < 0 ∧ ¬ (4 : Int32) ≤ what then v what.toNatClampNeg else 0) by first | (simp [c_1]; done) | (clear S hX G hl; grind []))), rfl, rfl⟩
  · refine lv_aload_n S.1 S.2.1 dX1_value_8 rfl (lv_at hl 0 rfl) ?_
    refine s_get S hX G (i := i) (kd := 1) (a := (I i)) (v := .ref (E.2.2.2 (i + 1))) (C := RX1) (T := TX1) (N := 2) 1 hi rfl rfl rfl (by decide) rfl (fun _ h => (List.mem_cons_of_mem _ (List.mem_append_right _ h))) (by decide) (List.mem_of_getElem? (i := 1) rfl) (fun _ h => h) dX1_value_9 ?_
    refine lv_iload_n S.1 S.2.1 dX1_value_12 rfl (lv_at hl 1 rfl) ?_
    refine s_iald S hX G (i := (i + 1)) (kd := 18) (n := 4) (a := v) (x := (v what.toNatClampNeg)) hi_1 e_v rfl (by decide) (vp_lt c_1.1 c_1.2 (by decide)) (congrArg v rfl) dX1_value_13 ?_
    refine lv_goto (tgt := 18) S.1 S.2.1 dX1_value_14 (by decide) ?_
    refine s_iret (x := (v what.toNatClampNeg)) S G hr hlk dX1_value_18 ?_
    exact ⟨(congrArg (fun q : Int32 => some (Value.int q)) (show (v what.toNatClampNeg) = (if ¬ what < 0 ∧ ¬ (4 : Int32) ≤ what then v what.toNatClampNeg else 0) by first | (simp [c_1]; done) | (clear S hX G hl; grind []))), rfl, rfl⟩
set_option maxHeartbeats 4000000 in
set_option maxRecDepth 100000 in
theorem k_X1_value4_0 (l : Launch) (E : Ev) {I : SI} {L : SL} (i : Nat) (v : Nat → Int32) (hi : sh (i) = 1) (hi_1 : sh (i+1) = 18) (e_v : I (i+1) = v) : CS l yX1_value wsX1_value ({ frames := 1, cells := 0, slots := 0, locals := 21 }) E [.ref (E.2.2.2 i), .int (0 : Int32)] I L (fun vv I' L' => vv = some (.int (v 0)) ∧ I' = I ∧ L' = L) := by
  refine CS.of (cc := cX1_value) (maxL := 2) (ret := (some .int)) (by decide) rfl (Nat.le_of_ble_eq_true rfl) ?_
  intro pg en sg mg below meth cg ls S hr hlk hX G hl
  have S : CallFix pg mg cg cX1_value 2 sg _ wsX1_value RX1 := S
  have hl : lv_has ls 2 [(0, .ref (E.2.2.2 i)), (1, .int (0 : Int32))] := hl
  refine lv_aload_n S.1 S.2.1 dX1_value_0 rfl (lv_at hl 0 rfl) ?_
  refine lv_iload_n S.1 S.2.1 dX1_value_1 rfl (lv_at hl 1 rfl) ?_
  refine s_callV (C := RX1) (As := [.int (0 : Int32)]) (rest := []) (i := i) (kd := 1) S hX G (k_X1_has4 l E i (0 : Int32) hi hi_1) (cwV (bytes := cX1_has) (maxL := 2) (ret := (some .boolean)) 1 S.2.2.2.2 gX1_value_X1_has rfl rfl rfl (by decide +kernel) ⟨Nat.le_of_ble_eq_true rfl, Nat.le_of_ble_eq_true rfl⟩) hi rfl rfl rfl (by decide) rfl hl.1 rfl (Nat.le_of_ble_eq_true rfl) ⟨Nat.zero_le _, Nat.zero_le _⟩ dX1_value_2 (fun v I1 L1 H locs hR G => ?_)
  obtain ⟨hv, hI, hL⟩ := hR
  subst hv
  have G : GS E I L sg H locs := G.same hI hL
  refine W.eq (g2 := F0 mg 5 ls [.int (if ¬ (0 : Int32) < 0 ∧ ¬ (4 : Int32) ≤ (0 : Int32) then 1 else 0)]) rfl ?_
  refine s_if_eq_b (P := ¬ (0 : Int32) < 0 ∧ ¬ (4 : Int32) ≤ (0 : Int32)) (tgt := 17) S dX1_value_5 (by decide) (fun h => absurd (by decide) h) (fun _ => ?_)
  refine lv_aload_n S.1 S.2.1 dX1_value_8 rfl (lv_at hl 0 rfl) ?_
  refine s_get S hX G (i := i) (kd := 1) (a := (I i)) (v := .ref (E.2.2.2 (i + 1))) (C := RX1) (T := TX1) (N := 2) 1 hi rfl rfl rfl (by decide) rfl (fun _ h => (List.mem_cons_of_mem _ (List.mem_append_right _ h))) (by decide) (List.mem_of_getElem? (i := 1) rfl) (fun _ h => h) dX1_value_9 ?_
  refine lv_iload_n S.1 S.2.1 dX1_value_12 rfl (lv_at hl 1 rfl) ?_
  refine s_iald S hX G (i := (i + 1)) (kd := 18) (n := 4) (a := v) (x := (v 0)) hi_1 e_v rfl (by decide) (by unfold vp_in; decide) (congrArg v (by decide)) dX1_value_13 ?_
  refine lv_goto (tgt := 18) S.1 S.2.1 dX1_value_14 (by decide) ?_
  refine s_iret (x := (v 0)) S G hr hlk dX1_value_18 ?_
  exact ⟨rfl, rfl, rfl⟩
set_option maxHeartbeats 4000000 in
set_option maxRecDepth 100000 in
theorem k_X1_value4_1 (l : Launch) (E : Ev) {I : SI} {L : SL} (i : Nat) (v : Nat → Int32) (hi : sh (i) = 1) (hi_1 : sh (i+1) = 18) (e_v : I (i+1) = v) : CS l yX1_value wsX1_value ({ frames := 1, cells := 0, slots := 0, locals := 21 }) E [.ref (E.2.2.2 i), .int (1 : Int32)] I L (fun vv I' L' => vv = some (.int (v 1)) ∧ I' = I ∧ L' = L) := by
  refine CS.of (cc := cX1_value) (maxL := 2) (ret := (some .int)) (by decide) rfl (Nat.le_of_ble_eq_true rfl) ?_
  intro pg en sg mg below meth cg ls S hr hlk hX G hl
  have S : CallFix pg mg cg cX1_value 2 sg _ wsX1_value RX1 := S
  have hl : lv_has ls 2 [(0, .ref (E.2.2.2 i)), (1, .int (1 : Int32))] := hl
  refine lv_aload_n S.1 S.2.1 dX1_value_0 rfl (lv_at hl 0 rfl) ?_
  refine lv_iload_n S.1 S.2.1 dX1_value_1 rfl (lv_at hl 1 rfl) ?_
  refine s_callV (C := RX1) (As := [.int (1 : Int32)]) (rest := []) (i := i) (kd := 1) S hX G (k_X1_has4 l E i (1 : Int32) hi hi_1) (cwV (bytes := cX1_has) (maxL := 2) (ret := (some .boolean)) 1 S.2.2.2.2 gX1_value_X1_has rfl rfl rfl (by decide +kernel) ⟨Nat.le_of_ble_eq_true rfl, Nat.le_of_ble_eq_true rfl⟩) hi rfl rfl rfl (by decide) rfl hl.1 rfl (Nat.le_of_ble_eq_true rfl) ⟨Nat.zero_le _, Nat.zero_le _⟩ dX1_value_2 (fun v I1 L1 H locs hR G => ?_)
  obtain ⟨hv, hI, hL⟩ := hR
  subst hv
  have G : GS E I L sg H locs := G.same hI hL
  refine W.eq (g2 := F0 mg 5 ls [.int (if ¬ (1 : Int32) < 0 ∧ ¬ (4 : Int32) ≤ (1 : Int32) then 1 else 0)]) rfl ?_
  refine s_if_eq_b (P := ¬ (1 : Int32) < 0 ∧ ¬ (4 : Int32) ≤ (1 : Int32)) (tgt := 17) S dX1_value_5 (by decide) (fun h => absurd (by decide) h) (fun _ => ?_)
  refine lv_aload_n S.1 S.2.1 dX1_value_8 rfl (lv_at hl 0 rfl) ?_
  refine s_get S hX G (i := i) (kd := 1) (a := (I i)) (v := .ref (E.2.2.2 (i + 1))) (C := RX1) (T := TX1) (N := 2) 1 hi rfl rfl rfl (by decide) rfl (fun _ h => (List.mem_cons_of_mem _ (List.mem_append_right _ h))) (by decide) (List.mem_of_getElem? (i := 1) rfl) (fun _ h => h) dX1_value_9 ?_
  refine lv_iload_n S.1 S.2.1 dX1_value_12 rfl (lv_at hl 1 rfl) ?_
  refine s_iald S hX G (i := (i + 1)) (kd := 18) (n := 4) (a := v) (x := (v 1)) hi_1 e_v rfl (by decide) (by unfold vp_in; decide) (congrArg v (by decide)) dX1_value_13 ?_
  refine lv_goto (tgt := 18) S.1 S.2.1 dX1_value_14 (by decide) ?_
  refine s_iret (x := (v 1)) S G hr hlk dX1_value_18 ?_
  exact ⟨rfl, rfl, rfl⟩
set_option maxHeartbeats 4000000 in
set_option maxRecDepth 100000 in
theorem k_X1_value4_2 (l : Launch) (E : Ev) {I : SI} {L : SL} (i : Nat) (v : Nat → Int32) (hi : sh (i) = 1) (hi_1 : sh (i+1) = 18) (e_v : I (i+1) = v) : CS l yX1_value wsX1_value ({ frames := 1, cells := 0, slots := 0, locals := 21 }) E [.ref (E.2.2.2 i), .int (2 : Int32)] I L (fun vv I' L' => vv = some (.int (v 2)) ∧ I' = I ∧ L' = L) := by
  refine CS.of (cc := cX1_value) (maxL := 2) (ret := (some .int)) (by decide) rfl (Nat.le_of_ble_eq_true rfl) ?_
  intro pg en sg mg below meth cg ls S hr hlk hX G hl
  have S : CallFix pg mg cg cX1_value 2 sg _ wsX1_value RX1 := S
  have hl : lv_has ls 2 [(0, .ref (E.2.2.2 i)), (1, .int (2 : Int32))] := hl
  refine lv_aload_n S.1 S.2.1 dX1_value_0 rfl (lv_at hl 0 rfl) ?_
  refine lv_iload_n S.1 S.2.1 dX1_value_1 rfl (lv_at hl 1 rfl) ?_
  refine s_callV (C := RX1) (As := [.int (2 : Int32)]) (rest := []) (i := i) (kd := 1) S hX G (k_X1_has4 l E i (2 : Int32) hi hi_1) (cwV (bytes := cX1_has) (maxL := 2) (ret := (some .boolean)) 1 S.2.2.2.2 gX1_value_X1_has rfl rfl rfl (by decide +kernel) ⟨Nat.le_of_ble_eq_true rfl, Nat.le_of_ble_eq_true rfl⟩) hi rfl rfl rfl (by decide) rfl hl.1 rfl (Nat.le_of_ble_eq_true rfl) ⟨Nat.zero_le _, Nat.zero_le _⟩ dX1_value_2 (fun v I1 L1 H locs hR G => ?_)
  obtain ⟨hv, hI, hL⟩ := hR
  subst hv
  have G : GS E I L sg H locs := G.same hI hL
  refine W.eq (g2 := F0 mg 5 ls [.int (if ¬ (2 : Int32) < 0 ∧ ¬ (4 : Int32) ≤ (2 : Int32) then 1 else 0)]) rfl ?_
  refine s_if_eq_b (P := ¬ (2 : Int32) < 0 ∧ ¬ (4 : Int32) ≤ (2 : Int32)) (tgt := 17) S dX1_value_5 (by decide) (fun h => absurd (by decide) h) (fun _ => ?_)
  refine lv_aload_n S.1 S.2.1 dX1_value_8 rfl (lv_at hl 0 rfl) ?_
  refine s_get S hX G (i := i) (kd := 1) (a := (I i)) (v := .ref (E.2.2.2 (i + 1))) (C := RX1) (T := TX1) (N := 2) 1 hi rfl rfl rfl (by decide) rfl (fun _ h => (List.mem_cons_of_mem _ (List.mem_append_right _ h))) (by decide) (List.mem_of_getElem? (i := 1) rfl) (fun _ h => h) dX1_value_9 ?_
  refine lv_iload_n S.1 S.2.1 dX1_value_12 rfl (lv_at hl 1 rfl) ?_
  refine s_iald S hX G (i := (i + 1)) (kd := 18) (n := 4) (a := v) (x := (v 2)) hi_1 e_v rfl (by decide) (by unfold vp_in; decide) (congrArg v (by decide)) dX1_value_13 ?_
  refine lv_goto (tgt := 18) S.1 S.2.1 dX1_value_14 (by decide) ?_
  refine s_iret (x := (v 2)) S G hr hlk dX1_value_18 ?_
  exact ⟨rfl, rfl, rfl⟩
set_option maxHeartbeats 4000000 in
set_option maxRecDepth 100000 in
theorem k_X1_value4_3 (l : Launch) (E : Ev) {I : SI} {L : SL} (i : Nat) (v : Nat → Int32) (hi : sh (i) = 1) (hi_1 : sh (i+1) = 18) (e_v : I (i+1) = v) : CS l yX1_value wsX1_value ({ frames := 1, cells := 0, slots := 0, locals := 21 }) E [.ref (E.2.2.2 i), .int (3 : Int32)] I L (fun vv I' L' => vv = some (.int (v 3)) ∧ I' = I ∧ L' = L) := by
  refine CS.of (cc := cX1_value) (maxL := 2) (ret := (some .int)) (by decide) rfl (Nat.le_of_ble_eq_true rfl) ?_
  intro pg en sg mg below meth cg ls S hr hlk hX G hl
  have S : CallFix pg mg cg cX1_value 2 sg _ wsX1_value RX1 := S
  have hl : lv_has ls 2 [(0, .ref (E.2.2.2 i)), (1, .int (3 : Int32))] := hl
  refine lv_aload_n S.1 S.2.1 dX1_value_0 rfl (lv_at hl 0 rfl) ?_
  refine lv_iload_n S.1 S.2.1 dX1_value_1 rfl (lv_at hl 1 rfl) ?_
  refine s_callV (C := RX1) (As := [.int (3 : Int32)]) (rest := []) (i := i) (kd := 1) S hX G (k_X1_has4 l E i (3 : Int32) hi hi_1) (cwV (bytes := cX1_has) (maxL := 2) (ret := (some .boolean)) 1 S.2.2.2.2 gX1_value_X1_has rfl rfl rfl (by decide +kernel) ⟨Nat.le_of_ble_eq_true rfl, Nat.le_of_ble_eq_true rfl⟩) hi rfl rfl rfl (by decide) rfl hl.1 rfl (Nat.le_of_ble_eq_true rfl) ⟨Nat.zero_le _, Nat.zero_le _⟩ dX1_value_2 (fun v I1 L1 H locs hR G => ?_)
  obtain ⟨hv, hI, hL⟩ := hR
  subst hv
  have G : GS E I L sg H locs := G.same hI hL
  refine W.eq (g2 := F0 mg 5 ls [.int (if ¬ (3 : Int32) < 0 ∧ ¬ (4 : Int32) ≤ (3 : Int32) then 1 else 0)]) rfl ?_
  refine s_if_eq_b (P := ¬ (3 : Int32) < 0 ∧ ¬ (4 : Int32) ≤ (3 : Int32)) (tgt := 17) S dX1_value_5 (by decide) (fun h => absurd (by decide) h) (fun _ => ?_)
  refine lv_aload_n S.1 S.2.1 dX1_value_8 rfl (lv_at hl 0 rfl) ?_
  refine s_get S hX G (i := i) (kd := 1) (a := (I i)) (v := .ref (E.2.2.2 (i + 1))) (C := RX1) (T := TX1) (N := 2) 1 hi rfl rfl rfl (by decide) rfl (fun _ h => (List.mem_cons_of_mem _ (List.mem_append_right _ h))) (by decide) (List.mem_of_getElem? (i := 1) rfl) (fun _ h => h) dX1_value_9 ?_
  refine lv_iload_n S.1 S.2.1 dX1_value_12 rfl (lv_at hl 1 rfl) ?_
  refine s_iald S hX G (i := (i + 1)) (kd := 18) (n := 4) (a := v) (x := (v 3)) hi_1 e_v rfl (by decide) (by unfold vp_in; decide) (congrArg v (by decide)) dX1_value_13 ?_
  refine lv_goto (tgt := 18) S.1 S.2.1 dX1_value_14 (by decide) ?_
  refine s_iret (x := (v 3)) S G hr hlk dX1_value_18 ?_
  exact ⟨rfl, rfl, rfl⟩
set_option maxHeartbeats 4000000 in
set_option maxRecDepth 100000 in
theorem k_X1_turn4 (l : Launch) (E : Ev) {I : SI} {L : SL} (i : Nat) (what : Int32) (value : Int32) (v : Nat → Int32) (hi : sh (i) = 1) (hi_1 : sh (i+1) = 18) (e_v : I (i+1) = v) : CS l yX1_turn wsX1_turn ({ frames := 2, cells := 0, slots := 0, locals := 42 }) E [.ref (E.2.2.2 i), .int what, .int value] I L (fun vv I' L' => vv = some (.int (if ¬ what < 0 ∧ ¬ (4 : Int32) ≤ what then v what.toNatClampNeg else 0)) ∧ I' = (up I (i+1) ((if ¬ what < 0 ∧ ¬ (4 : Int32) ≤ what then upd v what.toNatClampNeg value else v))) ∧ L' = L) := by
  refine CS.of (cc := cX1_turn) (maxL := 4) (ret := (some .int)) (by decide) rfl (Nat.le_of_ble_eq_true rfl) ?_
  intro pg en sg mg below meth cg ls S hr hlk hX G hl
  have S : CallFix pg mg cg cX1_turn 4 sg _ wsX1_turn RX1 := S
  have hl : lv_has ls 4 [(0, .ref (E.2.2.2 i)), (1, .int what), (2, .int value)] := hl
  refine lv_aload_n S.1 S.2.1 dX1_turn_0 rfl (lv_at hl 0 rfl) ?_
  refine lv_iload_n S.1 S.2.1 dX1_turn_1 rfl (lv_at hl 1 rfl) ?_
  refine s_callV (C := RX1) (As := [.int what]) (rest := []) (i := i) (kd := 1) S hX G (k_X1_value4 l E i what v hi hi_1 e_v) (cwV (bytes := cX1_value) (maxL := 2) (ret := (some .int)) 1 S.2.2.2.2 gX1_turn_X1_value rfl rfl rfl (by decide +kernel) ⟨Nat.le_of_ble_eq_true rfl, Nat.le_of_ble_eq_true rfl⟩) hi rfl rfl rfl (by decide) rfl hl.1 rfl (Nat.le_of_ble_eq_true rfl) ⟨Nat.zero_le _, Nat.zero_le _⟩ dX1_turn_2 (fun v I1 L1 H locs hR G => ?_)
  obtain ⟨hv, hI, hL⟩ := hR
  subst hv
  have G : GS E I L sg H locs := G.same hI hL
  refine W.eq (g2 := F0 mg 5 ls [.int (if ¬ what < 0 ∧ ¬ (4 : Int32) ≤ what then v what.toNatClampNeg else 0)]) rfl ?_
  refine lv_topi (fun y_1 ey_1 => ?_)
  refine lv_istore_n (lv' := [(3, .int y_1), (0, .ref (E.2.2.2 i)), (1, .int what), (2, .int value)]) S.1 S.2.1 dX1_turn_5 rfl hl (by decide) rfl (fun ls hl => ?_)
  refine lv_aload_n S.1 S.2.1 dX1_turn_6 rfl (lv_at hl 1 rfl) ?_
  refine lv_iload_n S.1 S.2.1 dX1_turn_7 rfl (lv_at hl 2 rfl) ?_
  refine s_callV (C := RX1) (As := [.int what]) (rest := []) (i := i) (kd := 1) S hX G (k_X1_has4 l E i what hi hi_1) (cwV (bytes := cX1_has) (maxL := 2) (ret := (some .boolean)) 1 S.2.2.2.2 gX1_turn_X1_has rfl rfl rfl (by decide +kernel) ⟨Nat.le_of_ble_eq_true rfl, Nat.le_of_ble_eq_true rfl⟩) hi rfl rfl rfl (by decide) rfl hl.1 rfl (Nat.le_of_ble_eq_true rfl) ⟨Nat.zero_le _, Nat.zero_le _⟩ dX1_turn_8 (fun v I1 L1 H locs hR G => ?_)
  obtain ⟨hv, hI, hL⟩ := hR
  subst hv
  have G : GS E I L sg H locs := G.same hI hL
  refine W.eq (g2 := F0 mg 11 ls [.int (if ¬ what < 0 ∧ ¬ (4 : Int32) ≤ what then 1 else 0)]) rfl ?_
  refine s_if_eq_b (P := ¬ what < 0 ∧ ¬ (4 : Int32) ≤ what) (tgt := 21) S dX1_turn_11 (by decide) (fun c_2 => ?_) (fun c_2 => ?_)
  · refine lv_iload_n S.1 S.2.1 dX1_turn_21 rfl (lv_at hl 0 rfl) ?_
    refine s_iret (x := y_1) S G hr hlk dX1_turn_22 ?_
    exact ⟨(congrArg (fun q : Int32 => some (Value.int q)) (show y_1 = (if ¬ what < 0 ∧ ¬ (4 : Int32) ≤ what then v what.toNatClampNeg else 0) by subst ey_1; (first | (simp [c_2]; done) | (clear S hX G hl; grind [])))), (st_eq1 (Eq.trans e_v (show v = (if ¬ what < 0 ∧ ¬ (4 : Int32) ≤ what then upd v what.toNatClampNeg value else v) by subst ey_1; (first | (simp [c_2]; done) | (clear S hX G hl; grind [])))) (fun _ g0 => rfl)), rfl⟩
  · refine lv_aload_n S.1 S.2.1 dX1_turn_14 rfl (lv_at hl 1 rfl) ?_
    refine s_get S hX G (i := i) (kd := 1) (a := (I i)) (v := .ref (E.2.2.2 (i + 1))) (C := RX1) (T := TX1) (N := 2) 1 hi rfl rfl rfl (by decide) rfl (fun _ h => (List.mem_cons_of_mem _ (List.mem_append_right _ h))) (by decide) (List.mem_of_getElem? (i := 1) rfl) (fun _ h => h) dX1_turn_15 ?_
    refine lv_iload_n S.1 S.2.1 dX1_turn_18 rfl (lv_at hl 2 rfl) ?_
    refine lv_iload_n S.1 S.2.1 dX1_turn_19 rfl (lv_at hl 3 rfl) ?_
    refine s_iast S hX G (i := (i + 1)) (kd := 18) (n := 4) (jn := what.toNatClampNeg) (a := v) (I' := (up I (i + 1) (upd v what.toNatClampNeg value))) hi_1 e_v (fun _ => rfl) (by decide) (vp_lt c_2.1 c_2.2 (by decide)) rfl rfl dX1_turn_20 (fun H locs G => ?_)
    refine lv_iload_n S.1 S.2.1 dX1_turn_21 rfl (lv_at hl 0 rfl) ?_
    refine s_iret (x := y_1) S G hr hlk dX1_turn_22 ?_
    exact ⟨(congrArg (fun q : Int32 => some (Value.int q)) (show y_1 = (if ¬ what < 0 ∧ ¬ (4 : Int32) ≤ what then v what.toNatClampNeg else 0) by subst ey_1; (first | (simp [c_2]; done) | (clear S hX G hl; grind [])))), (st_eq1 (Eq.trans up_eq (show (upd v what.toNatClampNeg value) = (if ¬ what < 0 ∧ ¬ (4 : Int32) ≤ what then upd v what.toNatClampNeg value else v) by subst ey_1; (first | (simp [c_2]; done) | (clear S hX G hl; grind [])))) (fun _ g0 => (up_ne g0))), rfl⟩
set_option maxHeartbeats 4000000 in
set_option maxRecDepth 100000 in
theorem k_X1_takes6 (l : Launch) (E : Ev) {I : SI} {L : SL} (i : Nat) (what : Int32) (value : Int32) (a : Nat → Int32) (hi : sh (i) = 1) (hi_1 : sh (i+1) = 20) (e_a : I (i) = a) (h0 : a 0 = 0) : CS l yX1_takes wsX1_takes ({ frames := 1, cells := 0, slots := 0, locals := 22 }) E [.ref (E.2.2.2 i), .int what, .int value] I L (fun vv I' L' => vv = some (.int (if (¬ what < 0 ∧ ¬ (6 : Int32) ≤ what) ∧ (¬ value < e_tab 0 what.toNatClampNeg ∧ ¬ e_tab 1 what.toNatClampNeg < value) then 1 else 0)) ∧ I' = I ∧ L' = L) := by
  refine CS.of (cc := cX1_takes) (maxL := 3) (ret := (some .boolean)) (by decide) rfl (Nat.le_of_ble_eq_true rfl) ?_
  intro pg en sg mg below meth cg ls S hr hlk hX G hl
  have S : CallFix pg mg cg cX1_takes 3 sg _ wsX1_takes RX1 := S
  have hl : lv_has ls 3 [(0, .ref (E.2.2.2 i)), (1, .int what), (2, .int value)] := hl
  refine lv_aload_n S.1 S.2.1 dX1_takes_0 rfl (lv_at hl 0 rfl) ?_
  refine lv_iload_n S.1 S.2.1 dX1_takes_1 rfl (lv_at hl 1 rfl) ?_
  refine s_callV (C := RX1) (As := [.int what]) (rest := []) (i := i) (kd := 1) S hX G (k_X1_has6 l E i what hi hi_1) (cwV (bytes := cX1_has) (maxL := 2) (ret := (some .boolean)) 1 S.2.2.2.2 gX1_takes_X1_has rfl rfl rfl (by decide +kernel) ⟨Nat.le_of_ble_eq_true rfl, Nat.le_of_ble_eq_true rfl⟩) hi rfl rfl rfl (by decide) rfl hl.1 rfl (Nat.le_of_ble_eq_true rfl) ⟨Nat.zero_le _, Nat.zero_le _⟩ dX1_takes_2 (fun v I1 L1 H locs hR G => ?_)
  obtain ⟨hv, hI, hL⟩ := hR
  subst hv
  have G : GS E I L sg H locs := G.same hI hL
  refine W.eq (g2 := F0 mg 5 ls [.int (if ¬ what < 0 ∧ ¬ (6 : Int32) ≤ what then 1 else 0)]) rfl ?_
  refine s_if_eq_b (P := ¬ what < 0 ∧ ¬ (6 : Int32) ≤ what) (tgt := 39) S dX1_takes_5 (by decide) (fun c_1 => ?_) (fun c_1 => ?_)
  · refine lv_iconst (v := (0 : Int32)) S.1 S.2.1 dX1_takes_39 (by decide) ?_
    refine s_zret (x := (0 : Int32)) S G hr hlk dX1_takes_40 (Or.inl rfl) ?_
    exact ⟨(congrArg (fun q : Int32 => some (Value.int q)) (show (0 : Int32) = (if (¬ what < 0 ∧ ¬ (6 : Int32) ≤ what) ∧ (¬ value < e_tab 0 what.toNatClampNeg ∧ ¬ e_tab 1 what.toNatClampNeg < value) then 1 else 0) by first | (simp [c_1]; done) | (clear S hX G hl; grind []))), rfl, rfl⟩
  · refine lv_iload_n S.1 S.2.1 dX1_takes_8 rfl (lv_at hl 2 rfl) ?_
    refine s_gets S hX G 0 (by decide) (List.mem_of_getElem? (i := 38) rfl) dX1_takes_9 (fun t_2 ht_2 => ?_)
    refine lv_aload_n S.1 S.2.1 dX1_takes_12 rfl (lv_at hl 0 rfl) ?_
    refine s_get S hX G (i := i) (kd := 1) (a := a) (v := .int (a 0)) (C := RX1) (T := TX1) (N := 2) 0 hi e_a rfl rfl (by decide) rfl (fun _ h => (List.mem_cons_of_mem _ (List.mem_append_right _ h))) (by decide) (List.mem_of_getElem? (i := 1) rfl) (fun _ h => h) dX1_takes_13 ?_
    refine lv_iload_n S.1 S.2.1 dX1_takes_16 rfl (lv_at hl 1 rfl) ?_
    refine s_iadd (v := what) S dX1_takes_17 (by rw [h0]; exact Int32.zero_add _) ?_
    refine s_tald (x := (e_tab 0 what.toNatClampNeg)) S G ht_2 (vp_lt c_1.1 c_1.2 (by decide)) (congrArg (e_tab 0) rfl) dX1_takes_18 ?_
    refine s_gets S hX G 1 (by decide) (List.mem_of_getElem? (i := 39) rfl) dX1_takes_19 (fun t_3 ht_3 => ?_)
    refine lv_aload_n S.1 S.2.1 dX1_takes_22 rfl (lv_at hl 0 rfl) ?_
    refine s_get S hX G (i := i) (kd := 1) (a := a) (v := .int (a 0)) (C := RX1) (T := TX1) (N := 2) 0 hi e_a rfl rfl (by decide) rfl (fun _ h => (List.mem_cons_of_mem _ (List.mem_append_right _ h))) (by decide) (List.mem_of_getElem? (i := 1) rfl) (fun _ h => h) dX1_takes_23 ?_
    refine lv_iload_n S.1 S.2.1 dX1_takes_26 rfl (lv_at hl 1 rfl) ?_
    refine s_iadd (v := what) S dX1_takes_27 (by rw [h0]; exact Int32.zero_add _) ?_
    refine s_tald (x := (e_tab 1 what.toNatClampNeg)) S G ht_3 (vp_lt c_1.1 c_1.2 (by decide)) (congrArg (e_tab 1) rfl) dX1_takes_28 ?_
    refine s_callSN (As := [.int value, .int (e_tab 0 what.toNatClampNeg), .int (e_tab 1 what.toNatClampNeg)]) (rest := []) S hX G (k_X8_isWithin l E value (e_tab 0 what.toNatClampNeg) (e_tab 1 what.toNatClampNeg)) (va_cnB (bytes := cX8_isWithin) (maxL := 3) (ret := (some .boolean)) 3 S.2.2.2.2 gX1_takes_X8_isWithin_n38 rfl rfl rfl (hX.2.2.1.2 _ (List.mem_of_getElem? (i := 1) rfl)) (S.2.2.2.2 _ (List.mem_of_getElem? (i := 9) rfl)) (by decide +kernel) ⟨Nat.le_of_ble_eq_true rfl, Nat.le_of_ble_eq_true rfl⟩) (List.mem_of_getElem? (i := 8) rfl) rfl hl.1 rfl (Nat.le_of_ble_eq_true rfl) ⟨Nat.zero_le _, Nat.zero_le _⟩ dX1_takes_29 (fun v I1 L1 H locs hR G => ?_)
    obtain ⟨hv, hI, hL⟩ := hR
    subst hv
    have G : GS E I L sg H locs := G.same hI hL
    refine W.eq (g2 := F0 mg 32 ls [.int (if ¬ value < (e_tab 0 what.toNatClampNeg) ∧ ¬ (e_tab 1 what.toNatClampNeg) < value then 1 else 0)]) rfl ?_
    refine s_if_eq_b (P := ¬ value < (e_tab 0 what.toNatClampNeg) ∧ ¬ (e_tab 1 what.toNatClampNeg) < value) (tgt := 39) S dX1_takes_32 (by decide) (fun c_4 => ?_) (fun c_4 => ?_)
    · refine lv_iconst (v := (0 : Int32)) S.1 S.2.1 dX1_takes_39 (by decide) ?_
      refine s_zret (x := (0 : Int32)) S G hr hlk dX1_takes_40 (Or.inl rfl) ?_
      exact ⟨(congrArg (fun q : Int32 => some (Value.int q)) (show (0 : Int32) = (if (¬ what < 0 ∧ ¬ (6 : Int32) ≤ what) ∧ (¬ value < e_tab 0 what.toNatClampNeg ∧ ¬ e_tab 1 what.toNatClampNeg < value) then 1 else 0) by first | (simp [c_1, c_4]; done) | (clear S hX G hl; grind []))), rfl, rfl⟩
    · refine lv_iconst (v := (1 : Int32)) S.1 S.2.1 dX1_takes_35 (by decide) ?_
      refine lv_goto (tgt := 40) S.1 S.2.1 dX1_takes_36 (by decide) ?_
      refine s_zret (x := (1 : Int32)) S G hr hlk dX1_takes_40 (Or.inr rfl) ?_
      exact ⟨(congrArg (fun q : Int32 => some (Value.int q)) (show (1 : Int32) = (if (¬ what < 0 ∧ ¬ (6 : Int32) ≤ what) ∧ (¬ value < e_tab 0 what.toNatClampNeg ∧ ¬ e_tab 1 what.toNatClampNeg < value) then 1 else 0) by first | (simp [c_1, c_4]; done) | (clear S hX G hl; grind []))), rfl, rfl⟩
set_option maxHeartbeats 4000000 in
set_option maxRecDepth 100000 in
theorem k_X1_takes4 (l : Launch) (E : Ev) {I : SI} {L : SL} (i : Nat) (what : Int32) (value : Int32) (a : Nat → Int32) (hi : sh (i) = 1) (hi_1 : sh (i+1) = 18) (e_a : I (i) = a) (h0 : a 0 = (6 : Int32)) : CS l yX1_takes wsX1_takes ({ frames := 1, cells := 0, slots := 0, locals := 22 }) E [.ref (E.2.2.2 i), .int what, .int value] I L (fun vv I' L' => vv = some (.int (if (¬ what < 0 ∧ ¬ (4 : Int32) ≤ what) ∧ (¬ value < e_tab 0 (6 + what.toNatClampNeg) ∧ ¬ e_tab 1 (6 + what.toNatClampNeg) < value) then 1 else 0)) ∧ I' = I ∧ L' = L) := by
  refine CS.of (cc := cX1_takes) (maxL := 3) (ret := (some .boolean)) (by decide) rfl (Nat.le_of_ble_eq_true rfl) ?_
  intro pg en sg mg below meth cg ls S hr hlk hX G hl
  have S : CallFix pg mg cg cX1_takes 3 sg _ wsX1_takes RX1 := S
  have hl : lv_has ls 3 [(0, .ref (E.2.2.2 i)), (1, .int what), (2, .int value)] := hl
  refine lv_aload_n S.1 S.2.1 dX1_takes_0 rfl (lv_at hl 0 rfl) ?_
  refine lv_iload_n S.1 S.2.1 dX1_takes_1 rfl (lv_at hl 1 rfl) ?_
  refine s_callV (C := RX1) (As := [.int what]) (rest := []) (i := i) (kd := 1) S hX G (k_X1_has4 l E i what hi hi_1) (cwV (bytes := cX1_has) (maxL := 2) (ret := (some .boolean)) 1 S.2.2.2.2 gX1_takes_X1_has rfl rfl rfl (by decide +kernel) ⟨Nat.le_of_ble_eq_true rfl, Nat.le_of_ble_eq_true rfl⟩) hi rfl rfl rfl (by decide) rfl hl.1 rfl (Nat.le_of_ble_eq_true rfl) ⟨Nat.zero_le _, Nat.zero_le _⟩ dX1_takes_2 (fun v I1 L1 H locs hR G => ?_)
  obtain ⟨hv, hI, hL⟩ := hR
  subst hv
  have G : GS E I L sg H locs := G.same hI hL
  refine W.eq (g2 := F0 mg 5 ls [.int (if ¬ what < 0 ∧ ¬ (4 : Int32) ≤ what then 1 else 0)]) rfl ?_
  refine s_if_eq_b (P := ¬ what < 0 ∧ ¬ (4 : Int32) ≤ what) (tgt := 39) S dX1_takes_5 (by decide) (fun c_1 => ?_) (fun c_1 => ?_)
  · refine lv_iconst (v := (0 : Int32)) S.1 S.2.1 dX1_takes_39 (by decide) ?_
    refine s_zret (x := (0 : Int32)) S G hr hlk dX1_takes_40 (Or.inl rfl) ?_
    exact ⟨(congrArg (fun q : Int32 => some (Value.int q)) (show (0 : Int32) = (if (¬ what < 0 ∧ ¬ (4 : Int32) ≤ what) ∧ (¬ value < e_tab 0 (6 + what.toNatClampNeg) ∧ ¬ e_tab 1 (6 + what.toNatClampNeg) < value) then 1 else 0) by clear S hX G hl; (try simp only [tn0, tn1, tn2, tn3]); first | (simp [c_1]; done) | grind)), rfl, rfl⟩
  · rcases in_lt4 c_1 with rfl | rfl | rfl | rfl
    · refine lv_iload_n S.1 S.2.1 dX1_takes_8 rfl (lv_at hl 2 rfl) ?_
      refine s_gets S hX G 0 (by decide) (List.mem_of_getElem? (i := 38) rfl) dX1_takes_9 (fun t_2 ht_2 => ?_)
      refine lv_aload_n S.1 S.2.1 dX1_takes_12 rfl (lv_at hl 0 rfl) ?_
      refine s_get S hX G (i := i) (kd := 1) (a := a) (v := .int (a 0)) (C := RX1) (T := TX1) (N := 2) 0 hi e_a rfl rfl (by decide) rfl (fun _ h => (List.mem_cons_of_mem _ (List.mem_append_right _ h))) (by decide) (List.mem_of_getElem? (i := 1) rfl) (fun _ h => h) dX1_takes_13 ?_
      refine lv_iload_n S.1 S.2.1 dX1_takes_16 rfl (lv_at hl 1 rfl) ?_
      refine s_iadd (v := (6 : Int32)) S dX1_takes_17 (by rw [h0]; decide) ?_
      refine s_tald (x := (e_tab 0 6)) S G ht_2 (by unfold vp_in; decide) (congrArg (e_tab 0) (by decide)) dX1_takes_18 ?_
      refine s_gets S hX G 1 (by decide) (List.mem_of_getElem? (i := 39) rfl) dX1_takes_19 (fun t_3 ht_3 => ?_)
      refine lv_aload_n S.1 S.2.1 dX1_takes_22 rfl (lv_at hl 0 rfl) ?_
      refine s_get S hX G (i := i) (kd := 1) (a := a) (v := .int (a 0)) (C := RX1) (T := TX1) (N := 2) 0 hi e_a rfl rfl (by decide) rfl (fun _ h => (List.mem_cons_of_mem _ (List.mem_append_right _ h))) (by decide) (List.mem_of_getElem? (i := 1) rfl) (fun _ h => h) dX1_takes_23 ?_
      refine lv_iload_n S.1 S.2.1 dX1_takes_26 rfl (lv_at hl 1 rfl) ?_
      refine s_iadd (v := (6 : Int32)) S dX1_takes_27 (by rw [h0]; decide) ?_
      refine s_tald (x := (e_tab 1 6)) S G ht_3 (by unfold vp_in; decide) (congrArg (e_tab 1) (by decide)) dX1_takes_28 ?_
      refine s_callSN (As := [.int value, .int (e_tab 0 6), .int (e_tab 1 6)]) (rest := []) S hX G (k_X8_isWithin l E value (e_tab 0 6) (e_tab 1 6)) (va_cnB (bytes := cX8_isWithin) (maxL := 3) (ret := (some .boolean)) 3 S.2.2.2.2 gX1_takes_X8_isWithin_n38 rfl rfl rfl (hX.2.2.1.2 _ (List.mem_of_getElem? (i := 1) rfl)) (S.2.2.2.2 _ (List.mem_of_getElem? (i := 9) rfl)) (by decide +kernel) ⟨Nat.le_of_ble_eq_true rfl, Nat.le_of_ble_eq_true rfl⟩) (List.mem_of_getElem? (i := 8) rfl) rfl hl.1 rfl (Nat.le_of_ble_eq_true rfl) ⟨Nat.zero_le _, Nat.zero_le _⟩ dX1_takes_29 (fun v I1 L1 H locs hR G => ?_)
      obtain ⟨hv, hI, hL⟩ := hR
      subst hv
      have G : GS E I L sg H locs := G.same hI hL
      refine W.eq (g2 := F0 mg 32 ls [.int (if ¬ value < (e_tab 0 6) ∧ ¬ (e_tab 1 6) < value then 1 else 0)]) rfl ?_
      refine s_if_eq_b (P := ¬ value < (e_tab 0 6) ∧ ¬ (e_tab 1 6) < value) (tgt := 39) S dX1_takes_32 (by decide) (fun c_4 => ?_) (fun c_4 => ?_)
      · refine lv_iconst (v := (0 : Int32)) S.1 S.2.1 dX1_takes_39 (by decide) ?_
        refine s_zret (x := (0 : Int32)) S G hr hlk dX1_takes_40 (Or.inl rfl) ?_
        exact ⟨(congrArg (fun q : Int32 => some (Value.int q)) (show (0 : Int32) = (if (¬ (0 : Int32) < 0 ∧ ¬ (4 : Int32) ≤ (0 : Int32)) ∧ (¬ value < e_tab 0 (6 + (0 : Int32).toNatClampNeg) ∧ ¬ e_tab 1 (6 + (0 : Int32).toNatClampNeg) < value) then 1 else 0) by clear S hX G hl; (try simp only [tn0, tn1, tn2, tn3]); first | (simp [c_1, c_4]; done) | grind)), rfl, rfl⟩
      · refine lv_iconst (v := (1 : Int32)) S.1 S.2.1 dX1_takes_35 (by decide) ?_
        refine lv_goto (tgt := 40) S.1 S.2.1 dX1_takes_36 (by decide) ?_
        refine s_zret (x := (1 : Int32)) S G hr hlk dX1_takes_40 (Or.inr rfl) ?_
        exact ⟨(congrArg (fun q : Int32 => some (Value.int q)) (show (1 : Int32) = (if (¬ (0 : Int32) < 0 ∧ ¬ (4 : Int32) ≤ (0 : Int32)) ∧ (¬ value < e_tab 0 (6 + (0 : Int32).toNatClampNeg) ∧ ¬ e_tab 1 (6 + (0 : Int32).toNatClampNeg) < value) then 1 else 0) by clear S hX G hl; (try simp only [tn0, tn1, tn2, tn3]); first | (simp [c_1, c_4]; done) | grind)), rfl, rfl⟩
    · refine lv_iload_n S.1 S.2.1 dX1_takes_8 rfl (lv_at hl 2 rfl) ?_
      refine s_gets S hX G 0 (by decide) (List.mem_of_getElem? (i := 38) rfl) dX1_takes_9 (fun t_5 ht_5 => ?_)
      refine lv_aload_n S.1 S.2.1 dX1_takes_12 rfl (lv_at hl 0 rfl) ?_
      refine s_get S hX G (i := i) (kd := 1) (a := a) (v := .int (a 0)) (C := RX1) (T := TX1) (N := 2) 0 hi e_a rfl rfl (by decide) rfl (fun _ h => (List.mem_cons_of_mem _ (List.mem_append_right _ h))) (by decide) (List.mem_of_getElem? (i := 1) rfl) (fun _ h => h) dX1_takes_13 ?_
      refine lv_iload_n S.1 S.2.1 dX1_takes_16 rfl (lv_at hl 1 rfl) ?_
      refine s_iadd (v := (7 : Int32)) S dX1_takes_17 (by rw [h0]; decide) ?_
      refine s_tald (x := (e_tab 0 7)) S G ht_5 (by unfold vp_in; decide) (congrArg (e_tab 0) (by decide)) dX1_takes_18 ?_
      refine s_gets S hX G 1 (by decide) (List.mem_of_getElem? (i := 39) rfl) dX1_takes_19 (fun t_6 ht_6 => ?_)
      refine lv_aload_n S.1 S.2.1 dX1_takes_22 rfl (lv_at hl 0 rfl) ?_
      refine s_get S hX G (i := i) (kd := 1) (a := a) (v := .int (a 0)) (C := RX1) (T := TX1) (N := 2) 0 hi e_a rfl rfl (by decide) rfl (fun _ h => (List.mem_cons_of_mem _ (List.mem_append_right _ h))) (by decide) (List.mem_of_getElem? (i := 1) rfl) (fun _ h => h) dX1_takes_23 ?_
      refine lv_iload_n S.1 S.2.1 dX1_takes_26 rfl (lv_at hl 1 rfl) ?_
      refine s_iadd (v := (7 : Int32)) S dX1_takes_27 (by rw [h0]; decide) ?_
      refine s_tald (x := (e_tab 1 7)) S G ht_6 (by unfold vp_in; decide) (congrArg (e_tab 1) (by decide)) dX1_takes_28 ?_
      refine s_callSN (As := [.int value, .int (e_tab 0 7), .int (e_tab 1 7)]) (rest := []) S hX G (k_X8_isWithin l E value (e_tab 0 7) (e_tab 1 7)) (va_cnB (bytes := cX8_isWithin) (maxL := 3) (ret := (some .boolean)) 3 S.2.2.2.2 gX1_takes_X8_isWithin_n38 rfl rfl rfl (hX.2.2.1.2 _ (List.mem_of_getElem? (i := 1) rfl)) (S.2.2.2.2 _ (List.mem_of_getElem? (i := 9) rfl)) (by decide +kernel) ⟨Nat.le_of_ble_eq_true rfl, Nat.le_of_ble_eq_true rfl⟩) (List.mem_of_getElem? (i := 8) rfl) rfl hl.1 rfl (Nat.le_of_ble_eq_true rfl) ⟨Nat.zero_le _, Nat.zero_le _⟩ dX1_takes_29 (fun v I1 L1 H locs hR G => ?_)
      obtain ⟨hv, hI, hL⟩ := hR
      subst hv
      have G : GS E I L sg H locs := G.same hI hL
      refine W.eq (g2 := F0 mg 32 ls [.int (if ¬ value < (e_tab 0 7) ∧ ¬ (e_tab 1 7) < value then 1 else 0)]) rfl ?_
      refine s_if_eq_b (P := ¬ value < (e_tab 0 7) ∧ ¬ (e_tab 1 7) < value) (tgt := 39) S dX1_takes_32 (by decide) (fun c_7 => ?_) (fun c_7 => ?_)
      · refine lv_iconst (v := (0 : Int32)) S.1 S.2.1 dX1_takes_39 (by decide) ?_
        refine s_zret (x := (0 : Int32)) S G hr hlk dX1_takes_40 (Or.inl rfl) ?_
        exact ⟨(congrArg (fun q : Int32 => some (Value.int q)) (show (0 : Int32) = (if (¬ (1 : Int32) < 0 ∧ ¬ (4 : Int32) ≤ (1 : Int32)) ∧ (¬ value < e_tab 0 (6 + (1 : Int32).toNatClampNeg) ∧ ¬ e_tab 1 (6 + (1 : Int32).toNatClampNeg) < value) then 1 else 0) by clear S hX G hl; (try simp only [tn0, tn1, tn2, tn3]); first | (simp [c_1, c_7]; done) | grind)), rfl, rfl⟩
      · refine lv_iconst (v := (1 : Int32)) S.1 S.2.1 dX1_takes_35 (by decide) ?_
        refine lv_goto (tgt := 40) S.1 S.2.1 dX1_takes_36 (by decide) ?_
        refine s_zret (x := (1 : Int32)) S G hr hlk dX1_takes_40 (Or.inr rfl) ?_
        exact ⟨(congrArg (fun q : Int32 => some (Value.int q)) (show (1 : Int32) = (if (¬ (1 : Int32) < 0 ∧ ¬ (4 : Int32) ≤ (1 : Int32)) ∧ (¬ value < e_tab 0 (6 + (1 : Int32).toNatClampNeg) ∧ ¬ e_tab 1 (6 + (1 : Int32).toNatClampNeg) < value) then 1 else 0) by clear S hX G hl; (try simp only [tn0, tn1, tn2, tn3]); first | (simp [c_1, c_7]; done) | grind)), rfl, rfl⟩
    · refine lv_iload_n S.1 S.2.1 dX1_takes_8 rfl (lv_at hl 2 rfl) ?_
      refine s_gets S hX G 0 (by decide) (List.mem_of_getElem? (i := 38) rfl) dX1_takes_9 (fun t_8 ht_8 => ?_)
      refine lv_aload_n S.1 S.2.1 dX1_takes_12 rfl (lv_at hl 0 rfl) ?_
      refine s_get S hX G (i := i) (kd := 1) (a := a) (v := .int (a 0)) (C := RX1) (T := TX1) (N := 2) 0 hi e_a rfl rfl (by decide) rfl (fun _ h => (List.mem_cons_of_mem _ (List.mem_append_right _ h))) (by decide) (List.mem_of_getElem? (i := 1) rfl) (fun _ h => h) dX1_takes_13 ?_
      refine lv_iload_n S.1 S.2.1 dX1_takes_16 rfl (lv_at hl 1 rfl) ?_
      refine s_iadd (v := (8 : Int32)) S dX1_takes_17 (by rw [h0]; decide) ?_
      refine s_tald (x := (e_tab 0 8)) S G ht_8 (by unfold vp_in; decide) (congrArg (e_tab 0) (by decide)) dX1_takes_18 ?_
      refine s_gets S hX G 1 (by decide) (List.mem_of_getElem? (i := 39) rfl) dX1_takes_19 (fun t_9 ht_9 => ?_)
      refine lv_aload_n S.1 S.2.1 dX1_takes_22 rfl (lv_at hl 0 rfl) ?_
      refine s_get S hX G (i := i) (kd := 1) (a := a) (v := .int (a 0)) (C := RX1) (T := TX1) (N := 2) 0 hi e_a rfl rfl (by decide) rfl (fun _ h => (List.mem_cons_of_mem _ (List.mem_append_right _ h))) (by decide) (List.mem_of_getElem? (i := 1) rfl) (fun _ h => h) dX1_takes_23 ?_
      refine lv_iload_n S.1 S.2.1 dX1_takes_26 rfl (lv_at hl 1 rfl) ?_
      refine s_iadd (v := (8 : Int32)) S dX1_takes_27 (by rw [h0]; decide) ?_
      refine s_tald (x := (e_tab 1 8)) S G ht_9 (by unfold vp_in; decide) (congrArg (e_tab 1) (by decide)) dX1_takes_28 ?_
      refine s_callSN (As := [.int value, .int (e_tab 0 8), .int (e_tab 1 8)]) (rest := []) S hX G (k_X8_isWithin l E value (e_tab 0 8) (e_tab 1 8)) (va_cnB (bytes := cX8_isWithin) (maxL := 3) (ret := (some .boolean)) 3 S.2.2.2.2 gX1_takes_X8_isWithin_n38 rfl rfl rfl (hX.2.2.1.2 _ (List.mem_of_getElem? (i := 1) rfl)) (S.2.2.2.2 _ (List.mem_of_getElem? (i := 9) rfl)) (by decide +kernel) ⟨Nat.le_of_ble_eq_true rfl, Nat.le_of_ble_eq_true rfl⟩) (List.mem_of_getElem? (i := 8) rfl) rfl hl.1 rfl (Nat.le_of_ble_eq_true rfl) ⟨Nat.zero_le _, Nat.zero_le _⟩ dX1_takes_29 (fun v I1 L1 H locs hR G => ?_)
      obtain ⟨hv, hI, hL⟩ := hR
      subst hv
      have G : GS E I L sg H locs := G.same hI hL
      refine W.eq (g2 := F0 mg 32 ls [.int (if ¬ value < (e_tab 0 8) ∧ ¬ (e_tab 1 8) < value then 1 else 0)]) rfl ?_
      refine s_if_eq_b (P := ¬ value < (e_tab 0 8) ∧ ¬ (e_tab 1 8) < value) (tgt := 39) S dX1_takes_32 (by decide) (fun c_10 => ?_) (fun c_10 => ?_)
      · refine lv_iconst (v := (0 : Int32)) S.1 S.2.1 dX1_takes_39 (by decide) ?_
        refine s_zret (x := (0 : Int32)) S G hr hlk dX1_takes_40 (Or.inl rfl) ?_
        exact ⟨(congrArg (fun q : Int32 => some (Value.int q)) (show (0 : Int32) = (if (¬ (2 : Int32) < 0 ∧ ¬ (4 : Int32) ≤ (2 : Int32)) ∧ (¬ value < e_tab 0 (6 + (2 : Int32).toNatClampNeg) ∧ ¬ e_tab 1 (6 + (2 : Int32).toNatClampNeg) < value) then 1 else 0) by clear S hX G hl; (try simp only [tn0, tn1, tn2, tn3]); first | (simp [c_1, c_10]; done) | grind)), rfl, rfl⟩
      · refine lv_iconst (v := (1 : Int32)) S.1 S.2.1 dX1_takes_35 (by decide) ?_
        refine lv_goto (tgt := 40) S.1 S.2.1 dX1_takes_36 (by decide) ?_
        refine s_zret (x := (1 : Int32)) S G hr hlk dX1_takes_40 (Or.inr rfl) ?_
        exact ⟨(congrArg (fun q : Int32 => some (Value.int q)) (show (1 : Int32) = (if (¬ (2 : Int32) < 0 ∧ ¬ (4 : Int32) ≤ (2 : Int32)) ∧ (¬ value < e_tab 0 (6 + (2 : Int32).toNatClampNeg) ∧ ¬ e_tab 1 (6 + (2 : Int32).toNatClampNeg) < value) then 1 else 0) by clear S hX G hl; (try simp only [tn0, tn1, tn2, tn3]); first | (simp [c_1, c_10]; done) | grind)), rfl, rfl⟩
    · refine lv_iload_n S.1 S.2.1 dX1_takes_8 rfl (lv_at hl 2 rfl) ?_
      refine s_gets S hX G 0 (by decide) (List.mem_of_getElem? (i := 38) rfl) dX1_takes_9 (fun t_11 ht_11 => ?_)
      refine lv_aload_n S.1 S.2.1 dX1_takes_12 rfl (lv_at hl 0 rfl) ?_
      refine s_get S hX G (i := i) (kd := 1) (a := a) (v := .int (a 0)) (C := RX1) (T := TX1) (N := 2) 0 hi e_a rfl rfl (by decide) rfl (fun _ h => (List.mem_cons_of_mem _ (List.mem_append_right _ h))) (by decide) (List.mem_of_getElem? (i := 1) rfl) (fun _ h => h) dX1_takes_13 ?_
      refine lv_iload_n S.1 S.2.1 dX1_takes_16 rfl (lv_at hl 1 rfl) ?_
      refine s_iadd (v := (9 : Int32)) S dX1_takes_17 (by rw [h0]; decide) ?_
      refine s_tald (x := (e_tab 0 9)) S G ht_11 (by unfold vp_in; decide) (congrArg (e_tab 0) (by decide)) dX1_takes_18 ?_
      refine s_gets S hX G 1 (by decide) (List.mem_of_getElem? (i := 39) rfl) dX1_takes_19 (fun t_12 ht_12 => ?_)
      refine lv_aload_n S.1 S.2.1 dX1_takes_22 rfl (lv_at hl 0 rfl) ?_
      refine s_get S hX G (i := i) (kd := 1) (a := a) (v := .int (a 0)) (C := RX1) (T := TX1) (N := 2) 0 hi e_a rfl rfl (by decide) rfl (fun _ h => (List.mem_cons_of_mem _ (List.mem_append_right _ h))) (by decide) (List.mem_of_getElem? (i := 1) rfl) (fun _ h => h) dX1_takes_23 ?_
      refine lv_iload_n S.1 S.2.1 dX1_takes_26 rfl (lv_at hl 1 rfl) ?_
      refine s_iadd (v := (9 : Int32)) S dX1_takes_27 (by rw [h0]; decide) ?_
      refine s_tald (x := (e_tab 1 9)) S G ht_12 (by unfold vp_in; decide) (congrArg (e_tab 1) (by decide)) dX1_takes_28 ?_
      refine s_callSN (As := [.int value, .int (e_tab 0 9), .int (e_tab 1 9)]) (rest := []) S hX G (k_X8_isWithin l E value (e_tab 0 9) (e_tab 1 9)) (va_cnB (bytes := cX8_isWithin) (maxL := 3) (ret := (some .boolean)) 3 S.2.2.2.2 gX1_takes_X8_isWithin_n38 rfl rfl rfl (hX.2.2.1.2 _ (List.mem_of_getElem? (i := 1) rfl)) (S.2.2.2.2 _ (List.mem_of_getElem? (i := 9) rfl)) (by decide +kernel) ⟨Nat.le_of_ble_eq_true rfl, Nat.le_of_ble_eq_true rfl⟩) (List.mem_of_getElem? (i := 8) rfl) rfl hl.1 rfl (Nat.le_of_ble_eq_true rfl) ⟨Nat.zero_le _, Nat.zero_le _⟩ dX1_takes_29 (fun v I1 L1 H locs hR G => ?_)
      obtain ⟨hv, hI, hL⟩ := hR
      subst hv
      have G : GS E I L sg H locs := G.same hI hL
      refine W.eq (g2 := F0 mg 32 ls [.int (if ¬ value < (e_tab 0 9) ∧ ¬ (e_tab 1 9) < value then 1 else 0)]) rfl ?_
      refine s_if_eq_b (P := ¬ value < (e_tab 0 9) ∧ ¬ (e_tab 1 9) < value) (tgt := 39) S dX1_takes_32 (by decide) (fun c_13 => ?_) (fun c_13 => ?_)
      · refine lv_iconst (v := (0 : Int32)) S.1 S.2.1 dX1_takes_39 (by decide) ?_
        refine s_zret (x := (0 : Int32)) S G hr hlk dX1_takes_40 (Or.inl rfl) ?_
        exact ⟨(congrArg (fun q : Int32 => some (Value.int q)) (show (0 : Int32) = (if (¬ (3 : Int32) < 0 ∧ ¬ (4 : Int32) ≤ (3 : Int32)) ∧ (¬ value < e_tab 0 (6 + (3 : Int32).toNatClampNeg) ∧ ¬ e_tab 1 (6 + (3 : Int32).toNatClampNeg) < value) then 1 else 0) by clear S hX G hl; (try simp only [tn0, tn1, tn2, tn3]); first | (simp [c_1, c_13]; done) | grind)), rfl, rfl⟩
      · refine lv_iconst (v := (1 : Int32)) S.1 S.2.1 dX1_takes_35 (by decide) ?_
        refine lv_goto (tgt := 40) S.1 S.2.1 dX1_takes_36 (by decide) ?_
        refine s_zret (x := (1 : Int32)) S G hr hlk dX1_takes_40 (Or.inr rfl) ?_
        exact ⟨(congrArg (fun q : Int32 => some (Value.int q)) (show (1 : Int32) = (if (¬ (3 : Int32) < 0 ∧ ¬ (4 : Int32) ≤ (3 : Int32)) ∧ (¬ value < e_tab 0 (6 + (3 : Int32).toNatClampNeg) ∧ ¬ e_tab 1 (6 + (3 : Int32).toNatClampNeg) < value) then 1 else 0) by clear S hX G hl; (try simp only [tn0, tn1, tn2, tn3]); first | (simp [c_1, c_13]; done) | grind)), rfl, rfl⟩
