def ModOk (d : Nat → Int32) (E : Ev) (ad : Nat → Nat) (w : Nat → va_E) (X : Nat) : Prop := w X = .inr (9, [.ref (ad (X + 1)), .ref (ad (X + 2)), .int 0, .long 0, .ref (ad (X + 3)), .ref (ad (X + 4)), .long 0, .ref (ad (X + 5)), .int 0, .int 0, .int 0, .int 0, .ref (ad (X + 6))]) ∧ w (X + 1) = .inl (E.2.1 0, 270, .inl d) ∧ w (X + 2) = .inl (E.2.1 0, 1080, .inl z0) ∧ w (X + 3) = .inl (E.2.1 3, 4, .inr (.inl zL)) ∧ w (X + 4) = .inl (E.2.1 0, 270, .inl z0) ∧ w (X + 5) = .inl (E.2.1 2, 80, .inl z0) ∧ w (X + 6) = .inl (E.2.1 0, 4, .inl z0)
def d0 : Nat → Int32 := (upd (upd (upd (upd (upd (upd (upd (upd (upd (upd (upd (upd (upd (upd (upd (upd (upd (upd (upd (upd (upd (upd (upd (upd (upd (upd z0 1 (2 : Int32)) 2 (3 : Int32)) 3 (5000 : Int32)) 4 (20 : Int32)) 5 (1000000 : Int32)) 6 (100 : Int32)) 10 (-1 : Int32)) 18 (-1 : Int32)) 26 (-1 : Int32)) 34 (-1 : Int32)) 40 (50 : Int32)) 41 (10 : Int32)) 42 (1000 : Int32)) 43 (100 : Int32)) 49 (9 : Int32)) 52 (-1 : Int32)) 55 (-1 : Int32)) 58 (-1 : Int32)) 70 (50 : Int32)) 71 (10 : Int32)) 72 (1000 : Int32)) 73 (100 : Int32)) 79 (9 : Int32)) 82 (-1 : Int32)) 85 (-1 : Int32)) 88 (-1 : Int32))
set_option maxHeartbeats 4000000 in
set_option maxRecDepth 100000 in
theorem c_X9_init (l : Launch) (E : Ev) (ad : Nat → Nat) (i h0 : Nat) (w : Nat → va_E) (fah0 : ad i = h0) (fe0 : w i = .inr (9, [.null, .null, .int 0, .long 0, .null, .null, .long 0, .null, .int 0, .int 0, .int 0, .int 0, .null])) : CN l yX9_init wsX9_init ({ frames := 1, cells := 6, slots := 1708, locals := 20 }) E [.ref h0] ad (i + 1) w (i + 7) (fun ad' w' => (∀ k, k < i → w' k = w k) ∧ ModOk d0 E ad' w' i) 6 1708 := by
  refine CN.of (cc := cX9_init) (maxL := 4) (by decide) rfl rfl (Nat.le_of_ble_eq_true rfl) ?_
  intro pg en sg mg below meth cg ls S hr hlk hnm hX G hl
  have S : CallFix pg mg cg cX9_init 4 sg _ wsX9_init RX9 := S
  have hl : lv_has ls 4 [(0, .ref h0)] := hl
  refine lv_aload_n S.1 S.2.1 dX9_init_0 rfl (lv_at hl 0 rfl) ?_
  refine W.objInit S.1 S.2.1 S.2.2.2.1 (S.2.2.2.2 _ (List.mem_of_getElem? (i := 1) rfl)) (S.2.2.2.2 _ (List.mem_of_getElem? (i := 2) rfl)) (S.2.2.2.2 _ (List.mem_of_getElem? (i := 3) rfl)) rfl (hl.1.trans S.2.2.1.symm) rfl dX9_init_1 (Nat.le_of_ble_eq_true rfl) (Nat.le_of_ble_eq_true rfl) ?_
  refine W.eq (g2 := F0 mg 4 ls []) rfl ?_
  refine lv_aload_n S.1 S.2.1 dX9_init_4 rfl (lv_at hl 0 rfl) ?_
  refine lv_sipush (v := (270 : Int32)) S.1 S.2.1 dX9_init_5 (by decide) ?_
  refine c_newa (atype := .int) (ty := .int) S hX G 0 (a0 := (270, .inl z0)) (N := 270) (List.mem_of_getElem? (i := 4) rfl) rfl rfl (fun _ => rfl) (by decide) (by decide) (by decide) (Nat.le_of_ble_eq_true rfl) (Nat.le_of_ble_eq_true rfl) dX9_init_8 (fun q1 ad1 H faq1 hE1 G => ?_)
  have fah0 : ad1 i = h0 := Eq.trans (hE1 _ (by omega)) fah0
  obtain ⟨w1, hw1⟩ : ∃ z, z = upw w (i + 1) (.inl (E.2.1 0, 270, .inl z0)) := ⟨_, rfl⟩
  have G : CG E ad1 (i + 2) w1 sg H [] := by rw [hw1]; exact G
  have ho1 : ∀ k, k ≠ (i + 1) → w1 k = w k := fun k hk => by rw [hw1]; exact upw_ne hk
  have fe0 : w1 i = .inr (9, [.null, .null, .int 0, .long 0, .null, .null, .long 0, .null, .int 0, .int 0, .int 0, .int 0, .null]) := Eq.trans (ho1 _ (by omega)) fe0
  have fe1 : w1 (i + 1) = .inl (E.2.1 0, 270, .inl z0) := by rw [hw1]; exact upw_eq
  refine c_putF (i := i) (ty := tyX9 0) (ty0 := tyX9) S hX G (C := RX9) (T := TX9) (N := 13) 0 fah0 (by omega) fe0 rfl (fun _ h => (List.mem_cons_of_mem _ (List.mem_append_right _ h))) tyX9_ok nmX9 (by decide) (List.mem_of_getElem? (i := 5) rfl) (fun _ h => h) rfl hnm rfl (tyX9_ok 0 (by decide)) rfl rfl (Nat.le_of_ble_eq_true rfl) dX9_init_10 (fun H locs G => ?_)
  obtain ⟨w2, hw2⟩ : ∃ z, z = upw w1 i (.inr (9, [.ref q1, .null, .int 0, .long 0, .null, .null, .long 0, .null, .int 0, .int 0, .int 0, .int 0, .null])) := ⟨_, rfl⟩
  have G : CG E ad1 (i + 2) w2 sg H locs := by rw [hw2]; exact G
  have ho2 : ∀ k, k ≠ i → w2 k = w1 k := fun k hk => by rw [hw2]; exact upw_ne hk
  have fe1 : w2 (i + 1) = .inl (E.2.1 0, 270, .inl z0) := Eq.trans (ho2 _ (by omega)) fe1
  have fe0 : w2 i = .inr (9, [.ref q1, .null, .int 0, .long 0, .null, .null, .long 0, .null, .int 0, .int 0, .int 0, .int 0, .null]) := by rw [hw2]; exact upw_eq
  refine lv_aload_n S.1 S.2.1 dX9_init_13 rfl (lv_at hl 0 rfl) ?_
  refine lv_sipush (v := (1080 : Int32)) S.1 S.2.1 dX9_init_14 (by decide) ?_
  refine c_newa (atype := .int) (ty := .int) S hX G 0 (a0 := (1080, .inl z0)) (N := 1080) (List.mem_of_getElem? (i := 4) rfl) rfl rfl (fun _ => rfl) (by decide) (by decide) (by decide) (Nat.le_of_ble_eq_true rfl) (Nat.le_of_ble_eq_true rfl) dX9_init_17 (fun q2 ad2 H faq2 hE2 G => ?_)
  have fah0 : ad2 i = h0 := Eq.trans (hE2 _ (by omega)) fah0
  have faq1 : ad2 (i + 1) = q1 := Eq.trans (hE2 _ (by omega)) faq1
  obtain ⟨w3, hw3⟩ : ∃ z, z = upw w2 (i + 2) (.inl (E.2.1 0, 1080, .inl z0)) := ⟨_, rfl⟩
  have G : CG E ad2 (i + 3) w3 sg H locs := by rw [hw3]; exact G
  have ho3 : ∀ k, k ≠ (i + 2) → w3 k = w2 k := fun k hk => by rw [hw3]; exact upw_ne hk
  have fe0 : w3 i = .inr (9, [.ref q1, .null, .int 0, .long 0, .null, .null, .long 0, .null, .int 0, .int 0, .int 0, .int 0, .null]) := Eq.trans (ho3 _ (by omega)) fe0
  have fe1 : w3 (i + 1) = .inl (E.2.1 0, 270, .inl z0) := Eq.trans (ho3 _ (by omega)) fe1
  have fe2 : w3 (i + 2) = .inl (E.2.1 0, 1080, .inl z0) := by rw [hw3]; exact upw_eq
  refine c_putF (i := i) (ty := tyX9 1) (ty0 := tyX9) S hX G (C := RX9) (T := TX9) (N := 13) 1 fah0 (by omega) fe0 rfl (fun _ h => (List.mem_cons_of_mem _ (List.mem_append_right _ h))) tyX9_ok nmX9 (by decide) (List.mem_of_getElem? (i := 6) rfl) (fun _ h => h) rfl hnm rfl (tyX9_ok 1 (by decide)) rfl rfl (Nat.le_of_ble_eq_true rfl) dX9_init_19 (fun H locs G => ?_)
  obtain ⟨w4, hw4⟩ : ∃ z, z = upw w3 i (.inr (9, [.ref q1, .ref q2, .int 0, .long 0, .null, .null, .long 0, .null, .int 0, .int 0, .int 0, .int 0, .null])) := ⟨_, rfl⟩
  have G : CG E ad2 (i + 3) w4 sg H locs := by rw [hw4]; exact G
  have ho4 : ∀ k, k ≠ i → w4 k = w3 k := fun k hk => by rw [hw4]; exact upw_ne hk
  have fe1 : w4 (i + 1) = .inl (E.2.1 0, 270, .inl z0) := Eq.trans (ho4 _ (by omega)) fe1
  have fe2 : w4 (i + 2) = .inl (E.2.1 0, 1080, .inl z0) := Eq.trans (ho4 _ (by omega)) fe2
  have fe0 : w4 i = .inr (9, [.ref q1, .ref q2, .int 0, .long 0, .null, .null, .long 0, .null, .int 0, .int 0, .int 0, .int 0, .null]) := by rw [hw4]; exact upw_eq
  refine lv_aload_n S.1 S.2.1 dX9_init_22 rfl (lv_at hl 0 rfl) ?_
  refine lv_iconst (v := (4 : Int32)) S.1 S.2.1 dX9_init_23 (by decide) ?_
  refine c_newa (atype := .long) (ty := .long) S hX G 3 (a0 := (4, .inr (.inl zL))) (N := 4) (List.mem_of_getElem? (i := 7) rfl) rfl rfl (fun _ => rfl) (by decide) (by decide) (by decide) (Nat.le_of_ble_eq_true rfl) (Nat.le_of_ble_eq_true rfl) dX9_init_24 (fun q3 ad3 H faq3 hE3 G => ?_)
  have fah0 : ad3 i = h0 := Eq.trans (hE3 _ (by omega)) fah0
  have faq1 : ad3 (i + 1) = q1 := Eq.trans (hE3 _ (by omega)) faq1
  have faq2 : ad3 (i + 2) = q2 := Eq.trans (hE3 _ (by omega)) faq2
  obtain ⟨w5, hw5⟩ : ∃ z, z = upw w4 (i + 3) (.inl (E.2.1 3, 4, .inr (.inl zL))) := ⟨_, rfl⟩
  have G : CG E ad3 (i + 4) w5 sg H locs := by rw [hw5]; exact G
  have ho5 : ∀ k, k ≠ (i + 3) → w5 k = w4 k := fun k hk => by rw [hw5]; exact upw_ne hk
  have fe0 : w5 i = .inr (9, [.ref q1, .ref q2, .int 0, .long 0, .null, .null, .long 0, .null, .int 0, .int 0, .int 0, .int 0, .null]) := Eq.trans (ho5 _ (by omega)) fe0
  have fe1 : w5 (i + 1) = .inl (E.2.1 0, 270, .inl z0) := Eq.trans (ho5 _ (by omega)) fe1
  have fe2 : w5 (i + 2) = .inl (E.2.1 0, 1080, .inl z0) := Eq.trans (ho5 _ (by omega)) fe2
  have fe3 : w5 (i + 3) = .inl (E.2.1 3, 4, .inr (.inl zL)) := by rw [hw5]; exact upw_eq
  refine c_putF (i := i) (ty := tyX9 4) (ty0 := tyX9) S hX G (C := RX9) (T := TX9) (N := 13) 4 fah0 (by omega) fe0 rfl (fun _ h => (List.mem_cons_of_mem _ (List.mem_append_right _ h))) tyX9_ok nmX9 (by decide) (List.mem_of_getElem? (i := 8) rfl) (fun _ h => h) rfl hnm rfl (tyX9_ok 4 (by decide)) rfl rfl (Nat.le_of_ble_eq_true rfl) dX9_init_26 (fun H locs G => ?_)
  obtain ⟨w6, hw6⟩ : ∃ z, z = upw w5 i (.inr (9, [.ref q1, .ref q2, .int 0, .long 0, .ref q3, .null, .long 0, .null, .int 0, .int 0, .int 0, .int 0, .null])) := ⟨_, rfl⟩
  have G : CG E ad3 (i + 4) w6 sg H locs := by rw [hw6]; exact G
  have ho6 : ∀ k, k ≠ i → w6 k = w5 k := fun k hk => by rw [hw6]; exact upw_ne hk
  have fe1 : w6 (i + 1) = .inl (E.2.1 0, 270, .inl z0) := Eq.trans (ho6 _ (by omega)) fe1
  have fe2 : w6 (i + 2) = .inl (E.2.1 0, 1080, .inl z0) := Eq.trans (ho6 _ (by omega)) fe2
  have fe3 : w6 (i + 3) = .inl (E.2.1 3, 4, .inr (.inl zL)) := Eq.trans (ho6 _ (by omega)) fe3
  have fe0 : w6 i = .inr (9, [.ref q1, .ref q2, .int 0, .long 0, .ref q3, .null, .long 0, .null, .int 0, .int 0, .int 0, .int 0, .null]) := by rw [hw6]; exact upw_eq
  refine lv_aload_n S.1 S.2.1 dX9_init_29 rfl (lv_at hl 0 rfl) ?_
  refine lv_sipush (v := (270 : Int32)) S.1 S.2.1 dX9_init_30 (by decide) ?_
  refine c_newa (atype := .int) (ty := .int) S hX G 0 (a0 := (270, .inl z0)) (N := 270) (List.mem_of_getElem? (i := 4) rfl) rfl rfl (fun _ => rfl) (by decide) (by decide) (by decide) (Nat.le_of_ble_eq_true rfl) (Nat.le_of_ble_eq_true rfl) dX9_init_33 (fun q4 ad4 H faq4 hE4 G => ?_)
  have fah0 : ad4 i = h0 := Eq.trans (hE4 _ (by omega)) fah0
  have faq1 : ad4 (i + 1) = q1 := Eq.trans (hE4 _ (by omega)) faq1
  have faq2 : ad4 (i + 2) = q2 := Eq.trans (hE4 _ (by omega)) faq2
  have faq3 : ad4 (i + 3) = q3 := Eq.trans (hE4 _ (by omega)) faq3
  obtain ⟨w7, hw7⟩ : ∃ z, z = upw w6 (i + 4) (.inl (E.2.1 0, 270, .inl z0)) := ⟨_, rfl⟩
  have G : CG E ad4 (i + 5) w7 sg H locs := by rw [hw7]; exact G
  have ho7 : ∀ k, k ≠ (i + 4) → w7 k = w6 k := fun k hk => by rw [hw7]; exact upw_ne hk
  have fe0 : w7 i = .inr (9, [.ref q1, .ref q2, .int 0, .long 0, .ref q3, .null, .long 0, .null, .int 0, .int 0, .int 0, .int 0, .null]) := Eq.trans (ho7 _ (by omega)) fe0
  have fe1 : w7 (i + 1) = .inl (E.2.1 0, 270, .inl z0) := Eq.trans (ho7 _ (by omega)) fe1
  have fe2 : w7 (i + 2) = .inl (E.2.1 0, 1080, .inl z0) := Eq.trans (ho7 _ (by omega)) fe2
  have fe3 : w7 (i + 3) = .inl (E.2.1 3, 4, .inr (.inl zL)) := Eq.trans (ho7 _ (by omega)) fe3
  have fe4 : w7 (i + 4) = .inl (E.2.1 0, 270, .inl z0) := by rw [hw7]; exact upw_eq
  refine c_putF (i := i) (ty := tyX9 5) (ty0 := tyX9) S hX G (C := RX9) (T := TX9) (N := 13) 5 fah0 (by omega) fe0 rfl (fun _ h => (List.mem_cons_of_mem _ (List.mem_append_right _ h))) tyX9_ok nmX9 (by decide) (List.mem_of_getElem? (i := 9) rfl) (fun _ h => h) rfl hnm rfl (tyX9_ok 5 (by decide)) rfl rfl (Nat.le_of_ble_eq_true rfl) dX9_init_35 (fun H locs G => ?_)
  obtain ⟨w8, hw8⟩ : ∃ z, z = upw w7 i (.inr (9, [.ref q1, .ref q2, .int 0, .long 0, .ref q3, .ref q4, .long 0, .null, .int 0, .int 0, .int 0, .int 0, .null])) := ⟨_, rfl⟩
  have G : CG E ad4 (i + 5) w8 sg H locs := by rw [hw8]; exact G
  have ho8 : ∀ k, k ≠ i → w8 k = w7 k := fun k hk => by rw [hw8]; exact upw_ne hk
  have fe1 : w8 (i + 1) = .inl (E.2.1 0, 270, .inl z0) := Eq.trans (ho8 _ (by omega)) fe1
  have fe2 : w8 (i + 2) = .inl (E.2.1 0, 1080, .inl z0) := Eq.trans (ho8 _ (by omega)) fe2
  have fe3 : w8 (i + 3) = .inl (E.2.1 3, 4, .inr (.inl zL)) := Eq.trans (ho8 _ (by omega)) fe3
  have fe4 : w8 (i + 4) = .inl (E.2.1 0, 270, .inl z0) := Eq.trans (ho8 _ (by omega)) fe4
  have fe0 : w8 i = .inr (9, [.ref q1, .ref q2, .int 0, .long 0, .ref q3, .ref q4, .long 0, .null, .int 0, .int 0, .int 0, .int 0, .null]) := by rw [hw8]; exact upw_eq
  refine lv_aload_n S.1 S.2.1 dX9_init_38 rfl (lv_at hl 0 rfl) ?_
  refine lv_bipush (v := (80 : Int32)) S.1 S.2.1 dX9_init_39 (by decide) ?_
  refine c_newa (atype := .char) (ty := .char) S hX G 2 (a0 := (80, .inl z0)) (N := 80) (List.mem_of_getElem? (i := 10) rfl) rfl rfl (fun _ => rfl) (by decide) (by decide) (by decide) (Nat.le_of_ble_eq_true rfl) (Nat.le_of_ble_eq_true rfl) dX9_init_41 (fun q5 ad5 H faq5 hE5 G => ?_)
  have fah0 : ad5 i = h0 := Eq.trans (hE5 _ (by omega)) fah0
  have faq1 : ad5 (i + 1) = q1 := Eq.trans (hE5 _ (by omega)) faq1
  have faq2 : ad5 (i + 2) = q2 := Eq.trans (hE5 _ (by omega)) faq2
  have faq3 : ad5 (i + 3) = q3 := Eq.trans (hE5 _ (by omega)) faq3
  have faq4 : ad5 (i + 4) = q4 := Eq.trans (hE5 _ (by omega)) faq4
  obtain ⟨w9, hw9⟩ : ∃ z, z = upw w8 (i + 5) (.inl (E.2.1 2, 80, .inl z0)) := ⟨_, rfl⟩
  have G : CG E ad5 (i + 6) w9 sg H locs := by rw [hw9]; exact G
  have ho9 : ∀ k, k ≠ (i + 5) → w9 k = w8 k := fun k hk => by rw [hw9]; exact upw_ne hk
  have fe0 : w9 i = .inr (9, [.ref q1, .ref q2, .int 0, .long 0, .ref q3, .ref q4, .long 0, .null, .int 0, .int 0, .int 0, .int 0, .null]) := Eq.trans (ho9 _ (by omega)) fe0
  have fe1 : w9 (i + 1) = .inl (E.2.1 0, 270, .inl z0) := Eq.trans (ho9 _ (by omega)) fe1
  have fe2 : w9 (i + 2) = .inl (E.2.1 0, 1080, .inl z0) := Eq.trans (ho9 _ (by omega)) fe2
  have fe3 : w9 (i + 3) = .inl (E.2.1 3, 4, .inr (.inl zL)) := Eq.trans (ho9 _ (by omega)) fe3
  have fe4 : w9 (i + 4) = .inl (E.2.1 0, 270, .inl z0) := Eq.trans (ho9 _ (by omega)) fe4
  have fe5 : w9 (i + 5) = .inl (E.2.1 2, 80, .inl z0) := by rw [hw9]; exact upw_eq
  refine c_putF (i := i) (ty := tyX9 7) (ty0 := tyX9) S hX G (C := RX9) (T := TX9) (N := 13) 7 fah0 (by omega) fe0 rfl (fun _ h => (List.mem_cons_of_mem _ (List.mem_append_right _ h))) tyX9_ok nmX9 (by decide) (List.mem_of_getElem? (i := 11) rfl) (fun _ h => h) rfl hnm rfl (tyX9_ok 7 (by decide)) rfl rfl (Nat.le_of_ble_eq_true rfl) dX9_init_43 (fun H locs G => ?_)
  obtain ⟨w10, hw10⟩ : ∃ z, z = upw w9 i (.inr (9, [.ref q1, .ref q2, .int 0, .long 0, .ref q3, .ref q4, .long 0, .ref q5, .int 0, .int 0, .int 0, .int 0, .null])) := ⟨_, rfl⟩
  have G : CG E ad5 (i + 6) w10 sg H locs := by rw [hw10]; exact G
  have ho10 : ∀ k, k ≠ i → w10 k = w9 k := fun k hk => by rw [hw10]; exact upw_ne hk
  have fe1 : w10 (i + 1) = .inl (E.2.1 0, 270, .inl z0) := Eq.trans (ho10 _ (by omega)) fe1
  have fe2 : w10 (i + 2) = .inl (E.2.1 0, 1080, .inl z0) := Eq.trans (ho10 _ (by omega)) fe2
  have fe3 : w10 (i + 3) = .inl (E.2.1 3, 4, .inr (.inl zL)) := Eq.trans (ho10 _ (by omega)) fe3
  have fe4 : w10 (i + 4) = .inl (E.2.1 0, 270, .inl z0) := Eq.trans (ho10 _ (by omega)) fe4
  have fe5 : w10 (i + 5) = .inl (E.2.1 2, 80, .inl z0) := Eq.trans (ho10 _ (by omega)) fe5
  have fe0 : w10 i = .inr (9, [.ref q1, .ref q2, .int 0, .long 0, .ref q3, .ref q4, .long 0, .ref q5, .int 0, .int 0, .int 0, .int 0, .null]) := by rw [hw10]; exact upw_eq
  refine lv_aload_n S.1 S.2.1 dX9_init_46 rfl (lv_at hl 0 rfl) ?_
  refine lv_iconst (v := (4 : Int32)) S.1 S.2.1 dX9_init_47 (by decide) ?_
  refine c_newa (atype := .int) (ty := .int) S hX G 0 (a0 := (4, .inl z0)) (N := 4) (List.mem_of_getElem? (i := 4) rfl) rfl rfl (fun _ => rfl) (by decide) (by decide) (by decide) (Nat.le_of_ble_eq_true rfl) (Nat.le_of_ble_eq_true rfl) dX9_init_48 (fun q6 ad6 H faq6 hE6 G => ?_)
  have fah0 : ad6 i = h0 := Eq.trans (hE6 _ (by omega)) fah0
  have faq1 : ad6 (i + 1) = q1 := Eq.trans (hE6 _ (by omega)) faq1
  have faq2 : ad6 (i + 2) = q2 := Eq.trans (hE6 _ (by omega)) faq2
  have faq3 : ad6 (i + 3) = q3 := Eq.trans (hE6 _ (by omega)) faq3
  have faq4 : ad6 (i + 4) = q4 := Eq.trans (hE6 _ (by omega)) faq4
  have faq5 : ad6 (i + 5) = q5 := Eq.trans (hE6 _ (by omega)) faq5
  obtain ⟨w11, hw11⟩ : ∃ z, z = upw w10 (i + 6) (.inl (E.2.1 0, 4, .inl z0)) := ⟨_, rfl⟩
  have G : CG E ad6 (i + 7) w11 sg H locs := by rw [hw11]; exact G
  have ho11 : ∀ k, k ≠ (i + 6) → w11 k = w10 k := fun k hk => by rw [hw11]; exact upw_ne hk
  have fe0 : w11 i = .inr (9, [.ref q1, .ref q2, .int 0, .long 0, .ref q3, .ref q4, .long 0, .ref q5, .int 0, .int 0, .int 0, .int 0, .null]) := Eq.trans (ho11 _ (by omega)) fe0
  have fe1 : w11 (i + 1) = .inl (E.2.1 0, 270, .inl z0) := Eq.trans (ho11 _ (by omega)) fe1
  have fe2 : w11 (i + 2) = .inl (E.2.1 0, 1080, .inl z0) := Eq.trans (ho11 _ (by omega)) fe2
  have fe3 : w11 (i + 3) = .inl (E.2.1 3, 4, .inr (.inl zL)) := Eq.trans (ho11 _ (by omega)) fe3
  have fe4 : w11 (i + 4) = .inl (E.2.1 0, 270, .inl z0) := Eq.trans (ho11 _ (by omega)) fe4
  have fe5 : w11 (i + 5) = .inl (E.2.1 2, 80, .inl z0) := Eq.trans (ho11 _ (by omega)) fe5
  have fe6 : w11 (i + 6) = .inl (E.2.1 0, 4, .inl z0) := by rw [hw11]; exact upw_eq
  refine c_putF (i := i) (ty := tyX9 12) (ty0 := tyX9) S hX G (C := RX9) (T := TX9) (N := 13) 12 fah0 (by omega) fe0 rfl (fun _ h => (List.mem_cons_of_mem _ (List.mem_append_right _ h))) tyX9_ok nmX9 (by decide) (List.mem_of_getElem? (i := 12) rfl) (fun _ h => h) rfl hnm rfl (tyX9_ok 12 (by decide)) rfl rfl (Nat.le_of_ble_eq_true rfl) dX9_init_50 (fun H locs G => ?_)
  obtain ⟨w12, hw12⟩ : ∃ z, z = upw w11 i (.inr (9, [.ref q1, .ref q2, .int 0, .long 0, .ref q3, .ref q4, .long 0, .ref q5, .int 0, .int 0, .int 0, .int 0, .ref q6])) := ⟨_, rfl⟩
  have G : CG E ad6 (i + 7) w12 sg H locs := by rw [hw12]; exact G
  have ho12 : ∀ k, k ≠ i → w12 k = w11 k := fun k hk => by rw [hw12]; exact upw_ne hk
  have fe1 : w12 (i + 1) = .inl (E.2.1 0, 270, .inl z0) := Eq.trans (ho12 _ (by omega)) fe1
  have fe2 : w12 (i + 2) = .inl (E.2.1 0, 1080, .inl z0) := Eq.trans (ho12 _ (by omega)) fe2
  have fe3 : w12 (i + 3) = .inl (E.2.1 3, 4, .inr (.inl zL)) := Eq.trans (ho12 _ (by omega)) fe3
  have fe4 : w12 (i + 4) = .inl (E.2.1 0, 270, .inl z0) := Eq.trans (ho12 _ (by omega)) fe4
  have fe5 : w12 (i + 5) = .inl (E.2.1 2, 80, .inl z0) := Eq.trans (ho12 _ (by omega)) fe5
  have fe6 : w12 (i + 6) = .inl (E.2.1 0, 4, .inl z0) := Eq.trans (ho12 _ (by omega)) fe6
  have fe0 : w12 i = .inr (9, [.ref q1, .ref q2, .int 0, .long 0, .ref q3, .ref q4, .long 0, .ref q5, .int 0, .int 0, .int 0, .int 0, .ref q6]) := by rw [hw12]; exact upw_eq
  refine lv_aload_n S.1 S.2.1 dX9_init_53 rfl (lv_at hl 0 rfl) ?_
  refine c_get (i := i) S hX G (C := RX9) (T := TX9) (N := 13) 0 fah0 (by omega) fe0 rfl rfl (fun _ h => (List.mem_cons_of_mem _ (List.mem_append_right _ h))) (by decide) (List.mem_of_getElem? (i := 5) rfl) (fun _ h => h) dX9_init_54 ?_
  refine lv_iconst (v := (1 : Int32)) S.1 S.2.1 dX9_init_57 (by decide) ?_
  refine lv_iconst (v := (2 : Int32)) S.1 S.2.1 dX9_init_58 (by decide) ?_
  refine c_iast (i := (i + 1)) (N := 270) (f := z0) S hX G faq1 (by omega) fe1 (by unfold vp_in; decide) dX9_init_59 (fun H locs G => ?_)
  obtain ⟨w13, hw13⟩ : ∃ z, z = upw w12 (i + 1) (.inl (E.2.1 0, 270, .inl (upd z0 1 (2 : Int32)))) := ⟨_, rfl⟩
  have G : CG E ad6 (i + 7) w13 sg H locs := by rw [hw13]; exact G
  have ho13 : ∀ k, k ≠ (i + 1) → w13 k = w12 k := fun k hk => by rw [hw13]; exact upw_ne hk
  have fe0 : w13 i = .inr (9, [.ref q1, .ref q2, .int 0, .long 0, .ref q3, .ref q4, .long 0, .ref q5, .int 0, .int 0, .int 0, .int 0, .ref q6]) := Eq.trans (ho13 _ (by omega)) fe0
  have fe2 : w13 (i + 2) = .inl (E.2.1 0, 1080, .inl z0) := Eq.trans (ho13 _ (by omega)) fe2
  have fe3 : w13 (i + 3) = .inl (E.2.1 3, 4, .inr (.inl zL)) := Eq.trans (ho13 _ (by omega)) fe3
  have fe4 : w13 (i + 4) = .inl (E.2.1 0, 270, .inl z0) := Eq.trans (ho13 _ (by omega)) fe4
  have fe5 : w13 (i + 5) = .inl (E.2.1 2, 80, .inl z0) := Eq.trans (ho13 _ (by omega)) fe5
  have fe6 : w13 (i + 6) = .inl (E.2.1 0, 4, .inl z0) := Eq.trans (ho13 _ (by omega)) fe6
  have fe1 : w13 (i + 1) = .inl (E.2.1 0, 270, .inl (upd z0 1 (2 : Int32))) := by rw [hw13]; exact upw_eq
  refine lv_aload_n S.1 S.2.1 dX9_init_60 rfl (lv_at hl 0 rfl) ?_
  refine c_get (i := i) S hX G (C := RX9) (T := TX9) (N := 13) 0 fah0 (by omega) fe0 rfl rfl (fun _ h => (List.mem_cons_of_mem _ (List.mem_append_right _ h))) (by decide) (List.mem_of_getElem? (i := 5) rfl) (fun _ h => h) dX9_init_61 ?_
  refine lv_iconst (v := (2 : Int32)) S.1 S.2.1 dX9_init_64 (by decide) ?_
  refine lv_iconst (v := (3 : Int32)) S.1 S.2.1 dX9_init_65 (by decide) ?_
  refine c_iast (i := (i + 1)) (N := 270) (f := (upd z0 1 (2 : Int32))) S hX G faq1 (by omega) fe1 (by unfold vp_in; decide) dX9_init_66 (fun H locs G => ?_)
  obtain ⟨w14, hw14⟩ : ∃ z, z = upw w13 (i + 1) (.inl (E.2.1 0, 270, .inl (upd (upd z0 1 (2 : Int32)) 2 (3 : Int32)))) := ⟨_, rfl⟩
  have G : CG E ad6 (i + 7) w14 sg H locs := by rw [hw14]; exact G
  have ho14 : ∀ k, k ≠ (i + 1) → w14 k = w13 k := fun k hk => by rw [hw14]; exact upw_ne hk
  have fe0 : w14 i = .inr (9, [.ref q1, .ref q2, .int 0, .long 0, .ref q3, .ref q4, .long 0, .ref q5, .int 0, .int 0, .int 0, .int 0, .ref q6]) := Eq.trans (ho14 _ (by omega)) fe0
  have fe2 : w14 (i + 2) = .inl (E.2.1 0, 1080, .inl z0) := Eq.trans (ho14 _ (by omega)) fe2
  have fe3 : w14 (i + 3) = .inl (E.2.1 3, 4, .inr (.inl zL)) := Eq.trans (ho14 _ (by omega)) fe3
  have fe4 : w14 (i + 4) = .inl (E.2.1 0, 270, .inl z0) := Eq.trans (ho14 _ (by omega)) fe4
  have fe5 : w14 (i + 5) = .inl (E.2.1 2, 80, .inl z0) := Eq.trans (ho14 _ (by omega)) fe5
  have fe6 : w14 (i + 6) = .inl (E.2.1 0, 4, .inl z0) := Eq.trans (ho14 _ (by omega)) fe6
  have fe1 : w14 (i + 1) = .inl (E.2.1 0, 270, .inl (upd (upd z0 1 (2 : Int32)) 2 (3 : Int32))) := by rw [hw14]; exact upw_eq
  refine lv_aload_n S.1 S.2.1 dX9_init_67 rfl (lv_at hl 0 rfl) ?_
  refine c_get (i := i) S hX G (C := RX9) (T := TX9) (N := 13) 0 fah0 (by omega) fe0 rfl rfl (fun _ h => (List.mem_cons_of_mem _ (List.mem_append_right _ h))) (by decide) (List.mem_of_getElem? (i := 5) rfl) (fun _ h => h) dX9_init_68 ?_
  refine lv_iconst (v := (3 : Int32)) S.1 S.2.1 dX9_init_71 (by decide) ?_
  refine lv_sipush (v := (5000 : Int32)) S.1 S.2.1 dX9_init_72 (by decide) ?_
  refine c_iast (i := (i + 1)) (N := 270) (f := (upd (upd z0 1 (2 : Int32)) 2 (3 : Int32))) S hX G faq1 (by omega) fe1 (by unfold vp_in; decide) dX9_init_75 (fun H locs G => ?_)
  obtain ⟨w15, hw15⟩ : ∃ z, z = upw w14 (i + 1) (.inl (E.2.1 0, 270, .inl (upd (upd (upd z0 1 (2 : Int32)) 2 (3 : Int32)) 3 (5000 : Int32)))) := ⟨_, rfl⟩
  have G : CG E ad6 (i + 7) w15 sg H locs := by rw [hw15]; exact G
  have ho15 : ∀ k, k ≠ (i + 1) → w15 k = w14 k := fun k hk => by rw [hw15]; exact upw_ne hk
  have fe0 : w15 i = .inr (9, [.ref q1, .ref q2, .int 0, .long 0, .ref q3, .ref q4, .long 0, .ref q5, .int 0, .int 0, .int 0, .int 0, .ref q6]) := Eq.trans (ho15 _ (by omega)) fe0
  have fe2 : w15 (i + 2) = .inl (E.2.1 0, 1080, .inl z0) := Eq.trans (ho15 _ (by omega)) fe2
  have fe3 : w15 (i + 3) = .inl (E.2.1 3, 4, .inr (.inl zL)) := Eq.trans (ho15 _ (by omega)) fe3
  have fe4 : w15 (i + 4) = .inl (E.2.1 0, 270, .inl z0) := Eq.trans (ho15 _ (by omega)) fe4
  have fe5 : w15 (i + 5) = .inl (E.2.1 2, 80, .inl z0) := Eq.trans (ho15 _ (by omega)) fe5
  have fe6 : w15 (i + 6) = .inl (E.2.1 0, 4, .inl z0) := Eq.trans (ho15 _ (by omega)) fe6
  have fe1 : w15 (i + 1) = .inl (E.2.1 0, 270, .inl (upd (upd (upd z0 1 (2 : Int32)) 2 (3 : Int32)) 3 (5000 : Int32))) := by rw [hw15]; exact upw_eq
  refine lv_aload_n S.1 S.2.1 dX9_init_76 rfl (lv_at hl 0 rfl) ?_
  refine c_get (i := i) S hX G (C := RX9) (T := TX9) (N := 13) 0 fah0 (by omega) fe0 rfl rfl (fun _ h => (List.mem_cons_of_mem _ (List.mem_append_right _ h))) (by decide) (List.mem_of_getElem? (i := 5) rfl) (fun _ h => h) dX9_init_77 ?_
  refine lv_iconst (v := (4 : Int32)) S.1 S.2.1 dX9_init_80 (by decide) ?_
  refine lv_bipush (v := (20 : Int32)) S.1 S.2.1 dX9_init_81 (by decide) ?_
  refine c_iast (i := (i + 1)) (N := 270) (f := (upd (upd (upd z0 1 (2 : Int32)) 2 (3 : Int32)) 3 (5000 : Int32))) S hX G faq1 (by omega) fe1 (by unfold vp_in; decide) dX9_init_83 (fun H locs G => ?_)
  obtain ⟨w16, hw16⟩ : ∃ z, z = upw w15 (i + 1) (.inl (E.2.1 0, 270, .inl (upd (upd (upd (upd z0 1 (2 : Int32)) 2 (3 : Int32)) 3 (5000 : Int32)) 4 (20 : Int32)))) := ⟨_, rfl⟩
  have G : CG E ad6 (i + 7) w16 sg H locs := by rw [hw16]; exact G
  have ho16 : ∀ k, k ≠ (i + 1) → w16 k = w15 k := fun k hk => by rw [hw16]; exact upw_ne hk
  have fe0 : w16 i = .inr (9, [.ref q1, .ref q2, .int 0, .long 0, .ref q3, .ref q4, .long 0, .ref q5, .int 0, .int 0, .int 0, .int 0, .ref q6]) := Eq.trans (ho16 _ (by omega)) fe0
  have fe2 : w16 (i + 2) = .inl (E.2.1 0, 1080, .inl z0) := Eq.trans (ho16 _ (by omega)) fe2
  have fe3 : w16 (i + 3) = .inl (E.2.1 3, 4, .inr (.inl zL)) := Eq.trans (ho16 _ (by omega)) fe3
  have fe4 : w16 (i + 4) = .inl (E.2.1 0, 270, .inl z0) := Eq.trans (ho16 _ (by omega)) fe4
  have fe5 : w16 (i + 5) = .inl (E.2.1 2, 80, .inl z0) := Eq.trans (ho16 _ (by omega)) fe5
  have fe6 : w16 (i + 6) = .inl (E.2.1 0, 4, .inl z0) := Eq.trans (ho16 _ (by omega)) fe6
  have fe1 : w16 (i + 1) = .inl (E.2.1 0, 270, .inl (upd (upd (upd (upd z0 1 (2 : Int32)) 2 (3 : Int32)) 3 (5000 : Int32)) 4 (20 : Int32))) := by rw [hw16]; exact upw_eq
  refine lv_aload_n S.1 S.2.1 dX9_init_84 rfl (lv_at hl 0 rfl) ?_
  refine c_get (i := i) S hX G (C := RX9) (T := TX9) (N := 13) 0 fah0 (by omega) fe0 rfl rfl (fun _ h => (List.mem_cons_of_mem _ (List.mem_append_right _ h))) (by decide) (List.mem_of_getElem? (i := 5) rfl) (fun _ h => h) dX9_init_85 ?_
  refine lv_iconst (v := (5 : Int32)) S.1 S.2.1 dX9_init_88 (by decide) ?_
  refine lv_ldc (v := (1000000 : Int32)) S.1 S.2.1 S.2.2.2.1 (S.2.2.2.2 _ (List.mem_of_getElem? (i := 13) rfl)) dX9_init_89 ?_
  refine c_iast (i := (i + 1)) (N := 270) (f := (upd (upd (upd (upd z0 1 (2 : Int32)) 2 (3 : Int32)) 3 (5000 : Int32)) 4 (20 : Int32))) S hX G faq1 (by omega) fe1 (by unfold vp_in; decide) dX9_init_91 (fun H locs G => ?_)
  obtain ⟨w17, hw17⟩ : ∃ z, z = upw w16 (i + 1) (.inl (E.2.1 0, 270, .inl (upd (upd (upd (upd (upd z0 1 (2 : Int32)) 2 (3 : Int32)) 3 (5000 : Int32)) 4 (20 : Int32)) 5 (1000000 : Int32)))) := ⟨_, rfl⟩
  have G : CG E ad6 (i + 7) w17 sg H locs := by rw [hw17]; exact G
  have ho17 : ∀ k, k ≠ (i + 1) → w17 k = w16 k := fun k hk => by rw [hw17]; exact upw_ne hk
  have fe0 : w17 i = .inr (9, [.ref q1, .ref q2, .int 0, .long 0, .ref q3, .ref q4, .long 0, .ref q5, .int 0, .int 0, .int 0, .int 0, .ref q6]) := Eq.trans (ho17 _ (by omega)) fe0
  have fe2 : w17 (i + 2) = .inl (E.2.1 0, 1080, .inl z0) := Eq.trans (ho17 _ (by omega)) fe2
  have fe3 : w17 (i + 3) = .inl (E.2.1 3, 4, .inr (.inl zL)) := Eq.trans (ho17 _ (by omega)) fe3
  have fe4 : w17 (i + 4) = .inl (E.2.1 0, 270, .inl z0) := Eq.trans (ho17 _ (by omega)) fe4
  have fe5 : w17 (i + 5) = .inl (E.2.1 2, 80, .inl z0) := Eq.trans (ho17 _ (by omega)) fe5
  have fe6 : w17 (i + 6) = .inl (E.2.1 0, 4, .inl z0) := Eq.trans (ho17 _ (by omega)) fe6
  have fe1 : w17 (i + 1) = .inl (E.2.1 0, 270, .inl (upd (upd (upd (upd (upd z0 1 (2 : Int32)) 2 (3 : Int32)) 3 (5000 : Int32)) 4 (20 : Int32)) 5 (1000000 : Int32))) := by rw [hw17]; exact upw_eq
  refine lv_aload_n S.1 S.2.1 dX9_init_92 rfl (lv_at hl 0 rfl) ?_
  refine c_get (i := i) S hX G (C := RX9) (T := TX9) (N := 13) 0 fah0 (by omega) fe0 rfl rfl (fun _ h => (List.mem_cons_of_mem _ (List.mem_append_right _ h))) (by decide) (List.mem_of_getElem? (i := 5) rfl) (fun _ h => h) dX9_init_93 ?_
  refine lv_bipush (v := (6 : Int32)) S.1 S.2.1 dX9_init_96 (by decide) ?_
  refine lv_bipush (v := (100 : Int32)) S.1 S.2.1 dX9_init_98 (by decide) ?_
  refine c_iast (i := (i + 1)) (N := 270) (f := (upd (upd (upd (upd (upd z0 1 (2 : Int32)) 2 (3 : Int32)) 3 (5000 : Int32)) 4 (20 : Int32)) 5 (1000000 : Int32))) S hX G faq1 (by omega) fe1 (by unfold vp_in; decide) dX9_init_100 (fun H locs G => ?_)
  obtain ⟨w18, hw18⟩ : ∃ z, z = upw w17 (i + 1) (.inl (E.2.1 0, 270, .inl (upd (upd (upd (upd (upd (upd z0 1 (2 : Int32)) 2 (3 : Int32)) 3 (5000 : Int32)) 4 (20 : Int32)) 5 (1000000 : Int32)) 6 (100 : Int32)))) := ⟨_, rfl⟩
  have G : CG E ad6 (i + 7) w18 sg H locs := by rw [hw18]; exact G
  have ho18 : ∀ k, k ≠ (i + 1) → w18 k = w17 k := fun k hk => by rw [hw18]; exact upw_ne hk
  have fe0 : w18 i = .inr (9, [.ref q1, .ref q2, .int 0, .long 0, .ref q3, .ref q4, .long 0, .ref q5, .int 0, .int 0, .int 0, .int 0, .ref q6]) := Eq.trans (ho18 _ (by omega)) fe0
  have fe2 : w18 (i + 2) = .inl (E.2.1 0, 1080, .inl z0) := Eq.trans (ho18 _ (by omega)) fe2
  have fe3 : w18 (i + 3) = .inl (E.2.1 3, 4, .inr (.inl zL)) := Eq.trans (ho18 _ (by omega)) fe3
  have fe4 : w18 (i + 4) = .inl (E.2.1 0, 270, .inl z0) := Eq.trans (ho18 _ (by omega)) fe4
  have fe5 : w18 (i + 5) = .inl (E.2.1 2, 80, .inl z0) := Eq.trans (ho18 _ (by omega)) fe5
  have fe6 : w18 (i + 6) = .inl (E.2.1 0, 4, .inl z0) := Eq.trans (ho18 _ (by omega)) fe6
  have fe1 : w18 (i + 1) = .inl (E.2.1 0, 270, .inl (upd (upd (upd (upd (upd (upd z0 1 (2 : Int32)) 2 (3 : Int32)) 3 (5000 : Int32)) 4 (20 : Int32)) 5 (1000000 : Int32)) 6 (100 : Int32))) := by rw [hw18]; exact upw_eq
  refine lv_iconst (v := (0 : Int32)) S.1 S.2.1 dX9_init_101 (by decide) ?_
  refine lv_istore_n (lv' := [(1, .int (0 : Int32)), (0, .ref h0)]) S.1 S.2.1 dX9_init_102 rfl hl (by decide) rfl (fun ls hl => ?_)
  refine lv_iload_n S.1 S.2.1 dX9_init_103 rfl (lv_at hl 0 rfl) ?_
  refine lv_iconst (v := (4 : Int32)) S.1 S.2.1 dX9_init_104 (by decide) ?_
  refine lv_icmp_ge (tgt := 129) S.1 S.2.1 dX9_init_105 (by decide) (fun h => absurd h (by decide)) (fun _ => ?_)
  refine lv_aload_n S.1 S.2.1 dX9_init_108 rfl (lv_at hl 1 rfl) ?_
  refine c_get (i := i) S hX G (C := RX9) (T := TX9) (N := 13) 0 fah0 (by omega) fe0 rfl rfl (fun _ h => (List.mem_cons_of_mem _ (List.mem_append_right _ h))) (by decide) (List.mem_of_getElem? (i := 5) rfl) (fun _ h => h) dX9_init_109 ?_
  refine lv_bipush (v := (8 : Int32)) S.1 S.2.1 dX9_init_112 (by decide) ?_
  refine lv_bipush (v := (8 : Int32)) S.1 S.2.1 dX9_init_114 (by decide) ?_
  refine lv_iload_n S.1 S.2.1 dX9_init_116 rfl (lv_at hl 0 rfl) ?_
  refine s_imul (v := (0 : Int32)) S dX9_init_117 (by decide) ?_
  refine s_iadd (v := (8 : Int32)) S dX9_init_118 (by decide) ?_
  refine lv_iconst (v := (2 : Int32)) S.1 S.2.1 dX9_init_119 (by decide) ?_
  refine s_iadd (v := (10 : Int32)) S dX9_init_120 (by decide) ?_
  refine lv_iconst (v := (-1 : Int32)) S.1 S.2.1 dX9_init_121 (by decide) ?_
  refine c_iast (i := (i + 1)) (N := 270) (f := (upd (upd (upd (upd (upd (upd z0 1 (2 : Int32)) 2 (3 : Int32)) 3 (5000 : Int32)) 4 (20 : Int32)) 5 (1000000 : Int32)) 6 (100 : Int32))) S hX G faq1 (by omega) fe1 (by unfold vp_in; decide) dX9_init_122 (fun H locs G => ?_)
  obtain ⟨w19, hw19⟩ : ∃ z, z = upw w18 (i + 1) (.inl (E.2.1 0, 270, .inl (upd (upd (upd (upd (upd (upd (upd z0 1 (2 : Int32)) 2 (3 : Int32)) 3 (5000 : Int32)) 4 (20 : Int32)) 5 (1000000 : Int32)) 6 (100 : Int32)) 10 (-1 : Int32)))) := ⟨_, rfl⟩
  have G : CG E ad6 (i + 7) w19 sg H locs := by rw [hw19]; exact G
  have ho19 : ∀ k, k ≠ (i + 1) → w19 k = w18 k := fun k hk => by rw [hw19]; exact upw_ne hk
  have fe0 : w19 i = .inr (9, [.ref q1, .ref q2, .int 0, .long 0, .ref q3, .ref q4, .long 0, .ref q5, .int 0, .int 0, .int 0, .int 0, .ref q6]) := Eq.trans (ho19 _ (by omega)) fe0
  have fe2 : w19 (i + 2) = .inl (E.2.1 0, 1080, .inl z0) := Eq.trans (ho19 _ (by omega)) fe2
  have fe3 : w19 (i + 3) = .inl (E.2.1 3, 4, .inr (.inl zL)) := Eq.trans (ho19 _ (by omega)) fe3
  have fe4 : w19 (i + 4) = .inl (E.2.1 0, 270, .inl z0) := Eq.trans (ho19 _ (by omega)) fe4
  have fe5 : w19 (i + 5) = .inl (E.2.1 2, 80, .inl z0) := Eq.trans (ho19 _ (by omega)) fe5
  have fe6 : w19 (i + 6) = .inl (E.2.1 0, 4, .inl z0) := Eq.trans (ho19 _ (by omega)) fe6
  have fe1 : w19 (i + 1) = .inl (E.2.1 0, 270, .inl (upd (upd (upd (upd (upd (upd (upd z0 1 (2 : Int32)) 2 (3 : Int32)) 3 (5000 : Int32)) 4 (20 : Int32)) 5 (1000000 : Int32)) 6 (100 : Int32)) 10 (-1 : Int32))) := by rw [hw19]; exact upw_eq
  refine lv_iinc (v := (1 : Int32)) (lv' := [(1, .int (1 : Int32)), (0, .ref h0)]) S.1 S.2.1 dX9_init_123 hl (k := 0) rfl (by decide) (by decide) rfl (fun ls hl => ?_)
  refine lv_goto (tgt := 103) S.1 S.2.1 dX9_init_126 (by decide) ?_
  refine lv_iload_n S.1 S.2.1 dX9_init_103 rfl (lv_at hl 0 rfl) ?_
  refine lv_iconst (v := (4 : Int32)) S.1 S.2.1 dX9_init_104 (by decide) ?_
  refine lv_icmp_ge (tgt := 129) S.1 S.2.1 dX9_init_105 (by decide) (fun h => absurd h (by decide)) (fun _ => ?_)
  refine lv_aload_n S.1 S.2.1 dX9_init_108 rfl (lv_at hl 1 rfl) ?_
  refine c_get (i := i) S hX G (C := RX9) (T := TX9) (N := 13) 0 fah0 (by omega) fe0 rfl rfl (fun _ h => (List.mem_cons_of_mem _ (List.mem_append_right _ h))) (by decide) (List.mem_of_getElem? (i := 5) rfl) (fun _ h => h) dX9_init_109 ?_
  refine lv_bipush (v := (8 : Int32)) S.1 S.2.1 dX9_init_112 (by decide) ?_
  refine lv_bipush (v := (8 : Int32)) S.1 S.2.1 dX9_init_114 (by decide) ?_
  refine lv_iload_n S.1 S.2.1 dX9_init_116 rfl (lv_at hl 0 rfl) ?_
  refine s_imul (v := (8 : Int32)) S dX9_init_117 (by decide) ?_
  refine s_iadd (v := (16 : Int32)) S dX9_init_118 (by decide) ?_
  refine lv_iconst (v := (2 : Int32)) S.1 S.2.1 dX9_init_119 (by decide) ?_
  refine s_iadd (v := (18 : Int32)) S dX9_init_120 (by decide) ?_
  refine lv_iconst (v := (-1 : Int32)) S.1 S.2.1 dX9_init_121 (by decide) ?_
  refine c_iast (i := (i + 1)) (N := 270) (f := (upd (upd (upd (upd (upd (upd (upd z0 1 (2 : Int32)) 2 (3 : Int32)) 3 (5000 : Int32)) 4 (20 : Int32)) 5 (1000000 : Int32)) 6 (100 : Int32)) 10 (-1 : Int32))) S hX G faq1 (by omega) fe1 (by unfold vp_in; decide) dX9_init_122 (fun H locs G => ?_)
  obtain ⟨w20, hw20⟩ : ∃ z, z = upw w19 (i + 1) (.inl (E.2.1 0, 270, .inl (upd (upd (upd (upd (upd (upd (upd (upd z0 1 (2 : Int32)) 2 (3 : Int32)) 3 (5000 : Int32)) 4 (20 : Int32)) 5 (1000000 : Int32)) 6 (100 : Int32)) 10 (-1 : Int32)) 18 (-1 : Int32)))) := ⟨_, rfl⟩
  have G : CG E ad6 (i + 7) w20 sg H locs := by rw [hw20]; exact G
  have ho20 : ∀ k, k ≠ (i + 1) → w20 k = w19 k := fun k hk => by rw [hw20]; exact upw_ne hk
  have fe0 : w20 i = .inr (9, [.ref q1, .ref q2, .int 0, .long 0, .ref q3, .ref q4, .long 0, .ref q5, .int 0, .int 0, .int 0, .int 0, .ref q6]) := Eq.trans (ho20 _ (by omega)) fe0
  have fe2 : w20 (i + 2) = .inl (E.2.1 0, 1080, .inl z0) := Eq.trans (ho20 _ (by omega)) fe2
  have fe3 : w20 (i + 3) = .inl (E.2.1 3, 4, .inr (.inl zL)) := Eq.trans (ho20 _ (by omega)) fe3
  have fe4 : w20 (i + 4) = .inl (E.2.1 0, 270, .inl z0) := Eq.trans (ho20 _ (by omega)) fe4
  have fe5 : w20 (i + 5) = .inl (E.2.1 2, 80, .inl z0) := Eq.trans (ho20 _ (by omega)) fe5
  have fe6 : w20 (i + 6) = .inl (E.2.1 0, 4, .inl z0) := Eq.trans (ho20 _ (by omega)) fe6
  have fe1 : w20 (i + 1) = .inl (E.2.1 0, 270, .inl (upd (upd (upd (upd (upd (upd (upd (upd z0 1 (2 : Int32)) 2 (3 : Int32)) 3 (5000 : Int32)) 4 (20 : Int32)) 5 (1000000 : Int32)) 6 (100 : Int32)) 10 (-1 : Int32)) 18 (-1 : Int32))) := by rw [hw20]; exact upw_eq
  refine lv_iinc (v := (2 : Int32)) (lv' := [(1, .int (2 : Int32)), (0, .ref h0)]) S.1 S.2.1 dX9_init_123 hl (k := 0) rfl (by decide) (by decide) rfl (fun ls hl => ?_)
  refine lv_goto (tgt := 103) S.1 S.2.1 dX9_init_126 (by decide) ?_
  refine lv_iload_n S.1 S.2.1 dX9_init_103 rfl (lv_at hl 0 rfl) ?_
  refine lv_iconst (v := (4 : Int32)) S.1 S.2.1 dX9_init_104 (by decide) ?_
  refine lv_icmp_ge (tgt := 129) S.1 S.2.1 dX9_init_105 (by decide) (fun h => absurd h (by decide)) (fun _ => ?_)
  refine lv_aload_n S.1 S.2.1 dX9_init_108 rfl (lv_at hl 1 rfl) ?_
  refine c_get (i := i) S hX G (C := RX9) (T := TX9) (N := 13) 0 fah0 (by omega) fe0 rfl rfl (fun _ h => (List.mem_cons_of_mem _ (List.mem_append_right _ h))) (by decide) (List.mem_of_getElem? (i := 5) rfl) (fun _ h => h) dX9_init_109 ?_
  refine lv_bipush (v := (8 : Int32)) S.1 S.2.1 dX9_init_112 (by decide) ?_
  refine lv_bipush (v := (8 : Int32)) S.1 S.2.1 dX9_init_114 (by decide) ?_
  refine lv_iload_n S.1 S.2.1 dX9_init_116 rfl (lv_at hl 0 rfl) ?_
  refine s_imul (v := (16 : Int32)) S dX9_init_117 (by decide) ?_
  refine s_iadd (v := (24 : Int32)) S dX9_init_118 (by decide) ?_
  refine lv_iconst (v := (2 : Int32)) S.1 S.2.1 dX9_init_119 (by decide) ?_
  refine s_iadd (v := (26 : Int32)) S dX9_init_120 (by decide) ?_
  refine lv_iconst (v := (-1 : Int32)) S.1 S.2.1 dX9_init_121 (by decide) ?_
  refine c_iast (i := (i + 1)) (N := 270) (f := (upd (upd (upd (upd (upd (upd (upd (upd z0 1 (2 : Int32)) 2 (3 : Int32)) 3 (5000 : Int32)) 4 (20 : Int32)) 5 (1000000 : Int32)) 6 (100 : Int32)) 10 (-1 : Int32)) 18 (-1 : Int32))) S hX G faq1 (by omega) fe1 (by unfold vp_in; decide) dX9_init_122 (fun H locs G => ?_)
  obtain ⟨w21, hw21⟩ : ∃ z, z = upw w20 (i + 1) (.inl (E.2.1 0, 270, .inl (upd (upd (upd (upd (upd (upd (upd (upd (upd z0 1 (2 : Int32)) 2 (3 : Int32)) 3 (5000 : Int32)) 4 (20 : Int32)) 5 (1000000 : Int32)) 6 (100 : Int32)) 10 (-1 : Int32)) 18 (-1 : Int32)) 26 (-1 : Int32)))) := ⟨_, rfl⟩
  have G : CG E ad6 (i + 7) w21 sg H locs := by rw [hw21]; exact G
  have ho21 : ∀ k, k ≠ (i + 1) → w21 k = w20 k := fun k hk => by rw [hw21]; exact upw_ne hk
  have fe0 : w21 i = .inr (9, [.ref q1, .ref q2, .int 0, .long 0, .ref q3, .ref q4, .long 0, .ref q5, .int 0, .int 0, .int 0, .int 0, .ref q6]) := Eq.trans (ho21 _ (by omega)) fe0
  have fe2 : w21 (i + 2) = .inl (E.2.1 0, 1080, .inl z0) := Eq.trans (ho21 _ (by omega)) fe2
  have fe3 : w21 (i + 3) = .inl (E.2.1 3, 4, .inr (.inl zL)) := Eq.trans (ho21 _ (by omega)) fe3
  have fe4 : w21 (i + 4) = .inl (E.2.1 0, 270, .inl z0) := Eq.trans (ho21 _ (by omega)) fe4
  have fe5 : w21 (i + 5) = .inl (E.2.1 2, 80, .inl z0) := Eq.trans (ho21 _ (by omega)) fe5
  have fe6 : w21 (i + 6) = .inl (E.2.1 0, 4, .inl z0) := Eq.trans (ho21 _ (by omega)) fe6
  have fe1 : w21 (i + 1) = .inl (E.2.1 0, 270, .inl (upd (upd (upd (upd (upd (upd (upd (upd (upd z0 1 (2 : Int32)) 2 (3 : Int32)) 3 (5000 : Int32)) 4 (20 : Int32)) 5 (1000000 : Int32)) 6 (100 : Int32)) 10 (-1 : Int32)) 18 (-1 : Int32)) 26 (-1 : Int32))) := by rw [hw21]; exact upw_eq
  refine lv_iinc (v := (3 : Int32)) (lv' := [(1, .int (3 : Int32)), (0, .ref h0)]) S.1 S.2.1 dX9_init_123 hl (k := 0) rfl (by decide) (by decide) rfl (fun ls hl => ?_)
  refine lv_goto (tgt := 103) S.1 S.2.1 dX9_init_126 (by decide) ?_
  refine lv_iload_n S.1 S.2.1 dX9_init_103 rfl (lv_at hl 0 rfl) ?_
  refine lv_iconst (v := (4 : Int32)) S.1 S.2.1 dX9_init_104 (by decide) ?_
  refine lv_icmp_ge (tgt := 129) S.1 S.2.1 dX9_init_105 (by decide) (fun h => absurd h (by decide)) (fun _ => ?_)
  refine lv_aload_n S.1 S.2.1 dX9_init_108 rfl (lv_at hl 1 rfl) ?_
  refine c_get (i := i) S hX G (C := RX9) (T := TX9) (N := 13) 0 fah0 (by omega) fe0 rfl rfl (fun _ h => (List.mem_cons_of_mem _ (List.mem_append_right _ h))) (by decide) (List.mem_of_getElem? (i := 5) rfl) (fun _ h => h) dX9_init_109 ?_
  refine lv_bipush (v := (8 : Int32)) S.1 S.2.1 dX9_init_112 (by decide) ?_
  refine lv_bipush (v := (8 : Int32)) S.1 S.2.1 dX9_init_114 (by decide) ?_
  refine lv_iload_n S.1 S.2.1 dX9_init_116 rfl (lv_at hl 0 rfl) ?_
  refine s_imul (v := (24 : Int32)) S dX9_init_117 (by decide) ?_
  refine s_iadd (v := (32 : Int32)) S dX9_init_118 (by decide) ?_
  refine lv_iconst (v := (2 : Int32)) S.1 S.2.1 dX9_init_119 (by decide) ?_
  refine s_iadd (v := (34 : Int32)) S dX9_init_120 (by decide) ?_
  refine lv_iconst (v := (-1 : Int32)) S.1 S.2.1 dX9_init_121 (by decide) ?_
  refine c_iast (i := (i + 1)) (N := 270) (f := (upd (upd (upd (upd (upd (upd (upd (upd (upd z0 1 (2 : Int32)) 2 (3 : Int32)) 3 (5000 : Int32)) 4 (20 : Int32)) 5 (1000000 : Int32)) 6 (100 : Int32)) 10 (-1 : Int32)) 18 (-1 : Int32)) 26 (-1 : Int32))) S hX G faq1 (by omega) fe1 (by unfold vp_in; decide) dX9_init_122 (fun H locs G => ?_)
  obtain ⟨w22, hw22⟩ : ∃ z, z = upw w21 (i + 1) (.inl (E.2.1 0, 270, .inl (upd (upd (upd (upd (upd (upd (upd (upd (upd (upd z0 1 (2 : Int32)) 2 (3 : Int32)) 3 (5000 : Int32)) 4 (20 : Int32)) 5 (1000000 : Int32)) 6 (100 : Int32)) 10 (-1 : Int32)) 18 (-1 : Int32)) 26 (-1 : Int32)) 34 (-1 : Int32)))) := ⟨_, rfl⟩
  have G : CG E ad6 (i + 7) w22 sg H locs := by rw [hw22]; exact G
  have ho22 : ∀ k, k ≠ (i + 1) → w22 k = w21 k := fun k hk => by rw [hw22]; exact upw_ne hk
  have fe0 : w22 i = .inr (9, [.ref q1, .ref q2, .int 0, .long 0, .ref q3, .ref q4, .long 0, .ref q5, .int 0, .int 0, .int 0, .int 0, .ref q6]) := Eq.trans (ho22 _ (by omega)) fe0
  have fe2 : w22 (i + 2) = .inl (E.2.1 0, 1080, .inl z0) := Eq.trans (ho22 _ (by omega)) fe2
  have fe3 : w22 (i + 3) = .inl (E.2.1 3, 4, .inr (.inl zL)) := Eq.trans (ho22 _ (by omega)) fe3
  have fe4 : w22 (i + 4) = .inl (E.2.1 0, 270, .inl z0) := Eq.trans (ho22 _ (by omega)) fe4
  have fe5 : w22 (i + 5) = .inl (E.2.1 2, 80, .inl z0) := Eq.trans (ho22 _ (by omega)) fe5
  have fe6 : w22 (i + 6) = .inl (E.2.1 0, 4, .inl z0) := Eq.trans (ho22 _ (by omega)) fe6
  have fe1 : w22 (i + 1) = .inl (E.2.1 0, 270, .inl (upd (upd (upd (upd (upd (upd (upd (upd (upd (upd z0 1 (2 : Int32)) 2 (3 : Int32)) 3 (5000 : Int32)) 4 (20 : Int32)) 5 (1000000 : Int32)) 6 (100 : Int32)) 10 (-1 : Int32)) 18 (-1 : Int32)) 26 (-1 : Int32)) 34 (-1 : Int32))) := by rw [hw22]; exact upw_eq
  refine lv_iinc (v := (4 : Int32)) (lv' := [(1, .int (4 : Int32)), (0, .ref h0)]) S.1 S.2.1 dX9_init_123 hl (k := 0) rfl (by decide) (by decide) rfl (fun ls hl => ?_)
  refine lv_goto (tgt := 103) S.1 S.2.1 dX9_init_126 (by decide) ?_
  refine lv_iload_n S.1 S.2.1 dX9_init_103 rfl (lv_at hl 0 rfl) ?_
  refine lv_iconst (v := (4 : Int32)) S.1 S.2.1 dX9_init_104 (by decide) ?_
  refine lv_icmp_ge (tgt := 129) S.1 S.2.1 dX9_init_105 (by decide) (fun _ => ?_) (fun h => absurd (by decide) h)
  refine lv_iconst (v := (0 : Int32)) S.1 S.2.1 dX9_init_129 (by decide) ?_
  refine lv_istore_n (lv' := [(1, .int (0 : Int32)), (0, .ref h0)]) S.1 S.2.1 dX9_init_130 rfl hl (by decide) rfl (fun ls hl => ?_)
  refine lv_iload_n S.1 S.2.1 dX9_init_131 rfl (lv_at hl 0 rfl) ?_
  refine lv_iconst (v := (2 : Int32)) S.1 S.2.1 dX9_init_132 (by decide) ?_
  refine lv_icmp_ge (tgt := 229) S.1 S.2.1 dX9_init_133 (by decide) (fun h => absurd h (by decide)) (fun _ => ?_)
  refine lv_bipush (v := (40 : Int32)) S.1 S.2.1 dX9_init_136 (by decide) ?_
  refine lv_bipush (v := (30 : Int32)) S.1 S.2.1 dX9_init_138 (by decide) ?_
  refine lv_iload_n S.1 S.2.1 dX9_init_140 rfl (lv_at hl 0 rfl) ?_
  refine s_imul (v := (0 : Int32)) S dX9_init_141 (by decide) ?_
  refine s_iadd (v := (40 : Int32)) S dX9_init_142 (by decide) ?_
  refine lv_istore_n (lv' := [(2, .int (40 : Int32)), (1, .int (0 : Int32)), (0, .ref h0)]) S.1 S.2.1 dX9_init_143 rfl hl (by decide) rfl (fun ls hl => ?_)
  refine lv_aload_n S.1 S.2.1 dX9_init_144 rfl (lv_at hl 2 rfl) ?_
  refine c_get (i := i) S hX G (C := RX9) (T := TX9) (N := 13) 0 fah0 (by omega) fe0 rfl rfl (fun _ h => (List.mem_cons_of_mem _ (List.mem_append_right _ h))) (by decide) (List.mem_of_getElem? (i := 5) rfl) (fun _ h => h) dX9_init_145 ?_
  refine lv_iload_n S.1 S.2.1 dX9_init_148 rfl (lv_at hl 0 rfl) ?_
  refine lv_iconst (v := (0 : Int32)) S.1 S.2.1 dX9_init_149 (by decide) ?_
  refine s_iadd (v := (40 : Int32)) S dX9_init_150 (by decide) ?_
  refine lv_bipush (v := (50 : Int32)) S.1 S.2.1 dX9_init_151 (by decide) ?_
  refine c_iast (i := (i + 1)) (N := 270) (f := (upd (upd (upd (upd (upd (upd (upd (upd (upd (upd z0 1 (2 : Int32)) 2 (3 : Int32)) 3 (5000 : Int32)) 4 (20 : Int32)) 5 (1000000 : Int32)) 6 (100 : Int32)) 10 (-1 : Int32)) 18 (-1 : Int32)) 26 (-1 : Int32)) 34 (-1 : Int32))) S hX G faq1 (by omega) fe1 (by unfold vp_in; decide) dX9_init_153 (fun H locs G => ?_)
  obtain ⟨w23, hw23⟩ : ∃ z, z = upw w22 (i + 1) (.inl (E.2.1 0, 270, .inl (upd (upd (upd (upd (upd (upd (upd (upd (upd (upd (upd z0 1 (2 : Int32)) 2 (3 : Int32)) 3 (5000 : Int32)) 4 (20 : Int32)) 5 (1000000 : Int32)) 6 (100 : Int32)) 10 (-1 : Int32)) 18 (-1 : Int32)) 26 (-1 : Int32)) 34 (-1 : Int32)) 40 (50 : Int32)))) := ⟨_, rfl⟩
  have G : CG E ad6 (i + 7) w23 sg H locs := by rw [hw23]; exact G
  have ho23 : ∀ k, k ≠ (i + 1) → w23 k = w22 k := fun k hk => by rw [hw23]; exact upw_ne hk
  have fe0 : w23 i = .inr (9, [.ref q1, .ref q2, .int 0, .long 0, .ref q3, .ref q4, .long 0, .ref q5, .int 0, .int 0, .int 0, .int 0, .ref q6]) := Eq.trans (ho23 _ (by omega)) fe0
  have fe2 : w23 (i + 2) = .inl (E.2.1 0, 1080, .inl z0) := Eq.trans (ho23 _ (by omega)) fe2
  have fe3 : w23 (i + 3) = .inl (E.2.1 3, 4, .inr (.inl zL)) := Eq.trans (ho23 _ (by omega)) fe3
  have fe4 : w23 (i + 4) = .inl (E.2.1 0, 270, .inl z0) := Eq.trans (ho23 _ (by omega)) fe4
  have fe5 : w23 (i + 5) = .inl (E.2.1 2, 80, .inl z0) := Eq.trans (ho23 _ (by omega)) fe5
  have fe6 : w23 (i + 6) = .inl (E.2.1 0, 4, .inl z0) := Eq.trans (ho23 _ (by omega)) fe6
  have fe1 : w23 (i + 1) = .inl (E.2.1 0, 270, .inl (upd (upd (upd (upd (upd (upd (upd (upd (upd (upd (upd z0 1 (2 : Int32)) 2 (3 : Int32)) 3 (5000 : Int32)) 4 (20 : Int32)) 5 (1000000 : Int32)) 6 (100 : Int32)) 10 (-1 : Int32)) 18 (-1 : Int32)) 26 (-1 : Int32)) 34 (-1 : Int32)) 40 (50 : Int32))) := by rw [hw23]; exact upw_eq
  refine lv_aload_n S.1 S.2.1 dX9_init_154 rfl (lv_at hl 2 rfl) ?_
  refine c_get (i := i) S hX G (C := RX9) (T := TX9) (N := 13) 0 fah0 (by omega) fe0 rfl rfl (fun _ h => (List.mem_cons_of_mem _ (List.mem_append_right _ h))) (by decide) (List.mem_of_getElem? (i := 5) rfl) (fun _ h => h) dX9_init_155 ?_
  refine lv_iload_n S.1 S.2.1 dX9_init_158 rfl (lv_at hl 0 rfl) ?_
  refine lv_iconst (v := (1 : Int32)) S.1 S.2.1 dX9_init_159 (by decide) ?_
  refine s_iadd (v := (41 : Int32)) S dX9_init_160 (by decide) ?_
  refine lv_bipush (v := (10 : Int32)) S.1 S.2.1 dX9_init_161 (by decide) ?_
  refine c_iast (i := (i + 1)) (N := 270) (f := (upd (upd (upd (upd (upd (upd (upd (upd (upd (upd (upd z0 1 (2 : Int32)) 2 (3 : Int32)) 3 (5000 : Int32)) 4 (20 : Int32)) 5 (1000000 : Int32)) 6 (100 : Int32)) 10 (-1 : Int32)) 18 (-1 : Int32)) 26 (-1 : Int32)) 34 (-1 : Int32)) 40 (50 : Int32))) S hX G faq1 (by omega) fe1 (by unfold vp_in; decide) dX9_init_163 (fun H locs G => ?_)
  obtain ⟨w24, hw24⟩ : ∃ z, z = upw w23 (i + 1) (.inl (E.2.1 0, 270, .inl (upd (upd (upd (upd (upd (upd (upd (upd (upd (upd (upd (upd z0 1 (2 : Int32)) 2 (3 : Int32)) 3 (5000 : Int32)) 4 (20 : Int32)) 5 (1000000 : Int32)) 6 (100 : Int32)) 10 (-1 : Int32)) 18 (-1 : Int32)) 26 (-1 : Int32)) 34 (-1 : Int32)) 40 (50 : Int32)) 41 (10 : Int32)))) := ⟨_, rfl⟩
  have G : CG E ad6 (i + 7) w24 sg H locs := by rw [hw24]; exact G
  have ho24 : ∀ k, k ≠ (i + 1) → w24 k = w23 k := fun k hk => by rw [hw24]; exact upw_ne hk
  have fe0 : w24 i = .inr (9, [.ref q1, .ref q2, .int 0, .long 0, .ref q3, .ref q4, .long 0, .ref q5, .int 0, .int 0, .int 0, .int 0, .ref q6]) := Eq.trans (ho24 _ (by omega)) fe0
  have fe2 : w24 (i + 2) = .inl (E.2.1 0, 1080, .inl z0) := Eq.trans (ho24 _ (by omega)) fe2
  have fe3 : w24 (i + 3) = .inl (E.2.1 3, 4, .inr (.inl zL)) := Eq.trans (ho24 _ (by omega)) fe3
  have fe4 : w24 (i + 4) = .inl (E.2.1 0, 270, .inl z0) := Eq.trans (ho24 _ (by omega)) fe4
  have fe5 : w24 (i + 5) = .inl (E.2.1 2, 80, .inl z0) := Eq.trans (ho24 _ (by omega)) fe5
  have fe6 : w24 (i + 6) = .inl (E.2.1 0, 4, .inl z0) := Eq.trans (ho24 _ (by omega)) fe6
  have fe1 : w24 (i + 1) = .inl (E.2.1 0, 270, .inl (upd (upd (upd (upd (upd (upd (upd (upd (upd (upd (upd (upd z0 1 (2 : Int32)) 2 (3 : Int32)) 3 (5000 : Int32)) 4 (20 : Int32)) 5 (1000000 : Int32)) 6 (100 : Int32)) 10 (-1 : Int32)) 18 (-1 : Int32)) 26 (-1 : Int32)) 34 (-1 : Int32)) 40 (50 : Int32)) 41 (10 : Int32))) := by rw [hw24]; exact upw_eq
  refine lv_aload_n S.1 S.2.1 dX9_init_164 rfl (lv_at hl 2 rfl) ?_
  refine c_get (i := i) S hX G (C := RX9) (T := TX9) (N := 13) 0 fah0 (by omega) fe0 rfl rfl (fun _ h => (List.mem_cons_of_mem _ (List.mem_append_right _ h))) (by decide) (List.mem_of_getElem? (i := 5) rfl) (fun _ h => h) dX9_init_165 ?_
  refine lv_iload_n S.1 S.2.1 dX9_init_168 rfl (lv_at hl 0 rfl) ?_
  refine lv_iconst (v := (2 : Int32)) S.1 S.2.1 dX9_init_169 (by decide) ?_
  refine s_iadd (v := (42 : Int32)) S dX9_init_170 (by decide) ?_
  refine lv_sipush (v := (1000 : Int32)) S.1 S.2.1 dX9_init_171 (by decide) ?_
  refine c_iast (i := (i + 1)) (N := 270) (f := (upd (upd (upd (upd (upd (upd (upd (upd (upd (upd (upd (upd z0 1 (2 : Int32)) 2 (3 : Int32)) 3 (5000 : Int32)) 4 (20 : Int32)) 5 (1000000 : Int32)) 6 (100 : Int32)) 10 (-1 : Int32)) 18 (-1 : Int32)) 26 (-1 : Int32)) 34 (-1 : Int32)) 40 (50 : Int32)) 41 (10 : Int32))) S hX G faq1 (by omega) fe1 (by unfold vp_in; decide) dX9_init_174 (fun H locs G => ?_)
  obtain ⟨w25, hw25⟩ : ∃ z, z = upw w24 (i + 1) (.inl (E.2.1 0, 270, .inl (upd (upd (upd (upd (upd (upd (upd (upd (upd (upd (upd (upd (upd z0 1 (2 : Int32)) 2 (3 : Int32)) 3 (5000 : Int32)) 4 (20 : Int32)) 5 (1000000 : Int32)) 6 (100 : Int32)) 10 (-1 : Int32)) 18 (-1 : Int32)) 26 (-1 : Int32)) 34 (-1 : Int32)) 40 (50 : Int32)) 41 (10 : Int32)) 42 (1000 : Int32)))) := ⟨_, rfl⟩
  have G : CG E ad6 (i + 7) w25 sg H locs := by rw [hw25]; exact G
  have ho25 : ∀ k, k ≠ (i + 1) → w25 k = w24 k := fun k hk => by rw [hw25]; exact upw_ne hk
  have fe0 : w25 i = .inr (9, [.ref q1, .ref q2, .int 0, .long 0, .ref q3, .ref q4, .long 0, .ref q5, .int 0, .int 0, .int 0, .int 0, .ref q6]) := Eq.trans (ho25 _ (by omega)) fe0
  have fe2 : w25 (i + 2) = .inl (E.2.1 0, 1080, .inl z0) := Eq.trans (ho25 _ (by omega)) fe2
  have fe3 : w25 (i + 3) = .inl (E.2.1 3, 4, .inr (.inl zL)) := Eq.trans (ho25 _ (by omega)) fe3
  have fe4 : w25 (i + 4) = .inl (E.2.1 0, 270, .inl z0) := Eq.trans (ho25 _ (by omega)) fe4
  have fe5 : w25 (i + 5) = .inl (E.2.1 2, 80, .inl z0) := Eq.trans (ho25 _ (by omega)) fe5
  have fe6 : w25 (i + 6) = .inl (E.2.1 0, 4, .inl z0) := Eq.trans (ho25 _ (by omega)) fe6
  have fe1 : w25 (i + 1) = .inl (E.2.1 0, 270, .inl (upd (upd (upd (upd (upd (upd (upd (upd (upd (upd (upd (upd (upd z0 1 (2 : Int32)) 2 (3 : Int32)) 3 (5000 : Int32)) 4 (20 : Int32)) 5 (1000000 : Int32)) 6 (100 : Int32)) 10 (-1 : Int32)) 18 (-1 : Int32)) 26 (-1 : Int32)) 34 (-1 : Int32)) 40 (50 : Int32)) 41 (10 : Int32)) 42 (1000 : Int32))) := by rw [hw25]; exact upw_eq
  refine lv_aload_n S.1 S.2.1 dX9_init_175 rfl (lv_at hl 2 rfl) ?_
  refine c_get (i := i) S hX G (C := RX9) (T := TX9) (N := 13) 0 fah0 (by omega) fe0 rfl rfl (fun _ h => (List.mem_cons_of_mem _ (List.mem_append_right _ h))) (by decide) (List.mem_of_getElem? (i := 5) rfl) (fun _ h => h) dX9_init_176 ?_
  refine lv_iload_n S.1 S.2.1 dX9_init_179 rfl (lv_at hl 0 rfl) ?_
  refine lv_iconst (v := (3 : Int32)) S.1 S.2.1 dX9_init_180 (by decide) ?_
  refine s_iadd (v := (43 : Int32)) S dX9_init_181 (by decide) ?_
  refine lv_bipush (v := (100 : Int32)) S.1 S.2.1 dX9_init_182 (by decide) ?_
  refine c_iast (i := (i + 1)) (N := 270) (f := (upd (upd (upd (upd (upd (upd (upd (upd (upd (upd (upd (upd (upd z0 1 (2 : Int32)) 2 (3 : Int32)) 3 (5000 : Int32)) 4 (20 : Int32)) 5 (1000000 : Int32)) 6 (100 : Int32)) 10 (-1 : Int32)) 18 (-1 : Int32)) 26 (-1 : Int32)) 34 (-1 : Int32)) 40 (50 : Int32)) 41 (10 : Int32)) 42 (1000 : Int32))) S hX G faq1 (by omega) fe1 (by unfold vp_in; decide) dX9_init_184 (fun H locs G => ?_)
  obtain ⟨w26, hw26⟩ : ∃ z, z = upw w25 (i + 1) (.inl (E.2.1 0, 270, .inl (upd (upd (upd (upd (upd (upd (upd (upd (upd (upd (upd (upd (upd (upd z0 1 (2 : Int32)) 2 (3 : Int32)) 3 (5000 : Int32)) 4 (20 : Int32)) 5 (1000000 : Int32)) 6 (100 : Int32)) 10 (-1 : Int32)) 18 (-1 : Int32)) 26 (-1 : Int32)) 34 (-1 : Int32)) 40 (50 : Int32)) 41 (10 : Int32)) 42 (1000 : Int32)) 43 (100 : Int32)))) := ⟨_, rfl⟩
  have G : CG E ad6 (i + 7) w26 sg H locs := by rw [hw26]; exact G
  have ho26 : ∀ k, k ≠ (i + 1) → w26 k = w25 k := fun k hk => by rw [hw26]; exact upw_ne hk
  have fe0 : w26 i = .inr (9, [.ref q1, .ref q2, .int 0, .long 0, .ref q3, .ref q4, .long 0, .ref q5, .int 0, .int 0, .int 0, .int 0, .ref q6]) := Eq.trans (ho26 _ (by omega)) fe0
  have fe2 : w26 (i + 2) = .inl (E.2.1 0, 1080, .inl z0) := Eq.trans (ho26 _ (by omega)) fe2
  have fe3 : w26 (i + 3) = .inl (E.2.1 3, 4, .inr (.inl zL)) := Eq.trans (ho26 _ (by omega)) fe3
  have fe4 : w26 (i + 4) = .inl (E.2.1 0, 270, .inl z0) := Eq.trans (ho26 _ (by omega)) fe4
  have fe5 : w26 (i + 5) = .inl (E.2.1 2, 80, .inl z0) := Eq.trans (ho26 _ (by omega)) fe5
  have fe6 : w26 (i + 6) = .inl (E.2.1 0, 4, .inl z0) := Eq.trans (ho26 _ (by omega)) fe6
  have fe1 : w26 (i + 1) = .inl (E.2.1 0, 270, .inl (upd (upd (upd (upd (upd (upd (upd (upd (upd (upd (upd (upd (upd (upd z0 1 (2 : Int32)) 2 (3 : Int32)) 3 (5000 : Int32)) 4 (20 : Int32)) 5 (1000000 : Int32)) 6 (100 : Int32)) 10 (-1 : Int32)) 18 (-1 : Int32)) 26 (-1 : Int32)) 34 (-1 : Int32)) 40 (50 : Int32)) 41 (10 : Int32)) 42 (1000 : Int32)) 43 (100 : Int32))) := by rw [hw26]; exact upw_eq
  refine lv_aload_n S.1 S.2.1 dX9_init_185 rfl (lv_at hl 2 rfl) ?_
  refine c_get (i := i) S hX G (C := RX9) (T := TX9) (N := 13) 0 fah0 (by omega) fe0 rfl rfl (fun _ h => (List.mem_cons_of_mem _ (List.mem_append_right _ h))) (by decide) (List.mem_of_getElem? (i := 5) rfl) (fun _ h => h) dX9_init_186 ?_
  refine lv_iload_n S.1 S.2.1 dX9_init_189 rfl (lv_at hl 0 rfl) ?_
  refine lv_bipush (v := (9 : Int32)) S.1 S.2.1 dX9_init_190 (by decide) ?_
  refine s_iadd (v := (49 : Int32)) S dX9_init_192 (by decide) ?_
  refine lv_bipush (v := (9 : Int32)) S.1 S.2.1 dX9_init_193 (by decide) ?_
  refine c_iast (i := (i + 1)) (N := 270) (f := (upd (upd (upd (upd (upd (upd (upd (upd (upd (upd (upd (upd (upd (upd z0 1 (2 : Int32)) 2 (3 : Int32)) 3 (5000 : Int32)) 4 (20 : Int32)) 5 (1000000 : Int32)) 6 (100 : Int32)) 10 (-1 : Int32)) 18 (-1 : Int32)) 26 (-1 : Int32)) 34 (-1 : Int32)) 40 (50 : Int32)) 41 (10 : Int32)) 42 (1000 : Int32)) 43 (100 : Int32))) S hX G faq1 (by omega) fe1 (by unfold vp_in; decide) dX9_init_195 (fun H locs G => ?_)
  obtain ⟨w27, hw27⟩ : ∃ z, z = upw w26 (i + 1) (.inl (E.2.1 0, 270, .inl (upd (upd (upd (upd (upd (upd (upd (upd (upd (upd (upd (upd (upd (upd (upd z0 1 (2 : Int32)) 2 (3 : Int32)) 3 (5000 : Int32)) 4 (20 : Int32)) 5 (1000000 : Int32)) 6 (100 : Int32)) 10 (-1 : Int32)) 18 (-1 : Int32)) 26 (-1 : Int32)) 34 (-1 : Int32)) 40 (50 : Int32)) 41 (10 : Int32)) 42 (1000 : Int32)) 43 (100 : Int32)) 49 (9 : Int32)))) := ⟨_, rfl⟩
  have G : CG E ad6 (i + 7) w27 sg H locs := by rw [hw27]; exact G
  have ho27 : ∀ k, k ≠ (i + 1) → w27 k = w26 k := fun k hk => by rw [hw27]; exact upw_ne hk
  have fe0 : w27 i = .inr (9, [.ref q1, .ref q2, .int 0, .long 0, .ref q3, .ref q4, .long 0, .ref q5, .int 0, .int 0, .int 0, .int 0, .ref q6]) := Eq.trans (ho27 _ (by omega)) fe0
  have fe2 : w27 (i + 2) = .inl (E.2.1 0, 1080, .inl z0) := Eq.trans (ho27 _ (by omega)) fe2
  have fe3 : w27 (i + 3) = .inl (E.2.1 3, 4, .inr (.inl zL)) := Eq.trans (ho27 _ (by omega)) fe3
  have fe4 : w27 (i + 4) = .inl (E.2.1 0, 270, .inl z0) := Eq.trans (ho27 _ (by omega)) fe4
  have fe5 : w27 (i + 5) = .inl (E.2.1 2, 80, .inl z0) := Eq.trans (ho27 _ (by omega)) fe5
  have fe6 : w27 (i + 6) = .inl (E.2.1 0, 4, .inl z0) := Eq.trans (ho27 _ (by omega)) fe6
  have fe1 : w27 (i + 1) = .inl (E.2.1 0, 270, .inl (upd (upd (upd (upd (upd (upd (upd (upd (upd (upd (upd (upd (upd (upd (upd z0 1 (2 : Int32)) 2 (3 : Int32)) 3 (5000 : Int32)) 4 (20 : Int32)) 5 (1000000 : Int32)) 6 (100 : Int32)) 10 (-1 : Int32)) 18 (-1 : Int32)) 26 (-1 : Int32)) 34 (-1 : Int32)) 40 (50 : Int32)) 41 (10 : Int32)) 42 (1000 : Int32)) 43 (100 : Int32)) 49 (9 : Int32))) := by rw [hw27]; exact upw_eq
  refine lv_iconst (v := (0 : Int32)) S.1 S.2.1 dX9_init_196 (by decide) ?_
  refine lv_istore_n (lv' := [(3, .int (0 : Int32)), (2, .int (40 : Int32)), (1, .int (0 : Int32)), (0, .ref h0)]) S.1 S.2.1 dX9_init_197 rfl hl (by decide) rfl (fun ls hl => ?_)
  refine lv_iload_n S.1 S.2.1 dX9_init_198 rfl (lv_at hl 0 rfl) ?_
  refine lv_iconst (v := (3 : Int32)) S.1 S.2.1 dX9_init_199 (by decide) ?_
  refine lv_icmp_ge (tgt := 223) S.1 S.2.1 dX9_init_200 (by decide) (fun h => absurd h (by decide)) (fun _ => ?_)
  refine lv_aload_n S.1 S.2.1 dX9_init_203 rfl (lv_at hl 3 rfl) ?_
  refine c_get (i := i) S hX G (C := RX9) (T := TX9) (N := 13) 0 fah0 (by omega) fe0 rfl rfl (fun _ h => (List.mem_cons_of_mem _ (List.mem_append_right _ h))) (by decide) (List.mem_of_getElem? (i := 5) rfl) (fun _ h => h) dX9_init_204 ?_
  refine lv_iload_n S.1 S.2.1 dX9_init_207 rfl (lv_at hl 1 rfl) ?_
  refine lv_bipush (v := (12 : Int32)) S.1 S.2.1 dX9_init_208 (by decide) ?_
  refine s_iadd (v := (52 : Int32)) S dX9_init_210 (by decide) ?_
  refine lv_iconst (v := (3 : Int32)) S.1 S.2.1 dX9_init_211 (by decide) ?_
  refine lv_iload_n S.1 S.2.1 dX9_init_212 rfl (lv_at hl 0 rfl) ?_
  refine s_imul (v := (0 : Int32)) S dX9_init_213 (by decide) ?_
  refine s_iadd (v := (52 : Int32)) S dX9_init_214 (by decide) ?_
  refine lv_iconst (v := (-1 : Int32)) S.1 S.2.1 dX9_init_215 (by decide) ?_
  refine c_iast (i := (i + 1)) (N := 270) (f := (upd (upd (upd (upd (upd (upd (upd (upd (upd (upd (upd (upd (upd (upd (upd z0 1 (2 : Int32)) 2 (3 : Int32)) 3 (5000 : Int32)) 4 (20 : Int32)) 5 (1000000 : Int32)) 6 (100 : Int32)) 10 (-1 : Int32)) 18 (-1 : Int32)) 26 (-1 : Int32)) 34 (-1 : Int32)) 40 (50 : Int32)) 41 (10 : Int32)) 42 (1000 : Int32)) 43 (100 : Int32)) 49 (9 : Int32))) S hX G faq1 (by omega) fe1 (by unfold vp_in; decide) dX9_init_216 (fun H locs G => ?_)
  obtain ⟨w28, hw28⟩ : ∃ z, z = upw w27 (i + 1) (.inl (E.2.1 0, 270, .inl (upd (upd (upd (upd (upd (upd (upd (upd (upd (upd (upd (upd (upd (upd (upd (upd z0 1 (2 : Int32)) 2 (3 : Int32)) 3 (5000 : Int32)) 4 (20 : Int32)) 5 (1000000 : Int32)) 6 (100 : Int32)) 10 (-1 : Int32)) 18 (-1 : Int32)) 26 (-1 : Int32)) 34 (-1 : Int32)) 40 (50 : Int32)) 41 (10 : Int32)) 42 (1000 : Int32)) 43 (100 : Int32)) 49 (9 : Int32)) 52 (-1 : Int32)))) := ⟨_, rfl⟩
  have G : CG E ad6 (i + 7) w28 sg H locs := by rw [hw28]; exact G
  have ho28 : ∀ k, k ≠ (i + 1) → w28 k = w27 k := fun k hk => by rw [hw28]; exact upw_ne hk
  have fe0 : w28 i = .inr (9, [.ref q1, .ref q2, .int 0, .long 0, .ref q3, .ref q4, .long 0, .ref q5, .int 0, .int 0, .int 0, .int 0, .ref q6]) := Eq.trans (ho28 _ (by omega)) fe0
  have fe2 : w28 (i + 2) = .inl (E.2.1 0, 1080, .inl z0) := Eq.trans (ho28 _ (by omega)) fe2
  have fe3 : w28 (i + 3) = .inl (E.2.1 3, 4, .inr (.inl zL)) := Eq.trans (ho28 _ (by omega)) fe3
  have fe4 : w28 (i + 4) = .inl (E.2.1 0, 270, .inl z0) := Eq.trans (ho28 _ (by omega)) fe4
  have fe5 : w28 (i + 5) = .inl (E.2.1 2, 80, .inl z0) := Eq.trans (ho28 _ (by omega)) fe5
  have fe6 : w28 (i + 6) = .inl (E.2.1 0, 4, .inl z0) := Eq.trans (ho28 _ (by omega)) fe6
  have fe1 : w28 (i + 1) = .inl (E.2.1 0, 270, .inl (upd (upd (upd (upd (upd (upd (upd (upd (upd (upd (upd (upd (upd (upd (upd (upd z0 1 (2 : Int32)) 2 (3 : Int32)) 3 (5000 : Int32)) 4 (20 : Int32)) 5 (1000000 : Int32)) 6 (100 : Int32)) 10 (-1 : Int32)) 18 (-1 : Int32)) 26 (-1 : Int32)) 34 (-1 : Int32)) 40 (50 : Int32)) 41 (10 : Int32)) 42 (1000 : Int32)) 43 (100 : Int32)) 49 (9 : Int32)) 52 (-1 : Int32))) := by rw [hw28]; exact upw_eq
  refine lv_iinc (v := (1 : Int32)) (lv' := [(3, .int (1 : Int32)), (2, .int (40 : Int32)), (1, .int (0 : Int32)), (0, .ref h0)]) S.1 S.2.1 dX9_init_217 hl (k := 0) rfl (by decide) (by decide) rfl (fun ls hl => ?_)
  refine lv_goto (tgt := 198) S.1 S.2.1 dX9_init_220 (by decide) ?_
  refine lv_iload_n S.1 S.2.1 dX9_init_198 rfl (lv_at hl 0 rfl) ?_
  refine lv_iconst (v := (3 : Int32)) S.1 S.2.1 dX9_init_199 (by decide) ?_
  refine lv_icmp_ge (tgt := 223) S.1 S.2.1 dX9_init_200 (by decide) (fun h => absurd h (by decide)) (fun _ => ?_)
  refine lv_aload_n S.1 S.2.1 dX9_init_203 rfl (lv_at hl 3 rfl) ?_
  refine c_get (i := i) S hX G (C := RX9) (T := TX9) (N := 13) 0 fah0 (by omega) fe0 rfl rfl (fun _ h => (List.mem_cons_of_mem _ (List.mem_append_right _ h))) (by decide) (List.mem_of_getElem? (i := 5) rfl) (fun _ h => h) dX9_init_204 ?_
  refine lv_iload_n S.1 S.2.1 dX9_init_207 rfl (lv_at hl 1 rfl) ?_
  refine lv_bipush (v := (12 : Int32)) S.1 S.2.1 dX9_init_208 (by decide) ?_
  refine s_iadd (v := (52 : Int32)) S dX9_init_210 (by decide) ?_
  refine lv_iconst (v := (3 : Int32)) S.1 S.2.1 dX9_init_211 (by decide) ?_
  refine lv_iload_n S.1 S.2.1 dX9_init_212 rfl (lv_at hl 0 rfl) ?_
  refine s_imul (v := (3 : Int32)) S dX9_init_213 (by decide) ?_
  refine s_iadd (v := (55 : Int32)) S dX9_init_214 (by decide) ?_
  refine lv_iconst (v := (-1 : Int32)) S.1 S.2.1 dX9_init_215 (by decide) ?_
  refine c_iast (i := (i + 1)) (N := 270) (f := (upd (upd (upd (upd (upd (upd (upd (upd (upd (upd (upd (upd (upd (upd (upd (upd z0 1 (2 : Int32)) 2 (3 : Int32)) 3 (5000 : Int32)) 4 (20 : Int32)) 5 (1000000 : Int32)) 6 (100 : Int32)) 10 (-1 : Int32)) 18 (-1 : Int32)) 26 (-1 : Int32)) 34 (-1 : Int32)) 40 (50 : Int32)) 41 (10 : Int32)) 42 (1000 : Int32)) 43 (100 : Int32)) 49 (9 : Int32)) 52 (-1 : Int32))) S hX G faq1 (by omega) fe1 (by unfold vp_in; decide) dX9_init_216 (fun H locs G => ?_)
  obtain ⟨w29, hw29⟩ : ∃ z, z = upw w28 (i + 1) (.inl (E.2.1 0, 270, .inl (upd (upd (upd (upd (upd (upd (upd (upd (upd (upd (upd (upd (upd (upd (upd (upd (upd z0 1 (2 : Int32)) 2 (3 : Int32)) 3 (5000 : Int32)) 4 (20 : Int32)) 5 (1000000 : Int32)) 6 (100 : Int32)) 10 (-1 : Int32)) 18 (-1 : Int32)) 26 (-1 : Int32)) 34 (-1 : Int32)) 40 (50 : Int32)) 41 (10 : Int32)) 42 (1000 : Int32)) 43 (100 : Int32)) 49 (9 : Int32)) 52 (-1 : Int32)) 55 (-1 : Int32)))) := ⟨_, rfl⟩
  have G : CG E ad6 (i + 7) w29 sg H locs := by rw [hw29]; exact G
  have ho29 : ∀ k, k ≠ (i + 1) → w29 k = w28 k := fun k hk => by rw [hw29]; exact upw_ne hk
  have fe0 : w29 i = .inr (9, [.ref q1, .ref q2, .int 0, .long 0, .ref q3, .ref q4, .long 0, .ref q5, .int 0, .int 0, .int 0, .int 0, .ref q6]) := Eq.trans (ho29 _ (by omega)) fe0
  have fe2 : w29 (i + 2) = .inl (E.2.1 0, 1080, .inl z0) := Eq.trans (ho29 _ (by omega)) fe2
  have fe3 : w29 (i + 3) = .inl (E.2.1 3, 4, .inr (.inl zL)) := Eq.trans (ho29 _ (by omega)) fe3
  have fe4 : w29 (i + 4) = .inl (E.2.1 0, 270, .inl z0) := Eq.trans (ho29 _ (by omega)) fe4
  have fe5 : w29 (i + 5) = .inl (E.2.1 2, 80, .inl z0) := Eq.trans (ho29 _ (by omega)) fe5
  have fe6 : w29 (i + 6) = .inl (E.2.1 0, 4, .inl z0) := Eq.trans (ho29 _ (by omega)) fe6
  have fe1 : w29 (i + 1) = .inl (E.2.1 0, 270, .inl (upd (upd (upd (upd (upd (upd (upd (upd (upd (upd (upd (upd (upd (upd (upd (upd (upd z0 1 (2 : Int32)) 2 (3 : Int32)) 3 (5000 : Int32)) 4 (20 : Int32)) 5 (1000000 : Int32)) 6 (100 : Int32)) 10 (-1 : Int32)) 18 (-1 : Int32)) 26 (-1 : Int32)) 34 (-1 : Int32)) 40 (50 : Int32)) 41 (10 : Int32)) 42 (1000 : Int32)) 43 (100 : Int32)) 49 (9 : Int32)) 52 (-1 : Int32)) 55 (-1 : Int32))) := by rw [hw29]; exact upw_eq
  refine lv_iinc (v := (2 : Int32)) (lv' := [(3, .int (2 : Int32)), (2, .int (40 : Int32)), (1, .int (0 : Int32)), (0, .ref h0)]) S.1 S.2.1 dX9_init_217 hl (k := 0) rfl (by decide) (by decide) rfl (fun ls hl => ?_)
  refine lv_goto (tgt := 198) S.1 S.2.1 dX9_init_220 (by decide) ?_
  refine lv_iload_n S.1 S.2.1 dX9_init_198 rfl (lv_at hl 0 rfl) ?_
  refine lv_iconst (v := (3 : Int32)) S.1 S.2.1 dX9_init_199 (by decide) ?_
  refine lv_icmp_ge (tgt := 223) S.1 S.2.1 dX9_init_200 (by decide) (fun h => absurd h (by decide)) (fun _ => ?_)
  refine lv_aload_n S.1 S.2.1 dX9_init_203 rfl (lv_at hl 3 rfl) ?_
  refine c_get (i := i) S hX G (C := RX9) (T := TX9) (N := 13) 0 fah0 (by omega) fe0 rfl rfl (fun _ h => (List.mem_cons_of_mem _ (List.mem_append_right _ h))) (by decide) (List.mem_of_getElem? (i := 5) rfl) (fun _ h => h) dX9_init_204 ?_
  refine lv_iload_n S.1 S.2.1 dX9_init_207 rfl (lv_at hl 1 rfl) ?_
  refine lv_bipush (v := (12 : Int32)) S.1 S.2.1 dX9_init_208 (by decide) ?_
  refine s_iadd (v := (52 : Int32)) S dX9_init_210 (by decide) ?_
  refine lv_iconst (v := (3 : Int32)) S.1 S.2.1 dX9_init_211 (by decide) ?_
  refine lv_iload_n S.1 S.2.1 dX9_init_212 rfl (lv_at hl 0 rfl) ?_
  refine s_imul (v := (6 : Int32)) S dX9_init_213 (by decide) ?_
  refine s_iadd (v := (58 : Int32)) S dX9_init_214 (by decide) ?_
  refine lv_iconst (v := (-1 : Int32)) S.1 S.2.1 dX9_init_215 (by decide) ?_
  refine c_iast (i := (i + 1)) (N := 270) (f := (upd (upd (upd (upd (upd (upd (upd (upd (upd (upd (upd (upd (upd (upd (upd (upd (upd z0 1 (2 : Int32)) 2 (3 : Int32)) 3 (5000 : Int32)) 4 (20 : Int32)) 5 (1000000 : Int32)) 6 (100 : Int32)) 10 (-1 : Int32)) 18 (-1 : Int32)) 26 (-1 : Int32)) 34 (-1 : Int32)) 40 (50 : Int32)) 41 (10 : Int32)) 42 (1000 : Int32)) 43 (100 : Int32)) 49 (9 : Int32)) 52 (-1 : Int32)) 55 (-1 : Int32))) S hX G faq1 (by omega) fe1 (by unfold vp_in; decide) dX9_init_216 (fun H locs G => ?_)
  obtain ⟨w30, hw30⟩ : ∃ z, z = upw w29 (i + 1) (.inl (E.2.1 0, 270, .inl (upd (upd (upd (upd (upd (upd (upd (upd (upd (upd (upd (upd (upd (upd (upd (upd (upd (upd z0 1 (2 : Int32)) 2 (3 : Int32)) 3 (5000 : Int32)) 4 (20 : Int32)) 5 (1000000 : Int32)) 6 (100 : Int32)) 10 (-1 : Int32)) 18 (-1 : Int32)) 26 (-1 : Int32)) 34 (-1 : Int32)) 40 (50 : Int32)) 41 (10 : Int32)) 42 (1000 : Int32)) 43 (100 : Int32)) 49 (9 : Int32)) 52 (-1 : Int32)) 55 (-1 : Int32)) 58 (-1 : Int32)))) := ⟨_, rfl⟩
  have G : CG E ad6 (i + 7) w30 sg H locs := by rw [hw30]; exact G
  have ho30 : ∀ k, k ≠ (i + 1) → w30 k = w29 k := fun k hk => by rw [hw30]; exact upw_ne hk
  have fe0 : w30 i = .inr (9, [.ref q1, .ref q2, .int 0, .long 0, .ref q3, .ref q4, .long 0, .ref q5, .int 0, .int 0, .int 0, .int 0, .ref q6]) := Eq.trans (ho30 _ (by omega)) fe0
  have fe2 : w30 (i + 2) = .inl (E.2.1 0, 1080, .inl z0) := Eq.trans (ho30 _ (by omega)) fe2
  have fe3 : w30 (i + 3) = .inl (E.2.1 3, 4, .inr (.inl zL)) := Eq.trans (ho30 _ (by omega)) fe3
  have fe4 : w30 (i + 4) = .inl (E.2.1 0, 270, .inl z0) := Eq.trans (ho30 _ (by omega)) fe4
  have fe5 : w30 (i + 5) = .inl (E.2.1 2, 80, .inl z0) := Eq.trans (ho30 _ (by omega)) fe5
  have fe6 : w30 (i + 6) = .inl (E.2.1 0, 4, .inl z0) := Eq.trans (ho30 _ (by omega)) fe6
  have fe1 : w30 (i + 1) = .inl (E.2.1 0, 270, .inl (upd (upd (upd (upd (upd (upd (upd (upd (upd (upd (upd (upd (upd (upd (upd (upd (upd (upd z0 1 (2 : Int32)) 2 (3 : Int32)) 3 (5000 : Int32)) 4 (20 : Int32)) 5 (1000000 : Int32)) 6 (100 : Int32)) 10 (-1 : Int32)) 18 (-1 : Int32)) 26 (-1 : Int32)) 34 (-1 : Int32)) 40 (50 : Int32)) 41 (10 : Int32)) 42 (1000 : Int32)) 43 (100 : Int32)) 49 (9 : Int32)) 52 (-1 : Int32)) 55 (-1 : Int32)) 58 (-1 : Int32))) := by rw [hw30]; exact upw_eq
  refine lv_iinc (v := (3 : Int32)) (lv' := [(3, .int (3 : Int32)), (2, .int (40 : Int32)), (1, .int (0 : Int32)), (0, .ref h0)]) S.1 S.2.1 dX9_init_217 hl (k := 0) rfl (by decide) (by decide) rfl (fun ls hl => ?_)
  refine lv_goto (tgt := 198) S.1 S.2.1 dX9_init_220 (by decide) ?_
  refine lv_iload_n S.1 S.2.1 dX9_init_198 rfl (lv_at hl 0 rfl) ?_
  refine lv_iconst (v := (3 : Int32)) S.1 S.2.1 dX9_init_199 (by decide) ?_
  refine lv_icmp_ge (tgt := 223) S.1 S.2.1 dX9_init_200 (by decide) (fun _ => ?_) (fun h => absurd (by decide) h)
  refine lv_iinc (v := (1 : Int32)) (lv' := [(1, .int (1 : Int32)), (3, .int (3 : Int32)), (2, .int (40 : Int32)), (0, .ref h0)]) S.1 S.2.1 dX9_init_223 hl (k := 2) rfl (by decide) (by decide) rfl (fun ls hl => ?_)
  refine lv_goto (tgt := 131) S.1 S.2.1 dX9_init_226 (by decide) ?_
  refine lv_iload_n S.1 S.2.1 dX9_init_131 rfl (lv_at hl 0 rfl) ?_
  refine lv_iconst (v := (2 : Int32)) S.1 S.2.1 dX9_init_132 (by decide) ?_
  refine lv_icmp_ge (tgt := 229) S.1 S.2.1 dX9_init_133 (by decide) (fun h => absurd h (by decide)) (fun _ => ?_)
  refine lv_bipush (v := (40 : Int32)) S.1 S.2.1 dX9_init_136 (by decide) ?_
  refine lv_bipush (v := (30 : Int32)) S.1 S.2.1 dX9_init_138 (by decide) ?_
  refine lv_iload_n S.1 S.2.1 dX9_init_140 rfl (lv_at hl 0 rfl) ?_
  refine s_imul (v := (30 : Int32)) S dX9_init_141 (by decide) ?_
  refine s_iadd (v := (70 : Int32)) S dX9_init_142 (by decide) ?_
  refine lv_istore_n (lv' := [(2, .int (70 : Int32)), (1, .int (1 : Int32)), (3, .int (3 : Int32)), (0, .ref h0)]) S.1 S.2.1 dX9_init_143 rfl hl (by decide) rfl (fun ls hl => ?_)
  refine lv_aload_n S.1 S.2.1 dX9_init_144 rfl (lv_at hl 3 rfl) ?_
  refine c_get (i := i) S hX G (C := RX9) (T := TX9) (N := 13) 0 fah0 (by omega) fe0 rfl rfl (fun _ h => (List.mem_cons_of_mem _ (List.mem_append_right _ h))) (by decide) (List.mem_of_getElem? (i := 5) rfl) (fun _ h => h) dX9_init_145 ?_
  refine lv_iload_n S.1 S.2.1 dX9_init_148 rfl (lv_at hl 0 rfl) ?_
  refine lv_iconst (v := (0 : Int32)) S.1 S.2.1 dX9_init_149 (by decide) ?_
  refine s_iadd (v := (70 : Int32)) S dX9_init_150 (by decide) ?_
  refine lv_bipush (v := (50 : Int32)) S.1 S.2.1 dX9_init_151 (by decide) ?_
  refine c_iast (i := (i + 1)) (N := 270) (f := (upd (upd (upd (upd (upd (upd (upd (upd (upd (upd (upd (upd (upd (upd (upd (upd (upd (upd z0 1 (2 : Int32)) 2 (3 : Int32)) 3 (5000 : Int32)) 4 (20 : Int32)) 5 (1000000 : Int32)) 6 (100 : Int32)) 10 (-1 : Int32)) 18 (-1 : Int32)) 26 (-1 : Int32)) 34 (-1 : Int32)) 40 (50 : Int32)) 41 (10 : Int32)) 42 (1000 : Int32)) 43 (100 : Int32)) 49 (9 : Int32)) 52 (-1 : Int32)) 55 (-1 : Int32)) 58 (-1 : Int32))) S hX G faq1 (by omega) fe1 (by unfold vp_in; decide) dX9_init_153 (fun H locs G => ?_)
  obtain ⟨w31, hw31⟩ : ∃ z, z = upw w30 (i + 1) (.inl (E.2.1 0, 270, .inl (upd (upd (upd (upd (upd (upd (upd (upd (upd (upd (upd (upd (upd (upd (upd (upd (upd (upd (upd z0 1 (2 : Int32)) 2 (3 : Int32)) 3 (5000 : Int32)) 4 (20 : Int32)) 5 (1000000 : Int32)) 6 (100 : Int32)) 10 (-1 : Int32)) 18 (-1 : Int32)) 26 (-1 : Int32)) 34 (-1 : Int32)) 40 (50 : Int32)) 41 (10 : Int32)) 42 (1000 : Int32)) 43 (100 : Int32)) 49 (9 : Int32)) 52 (-1 : Int32)) 55 (-1 : Int32)) 58 (-1 : Int32)) 70 (50 : Int32)))) := ⟨_, rfl⟩
  have G : CG E ad6 (i + 7) w31 sg H locs := by rw [hw31]; exact G
  have ho31 : ∀ k, k ≠ (i + 1) → w31 k = w30 k := fun k hk => by rw [hw31]; exact upw_ne hk
  have fe0 : w31 i = .inr (9, [.ref q1, .ref q2, .int 0, .long 0, .ref q3, .ref q4, .long 0, .ref q5, .int 0, .int 0, .int 0, .int 0, .ref q6]) := Eq.trans (ho31 _ (by omega)) fe0
  have fe2 : w31 (i + 2) = .inl (E.2.1 0, 1080, .inl z0) := Eq.trans (ho31 _ (by omega)) fe2
  have fe3 : w31 (i + 3) = .inl (E.2.1 3, 4, .inr (.inl zL)) := Eq.trans (ho31 _ (by omega)) fe3
  have fe4 : w31 (i + 4) = .inl (E.2.1 0, 270, .inl z0) := Eq.trans (ho31 _ (by omega)) fe4
  have fe5 : w31 (i + 5) = .inl (E.2.1 2, 80, .inl z0) := Eq.trans (ho31 _ (by omega)) fe5
  have fe6 : w31 (i + 6) = .inl (E.2.1 0, 4, .inl z0) := Eq.trans (ho31 _ (by omega)) fe6
  have fe1 : w31 (i + 1) = .inl (E.2.1 0, 270, .inl (upd (upd (upd (upd (upd (upd (upd (upd (upd (upd (upd (upd (upd (upd (upd (upd (upd (upd (upd z0 1 (2 : Int32)) 2 (3 : Int32)) 3 (5000 : Int32)) 4 (20 : Int32)) 5 (1000000 : Int32)) 6 (100 : Int32)) 10 (-1 : Int32)) 18 (-1 : Int32)) 26 (-1 : Int32)) 34 (-1 : Int32)) 40 (50 : Int32)) 41 (10 : Int32)) 42 (1000 : Int32)) 43 (100 : Int32)) 49 (9 : Int32)) 52 (-1 : Int32)) 55 (-1 : Int32)) 58 (-1 : Int32)) 70 (50 : Int32))) := by rw [hw31]; exact upw_eq
  refine lv_aload_n S.1 S.2.1 dX9_init_154 rfl (lv_at hl 3 rfl) ?_
  refine c_get (i := i) S hX G (C := RX9) (T := TX9) (N := 13) 0 fah0 (by omega) fe0 rfl rfl (fun _ h => (List.mem_cons_of_mem _ (List.mem_append_right _ h))) (by decide) (List.mem_of_getElem? (i := 5) rfl) (fun _ h => h) dX9_init_155 ?_
  refine lv_iload_n S.1 S.2.1 dX9_init_158 rfl (lv_at hl 0 rfl) ?_
  refine lv_iconst (v := (1 : Int32)) S.1 S.2.1 dX9_init_159 (by decide) ?_
  refine s_iadd (v := (71 : Int32)) S dX9_init_160 (by decide) ?_
  refine lv_bipush (v := (10 : Int32)) S.1 S.2.1 dX9_init_161 (by decide) ?_
  refine c_iast (i := (i + 1)) (N := 270) (f := (upd (upd (upd (upd (upd (upd (upd (upd (upd (upd (upd (upd (upd (upd (upd (upd (upd (upd (upd z0 1 (2 : Int32)) 2 (3 : Int32)) 3 (5000 : Int32)) 4 (20 : Int32)) 5 (1000000 : Int32)) 6 (100 : Int32)) 10 (-1 : Int32)) 18 (-1 : Int32)) 26 (-1 : Int32)) 34 (-1 : Int32)) 40 (50 : Int32)) 41 (10 : Int32)) 42 (1000 : Int32)) 43 (100 : Int32)) 49 (9 : Int32)) 52 (-1 : Int32)) 55 (-1 : Int32)) 58 (-1 : Int32)) 70 (50 : Int32))) S hX G faq1 (by omega) fe1 (by unfold vp_in; decide) dX9_init_163 (fun H locs G => ?_)
  obtain ⟨w32, hw32⟩ : ∃ z, z = upw w31 (i + 1) (.inl (E.2.1 0, 270, .inl (upd (upd (upd (upd (upd (upd (upd (upd (upd (upd (upd (upd (upd (upd (upd (upd (upd (upd (upd (upd z0 1 (2 : Int32)) 2 (3 : Int32)) 3 (5000 : Int32)) 4 (20 : Int32)) 5 (1000000 : Int32)) 6 (100 : Int32)) 10 (-1 : Int32)) 18 (-1 : Int32)) 26 (-1 : Int32)) 34 (-1 : Int32)) 40 (50 : Int32)) 41 (10 : Int32)) 42 (1000 : Int32)) 43 (100 : Int32)) 49 (9 : Int32)) 52 (-1 : Int32)) 55 (-1 : Int32)) 58 (-1 : Int32)) 70 (50 : Int32)) 71 (10 : Int32)))) := ⟨_, rfl⟩
  have G : CG E ad6 (i + 7) w32 sg H locs := by rw [hw32]; exact G
  have ho32 : ∀ k, k ≠ (i + 1) → w32 k = w31 k := fun k hk => by rw [hw32]; exact upw_ne hk
  have fe0 : w32 i = .inr (9, [.ref q1, .ref q2, .int 0, .long 0, .ref q3, .ref q4, .long 0, .ref q5, .int 0, .int 0, .int 0, .int 0, .ref q6]) := Eq.trans (ho32 _ (by omega)) fe0
  have fe2 : w32 (i + 2) = .inl (E.2.1 0, 1080, .inl z0) := Eq.trans (ho32 _ (by omega)) fe2
  have fe3 : w32 (i + 3) = .inl (E.2.1 3, 4, .inr (.inl zL)) := Eq.trans (ho32 _ (by omega)) fe3
  have fe4 : w32 (i + 4) = .inl (E.2.1 0, 270, .inl z0) := Eq.trans (ho32 _ (by omega)) fe4
  have fe5 : w32 (i + 5) = .inl (E.2.1 2, 80, .inl z0) := Eq.trans (ho32 _ (by omega)) fe5
  have fe6 : w32 (i + 6) = .inl (E.2.1 0, 4, .inl z0) := Eq.trans (ho32 _ (by omega)) fe6
  have fe1 : w32 (i + 1) = .inl (E.2.1 0, 270, .inl (upd (upd (upd (upd (upd (upd (upd (upd (upd (upd (upd (upd (upd (upd (upd (upd (upd (upd (upd (upd z0 1 (2 : Int32)) 2 (3 : Int32)) 3 (5000 : Int32)) 4 (20 : Int32)) 5 (1000000 : Int32)) 6 (100 : Int32)) 10 (-1 : Int32)) 18 (-1 : Int32)) 26 (-1 : Int32)) 34 (-1 : Int32)) 40 (50 : Int32)) 41 (10 : Int32)) 42 (1000 : Int32)) 43 (100 : Int32)) 49 (9 : Int32)) 52 (-1 : Int32)) 55 (-1 : Int32)) 58 (-1 : Int32)) 70 (50 : Int32)) 71 (10 : Int32))) := by rw [hw32]; exact upw_eq
  refine lv_aload_n S.1 S.2.1 dX9_init_164 rfl (lv_at hl 3 rfl) ?_
  refine c_get (i := i) S hX G (C := RX9) (T := TX9) (N := 13) 0 fah0 (by omega) fe0 rfl rfl (fun _ h => (List.mem_cons_of_mem _ (List.mem_append_right _ h))) (by decide) (List.mem_of_getElem? (i := 5) rfl) (fun _ h => h) dX9_init_165 ?_
  refine lv_iload_n S.1 S.2.1 dX9_init_168 rfl (lv_at hl 0 rfl) ?_
  refine lv_iconst (v := (2 : Int32)) S.1 S.2.1 dX9_init_169 (by decide) ?_
  refine s_iadd (v := (72 : Int32)) S dX9_init_170 (by decide) ?_
  refine lv_sipush (v := (1000 : Int32)) S.1 S.2.1 dX9_init_171 (by decide) ?_
  refine c_iast (i := (i + 1)) (N := 270) (f := (upd (upd (upd (upd (upd (upd (upd (upd (upd (upd (upd (upd (upd (upd (upd (upd (upd (upd (upd (upd z0 1 (2 : Int32)) 2 (3 : Int32)) 3 (5000 : Int32)) 4 (20 : Int32)) 5 (1000000 : Int32)) 6 (100 : Int32)) 10 (-1 : Int32)) 18 (-1 : Int32)) 26 (-1 : Int32)) 34 (-1 : Int32)) 40 (50 : Int32)) 41 (10 : Int32)) 42 (1000 : Int32)) 43 (100 : Int32)) 49 (9 : Int32)) 52 (-1 : Int32)) 55 (-1 : Int32)) 58 (-1 : Int32)) 70 (50 : Int32)) 71 (10 : Int32))) S hX G faq1 (by omega) fe1 (by unfold vp_in; decide) dX9_init_174 (fun H locs G => ?_)
  obtain ⟨w33, hw33⟩ : ∃ z, z = upw w32 (i + 1) (.inl (E.2.1 0, 270, .inl (upd (upd (upd (upd (upd (upd (upd (upd (upd (upd (upd (upd (upd (upd (upd (upd (upd (upd (upd (upd (upd z0 1 (2 : Int32)) 2 (3 : Int32)) 3 (5000 : Int32)) 4 (20 : Int32)) 5 (1000000 : Int32)) 6 (100 : Int32)) 10 (-1 : Int32)) 18 (-1 : Int32)) 26 (-1 : Int32)) 34 (-1 : Int32)) 40 (50 : Int32)) 41 (10 : Int32)) 42 (1000 : Int32)) 43 (100 : Int32)) 49 (9 : Int32)) 52 (-1 : Int32)) 55 (-1 : Int32)) 58 (-1 : Int32)) 70 (50 : Int32)) 71 (10 : Int32)) 72 (1000 : Int32)))) := ⟨_, rfl⟩
  have G : CG E ad6 (i + 7) w33 sg H locs := by rw [hw33]; exact G
  have ho33 : ∀ k, k ≠ (i + 1) → w33 k = w32 k := fun k hk => by rw [hw33]; exact upw_ne hk
  have fe0 : w33 i = .inr (9, [.ref q1, .ref q2, .int 0, .long 0, .ref q3, .ref q4, .long 0, .ref q5, .int 0, .int 0, .int 0, .int 0, .ref q6]) := Eq.trans (ho33 _ (by omega)) fe0
  have fe2 : w33 (i + 2) = .inl (E.2.1 0, 1080, .inl z0) := Eq.trans (ho33 _ (by omega)) fe2
  have fe3 : w33 (i + 3) = .inl (E.2.1 3, 4, .inr (.inl zL)) := Eq.trans (ho33 _ (by omega)) fe3
  have fe4 : w33 (i + 4) = .inl (E.2.1 0, 270, .inl z0) := Eq.trans (ho33 _ (by omega)) fe4
  have fe5 : w33 (i + 5) = .inl (E.2.1 2, 80, .inl z0) := Eq.trans (ho33 _ (by omega)) fe5
  have fe6 : w33 (i + 6) = .inl (E.2.1 0, 4, .inl z0) := Eq.trans (ho33 _ (by omega)) fe6
  have fe1 : w33 (i + 1) = .inl (E.2.1 0, 270, .inl (upd (upd (upd (upd (upd (upd (upd (upd (upd (upd (upd (upd (upd (upd (upd (upd (upd (upd (upd (upd (upd z0 1 (2 : Int32)) 2 (3 : Int32)) 3 (5000 : Int32)) 4 (20 : Int32)) 5 (1000000 : Int32)) 6 (100 : Int32)) 10 (-1 : Int32)) 18 (-1 : Int32)) 26 (-1 : Int32)) 34 (-1 : Int32)) 40 (50 : Int32)) 41 (10 : Int32)) 42 (1000 : Int32)) 43 (100 : Int32)) 49 (9 : Int32)) 52 (-1 : Int32)) 55 (-1 : Int32)) 58 (-1 : Int32)) 70 (50 : Int32)) 71 (10 : Int32)) 72 (1000 : Int32))) := by rw [hw33]; exact upw_eq
  refine lv_aload_n S.1 S.2.1 dX9_init_175 rfl (lv_at hl 3 rfl) ?_
  refine c_get (i := i) S hX G (C := RX9) (T := TX9) (N := 13) 0 fah0 (by omega) fe0 rfl rfl (fun _ h => (List.mem_cons_of_mem _ (List.mem_append_right _ h))) (by decide) (List.mem_of_getElem? (i := 5) rfl) (fun _ h => h) dX9_init_176 ?_
  refine lv_iload_n S.1 S.2.1 dX9_init_179 rfl (lv_at hl 0 rfl) ?_
  refine lv_iconst (v := (3 : Int32)) S.1 S.2.1 dX9_init_180 (by decide) ?_
  refine s_iadd (v := (73 : Int32)) S dX9_init_181 (by decide) ?_
  refine lv_bipush (v := (100 : Int32)) S.1 S.2.1 dX9_init_182 (by decide) ?_
  refine c_iast (i := (i + 1)) (N := 270) (f := (upd (upd (upd (upd (upd (upd (upd (upd (upd (upd (upd (upd (upd (upd (upd (upd (upd (upd (upd (upd (upd z0 1 (2 : Int32)) 2 (3 : Int32)) 3 (5000 : Int32)) 4 (20 : Int32)) 5 (1000000 : Int32)) 6 (100 : Int32)) 10 (-1 : Int32)) 18 (-1 : Int32)) 26 (-1 : Int32)) 34 (-1 : Int32)) 40 (50 : Int32)) 41 (10 : Int32)) 42 (1000 : Int32)) 43 (100 : Int32)) 49 (9 : Int32)) 52 (-1 : Int32)) 55 (-1 : Int32)) 58 (-1 : Int32)) 70 (50 : Int32)) 71 (10 : Int32)) 72 (1000 : Int32))) S hX G faq1 (by omega) fe1 (by unfold vp_in; decide) dX9_init_184 (fun H locs G => ?_)
  obtain ⟨w34, hw34⟩ : ∃ z, z = upw w33 (i + 1) (.inl (E.2.1 0, 270, .inl (upd (upd (upd (upd (upd (upd (upd (upd (upd (upd (upd (upd (upd (upd (upd (upd (upd (upd (upd (upd (upd (upd z0 1 (2 : Int32)) 2 (3 : Int32)) 3 (5000 : Int32)) 4 (20 : Int32)) 5 (1000000 : Int32)) 6 (100 : Int32)) 10 (-1 : Int32)) 18 (-1 : Int32)) 26 (-1 : Int32)) 34 (-1 : Int32)) 40 (50 : Int32)) 41 (10 : Int32)) 42 (1000 : Int32)) 43 (100 : Int32)) 49 (9 : Int32)) 52 (-1 : Int32)) 55 (-1 : Int32)) 58 (-1 : Int32)) 70 (50 : Int32)) 71 (10 : Int32)) 72 (1000 : Int32)) 73 (100 : Int32)))) := ⟨_, rfl⟩
  have G : CG E ad6 (i + 7) w34 sg H locs := by rw [hw34]; exact G
  have ho34 : ∀ k, k ≠ (i + 1) → w34 k = w33 k := fun k hk => by rw [hw34]; exact upw_ne hk
  have fe0 : w34 i = .inr (9, [.ref q1, .ref q2, .int 0, .long 0, .ref q3, .ref q4, .long 0, .ref q5, .int 0, .int 0, .int 0, .int 0, .ref q6]) := Eq.trans (ho34 _ (by omega)) fe0
  have fe2 : w34 (i + 2) = .inl (E.2.1 0, 1080, .inl z0) := Eq.trans (ho34 _ (by omega)) fe2
  have fe3 : w34 (i + 3) = .inl (E.2.1 3, 4, .inr (.inl zL)) := Eq.trans (ho34 _ (by omega)) fe3
  have fe4 : w34 (i + 4) = .inl (E.2.1 0, 270, .inl z0) := Eq.trans (ho34 _ (by omega)) fe4
  have fe5 : w34 (i + 5) = .inl (E.2.1 2, 80, .inl z0) := Eq.trans (ho34 _ (by omega)) fe5
  have fe6 : w34 (i + 6) = .inl (E.2.1 0, 4, .inl z0) := Eq.trans (ho34 _ (by omega)) fe6
  have fe1 : w34 (i + 1) = .inl (E.2.1 0, 270, .inl (upd (upd (upd (upd (upd (upd (upd (upd (upd (upd (upd (upd (upd (upd (upd (upd (upd (upd (upd (upd (upd (upd z0 1 (2 : Int32)) 2 (3 : Int32)) 3 (5000 : Int32)) 4 (20 : Int32)) 5 (1000000 : Int32)) 6 (100 : Int32)) 10 (-1 : Int32)) 18 (-1 : Int32)) 26 (-1 : Int32)) 34 (-1 : Int32)) 40 (50 : Int32)) 41 (10 : Int32)) 42 (1000 : Int32)) 43 (100 : Int32)) 49 (9 : Int32)) 52 (-1 : Int32)) 55 (-1 : Int32)) 58 (-1 : Int32)) 70 (50 : Int32)) 71 (10 : Int32)) 72 (1000 : Int32)) 73 (100 : Int32))) := by rw [hw34]; exact upw_eq
  refine lv_aload_n S.1 S.2.1 dX9_init_185 rfl (lv_at hl 3 rfl) ?_
  refine c_get (i := i) S hX G (C := RX9) (T := TX9) (N := 13) 0 fah0 (by omega) fe0 rfl rfl (fun _ h => (List.mem_cons_of_mem _ (List.mem_append_right _ h))) (by decide) (List.mem_of_getElem? (i := 5) rfl) (fun _ h => h) dX9_init_186 ?_
  refine lv_iload_n S.1 S.2.1 dX9_init_189 rfl (lv_at hl 0 rfl) ?_
  refine lv_bipush (v := (9 : Int32)) S.1 S.2.1 dX9_init_190 (by decide) ?_
  refine s_iadd (v := (79 : Int32)) S dX9_init_192 (by decide) ?_
  refine lv_bipush (v := (9 : Int32)) S.1 S.2.1 dX9_init_193 (by decide) ?_
  refine c_iast (i := (i + 1)) (N := 270) (f := (upd (upd (upd (upd (upd (upd (upd (upd (upd (upd (upd (upd (upd (upd (upd (upd (upd (upd (upd (upd (upd (upd z0 1 (2 : Int32)) 2 (3 : Int32)) 3 (5000 : Int32)) 4 (20 : Int32)) 5 (1000000 : Int32)) 6 (100 : Int32)) 10 (-1 : Int32)) 18 (-1 : Int32)) 26 (-1 : Int32)) 34 (-1 : Int32)) 40 (50 : Int32)) 41 (10 : Int32)) 42 (1000 : Int32)) 43 (100 : Int32)) 49 (9 : Int32)) 52 (-1 : Int32)) 55 (-1 : Int32)) 58 (-1 : Int32)) 70 (50 : Int32)) 71 (10 : Int32)) 72 (1000 : Int32)) 73 (100 : Int32))) S hX G faq1 (by omega) fe1 (by unfold vp_in; decide) dX9_init_195 (fun H locs G => ?_)
  obtain ⟨w35, hw35⟩ : ∃ z, z = upw w34 (i + 1) (.inl (E.2.1 0, 270, .inl (upd (upd (upd (upd (upd (upd (upd (upd (upd (upd (upd (upd (upd (upd (upd (upd (upd (upd (upd (upd (upd (upd (upd z0 1 (2 : Int32)) 2 (3 : Int32)) 3 (5000 : Int32)) 4 (20 : Int32)) 5 (1000000 : Int32)) 6 (100 : Int32)) 10 (-1 : Int32)) 18 (-1 : Int32)) 26 (-1 : Int32)) 34 (-1 : Int32)) 40 (50 : Int32)) 41 (10 : Int32)) 42 (1000 : Int32)) 43 (100 : Int32)) 49 (9 : Int32)) 52 (-1 : Int32)) 55 (-1 : Int32)) 58 (-1 : Int32)) 70 (50 : Int32)) 71 (10 : Int32)) 72 (1000 : Int32)) 73 (100 : Int32)) 79 (9 : Int32)))) := ⟨_, rfl⟩
  have G : CG E ad6 (i + 7) w35 sg H locs := by rw [hw35]; exact G
  have ho35 : ∀ k, k ≠ (i + 1) → w35 k = w34 k := fun k hk => by rw [hw35]; exact upw_ne hk
  have fe0 : w35 i = .inr (9, [.ref q1, .ref q2, .int 0, .long 0, .ref q3, .ref q4, .long 0, .ref q5, .int 0, .int 0, .int 0, .int 0, .ref q6]) := Eq.trans (ho35 _ (by omega)) fe0
  have fe2 : w35 (i + 2) = .inl (E.2.1 0, 1080, .inl z0) := Eq.trans (ho35 _ (by omega)) fe2
  have fe3 : w35 (i + 3) = .inl (E.2.1 3, 4, .inr (.inl zL)) := Eq.trans (ho35 _ (by omega)) fe3
  have fe4 : w35 (i + 4) = .inl (E.2.1 0, 270, .inl z0) := Eq.trans (ho35 _ (by omega)) fe4
  have fe5 : w35 (i + 5) = .inl (E.2.1 2, 80, .inl z0) := Eq.trans (ho35 _ (by omega)) fe5
  have fe6 : w35 (i + 6) = .inl (E.2.1 0, 4, .inl z0) := Eq.trans (ho35 _ (by omega)) fe6
  have fe1 : w35 (i + 1) = .inl (E.2.1 0, 270, .inl (upd (upd (upd (upd (upd (upd (upd (upd (upd (upd (upd (upd (upd (upd (upd (upd (upd (upd (upd (upd (upd (upd (upd z0 1 (2 : Int32)) 2 (3 : Int32)) 3 (5000 : Int32)) 4 (20 : Int32)) 5 (1000000 : Int32)) 6 (100 : Int32)) 10 (-1 : Int32)) 18 (-1 : Int32)) 26 (-1 : Int32)) 34 (-1 : Int32)) 40 (50 : Int32)) 41 (10 : Int32)) 42 (1000 : Int32)) 43 (100 : Int32)) 49 (9 : Int32)) 52 (-1 : Int32)) 55 (-1 : Int32)) 58 (-1 : Int32)) 70 (50 : Int32)) 71 (10 : Int32)) 72 (1000 : Int32)) 73 (100 : Int32)) 79 (9 : Int32))) := by rw [hw35]; exact upw_eq
  refine lv_iconst (v := (0 : Int32)) S.1 S.2.1 dX9_init_196 (by decide) ?_
  refine lv_istore_n (lv' := [(3, .int (0 : Int32)), (2, .int (70 : Int32)), (1, .int (1 : Int32)), (0, .ref h0)]) S.1 S.2.1 dX9_init_197 rfl hl (by decide) rfl (fun ls hl => ?_)
  refine lv_iload_n S.1 S.2.1 dX9_init_198 rfl (lv_at hl 0 rfl) ?_
  refine lv_iconst (v := (3 : Int32)) S.1 S.2.1 dX9_init_199 (by decide) ?_
  refine lv_icmp_ge (tgt := 223) S.1 S.2.1 dX9_init_200 (by decide) (fun h => absurd h (by decide)) (fun _ => ?_)
  refine lv_aload_n S.1 S.2.1 dX9_init_203 rfl (lv_at hl 3 rfl) ?_
  refine c_get (i := i) S hX G (C := RX9) (T := TX9) (N := 13) 0 fah0 (by omega) fe0 rfl rfl (fun _ h => (List.mem_cons_of_mem _ (List.mem_append_right _ h))) (by decide) (List.mem_of_getElem? (i := 5) rfl) (fun _ h => h) dX9_init_204 ?_
  refine lv_iload_n S.1 S.2.1 dX9_init_207 rfl (lv_at hl 1 rfl) ?_
  refine lv_bipush (v := (12 : Int32)) S.1 S.2.1 dX9_init_208 (by decide) ?_
  refine s_iadd (v := (82 : Int32)) S dX9_init_210 (by decide) ?_
  refine lv_iconst (v := (3 : Int32)) S.1 S.2.1 dX9_init_211 (by decide) ?_
  refine lv_iload_n S.1 S.2.1 dX9_init_212 rfl (lv_at hl 0 rfl) ?_
  refine s_imul (v := (0 : Int32)) S dX9_init_213 (by decide) ?_
  refine s_iadd (v := (82 : Int32)) S dX9_init_214 (by decide) ?_
  refine lv_iconst (v := (-1 : Int32)) S.1 S.2.1 dX9_init_215 (by decide) ?_
  refine c_iast (i := (i + 1)) (N := 270) (f := (upd (upd (upd (upd (upd (upd (upd (upd (upd (upd (upd (upd (upd (upd (upd (upd (upd (upd (upd (upd (upd (upd (upd z0 1 (2 : Int32)) 2 (3 : Int32)) 3 (5000 : Int32)) 4 (20 : Int32)) 5 (1000000 : Int32)) 6 (100 : Int32)) 10 (-1 : Int32)) 18 (-1 : Int32)) 26 (-1 : Int32)) 34 (-1 : Int32)) 40 (50 : Int32)) 41 (10 : Int32)) 42 (1000 : Int32)) 43 (100 : Int32)) 49 (9 : Int32)) 52 (-1 : Int32)) 55 (-1 : Int32)) 58 (-1 : Int32)) 70 (50 : Int32)) 71 (10 : Int32)) 72 (1000 : Int32)) 73 (100 : Int32)) 79 (9 : Int32))) S hX G faq1 (by omega) fe1 (by unfold vp_in; decide) dX9_init_216 (fun H locs G => ?_)
  obtain ⟨w36, hw36⟩ : ∃ z, z = upw w35 (i + 1) (.inl (E.2.1 0, 270, .inl (upd (upd (upd (upd (upd (upd (upd (upd (upd (upd (upd (upd (upd (upd (upd (upd (upd (upd (upd (upd (upd (upd (upd (upd z0 1 (2 : Int32)) 2 (3 : Int32)) 3 (5000 : Int32)) 4 (20 : Int32)) 5 (1000000 : Int32)) 6 (100 : Int32)) 10 (-1 : Int32)) 18 (-1 : Int32)) 26 (-1 : Int32)) 34 (-1 : Int32)) 40 (50 : Int32)) 41 (10 : Int32)) 42 (1000 : Int32)) 43 (100 : Int32)) 49 (9 : Int32)) 52 (-1 : Int32)) 55 (-1 : Int32)) 58 (-1 : Int32)) 70 (50 : Int32)) 71 (10 : Int32)) 72 (1000 : Int32)) 73 (100 : Int32)) 79 (9 : Int32)) 82 (-1 : Int32)))) := ⟨_, rfl⟩
  have G : CG E ad6 (i + 7) w36 sg H locs := by rw [hw36]; exact G
  have ho36 : ∀ k, k ≠ (i + 1) → w36 k = w35 k := fun k hk => by rw [hw36]; exact upw_ne hk
  have fe0 : w36 i = .inr (9, [.ref q1, .ref q2, .int 0, .long 0, .ref q3, .ref q4, .long 0, .ref q5, .int 0, .int 0, .int 0, .int 0, .ref q6]) := Eq.trans (ho36 _ (by omega)) fe0
  have fe2 : w36 (i + 2) = .inl (E.2.1 0, 1080, .inl z0) := Eq.trans (ho36 _ (by omega)) fe2
  have fe3 : w36 (i + 3) = .inl (E.2.1 3, 4, .inr (.inl zL)) := Eq.trans (ho36 _ (by omega)) fe3
  have fe4 : w36 (i + 4) = .inl (E.2.1 0, 270, .inl z0) := Eq.trans (ho36 _ (by omega)) fe4
  have fe5 : w36 (i + 5) = .inl (E.2.1 2, 80, .inl z0) := Eq.trans (ho36 _ (by omega)) fe5
  have fe6 : w36 (i + 6) = .inl (E.2.1 0, 4, .inl z0) := Eq.trans (ho36 _ (by omega)) fe6
  have fe1 : w36 (i + 1) = .inl (E.2.1 0, 270, .inl (upd (upd (upd (upd (upd (upd (upd (upd (upd (upd (upd (upd (upd (upd (upd (upd (upd (upd (upd (upd (upd (upd (upd (upd z0 1 (2 : Int32)) 2 (3 : Int32)) 3 (5000 : Int32)) 4 (20 : Int32)) 5 (1000000 : Int32)) 6 (100 : Int32)) 10 (-1 : Int32)) 18 (-1 : Int32)) 26 (-1 : Int32)) 34 (-1 : Int32)) 40 (50 : Int32)) 41 (10 : Int32)) 42 (1000 : Int32)) 43 (100 : Int32)) 49 (9 : Int32)) 52 (-1 : Int32)) 55 (-1 : Int32)) 58 (-1 : Int32)) 70 (50 : Int32)) 71 (10 : Int32)) 72 (1000 : Int32)) 73 (100 : Int32)) 79 (9 : Int32)) 82 (-1 : Int32))) := by rw [hw36]; exact upw_eq
  refine lv_iinc (v := (1 : Int32)) (lv' := [(3, .int (1 : Int32)), (2, .int (70 : Int32)), (1, .int (1 : Int32)), (0, .ref h0)]) S.1 S.2.1 dX9_init_217 hl (k := 0) rfl (by decide) (by decide) rfl (fun ls hl => ?_)
  refine lv_goto (tgt := 198) S.1 S.2.1 dX9_init_220 (by decide) ?_
  refine lv_iload_n S.1 S.2.1 dX9_init_198 rfl (lv_at hl 0 rfl) ?_
  refine lv_iconst (v := (3 : Int32)) S.1 S.2.1 dX9_init_199 (by decide) ?_
  refine lv_icmp_ge (tgt := 223) S.1 S.2.1 dX9_init_200 (by decide) (fun h => absurd h (by decide)) (fun _ => ?_)
  refine lv_aload_n S.1 S.2.1 dX9_init_203 rfl (lv_at hl 3 rfl) ?_
  refine c_get (i := i) S hX G (C := RX9) (T := TX9) (N := 13) 0 fah0 (by omega) fe0 rfl rfl (fun _ h => (List.mem_cons_of_mem _ (List.mem_append_right _ h))) (by decide) (List.mem_of_getElem? (i := 5) rfl) (fun _ h => h) dX9_init_204 ?_
  refine lv_iload_n S.1 S.2.1 dX9_init_207 rfl (lv_at hl 1 rfl) ?_
  refine lv_bipush (v := (12 : Int32)) S.1 S.2.1 dX9_init_208 (by decide) ?_
  refine s_iadd (v := (82 : Int32)) S dX9_init_210 (by decide) ?_
  refine lv_iconst (v := (3 : Int32)) S.1 S.2.1 dX9_init_211 (by decide) ?_
  refine lv_iload_n S.1 S.2.1 dX9_init_212 rfl (lv_at hl 0 rfl) ?_
  refine s_imul (v := (3 : Int32)) S dX9_init_213 (by decide) ?_
  refine s_iadd (v := (85 : Int32)) S dX9_init_214 (by decide) ?_
  refine lv_iconst (v := (-1 : Int32)) S.1 S.2.1 dX9_init_215 (by decide) ?_
  refine c_iast (i := (i + 1)) (N := 270) (f := (upd (upd (upd (upd (upd (upd (upd (upd (upd (upd (upd (upd (upd (upd (upd (upd (upd (upd (upd (upd (upd (upd (upd (upd z0 1 (2 : Int32)) 2 (3 : Int32)) 3 (5000 : Int32)) 4 (20 : Int32)) 5 (1000000 : Int32)) 6 (100 : Int32)) 10 (-1 : Int32)) 18 (-1 : Int32)) 26 (-1 : Int32)) 34 (-1 : Int32)) 40 (50 : Int32)) 41 (10 : Int32)) 42 (1000 : Int32)) 43 (100 : Int32)) 49 (9 : Int32)) 52 (-1 : Int32)) 55 (-1 : Int32)) 58 (-1 : Int32)) 70 (50 : Int32)) 71 (10 : Int32)) 72 (1000 : Int32)) 73 (100 : Int32)) 79 (9 : Int32)) 82 (-1 : Int32))) S hX G faq1 (by omega) fe1 (by unfold vp_in; decide) dX9_init_216 (fun H locs G => ?_)
  obtain ⟨w37, hw37⟩ : ∃ z, z = upw w36 (i + 1) (.inl (E.2.1 0, 270, .inl (upd (upd (upd (upd (upd (upd (upd (upd (upd (upd (upd (upd (upd (upd (upd (upd (upd (upd (upd (upd (upd (upd (upd (upd (upd z0 1 (2 : Int32)) 2 (3 : Int32)) 3 (5000 : Int32)) 4 (20 : Int32)) 5 (1000000 : Int32)) 6 (100 : Int32)) 10 (-1 : Int32)) 18 (-1 : Int32)) 26 (-1 : Int32)) 34 (-1 : Int32)) 40 (50 : Int32)) 41 (10 : Int32)) 42 (1000 : Int32)) 43 (100 : Int32)) 49 (9 : Int32)) 52 (-1 : Int32)) 55 (-1 : Int32)) 58 (-1 : Int32)) 70 (50 : Int32)) 71 (10 : Int32)) 72 (1000 : Int32)) 73 (100 : Int32)) 79 (9 : Int32)) 82 (-1 : Int32)) 85 (-1 : Int32)))) := ⟨_, rfl⟩
  have G : CG E ad6 (i + 7) w37 sg H locs := by rw [hw37]; exact G
  have ho37 : ∀ k, k ≠ (i + 1) → w37 k = w36 k := fun k hk => by rw [hw37]; exact upw_ne hk
  have fe0 : w37 i = .inr (9, [.ref q1, .ref q2, .int 0, .long 0, .ref q3, .ref q4, .long 0, .ref q5, .int 0, .int 0, .int 0, .int 0, .ref q6]) := Eq.trans (ho37 _ (by omega)) fe0
  have fe2 : w37 (i + 2) = .inl (E.2.1 0, 1080, .inl z0) := Eq.trans (ho37 _ (by omega)) fe2
  have fe3 : w37 (i + 3) = .inl (E.2.1 3, 4, .inr (.inl zL)) := Eq.trans (ho37 _ (by omega)) fe3
  have fe4 : w37 (i + 4) = .inl (E.2.1 0, 270, .inl z0) := Eq.trans (ho37 _ (by omega)) fe4
  have fe5 : w37 (i + 5) = .inl (E.2.1 2, 80, .inl z0) := Eq.trans (ho37 _ (by omega)) fe5
  have fe6 : w37 (i + 6) = .inl (E.2.1 0, 4, .inl z0) := Eq.trans (ho37 _ (by omega)) fe6
  have fe1 : w37 (i + 1) = .inl (E.2.1 0, 270, .inl (upd (upd (upd (upd (upd (upd (upd (upd (upd (upd (upd (upd (upd (upd (upd (upd (upd (upd (upd (upd (upd (upd (upd (upd (upd z0 1 (2 : Int32)) 2 (3 : Int32)) 3 (5000 : Int32)) 4 (20 : Int32)) 5 (1000000 : Int32)) 6 (100 : Int32)) 10 (-1 : Int32)) 18 (-1 : Int32)) 26 (-1 : Int32)) 34 (-1 : Int32)) 40 (50 : Int32)) 41 (10 : Int32)) 42 (1000 : Int32)) 43 (100 : Int32)) 49 (9 : Int32)) 52 (-1 : Int32)) 55 (-1 : Int32)) 58 (-1 : Int32)) 70 (50 : Int32)) 71 (10 : Int32)) 72 (1000 : Int32)) 73 (100 : Int32)) 79 (9 : Int32)) 82 (-1 : Int32)) 85 (-1 : Int32))) := by rw [hw37]; exact upw_eq
  refine lv_iinc (v := (2 : Int32)) (lv' := [(3, .int (2 : Int32)), (2, .int (70 : Int32)), (1, .int (1 : Int32)), (0, .ref h0)]) S.1 S.2.1 dX9_init_217 hl (k := 0) rfl (by decide) (by decide) rfl (fun ls hl => ?_)
  refine lv_goto (tgt := 198) S.1 S.2.1 dX9_init_220 (by decide) ?_
  refine lv_iload_n S.1 S.2.1 dX9_init_198 rfl (lv_at hl 0 rfl) ?_
  refine lv_iconst (v := (3 : Int32)) S.1 S.2.1 dX9_init_199 (by decide) ?_
  refine lv_icmp_ge (tgt := 223) S.1 S.2.1 dX9_init_200 (by decide) (fun h => absurd h (by decide)) (fun _ => ?_)
  refine lv_aload_n S.1 S.2.1 dX9_init_203 rfl (lv_at hl 3 rfl) ?_
  refine c_get (i := i) S hX G (C := RX9) (T := TX9) (N := 13) 0 fah0 (by omega) fe0 rfl rfl (fun _ h => (List.mem_cons_of_mem _ (List.mem_append_right _ h))) (by decide) (List.mem_of_getElem? (i := 5) rfl) (fun _ h => h) dX9_init_204 ?_
  refine lv_iload_n S.1 S.2.1 dX9_init_207 rfl (lv_at hl 1 rfl) ?_
  refine lv_bipush (v := (12 : Int32)) S.1 S.2.1 dX9_init_208 (by decide) ?_
  refine s_iadd (v := (82 : Int32)) S dX9_init_210 (by decide) ?_
  refine lv_iconst (v := (3 : Int32)) S.1 S.2.1 dX9_init_211 (by decide) ?_
  refine lv_iload_n S.1 S.2.1 dX9_init_212 rfl (lv_at hl 0 rfl) ?_
  refine s_imul (v := (6 : Int32)) S dX9_init_213 (by decide) ?_
  refine s_iadd (v := (88 : Int32)) S dX9_init_214 (by decide) ?_
  refine lv_iconst (v := (-1 : Int32)) S.1 S.2.1 dX9_init_215 (by decide) ?_
  refine c_iast (i := (i + 1)) (N := 270) (f := (upd (upd (upd (upd (upd (upd (upd (upd (upd (upd (upd (upd (upd (upd (upd (upd (upd (upd (upd (upd (upd (upd (upd (upd (upd z0 1 (2 : Int32)) 2 (3 : Int32)) 3 (5000 : Int32)) 4 (20 : Int32)) 5 (1000000 : Int32)) 6 (100 : Int32)) 10 (-1 : Int32)) 18 (-1 : Int32)) 26 (-1 : Int32)) 34 (-1 : Int32)) 40 (50 : Int32)) 41 (10 : Int32)) 42 (1000 : Int32)) 43 (100 : Int32)) 49 (9 : Int32)) 52 (-1 : Int32)) 55 (-1 : Int32)) 58 (-1 : Int32)) 70 (50 : Int32)) 71 (10 : Int32)) 72 (1000 : Int32)) 73 (100 : Int32)) 79 (9 : Int32)) 82 (-1 : Int32)) 85 (-1 : Int32))) S hX G faq1 (by omega) fe1 (by unfold vp_in; decide) dX9_init_216 (fun H locs G => ?_)
  obtain ⟨w38, hw38⟩ : ∃ z, z = upw w37 (i + 1) (.inl (E.2.1 0, 270, .inl (upd (upd (upd (upd (upd (upd (upd (upd (upd (upd (upd (upd (upd (upd (upd (upd (upd (upd (upd (upd (upd (upd (upd (upd (upd (upd z0 1 (2 : Int32)) 2 (3 : Int32)) 3 (5000 : Int32)) 4 (20 : Int32)) 5 (1000000 : Int32)) 6 (100 : Int32)) 10 (-1 : Int32)) 18 (-1 : Int32)) 26 (-1 : Int32)) 34 (-1 : Int32)) 40 (50 : Int32)) 41 (10 : Int32)) 42 (1000 : Int32)) 43 (100 : Int32)) 49 (9 : Int32)) 52 (-1 : Int32)) 55 (-1 : Int32)) 58 (-1 : Int32)) 70 (50 : Int32)) 71 (10 : Int32)) 72 (1000 : Int32)) 73 (100 : Int32)) 79 (9 : Int32)) 82 (-1 : Int32)) 85 (-1 : Int32)) 88 (-1 : Int32)))) := ⟨_, rfl⟩
  have G : CG E ad6 (i + 7) w38 sg H locs := by rw [hw38]; exact G
  have ho38 : ∀ k, k ≠ (i + 1) → w38 k = w37 k := fun k hk => by rw [hw38]; exact upw_ne hk
  have fe0 : w38 i = .inr (9, [.ref q1, .ref q2, .int 0, .long 0, .ref q3, .ref q4, .long 0, .ref q5, .int 0, .int 0, .int 0, .int 0, .ref q6]) := Eq.trans (ho38 _ (by omega)) fe0
  have fe2 : w38 (i + 2) = .inl (E.2.1 0, 1080, .inl z0) := Eq.trans (ho38 _ (by omega)) fe2
  have fe3 : w38 (i + 3) = .inl (E.2.1 3, 4, .inr (.inl zL)) := Eq.trans (ho38 _ (by omega)) fe3
  have fe4 : w38 (i + 4) = .inl (E.2.1 0, 270, .inl z0) := Eq.trans (ho38 _ (by omega)) fe4
  have fe5 : w38 (i + 5) = .inl (E.2.1 2, 80, .inl z0) := Eq.trans (ho38 _ (by omega)) fe5
  have fe6 : w38 (i + 6) = .inl (E.2.1 0, 4, .inl z0) := Eq.trans (ho38 _ (by omega)) fe6
  have fe1 : w38 (i + 1) = .inl (E.2.1 0, 270, .inl (upd (upd (upd (upd (upd (upd (upd (upd (upd (upd (upd (upd (upd (upd (upd (upd (upd (upd (upd (upd (upd (upd (upd (upd (upd (upd z0 1 (2 : Int32)) 2 (3 : Int32)) 3 (5000 : Int32)) 4 (20 : Int32)) 5 (1000000 : Int32)) 6 (100 : Int32)) 10 (-1 : Int32)) 18 (-1 : Int32)) 26 (-1 : Int32)) 34 (-1 : Int32)) 40 (50 : Int32)) 41 (10 : Int32)) 42 (1000 : Int32)) 43 (100 : Int32)) 49 (9 : Int32)) 52 (-1 : Int32)) 55 (-1 : Int32)) 58 (-1 : Int32)) 70 (50 : Int32)) 71 (10 : Int32)) 72 (1000 : Int32)) 73 (100 : Int32)) 79 (9 : Int32)) 82 (-1 : Int32)) 85 (-1 : Int32)) 88 (-1 : Int32))) := by rw [hw38]; exact upw_eq
  refine lv_iinc (v := (3 : Int32)) (lv' := [(3, .int (3 : Int32)), (2, .int (70 : Int32)), (1, .int (1 : Int32)), (0, .ref h0)]) S.1 S.2.1 dX9_init_217 hl (k := 0) rfl (by decide) (by decide) rfl (fun ls hl => ?_)
  refine lv_goto (tgt := 198) S.1 S.2.1 dX9_init_220 (by decide) ?_
  refine lv_iload_n S.1 S.2.1 dX9_init_198 rfl (lv_at hl 0 rfl) ?_
  refine lv_iconst (v := (3 : Int32)) S.1 S.2.1 dX9_init_199 (by decide) ?_
  refine lv_icmp_ge (tgt := 223) S.1 S.2.1 dX9_init_200 (by decide) (fun _ => ?_) (fun h => absurd (by decide) h)
  refine lv_iinc (v := (2 : Int32)) (lv' := [(1, .int (2 : Int32)), (3, .int (3 : Int32)), (2, .int (70 : Int32)), (0, .ref h0)]) S.1 S.2.1 dX9_init_223 hl (k := 2) rfl (by decide) (by decide) rfl (fun ls hl => ?_)
  refine lv_goto (tgt := 131) S.1 S.2.1 dX9_init_226 (by decide) ?_
  refine lv_iload_n S.1 S.2.1 dX9_init_131 rfl (lv_at hl 0 rfl) ?_
  refine lv_iconst (v := (2 : Int32)) S.1 S.2.1 dX9_init_132 (by decide) ?_
  refine lv_icmp_ge (tgt := 229) S.1 S.2.1 dX9_init_133 (by decide) (fun _ => ?_) (fun h => absurd (by decide) h)
  refine W.widen (k := 6) (n := 1708) (Nat.le_of_ble_eq_true rfl) (Nat.le_of_ble_eq_true rfl) ?_
  exact c_vret S G hr hlk dX9_init_229 (fun k hk => ((hE6 k (by omega)).trans ((hE5 k (by omega)).trans ((hE4 k (by omega)).trans ((hE3 k (by omega)).trans ((hE2 k (by omega)).trans (hE1 k (by omega)))))))) ⟨fun k hk => ((ho38 k (by omega)).trans ((ho37 k (by omega)).trans ((ho36 k (by omega)).trans ((ho35 k (by omega)).trans ((ho34 k (by omega)).trans ((ho33 k (by omega)).trans ((ho32 k (by omega)).trans ((ho31 k (by omega)).trans ((ho30 k (by omega)).trans ((ho29 k (by omega)).trans ((ho28 k (by omega)).trans ((ho27 k (by omega)).trans ((ho26 k (by omega)).trans ((ho25 k (by omega)).trans ((ho24 k (by omega)).trans ((ho23 k (by omega)).trans ((ho22 k (by omega)).trans ((ho21 k (by omega)).trans ((ho20 k (by omega)).trans ((ho19 k (by omega)).trans ((ho18 k (by omega)).trans ((ho17 k (by omega)).trans ((ho16 k (by omega)).trans ((ho15 k (by omega)).trans ((ho14 k (by omega)).trans ((ho13 k (by omega)).trans ((ho12 k (by omega)).trans ((ho11 k (by omega)).trans ((ho10 k (by omega)).trans ((ho9 k (by omega)).trans ((ho8 k (by omega)).trans ((ho7 k (by omega)).trans ((ho6 k (by omega)).trans ((ho5 k (by omega)).trans ((ho4 k (by omega)).trans ((ho3 k (by omega)).trans ((ho2 k (by omega)).trans (ho1 k (by omega))))))))))))))))))))))))))))))))))))))), ⟨(Eq.trans fe0 (by rw [show q1 = ad6 (i + 1) from faq1.symm, show q2 = ad6 (i + 2) from faq2.symm, show q3 = ad6 (i + 3) from faq3.symm, show q4 = ad6 (i + 4) from faq4.symm, show q5 = ad6 (i + 5) from faq5.symm, show q6 = ad6 (i + 6) from faq6.symm])), fe1, fe2, fe3, fe4, fe5, fe6⟩⟩
