def brBlk (E : Ev) (ad : Nat → Nat) (w : Nat → va_E) (X : Nat) : Prop := BlkOk E ad w X brKs brRw
theorem brBlk.ad {E : Ev} {ad1 ad2 : Nat → Nat} {w : Nat → va_E} {X : Nat} (h : brBlk E ad1 w X) (he : ∀ k, k < X + 26 → ad2 k = ad1 k) : brBlk E ad2 w X := BlkOk.ad h (closed_of rfl) he
theorem brBlk.w {E : Ev} {ad : Nat → Nat} {w w' : Nat → va_E} {X : Nat} (h : brBlk E ad w X) (hw : ∀ k, X ≤ k → k < X + 26 → w' k = w k) : brBlk E ad w' X := BlkOk.w h hw
def hsF (a b c d : Nat) : Nat → Option Nat := va_up (va_up (va_up (va_up (fun _ => none) 0 (some a)) 1 (some b)) 2 (some c)) 3 (some d)
def HistOk (E : Ev) (ad : Nat → Nat) (w : Nat → va_E) (X : Nat) : Prop := w X = .inr (2, [.ref (ad (X + 1)), .int 0, .int 0]) ∧ w (X + 1) = .inl (E.2.1 4, 4, .inr (.inr (.inr (.inr (hsF (ad (X + 2)) (ad (X + 28)) (ad (X + 54)) (ad (X + 80))))))) ∧ brBlk E ad w (X + 2) ∧ brBlk E ad w (X + 28) ∧ brBlk E ad w (X + 54) ∧ brBlk E ad w (X + 80)
theorem HistOk.ad {E : Ev} {ad1 ad2 : Nat → Nat} {w : Nat → va_E} {X : Nat} (h : HistOk E ad1 w X) (he : ∀ k, k < X + 106 → ad2 k = ad1 k) : HistOk E ad2 w X := by
  obtain ⟨a, b, c, d, e, f⟩ := h
  refine ⟨?_, ?_, c.ad fun k hk => he k (by omega), d.ad fun k hk => he k (by omega), e.ad fun k hk => he k (by omega), f.ad fun k hk => he k (by omega)⟩
  · rw [he _ (by omega)]; exact a
  · rw [he _ (by omega), he _ (by omega), he _ (by omega), he _ (by omega)]; exact b
theorem HistOk.w {E : Ev} {ad : Nat → Nat} {w w' : Nat → va_E} {X : Nat} (h : HistOk E ad w X) (hw : ∀ k, X ≤ k → k < X + 106 → w' k = w k) : HistOk E ad w' X := by
  obtain ⟨a, b, c, d, e, f⟩ := h
  exact ⟨(hw _ (by omega) (by omega)).trans a, (hw _ (by omega) (by omega)).trans b, c.w fun k h1 h2 => hw k (by omega) (by omega), d.w fun k h1 h2 => hw k (by omega) (by omega), e.w fun k h1 h2 => hw k (by omega) (by omega), f.w fun k h1 h2 => hw k (by omega) (by omega)⟩
def txKs : List Nat := [7] ++ [11]
def txRw : Nat → Nat → Int32 := rApp 1 (fun _ => z0) (fun _ => z0)
def TopOk (E : Ev) (ad : Nat → Nat) (w : Nat → va_E) (X : Nat) : Prop := w X = .inr (8, [.ref (ad (X + 1)), .ref (ad (X + 27)), .ref (ad (X + 53)), .ref (ad (X + 159))]) ∧ brBlk E ad w (X + 1) ∧ brBlk E ad w (X + 27) ∧ HistOk E ad w (X + 53) ∧ BlkOk E ad w (X + 159) txKs txRw
theorem TopOk.ad {E : Ev} {ad1 ad2 : Nat → Nat} {w : Nat → va_E} {X : Nat} (h : TopOk E ad1 w X) (he : ∀ k, k < X + 161 → ad2 k = ad1 k) : TopOk E ad2 w X := by
  obtain ⟨a, b, c, d, e⟩ := h
  refine ⟨?_, b.ad fun k hk => he k (by omega), c.ad fun k hk => he k (by omega), d.ad fun k hk => he k (by omega), BlkOk.ad e (closed_of rfl) fun k (hk : k < X + 159 + 2) => he k (by omega)⟩
  rw [he _ (by omega), he _ (by omega), he _ (by omega), he _ (by omega)]; exact a
theorem TopOk.w {E : Ev} {ad : Nat → Nat} {w w' : Nat → va_E} {X : Nat} (h : TopOk E ad w X) (hw : ∀ k, X ≤ k → k < X + 161 → w' k = w k) : TopOk E ad w' X := by
  obtain ⟨a, b, c, d, e⟩ := h
  exact ⟨(hw _ (by omega) (by omega)).trans a, b.w fun k h1 h2 => hw k (by omega) (by omega), c.w fun k h1 h2 => hw k (by omega) (by omega), d.w fun k h1 h2 => hw k (by omega) (by omega), BlkOk.w e fun k h1 (h2 : k < X + 159 + 2) => hw k (by omega) (by omega)⟩
set_option maxHeartbeats 4000000 in
set_option maxRecDepth 100000 in
theorem c_X2_init (l : Launch) (E : Ev) (ad : Nat → Nat) (i h0 : Nat) (w : Nat → va_E) (fah0 : ad i = h0) (fe0 : w i = .inr (2, [.null, .int 0, .int 0])) : CN l yX2_init wsX2_init ({ frames := 4, cells := 105, slots := 952, locals := 82 }) E [.ref h0] ad (i + 1) w (i + 106) (fun ad' w' => (∀ k, k < i → w' k = w k) ∧ HistOk E ad' w' i) 105 952 := by
  refine CN.of (cc := cX2_init) (maxL := 2) (by decide) rfl rfl (Nat.le_of_ble_eq_true rfl) ?_
  intro pg en sg mg below meth cg ls S hr hlk hnm hX G hl
  have S : CallFix pg mg cg cX2_init 2 sg _ wsX2_init RX2 := S
  have hl : lv_has ls 2 [(0, .ref h0)] := hl
  refine lv_aload_n S.1 S.2.1 dX2_init_0 rfl (lv_at hl 0 rfl) ?_
  refine W.objInit S.1 S.2.1 S.2.2.2.1 (S.2.2.2.2 _ (List.mem_of_getElem? (i := 1) rfl)) (S.2.2.2.2 _ (List.mem_of_getElem? (i := 2) rfl)) (S.2.2.2.2 _ (List.mem_of_getElem? (i := 3) rfl)) rfl (hl.1.trans S.2.2.1.symm) rfl dX2_init_1 (Nat.le_of_ble_eq_true rfl) (Nat.le_of_ble_eq_true rfl) ?_
  refine W.eq (g2 := F0 mg 4 ls []) rfl ?_
  refine lv_aload_n S.1 S.2.1 dX2_init_4 rfl (lv_at hl 0 rfl) ?_
  refine lv_iconst (v := (4 : Int32)) S.1 S.2.1 dX2_init_5 (by decide) ?_
  refine c_anewa (N := 4) S hX G (List.mem_of_getElem? (i := 4) rfl) (by decide) (by decide) (by decide) (Nat.le_of_ble_eq_true rfl) (Nat.le_of_ble_eq_true rfl) dX2_init_6 (fun q1 ad1 H faq1 hE1 G => ?_)
  have fah0 : ad1 i = h0 := Eq.trans (hE1 _ (by omega)) fah0
  obtain ⟨w1, hw1⟩ : ∃ z, z = upw w (i + 1) (.inl (E.2.1 4, 4, .inr (.inr (.inr (.inr (fun _ => none)))))) := ⟨_, rfl⟩
  have G : CG E ad1 (i + 2) w1 sg H [] := by rw [hw1]; exact G
  have ho1 : ∀ k, k ≠ (i + 1) → w1 k = w k := fun k hk => by rw [hw1]; exact upw_ne hk
  have fe0 : w1 i = .inr (2, [.null, .int 0, .int 0]) := Eq.trans (ho1 _ (by omega)) fe0
  have fe1 : w1 (i + 1) = .inl (E.2.1 4, 4, .inr (.inr (.inr (.inr (fun _ => none))))) := by rw [hw1]; exact upw_eq
  refine c_putF (i := i) (ty := tyX2 0) (ty0 := tyX2) S hX G (C := RX2) (T := TX2) (N := 3) 0 fah0 (by omega) fe0 rfl (fun _ h => (List.mem_cons_of_mem _ (List.mem_append_left _ (List.mem_append_left _ (List.mem_append_left _ (List.mem_append_left _ (List.mem_append_left _ (List.mem_append_left _ (List.mem_append_right _ h))))))))) tyX2_ok nmX2 (by decide) (List.mem_of_getElem? (i := 5) rfl) (fun _ h => h) rfl hnm rfl (tyX2_ok 0 (by decide)) rfl rfl (Nat.le_of_ble_eq_true rfl) dX2_init_9 (fun H locs G => ?_)
  obtain ⟨w2, hw2⟩ : ∃ z, z = upw w1 i (.inr (2, [.ref q1, .int 0, .int 0])) := ⟨_, rfl⟩
  have G : CG E ad1 (i + 2) w2 sg H locs := by rw [hw2]; exact G
  have ho2 : ∀ k, k ≠ i → w2 k = w1 k := fun k hk => by rw [hw2]; exact upw_ne hk
  have fe1 : w2 (i + 1) = .inl (E.2.1 4, 4, .inr (.inr (.inr (.inr (fun _ => none))))) := Eq.trans (ho2 _ (by omega)) fe1
  have fe0 : w2 i = .inr (2, [.ref q1, .int 0, .int 0]) := by rw [hw2]; exact upw_eq
  refine lv_iconst (v := (0 : Int32)) S.1 S.2.1 dX2_init_12 (by decide) ?_
  refine lv_istore_n (lv' := [(1, .int (0 : Int32)), (0, .ref h0)]) S.1 S.2.1 dX2_init_13 rfl hl (by decide) rfl (fun ls hl => ?_)
  refine lv_iload_n S.1 S.2.1 dX2_init_14 rfl (lv_at hl 0 rfl) ?_
  refine lv_iconst (v := (4 : Int32)) S.1 S.2.1 dX2_init_15 (by decide) ?_
  refine lv_icmp_ge (tgt := 38) S.1 S.2.1 dX2_init_16 (by decide) (fun h => absurd h (by decide)) (fun _ => ?_)
  refine lv_aload_n S.1 S.2.1 dX2_init_19 rfl (lv_at hl 1 rfl) ?_
  refine c_get (i := i) S hX G (C := RX2) (T := TX2) (N := 3) 0 fah0 (by omega) fe0 rfl rfl (fun _ h => (List.mem_cons_of_mem _ (List.mem_append_left _ (List.mem_append_left _ (List.mem_append_left _ (List.mem_append_left _ (List.mem_append_left _ (List.mem_append_left _ (List.mem_append_right _ h))))))))) (by decide) (List.mem_of_getElem? (i := 5) rfl) (fun _ h => h) dX2_init_20 ?_
  refine lv_iload_n S.1 S.2.1 dX2_init_23 rfl (lv_at hl 0 rfl) ?_
  refine c_new S hX G (C := RX0) (T := TX0) (N := 5) (ci := 0) (fs := [.null, .null, .null, .null, .int 0]) tyX0 (fun _ h => (List.mem_cons_of_mem _ (List.mem_append_left _ (List.mem_append_left _ (List.mem_append_left _ (List.mem_append_left _ (List.mem_append_left _ (List.mem_append_right _ h)))))))) tyX0_ok (List.mem_of_getElem? (i := 4) rfl) (List.mem_of_getElem? (i := 6) rfl) (List.mem_of_getElem? (i := 7) rfl) rfl (fun j hj => by rcases (show j = 0 ∨ j = 1 ∨ j = 2 ∨ j = 3 ∨ j = 4 by omega) with rfl | rfl | rfl | rfl | rfl <;> rfl) (Nat.le_of_ble_eq_true rfl) (Nat.le_of_ble_eq_true rfl) dX2_init_24 (fun q2 ad2 H faq2 hE2 G => ?_)
  have fah0 : ad2 i = h0 := Eq.trans (hE2 _ (by omega)) fah0
  have faq1 : ad2 (i + 1) = q1 := Eq.trans (hE2 _ (by omega)) faq1
  obtain ⟨w3, hw3⟩ : ∃ z, z = upw w2 (i + 2) (.inr (0, [.null, .null, .null, .null, .int 0])) := ⟨_, rfl⟩
  have G : CG E ad2 (i + 3) w3 sg H locs := by rw [hw3]; exact G
  have ho3 : ∀ k, k ≠ (i + 2) → w3 k = w2 k := fun k hk => by rw [hw3]; exact upw_ne hk
  have fe0 : w3 i = .inr (2, [.ref q1, .int 0, .int 0]) := Eq.trans (ho3 _ (by omega)) fe0
  have fe1 : w3 (i + 1) = .inl (E.2.1 4, 4, .inr (.inr (.inr (.inr (fun _ => none))))) := Eq.trans (ho3 _ (by omega)) fe1
  have fe2 : w3 (i + 2) = .inr (0, [.null, .null, .null, .null, .int 0]) := by rw [hw3]; exact upw_eq
  refine lv_dup S.1 S.2.1 dX2_init_27 rfl ?_
  refine c_call (As := []) (rest := [.ref q2, .int (0 : Int32), .ref q1]) S hX G (c_X0_init l E ad2 (i + 2) q2 w3 faq2 fe2) (cwI (bytes := cX0_init) (maxL := 1) 0 S.2.2.2.2 gX2_init_X0_init rfl rfl rfl (S.2.2.2.2 _ (List.mem_of_getElem? (i := 7) rfl)) (S.2.2.2.2 _ (List.mem_of_getElem? (i := 8) rfl)) (S.2.2.2.2 _ (List.mem_of_getElem? (i := 9) rfl)) rfl (by decide +kernel) ⟨Nat.le_of_ble_eq_true rfl, Nat.le_of_ble_eq_true rfl⟩) rfl hl.1 rfl (Nat.le_of_ble_eq_true rfl) ⟨Nat.le_of_ble_eq_true rfl, Nat.le_of_ble_eq_true rfl⟩ dX2_init_28 (fun ad3 w4 H locs hE3 hok4 G => ?_)
  have fah0 : ad3 i = h0 := Eq.trans (hE3 _ (by omega)) fah0
  have faq1 : ad3 (i + 1) = q1 := Eq.trans (hE3 _ (by omega)) faq1
  have faq2 : ad3 (i + 2) = q2 := Eq.trans (hE3 _ (by omega)) faq2
  have fe0 : w4 i = .inr (2, [.ref q1, .int 0, .int 0]) := Eq.trans (hok4.1 _ (by omega)) fe0
  have fe1 : w4 (i + 1) = .inl (E.2.1 4, 4, .inr (.inr (.inr (.inr (fun _ => none))))) := Eq.trans (hok4.1 _ (by omega)) fe1
  have G : CG E ad3 (i + 28) w4 sg H locs := G
  refine W.eq (g2 := F0 mg 31 ls [.ref q2, .int (0 : Int32), .ref q1]) rfl ?_
  have fb : w4 (i + 2) = .inr (0, _) := (hok4.2) 0 (by decide)
  refine c_aast (i := (i + 1)) (i2 := (i + 2)) (f := (fun _ => none)) S hX G faq1 (by omega) fe1 faq2 (by omega) fb (by unfold vp_in; decide) dX2_init_31 (fun H locs G => ?_)
  obtain ⟨w5, hw5⟩ : ∃ z, z = upw w4 (i + 1) (.inl (E.2.1 4, 4, .inr (.inr (.inr (.inr (va_up (fun _ => none) 0 (some q2))))))) := ⟨_, rfl⟩
  have G : CG E ad3 (i + 28) w5 sg H locs := by rw [hw5]; exact G
  have ho5 : ∀ k, k ≠ (i + 1) → w5 k = w4 k := fun k hk => by rw [hw5]; exact upw_ne hk
  have fe0 : w5 i = .inr (2, [.ref q1, .int 0, .int 0]) := Eq.trans (ho5 _ (by omega)) fe0
  have fe1 : w5 (i + 1) = .inl (E.2.1 4, 4, .inr (.inr (.inr (.inr (va_up (fun _ => none) 0 (some q2)))))) := by rw [hw5]; exact upw_eq
  refine lv_iinc (v := (1 : Int32)) (lv' := [(1, .int (1 : Int32)), (0, .ref h0)]) S.1 S.2.1 dX2_init_32 hl (k := 0) rfl (by decide) (by decide) rfl (fun ls hl => ?_)
  refine lv_goto (tgt := 14) S.1 S.2.1 dX2_init_35 (by decide) ?_
  refine lv_iload_n S.1 S.2.1 dX2_init_14 rfl (lv_at hl 0 rfl) ?_
  refine lv_iconst (v := (4 : Int32)) S.1 S.2.1 dX2_init_15 (by decide) ?_
  refine lv_icmp_ge (tgt := 38) S.1 S.2.1 dX2_init_16 (by decide) (fun h => absurd h (by decide)) (fun _ => ?_)
  refine lv_aload_n S.1 S.2.1 dX2_init_19 rfl (lv_at hl 1 rfl) ?_
  refine c_get (i := i) S hX G (C := RX2) (T := TX2) (N := 3) 0 fah0 (by omega) fe0 rfl rfl (fun _ h => (List.mem_cons_of_mem _ (List.mem_append_left _ (List.mem_append_left _ (List.mem_append_left _ (List.mem_append_left _ (List.mem_append_left _ (List.mem_append_left _ (List.mem_append_right _ h))))))))) (by decide) (List.mem_of_getElem? (i := 5) rfl) (fun _ h => h) dX2_init_20 ?_
  refine lv_iload_n S.1 S.2.1 dX2_init_23 rfl (lv_at hl 0 rfl) ?_
  refine c_new S hX G (C := RX0) (T := TX0) (N := 5) (ci := 0) (fs := [.null, .null, .null, .null, .int 0]) tyX0 (fun _ h => (List.mem_cons_of_mem _ (List.mem_append_left _ (List.mem_append_left _ (List.mem_append_left _ (List.mem_append_left _ (List.mem_append_left _ (List.mem_append_right _ h)))))))) tyX0_ok (List.mem_of_getElem? (i := 4) rfl) (List.mem_of_getElem? (i := 6) rfl) (List.mem_of_getElem? (i := 7) rfl) rfl (fun j hj => by rcases (show j = 0 ∨ j = 1 ∨ j = 2 ∨ j = 3 ∨ j = 4 by omega) with rfl | rfl | rfl | rfl | rfl <;> rfl) (Nat.le_of_ble_eq_true rfl) (Nat.le_of_ble_eq_true rfl) dX2_init_24 (fun q3 ad4 H faq3 hE4 G => ?_)
  have fah0 : ad4 i = h0 := Eq.trans (hE4 _ (by omega)) fah0
  have faq1 : ad4 (i + 1) = q1 := Eq.trans (hE4 _ (by omega)) faq1
  have faq2 : ad4 (i + 2) = q2 := Eq.trans (hE4 _ (by omega)) faq2
  obtain ⟨w6, hw6⟩ : ∃ z, z = upw w5 (i + 28) (.inr (0, [.null, .null, .null, .null, .int 0])) := ⟨_, rfl⟩
  have G : CG E ad4 (i + 29) w6 sg H locs := by rw [hw6]; exact G
  have ho6 : ∀ k, k ≠ (i + 28) → w6 k = w5 k := fun k hk => by rw [hw6]; exact upw_ne hk
  have fe0 : w6 i = .inr (2, [.ref q1, .int 0, .int 0]) := Eq.trans (ho6 _ (by omega)) fe0
  have fe1 : w6 (i + 1) = .inl (E.2.1 4, 4, .inr (.inr (.inr (.inr (va_up (fun _ => none) 0 (some q2)))))) := Eq.trans (ho6 _ (by omega)) fe1
  have fe28 : w6 (i + 28) = .inr (0, [.null, .null, .null, .null, .int 0]) := by rw [hw6]; exact upw_eq
  refine lv_dup S.1 S.2.1 dX2_init_27 rfl ?_
  refine c_call (As := []) (rest := [.ref q3, .int (1 : Int32), .ref q1]) S hX G (c_X0_init l E ad4 (i + 28) q3 w6 faq3 fe28) (cwI (bytes := cX0_init) (maxL := 1) 0 S.2.2.2.2 gX2_init_X0_init rfl rfl rfl (S.2.2.2.2 _ (List.mem_of_getElem? (i := 7) rfl)) (S.2.2.2.2 _ (List.mem_of_getElem? (i := 8) rfl)) (S.2.2.2.2 _ (List.mem_of_getElem? (i := 9) rfl)) rfl (by decide +kernel) ⟨Nat.le_of_ble_eq_true rfl, Nat.le_of_ble_eq_true rfl⟩) rfl hl.1 rfl (Nat.le_of_ble_eq_true rfl) ⟨Nat.le_of_ble_eq_true rfl, Nat.le_of_ble_eq_true rfl⟩ dX2_init_28 (fun ad5 w7 H locs hE5 hok7 G => ?_)
  have fah0 : ad5 i = h0 := Eq.trans (hE5 _ (by omega)) fah0
  have faq1 : ad5 (i + 1) = q1 := Eq.trans (hE5 _ (by omega)) faq1
  have faq2 : ad5 (i + 2) = q2 := Eq.trans (hE5 _ (by omega)) faq2
  have faq3 : ad5 (i + 28) = q3 := Eq.trans (hE5 _ (by omega)) faq3
  have fe0 : w7 i = .inr (2, [.ref q1, .int 0, .int 0]) := Eq.trans (hok7.1 _ (by omega)) fe0
  have fe1 : w7 (i + 1) = .inl (E.2.1 4, 4, .inr (.inr (.inr (.inr (va_up (fun _ => none) 0 (some q2)))))) := Eq.trans (hok7.1 _ (by omega)) fe1
  have G : CG E ad5 (i + 54) w7 sg H locs := G
  refine W.eq (g2 := F0 mg 31 ls [.ref q3, .int (1 : Int32), .ref q1]) rfl ?_
  have fb : w7 (i + 28) = .inr (0, _) := (hok7.2) 0 (by decide)
  refine c_aast (i := (i + 1)) (i2 := (i + 28)) (f := (va_up (fun _ => none) 0 (some q2))) S hX G faq1 (by omega) fe1 faq3 (by omega) fb (by unfold vp_in; decide) dX2_init_31 (fun H locs G => ?_)
  obtain ⟨w8, hw8⟩ : ∃ z, z = upw w7 (i + 1) (.inl (E.2.1 4, 4, .inr (.inr (.inr (.inr (va_up (va_up (fun _ => none) 0 (some q2)) 1 (some q3))))))) := ⟨_, rfl⟩
  have G : CG E ad5 (i + 54) w8 sg H locs := by rw [hw8]; exact G
  have ho8 : ∀ k, k ≠ (i + 1) → w8 k = w7 k := fun k hk => by rw [hw8]; exact upw_ne hk
  have fe0 : w8 i = .inr (2, [.ref q1, .int 0, .int 0]) := Eq.trans (ho8 _ (by omega)) fe0
  have fe1 : w8 (i + 1) = .inl (E.2.1 4, 4, .inr (.inr (.inr (.inr (va_up (va_up (fun _ => none) 0 (some q2)) 1 (some q3)))))) := by rw [hw8]; exact upw_eq
  refine lv_iinc (v := (2 : Int32)) (lv' := [(1, .int (2 : Int32)), (0, .ref h0)]) S.1 S.2.1 dX2_init_32 hl (k := 0) rfl (by decide) (by decide) rfl (fun ls hl => ?_)
  refine lv_goto (tgt := 14) S.1 S.2.1 dX2_init_35 (by decide) ?_
  refine lv_iload_n S.1 S.2.1 dX2_init_14 rfl (lv_at hl 0 rfl) ?_
  refine lv_iconst (v := (4 : Int32)) S.1 S.2.1 dX2_init_15 (by decide) ?_
  refine lv_icmp_ge (tgt := 38) S.1 S.2.1 dX2_init_16 (by decide) (fun h => absurd h (by decide)) (fun _ => ?_)
  refine lv_aload_n S.1 S.2.1 dX2_init_19 rfl (lv_at hl 1 rfl) ?_
  refine c_get (i := i) S hX G (C := RX2) (T := TX2) (N := 3) 0 fah0 (by omega) fe0 rfl rfl (fun _ h => (List.mem_cons_of_mem _ (List.mem_append_left _ (List.mem_append_left _ (List.mem_append_left _ (List.mem_append_left _ (List.mem_append_left _ (List.mem_append_left _ (List.mem_append_right _ h))))))))) (by decide) (List.mem_of_getElem? (i := 5) rfl) (fun _ h => h) dX2_init_20 ?_
  refine lv_iload_n S.1 S.2.1 dX2_init_23 rfl (lv_at hl 0 rfl) ?_
  refine c_new S hX G (C := RX0) (T := TX0) (N := 5) (ci := 0) (fs := [.null, .null, .null, .null, .int 0]) tyX0 (fun _ h => (List.mem_cons_of_mem _ (List.mem_append_left _ (List.mem_append_left _ (List.mem_append_left _ (List.mem_append_left _ (List.mem_append_left _ (List.mem_append_right _ h)))))))) tyX0_ok (List.mem_of_getElem? (i := 4) rfl) (List.mem_of_getElem? (i := 6) rfl) (List.mem_of_getElem? (i := 7) rfl) rfl (fun j hj => by rcases (show j = 0 ∨ j = 1 ∨ j = 2 ∨ j = 3 ∨ j = 4 by omega) with rfl | rfl | rfl | rfl | rfl <;> rfl) (Nat.le_of_ble_eq_true rfl) (Nat.le_of_ble_eq_true rfl) dX2_init_24 (fun q4 ad6 H faq4 hE6 G => ?_)
  have fah0 : ad6 i = h0 := Eq.trans (hE6 _ (by omega)) fah0
  have faq1 : ad6 (i + 1) = q1 := Eq.trans (hE6 _ (by omega)) faq1
  have faq2 : ad6 (i + 2) = q2 := Eq.trans (hE6 _ (by omega)) faq2
  have faq3 : ad6 (i + 28) = q3 := Eq.trans (hE6 _ (by omega)) faq3
  obtain ⟨w9, hw9⟩ : ∃ z, z = upw w8 (i + 54) (.inr (0, [.null, .null, .null, .null, .int 0])) := ⟨_, rfl⟩
  have G : CG E ad6 (i + 55) w9 sg H locs := by rw [hw9]; exact G
  have ho9 : ∀ k, k ≠ (i + 54) → w9 k = w8 k := fun k hk => by rw [hw9]; exact upw_ne hk
  have fe0 : w9 i = .inr (2, [.ref q1, .int 0, .int 0]) := Eq.trans (ho9 _ (by omega)) fe0
  have fe1 : w9 (i + 1) = .inl (E.2.1 4, 4, .inr (.inr (.inr (.inr (va_up (va_up (fun _ => none) 0 (some q2)) 1 (some q3)))))) := Eq.trans (ho9 _ (by omega)) fe1
  have fe54 : w9 (i + 54) = .inr (0, [.null, .null, .null, .null, .int 0]) := by rw [hw9]; exact upw_eq
  refine lv_dup S.1 S.2.1 dX2_init_27 rfl ?_
  refine c_call (As := []) (rest := [.ref q4, .int (2 : Int32), .ref q1]) S hX G (c_X0_init l E ad6 (i + 54) q4 w9 faq4 fe54) (cwI (bytes := cX0_init) (maxL := 1) 0 S.2.2.2.2 gX2_init_X0_init rfl rfl rfl (S.2.2.2.2 _ (List.mem_of_getElem? (i := 7) rfl)) (S.2.2.2.2 _ (List.mem_of_getElem? (i := 8) rfl)) (S.2.2.2.2 _ (List.mem_of_getElem? (i := 9) rfl)) rfl (by decide +kernel) ⟨Nat.le_of_ble_eq_true rfl, Nat.le_of_ble_eq_true rfl⟩) rfl hl.1 rfl (Nat.le_of_ble_eq_true rfl) ⟨Nat.le_of_ble_eq_true rfl, Nat.le_of_ble_eq_true rfl⟩ dX2_init_28 (fun ad7 w10 H locs hE7 hok10 G => ?_)
  have fah0 : ad7 i = h0 := Eq.trans (hE7 _ (by omega)) fah0
  have faq1 : ad7 (i + 1) = q1 := Eq.trans (hE7 _ (by omega)) faq1
  have faq2 : ad7 (i + 2) = q2 := Eq.trans (hE7 _ (by omega)) faq2
  have faq3 : ad7 (i + 28) = q3 := Eq.trans (hE7 _ (by omega)) faq3
  have faq4 : ad7 (i + 54) = q4 := Eq.trans (hE7 _ (by omega)) faq4
  have fe0 : w10 i = .inr (2, [.ref q1, .int 0, .int 0]) := Eq.trans (hok10.1 _ (by omega)) fe0
  have fe1 : w10 (i + 1) = .inl (E.2.1 4, 4, .inr (.inr (.inr (.inr (va_up (va_up (fun _ => none) 0 (some q2)) 1 (some q3)))))) := Eq.trans (hok10.1 _ (by omega)) fe1
  have G : CG E ad7 (i + 80) w10 sg H locs := G
  refine W.eq (g2 := F0 mg 31 ls [.ref q4, .int (2 : Int32), .ref q1]) rfl ?_
  have fb : w10 (i + 54) = .inr (0, _) := (hok10.2) 0 (by decide)
  refine c_aast (i := (i + 1)) (i2 := (i + 54)) (f := (va_up (va_up (fun _ => none) 0 (some q2)) 1 (some q3))) S hX G faq1 (by omega) fe1 faq4 (by omega) fb (by unfold vp_in; decide) dX2_init_31 (fun H locs G => ?_)
  obtain ⟨w11, hw11⟩ : ∃ z, z = upw w10 (i + 1) (.inl (E.2.1 4, 4, .inr (.inr (.inr (.inr (va_up (va_up (va_up (fun _ => none) 0 (some q2)) 1 (some q3)) 2 (some q4))))))) := ⟨_, rfl⟩
  have G : CG E ad7 (i + 80) w11 sg H locs := by rw [hw11]; exact G
  have ho11 : ∀ k, k ≠ (i + 1) → w11 k = w10 k := fun k hk => by rw [hw11]; exact upw_ne hk
  have fe0 : w11 i = .inr (2, [.ref q1, .int 0, .int 0]) := Eq.trans (ho11 _ (by omega)) fe0
  have fe1 : w11 (i + 1) = .inl (E.2.1 4, 4, .inr (.inr (.inr (.inr (va_up (va_up (va_up (fun _ => none) 0 (some q2)) 1 (some q3)) 2 (some q4)))))) := by rw [hw11]; exact upw_eq
  refine lv_iinc (v := (3 : Int32)) (lv' := [(1, .int (3 : Int32)), (0, .ref h0)]) S.1 S.2.1 dX2_init_32 hl (k := 0) rfl (by decide) (by decide) rfl (fun ls hl => ?_)
  refine lv_goto (tgt := 14) S.1 S.2.1 dX2_init_35 (by decide) ?_
  refine lv_iload_n S.1 S.2.1 dX2_init_14 rfl (lv_at hl 0 rfl) ?_
  refine lv_iconst (v := (4 : Int32)) S.1 S.2.1 dX2_init_15 (by decide) ?_
  refine lv_icmp_ge (tgt := 38) S.1 S.2.1 dX2_init_16 (by decide) (fun h => absurd h (by decide)) (fun _ => ?_)
  refine lv_aload_n S.1 S.2.1 dX2_init_19 rfl (lv_at hl 1 rfl) ?_
  refine c_get (i := i) S hX G (C := RX2) (T := TX2) (N := 3) 0 fah0 (by omega) fe0 rfl rfl (fun _ h => (List.mem_cons_of_mem _ (List.mem_append_left _ (List.mem_append_left _ (List.mem_append_left _ (List.mem_append_left _ (List.mem_append_left _ (List.mem_append_left _ (List.mem_append_right _ h))))))))) (by decide) (List.mem_of_getElem? (i := 5) rfl) (fun _ h => h) dX2_init_20 ?_
  refine lv_iload_n S.1 S.2.1 dX2_init_23 rfl (lv_at hl 0 rfl) ?_
  refine c_new S hX G (C := RX0) (T := TX0) (N := 5) (ci := 0) (fs := [.null, .null, .null, .null, .int 0]) tyX0 (fun _ h => (List.mem_cons_of_mem _ (List.mem_append_left _ (List.mem_append_left _ (List.mem_append_left _ (List.mem_append_left _ (List.mem_append_left _ (List.mem_append_right _ h)))))))) tyX0_ok (List.mem_of_getElem? (i := 4) rfl) (List.mem_of_getElem? (i := 6) rfl) (List.mem_of_getElem? (i := 7) rfl) rfl (fun j hj => by rcases (show j = 0 ∨ j = 1 ∨ j = 2 ∨ j = 3 ∨ j = 4 by omega) with rfl | rfl | rfl | rfl | rfl <;> rfl) (Nat.le_of_ble_eq_true rfl) (Nat.le_of_ble_eq_true rfl) dX2_init_24 (fun q5 ad8 H faq5 hE8 G => ?_)
  have fah0 : ad8 i = h0 := Eq.trans (hE8 _ (by omega)) fah0
  have faq1 : ad8 (i + 1) = q1 := Eq.trans (hE8 _ (by omega)) faq1
  have faq2 : ad8 (i + 2) = q2 := Eq.trans (hE8 _ (by omega)) faq2
  have faq3 : ad8 (i + 28) = q3 := Eq.trans (hE8 _ (by omega)) faq3
  have faq4 : ad8 (i + 54) = q4 := Eq.trans (hE8 _ (by omega)) faq4
  obtain ⟨w12, hw12⟩ : ∃ z, z = upw w11 (i + 80) (.inr (0, [.null, .null, .null, .null, .int 0])) := ⟨_, rfl⟩
  have G : CG E ad8 (i + 81) w12 sg H locs := by rw [hw12]; exact G
  have ho12 : ∀ k, k ≠ (i + 80) → w12 k = w11 k := fun k hk => by rw [hw12]; exact upw_ne hk
  have fe0 : w12 i = .inr (2, [.ref q1, .int 0, .int 0]) := Eq.trans (ho12 _ (by omega)) fe0
  have fe1 : w12 (i + 1) = .inl (E.2.1 4, 4, .inr (.inr (.inr (.inr (va_up (va_up (va_up (fun _ => none) 0 (some q2)) 1 (some q3)) 2 (some q4)))))) := Eq.trans (ho12 _ (by omega)) fe1
  have fe80 : w12 (i + 80) = .inr (0, [.null, .null, .null, .null, .int 0]) := by rw [hw12]; exact upw_eq
  refine lv_dup S.1 S.2.1 dX2_init_27 rfl ?_
  refine c_call (As := []) (rest := [.ref q5, .int (3 : Int32), .ref q1]) S hX G (c_X0_init l E ad8 (i + 80) q5 w12 faq5 fe80) (cwI (bytes := cX0_init) (maxL := 1) 0 S.2.2.2.2 gX2_init_X0_init rfl rfl rfl (S.2.2.2.2 _ (List.mem_of_getElem? (i := 7) rfl)) (S.2.2.2.2 _ (List.mem_of_getElem? (i := 8) rfl)) (S.2.2.2.2 _ (List.mem_of_getElem? (i := 9) rfl)) rfl (by decide +kernel) ⟨Nat.le_of_ble_eq_true rfl, Nat.le_of_ble_eq_true rfl⟩) rfl hl.1 rfl (Nat.le_of_ble_eq_true rfl) ⟨Nat.le_of_ble_eq_true rfl, Nat.le_of_ble_eq_true rfl⟩ dX2_init_28 (fun ad9 w13 H locs hE9 hok13 G => ?_)
  have fah0 : ad9 i = h0 := Eq.trans (hE9 _ (by omega)) fah0
  have faq1 : ad9 (i + 1) = q1 := Eq.trans (hE9 _ (by omega)) faq1
  have faq2 : ad9 (i + 2) = q2 := Eq.trans (hE9 _ (by omega)) faq2
  have faq3 : ad9 (i + 28) = q3 := Eq.trans (hE9 _ (by omega)) faq3
  have faq4 : ad9 (i + 54) = q4 := Eq.trans (hE9 _ (by omega)) faq4
  have faq5 : ad9 (i + 80) = q5 := Eq.trans (hE9 _ (by omega)) faq5
  have fe0 : w13 i = .inr (2, [.ref q1, .int 0, .int 0]) := Eq.trans (hok13.1 _ (by omega)) fe0
  have fe1 : w13 (i + 1) = .inl (E.2.1 4, 4, .inr (.inr (.inr (.inr (va_up (va_up (va_up (fun _ => none) 0 (some q2)) 1 (some q3)) 2 (some q4)))))) := Eq.trans (hok13.1 _ (by omega)) fe1
  have G : CG E ad9 (i + 106) w13 sg H locs := G
  refine W.eq (g2 := F0 mg 31 ls [.ref q5, .int (3 : Int32), .ref q1]) rfl ?_
  have fb : w13 (i + 80) = .inr (0, _) := (hok13.2) 0 (by decide)
  refine c_aast (i := (i + 1)) (i2 := (i + 80)) (f := (va_up (va_up (va_up (fun _ => none) 0 (some q2)) 1 (some q3)) 2 (some q4))) S hX G faq1 (by omega) fe1 faq5 (by omega) fb (by unfold vp_in; decide) dX2_init_31 (fun H locs G => ?_)
  obtain ⟨w14, hw14⟩ : ∃ z, z = upw w13 (i + 1) (.inl (E.2.1 4, 4, .inr (.inr (.inr (.inr (va_up (va_up (va_up (va_up (fun _ => none) 0 (some q2)) 1 (some q3)) 2 (some q4)) 3 (some q5))))))) := ⟨_, rfl⟩
  have G : CG E ad9 (i + 106) w14 sg H locs := by rw [hw14]; exact G
  have ho14 : ∀ k, k ≠ (i + 1) → w14 k = w13 k := fun k hk => by rw [hw14]; exact upw_ne hk
  have fe0 : w14 i = .inr (2, [.ref q1, .int 0, .int 0]) := Eq.trans (ho14 _ (by omega)) fe0
  have fe1 : w14 (i + 1) = .inl (E.2.1 4, 4, .inr (.inr (.inr (.inr (va_up (va_up (va_up (va_up (fun _ => none) 0 (some q2)) 1 (some q3)) 2 (some q4)) 3 (some q5)))))) := by rw [hw14]; exact upw_eq
  refine lv_iinc (v := (4 : Int32)) (lv' := [(1, .int (4 : Int32)), (0, .ref h0)]) S.1 S.2.1 dX2_init_32 hl (k := 0) rfl (by decide) (by decide) rfl (fun ls hl => ?_)
  refine lv_goto (tgt := 14) S.1 S.2.1 dX2_init_35 (by decide) ?_
  refine lv_iload_n S.1 S.2.1 dX2_init_14 rfl (lv_at hl 0 rfl) ?_
  refine lv_iconst (v := (4 : Int32)) S.1 S.2.1 dX2_init_15 (by decide) ?_
  refine lv_icmp_ge (tgt := 38) S.1 S.2.1 dX2_init_16 (by decide) (fun _ => ?_) (fun h => absurd (by decide) h)
  refine W.widen (k := 105) (n := 952) (Nat.le_of_ble_eq_true rfl) (Nat.le_of_ble_eq_true rfl) ?_
  exact c_vret S G hr hlk dX2_init_38 (fun k hk => ((hE9 k (by omega)).trans ((hE8 k (by omega)).trans ((hE7 k (by omega)).trans ((hE6 k (by omega)).trans ((hE5 k (by omega)).trans ((hE4 k (by omega)).trans ((hE3 k (by omega)).trans ((hE2 k (by omega)).trans (hE1 k (by omega))))))))))) ⟨fun k hk => ((ho14 k (by omega)).trans ((hok13.1 k (by omega)).trans ((ho12 k (by omega)).trans ((ho11 k (by omega)).trans ((hok10.1 k (by omega)).trans ((ho9 k (by omega)).trans ((ho8 k (by omega)).trans ((hok7.1 k (by omega)).trans ((ho6 k (by omega)).trans ((ho5 k (by omega)).trans ((hok4.1 k (by omega)).trans ((ho3 k (by omega)).trans ((ho2 k (by omega)).trans (ho1 k (by omega))))))))))))))), ⟨(Eq.trans fe0 (by rw [show q1 = ad9 (i + 1) from faq1.symm])), (Eq.trans fe1 (by rw [show q2 = ad9 (i + 2) from faq2.symm, show q3 = ad9 (i + 28) from faq3.symm, show q4 = ad9 (i + 54) from faq4.symm, show q5 = ad9 (i + 80) from faq5.symm]; rfl)), (((show brBlk E ad3 w4 (i + 2) from hok4.2).ad (fun k (hk : k < (i + 2) + 26) => ((hE9 k (by omega)).trans ((hE8 k (by omega)).trans ((hE7 k (by omega)).trans ((hE6 k (by omega)).trans ((hE5 k (by omega)).trans (hE4 k (by omega))))))))).w (fun k (h1 : (i + 2) ≤ k) (h2 : k < (i + 2) + 26) => ((ho14 k (by omega)).trans ((hok13.1 k (by omega)).trans ((ho12 k (by omega)).trans ((ho11 k (by omega)).trans ((hok10.1 k (by omega)).trans ((ho9 k (by omega)).trans ((ho8 k (by omega)).trans ((hok7.1 k (by omega)).trans ((ho6 k (by omega)).trans (ho5 k (by omega))))))))))))), (((show brBlk E ad5 w7 (i + 28) from hok7.2).ad (fun k (hk : k < (i + 28) + 26) => ((hE9 k (by omega)).trans ((hE8 k (by omega)).trans ((hE7 k (by omega)).trans (hE6 k (by omega))))))).w (fun k (h1 : (i + 28) ≤ k) (h2 : k < (i + 28) + 26) => ((ho14 k (by omega)).trans ((hok13.1 k (by omega)).trans ((ho12 k (by omega)).trans ((ho11 k (by omega)).trans ((hok10.1 k (by omega)).trans ((ho9 k (by omega)).trans (ho8 k (by omega)))))))))), (((show brBlk E ad7 w10 (i + 54) from hok10.2).ad (fun k (hk : k < (i + 54) + 26) => ((hE9 k (by omega)).trans (hE8 k (by omega))))).w (fun k (h1 : (i + 54) ≤ k) (h2 : k < (i + 54) + 26) => ((ho14 k (by omega)).trans ((hok13.1 k (by omega)).trans ((ho12 k (by omega)).trans (ho11 k (by omega))))))), ((show brBlk E ad9 w13 (i + 80) from hok13.2).w (fun k (h1 : (i + 80) ≤ k) (h2 : k < (i + 80) + 26) => (ho14 k (by omega))))⟩⟩
set_option maxHeartbeats 4000000 in
set_option maxRecDepth 100000 in
theorem c_X8_init (l : Launch) (E : Ev) (ad : Nat → Nat) (i h0 : Nat) (w : Nat → va_E) (fah0 : ad i = h0) (fe0 : w i = .inr (8, [.null, .null, .null, .null])) : CN l yX8_init wsX8_init ({ frames := 5, cells := 160, slots := 1511, locals := 103 }) E [.ref h0] ad (i + 1) w (i + 161) (fun ad' w' => (∀ k, k < i → w' k = w k) ∧ TopOk E ad' w' i) 160 1511 := by
  refine CN.of (cc := cX8_init) (maxL := 1) (by decide) rfl rfl (Nat.le_of_ble_eq_true rfl) ?_
  intro pg en sg mg below meth cg ls S hr hlk hnm hX G hl
  have S : CallFix pg mg cg cX8_init 1 sg _ wsX8_init RX8 := S
  have hl : lv_has ls 1 [(0, .ref h0)] := hl
  refine lv_aload_n S.1 S.2.1 dX8_init_0 rfl (lv_at hl 0 rfl) ?_
  refine W.objInit S.1 S.2.1 S.2.2.2.1 (S.2.2.2.2 _ (List.mem_of_getElem? (i := 1) rfl)) (S.2.2.2.2 _ (List.mem_of_getElem? (i := 2) rfl)) (S.2.2.2.2 _ (List.mem_of_getElem? (i := 3) rfl)) rfl (hl.1.trans S.2.2.1.symm) rfl dX8_init_1 (Nat.le_of_ble_eq_true rfl) (Nat.le_of_ble_eq_true rfl) ?_
  refine W.eq (g2 := F0 mg 4 ls []) rfl ?_
  refine lv_aload_n S.1 S.2.1 dX8_init_4 rfl (lv_at hl 0 rfl) ?_
  refine c_new S hX G (C := RX0) (T := TX0) (N := 5) (ci := 0) (fs := [.null, .null, .null, .null, .int 0]) tyX0 (fun _ h => (List.mem_cons_of_mem _ (List.mem_append_left _ (List.mem_append_left _ (List.mem_append_left _ (List.mem_append_left _ (List.mem_append_left _ (List.mem_append_left _ (List.mem_append_left _ (List.mem_append_left _ (List.mem_append_right _ h))))))))))) tyX0_ok (List.mem_of_getElem? (i := 4) rfl) (List.mem_of_getElem? (i := 5) rfl) (List.mem_of_getElem? (i := 6) rfl) rfl (fun j hj => by rcases (show j = 0 ∨ j = 1 ∨ j = 2 ∨ j = 3 ∨ j = 4 by omega) with rfl | rfl | rfl | rfl | rfl <;> rfl) (Nat.le_of_ble_eq_true rfl) (Nat.le_of_ble_eq_true rfl) dX8_init_5 (fun q1 ad1 H faq1 hE1 G => ?_)
  have fah0 : ad1 i = h0 := Eq.trans (hE1 _ (by omega)) fah0
  obtain ⟨w1, hw1⟩ : ∃ z, z = upw w (i + 1) (.inr (0, [.null, .null, .null, .null, .int 0])) := ⟨_, rfl⟩
  have G : CG E ad1 (i + 2) w1 sg H [] := by rw [hw1]; exact G
  have ho1 : ∀ k, k ≠ (i + 1) → w1 k = w k := fun k hk => by rw [hw1]; exact upw_ne hk
  have fe0 : w1 i = .inr (8, [.null, .null, .null, .null]) := Eq.trans (ho1 _ (by omega)) fe0
  have fe1 : w1 (i + 1) = .inr (0, [.null, .null, .null, .null, .int 0]) := by rw [hw1]; exact upw_eq
  refine lv_dup S.1 S.2.1 dX8_init_8 rfl ?_
  refine c_call (As := []) (rest := [.ref q1, .ref h0]) S hX G (c_X0_init l E ad1 (i + 1) q1 w1 faq1 fe1) (cwI (bytes := cX0_init) (maxL := 1) 0 S.2.2.2.2 gX8_init_X0_init rfl rfl rfl (S.2.2.2.2 _ (List.mem_of_getElem? (i := 6) rfl)) (S.2.2.2.2 _ (List.mem_of_getElem? (i := 17) rfl)) (S.2.2.2.2 _ (List.mem_of_getElem? (i := 18) rfl)) rfl (by decide +kernel) ⟨Nat.le_of_ble_eq_true rfl, Nat.le_of_ble_eq_true rfl⟩) rfl hl.1 rfl (Nat.le_of_ble_eq_true rfl) ⟨Nat.le_of_ble_eq_true rfl, Nat.le_of_ble_eq_true rfl⟩ dX8_init_9 (fun ad2 w2 H locs hE2 hok2 G => ?_)
  have fah0 : ad2 i = h0 := Eq.trans (hE2 _ (by omega)) fah0
  have faq1 : ad2 (i + 1) = q1 := Eq.trans (hE2 _ (by omega)) faq1
  have fe0 : w2 i = .inr (8, [.null, .null, .null, .null]) := Eq.trans (hok2.1 _ (by omega)) fe0
  have G : CG E ad2 (i + 27) w2 sg H locs := G
  refine W.eq (g2 := F0 mg 12 ls [.ref q1, .ref h0]) rfl ?_
  refine c_putF (i := i) (ty := tyX8 0) (ty0 := tyX8) S hX G (C := RX8) (T := TX8) (N := 4) 0 fah0 (by omega) fe0 rfl (fun _ h => (List.mem_cons_of_mem _ (List.mem_append_left _ (List.mem_append_left _ (List.mem_append_left _ (List.mem_append_left _ (List.mem_append_left _ (List.mem_append_left _ (List.mem_append_left _ (List.mem_append_right _ h)))))))))) tyX8_ok nmX8 (by decide) (List.mem_of_getElem? (i := 7) rfl) (fun _ h => h) rfl hnm rfl (tyX8_ok 0 (by decide)) rfl rfl (Nat.le_of_ble_eq_true rfl) dX8_init_12 (fun H locs G => ?_)
  obtain ⟨w3, hw3⟩ : ∃ z, z = upw w2 i (.inr (8, [.ref q1, .null, .null, .null])) := ⟨_, rfl⟩
  have G : CG E ad2 (i + 27) w3 sg H locs := by rw [hw3]; exact G
  have ho3 : ∀ k, k ≠ i → w3 k = w2 k := fun k hk => by rw [hw3]; exact upw_ne hk
  have fe0 : w3 i = .inr (8, [.ref q1, .null, .null, .null]) := by rw [hw3]; exact upw_eq
  refine lv_aload_n S.1 S.2.1 dX8_init_15 rfl (lv_at hl 0 rfl) ?_
  refine c_new S hX G (C := RX0) (T := TX0) (N := 5) (ci := 0) (fs := [.null, .null, .null, .null, .int 0]) tyX0 (fun _ h => (List.mem_cons_of_mem _ (List.mem_append_left _ (List.mem_append_left _ (List.mem_append_left _ (List.mem_append_left _ (List.mem_append_left _ (List.mem_append_left _ (List.mem_append_left _ (List.mem_append_left _ (List.mem_append_right _ h))))))))))) tyX0_ok (List.mem_of_getElem? (i := 4) rfl) (List.mem_of_getElem? (i := 5) rfl) (List.mem_of_getElem? (i := 6) rfl) rfl (fun j hj => by rcases (show j = 0 ∨ j = 1 ∨ j = 2 ∨ j = 3 ∨ j = 4 by omega) with rfl | rfl | rfl | rfl | rfl <;> rfl) (Nat.le_of_ble_eq_true rfl) (Nat.le_of_ble_eq_true rfl) dX8_init_16 (fun q2 ad3 H faq2 hE3 G => ?_)
  have fah0 : ad3 i = h0 := Eq.trans (hE3 _ (by omega)) fah0
  have faq1 : ad3 (i + 1) = q1 := Eq.trans (hE3 _ (by omega)) faq1
  obtain ⟨w4, hw4⟩ : ∃ z, z = upw w3 (i + 27) (.inr (0, [.null, .null, .null, .null, .int 0])) := ⟨_, rfl⟩
  have G : CG E ad3 (i + 28) w4 sg H locs := by rw [hw4]; exact G
  have ho4 : ∀ k, k ≠ (i + 27) → w4 k = w3 k := fun k hk => by rw [hw4]; exact upw_ne hk
  have fe0 : w4 i = .inr (8, [.ref q1, .null, .null, .null]) := Eq.trans (ho4 _ (by omega)) fe0
  have fe27 : w4 (i + 27) = .inr (0, [.null, .null, .null, .null, .int 0]) := by rw [hw4]; exact upw_eq
  refine lv_dup S.1 S.2.1 dX8_init_19 rfl ?_
  refine c_call (As := []) (rest := [.ref q2, .ref h0]) S hX G (c_X0_init l E ad3 (i + 27) q2 w4 faq2 fe27) (cwI (bytes := cX0_init) (maxL := 1) 0 S.2.2.2.2 gX8_init_X0_init rfl rfl rfl (S.2.2.2.2 _ (List.mem_of_getElem? (i := 6) rfl)) (S.2.2.2.2 _ (List.mem_of_getElem? (i := 17) rfl)) (S.2.2.2.2 _ (List.mem_of_getElem? (i := 18) rfl)) rfl (by decide +kernel) ⟨Nat.le_of_ble_eq_true rfl, Nat.le_of_ble_eq_true rfl⟩) rfl hl.1 rfl (Nat.le_of_ble_eq_true rfl) ⟨Nat.le_of_ble_eq_true rfl, Nat.le_of_ble_eq_true rfl⟩ dX8_init_20 (fun ad4 w5 H locs hE4 hok5 G => ?_)
  have fah0 : ad4 i = h0 := Eq.trans (hE4 _ (by omega)) fah0
  have faq1 : ad4 (i + 1) = q1 := Eq.trans (hE4 _ (by omega)) faq1
  have faq2 : ad4 (i + 27) = q2 := Eq.trans (hE4 _ (by omega)) faq2
  have fe0 : w5 i = .inr (8, [.ref q1, .null, .null, .null]) := Eq.trans (hok5.1 _ (by omega)) fe0
  have G : CG E ad4 (i + 53) w5 sg H locs := G
  refine W.eq (g2 := F0 mg 23 ls [.ref q2, .ref h0]) rfl ?_
  refine c_putF (i := i) (ty := tyX8 1) (ty0 := tyX8) S hX G (C := RX8) (T := TX8) (N := 4) 1 fah0 (by omega) fe0 rfl (fun _ h => (List.mem_cons_of_mem _ (List.mem_append_left _ (List.mem_append_left _ (List.mem_append_left _ (List.mem_append_left _ (List.mem_append_left _ (List.mem_append_left _ (List.mem_append_left _ (List.mem_append_right _ h)))))))))) tyX8_ok nmX8 (by decide) (List.mem_of_getElem? (i := 8) rfl) (fun _ h => h) rfl hnm rfl (tyX8_ok 1 (by decide)) rfl rfl (Nat.le_of_ble_eq_true rfl) dX8_init_23 (fun H locs G => ?_)
  obtain ⟨w6, hw6⟩ : ∃ z, z = upw w5 i (.inr (8, [.ref q1, .ref q2, .null, .null])) := ⟨_, rfl⟩
  have G : CG E ad4 (i + 53) w6 sg H locs := by rw [hw6]; exact G
  have ho6 : ∀ k, k ≠ i → w6 k = w5 k := fun k hk => by rw [hw6]; exact upw_ne hk
  have fe0 : w6 i = .inr (8, [.ref q1, .ref q2, .null, .null]) := by rw [hw6]; exact upw_eq
  refine lv_aload_n S.1 S.2.1 dX8_init_26 rfl (lv_at hl 0 rfl) ?_
  refine c_new S hX G (C := RX2) (T := TX2) (N := 3) (ci := 2) (fs := [.null, .int 0, .int 0]) tyX2 (fun _ h => (List.mem_cons_of_mem _ (List.mem_append_left _ (List.mem_append_left _ (List.mem_append_left _ (List.mem_append_left _ (List.mem_append_left _ (List.mem_append_left _ (List.mem_append_right _ h))))))))) tyX2_ok (List.mem_of_getElem? (i := 9) rfl) (List.mem_of_getElem? (i := 10) rfl) (List.mem_of_getElem? (i := 11) rfl) rfl (fun j hj => by rcases (show j = 0 ∨ j = 1 ∨ j = 2 by omega) with rfl | rfl | rfl <;> rfl) (Nat.le_of_ble_eq_true rfl) (Nat.le_of_ble_eq_true rfl) dX8_init_27 (fun q3 ad5 H faq3 hE5 G => ?_)
  have fah0 : ad5 i = h0 := Eq.trans (hE5 _ (by omega)) fah0
  have faq1 : ad5 (i + 1) = q1 := Eq.trans (hE5 _ (by omega)) faq1
  have faq2 : ad5 (i + 27) = q2 := Eq.trans (hE5 _ (by omega)) faq2
  obtain ⟨w7, hw7⟩ : ∃ z, z = upw w6 (i + 53) (.inr (2, [.null, .int 0, .int 0])) := ⟨_, rfl⟩
  have G : CG E ad5 (i + 54) w7 sg H locs := by rw [hw7]; exact G
  have ho7 : ∀ k, k ≠ (i + 53) → w7 k = w6 k := fun k hk => by rw [hw7]; exact upw_ne hk
  have fe0 : w7 i = .inr (8, [.ref q1, .ref q2, .null, .null]) := Eq.trans (ho7 _ (by omega)) fe0
  have fe53 : w7 (i + 53) = .inr (2, [.null, .int 0, .int 0]) := by rw [hw7]; exact upw_eq
  refine lv_dup S.1 S.2.1 dX8_init_30 rfl ?_
  refine c_call (As := []) (rest := [.ref q3, .ref h0]) S hX G (c_X2_init l E ad5 (i + 53) q3 w7 faq3 fe53) (cwI (bytes := cX2_init) (maxL := 2) 0 S.2.2.2.2 gX8_init_X2_init rfl rfl rfl (S.2.2.2.2 _ (List.mem_of_getElem? (i := 11) rfl)) (S.2.2.2.2 _ (List.mem_of_getElem? (i := 81) rfl)) (S.2.2.2.2 _ (List.mem_of_getElem? (i := 82) rfl)) rfl (by decide +kernel) ⟨Nat.le_of_ble_eq_true rfl, Nat.le_of_ble_eq_true rfl⟩) rfl hl.1 rfl (Nat.le_of_ble_eq_true rfl) ⟨Nat.le_of_ble_eq_true rfl, Nat.le_of_ble_eq_true rfl⟩ dX8_init_31 (fun ad6 w8 H locs hE6 hok8 G => ?_)
  have fah0 : ad6 i = h0 := Eq.trans (hE6 _ (by omega)) fah0
  have faq1 : ad6 (i + 1) = q1 := Eq.trans (hE6 _ (by omega)) faq1
  have faq2 : ad6 (i + 27) = q2 := Eq.trans (hE6 _ (by omega)) faq2
  have faq3 : ad6 (i + 53) = q3 := Eq.trans (hE6 _ (by omega)) faq3
  have fe0 : w8 i = .inr (8, [.ref q1, .ref q2, .null, .null]) := Eq.trans (hok8.1 _ (by omega)) fe0
  have G : CG E ad6 (i + 159) w8 sg H locs := G
  refine W.eq (g2 := F0 mg 34 ls [.ref q3, .ref h0]) rfl ?_
  refine c_putF (i := i) (ty := tyX8 2) (ty0 := tyX8) S hX G (C := RX8) (T := TX8) (N := 4) 2 fah0 (by omega) fe0 rfl (fun _ h => (List.mem_cons_of_mem _ (List.mem_append_left _ (List.mem_append_left _ (List.mem_append_left _ (List.mem_append_left _ (List.mem_append_left _ (List.mem_append_left _ (List.mem_append_left _ (List.mem_append_right _ h)))))))))) tyX8_ok nmX8 (by decide) (List.mem_of_getElem? (i := 12) rfl) (fun _ h => h) rfl hnm rfl (tyX8_ok 2 (by decide)) rfl rfl (Nat.le_of_ble_eq_true rfl) dX8_init_34 (fun H locs G => ?_)
  obtain ⟨w9, hw9⟩ : ∃ z, z = upw w8 i (.inr (8, [.ref q1, .ref q2, .ref q3, .null])) := ⟨_, rfl⟩
  have G : CG E ad6 (i + 159) w9 sg H locs := by rw [hw9]; exact G
  have ho9 : ∀ k, k ≠ i → w9 k = w8 k := fun k hk => by rw [hw9]; exact upw_ne hk
  have fe0 : w9 i = .inr (8, [.ref q1, .ref q2, .ref q3, .null]) := by rw [hw9]; exact upw_eq
  refine lv_aload_n S.1 S.2.1 dX8_init_37 rfl (lv_at hl 0 rfl) ?_
  refine c_new S hX G (C := RX7) (T := TX7) (N := 2) (ci := 7) (fs := [.null, .int 0]) tyX7 (fun _ h => (List.mem_cons_of_mem _ (List.mem_append_left _ (List.mem_append_left _ (List.mem_append_left _ (List.mem_append_left _ (List.mem_append_left _ (List.mem_append_right _ h)))))))) tyX7_ok (List.mem_of_getElem? (i := 13) rfl) (List.mem_of_getElem? (i := 14) rfl) (List.mem_of_getElem? (i := 15) rfl) rfl (fun j hj => by rcases (show j = 0 ∨ j = 1 by omega) with rfl | rfl <;> rfl) (Nat.le_of_ble_eq_true rfl) (Nat.le_of_ble_eq_true rfl) dX8_init_38 (fun q4 ad7 H faq4 hE7 G => ?_)
  have fah0 : ad7 i = h0 := Eq.trans (hE7 _ (by omega)) fah0
  have faq1 : ad7 (i + 1) = q1 := Eq.trans (hE7 _ (by omega)) faq1
  have faq2 : ad7 (i + 27) = q2 := Eq.trans (hE7 _ (by omega)) faq2
  have faq3 : ad7 (i + 53) = q3 := Eq.trans (hE7 _ (by omega)) faq3
  obtain ⟨w10, hw10⟩ : ∃ z, z = upw w9 (i + 159) (.inr (7, [.null, .int 0])) := ⟨_, rfl⟩
  have G : CG E ad7 (i + 160) w10 sg H locs := by rw [hw10]; exact G
  have ho10 : ∀ k, k ≠ (i + 159) → w10 k = w9 k := fun k hk => by rw [hw10]; exact upw_ne hk
  have fe0 : w10 i = .inr (8, [.ref q1, .ref q2, .ref q3, .null]) := Eq.trans (ho10 _ (by omega)) fe0
  have fe159 : w10 (i + 159) = .inr (7, [.null, .int 0]) := by rw [hw10]; exact upw_eq
  refine lv_dup S.1 S.2.1 dX8_init_41 rfl ?_
  refine c_call (As := []) (rest := [.ref q4, .ref h0]) S hX G (c_X7_init l E ad7 (i + 159) q4 w10 faq4 fe159) (cwI (bytes := cX7_init) (maxL := 1) 0 S.2.2.2.2 gX8_init_X7_init rfl rfl rfl (S.2.2.2.2 _ (List.mem_of_getElem? (i := 15) rfl)) (S.2.2.2.2 _ (List.mem_of_getElem? (i := 88) rfl)) (S.2.2.2.2 _ (List.mem_of_getElem? (i := 89) rfl)) rfl (by decide +kernel) ⟨Nat.le_of_ble_eq_true rfl, Nat.le_of_ble_eq_true rfl⟩) rfl hl.1 rfl (Nat.le_of_ble_eq_true rfl) ⟨Nat.le_of_ble_eq_true rfl, Nat.le_of_ble_eq_true rfl⟩ dX8_init_42 (fun ad8 w11 H locs hE8 hok11 G => ?_)
  have fah0 : ad8 i = h0 := Eq.trans (hE8 _ (by omega)) fah0
  have faq1 : ad8 (i + 1) = q1 := Eq.trans (hE8 _ (by omega)) faq1
  have faq2 : ad8 (i + 27) = q2 := Eq.trans (hE8 _ (by omega)) faq2
  have faq3 : ad8 (i + 53) = q3 := Eq.trans (hE8 _ (by omega)) faq3
  have faq4 : ad8 (i + 159) = q4 := Eq.trans (hE8 _ (by omega)) faq4
  have fe0 : w11 i = .inr (8, [.ref q1, .ref q2, .ref q3, .null]) := Eq.trans (hok11.1 _ (by omega)) fe0
  have G : CG E ad8 (i + 161) w11 sg H locs := G
  refine W.eq (g2 := F0 mg 45 ls [.ref q4, .ref h0]) rfl ?_
  refine c_putF (i := i) (ty := tyX8 3) (ty0 := tyX8) S hX G (C := RX8) (T := TX8) (N := 4) 3 fah0 (by omega) fe0 rfl (fun _ h => (List.mem_cons_of_mem _ (List.mem_append_left _ (List.mem_append_left _ (List.mem_append_left _ (List.mem_append_left _ (List.mem_append_left _ (List.mem_append_left _ (List.mem_append_left _ (List.mem_append_right _ h)))))))))) tyX8_ok nmX8 (by decide) (List.mem_of_getElem? (i := 16) rfl) (fun _ h => h) rfl hnm rfl (tyX8_ok 3 (by decide)) rfl rfl (Nat.le_of_ble_eq_true rfl) dX8_init_45 (fun H locs G => ?_)
  obtain ⟨w12, hw12⟩ : ∃ z, z = upw w11 i (.inr (8, [.ref q1, .ref q2, .ref q3, .ref q4])) := ⟨_, rfl⟩
  have G : CG E ad8 (i + 161) w12 sg H locs := by rw [hw12]; exact G
  have ho12 : ∀ k, k ≠ i → w12 k = w11 k := fun k hk => by rw [hw12]; exact upw_ne hk
  have fe0 : w12 i = .inr (8, [.ref q1, .ref q2, .ref q3, .ref q4]) := by rw [hw12]; exact upw_eq
  refine W.widen (k := 160) (n := 1511) (Nat.le_of_ble_eq_true rfl) (Nat.le_of_ble_eq_true rfl) ?_
  exact c_vret S G hr hlk dX8_init_48 (fun k hk => ((hE8 k (by omega)).trans ((hE7 k (by omega)).trans ((hE6 k (by omega)).trans ((hE5 k (by omega)).trans ((hE4 k (by omega)).trans ((hE3 k (by omega)).trans ((hE2 k (by omega)).trans (hE1 k (by omega)))))))))) ⟨fun k hk => ((ho12 k (by omega)).trans ((hok11.1 k (by omega)).trans ((ho10 k (by omega)).trans ((ho9 k (by omega)).trans ((hok8.1 k (by omega)).trans ((ho7 k (by omega)).trans ((ho6 k (by omega)).trans ((hok5.1 k (by omega)).trans ((ho4 k (by omega)).trans ((ho3 k (by omega)).trans ((hok2.1 k (by omega)).trans (ho1 k (by omega))))))))))))), ⟨(Eq.trans fe0 (by rw [show q1 = ad8 (i + 1) from faq1.symm, show q2 = ad8 (i + 27) from faq2.symm, show q3 = ad8 (i + 53) from faq3.symm, show q4 = ad8 (i + 159) from faq4.symm])), (((show brBlk E ad2 w2 (i + 1) from hok2.2).ad (fun k (hk : k < (i + 1) + 26) => ((hE8 k (by omega)).trans ((hE7 k (by omega)).trans ((hE6 k (by omega)).trans ((hE5 k (by omega)).trans ((hE4 k (by omega)).trans (hE3 k (by omega))))))))).w (fun k (h1 : (i + 1) ≤ k) (h2 : k < (i + 1) + 26) => ((ho12 k (by omega)).trans ((hok11.1 k (by omega)).trans ((ho10 k (by omega)).trans ((ho9 k (by omega)).trans ((hok8.1 k (by omega)).trans ((ho7 k (by omega)).trans ((ho6 k (by omega)).trans ((hok5.1 k (by omega)).trans ((ho4 k (by omega)).trans (ho3 k (by omega))))))))))))), (((show brBlk E ad4 w5 (i + 27) from hok5.2).ad (fun k (hk : k < (i + 27) + 26) => ((hE8 k (by omega)).trans ((hE7 k (by omega)).trans ((hE6 k (by omega)).trans (hE5 k (by omega))))))).w (fun k (h1 : (i + 27) ≤ k) (h2 : k < (i + 27) + 26) => ((ho12 k (by omega)).trans ((hok11.1 k (by omega)).trans ((ho10 k (by omega)).trans ((ho9 k (by omega)).trans ((hok8.1 k (by omega)).trans ((ho7 k (by omega)).trans (ho6 k (by omega)))))))))), (((show HistOk E ad6 w8 (i + 53) from hok8.2).ad (fun k (hk : k < (i + 53) + 106) => ((hE8 k (by omega)).trans (hE7 k (by omega))))).w (fun k (h1 : (i + 53) ≤ k) (h2 : k < (i + 53) + 106) => ((ho12 k (by omega)).trans ((hok11.1 k (by omega)).trans ((ho10 k (by omega)).trans (ho9 k (by omega))))))), ((hok11.2).w (fun k (h1 : (i + 159) ≤ k) (h2 : k < (i + 159) + 2) => (ho12 k (by omega))))⟩⟩
