abbrev EA (E : Ev) (ad : Nat → Nat) : Ev := (E.1, E.2.1, E.2.2.1, ad)
def z0 : Nat → Int32 := fun _ => 0
def zL : Nat → Int64 := fun _ => 0
def offB (kd : Nat) : Nat := if kd = 0 then 21 else if kd = 1 then 1 else if kd = 3 then 3 else if kd = 5 then 5 else if kd = 6 then 4 else if kd = 7 then 1 else 0
theorem cl_ad {E : Ev} {ad1 ad2 : Nat → Nat} {kd k : Nat} {a : Nat → Int32} {b : Nat → Int64} (h : ∀ o, 1 ≤ o → o ≤ offB kd → ad2 (k + o) = ad1 (k + o)) (h2 : kd ≠ 2) (h8 : kd ≠ 8) (h9 : kd ≠ 9) (h13 : kd ≠ 13) : cl (EA E ad1) kd k a b = cl (EA E ad2) kd k a b := by
  unfold offB at h
  match kd with
  | 0 => simp only [cl, EA]; rw [h 1 (by decide) (by decide), h 10 (by decide) (by decide), h 19 (by decide) (by decide), h 21 (by decide) (by decide)]
  | 1 => simp only [cl, EA]; rw [h 1 (by decide) (by decide)]
  | 2 => exact absurd rfl h2
  | 3 => simp only [cl, EA]; rw [h 1 (by decide) (by decide), h 2 (by decide) (by decide), h 3 (by decide) (by decide)]
  | 4 => rfl
  | 5 => simp only [cl, EA]; rw [h 1 (by decide) (by decide), h 2 (by decide) (by decide), h 3 (by decide) (by decide), h 5 (by decide) (by decide)]
  | 6 => simp only [cl, EA]; rw [h 1 (by decide) (by decide), h 2 (by decide) (by decide), h 3 (by decide) (by decide), h 4 (by decide) (by decide)]
  | 7 => simp only [cl, EA]; rw [h 1 (by decide) (by decide)]
  | 8 => exact absurd rfl h8
  | 9 => exact absurd rfl h9
  | 10 => rfl
  | 11 => rfl
  | 12 => rfl
  | 13 => exact absurd rfl h13
  | n + 14 => rfl
/-- some cells one behind the other: what they hold -/
def BlkOk (E : Ev) (ad : Nat → Nat) (w : Nat → va_E) (X : Nat) (ks : List Nat) (row : Nat → Nat → Int32) : Prop := ∀ j, j < ks.length → w (X + j) = cl (EA E ad) (ks.getD j 99) (X + j) (row j) zL
def Closed (ks : List Nat) : Prop := ∀ j, j < ks.length → (ks.getD j 99 ≠ 2 ∧ ks.getD j 99 ≠ 8 ∧ ks.getD j 99 ≠ 9 ∧ ks.getD j 99 ≠ 13) ∧ j + offB (ks.getD j 99) < ks.length
def closedB (ks : List Nat) : Bool := (List.range ks.length).all (fun j => (ks.getD j 99 != 2 && ks.getD j 99 != 8 && ks.getD j 99 != 9 && ks.getD j 99 != 13) && Nat.blt (j + offB (ks.getD j 99)) ks.length)
theorem closed_of {ks : List Nat} (h : closedB ks = true) : Closed ks := by
  intro j hj
  have h2 := List.all_eq_true.mp h j (List.mem_range.mpr hj)
  simp only [Bool.and_eq_true, bne_iff_ne, ne_eq] at h2
  obtain ⟨⟨⟨⟨a, b⟩, c⟩, d⟩, e⟩ := h2
  exact ⟨⟨a, b, c, d⟩, Nat.le_of_ble_eq_true e⟩
theorem BlkOk.ad {E : Ev} {ad1 ad2 : Nat → Nat} {w : Nat → va_E} {X : Nat} {ks : List Nat} {row : Nat → Nat → Int32} (h : BlkOk E ad1 w X ks row) (hc : Closed ks) (he : ∀ k, k < X + ks.length → ad2 k = ad1 k) : BlkOk E ad2 w X ks row := by
  intro j hj
  obtain ⟨⟨c1, c2, c3, c4⟩, c5⟩ := hc j hj
  rw [h j hj]
  exact cl_ad (fun o h1 h2 => he _ (by omega)) c1 c2 c3 c4
theorem BlkOk.w {E : Ev} {ad : Nat → Nat} {w w' : Nat → va_E} {X : Nat} {ks : List Nat} {row : Nat → Nat → Int32} (h : BlkOk E ad w X ks row) (hw : ∀ k, X ≤ k → k < X + ks.length → w' k = w k) : BlkOk E ad w' X ks row := fun j hj => (hw _ (by omega) (by omega)).trans (h j hj)
def rApp (n : Nat) (r1 r2 : Nat → Nat → Int32) : Nat → Nat → Int32 := fun j => if j < n then r1 j else r2 (j - n)
theorem BlkOk.app {E : Ev} {ad : Nat → Nat} {w : Nat → va_E} {X : Nat} {k1 k2 : List Nat} {r1 r2 : Nat → Nat → Int32} (h1 : BlkOk E ad w X k1 r1) (h2 : BlkOk E ad w (X + k1.length) k2 r2) : BlkOk E ad w X (k1 ++ k2) (rApp k1.length r1 r2) := by
  intro j hj
  rw [List.length_append] at hj
  unfold rApp
  by_cases q : j < k1.length
  · rw [if_pos q, List.getD_eq_getElem?_getD, List.getElem?_append_left q, ← List.getD_eq_getElem?_getD]
    exact h1 j q
  · rw [if_neg q, List.getD_eq_getElem?_getD, List.getElem?_append_right (by omega), ← List.getD_eq_getElem?_getD]
    have := h2 (j - k1.length) (by omega)
    rw [show X + k1.length + (j - k1.length) = X + j by omega] at this
    exact this
theorem BlkOk.one {E : Ev} {ad : Nat → Nat} {w : Nat → va_E} {X kd : Nat} {r : Nat → Int32} (h : w X = cl (EA E ad) kd X r zL) : BlkOk E ad w X [kd] (fun _ => r) := by
  intro j hj
  have : j = 0 := by simp at hj; exact hj
  subst this
  exact h
def sv0 : Nat → Int32 := va_cpy (e_tab 2) z0 0 0 6
def dv0 : Nat → Int32 := va_cpy (e_tab 2) z0 6 0 4
def ld0 : Nat → Int32 := fun f => if f = 9 then 2 else 0
set_option maxHeartbeats 4000000 in
set_option maxRecDepth 100000 in
theorem c_X4_init (l : Launch) (E : Ev) (ad : Nat → Nat) (i h0 : Nat) (w : Nat → va_E) (fah0 : ad i = h0) (fe0 : w i = .inr (4, [.int 0, .int 0, .int 0, .int 0, .int 0, .int 0, .int 0])) : CN l yX4_init wsX4_init ({ frames := 1, cells := 0, slots := 0, locals := 20 }) E [.ref h0] ad (i + 1) w (i + 1) (fun ad' w' => (∀ k, k < i → w' k = w k) ∧ BlkOk E ad' w' i [4] (fun _ => z0)) 0 0 := by
  refine CN.of (cc := cX4_init) (maxL := 1) (by decide) rfl rfl (Nat.le_of_ble_eq_true rfl) ?_
  intro pg en sg mg below meth cg ls S hr hlk hnm hX G hl
  have S : CallFix pg mg cg cX4_init 1 sg _ wsX4_init RX4 := S
  have hl : lv_has ls 1 [(0, .ref h0)] := hl
  refine lv_aload_n S.1 S.2.1 dX4_init_0 rfl (lv_at hl 0 rfl) ?_
  refine W.objInit S.1 S.2.1 S.2.2.2.1 (S.2.2.2.2 _ (List.mem_of_getElem? (i := 1) rfl)) (S.2.2.2.2 _ (List.mem_of_getElem? (i := 2) rfl)) (S.2.2.2.2 _ (List.mem_of_getElem? (i := 3) rfl)) rfl (hl.1.trans S.2.2.1.symm) rfl dX4_init_1 (Nat.le_of_ble_eq_true rfl) (Nat.le_of_ble_eq_true rfl) ?_
  refine W.eq (g2 := F0 mg 4 ls []) rfl ?_
  refine W.widen (k := 0) (n := 0) (Nat.le_of_ble_eq_true rfl) (Nat.le_of_ble_eq_true rfl) ?_
  exact c_vret S G hr hlk dX4_init_4 (fun k hk => rfl) ⟨fun k hk => rfl, (BlkOk.one (kd := 4) (r := z0) (Eq.trans fe0 (by rfl)))⟩
set_option maxHeartbeats 4000000 in
set_option maxRecDepth 100000 in
theorem c_X1_init6 (l : Launch) (E : Ev) (ad : Nat → Nat) (i h0 : Nat) (w : Nat → va_E) (fah0 : ad i = h0) (fe0 : w i = .inr (1, [.int 0, .null])) : CN l yX1_init wsX1_init ({ frames := 1, cells := 1, slots := 6, locals := 20 }) E [.ref h0, .int (0 : Int32), .int (6 : Int32)] ad (i + 1) w (i + 2) (fun ad' w' => (∀ k, k < i → w' k = w k) ∧ BlkOk E ad' w' i ([1] ++ [20]) (rApp 1 (fun _ => z0) (fun _ => sv0))) 1 6 := by
  refine CN.of (cc := cX1_init) (maxL := 3) (by decide) rfl rfl (Nat.le_of_ble_eq_true rfl) ?_
  intro pg en sg mg below meth cg ls S hr hlk hnm hX G hl
  have S : CallFix pg mg cg cX1_init 3 sg _ wsX1_init RX1 := S
  have hl : lv_has ls 3 [(0, .ref h0), (1, .int (0 : Int32)), (2, .int (6 : Int32))] := hl
  refine lv_aload_n S.1 S.2.1 dX1_init_0 rfl (lv_at hl 0 rfl) ?_
  refine W.objInit S.1 S.2.1 S.2.2.2.1 (S.2.2.2.2 _ (List.mem_of_getElem? (i := 1) rfl)) (S.2.2.2.2 _ (List.mem_of_getElem? (i := 2) rfl)) (S.2.2.2.2 _ (List.mem_of_getElem? (i := 3) rfl)) rfl (hl.1.trans S.2.2.1.symm) rfl dX1_init_1 (Nat.le_of_ble_eq_true rfl) (Nat.le_of_ble_eq_true rfl) ?_
  refine W.eq (g2 := F0 mg 4 ls []) rfl ?_
  refine lv_aload_n S.1 S.2.1 dX1_init_4 rfl (lv_at hl 0 rfl) ?_
  refine lv_iload_n S.1 S.2.1 dX1_init_5 rfl (lv_at hl 1 rfl) ?_
  refine c_putF (i := i) (ty := tyX1 0) (ty0 := tyX1) S hX G (C := RX1) (T := TX1) (N := 2) 0 fah0 (by omega) fe0 rfl (fun _ h => (List.mem_cons_of_mem _ (List.mem_append_right _ h))) tyX1_ok nmX1 (by decide) (List.mem_of_getElem? (i := 4) rfl) (fun _ h => h) rfl hnm rfl (tyX1_ok 0 (by decide)) rfl rfl (Nat.le_of_ble_eq_true rfl) dX1_init_6 (fun H locs G => ?_)
  obtain ⟨w1, hw1⟩ : ∃ z, z = upw w i (.inr (1, [.int (0 : Int32), .null])) := ⟨_, rfl⟩
  have G : CG E ad (i + 1) w1 sg H locs := by rw [hw1]; exact G
  have ho1 : ∀ k, k ≠ i → w1 k = w k := fun k hk => by rw [hw1]; exact upw_ne hk
  have fe0 : w1 i = .inr (1, [.int (0 : Int32), .null]) := by rw [hw1]; exact upw_eq
  refine lv_aload_n S.1 S.2.1 dX1_init_9 rfl (lv_at hl 0 rfl) ?_
  refine lv_iload_n S.1 S.2.1 dX1_init_10 rfl (lv_at hl 2 rfl) ?_
  refine c_newa (atype := .int) (ty := .int) S hX G 0 (a0 := (6, .inl z0)) (N := 6) (List.mem_of_getElem? (i := 5) rfl) rfl rfl (fun _ => rfl) (by decide) (by decide) (by decide) (Nat.le_of_ble_eq_true rfl) (Nat.le_of_ble_eq_true rfl) dX1_init_11 (fun q1 ad1 H faq1 hE1 G => ?_)
  have fah0 : ad1 i = h0 := Eq.trans (hE1 _ (by omega)) fah0
  obtain ⟨w2, hw2⟩ : ∃ z, z = upw w1 (i + 1) (.inl (E.2.1 0, 6, .inl z0)) := ⟨_, rfl⟩
  have G : CG E ad1 (i + 2) w2 sg H locs := by rw [hw2]; exact G
  have ho2 : ∀ k, k ≠ (i + 1) → w2 k = w1 k := fun k hk => by rw [hw2]; exact upw_ne hk
  have fe0 : w2 i = .inr (1, [.int (0 : Int32), .null]) := Eq.trans (ho2 _ (by omega)) fe0
  have fe1 : w2 (i + 1) = .inl (E.2.1 0, 6, .inl z0) := by rw [hw2]; exact upw_eq
  refine c_putF (i := i) (ty := tyX1 1) (ty0 := tyX1) S hX G (C := RX1) (T := TX1) (N := 2) 1 fah0 (by omega) fe0 rfl (fun _ h => (List.mem_cons_of_mem _ (List.mem_append_right _ h))) tyX1_ok nmX1 (by decide) (List.mem_of_getElem? (i := 6) rfl) (fun _ h => h) rfl hnm rfl (tyX1_ok 1 (by decide)) rfl rfl (Nat.le_of_ble_eq_true rfl) dX1_init_13 (fun H locs G => ?_)
  obtain ⟨w3, hw3⟩ : ∃ z, z = upw w2 i (.inr (1, [.int (0 : Int32), .ref q1])) := ⟨_, rfl⟩
  have G : CG E ad1 (i + 2) w3 sg H locs := by rw [hw3]; exact G
  have ho3 : ∀ k, k ≠ i → w3 k = w2 k := fun k hk => by rw [hw3]; exact upw_ne hk
  have fe1 : w3 (i + 1) = .inl (E.2.1 0, 6, .inl z0) := Eq.trans (ho3 _ (by omega)) fe1
  have fe0 : w3 i = .inr (1, [.int (0 : Int32), .ref q1]) := by rw [hw3]; exact upw_eq
  obtain ⟨tb, hz, ht⟩ := hX.1.2.1 2 (by decide)
  refine va_getsN (host := "BridgeLegs") S.1 S.2.1 hz G.2 S.2.2.2.1 (va_Nw.use rfl (hX.1.2.2.1.1 _ (List.mem_of_getElem? (i := 11) rfl))) (fun _ h => h) dX1_init_16 ?_
  refine lv_iload_n S.1 S.2.1 dX1_init_19 rfl (lv_at hl 1 rfl) ?_
  refine lv_aload_n S.1 S.2.1 dX1_init_20 rfl (lv_at hl 0 rfl) ?_
  refine c_get (i := i) S hX G (C := RX1) (T := TX1) (N := 2) 1 fah0 (by omega) fe0 rfl rfl (fun _ h => (List.mem_cons_of_mem _ (List.mem_append_right _ h))) (by decide) (List.mem_of_getElem? (i := 6) rfl) (fun _ h => h) dX1_init_21 ?_
  refine lv_iconst (v := (0 : Int32)) S.1 S.2.1 dX1_init_24 (by decide) ?_
  refine lv_iload_n S.1 S.2.1 dX1_init_25 rfl (lv_at hl 2 rfl) ?_
  refine c_copyT (i := (i + 1)) (N := 6) (f := e_tab 2) (g := z0) S hX G ht faq1 (by omega) fe1 (by decide) (by decide) (by decide) (by decide) (by decide) (List.mem_of_getElem? (i := 7) rfl) (List.mem_of_getElem? (i := 8) rfl) (List.mem_of_getElem? (i := 9) rfl) (List.mem_of_getElem? (i := 10) rfl) hl.1 (Nat.le_of_ble_eq_true rfl) (Nat.le_of_ble_eq_true rfl) dX1_init_26 (fun H locs G => ?_)
  obtain ⟨w4, hw4⟩ : ∃ z, z = upw w3 (i + 1) (.inl (E.2.1 0, 6, .inl (va_cpy (e_tab 2) z0 0 0 6))) := ⟨_, rfl⟩
  have G : CG E ad1 (i + 2) w4 sg H locs := by rw [hw4]; exact G
  have ho4 : ∀ k, k ≠ (i + 1) → w4 k = w3 k := fun k hk => by rw [hw4]; exact upw_ne hk
  have fe0 : w4 i = .inr (1, [.int (0 : Int32), .ref q1]) := Eq.trans (ho4 _ (by omega)) fe0
  have fe1 : w4 (i + 1) = .inl (E.2.1 0, 6, .inl (va_cpy (e_tab 2) z0 0 0 6)) := by rw [hw4]; exact upw_eq
  refine W.widen (k := 1) (n := 6) (Nat.le_of_ble_eq_true rfl) (Nat.le_of_ble_eq_true rfl) ?_
  exact c_vret S G hr hlk dX1_init_29 (fun k hk => (hE1 k (by omega))) ⟨fun k hk => ((ho4 k (by omega)).trans ((ho3 k (by omega)).trans ((ho2 k (by omega)).trans (ho1 k (by omega))))), ((BlkOk.one (kd := 1) (r := z0) (Eq.trans fe0 (by rw [show q1 = ad1 (i + 1) from faq1.symm]; rfl))).app (BlkOk.one (kd := 20) (r := sv0) (Eq.trans fe1 (by rfl))))⟩
set_option maxHeartbeats 4000000 in
set_option maxRecDepth 100000 in
theorem c_X1_init4 (l : Launch) (E : Ev) (ad : Nat → Nat) (i h0 : Nat) (w : Nat → va_E) (fah0 : ad i = h0) (fe0 : w i = .inr (1, [.int 0, .null])) : CN l yX1_init wsX1_init ({ frames := 1, cells := 1, slots := 4, locals := 20 }) E [.ref h0, .int (6 : Int32), .int (4 : Int32)] ad (i + 1) w (i + 2) (fun ad' w' => (∀ k, k < i → w' k = w k) ∧ BlkOk E ad' w' i ([1] ++ [18]) (rApp 1 (fun _ _ => 6) (fun _ => dv0))) 1 4 := by
  refine CN.of (cc := cX1_init) (maxL := 3) (by decide) rfl rfl (Nat.le_of_ble_eq_true rfl) ?_
  intro pg en sg mg below meth cg ls S hr hlk hnm hX G hl
  have S : CallFix pg mg cg cX1_init 3 sg _ wsX1_init RX1 := S
  have hl : lv_has ls 3 [(0, .ref h0), (1, .int (6 : Int32)), (2, .int (4 : Int32))] := hl
  refine lv_aload_n S.1 S.2.1 dX1_init_0 rfl (lv_at hl 0 rfl) ?_
  refine W.objInit S.1 S.2.1 S.2.2.2.1 (S.2.2.2.2 _ (List.mem_of_getElem? (i := 1) rfl)) (S.2.2.2.2 _ (List.mem_of_getElem? (i := 2) rfl)) (S.2.2.2.2 _ (List.mem_of_getElem? (i := 3) rfl)) rfl (hl.1.trans S.2.2.1.symm) rfl dX1_init_1 (Nat.le_of_ble_eq_true rfl) (Nat.le_of_ble_eq_true rfl) ?_
  refine W.eq (g2 := F0 mg 4 ls []) rfl ?_
  refine lv_aload_n S.1 S.2.1 dX1_init_4 rfl (lv_at hl 0 rfl) ?_
  refine lv_iload_n S.1 S.2.1 dX1_init_5 rfl (lv_at hl 1 rfl) ?_
  refine c_putF (i := i) (ty := tyX1 0) (ty0 := tyX1) S hX G (C := RX1) (T := TX1) (N := 2) 0 fah0 (by omega) fe0 rfl (fun _ h => (List.mem_cons_of_mem _ (List.mem_append_right _ h))) tyX1_ok nmX1 (by decide) (List.mem_of_getElem? (i := 4) rfl) (fun _ h => h) rfl hnm rfl (tyX1_ok 0 (by decide)) rfl rfl (Nat.le_of_ble_eq_true rfl) dX1_init_6 (fun H locs G => ?_)
  obtain ⟨w1, hw1⟩ : ∃ z, z = upw w i (.inr (1, [.int (6 : Int32), .null])) := ⟨_, rfl⟩
  have G : CG E ad (i + 1) w1 sg H locs := by rw [hw1]; exact G
  have ho1 : ∀ k, k ≠ i → w1 k = w k := fun k hk => by rw [hw1]; exact upw_ne hk
  have fe0 : w1 i = .inr (1, [.int (6 : Int32), .null]) := by rw [hw1]; exact upw_eq
  refine lv_aload_n S.1 S.2.1 dX1_init_9 rfl (lv_at hl 0 rfl) ?_
  refine lv_iload_n S.1 S.2.1 dX1_init_10 rfl (lv_at hl 2 rfl) ?_
  refine c_newa (atype := .int) (ty := .int) S hX G 0 (a0 := (4, .inl z0)) (N := 4) (List.mem_of_getElem? (i := 5) rfl) rfl rfl (fun _ => rfl) (by decide) (by decide) (by decide) (Nat.le_of_ble_eq_true rfl) (Nat.le_of_ble_eq_true rfl) dX1_init_11 (fun q1 ad1 H faq1 hE1 G => ?_)
  have fah0 : ad1 i = h0 := Eq.trans (hE1 _ (by omega)) fah0
  obtain ⟨w2, hw2⟩ : ∃ z, z = upw w1 (i + 1) (.inl (E.2.1 0, 4, .inl z0)) := ⟨_, rfl⟩
  have G : CG E ad1 (i + 2) w2 sg H locs := by rw [hw2]; exact G
  have ho2 : ∀ k, k ≠ (i + 1) → w2 k = w1 k := fun k hk => by rw [hw2]; exact upw_ne hk
  have fe0 : w2 i = .inr (1, [.int (6 : Int32), .null]) := Eq.trans (ho2 _ (by omega)) fe0
  have fe1 : w2 (i + 1) = .inl (E.2.1 0, 4, .inl z0) := by rw [hw2]; exact upw_eq
  refine c_putF (i := i) (ty := tyX1 1) (ty0 := tyX1) S hX G (C := RX1) (T := TX1) (N := 2) 1 fah0 (by omega) fe0 rfl (fun _ h => (List.mem_cons_of_mem _ (List.mem_append_right _ h))) tyX1_ok nmX1 (by decide) (List.mem_of_getElem? (i := 6) rfl) (fun _ h => h) rfl hnm rfl (tyX1_ok 1 (by decide)) rfl rfl (Nat.le_of_ble_eq_true rfl) dX1_init_13 (fun H locs G => ?_)
  obtain ⟨w3, hw3⟩ : ∃ z, z = upw w2 i (.inr (1, [.int (6 : Int32), .ref q1])) := ⟨_, rfl⟩
  have G : CG E ad1 (i + 2) w3 sg H locs := by rw [hw3]; exact G
  have ho3 : ∀ k, k ≠ i → w3 k = w2 k := fun k hk => by rw [hw3]; exact upw_ne hk
  have fe1 : w3 (i + 1) = .inl (E.2.1 0, 4, .inl z0) := Eq.trans (ho3 _ (by omega)) fe1
  have fe0 : w3 i = .inr (1, [.int (6 : Int32), .ref q1]) := by rw [hw3]; exact upw_eq
  obtain ⟨tb, hz, ht⟩ := hX.1.2.1 2 (by decide)
  refine va_getsN (host := "BridgeLegs") S.1 S.2.1 hz G.2 S.2.2.2.1 (va_Nw.use rfl (hX.1.2.2.1.1 _ (List.mem_of_getElem? (i := 11) rfl))) (fun _ h => h) dX1_init_16 ?_
  refine lv_iload_n S.1 S.2.1 dX1_init_19 rfl (lv_at hl 1 rfl) ?_
  refine lv_aload_n S.1 S.2.1 dX1_init_20 rfl (lv_at hl 0 rfl) ?_
  refine c_get (i := i) S hX G (C := RX1) (T := TX1) (N := 2) 1 fah0 (by omega) fe0 rfl rfl (fun _ h => (List.mem_cons_of_mem _ (List.mem_append_right _ h))) (by decide) (List.mem_of_getElem? (i := 6) rfl) (fun _ h => h) dX1_init_21 ?_
  refine lv_iconst (v := (0 : Int32)) S.1 S.2.1 dX1_init_24 (by decide) ?_
  refine lv_iload_n S.1 S.2.1 dX1_init_25 rfl (lv_at hl 2 rfl) ?_
  refine c_copyT (i := (i + 1)) (N := 4) (f := e_tab 2) (g := z0) S hX G ht faq1 (by omega) fe1 (by decide) (by decide) (by decide) (by decide) (by decide) (List.mem_of_getElem? (i := 7) rfl) (List.mem_of_getElem? (i := 8) rfl) (List.mem_of_getElem? (i := 9) rfl) (List.mem_of_getElem? (i := 10) rfl) hl.1 (Nat.le_of_ble_eq_true rfl) (Nat.le_of_ble_eq_true rfl) dX1_init_26 (fun H locs G => ?_)
  obtain ⟨w4, hw4⟩ : ∃ z, z = upw w3 (i + 1) (.inl (E.2.1 0, 4, .inl (va_cpy (e_tab 2) z0 6 0 4))) := ⟨_, rfl⟩
  have G : CG E ad1 (i + 2) w4 sg H locs := by rw [hw4]; exact G
  have ho4 : ∀ k, k ≠ (i + 1) → w4 k = w3 k := fun k hk => by rw [hw4]; exact upw_ne hk
  have fe0 : w4 i = .inr (1, [.int (6 : Int32), .ref q1]) := Eq.trans (ho4 _ (by omega)) fe0
  have fe1 : w4 (i + 1) = .inl (E.2.1 0, 4, .inl (va_cpy (e_tab 2) z0 6 0 4)) := by rw [hw4]; exact upw_eq
  refine W.widen (k := 1) (n := 4) (Nat.le_of_ble_eq_true rfl) (Nat.le_of_ble_eq_true rfl) ?_
  exact c_vret S G hr hlk dX1_init_29 (fun k hk => (hE1 k (by omega))) ⟨fun k hk => ((ho4 k (by omega)).trans ((ho3 k (by omega)).trans ((ho2 k (by omega)).trans (ho1 k (by omega))))), ((BlkOk.one (kd := 1) (r := (fun _ => 6)) (Eq.trans fe0 (by rw [show q1 = ad1 (i + 1) from faq1.symm]; rfl))).app (BlkOk.one (kd := 18) (r := dv0) (Eq.trans fe1 (by rfl))))⟩
set_option maxHeartbeats 4000000 in
set_option maxRecDepth 100000 in
theorem c_X3_init (l : Launch) (E : Ev) (ad : Nat → Nat) (i h0 : Nat) (w : Nat → va_E) (fah0 : ad i = h0) (fe0 : w i = .inr (3, [.null, .null, .null, .int 0])) : CN l yX3_init wsX3_init ({ frames := 1, cells := 3, slots := 9, locals := 20 }) E [.ref h0] ad (i + 1) w (i + 4) (fun ad' w' => (∀ k, k < i → w' k = w k) ∧ BlkOk E ad' w' i ((([3] ++ [10]) ++ [17]) ++ [17]) (rApp 3 (rApp 2 (rApp 1 (fun _ => z0) (fun _ => z0)) (fun _ => z0)) (fun _ => z0))) 3 9 := by
  refine CN.of (cc := cX3_init) (maxL := 1) (by decide) rfl rfl (Nat.le_of_ble_eq_true rfl) ?_
  intro pg en sg mg below meth cg ls S hr hlk hnm hX G hl
  have S : CallFix pg mg cg cX3_init 1 sg _ wsX3_init RX3 := S
  have hl : lv_has ls 1 [(0, .ref h0)] := hl
  refine lv_aload_n S.1 S.2.1 dX3_init_0 rfl (lv_at hl 0 rfl) ?_
  refine W.objInit S.1 S.2.1 S.2.2.2.1 (S.2.2.2.2 _ (List.mem_of_getElem? (i := 1) rfl)) (S.2.2.2.2 _ (List.mem_of_getElem? (i := 2) rfl)) (S.2.2.2.2 _ (List.mem_of_getElem? (i := 3) rfl)) rfl (hl.1.trans S.2.2.1.symm) rfl dX3_init_1 (Nat.le_of_ble_eq_true rfl) (Nat.le_of_ble_eq_true rfl) ?_
  refine W.eq (g2 := F0 mg 4 ls []) rfl ?_
  refine lv_aload_n S.1 S.2.1 dX3_init_4 rfl (lv_at hl 0 rfl) ?_
  refine lv_iconst (v := (3 : Int32)) S.1 S.2.1 dX3_init_5 (by decide) ?_
  refine c_newa (atype := .boolean) (ty := .boolean) S hX G 1 (a0 := (3, .inl z0)) (N := 3) (List.mem_of_getElem? (i := 4) rfl) rfl rfl (fun _ => rfl) (by decide) (by decide) (by decide) (Nat.le_of_ble_eq_true rfl) (Nat.le_of_ble_eq_true rfl) dX3_init_6 (fun q1 ad1 H faq1 hE1 G => ?_)
  have fah0 : ad1 i = h0 := Eq.trans (hE1 _ (by omega)) fah0
  obtain ⟨w1, hw1⟩ : ∃ z, z = upw w (i + 1) (.inl (E.2.1 1, 3, .inl z0)) := ⟨_, rfl⟩
  have G : CG E ad1 (i + 2) w1 sg H [] := by rw [hw1]; exact G
  have ho1 : ∀ k, k ≠ (i + 1) → w1 k = w k := fun k hk => by rw [hw1]; exact upw_ne hk
  have fe0 : w1 i = .inr (3, [.null, .null, .null, .int 0]) := Eq.trans (ho1 _ (by omega)) fe0
  have fe1 : w1 (i + 1) = .inl (E.2.1 1, 3, .inl z0) := by rw [hw1]; exact upw_eq
  refine c_putF (i := i) (ty := tyX3 0) (ty0 := tyX3) S hX G (C := RX3) (T := TX3) (N := 4) 0 fah0 (by omega) fe0 rfl (fun _ h => (List.mem_cons_of_mem _ (List.mem_append_right _ h))) tyX3_ok nmX3 (by decide) (List.mem_of_getElem? (i := 5) rfl) (fun _ h => h) rfl hnm rfl (tyX3_ok 0 (by decide)) rfl rfl (Nat.le_of_ble_eq_true rfl) dX3_init_8 (fun H locs G => ?_)
  obtain ⟨w2, hw2⟩ : ∃ z, z = upw w1 i (.inr (3, [.ref q1, .null, .null, .int 0])) := ⟨_, rfl⟩
  have G : CG E ad1 (i + 2) w2 sg H locs := by rw [hw2]; exact G
  have ho2 : ∀ k, k ≠ i → w2 k = w1 k := fun k hk => by rw [hw2]; exact upw_ne hk
  have fe1 : w2 (i + 1) = .inl (E.2.1 1, 3, .inl z0) := Eq.trans (ho2 _ (by omega)) fe1
  have fe0 : w2 i = .inr (3, [.ref q1, .null, .null, .int 0]) := by rw [hw2]; exact upw_eq
  refine lv_aload_n S.1 S.2.1 dX3_init_11 rfl (lv_at hl 0 rfl) ?_
  refine lv_iconst (v := (3 : Int32)) S.1 S.2.1 dX3_init_12 (by decide) ?_
  refine c_newa (atype := .int) (ty := .int) S hX G 0 (a0 := (3, .inl z0)) (N := 3) (List.mem_of_getElem? (i := 6) rfl) rfl rfl (fun _ => rfl) (by decide) (by decide) (by decide) (Nat.le_of_ble_eq_true rfl) (Nat.le_of_ble_eq_true rfl) dX3_init_13 (fun q2 ad2 H faq2 hE2 G => ?_)
  have fah0 : ad2 i = h0 := Eq.trans (hE2 _ (by omega)) fah0
  have faq1 : ad2 (i + 1) = q1 := Eq.trans (hE2 _ (by omega)) faq1
  obtain ⟨w3, hw3⟩ : ∃ z, z = upw w2 (i + 2) (.inl (E.2.1 0, 3, .inl z0)) := ⟨_, rfl⟩
  have G : CG E ad2 (i + 3) w3 sg H locs := by rw [hw3]; exact G
  have ho3 : ∀ k, k ≠ (i + 2) → w3 k = w2 k := fun k hk => by rw [hw3]; exact upw_ne hk
  have fe0 : w3 i = .inr (3, [.ref q1, .null, .null, .int 0]) := Eq.trans (ho3 _ (by omega)) fe0
  have fe1 : w3 (i + 1) = .inl (E.2.1 1, 3, .inl z0) := Eq.trans (ho3 _ (by omega)) fe1
  have fe2 : w3 (i + 2) = .inl (E.2.1 0, 3, .inl z0) := by rw [hw3]; exact upw_eq
  refine c_putF (i := i) (ty := tyX3 1) (ty0 := tyX3) S hX G (C := RX3) (T := TX3) (N := 4) 1 fah0 (by omega) fe0 rfl (fun _ h => (List.mem_cons_of_mem _ (List.mem_append_right _ h))) tyX3_ok nmX3 (by decide) (List.mem_of_getElem? (i := 7) rfl) (fun _ h => h) rfl hnm rfl (tyX3_ok 1 (by decide)) rfl rfl (Nat.le_of_ble_eq_true rfl) dX3_init_15 (fun H locs G => ?_)
  obtain ⟨w4, hw4⟩ : ∃ z, z = upw w3 i (.inr (3, [.ref q1, .ref q2, .null, .int 0])) := ⟨_, rfl⟩
  have G : CG E ad2 (i + 3) w4 sg H locs := by rw [hw4]; exact G
  have ho4 : ∀ k, k ≠ i → w4 k = w3 k := fun k hk => by rw [hw4]; exact upw_ne hk
  have fe1 : w4 (i + 1) = .inl (E.2.1 1, 3, .inl z0) := Eq.trans (ho4 _ (by omega)) fe1
  have fe2 : w4 (i + 2) = .inl (E.2.1 0, 3, .inl z0) := Eq.trans (ho4 _ (by omega)) fe2
  have fe0 : w4 i = .inr (3, [.ref q1, .ref q2, .null, .int 0]) := by rw [hw4]; exact upw_eq
  refine lv_aload_n S.1 S.2.1 dX3_init_18 rfl (lv_at hl 0 rfl) ?_
  refine lv_iconst (v := (3 : Int32)) S.1 S.2.1 dX3_init_19 (by decide) ?_
  refine c_newa (atype := .int) (ty := .int) S hX G 0 (a0 := (3, .inl z0)) (N := 3) (List.mem_of_getElem? (i := 6) rfl) rfl rfl (fun _ => rfl) (by decide) (by decide) (by decide) (Nat.le_of_ble_eq_true rfl) (Nat.le_of_ble_eq_true rfl) dX3_init_20 (fun q3 ad3 H faq3 hE3 G => ?_)
  have fah0 : ad3 i = h0 := Eq.trans (hE3 _ (by omega)) fah0
  have faq1 : ad3 (i + 1) = q1 := Eq.trans (hE3 _ (by omega)) faq1
  have faq2 : ad3 (i + 2) = q2 := Eq.trans (hE3 _ (by omega)) faq2
  obtain ⟨w5, hw5⟩ : ∃ z, z = upw w4 (i + 3) (.inl (E.2.1 0, 3, .inl z0)) := ⟨_, rfl⟩
  have G : CG E ad3 (i + 4) w5 sg H locs := by rw [hw5]; exact G
  have ho5 : ∀ k, k ≠ (i + 3) → w5 k = w4 k := fun k hk => by rw [hw5]; exact upw_ne hk
  have fe0 : w5 i = .inr (3, [.ref q1, .ref q2, .null, .int 0]) := Eq.trans (ho5 _ (by omega)) fe0
  have fe1 : w5 (i + 1) = .inl (E.2.1 1, 3, .inl z0) := Eq.trans (ho5 _ (by omega)) fe1
  have fe2 : w5 (i + 2) = .inl (E.2.1 0, 3, .inl z0) := Eq.trans (ho5 _ (by omega)) fe2
  have fe3 : w5 (i + 3) = .inl (E.2.1 0, 3, .inl z0) := by rw [hw5]; exact upw_eq
  refine c_putF (i := i) (ty := tyX3 2) (ty0 := tyX3) S hX G (C := RX3) (T := TX3) (N := 4) 2 fah0 (by omega) fe0 rfl (fun _ h => (List.mem_cons_of_mem _ (List.mem_append_right _ h))) tyX3_ok nmX3 (by decide) (List.mem_of_getElem? (i := 8) rfl) (fun _ h => h) rfl hnm rfl (tyX3_ok 2 (by decide)) rfl rfl (Nat.le_of_ble_eq_true rfl) dX3_init_22 (fun H locs G => ?_)
  obtain ⟨w6, hw6⟩ : ∃ z, z = upw w5 i (.inr (3, [.ref q1, .ref q2, .ref q3, .int 0])) := ⟨_, rfl⟩
  have G : CG E ad3 (i + 4) w6 sg H locs := by rw [hw6]; exact G
  have ho6 : ∀ k, k ≠ i → w6 k = w5 k := fun k hk => by rw [hw6]; exact upw_ne hk
  have fe1 : w6 (i + 1) = .inl (E.2.1 1, 3, .inl z0) := Eq.trans (ho6 _ (by omega)) fe1
  have fe2 : w6 (i + 2) = .inl (E.2.1 0, 3, .inl z0) := Eq.trans (ho6 _ (by omega)) fe2
  have fe3 : w6 (i + 3) = .inl (E.2.1 0, 3, .inl z0) := Eq.trans (ho6 _ (by omega)) fe3
  have fe0 : w6 i = .inr (3, [.ref q1, .ref q2, .ref q3, .int 0]) := by rw [hw6]; exact upw_eq
  refine W.widen (k := 3) (n := 9) (Nat.le_of_ble_eq_true rfl) (Nat.le_of_ble_eq_true rfl) ?_
  exact c_vret S G hr hlk dX3_init_25 (fun k hk => ((hE3 k (by omega)).trans ((hE2 k (by omega)).trans (hE1 k (by omega))))) ⟨fun k hk => ((ho6 k (by omega)).trans ((ho5 k (by omega)).trans ((ho4 k (by omega)).trans ((ho3 k (by omega)).trans ((ho2 k (by omega)).trans (ho1 k (by omega))))))), ((((BlkOk.one (kd := 3) (r := z0) (Eq.trans fe0 (by rw [show q1 = ad3 (i + 1) from faq1.symm, show q2 = ad3 (i + 2) from faq2.symm, show q3 = ad3 (i + 3) from faq3.symm]; rfl))).app (BlkOk.one (kd := 10) (r := z0) (Eq.trans fe1 (by rfl)))).app (BlkOk.one (kd := 17) (r := z0) (Eq.trans fe2 (by rfl)))).app (BlkOk.one (kd := 17) (r := z0) (Eq.trans fe3 (by rfl))))⟩
set_option maxHeartbeats 4000000 in
set_option maxRecDepth 100000 in
theorem c_X6_init (l : Launch) (E : Ev) (ad : Nat → Nat) (i h0 : Nat) (w : Nat → va_E) (fah0 : ad i = h0) (fe0 : w i = .inr (6, [.null, .null, .null, .null])) : CN l yX6_init wsX6_init ({ frames := 1, cells := 4, slots := 128, locals := 20 }) E [.ref h0] ad (i + 1) w (i + 5) (fun ad' w' => (∀ k, k < i → w' k = w k) ∧ BlkOk E ad' w' i (((([6] ++ [46]) ++ [46]) ++ [46]) ++ [46]) (rApp 4 (rApp 3 (rApp 2 (rApp 1 (fun _ => z0) (fun _ => z0)) (fun _ => z0)) (fun _ => z0)) (fun _ => z0))) 4 128 := by
  refine CN.of (cc := cX6_init) (maxL := 1) (by decide) rfl rfl (Nat.le_of_ble_eq_true rfl) ?_
  intro pg en sg mg below meth cg ls S hr hlk hnm hX G hl
  have S : CallFix pg mg cg cX6_init 1 sg _ wsX6_init RX6 := S
  have hl : lv_has ls 1 [(0, .ref h0)] := hl
  refine lv_aload_n S.1 S.2.1 dX6_init_0 rfl (lv_at hl 0 rfl) ?_
  refine W.objInit S.1 S.2.1 S.2.2.2.1 (S.2.2.2.2 _ (List.mem_of_getElem? (i := 1) rfl)) (S.2.2.2.2 _ (List.mem_of_getElem? (i := 2) rfl)) (S.2.2.2.2 _ (List.mem_of_getElem? (i := 3) rfl)) rfl (hl.1.trans S.2.2.1.symm) rfl dX6_init_1 (Nat.le_of_ble_eq_true rfl) (Nat.le_of_ble_eq_true rfl) ?_
  refine W.eq (g2 := F0 mg 4 ls []) rfl ?_
  refine lv_aload_n S.1 S.2.1 dX6_init_4 rfl (lv_at hl 0 rfl) ?_
  refine lv_bipush (v := (32 : Int32)) S.1 S.2.1 dX6_init_5 (by decide) ?_
  refine c_newa (atype := .int) (ty := .int) S hX G 0 (a0 := (32, .inl z0)) (N := 32) (List.mem_of_getElem? (i := 4) rfl) rfl rfl (fun _ => rfl) (by decide) (by decide) (by decide) (Nat.le_of_ble_eq_true rfl) (Nat.le_of_ble_eq_true rfl) dX6_init_7 (fun q1 ad1 H faq1 hE1 G => ?_)
  have fah0 : ad1 i = h0 := Eq.trans (hE1 _ (by omega)) fah0
  obtain ⟨w1, hw1⟩ : ∃ z, z = upw w (i + 1) (.inl (E.2.1 0, 32, .inl z0)) := ⟨_, rfl⟩
  have G : CG E ad1 (i + 2) w1 sg H [] := by rw [hw1]; exact G
  have ho1 : ∀ k, k ≠ (i + 1) → w1 k = w k := fun k hk => by rw [hw1]; exact upw_ne hk
  have fe0 : w1 i = .inr (6, [.null, .null, .null, .null]) := Eq.trans (ho1 _ (by omega)) fe0
  have fe1 : w1 (i + 1) = .inl (E.2.1 0, 32, .inl z0) := by rw [hw1]; exact upw_eq
  refine c_putF (i := i) (ty := tyX6 0) (ty0 := tyX6) S hX G (C := RX6) (T := TX6) (N := 4) 0 fah0 (by omega) fe0 rfl (fun _ h => (List.mem_cons_of_mem _ (List.mem_append_right _ h))) tyX6_ok nmX6 (by decide) (List.mem_of_getElem? (i := 5) rfl) (fun _ h => h) rfl hnm rfl (tyX6_ok 0 (by decide)) rfl rfl (Nat.le_of_ble_eq_true rfl) dX6_init_9 (fun H locs G => ?_)
  obtain ⟨w2, hw2⟩ : ∃ z, z = upw w1 i (.inr (6, [.ref q1, .null, .null, .null])) := ⟨_, rfl⟩
  have G : CG E ad1 (i + 2) w2 sg H locs := by rw [hw2]; exact G
  have ho2 : ∀ k, k ≠ i → w2 k = w1 k := fun k hk => by rw [hw2]; exact upw_ne hk
  have fe1 : w2 (i + 1) = .inl (E.2.1 0, 32, .inl z0) := Eq.trans (ho2 _ (by omega)) fe1
  have fe0 : w2 i = .inr (6, [.ref q1, .null, .null, .null]) := by rw [hw2]; exact upw_eq
  refine lv_aload_n S.1 S.2.1 dX6_init_12 rfl (lv_at hl 0 rfl) ?_
  refine lv_bipush (v := (32 : Int32)) S.1 S.2.1 dX6_init_13 (by decide) ?_
  refine c_newa (atype := .int) (ty := .int) S hX G 0 (a0 := (32, .inl z0)) (N := 32) (List.mem_of_getElem? (i := 4) rfl) rfl rfl (fun _ => rfl) (by decide) (by decide) (by decide) (Nat.le_of_ble_eq_true rfl) (Nat.le_of_ble_eq_true rfl) dX6_init_15 (fun q2 ad2 H faq2 hE2 G => ?_)
  have fah0 : ad2 i = h0 := Eq.trans (hE2 _ (by omega)) fah0
  have faq1 : ad2 (i + 1) = q1 := Eq.trans (hE2 _ (by omega)) faq1
  obtain ⟨w3, hw3⟩ : ∃ z, z = upw w2 (i + 2) (.inl (E.2.1 0, 32, .inl z0)) := ⟨_, rfl⟩
  have G : CG E ad2 (i + 3) w3 sg H locs := by rw [hw3]; exact G
  have ho3 : ∀ k, k ≠ (i + 2) → w3 k = w2 k := fun k hk => by rw [hw3]; exact upw_ne hk
  have fe0 : w3 i = .inr (6, [.ref q1, .null, .null, .null]) := Eq.trans (ho3 _ (by omega)) fe0
  have fe1 : w3 (i + 1) = .inl (E.2.1 0, 32, .inl z0) := Eq.trans (ho3 _ (by omega)) fe1
  have fe2 : w3 (i + 2) = .inl (E.2.1 0, 32, .inl z0) := by rw [hw3]; exact upw_eq
  refine c_putF (i := i) (ty := tyX6 1) (ty0 := tyX6) S hX G (C := RX6) (T := TX6) (N := 4) 1 fah0 (by omega) fe0 rfl (fun _ h => (List.mem_cons_of_mem _ (List.mem_append_right _ h))) tyX6_ok nmX6 (by decide) (List.mem_of_getElem? (i := 6) rfl) (fun _ h => h) rfl hnm rfl (tyX6_ok 1 (by decide)) rfl rfl (Nat.le_of_ble_eq_true rfl) dX6_init_17 (fun H locs G => ?_)
  obtain ⟨w4, hw4⟩ : ∃ z, z = upw w3 i (.inr (6, [.ref q1, .ref q2, .null, .null])) := ⟨_, rfl⟩
  have G : CG E ad2 (i + 3) w4 sg H locs := by rw [hw4]; exact G
  have ho4 : ∀ k, k ≠ i → w4 k = w3 k := fun k hk => by rw [hw4]; exact upw_ne hk
  have fe1 : w4 (i + 1) = .inl (E.2.1 0, 32, .inl z0) := Eq.trans (ho4 _ (by omega)) fe1
  have fe2 : w4 (i + 2) = .inl (E.2.1 0, 32, .inl z0) := Eq.trans (ho4 _ (by omega)) fe2
  have fe0 : w4 i = .inr (6, [.ref q1, .ref q2, .null, .null]) := by rw [hw4]; exact upw_eq
  refine lv_aload_n S.1 S.2.1 dX6_init_20 rfl (lv_at hl 0 rfl) ?_
  refine lv_bipush (v := (32 : Int32)) S.1 S.2.1 dX6_init_21 (by decide) ?_
  refine c_newa (atype := .int) (ty := .int) S hX G 0 (a0 := (32, .inl z0)) (N := 32) (List.mem_of_getElem? (i := 4) rfl) rfl rfl (fun _ => rfl) (by decide) (by decide) (by decide) (Nat.le_of_ble_eq_true rfl) (Nat.le_of_ble_eq_true rfl) dX6_init_23 (fun q3 ad3 H faq3 hE3 G => ?_)
  have fah0 : ad3 i = h0 := Eq.trans (hE3 _ (by omega)) fah0
  have faq1 : ad3 (i + 1) = q1 := Eq.trans (hE3 _ (by omega)) faq1
  have faq2 : ad3 (i + 2) = q2 := Eq.trans (hE3 _ (by omega)) faq2
  obtain ⟨w5, hw5⟩ : ∃ z, z = upw w4 (i + 3) (.inl (E.2.1 0, 32, .inl z0)) := ⟨_, rfl⟩
  have G : CG E ad3 (i + 4) w5 sg H locs := by rw [hw5]; exact G
  have ho5 : ∀ k, k ≠ (i + 3) → w5 k = w4 k := fun k hk => by rw [hw5]; exact upw_ne hk
  have fe0 : w5 i = .inr (6, [.ref q1, .ref q2, .null, .null]) := Eq.trans (ho5 _ (by omega)) fe0
  have fe1 : w5 (i + 1) = .inl (E.2.1 0, 32, .inl z0) := Eq.trans (ho5 _ (by omega)) fe1
  have fe2 : w5 (i + 2) = .inl (E.2.1 0, 32, .inl z0) := Eq.trans (ho5 _ (by omega)) fe2
  have fe3 : w5 (i + 3) = .inl (E.2.1 0, 32, .inl z0) := by rw [hw5]; exact upw_eq
  refine c_putF (i := i) (ty := tyX6 2) (ty0 := tyX6) S hX G (C := RX6) (T := TX6) (N := 4) 2 fah0 (by omega) fe0 rfl (fun _ h => (List.mem_cons_of_mem _ (List.mem_append_right _ h))) tyX6_ok nmX6 (by decide) (List.mem_of_getElem? (i := 7) rfl) (fun _ h => h) rfl hnm rfl (tyX6_ok 2 (by decide)) rfl rfl (Nat.le_of_ble_eq_true rfl) dX6_init_25 (fun H locs G => ?_)
  obtain ⟨w6, hw6⟩ : ∃ z, z = upw w5 i (.inr (6, [.ref q1, .ref q2, .ref q3, .null])) := ⟨_, rfl⟩
  have G : CG E ad3 (i + 4) w6 sg H locs := by rw [hw6]; exact G
  have ho6 : ∀ k, k ≠ i → w6 k = w5 k := fun k hk => by rw [hw6]; exact upw_ne hk
  have fe1 : w6 (i + 1) = .inl (E.2.1 0, 32, .inl z0) := Eq.trans (ho6 _ (by omega)) fe1
  have fe2 : w6 (i + 2) = .inl (E.2.1 0, 32, .inl z0) := Eq.trans (ho6 _ (by omega)) fe2
  have fe3 : w6 (i + 3) = .inl (E.2.1 0, 32, .inl z0) := Eq.trans (ho6 _ (by omega)) fe3
  have fe0 : w6 i = .inr (6, [.ref q1, .ref q2, .ref q3, .null]) := by rw [hw6]; exact upw_eq
  refine lv_aload_n S.1 S.2.1 dX6_init_28 rfl (lv_at hl 0 rfl) ?_
  refine lv_bipush (v := (32 : Int32)) S.1 S.2.1 dX6_init_29 (by decide) ?_
  refine c_newa (atype := .int) (ty := .int) S hX G 0 (a0 := (32, .inl z0)) (N := 32) (List.mem_of_getElem? (i := 4) rfl) rfl rfl (fun _ => rfl) (by decide) (by decide) (by decide) (Nat.le_of_ble_eq_true rfl) (Nat.le_of_ble_eq_true rfl) dX6_init_31 (fun q4 ad4 H faq4 hE4 G => ?_)
  have fah0 : ad4 i = h0 := Eq.trans (hE4 _ (by omega)) fah0
  have faq1 : ad4 (i + 1) = q1 := Eq.trans (hE4 _ (by omega)) faq1
  have faq2 : ad4 (i + 2) = q2 := Eq.trans (hE4 _ (by omega)) faq2
  have faq3 : ad4 (i + 3) = q3 := Eq.trans (hE4 _ (by omega)) faq3
  obtain ⟨w7, hw7⟩ : ∃ z, z = upw w6 (i + 4) (.inl (E.2.1 0, 32, .inl z0)) := ⟨_, rfl⟩
  have G : CG E ad4 (i + 5) w7 sg H locs := by rw [hw7]; exact G
  have ho7 : ∀ k, k ≠ (i + 4) → w7 k = w6 k := fun k hk => by rw [hw7]; exact upw_ne hk
  have fe0 : w7 i = .inr (6, [.ref q1, .ref q2, .ref q3, .null]) := Eq.trans (ho7 _ (by omega)) fe0
  have fe1 : w7 (i + 1) = .inl (E.2.1 0, 32, .inl z0) := Eq.trans (ho7 _ (by omega)) fe1
  have fe2 : w7 (i + 2) = .inl (E.2.1 0, 32, .inl z0) := Eq.trans (ho7 _ (by omega)) fe2
  have fe3 : w7 (i + 3) = .inl (E.2.1 0, 32, .inl z0) := Eq.trans (ho7 _ (by omega)) fe3
  have fe4 : w7 (i + 4) = .inl (E.2.1 0, 32, .inl z0) := by rw [hw7]; exact upw_eq
  refine c_putF (i := i) (ty := tyX6 3) (ty0 := tyX6) S hX G (C := RX6) (T := TX6) (N := 4) 3 fah0 (by omega) fe0 rfl (fun _ h => (List.mem_cons_of_mem _ (List.mem_append_right _ h))) tyX6_ok nmX6 (by decide) (List.mem_of_getElem? (i := 8) rfl) (fun _ h => h) rfl hnm rfl (tyX6_ok 3 (by decide)) rfl rfl (Nat.le_of_ble_eq_true rfl) dX6_init_33 (fun H locs G => ?_)
  obtain ⟨w8, hw8⟩ : ∃ z, z = upw w7 i (.inr (6, [.ref q1, .ref q2, .ref q3, .ref q4])) := ⟨_, rfl⟩
  have G : CG E ad4 (i + 5) w8 sg H locs := by rw [hw8]; exact G
  have ho8 : ∀ k, k ≠ i → w8 k = w7 k := fun k hk => by rw [hw8]; exact upw_ne hk
  have fe1 : w8 (i + 1) = .inl (E.2.1 0, 32, .inl z0) := Eq.trans (ho8 _ (by omega)) fe1
  have fe2 : w8 (i + 2) = .inl (E.2.1 0, 32, .inl z0) := Eq.trans (ho8 _ (by omega)) fe2
  have fe3 : w8 (i + 3) = .inl (E.2.1 0, 32, .inl z0) := Eq.trans (ho8 _ (by omega)) fe3
  have fe4 : w8 (i + 4) = .inl (E.2.1 0, 32, .inl z0) := Eq.trans (ho8 _ (by omega)) fe4
  have fe0 : w8 i = .inr (6, [.ref q1, .ref q2, .ref q3, .ref q4]) := by rw [hw8]; exact upw_eq
  refine W.widen (k := 4) (n := 128) (Nat.le_of_ble_eq_true rfl) (Nat.le_of_ble_eq_true rfl) ?_
  exact c_vret S G hr hlk dX6_init_36 (fun k hk => ((hE4 k (by omega)).trans ((hE3 k (by omega)).trans ((hE2 k (by omega)).trans (hE1 k (by omega)))))) ⟨fun k hk => ((ho8 k (by omega)).trans ((ho7 k (by omega)).trans ((ho6 k (by omega)).trans ((ho5 k (by omega)).trans ((ho4 k (by omega)).trans ((ho3 k (by omega)).trans ((ho2 k (by omega)).trans (ho1 k (by omega))))))))), (((((BlkOk.one (kd := 6) (r := z0) (Eq.trans fe0 (by rw [show q1 = ad4 (i + 1) from faq1.symm, show q2 = ad4 (i + 2) from faq2.symm, show q3 = ad4 (i + 3) from faq3.symm, show q4 = ad4 (i + 4) from faq4.symm]; rfl))).app (BlkOk.one (kd := 46) (r := z0) (Eq.trans fe1 (by rfl)))).app (BlkOk.one (kd := 46) (r := z0) (Eq.trans fe2 (by rfl)))).app (BlkOk.one (kd := 46) (r := z0) (Eq.trans fe3 (by rfl)))).app (BlkOk.one (kd := 46) (r := z0) (Eq.trans fe4 (by rfl))))⟩
set_option maxHeartbeats 4000000 in
set_option maxRecDepth 100000 in
theorem c_X7_init (l : Launch) (E : Ev) (ad : Nat → Nat) (i h0 : Nat) (w : Nat → va_E) (fah0 : ad i = h0) (fe0 : w i = .inr (7, [.null, .int 0])) : CN l yX7_init wsX7_init ({ frames := 1, cells := 1, slots := 80, locals := 20 }) E [.ref h0] ad (i + 1) w (i + 2) (fun ad' w' => (∀ k, k < i → w' k = w k) ∧ BlkOk E ad' w' i ([7] ++ [11]) (rApp 1 (fun _ => z0) (fun _ => z0))) 1 80 := by
  refine CN.of (cc := cX7_init) (maxL := 1) (by decide) rfl rfl (Nat.le_of_ble_eq_true rfl) ?_
  intro pg en sg mg below meth cg ls S hr hlk hnm hX G hl
  have S : CallFix pg mg cg cX7_init 1 sg _ wsX7_init RX7 := S
  have hl : lv_has ls 1 [(0, .ref h0)] := hl
  refine lv_aload_n S.1 S.2.1 dX7_init_0 rfl (lv_at hl 0 rfl) ?_
  refine W.objInit S.1 S.2.1 S.2.2.2.1 (S.2.2.2.2 _ (List.mem_of_getElem? (i := 1) rfl)) (S.2.2.2.2 _ (List.mem_of_getElem? (i := 2) rfl)) (S.2.2.2.2 _ (List.mem_of_getElem? (i := 3) rfl)) rfl (hl.1.trans S.2.2.1.symm) rfl dX7_init_1 (Nat.le_of_ble_eq_true rfl) (Nat.le_of_ble_eq_true rfl) ?_
  refine W.eq (g2 := F0 mg 4 ls []) rfl ?_
  refine lv_aload_n S.1 S.2.1 dX7_init_4 rfl (lv_at hl 0 rfl) ?_
  refine lv_bipush (v := (80 : Int32)) S.1 S.2.1 dX7_init_5 (by decide) ?_
  refine c_newa (atype := .char) (ty := .char) S hX G 2 (a0 := (80, .inl z0)) (N := 80) (List.mem_of_getElem? (i := 4) rfl) rfl rfl (fun _ => rfl) (by decide) (by decide) (by decide) (Nat.le_of_ble_eq_true rfl) (Nat.le_of_ble_eq_true rfl) dX7_init_7 (fun q1 ad1 H faq1 hE1 G => ?_)
  have fah0 : ad1 i = h0 := Eq.trans (hE1 _ (by omega)) fah0
  obtain ⟨w1, hw1⟩ : ∃ z, z = upw w (i + 1) (.inl (E.2.1 2, 80, .inl z0)) := ⟨_, rfl⟩
  have G : CG E ad1 (i + 2) w1 sg H [] := by rw [hw1]; exact G
  have ho1 : ∀ k, k ≠ (i + 1) → w1 k = w k := fun k hk => by rw [hw1]; exact upw_ne hk
  have fe0 : w1 i = .inr (7, [.null, .int 0]) := Eq.trans (ho1 _ (by omega)) fe0
  have fe1 : w1 (i + 1) = .inl (E.2.1 2, 80, .inl z0) := by rw [hw1]; exact upw_eq
  refine c_putF (i := i) (ty := tyX7 0) (ty0 := tyX7) S hX G (C := RX7) (T := TX7) (N := 2) 0 fah0 (by omega) fe0 rfl (fun _ h => (List.mem_cons_of_mem _ (List.mem_append_right _ h))) tyX7_ok nmX7 (by decide) (List.mem_of_getElem? (i := 5) rfl) (fun _ h => h) rfl hnm rfl (tyX7_ok 0 (by decide)) rfl rfl (Nat.le_of_ble_eq_true rfl) dX7_init_9 (fun H locs G => ?_)
  obtain ⟨w2, hw2⟩ : ∃ z, z = upw w1 i (.inr (7, [.ref q1, .int 0])) := ⟨_, rfl⟩
  have G : CG E ad1 (i + 2) w2 sg H locs := by rw [hw2]; exact G
  have ho2 : ∀ k, k ≠ i → w2 k = w1 k := fun k hk => by rw [hw2]; exact upw_ne hk
  have fe1 : w2 (i + 1) = .inl (E.2.1 2, 80, .inl z0) := Eq.trans (ho2 _ (by omega)) fe1
  have fe0 : w2 i = .inr (7, [.ref q1, .int 0]) := by rw [hw2]; exact upw_eq
  refine W.widen (k := 1) (n := 80) (Nat.le_of_ble_eq_true rfl) (Nat.le_of_ble_eq_true rfl) ?_
  exact c_vret S G hr hlk dX7_init_12 (fun k hk => (hE1 k (by omega))) ⟨fun k hk => ((ho2 k (by omega)).trans (ho1 k (by omega))), ((BlkOk.one (kd := 7) (r := z0) (Eq.trans fe0 (by rw [show q1 = ad1 (i + 1) from faq1.symm]; rfl))).app (BlkOk.one (kd := 11) (r := z0) (Eq.trans fe1 (by rfl))))⟩
def ldKs : List Nat := (((([5] ++ [4]) ++ [4]) ++ ([1] ++ [18])) ++ ((([3] ++ [10]) ++ [17]) ++ [17]))
def ldRw : Nat → Nat → Int32 := rApp 5 (rApp 3 (rApp 2 (rApp 1 (fun _ => ld0) (fun _ => z0)) (fun _ => z0)) (rApp 1 (fun _ _ => 6) (fun _ => dv0))) (rApp 3 (rApp 2 (rApp 1 (fun _ => z0) (fun _ => z0)) (fun _ => z0)) (fun _ => z0))
set_option maxHeartbeats 4000000 in
set_option maxRecDepth 100000 in
theorem c_X5_init (l : Launch) (E : Ev) (ad : Nat → Nat) (i h0 : Nat) (w : Nat → va_E) (fah0 : ad i = h0) (fe0 : w i = .inr (5, [.null, .null, .null, .null, .int 0, .int 0, .int 0, .int 0, .int 0, .int 0, .int 0, .int 0, .long 0])) : CN l yX5_init wsX5_init ({ frames := 2, cells := 8, slots := 33, locals := 42 }) E [.ref h0] ad (i + 1) w (i + 9) (fun ad' w' => (∀ k, k < i → w' k = w k) ∧ BlkOk E ad' w' i ldKs ldRw) 8 33 := by
  refine CN.of (cc := cX5_init) (maxL := 1) (by decide) rfl rfl (Nat.le_of_ble_eq_true rfl) ?_
  intro pg en sg mg below meth cg ls S hr hlk hnm hX G hl
  have S : CallFix pg mg cg cX5_init 1 sg _ wsX5_init RX5 := S
  have hl : lv_has ls 1 [(0, .ref h0)] := hl
  refine lv_aload_n S.1 S.2.1 dX5_init_0 rfl (lv_at hl 0 rfl) ?_
  refine W.objInit S.1 S.2.1 S.2.2.2.1 (S.2.2.2.2 _ (List.mem_of_getElem? (i := 1) rfl)) (S.2.2.2.2 _ (List.mem_of_getElem? (i := 2) rfl)) (S.2.2.2.2 _ (List.mem_of_getElem? (i := 3) rfl)) rfl (hl.1.trans S.2.2.1.symm) rfl dX5_init_1 (Nat.le_of_ble_eq_true rfl) (Nat.le_of_ble_eq_true rfl) ?_
  refine W.eq (g2 := F0 mg 4 ls []) rfl ?_
  refine lv_aload_n S.1 S.2.1 dX5_init_4 rfl (lv_at hl 0 rfl) ?_
  refine c_new S hX G (C := RX4) (T := TX4) (N := 7) (ci := 4) (fs := [.int 0, .int 0, .int 0, .int 0, .int 0, .int 0, .int 0]) tyX4 (fun _ h => (List.mem_cons_of_mem _ (List.mem_append_left _ (List.mem_append_left _ (List.mem_append_left _ (List.mem_append_right _ h)))))) tyX4_ok (List.mem_of_getElem? (i := 4) rfl) (List.mem_of_getElem? (i := 5) rfl) (List.mem_of_getElem? (i := 6) rfl) rfl (fun j hj => by rcases (show j = 0 ∨ j = 1 ∨ j = 2 ∨ j = 3 ∨ j = 4 ∨ j = 5 ∨ j = 6 by omega) with rfl | rfl | rfl | rfl | rfl | rfl | rfl <;> rfl) (Nat.le_of_ble_eq_true rfl) (Nat.le_of_ble_eq_true rfl) dX5_init_5 (fun q1 ad1 H faq1 hE1 G => ?_)
  have fah0 : ad1 i = h0 := Eq.trans (hE1 _ (by omega)) fah0
  obtain ⟨w1, hw1⟩ : ∃ z, z = upw w (i + 1) (.inr (4, [.int 0, .int 0, .int 0, .int 0, .int 0, .int 0, .int 0])) := ⟨_, rfl⟩
  have G : CG E ad1 (i + 2) w1 sg H [] := by rw [hw1]; exact G
  have ho1 : ∀ k, k ≠ (i + 1) → w1 k = w k := fun k hk => by rw [hw1]; exact upw_ne hk
  have fe0 : w1 i = .inr (5, [.null, .null, .null, .null, .int 0, .int 0, .int 0, .int 0, .int 0, .int 0, .int 0, .int 0, .long 0]) := Eq.trans (ho1 _ (by omega)) fe0
  have fe1 : w1 (i + 1) = .inr (4, [.int 0, .int 0, .int 0, .int 0, .int 0, .int 0, .int 0]) := by rw [hw1]; exact upw_eq
  refine lv_dup S.1 S.2.1 dX5_init_8 rfl ?_
  refine c_callN (As := []) (rest := [.ref q1, .ref h0]) S hX G (c_X4_init l E ad1 (i + 1) q1 w1 faq1 fe1) ⟨va_cnB (bytes := cX4_init) (maxL := 1) (ret := none) 0 S.2.2.2.2 gX5_init_X4_init_n11 rfl rfl rfl (hX.1.2.2.1.2 _ (List.mem_of_getElem? (i := 0) rfl)) (S.2.2.2.2 _ (List.mem_of_getElem? (i := 6) rfl)) (by decide +kernel) ⟨Nat.le_of_ble_eq_true rfl, Nat.le_of_ble_eq_true rfl⟩, rfl, S.2.2.2.2 _ (List.mem_of_getElem? (i := 18) rfl)⟩ rfl hl.1 rfl (Nat.le_of_ble_eq_true rfl) ⟨Nat.le_of_ble_eq_true rfl, Nat.le_of_ble_eq_true rfl⟩ dX5_init_9 (fun ad2 w2 H locs hE2 hok2 G => ?_)
  have fah0 : ad2 i = h0 := Eq.trans (hE2 _ (by omega)) fah0
  have faq1 : ad2 (i + 1) = q1 := Eq.trans (hE2 _ (by omega)) faq1
  have fe0 : w2 i = .inr (5, [.null, .null, .null, .null, .int 0, .int 0, .int 0, .int 0, .int 0, .int 0, .int 0, .int 0, .long 0]) := Eq.trans (hok2.1 _ (by omega)) fe0
  have G : CG E ad2 (i + 2) w2 sg H locs := G
  refine W.eq (g2 := F0 mg 12 ls [.ref q1, .ref h0]) rfl ?_
  refine c_putF (i := i) (ty := tyX5 0) (ty0 := tyX5) S hX G (C := RX5) (T := TX5) (N := 13) 0 fah0 (by omega) fe0 rfl (fun _ h => (List.mem_cons_of_mem _ (List.mem_append_left _ (List.mem_append_left _ (List.mem_append_right _ h))))) tyX5_ok nmX5 (by decide) (List.mem_of_getElem? (i := 7) rfl) (fun _ h => h) rfl hnm rfl (tyX5_ok 0 (by decide)) rfl rfl (Nat.le_of_ble_eq_true rfl) dX5_init_12 (fun H locs G => ?_)
  obtain ⟨w3, hw3⟩ : ∃ z, z = upw w2 i (.inr (5, [.ref q1, .null, .null, .null, .int 0, .int 0, .int 0, .int 0, .int 0, .int 0, .int 0, .int 0, .long 0])) := ⟨_, rfl⟩
  have G : CG E ad2 (i + 2) w3 sg H locs := by rw [hw3]; exact G
  have ho3 : ∀ k, k ≠ i → w3 k = w2 k := fun k hk => by rw [hw3]; exact upw_ne hk
  have fe0 : w3 i = .inr (5, [.ref q1, .null, .null, .null, .int 0, .int 0, .int 0, .int 0, .int 0, .int 0, .int 0, .int 0, .long 0]) := by rw [hw3]; exact upw_eq
  refine lv_aload_n S.1 S.2.1 dX5_init_15 rfl (lv_at hl 0 rfl) ?_
  refine c_new S hX G (C := RX4) (T := TX4) (N := 7) (ci := 4) (fs := [.int 0, .int 0, .int 0, .int 0, .int 0, .int 0, .int 0]) tyX4 (fun _ h => (List.mem_cons_of_mem _ (List.mem_append_left _ (List.mem_append_left _ (List.mem_append_left _ (List.mem_append_right _ h)))))) tyX4_ok (List.mem_of_getElem? (i := 4) rfl) (List.mem_of_getElem? (i := 5) rfl) (List.mem_of_getElem? (i := 6) rfl) rfl (fun j hj => by rcases (show j = 0 ∨ j = 1 ∨ j = 2 ∨ j = 3 ∨ j = 4 ∨ j = 5 ∨ j = 6 by omega) with rfl | rfl | rfl | rfl | rfl | rfl | rfl <;> rfl) (Nat.le_of_ble_eq_true rfl) (Nat.le_of_ble_eq_true rfl) dX5_init_16 (fun q2 ad3 H faq2 hE3 G => ?_)
  have fah0 : ad3 i = h0 := Eq.trans (hE3 _ (by omega)) fah0
  have faq1 : ad3 (i + 1) = q1 := Eq.trans (hE3 _ (by omega)) faq1
  obtain ⟨w4, hw4⟩ : ∃ z, z = upw w3 (i + 2) (.inr (4, [.int 0, .int 0, .int 0, .int 0, .int 0, .int 0, .int 0])) := ⟨_, rfl⟩
  have G : CG E ad3 (i + 3) w4 sg H locs := by rw [hw4]; exact G
  have ho4 : ∀ k, k ≠ (i + 2) → w4 k = w3 k := fun k hk => by rw [hw4]; exact upw_ne hk
  have fe0 : w4 i = .inr (5, [.ref q1, .null, .null, .null, .int 0, .int 0, .int 0, .int 0, .int 0, .int 0, .int 0, .int 0, .long 0]) := Eq.trans (ho4 _ (by omega)) fe0
  have fe2 : w4 (i + 2) = .inr (4, [.int 0, .int 0, .int 0, .int 0, .int 0, .int 0, .int 0]) := by rw [hw4]; exact upw_eq
  refine lv_dup S.1 S.2.1 dX5_init_19 rfl ?_
  refine c_callN (As := []) (rest := [.ref q2, .ref h0]) S hX G (c_X4_init l E ad3 (i + 2) q2 w4 faq2 fe2) ⟨va_cnB (bytes := cX4_init) (maxL := 1) (ret := none) 0 S.2.2.2.2 gX5_init_X4_init_n11 rfl rfl rfl (hX.1.2.2.1.2 _ (List.mem_of_getElem? (i := 0) rfl)) (S.2.2.2.2 _ (List.mem_of_getElem? (i := 6) rfl)) (by decide +kernel) ⟨Nat.le_of_ble_eq_true rfl, Nat.le_of_ble_eq_true rfl⟩, rfl, S.2.2.2.2 _ (List.mem_of_getElem? (i := 18) rfl)⟩ rfl hl.1 rfl (Nat.le_of_ble_eq_true rfl) ⟨Nat.le_of_ble_eq_true rfl, Nat.le_of_ble_eq_true rfl⟩ dX5_init_20 (fun ad4 w5 H locs hE4 hok5 G => ?_)
  have fah0 : ad4 i = h0 := Eq.trans (hE4 _ (by omega)) fah0
  have faq1 : ad4 (i + 1) = q1 := Eq.trans (hE4 _ (by omega)) faq1
  have faq2 : ad4 (i + 2) = q2 := Eq.trans (hE4 _ (by omega)) faq2
  have fe0 : w5 i = .inr (5, [.ref q1, .null, .null, .null, .int 0, .int 0, .int 0, .int 0, .int 0, .int 0, .int 0, .int 0, .long 0]) := Eq.trans (hok5.1 _ (by omega)) fe0
  have G : CG E ad4 (i + 3) w5 sg H locs := G
  refine W.eq (g2 := F0 mg 23 ls [.ref q2, .ref h0]) rfl ?_
  refine c_putF (i := i) (ty := tyX5 1) (ty0 := tyX5) S hX G (C := RX5) (T := TX5) (N := 13) 1 fah0 (by omega) fe0 rfl (fun _ h => (List.mem_cons_of_mem _ (List.mem_append_left _ (List.mem_append_left _ (List.mem_append_right _ h))))) tyX5_ok nmX5 (by decide) (List.mem_of_getElem? (i := 8) rfl) (fun _ h => h) rfl hnm rfl (tyX5_ok 1 (by decide)) rfl rfl (Nat.le_of_ble_eq_true rfl) dX5_init_23 (fun H locs G => ?_)
  obtain ⟨w6, hw6⟩ : ∃ z, z = upw w5 i (.inr (5, [.ref q1, .ref q2, .null, .null, .int 0, .int 0, .int 0, .int 0, .int 0, .int 0, .int 0, .int 0, .long 0])) := ⟨_, rfl⟩
  have G : CG E ad4 (i + 3) w6 sg H locs := by rw [hw6]; exact G
  have ho6 : ∀ k, k ≠ i → w6 k = w5 k := fun k hk => by rw [hw6]; exact upw_ne hk
  have fe0 : w6 i = .inr (5, [.ref q1, .ref q2, .null, .null, .int 0, .int 0, .int 0, .int 0, .int 0, .int 0, .int 0, .int 0, .long 0]) := by rw [hw6]; exact upw_eq
  refine lv_aload_n S.1 S.2.1 dX5_init_26 rfl (lv_at hl 0 rfl) ?_
  refine c_new S hX G (C := RX1) (T := TX1) (N := 2) (ci := 1) (fs := [.int 0, .null]) tyX1 (fun _ h => (List.mem_cons_of_mem _ (List.mem_append_left _ (List.mem_append_right _ h)))) tyX1_ok (List.mem_of_getElem? (i := 9) rfl) (List.mem_of_getElem? (i := 10) rfl) (List.mem_of_getElem? (i := 11) rfl) rfl (fun j hj => by rcases (show j = 0 ∨ j = 1 by omega) with rfl | rfl <;> rfl) (Nat.le_of_ble_eq_true rfl) (Nat.le_of_ble_eq_true rfl) dX5_init_27 (fun q3 ad5 H faq3 hE5 G => ?_)
  have fah0 : ad5 i = h0 := Eq.trans (hE5 _ (by omega)) fah0
  have faq1 : ad5 (i + 1) = q1 := Eq.trans (hE5 _ (by omega)) faq1
  have faq2 : ad5 (i + 2) = q2 := Eq.trans (hE5 _ (by omega)) faq2
  obtain ⟨w7, hw7⟩ : ∃ z, z = upw w6 (i + 3) (.inr (1, [.int 0, .null])) := ⟨_, rfl⟩
  have G : CG E ad5 (i + 4) w7 sg H locs := by rw [hw7]; exact G
  have ho7 : ∀ k, k ≠ (i + 3) → w7 k = w6 k := fun k hk => by rw [hw7]; exact upw_ne hk
  have fe0 : w7 i = .inr (5, [.ref q1, .ref q2, .null, .null, .int 0, .int 0, .int 0, .int 0, .int 0, .int 0, .int 0, .int 0, .long 0]) := Eq.trans (ho7 _ (by omega)) fe0
  have fe3 : w7 (i + 3) = .inr (1, [.int 0, .null]) := by rw [hw7]; exact upw_eq
  refine lv_dup S.1 S.2.1 dX5_init_30 rfl ?_
  refine lv_bipush (v := (6 : Int32)) S.1 S.2.1 dX5_init_31 (by decide) ?_
  refine lv_iconst (v := (4 : Int32)) S.1 S.2.1 dX5_init_33 (by decide) ?_
  refine c_call (As := [.int (6 : Int32), .int (4 : Int32)]) (rest := [.ref q3, .ref h0]) S hX G (c_X1_init4 l E ad5 (i + 3) q3 w7 faq3 fe3) (cwI (bytes := cX1_init) (maxL := 3) 2 S.2.2.2.2 gX5_init_X1_init rfl rfl rfl (S.2.2.2.2 _ (List.mem_of_getElem? (i := 11) rfl)) (S.2.2.2.2 _ (List.mem_of_getElem? (i := 21) rfl)) (S.2.2.2.2 _ (List.mem_of_getElem? (i := 22) rfl)) rfl (by decide +kernel) ⟨Nat.le_of_ble_eq_true rfl, Nat.le_of_ble_eq_true rfl⟩) rfl hl.1 rfl (Nat.le_of_ble_eq_true rfl) ⟨Nat.le_of_ble_eq_true rfl, Nat.le_of_ble_eq_true rfl⟩ dX5_init_34 (fun ad6 w8 H locs hE6 hok8 G => ?_)
  have fah0 : ad6 i = h0 := Eq.trans (hE6 _ (by omega)) fah0
  have faq1 : ad6 (i + 1) = q1 := Eq.trans (hE6 _ (by omega)) faq1
  have faq2 : ad6 (i + 2) = q2 := Eq.trans (hE6 _ (by omega)) faq2
  have faq3 : ad6 (i + 3) = q3 := Eq.trans (hE6 _ (by omega)) faq3
  have fe0 : w8 i = .inr (5, [.ref q1, .ref q2, .null, .null, .int 0, .int 0, .int 0, .int 0, .int 0, .int 0, .int 0, .int 0, .long 0]) := Eq.trans (hok8.1 _ (by omega)) fe0
  have G : CG E ad6 (i + 5) w8 sg H locs := G
  refine W.eq (g2 := F0 mg 37 ls [.ref q3, .ref h0]) rfl ?_
  refine c_putF (i := i) (ty := tyX5 2) (ty0 := tyX5) S hX G (C := RX5) (T := TX5) (N := 13) 2 fah0 (by omega) fe0 rfl (fun _ h => (List.mem_cons_of_mem _ (List.mem_append_left _ (List.mem_append_left _ (List.mem_append_right _ h))))) tyX5_ok nmX5 (by decide) (List.mem_of_getElem? (i := 12) rfl) (fun _ h => h) rfl hnm rfl (tyX5_ok 2 (by decide)) rfl rfl (Nat.le_of_ble_eq_true rfl) dX5_init_37 (fun H locs G => ?_)
  obtain ⟨w9, hw9⟩ : ∃ z, z = upw w8 i (.inr (5, [.ref q1, .ref q2, .ref q3, .null, .int 0, .int 0, .int 0, .int 0, .int 0, .int 0, .int 0, .int 0, .long 0])) := ⟨_, rfl⟩
  have G : CG E ad6 (i + 5) w9 sg H locs := by rw [hw9]; exact G
  have ho9 : ∀ k, k ≠ i → w9 k = w8 k := fun k hk => by rw [hw9]; exact upw_ne hk
  have fe0 : w9 i = .inr (5, [.ref q1, .ref q2, .ref q3, .null, .int 0, .int 0, .int 0, .int 0, .int 0, .int 0, .int 0, .int 0, .long 0]) := by rw [hw9]; exact upw_eq
  refine lv_aload_n S.1 S.2.1 dX5_init_40 rfl (lv_at hl 0 rfl) ?_
  refine c_new S hX G (C := RX3) (T := TX3) (N := 4) (ci := 3) (fs := [.null, .null, .null, .int 0]) tyX3 (fun _ h => (List.mem_cons_of_mem _ (List.mem_append_right _ h))) tyX3_ok (List.mem_of_getElem? (i := 13) rfl) (List.mem_of_getElem? (i := 14) rfl) (List.mem_of_getElem? (i := 15) rfl) rfl (fun j hj => by rcases (show j = 0 ∨ j = 1 ∨ j = 2 ∨ j = 3 by omega) with rfl | rfl | rfl | rfl <;> rfl) (Nat.le_of_ble_eq_true rfl) (Nat.le_of_ble_eq_true rfl) dX5_init_41 (fun q4 ad7 H faq4 hE7 G => ?_)
  have fah0 : ad7 i = h0 := Eq.trans (hE7 _ (by omega)) fah0
  have faq1 : ad7 (i + 1) = q1 := Eq.trans (hE7 _ (by omega)) faq1
  have faq2 : ad7 (i + 2) = q2 := Eq.trans (hE7 _ (by omega)) faq2
  have faq3 : ad7 (i + 3) = q3 := Eq.trans (hE7 _ (by omega)) faq3
  obtain ⟨w10, hw10⟩ : ∃ z, z = upw w9 (i + 5) (.inr (3, [.null, .null, .null, .int 0])) := ⟨_, rfl⟩
  have G : CG E ad7 (i + 6) w10 sg H locs := by rw [hw10]; exact G
  have ho10 : ∀ k, k ≠ (i + 5) → w10 k = w9 k := fun k hk => by rw [hw10]; exact upw_ne hk
  have fe0 : w10 i = .inr (5, [.ref q1, .ref q2, .ref q3, .null, .int 0, .int 0, .int 0, .int 0, .int 0, .int 0, .int 0, .int 0, .long 0]) := Eq.trans (ho10 _ (by omega)) fe0
  have fe5 : w10 (i + 5) = .inr (3, [.null, .null, .null, .int 0]) := by rw [hw10]; exact upw_eq
  refine lv_dup S.1 S.2.1 dX5_init_44 rfl ?_
  refine c_call (As := []) (rest := [.ref q4, .ref h0]) S hX G (c_X3_init l E ad7 (i + 5) q4 w10 faq4 fe5) (cwI (bytes := cX3_init) (maxL := 1) 0 S.2.2.2.2 gX5_init_X3_init rfl rfl rfl (S.2.2.2.2 _ (List.mem_of_getElem? (i := 15) rfl)) (S.2.2.2.2 _ (List.mem_of_getElem? (i := 32) rfl)) (S.2.2.2.2 _ (List.mem_of_getElem? (i := 33) rfl)) rfl (by decide +kernel) ⟨Nat.le_of_ble_eq_true rfl, Nat.le_of_ble_eq_true rfl⟩) rfl hl.1 rfl (Nat.le_of_ble_eq_true rfl) ⟨Nat.le_of_ble_eq_true rfl, Nat.le_of_ble_eq_true rfl⟩ dX5_init_45 (fun ad8 w11 H locs hE8 hok11 G => ?_)
  have fah0 : ad8 i = h0 := Eq.trans (hE8 _ (by omega)) fah0
  have faq1 : ad8 (i + 1) = q1 := Eq.trans (hE8 _ (by omega)) faq1
  have faq2 : ad8 (i + 2) = q2 := Eq.trans (hE8 _ (by omega)) faq2
  have faq3 : ad8 (i + 3) = q3 := Eq.trans (hE8 _ (by omega)) faq3
  have faq4 : ad8 (i + 5) = q4 := Eq.trans (hE8 _ (by omega)) faq4
  have fe0 : w11 i = .inr (5, [.ref q1, .ref q2, .ref q3, .null, .int 0, .int 0, .int 0, .int 0, .int 0, .int 0, .int 0, .int 0, .long 0]) := Eq.trans (hok11.1 _ (by omega)) fe0
  have G : CG E ad8 (i + 9) w11 sg H locs := G
  refine W.eq (g2 := F0 mg 48 ls [.ref q4, .ref h0]) rfl ?_
  refine c_putF (i := i) (ty := tyX5 3) (ty0 := tyX5) S hX G (C := RX5) (T := TX5) (N := 13) 3 fah0 (by omega) fe0 rfl (fun _ h => (List.mem_cons_of_mem _ (List.mem_append_left _ (List.mem_append_left _ (List.mem_append_right _ h))))) tyX5_ok nmX5 (by decide) (List.mem_of_getElem? (i := 16) rfl) (fun _ h => h) rfl hnm rfl (tyX5_ok 3 (by decide)) rfl rfl (Nat.le_of_ble_eq_true rfl) dX5_init_48 (fun H locs G => ?_)
  obtain ⟨w12, hw12⟩ : ∃ z, z = upw w11 i (.inr (5, [.ref q1, .ref q2, .ref q3, .ref q4, .int 0, .int 0, .int 0, .int 0, .int 0, .int 0, .int 0, .int 0, .long 0])) := ⟨_, rfl⟩
  have G : CG E ad8 (i + 9) w12 sg H locs := by rw [hw12]; exact G
  have ho12 : ∀ k, k ≠ i → w12 k = w11 k := fun k hk => by rw [hw12]; exact upw_ne hk
  have fe0 : w12 i = .inr (5, [.ref q1, .ref q2, .ref q3, .ref q4, .int 0, .int 0, .int 0, .int 0, .int 0, .int 0, .int 0, .int 0, .long 0]) := by rw [hw12]; exact upw_eq
  refine lv_aload_n S.1 S.2.1 dX5_init_51 rfl (lv_at hl 0 rfl) ?_
  refine lv_iconst (v := (2 : Int32)) S.1 S.2.1 dX5_init_52 (by decide) ?_
  refine c_put (i := i) (ty := tyX5 9) (ty0 := tyX5) S hX G (C := RX5) (T := TX5) (N := 13) 9 fah0 (by omega) fe0 rfl (fun _ h => (List.mem_cons_of_mem _ (List.mem_append_left _ (List.mem_append_left _ (List.mem_append_right _ h))))) tyX5_ok nmX5 (by decide) (List.mem_of_getElem? (i := 17) rfl) (fun _ h => h) rfl (tyX5_ok 9 (by decide)) rfl rfl (Nat.le_of_ble_eq_true rfl) dX5_init_53 (fun H locs G => ?_)
  obtain ⟨w13, hw13⟩ : ∃ z, z = upw w12 i (.inr (5, [.ref q1, .ref q2, .ref q3, .ref q4, .int 0, .int 0, .int 0, .int 0, .int 0, .int (2 : Int32), .int 0, .int 0, .long 0])) := ⟨_, rfl⟩
  have G : CG E ad8 (i + 9) w13 sg H locs := by rw [hw13]; exact G
  have ho13 : ∀ k, k ≠ i → w13 k = w12 k := fun k hk => by rw [hw13]; exact upw_ne hk
  have fe0 : w13 i = .inr (5, [.ref q1, .ref q2, .ref q3, .ref q4, .int 0, .int 0, .int 0, .int 0, .int 0, .int (2 : Int32), .int 0, .int 0, .long 0]) := by rw [hw13]; exact upw_eq
  refine W.widen (k := 8) (n := 33) (Nat.le_of_ble_eq_true rfl) (Nat.le_of_ble_eq_true rfl) ?_
  exact c_vret S G hr hlk dX5_init_56 (fun k hk => ((hE8 k (by omega)).trans ((hE7 k (by omega)).trans ((hE6 k (by omega)).trans ((hE5 k (by omega)).trans ((hE4 k (by omega)).trans ((hE3 k (by omega)).trans ((hE2 k (by omega)).trans (hE1 k (by omega)))))))))) ⟨fun k hk => ((ho13 k (by omega)).trans ((ho12 k (by omega)).trans ((hok11.1 k (by omega)).trans ((ho10 k (by omega)).trans ((ho9 k (by omega)).trans ((hok8.1 k (by omega)).trans ((ho7 k (by omega)).trans ((ho6 k (by omega)).trans ((hok5.1 k (by omega)).trans ((ho4 k (by omega)).trans ((ho3 k (by omega)).trans ((hok2.1 k (by omega)).trans (ho1 k (by omega)))))))))))))), (((((BlkOk.one (kd := 5) (r := ld0) (Eq.trans fe0 (by rw [show q1 = ad8 (i + 1) from faq1.symm, show q2 = ad8 (i + 2) from faq2.symm, show q3 = ad8 (i + 3) from faq3.symm, show q4 = ad8 (i + 5) from faq4.symm]; rfl))).app (((hok2.2).ad (closed_of rfl) (fun k (hk : k < (i + 1) + 1) => ((hE8 k (by omega)).trans ((hE7 k (by omega)).trans ((hE6 k (by omega)).trans ((hE5 k (by omega)).trans ((hE4 k (by omega)).trans (hE3 k (by omega))))))))).w (fun k (h1 : (i + 1) ≤ k) (h2 : k < (i + 1) + 1) => ((ho13 k (by omega)).trans ((ho12 k (by omega)).trans ((hok11.1 k (by omega)).trans ((ho10 k (by omega)).trans ((ho9 k (by omega)).trans ((hok8.1 k (by omega)).trans ((ho7 k (by omega)).trans ((ho6 k (by omega)).trans ((hok5.1 k (by omega)).trans ((ho4 k (by omega)).trans (ho3 k (by omega))))))))))))))).app (((hok5.2).ad (closed_of rfl) (fun k (hk : k < (i + 2) + 1) => ((hE8 k (by omega)).trans ((hE7 k (by omega)).trans ((hE6 k (by omega)).trans (hE5 k (by omega))))))).w (fun k (h1 : (i + 2) ≤ k) (h2 : k < (i + 2) + 1) => ((ho13 k (by omega)).trans ((ho12 k (by omega)).trans ((hok11.1 k (by omega)).trans ((ho10 k (by omega)).trans ((ho9 k (by omega)).trans ((hok8.1 k (by omega)).trans ((ho7 k (by omega)).trans (ho6 k (by omega)))))))))))).app (((hok8.2).ad (closed_of rfl) (fun k (hk : k < (i + 3) + 2) => ((hE8 k (by omega)).trans (hE7 k (by omega))))).w (fun k (h1 : (i + 3) ≤ k) (h2 : k < (i + 3) + 2) => ((ho13 k (by omega)).trans ((ho12 k (by omega)).trans ((hok11.1 k (by omega)).trans ((ho10 k (by omega)).trans (ho9 k (by omega))))))))).app ((hok11.2).w (fun k (h1 : (i + 5) ≤ k) (h2 : k < (i + 5) + 4) => ((ho13 k (by omega)).trans (ho12 k (by omega))))))⟩
def brKs : List Nat := (((([0] ++ ldKs) ++ ldKs) ++ ([1] ++ [20])) ++ (((([6] ++ [46]) ++ [46]) ++ [46]) ++ [46]))
def brRw : Nat → Nat → Int32 := rApp 21 (rApp 19 (rApp 10 (rApp 1 (fun _ => z0) ldRw) ldRw) (rApp 1 (fun _ => z0) (fun _ => sv0))) (rApp 4 (rApp 3 (rApp 2 (rApp 1 (fun _ => z0) (fun _ => z0)) (fun _ => z0)) (fun _ => z0)) (fun _ => z0))
set_option maxHeartbeats 4000000 in
set_option maxRecDepth 100000 in
theorem c_X0_init (l : Launch) (E : Ev) (ad : Nat → Nat) (i h0 : Nat) (w : Nat → va_E) (fah0 : ad i = h0) (fe0 : w i = .inr (0, [.null, .null, .null, .null, .int 0])) : CN l yX0_init wsX0_init ({ frames := 3, cells := 25, slots := 232, locals := 62 }) E [.ref h0] ad (i + 1) w (i + 26) (fun ad' w' => (∀ k, k < i → w' k = w k) ∧ BlkOk E ad' w' i brKs brRw) 25 232 := by
  refine CN.of (cc := cX0_init) (maxL := 1) (by decide) rfl rfl (Nat.le_of_ble_eq_true rfl) ?_
  intro pg en sg mg below meth cg ls S hr hlk hnm hX G hl
  have S : CallFix pg mg cg cX0_init 1 sg _ wsX0_init RX0 := S
  have hl : lv_has ls 1 [(0, .ref h0)] := hl
  refine lv_aload_n S.1 S.2.1 dX0_init_0 rfl (lv_at hl 0 rfl) ?_
  refine W.objInit S.1 S.2.1 S.2.2.2.1 (S.2.2.2.2 _ (List.mem_of_getElem? (i := 1) rfl)) (S.2.2.2.2 _ (List.mem_of_getElem? (i := 2) rfl)) (S.2.2.2.2 _ (List.mem_of_getElem? (i := 3) rfl)) rfl (hl.1.trans S.2.2.1.symm) rfl dX0_init_1 (Nat.le_of_ble_eq_true rfl) (Nat.le_of_ble_eq_true rfl) ?_
  refine W.eq (g2 := F0 mg 4 ls []) rfl ?_
  refine lv_aload_n S.1 S.2.1 dX0_init_4 rfl (lv_at hl 0 rfl) ?_
  refine c_new S hX G (C := RX5) (T := TX5) (N := 13) (ci := 5) (fs := [.null, .null, .null, .null, .int 0, .int 0, .int 0, .int 0, .int 0, .int 0, .int 0, .int 0, .long 0]) tyX5 (fun _ h => (List.mem_cons_of_mem _ (List.mem_append_left _ (List.mem_append_left _ (List.mem_append_left _ (List.mem_append_left _ (List.mem_append_left _ (List.mem_append_right _ h)))))))) tyX5_ok (List.mem_of_getElem? (i := 4) rfl) (List.mem_of_getElem? (i := 5) rfl) (List.mem_of_getElem? (i := 6) rfl) rfl (fun j hj => by rcases (show j = 0 ∨ j = 1 ∨ j = 2 ∨ j = 3 ∨ j = 4 ∨ j = 5 ∨ j = 6 ∨ j = 7 ∨ j = 8 ∨ j = 9 ∨ j = 10 ∨ j = 11 ∨ j = 12 by omega) with rfl | rfl | rfl | rfl | rfl | rfl | rfl | rfl | rfl | rfl | rfl | rfl | rfl <;> rfl) (Nat.le_of_ble_eq_true rfl) (Nat.le_of_ble_eq_true rfl) dX0_init_5 (fun q1 ad1 H faq1 hE1 G => ?_)
  have fah0 : ad1 i = h0 := Eq.trans (hE1 _ (by omega)) fah0
  obtain ⟨w1, hw1⟩ : ∃ z, z = upw w (i + 1) (.inr (5, [.null, .null, .null, .null, .int 0, .int 0, .int 0, .int 0, .int 0, .int 0, .int 0, .int 0, .long 0])) := ⟨_, rfl⟩
  have G : CG E ad1 (i + 2) w1 sg H [] := by rw [hw1]; exact G
  have ho1 : ∀ k, k ≠ (i + 1) → w1 k = w k := fun k hk => by rw [hw1]; exact upw_ne hk
  have fe0 : w1 i = .inr (0, [.null, .null, .null, .null, .int 0]) := Eq.trans (ho1 _ (by omega)) fe0
  have fe1 : w1 (i + 1) = .inr (5, [.null, .null, .null, .null, .int 0, .int 0, .int 0, .int 0, .int 0, .int 0, .int 0, .int 0, .long 0]) := by rw [hw1]; exact upw_eq
  refine lv_dup S.1 S.2.1 dX0_init_8 rfl ?_
  refine c_call (As := []) (rest := [.ref q1, .ref h0]) S hX G (c_X5_init l E ad1 (i + 1) q1 w1 faq1 fe1) (cwI (bytes := cX5_init) (maxL := 1) 0 S.2.2.2.2 gX0_init_X5_init rfl rfl rfl (S.2.2.2.2 _ (List.mem_of_getElem? (i := 6) rfl)) (S.2.2.2.2 _ (List.mem_of_getElem? (i := 17) rfl)) (S.2.2.2.2 _ (List.mem_of_getElem? (i := 18) rfl)) rfl (by decide +kernel) ⟨Nat.le_of_ble_eq_true rfl, Nat.le_of_ble_eq_true rfl⟩) rfl hl.1 rfl (Nat.le_of_ble_eq_true rfl) ⟨Nat.le_of_ble_eq_true rfl, Nat.le_of_ble_eq_true rfl⟩ dX0_init_9 (fun ad2 w2 H locs hE2 hok2 G => ?_)
  have fah0 : ad2 i = h0 := Eq.trans (hE2 _ (by omega)) fah0
  have faq1 : ad2 (i + 1) = q1 := Eq.trans (hE2 _ (by omega)) faq1
  have fe0 : w2 i = .inr (0, [.null, .null, .null, .null, .int 0]) := Eq.trans (hok2.1 _ (by omega)) fe0
  have G : CG E ad2 (i + 10) w2 sg H locs := G
  refine W.eq (g2 := F0 mg 12 ls [.ref q1, .ref h0]) rfl ?_
  refine c_putF (i := i) (ty := tyX0 0) (ty0 := tyX0) S hX G (C := RX0) (T := TX0) (N := 5) 0 fah0 (by omega) fe0 rfl (fun _ h => (List.mem_cons_of_mem _ (List.mem_append_left _ (List.mem_append_left _ (List.mem_append_left _ (List.mem_append_left _ (List.mem_append_right _ h))))))) tyX0_ok nmX0 (by decide) (List.mem_of_getElem? (i := 7) rfl) (fun _ h => h) rfl hnm rfl (tyX0_ok 0 (by decide)) rfl rfl (Nat.le_of_ble_eq_true rfl) dX0_init_12 (fun H locs G => ?_)
  obtain ⟨w3, hw3⟩ : ∃ z, z = upw w2 i (.inr (0, [.ref q1, .null, .null, .null, .int 0])) := ⟨_, rfl⟩
  have G : CG E ad2 (i + 10) w3 sg H locs := by rw [hw3]; exact G
  have ho3 : ∀ k, k ≠ i → w3 k = w2 k := fun k hk => by rw [hw3]; exact upw_ne hk
  have fe0 : w3 i = .inr (0, [.ref q1, .null, .null, .null, .int 0]) := by rw [hw3]; exact upw_eq
  refine lv_aload_n S.1 S.2.1 dX0_init_15 rfl (lv_at hl 0 rfl) ?_
  refine c_new S hX G (C := RX5) (T := TX5) (N := 13) (ci := 5) (fs := [.null, .null, .null, .null, .int 0, .int 0, .int 0, .int 0, .int 0, .int 0, .int 0, .int 0, .long 0]) tyX5 (fun _ h => (List.mem_cons_of_mem _ (List.mem_append_left _ (List.mem_append_left _ (List.mem_append_left _ (List.mem_append_left _ (List.mem_append_left _ (List.mem_append_right _ h)))))))) tyX5_ok (List.mem_of_getElem? (i := 4) rfl) (List.mem_of_getElem? (i := 5) rfl) (List.mem_of_getElem? (i := 6) rfl) rfl (fun j hj => by rcases (show j = 0 ∨ j = 1 ∨ j = 2 ∨ j = 3 ∨ j = 4 ∨ j = 5 ∨ j = 6 ∨ j = 7 ∨ j = 8 ∨ j = 9 ∨ j = 10 ∨ j = 11 ∨ j = 12 by omega) with rfl | rfl | rfl | rfl | rfl | rfl | rfl | rfl | rfl | rfl | rfl | rfl | rfl <;> rfl) (Nat.le_of_ble_eq_true rfl) (Nat.le_of_ble_eq_true rfl) dX0_init_16 (fun q2 ad3 H faq2 hE3 G => ?_)
  have fah0 : ad3 i = h0 := Eq.trans (hE3 _ (by omega)) fah0
  have faq1 : ad3 (i + 1) = q1 := Eq.trans (hE3 _ (by omega)) faq1
  obtain ⟨w4, hw4⟩ : ∃ z, z = upw w3 (i + 10) (.inr (5, [.null, .null, .null, .null, .int 0, .int 0, .int 0, .int 0, .int 0, .int 0, .int 0, .int 0, .long 0])) := ⟨_, rfl⟩
  have G : CG E ad3 (i + 11) w4 sg H locs := by rw [hw4]; exact G
  have ho4 : ∀ k, k ≠ (i + 10) → w4 k = w3 k := fun k hk => by rw [hw4]; exact upw_ne hk
  have fe0 : w4 i = .inr (0, [.ref q1, .null, .null, .null, .int 0]) := Eq.trans (ho4 _ (by omega)) fe0
  have fe10 : w4 (i + 10) = .inr (5, [.null, .null, .null, .null, .int 0, .int 0, .int 0, .int 0, .int 0, .int 0, .int 0, .int 0, .long 0]) := by rw [hw4]; exact upw_eq
  refine lv_dup S.1 S.2.1 dX0_init_19 rfl ?_
  refine c_call (As := []) (rest := [.ref q2, .ref h0]) S hX G (c_X5_init l E ad3 (i + 10) q2 w4 faq2 fe10) (cwI (bytes := cX5_init) (maxL := 1) 0 S.2.2.2.2 gX0_init_X5_init rfl rfl rfl (S.2.2.2.2 _ (List.mem_of_getElem? (i := 6) rfl)) (S.2.2.2.2 _ (List.mem_of_getElem? (i := 17) rfl)) (S.2.2.2.2 _ (List.mem_of_getElem? (i := 18) rfl)) rfl (by decide +kernel) ⟨Nat.le_of_ble_eq_true rfl, Nat.le_of_ble_eq_true rfl⟩) rfl hl.1 rfl (Nat.le_of_ble_eq_true rfl) ⟨Nat.le_of_ble_eq_true rfl, Nat.le_of_ble_eq_true rfl⟩ dX0_init_20 (fun ad4 w5 H locs hE4 hok5 G => ?_)
  have fah0 : ad4 i = h0 := Eq.trans (hE4 _ (by omega)) fah0
  have faq1 : ad4 (i + 1) = q1 := Eq.trans (hE4 _ (by omega)) faq1
  have faq2 : ad4 (i + 10) = q2 := Eq.trans (hE4 _ (by omega)) faq2
  have fe0 : w5 i = .inr (0, [.ref q1, .null, .null, .null, .int 0]) := Eq.trans (hok5.1 _ (by omega)) fe0
  have G : CG E ad4 (i + 19) w5 sg H locs := G
  refine W.eq (g2 := F0 mg 23 ls [.ref q2, .ref h0]) rfl ?_
  refine c_putF (i := i) (ty := tyX0 1) (ty0 := tyX0) S hX G (C := RX0) (T := TX0) (N := 5) 1 fah0 (by omega) fe0 rfl (fun _ h => (List.mem_cons_of_mem _ (List.mem_append_left _ (List.mem_append_left _ (List.mem_append_left _ (List.mem_append_left _ (List.mem_append_right _ h))))))) tyX0_ok nmX0 (by decide) (List.mem_of_getElem? (i := 8) rfl) (fun _ h => h) rfl hnm rfl (tyX0_ok 1 (by decide)) rfl rfl (Nat.le_of_ble_eq_true rfl) dX0_init_23 (fun H locs G => ?_)
  obtain ⟨w6, hw6⟩ : ∃ z, z = upw w5 i (.inr (0, [.ref q1, .ref q2, .null, .null, .int 0])) := ⟨_, rfl⟩
  have G : CG E ad4 (i + 19) w6 sg H locs := by rw [hw6]; exact G
  have ho6 : ∀ k, k ≠ i → w6 k = w5 k := fun k hk => by rw [hw6]; exact upw_ne hk
  have fe0 : w6 i = .inr (0, [.ref q1, .ref q2, .null, .null, .int 0]) := by rw [hw6]; exact upw_eq
  refine lv_aload_n S.1 S.2.1 dX0_init_26 rfl (lv_at hl 0 rfl) ?_
  refine c_new S hX G (C := RX1) (T := TX1) (N := 2) (ci := 1) (fs := [.int 0, .null]) tyX1 (fun _ h => (List.mem_cons_of_mem _ (List.mem_append_left _ (List.mem_append_left _ (List.mem_append_left _ (List.mem_append_right _ h)))))) tyX1_ok (List.mem_of_getElem? (i := 9) rfl) (List.mem_of_getElem? (i := 10) rfl) (List.mem_of_getElem? (i := 11) rfl) rfl (fun j hj => by rcases (show j = 0 ∨ j = 1 by omega) with rfl | rfl <;> rfl) (Nat.le_of_ble_eq_true rfl) (Nat.le_of_ble_eq_true rfl) dX0_init_27 (fun q3 ad5 H faq3 hE5 G => ?_)
  have fah0 : ad5 i = h0 := Eq.trans (hE5 _ (by omega)) fah0
  have faq1 : ad5 (i + 1) = q1 := Eq.trans (hE5 _ (by omega)) faq1
  have faq2 : ad5 (i + 10) = q2 := Eq.trans (hE5 _ (by omega)) faq2
  obtain ⟨w7, hw7⟩ : ∃ z, z = upw w6 (i + 19) (.inr (1, [.int 0, .null])) := ⟨_, rfl⟩
  have G : CG E ad5 (i + 20) w7 sg H locs := by rw [hw7]; exact G
  have ho7 : ∀ k, k ≠ (i + 19) → w7 k = w6 k := fun k hk => by rw [hw7]; exact upw_ne hk
  have fe0 : w7 i = .inr (0, [.ref q1, .ref q2, .null, .null, .int 0]) := Eq.trans (ho7 _ (by omega)) fe0
  have fe19 : w7 (i + 19) = .inr (1, [.int 0, .null]) := by rw [hw7]; exact upw_eq
  refine lv_dup S.1 S.2.1 dX0_init_30 rfl ?_
  refine lv_iconst (v := (0 : Int32)) S.1 S.2.1 dX0_init_31 (by decide) ?_
  refine lv_bipush (v := (6 : Int32)) S.1 S.2.1 dX0_init_32 (by decide) ?_
  refine c_call (As := [.int (0 : Int32), .int (6 : Int32)]) (rest := [.ref q3, .ref h0]) S hX G (c_X1_init6 l E ad5 (i + 19) q3 w7 faq3 fe19) (cwI (bytes := cX1_init) (maxL := 3) 2 S.2.2.2.2 gX0_init_X1_init rfl rfl rfl (S.2.2.2.2 _ (List.mem_of_getElem? (i := 11) rfl)) (S.2.2.2.2 _ (List.mem_of_getElem? (i := 55) rfl)) (S.2.2.2.2 _ (List.mem_of_getElem? (i := 37) rfl)) rfl (by decide +kernel) ⟨Nat.le_of_ble_eq_true rfl, Nat.le_of_ble_eq_true rfl⟩) rfl hl.1 rfl (Nat.le_of_ble_eq_true rfl) ⟨Nat.le_of_ble_eq_true rfl, Nat.le_of_ble_eq_true rfl⟩ dX0_init_34 (fun ad6 w8 H locs hE6 hok8 G => ?_)
  have fah0 : ad6 i = h0 := Eq.trans (hE6 _ (by omega)) fah0
  have faq1 : ad6 (i + 1) = q1 := Eq.trans (hE6 _ (by omega)) faq1
  have faq2 : ad6 (i + 10) = q2 := Eq.trans (hE6 _ (by omega)) faq2
  have faq3 : ad6 (i + 19) = q3 := Eq.trans (hE6 _ (by omega)) faq3
  have fe0 : w8 i = .inr (0, [.ref q1, .ref q2, .null, .null, .int 0]) := Eq.trans (hok8.1 _ (by omega)) fe0
  have G : CG E ad6 (i + 21) w8 sg H locs := G
  refine W.eq (g2 := F0 mg 37 ls [.ref q3, .ref h0]) rfl ?_
  refine c_putF (i := i) (ty := tyX0 2) (ty0 := tyX0) S hX G (C := RX0) (T := TX0) (N := 5) 2 fah0 (by omega) fe0 rfl (fun _ h => (List.mem_cons_of_mem _ (List.mem_append_left _ (List.mem_append_left _ (List.mem_append_left _ (List.mem_append_left _ (List.mem_append_right _ h))))))) tyX0_ok nmX0 (by decide) (List.mem_of_getElem? (i := 12) rfl) (fun _ h => h) rfl hnm rfl (tyX0_ok 2 (by decide)) rfl rfl (Nat.le_of_ble_eq_true rfl) dX0_init_37 (fun H locs G => ?_)
  obtain ⟨w9, hw9⟩ : ∃ z, z = upw w8 i (.inr (0, [.ref q1, .ref q2, .ref q3, .null, .int 0])) := ⟨_, rfl⟩
  have G : CG E ad6 (i + 21) w9 sg H locs := by rw [hw9]; exact G
  have ho9 : ∀ k, k ≠ i → w9 k = w8 k := fun k hk => by rw [hw9]; exact upw_ne hk
  have fe0 : w9 i = .inr (0, [.ref q1, .ref q2, .ref q3, .null, .int 0]) := by rw [hw9]; exact upw_eq
  refine lv_aload_n S.1 S.2.1 dX0_init_40 rfl (lv_at hl 0 rfl) ?_
  refine c_new S hX G (C := RX6) (T := TX6) (N := 4) (ci := 6) (fs := [.null, .null, .null, .null]) tyX6 (fun _ h => (List.mem_cons_of_mem _ (List.mem_append_left _ (List.mem_append_left _ (List.mem_append_right _ h))))) tyX6_ok (List.mem_of_getElem? (i := 13) rfl) (List.mem_of_getElem? (i := 14) rfl) (List.mem_of_getElem? (i := 15) rfl) rfl (fun j hj => by rcases (show j = 0 ∨ j = 1 ∨ j = 2 ∨ j = 3 by omega) with rfl | rfl | rfl | rfl <;> rfl) (Nat.le_of_ble_eq_true rfl) (Nat.le_of_ble_eq_true rfl) dX0_init_41 (fun q4 ad7 H faq4 hE7 G => ?_)
  have fah0 : ad7 i = h0 := Eq.trans (hE7 _ (by omega)) fah0
  have faq1 : ad7 (i + 1) = q1 := Eq.trans (hE7 _ (by omega)) faq1
  have faq2 : ad7 (i + 10) = q2 := Eq.trans (hE7 _ (by omega)) faq2
  have faq3 : ad7 (i + 19) = q3 := Eq.trans (hE7 _ (by omega)) faq3
  obtain ⟨w10, hw10⟩ : ∃ z, z = upw w9 (i + 21) (.inr (6, [.null, .null, .null, .null])) := ⟨_, rfl⟩
  have G : CG E ad7 (i + 22) w10 sg H locs := by rw [hw10]; exact G
  have ho10 : ∀ k, k ≠ (i + 21) → w10 k = w9 k := fun k hk => by rw [hw10]; exact upw_ne hk
  have fe0 : w10 i = .inr (0, [.ref q1, .ref q2, .ref q3, .null, .int 0]) := Eq.trans (ho10 _ (by omega)) fe0
  have fe21 : w10 (i + 21) = .inr (6, [.null, .null, .null, .null]) := by rw [hw10]; exact upw_eq
  refine lv_dup S.1 S.2.1 dX0_init_44 rfl ?_
  refine c_call (As := []) (rest := [.ref q4, .ref h0]) S hX G (c_X6_init l E ad7 (i + 21) q4 w10 faq4 fe21) (cwI (bytes := cX6_init) (maxL := 1) 0 S.2.2.2.2 gX0_init_X6_init rfl rfl rfl (S.2.2.2.2 _ (List.mem_of_getElem? (i := 15) rfl)) (S.2.2.2.2 _ (List.mem_of_getElem? (i := 56) rfl)) (S.2.2.2.2 _ (List.mem_of_getElem? (i := 57) rfl)) rfl (by decide +kernel) ⟨Nat.le_of_ble_eq_true rfl, Nat.le_of_ble_eq_true rfl⟩) rfl hl.1 rfl (Nat.le_of_ble_eq_true rfl) ⟨Nat.le_of_ble_eq_true rfl, Nat.le_of_ble_eq_true rfl⟩ dX0_init_45 (fun ad8 w11 H locs hE8 hok11 G => ?_)
  have fah0 : ad8 i = h0 := Eq.trans (hE8 _ (by omega)) fah0
  have faq1 : ad8 (i + 1) = q1 := Eq.trans (hE8 _ (by omega)) faq1
  have faq2 : ad8 (i + 10) = q2 := Eq.trans (hE8 _ (by omega)) faq2
  have faq3 : ad8 (i + 19) = q3 := Eq.trans (hE8 _ (by omega)) faq3
  have faq4 : ad8 (i + 21) = q4 := Eq.trans (hE8 _ (by omega)) faq4
  have fe0 : w11 i = .inr (0, [.ref q1, .ref q2, .ref q3, .null, .int 0]) := Eq.trans (hok11.1 _ (by omega)) fe0
  have G : CG E ad8 (i + 26) w11 sg H locs := G
  refine W.eq (g2 := F0 mg 48 ls [.ref q4, .ref h0]) rfl ?_
  refine c_putF (i := i) (ty := tyX0 3) (ty0 := tyX0) S hX G (C := RX0) (T := TX0) (N := 5) 3 fah0 (by omega) fe0 rfl (fun _ h => (List.mem_cons_of_mem _ (List.mem_append_left _ (List.mem_append_left _ (List.mem_append_left _ (List.mem_append_left _ (List.mem_append_right _ h))))))) tyX0_ok nmX0 (by decide) (List.mem_of_getElem? (i := 16) rfl) (fun _ h => h) rfl hnm rfl (tyX0_ok 3 (by decide)) rfl rfl (Nat.le_of_ble_eq_true rfl) dX0_init_48 (fun H locs G => ?_)
  obtain ⟨w12, hw12⟩ : ∃ z, z = upw w11 i (.inr (0, [.ref q1, .ref q2, .ref q3, .ref q4, .int 0])) := ⟨_, rfl⟩
  have G : CG E ad8 (i + 26) w12 sg H locs := by rw [hw12]; exact G
  have ho12 : ∀ k, k ≠ i → w12 k = w11 k := fun k hk => by rw [hw12]; exact upw_ne hk
  have fe0 : w12 i = .inr (0, [.ref q1, .ref q2, .ref q3, .ref q4, .int 0]) := by rw [hw12]; exact upw_eq
  refine W.widen (k := 25) (n := 232) (Nat.le_of_ble_eq_true rfl) (Nat.le_of_ble_eq_true rfl) ?_
  exact c_vret S G hr hlk dX0_init_51 (fun k hk => ((hE8 k (by omega)).trans ((hE7 k (by omega)).trans ((hE6 k (by omega)).trans ((hE5 k (by omega)).trans ((hE4 k (by omega)).trans ((hE3 k (by omega)).trans ((hE2 k (by omega)).trans (hE1 k (by omega)))))))))) ⟨fun k hk => ((ho12 k (by omega)).trans ((hok11.1 k (by omega)).trans ((ho10 k (by omega)).trans ((ho9 k (by omega)).trans ((hok8.1 k (by omega)).trans ((ho7 k (by omega)).trans ((ho6 k (by omega)).trans ((hok5.1 k (by omega)).trans ((ho4 k (by omega)).trans ((ho3 k (by omega)).trans ((hok2.1 k (by omega)).trans (ho1 k (by omega))))))))))))), (((((BlkOk.one (kd := 0) (r := z0) (Eq.trans fe0 (by rw [show q1 = ad8 (i + 1) from faq1.symm, show q2 = ad8 (i + 10) from faq2.symm, show q3 = ad8 (i + 19) from faq3.symm, show q4 = ad8 (i + 21) from faq4.symm]; rfl))).app (((hok2.2).ad (closed_of rfl) (fun k (hk : k < (i + 1) + 9) => ((hE8 k (by omega)).trans ((hE7 k (by omega)).trans ((hE6 k (by omega)).trans ((hE5 k (by omega)).trans ((hE4 k (by omega)).trans (hE3 k (by omega))))))))).w (fun k (h1 : (i + 1) ≤ k) (h2 : k < (i + 1) + 9) => ((ho12 k (by omega)).trans ((hok11.1 k (by omega)).trans ((ho10 k (by omega)).trans ((ho9 k (by omega)).trans ((hok8.1 k (by omega)).trans ((ho7 k (by omega)).trans ((ho6 k (by omega)).trans ((hok5.1 k (by omega)).trans ((ho4 k (by omega)).trans (ho3 k (by omega)))))))))))))).app (((hok5.2).ad (closed_of rfl) (fun k (hk : k < (i + 10) + 9) => ((hE8 k (by omega)).trans ((hE7 k (by omega)).trans ((hE6 k (by omega)).trans (hE5 k (by omega))))))).w (fun k (h1 : (i + 10) ≤ k) (h2 : k < (i + 10) + 9) => ((ho12 k (by omega)).trans ((hok11.1 k (by omega)).trans ((ho10 k (by omega)).trans ((ho9 k (by omega)).trans ((hok8.1 k (by omega)).trans ((ho7 k (by omega)).trans (ho6 k (by omega))))))))))).app (((hok8.2).ad (closed_of rfl) (fun k (hk : k < (i + 19) + 2) => ((hE8 k (by omega)).trans (hE7 k (by omega))))).w (fun k (h1 : (i + 19) ≤ k) (h2 : k < (i + 19) + 2) => ((ho12 k (by omega)).trans ((hok11.1 k (by omega)).trans ((ho10 k (by omega)).trans (ho9 k (by omega)))))))).app ((hok11.2).w (fun k (h1 : (i + 21) ≤ k) (h2 : k < (i + 21) + 5) => (ho12 k (by omega)))))⟩
