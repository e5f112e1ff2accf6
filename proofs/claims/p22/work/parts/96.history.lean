theorem CpB.cong {I' I2 I Is : SI} {L2 Ls : SL} {T S : Nat} (h : CpB I2 L2 T Is Ls S) (h1 : ∀ z, T ≤ z → z < T + 26 → I' z = I2 z) (h2 : ∀ z, S ≤ z → z < S + 26 → I z = Is z) : CpB I' L2 T I Ls S := by
  obtain ⟨a, b, c, d⟩ := h
  refine ⟨?_, ?_, ?_, ?_⟩
  · rw [h1 T (by omega) (by omega), h2 S (by omega) (by omega)]
    exact a
  · intro f hf
    rw [h1 _ (by omega) (by omega), h2 _ (by omega) (by omega)]
    exact b f hf
  · intro o h22 h26 f hf
    rw [h1 _ (by omega) (by omega), h2 _ (by omega) (by omega)]
    exact c o h22 h26 f hf
  · intro X hX
    obtain ⟨e1, e2, e3, e4, e5, e6, e7⟩ := d X hX
    refine ⟨?_, ?_, ?_, ?_, ?_, ?_, e7⟩
    · intro f h4 hf
      rw [h1 _ (by omega) (by omega), h2 _ (by omega) (by omega)]
      exact e1 f h4 hf
    · intro f hf
      rw [h1 _ (by omega) (by omega), h2 _ (by omega) (by omega)]
      exact e2 f hf
    · intro f hf
      rw [h1 _ (by omega) (by omega), h2 _ (by omega) (by omega)]
      exact e3 f hf
    · intro f hf
      rw [h1 _ (by omega) (by omega), h2 _ (by omega) (by omega)]
      exact e4 f hf
    · rw [h1 _ (by omega) (by omega), h2 _ (by omega) (by omega)]
      exact e5
    · intro f hf
      rw [h1 (T + X + 6) (by omega) (by omega), h2 (S + X + 6) (by omega) (by omega), h1 (T + X + 7) (by omega) (by omega), h2 (S + X + 7) (by omega) (by omega), h1 (T + X + 8) (by omega) (by omega), h2 (S + X + 8) (by omega) (by omega)]
      exact e6 f hf
/-- the block where the next state goes -/
def recT (o kp : Nat) : Nat := 55 + 26 * ((o + kp) % 4)
def RecP (I : SI) (L : SL) (I' : SI) (L' : SL) (o kp : Nat) : Prop := CpB I' L' (recT o kp) I L 1 ∧ (∀ z, (z < recT o kp ∨ recT o kp + 26 ≤ z) → z ≠ 53 → I' z = I z) ∧ (∀ z, (z < recT o kp ∨ recT o kp + 26 ≤ z) → L' z = L z) ∧ I' 53 1 = nI (if kp = 4 then (o + 1) % 4 else o) ∧ I' 53 2 = nI (recK kp)
def RstP (I : SI) (L : SL) (I' : SI) (L' : SL) (o kq : Nat) : Prop := CpB I' L' 1 I L (recT o kq) ∧ (∀ z, (z < 1 ∨ 27 ≤ z ∨ z = 5 ∨ z = 14 ∨ z = 20) → z ≠ 53 → I' z = I z) ∧ (∀ z, (z < 1 ∨ 27 ≤ z) → L' z = L z) ∧ I' 53 1 = nI o ∧ I' 53 2 = nI kq
theorem recT_of {o kp T : Nat} (h : T = 55 + 26 * ((o + kp) % 4)) : recT o kp = T := by rw [h]; rfl
theorem recT_of4 {o T : Nat} (ho : o < 4) (h : T = 55 + 26 * (((o + 1) % 4 + 3) % 4)) : recT o 4 = T := by
  rw [h]
  unfold recT
  omega
theorem RecP.fr {I : SI} {L : SL} {I' : SI} {L' : SL} {o kp z : Nat} (h : RecP I L I' L' o kp) (h1 : z < 55) (h2 : z ≠ 53) : I' z = I z := h.2.1 z (by unfold recT; omega) h2
theorem RecP.frL {I : SI} {L : SL} {I' : SI} {L' : SL} {o kp z : Nat} (h : RecP I L I' L' o kp) (h1 : z < 55) : L' z = L z := h.2.2.1 z (by unfold recT; omega)
theorem RecP.fr2 {I : SI} {L : SL} {I' : SI} {L' : SL} {o kp z : Nat} (h : RecP I L I' L' o kp) (h1 : 159 ≤ z) : I' z = I z := h.2.1 z (by unfold recT; omega) (by omega)
theorem isbB_up2 {I : SI} {r : Nat → Int32} {o kq T : Nat} (e : recT o kq = T) (h : IsbB I (recT o kq)) : IsbB (up I 53 r) T := by
  rw [e] at h
  have hT : 55 ≤ T := by rw [← e]; unfold recT; omega
  intro X hX
  obtain ⟨h1, h2, h3⟩ := h X hX
  refine ⟨?_, ?_, ?_⟩
  · rw [up_ne (by omega)]; exact h1
  · rw [up_ne (by omega)]; exact h2
  · intro f hf
    rw [up_ne (by omega)]
    exact h3 f hf
theorem isbB_up {I : SI} {r : Nat → Int32} (h : IsbB I 1) : IsbB (up I 53 r) 1 := by
  intro X hX
  rw [up_ne (by omega), up_ne (by omega)]
  exact h X hX
theorem k_X0_copyB (l : Launch) (E : Ev) {I : SI} {L : SL} (B : Nat) (C : Nat) (hB : IsB B) (hC : IsB C) (hBC : B + 25 < C ∨ C + 25 < B) (hisb : IsbB I C) : CS l yX0_copyFrom wsX0_copyFrom ({ frames := 3, cells := 0, slots := 0, locals := 60 }) E [.ref (E.2.2.2 B), .ref (E.2.2.2 C)] I L (fun vv I' L' => vv = none ∧ CpB I' L' B I L C ∧ (∀ z, z < B ∨ B + 26 ≤ z ∨ z = B + 4 ∨ z = B + 13 ∨ z = B + 19 → I' z = I z) ∧ ∀ z, z < B ∨ B + 26 ≤ z → L' z = L z) := by
  exact k_X0_copyFrom l E B C _ _ _ _ _ _ _ _ _ _ _ _ _ _ _ _ _ _ _ _ _ _ _ _ _ _ _ _ _ _ _ _ _ _ _ _ _ _ _ _ _ _ _ _ _ _ _ _ hB hC rfl rfl rfl rfl rfl rfl rfl rfl rfl rfl rfl rfl rfl rfl rfl rfl rfl rfl rfl rfl rfl rfl rfl rfl rfl rfl rfl rfl rfl rfl rfl rfl rfl rfl rfl rfl rfl rfl rfl rfl rfl rfl rfl rfl rfl rfl rfl rfl hBC ((hisb 1 (by decide)).1) ((hisb 1 (by decide)).2.1) ((hisb 1 (by decide)).2.2 0 (by decide)) ((hisb 1 (by decide)).2.2 1 (by decide)) ((hisb 1 (by decide)).2.2 2 (by decide)) ((hisb 10 (by decide)).1) ((hisb 10 (by decide)).2.1) ((hisb 10 (by decide)).2.2 0 (by decide)) ((hisb 10 (by decide)).2.2 1 (by decide)) ((hisb 10 (by decide)).2.2 2 (by decide))
set_option maxHeartbeats 4000000 in
set_option maxRecDepth 100000 in
theorem k_X2_record (l : Launch) (E : Ev) {I : SI} {L : SL} (h : Nat → Int32) (o kp : Nat) (e_h : I (53) = h) (ho : h 1 = nI o) (hk : h 2 = nI kp) (ho4 : o < 4) (hkp : kp ≤ 4) (hisb : IsbB I 1) : CS l yX2_record wsX2_record ({ frames := 4, cells := 0, slots := 0, locals := 81 }) E [.ref (E.2.2.2 53), .ref (E.2.2.2 1)] I L (fun vv I' L' => vv = none ∧ RecP I L I' L' o kp) := by
  refine CS.of (cc := cX2_record) (maxL := 2) (ret := none) (by decide) rfl (Nat.le_of_ble_eq_true rfl) ?_
  intro pg en sg mg below meth cg ls S hr hlk hX G hl
  have S : CallFix pg mg cg cX2_record 2 sg _ wsX2_record RX2 := S
  have hl : lv_has ls 2 [(0, .ref (E.2.2.2 53)), (1, .ref (E.2.2.2 1))] := hl
  rcases (show kp = 4 ∨ kp < 4 by omega) with rfl | h4
  · refine lv_aload_n S.1 S.2.1 dX2_record_0 rfl (lv_at hl 0 rfl) ?_
    refine s_get S hX G (i := 53) (kd := 2) (a := h) (v := .int (h 2)) (C := RX2) (T := TX2) (N := 3) 2 (rfl : sh 53 = 2) e_h rfl rfl (by decide) rfl (fun _ h => (List.mem_cons_of_mem _ (List.mem_append_left _ (List.mem_append_left _ (List.mem_append_left _ (List.mem_append_left _ (List.mem_append_left _ (List.mem_append_left _ (List.mem_append_right _ h))))))))) (by decide) (List.mem_of_getElem? (i := 1) rfl) (fun _ h => h) dX2_record_1 ?_
    refine s_conv (y := (nI 4)) hk ?_
    refine lv_iconst (v := (4 : Int32)) S.1 S.2.1 dX2_record_4 (by decide) ?_
    refine lv_icmp_ne (tgt := 30) S.1 S.2.1 dX2_record_5 (by decide) (fun h => absurd (rfl : nI 4 = (4 : Int32)) h) (fun _ => ?_)
    refine lv_aload_n S.1 S.2.1 dX2_record_8 rfl (lv_at hl 0 rfl) ?_
    refine lv_aload_n S.1 S.2.1 dX2_record_9 rfl (lv_at hl 0 rfl) ?_
    refine s_get S hX G (i := 53) (kd := 2) (a := h) (v := .int (h 1)) (C := RX2) (T := TX2) (N := 3) 1 (rfl : sh 53 = 2) e_h rfl rfl (by decide) rfl (fun _ h => (List.mem_cons_of_mem _ (List.mem_append_left _ (List.mem_append_left _ (List.mem_append_left _ (List.mem_append_left _ (List.mem_append_left _ (List.mem_append_left _ (List.mem_append_right _ h))))))))) (by decide) (List.mem_of_getElem? (i := 2) rfl) (fun _ h => h) dX2_record_10 ?_
    refine s_conv (y := (nI o)) ho ?_
    refine lv_iconst (v := (1 : Int32)) S.1 S.2.1 dX2_record_13 (by decide) ?_
    refine s_iadd (v := (nI (o + 1))) S dX2_record_14 (nI_add o 1) ?_
    refine lv_iconst (v := (4 : Int32)) S.1 S.2.1 dX2_record_15 (by decide) ?_
    refine s_irem (v := (nI ((o + 1) % 4))) S dX2_record_16 (by decide) (pk_rem (d := 4) (by omega) (by decide) (by decide)) ?_
    refine s_put S hX G (i := 53) (kd := 2) (a := h) (a' := (upd h 1 (nI ((o + 1) % 4)))) (I' := (up I 53 (upd h 1 (nI ((o + 1) % 4))))) (v := .int (nI ((o + 1) % 4))) (ty := .int) (ty0 := tyX2) (C := RX2) (T := TX2) (N := 3) 1 (rfl : sh 53 = 2) e_h rfl rfl rfl (by decide) rfl (fun _ h => (List.mem_cons_of_mem _ (List.mem_append_left _ (List.mem_append_left _ (List.mem_append_left _ (List.mem_append_left _ (List.mem_append_left _ (List.mem_append_left _ (List.mem_append_right _ h))))))))) tyX2_ok nmX2 (by decide) (List.mem_of_getElem? (i := 2) rfl) (fun _ h => h) rfl (by decide +kernel) rfl rfl (Nat.le_of_ble_eq_true rfl) dX2_record_17 (fun H locs G => ?_)
    refine lv_aload_n S.1 S.2.1 dX2_record_20 rfl (lv_at hl 0 rfl) ?_
    refine lv_dup S.1 S.2.1 dX2_record_21 rfl ?_
    refine s_get S hX G (i := 53) (kd := 2) (a := (upd h 1 (nI ((o + 1) % 4)))) (v := .int (h 2)) (C := RX2) (T := TX2) (N := 3) 2 (rfl : sh 53 = 2) up_eq rfl rfl (by decide) rfl (fun _ h => (List.mem_cons_of_mem _ (List.mem_append_left _ (List.mem_append_left _ (List.mem_append_left _ (List.mem_append_left _ (List.mem_append_left _ (List.mem_append_left _ (List.mem_append_right _ h))))))))) (by decide) (List.mem_of_getElem? (i := 1) rfl) (fun _ h => h) dX2_record_22 ?_
    refine s_conv (y := (nI 4)) hk ?_
    refine lv_iconst (v := (1 : Int32)) S.1 S.2.1 dX2_record_25 (by decide) ?_
    refine s_isub (v := (nI 3)) S dX2_record_26 (pk_sub (a := 4) (b := 1) (by decide)) ?_
    refine s_put S hX G (i := 53) (kd := 2) (a := (upd h 1 (nI ((o + 1) % 4)))) (a' := (upd (upd h 1 (nI ((o + 1) % 4))) 2 (nI 3))) (I' := (up I 53 (upd (upd h 1 (nI ((o + 1) % 4))) 2 (nI 3)))) (v := .int (nI 3)) (ty := .int) (ty0 := tyX2) (C := RX2) (T := TX2) (N := 3) 2 (rfl : sh 53 = 2) up_eq rfl rfl (by rw [up_up]) (by decide) rfl (fun _ h => (List.mem_cons_of_mem _ (List.mem_append_left _ (List.mem_append_left _ (List.mem_append_left _ (List.mem_append_left _ (List.mem_append_left _ (List.mem_append_left _ (List.mem_append_right _ h))))))))) tyX2_ok nmX2 (by decide) (List.mem_of_getElem? (i := 1) rfl) (fun _ h => h) rfl (by decide +kernel) rfl rfl (Nat.le_of_ble_eq_true rfl) dX2_record_27 (fun H locs G => ?_)
    refine lv_aload_n S.1 S.2.1 dX2_record_30 rfl (lv_at hl 0 rfl) ?_
    refine s_get S hX G (i := 53) (kd := 2) (a := (upd (upd h 1 (nI ((o + 1) % 4))) 2 (nI 3))) (v := .ref (E.2.2.2 54)) (C := RX2) (T := TX2) (N := 3) 0 (rfl : sh 53 = 2) up_eq rfl rfl (by decide) rfl (fun _ h => (List.mem_cons_of_mem _ (List.mem_append_left _ (List.mem_append_left _ (List.mem_append_left _ (List.mem_append_left _ (List.mem_append_left _ (List.mem_append_left _ (List.mem_append_right _ h))))))))) (by decide) (List.mem_of_getElem? (i := 3) rfl) (fun _ h => h) dX2_record_31 ?_
    refine lv_aload_n S.1 S.2.1 dX2_record_34 rfl (lv_at hl 0 rfl) ?_
    refine s_get S hX G (i := 53) (kd := 2) (a := (upd (upd h 1 (nI ((o + 1) % 4))) 2 (nI 3))) (v := .int (nI ((o + 1) % 4))) (C := RX2) (T := TX2) (N := 3) 1 (rfl : sh 53 = 2) up_eq rfl rfl (by decide) rfl (fun _ h => (List.mem_cons_of_mem _ (List.mem_append_left _ (List.mem_append_left _ (List.mem_append_left _ (List.mem_append_left _ (List.mem_append_left _ (List.mem_append_left _ (List.mem_append_right _ h))))))))) (by decide) (List.mem_of_getElem? (i := 2) rfl) (fun _ h => h) dX2_record_35 ?_
    refine lv_aload_n S.1 S.2.1 dX2_record_38 rfl (lv_at hl 0 rfl) ?_
    refine s_get S hX G (i := 53) (kd := 2) (a := (upd (upd h 1 (nI ((o + 1) % 4))) 2 (nI 3))) (v := .int (nI 3)) (C := RX2) (T := TX2) (N := 3) 2 (rfl : sh 53 = 2) up_eq rfl rfl (by decide) rfl (fun _ h => (List.mem_cons_of_mem _ (List.mem_append_left _ (List.mem_append_left _ (List.mem_append_left _ (List.mem_append_left _ (List.mem_append_left _ (List.mem_append_left _ (List.mem_append_right _ h))))))))) (by decide) (List.mem_of_getElem? (i := 1) rfl) (fun _ h => h) dX2_record_39 ?_
    refine s_iadd (v := (nI (((o + 1) % 4) + 3))) S dX2_record_42 (nI_add ((o + 1) % 4) 3) ?_
    refine lv_iconst (v := (4 : Int32)) S.1 S.2.1 dX2_record_43 (by decide) ?_
    refine s_irem (v := (nI (((o + 1) % 4 + 3) % 4))) S dX2_record_44 (by decide) (pk_rem (d := 4) (by omega) (by decide) (by decide)) ?_
    obtain ⟨T, hTe⟩ : ∃ T, T = 55 + 26 * (((o + 1) % 4 + 3) % 4) := ⟨_, rfl⟩
    have hT : IsB T := isB_h (j := (((o + 1) % 4 + 3) % 4)) (by omega) hTe
    refine s_aald S hX G (i := 54) (q := T) (rfl : sh 54 = 13) (vp_in_nI (by omega) (by decide)) (by rw [(nI_clamp (by omega)), hTe]) dX2_record_45 ?_
    refine lv_aload_n S.1 S.2.1 dX2_record_46 rfl (lv_at hl 1 rfl) ?_
    refine s_callV (C := RX0) (As := [.ref (E.2.2.2 1)]) (rest := []) (i := T) (kd := 0) S hX G (k_X0_copyB l E T 1 hT (by unfold IsB; decide) (by omega) (isbB_up hisb)) (cwV (bytes := cX0_copyFrom) (maxL := 2) (ret := none) 1 S.2.2.2.2 gX2_record_X0_copyFrom rfl rfl rfl (by decide +kernel) ⟨Nat.le_of_ble_eq_true rfl, Nat.le_of_ble_eq_true rfl⟩) (hT 0 (by decide)) rfl rfl rfl (by decide) rfl hl.1 rfl (Nat.le_of_ble_eq_true rfl) ⟨Nat.zero_le _, Nat.zero_le _⟩ dX2_record_47 (fun v I2 L2 H locs hR G => ?_)
    obtain ⟨hv, hCp, hFr, hFrL⟩ := hR
    subst hv
    refine W.eq (g2 := F0 mg 50 ls []) rfl ?_
    refine lv_aload_n S.1 S.2.1 dX2_record_50 rfl (lv_at hl 0 rfl) ?_
    refine lv_dup S.1 S.2.1 dX2_record_51 rfl ?_
    refine s_get S hX G (i := 53) (kd := 2) (a := (upd (upd h 1 (nI ((o + 1) % 4))) 2 (nI 3))) (v := .int ((upd (upd h 1 (nI ((o + 1) % 4))) 2 (nI 3)) 2)) (C := RX2) (T := TX2) (N := 3) 2 (rfl : sh 53 = 2) (Eq.trans (hFr 53 (by omega)) up_eq) rfl rfl (by decide) rfl (fun _ h => (List.mem_cons_of_mem _ (List.mem_append_left _ (List.mem_append_left _ (List.mem_append_left _ (List.mem_append_left _ (List.mem_append_left _ (List.mem_append_left _ (List.mem_append_right _ h))))))))) (by decide) (List.mem_of_getElem? (i := 1) rfl) (fun _ h => h) dX2_record_52 ?_
    refine lv_iconst (v := (1 : Int32)) S.1 S.2.1 dX2_record_55 (by decide) ?_
    refine s_iadd (v := (((upd (upd h 1 (nI ((o + 1) % 4))) 2 (nI 3)) 2) + (1 : Int32))) S dX2_record_56 rfl ?_
    refine lv_topi (fun y_1 ey_1 => ?_)
    refine s_put S hX G (i := 53) (kd := 2) (a := (upd (upd h 1 (nI ((o + 1) % 4))) 2 (nI 3))) (a' := (upd (upd (upd h 1 (nI ((o + 1) % 4))) 2 (nI 3)) 2 y_1)) (I' := (up I2 53 (upd (upd (upd h 1 (nI ((o + 1) % 4))) 2 (nI 3)) 2 y_1))) (v := .int y_1) (ty := .int) (ty0 := tyX2) (C := RX2) (T := TX2) (N := 3) 2 (rfl : sh 53 = 2) (Eq.trans (hFr 53 (by omega)) up_eq) rfl rfl rfl (by decide) rfl (fun _ h => (List.mem_cons_of_mem _ (List.mem_append_left _ (List.mem_append_left _ (List.mem_append_left _ (List.mem_append_left _ (List.mem_append_left _ (List.mem_append_left _ (List.mem_append_right _ h))))))))) tyX2_ok nmX2 (by decide) (List.mem_of_getElem? (i := 1) rfl) (fun _ h => h) rfl (by decide +kernel) rfl rfl (Nat.le_of_ble_eq_true rfl) dX2_record_57 (fun H locs G => ?_)
    refine s_vret S G hr hlk dX2_record_60 ?_
    exact ⟨rfl, (show CpB (up I2 53 (upd (upd (upd h 1 (nI ((o + 1) % 4))) 2 (nI 3)) 2 y_1)) L2 (recT o 4) I L 1 from by rw [recT_of4 ho4 hTe]; exact hCp.cong (fun z h1 h2 => up_ne (by omega)) (fun z h1 h2 => (up_ne (by omega)).symm)), (fun z hz hz2 => Eq.trans (up_ne hz2) (Eq.trans (hFr z (by have := recT_of4 ho4 hTe; omega)) (up_ne hz2))), (fun z hz => hFrL z (by have := recT_of4 ho4 hTe; omega)), (Eq.trans (congrFun up_eq 1) (by rw [if_pos rfl]; rfl)), (Eq.trans (congrFun up_eq 2) (by rw [recK_4]; subst ey_1; exact nI_add 3 1))⟩
  · refine lv_aload_n S.1 S.2.1 dX2_record_0 rfl (lv_at hl 0 rfl) ?_
    refine s_get S hX G (i := 53) (kd := 2) (a := h) (v := .int (h 2)) (C := RX2) (T := TX2) (N := 3) 2 (rfl : sh 53 = 2) e_h rfl rfl (by decide) rfl (fun _ h => (List.mem_cons_of_mem _ (List.mem_append_left _ (List.mem_append_left _ (List.mem_append_left _ (List.mem_append_left _ (List.mem_append_left _ (List.mem_append_left _ (List.mem_append_right _ h))))))))) (by decide) (List.mem_of_getElem? (i := 1) rfl) (fun _ h => h) dX2_record_1 ?_
    refine s_conv (y := (nI kp)) hk ?_
    refine lv_iconst (v := (4 : Int32)) S.1 S.2.1 dX2_record_4 (by decide) ?_
    refine lv_icmp_ne (tgt := 30) S.1 S.2.1 dX2_record_5 (by decide) (fun _ => ?_) (fun h => absurd h (nI_ne (b := 4) (by omega) (by decide) (by omega)))
    refine lv_aload_n S.1 S.2.1 dX2_record_30 rfl (lv_at hl 0 rfl) ?_
    refine s_get S hX G (i := 53) (kd := 2) (a := h) (v := .ref (E.2.2.2 54)) (C := RX2) (T := TX2) (N := 3) 0 (rfl : sh 53 = 2) e_h rfl rfl (by decide) rfl (fun _ h => (List.mem_cons_of_mem _ (List.mem_append_left _ (List.mem_append_left _ (List.mem_append_left _ (List.mem_append_left _ (List.mem_append_left _ (List.mem_append_left _ (List.mem_append_right _ h))))))))) (by decide) (List.mem_of_getElem? (i := 3) rfl) (fun _ h => h) dX2_record_31 ?_
    refine lv_aload_n S.1 S.2.1 dX2_record_34 rfl (lv_at hl 0 rfl) ?_
    refine s_get S hX G (i := 53) (kd := 2) (a := h) (v := .int (h 1)) (C := RX2) (T := TX2) (N := 3) 1 (rfl : sh 53 = 2) e_h rfl rfl (by decide) rfl (fun _ h => (List.mem_cons_of_mem _ (List.mem_append_left _ (List.mem_append_left _ (List.mem_append_left _ (List.mem_append_left _ (List.mem_append_left _ (List.mem_append_left _ (List.mem_append_right _ h))))))))) (by decide) (List.mem_of_getElem? (i := 2) rfl) (fun _ h => h) dX2_record_35 ?_
    refine s_conv (y := (nI o)) ho ?_
    refine lv_aload_n S.1 S.2.1 dX2_record_38 rfl (lv_at hl 0 rfl) ?_
    refine s_get S hX G (i := 53) (kd := 2) (a := h) (v := .int (h 2)) (C := RX2) (T := TX2) (N := 3) 2 (rfl : sh 53 = 2) e_h rfl rfl (by decide) rfl (fun _ h => (List.mem_cons_of_mem _ (List.mem_append_left _ (List.mem_append_left _ (List.mem_append_left _ (List.mem_append_left _ (List.mem_append_left _ (List.mem_append_left _ (List.mem_append_right _ h))))))))) (by decide) (List.mem_of_getElem? (i := 1) rfl) (fun _ h => h) dX2_record_39 ?_
    refine s_conv (y := (nI kp)) hk ?_
    refine s_iadd (v := (nI (o + kp))) S dX2_record_42 (nI_add o kp) ?_
    refine lv_iconst (v := (4 : Int32)) S.1 S.2.1 dX2_record_43 (by decide) ?_
    refine s_irem (v := (nI ((o + kp) % 4))) S dX2_record_44 (by decide) (pk_rem (d := 4) (by omega) (by decide) (by decide)) ?_
    obtain ⟨T, hTe⟩ : ∃ T, T = 55 + 26 * ((o + kp) % 4) := ⟨_, rfl⟩
    have hT : IsB T := isB_h (j := ((o + kp) % 4)) (by omega) hTe
    refine s_aald S hX G (i := 54) (q := T) (rfl : sh 54 = 13) (vp_in_nI (by omega) (by decide)) (by rw [(nI_clamp (by omega)), hTe]) dX2_record_45 ?_
    refine lv_aload_n S.1 S.2.1 dX2_record_46 rfl (lv_at hl 1 rfl) ?_
    refine s_callV (C := RX0) (As := [.ref (E.2.2.2 1)]) (rest := []) (i := T) (kd := 0) S hX G (k_X0_copyB l E T 1 hT (by unfold IsB; decide) (by omega) hisb) (cwV (bytes := cX0_copyFrom) (maxL := 2) (ret := none) 1 S.2.2.2.2 gX2_record_X0_copyFrom rfl rfl rfl (by decide +kernel) ⟨Nat.le_of_ble_eq_true rfl, Nat.le_of_ble_eq_true rfl⟩) (hT 0 (by decide)) rfl rfl rfl (by decide) rfl hl.1 rfl (Nat.le_of_ble_eq_true rfl) ⟨Nat.zero_le _, Nat.zero_le _⟩ dX2_record_47 (fun v I2 L2 H locs hR G => ?_)
    obtain ⟨hv, hCp, hFr, hFrL⟩ := hR
    subst hv
    refine W.eq (g2 := F0 mg 50 ls []) rfl ?_
    refine lv_aload_n S.1 S.2.1 dX2_record_50 rfl (lv_at hl 0 rfl) ?_
    refine lv_dup S.1 S.2.1 dX2_record_51 rfl ?_
    refine s_get S hX G (i := 53) (kd := 2) (a := h) (v := .int (h 2)) (C := RX2) (T := TX2) (N := 3) 2 (rfl : sh 53 = 2) (Eq.trans (hFr 53 (by omega)) e_h) rfl rfl (by decide) rfl (fun _ h => (List.mem_cons_of_mem _ (List.mem_append_left _ (List.mem_append_left _ (List.mem_append_left _ (List.mem_append_left _ (List.mem_append_left _ (List.mem_append_left _ (List.mem_append_right _ h))))))))) (by decide) (List.mem_of_getElem? (i := 1) rfl) (fun _ h => h) dX2_record_52 ?_
    refine s_conv (y := (nI kp)) hk ?_
    refine lv_iconst (v := (1 : Int32)) S.1 S.2.1 dX2_record_55 (by decide) ?_
    refine s_iadd (v := (nI (kp + 1))) S dX2_record_56 (nI_add kp 1) ?_
    refine s_put S hX G (i := 53) (kd := 2) (a := h) (a' := (upd h 2 (nI (kp + 1)))) (I' := (up I2 53 (upd h 2 (nI (kp + 1))))) (v := .int (nI (kp + 1))) (ty := .int) (ty0 := tyX2) (C := RX2) (T := TX2) (N := 3) 2 (rfl : sh 53 = 2) (Eq.trans (hFr 53 (by omega)) e_h) rfl rfl rfl (by decide) rfl (fun _ h => (List.mem_cons_of_mem _ (List.mem_append_left _ (List.mem_append_left _ (List.mem_append_left _ (List.mem_append_left _ (List.mem_append_left _ (List.mem_append_left _ (List.mem_append_right _ h))))))))) tyX2_ok nmX2 (by decide) (List.mem_of_getElem? (i := 1) rfl) (fun _ h => h) rfl (by decide +kernel) rfl rfl (Nat.le_of_ble_eq_true rfl) dX2_record_57 (fun H locs G => ?_)
    refine s_vret S G hr hlk dX2_record_60 ?_
    exact ⟨rfl, (show CpB (up I2 53 (upd h 2 (nI (kp + 1)))) L2 (recT o kp) I L 1 from by rw [recT_of hTe]; exact hCp.cong (fun z h1 h2 => up_ne (by omega)) (fun z h1 h2 => rfl)), (fun z hz hz2 => Eq.trans (up_ne hz2) (Eq.trans (hFr z (by have := recT_of hTe; omega)) rfl)), (fun z hz => hFrL z (by have := recT_of hTe; omega)), (Eq.trans (congrFun up_eq 1) (by rw [if_neg (by omega)]; exact ho)), (Eq.trans (congrFun up_eq 2) (by rw [recK_lt h4]; rfl))⟩
set_option maxHeartbeats 4000000 in
set_option maxRecDepth 100000 in
theorem k_X2_restore (l : Launch) (E : Ev) {I : SI} {L : SL} (h : Nat → Int32) (o kq : Nat) (e_h : I (53) = h) (ho : h 1 = nI o) (hk : h 2 = nI (kq + 1)) (ho4 : o < 4) (hkq : kq < 4) (hisb : IsbB I (recT o kq)) : CS l yX2_restore wsX2_restore ({ frames := 4, cells := 0, slots := 0, locals := 81 }) E [.ref (E.2.2.2 53), .ref (E.2.2.2 1)] I L (fun vv I' L' => vv = none ∧ RstP I L I' L' o kq) := by
  refine CS.of (cc := cX2_restore) (maxL := 2) (ret := none) (by decide) rfl (Nat.le_of_ble_eq_true rfl) ?_
  intro pg en sg mg below meth cg ls S hr hlk hX G hl
  have S : CallFix pg mg cg cX2_restore 2 sg _ wsX2_restore RX2 := S
  have hl : lv_has ls 2 [(0, .ref (E.2.2.2 53)), (1, .ref (E.2.2.2 1))] := hl
  refine lv_aload_n S.1 S.2.1 dX2_restore_0 rfl (lv_at hl 0 rfl) ?_
  refine s_get S hX G (i := 53) (kd := 2) (a := h) (v := .int (h 2)) (C := RX2) (T := TX2) (N := 3) 2 (rfl : sh 53 = 2) e_h rfl rfl (by decide) rfl (fun _ h => (List.mem_cons_of_mem _ (List.mem_append_left _ (List.mem_append_left _ (List.mem_append_left _ (List.mem_append_left _ (List.mem_append_left _ (List.mem_append_left _ (List.mem_append_right _ h))))))))) (by decide) (List.mem_of_getElem? (i := 1) rfl) (fun _ h => h) dX2_restore_1 ?_
  refine s_conv (y := (nI (kq + 1))) hk ?_
  refine lv_if_le (tgt := 37) S.1 S.2.1 dX2_restore_4 (by decide) (fun h => absurd h (by exact Int32.not_le.mpr (Int32.lt_iff_toInt_lt.mpr (by rw [nI_toInt (by omega)]; exact Int.ofNat_lt.mpr (Nat.succ_pos kq))))) (fun _ => ?_)
  refine lv_aload_n S.1 S.2.1 dX2_restore_7 rfl (lv_at hl 0 rfl) ?_
  refine lv_dup S.1 S.2.1 dX2_restore_8 rfl ?_
  refine s_get S hX G (i := 53) (kd := 2) (a := h) (v := .int (h 2)) (C := RX2) (T := TX2) (N := 3) 2 (rfl : sh 53 = 2) e_h rfl rfl (by decide) rfl (fun _ h => (List.mem_cons_of_mem _ (List.mem_append_left _ (List.mem_append_left _ (List.mem_append_left _ (List.mem_append_left _ (List.mem_append_left _ (List.mem_append_left _ (List.mem_append_right _ h))))))))) (by decide) (List.mem_of_getElem? (i := 1) rfl) (fun _ h => h) dX2_restore_9 ?_
  refine s_conv (y := (nI (kq + 1))) hk ?_
  refine lv_iconst (v := (1 : Int32)) S.1 S.2.1 dX2_restore_12 (by decide) ?_
  refine s_isub (v := (nI kq)) S dX2_restore_13 (pk_sub (a := kq + 1) (b := 1) (by omega)) ?_
  refine s_put S hX G (i := 53) (kd := 2) (a := h) (a' := (upd h 2 (nI kq))) (I' := (up I 53 (upd h 2 (nI kq)))) (v := .int (nI kq)) (ty := .int) (ty0 := tyX2) (C := RX2) (T := TX2) (N := 3) 2 (rfl : sh 53 = 2) e_h rfl rfl rfl (by decide) rfl (fun _ h => (List.mem_cons_of_mem _ (List.mem_append_left _ (List.mem_append_left _ (List.mem_append_left _ (List.mem_append_left _ (List.mem_append_left _ (List.mem_append_left _ (List.mem_append_right _ h))))))))) tyX2_ok nmX2 (by decide) (List.mem_of_getElem? (i := 1) rfl) (fun _ h => h) rfl (by decide +kernel) rfl rfl (Nat.le_of_ble_eq_true rfl) dX2_restore_14 (fun H locs G => ?_)
  refine lv_aload_n S.1 S.2.1 dX2_restore_17 rfl (lv_at hl 1 rfl) ?_
  refine lv_aload_n S.1 S.2.1 dX2_restore_18 rfl (lv_at hl 0 rfl) ?_
  refine s_get S hX G (i := 53) (kd := 2) (a := (upd h 2 (nI kq))) (v := .ref (E.2.2.2 54)) (C := RX2) (T := TX2) (N := 3) 0 (rfl : sh 53 = 2) up_eq rfl rfl (by decide) rfl (fun _ h => (List.mem_cons_of_mem _ (List.mem_append_left _ (List.mem_append_left _ (List.mem_append_left _ (List.mem_append_left _ (List.mem_append_left _ (List.mem_append_left _ (List.mem_append_right _ h))))))))) (by decide) (List.mem_of_getElem? (i := 2) rfl) (fun _ h => h) dX2_restore_19 ?_
  refine lv_aload_n S.1 S.2.1 dX2_restore_22 rfl (lv_at hl 0 rfl) ?_
  refine s_get S hX G (i := 53) (kd := 2) (a := (upd h 2 (nI kq))) (v := .int (h 1)) (C := RX2) (T := TX2) (N := 3) 1 (rfl : sh 53 = 2) up_eq rfl rfl (by decide) rfl (fun _ h => (List.mem_cons_of_mem _ (List.mem_append_left _ (List.mem_append_left _ (List.mem_append_left _ (List.mem_append_left _ (List.mem_append_left _ (List.mem_append_left _ (List.mem_append_right _ h))))))))) (by decide) (List.mem_of_getElem? (i := 3) rfl) (fun _ h => h) dX2_restore_23 ?_
  refine s_conv (y := (nI o)) ho ?_
  refine lv_aload_n S.1 S.2.1 dX2_restore_26 rfl (lv_at hl 0 rfl) ?_
  refine s_get S hX G (i := 53) (kd := 2) (a := (upd h 2 (nI kq))) (v := .int (nI kq)) (C := RX2) (T := TX2) (N := 3) 2 (rfl : sh 53 = 2) up_eq rfl rfl (by decide) rfl (fun _ h => (List.mem_cons_of_mem _ (List.mem_append_left _ (List.mem_append_left _ (List.mem_append_left _ (List.mem_append_left _ (List.mem_append_left _ (List.mem_append_left _ (List.mem_append_right _ h))))))))) (by decide) (List.mem_of_getElem? (i := 1) rfl) (fun _ h => h) dX2_restore_27 ?_
  refine s_iadd (v := (nI (o + kq))) S dX2_restore_30 (nI_add o kq) ?_
  refine lv_iconst (v := (4 : Int32)) S.1 S.2.1 dX2_restore_31 (by decide) ?_
  refine s_irem (v := (nI ((o + kq) % 4))) S dX2_restore_32 (by decide) (pk_rem (d := 4) (by omega) (by decide) (by decide)) ?_
  obtain ⟨T, hTe⟩ : ∃ T, T = 55 + 26 * ((o + kq) % 4) := ⟨_, rfl⟩
  have hT : IsB T := isB_h (j := ((o + kq) % 4)) (by omega) hTe
  refine s_aald S hX G (i := 54) (q := T) (rfl : sh 54 = 13) (vp_in_nI (by omega) (by decide)) (by rw [(nI_clamp (by omega)), hTe]) dX2_restore_33 ?_
  refine s_callV (C := RX0) (As := [.ref (E.2.2.2 T)]) (rest := []) (i := 1) (kd := 0) S hX G (k_X0_copyB l E 1 T (by unfold IsB; decide) hT (by omega) (isbB_up2 (recT_of hTe) hisb)) (cwV (bytes := cX0_copyFrom) (maxL := 2) (ret := none) 1 S.2.2.2.2 gX2_restore_X0_copyFrom rfl rfl rfl (by decide +kernel) ⟨Nat.le_of_ble_eq_true rfl, Nat.le_of_ble_eq_true rfl⟩) (rfl : sh 1 = 0) rfl rfl rfl (by decide) rfl hl.1 rfl (Nat.le_of_ble_eq_true rfl) ⟨Nat.zero_le _, Nat.zero_le _⟩ dX2_restore_34 (fun v I2 L2 H locs hR G => ?_)
  obtain ⟨hv, hCp, hFr, hFrL⟩ := hR
  subst hv
  refine W.eq (g2 := F0 mg 37 ls []) rfl ?_
  refine s_vret S G hr hlk dX2_restore_37 ?_
  exact ⟨rfl, (show CpB I2 L2 1 I L (recT o kq) from by rw [recT_of hTe]; exact hCp.cong (fun z h1 h2 => rfl) (fun z h1 h2 => (up_ne (by omega)).symm)), (fun z hz hz2 => Eq.trans (hFr z (by omega)) (up_ne hz2)), (fun z hz => hFrL z hz), (Eq.trans (congrFun (Eq.trans (hFr 53 (by omega)) up_eq) 1) ho), (Eq.trans (congrFun (Eq.trans (hFr 53 (by omega)) up_eq) 2) rfl)⟩
