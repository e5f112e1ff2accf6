theorem bsI_1 {B k : Nat} {I : SI} : bsI B I k (B + 1) = st0 I (B + 1) (B + 19) := by
  unfold bsI
  rw [up_ne (by omega), up_ne (by omega), up_ne (by omega), up_ne (by omega), up_ne (by omega), up_ne (by omega), up_ne (by omega), up_ne (by omega), up_ne (by omega), up_ne (by omega), up_ne (by omega), up_ne (by omega), up_ne (by omega), up_ne (by omega), up_ne (by omega), up_ne (by omega), up_ne (by omega), up_ne (by omega), up_eq]
theorem bsI_2 {B k : Nat} {I : SI} : bsI B I k (B + 2) = st1 I (B + 1) (B + 19) := by
  unfold bsI
  rw [up_ne (by omega), up_ne (by omega), up_ne (by omega), up_ne (by omega), up_ne (by omega), up_ne (by omega), up_ne (by omega), up_ne (by omega), up_ne (by omega), up_ne (by omega), up_ne (by omega), up_ne (by omega), up_ne (by omega), up_ne (by omega), up_ne (by omega), up_ne (by omega), up_ne (by omega), up_eq]
theorem bsI_3 {B k : Nat} {I : SI} : bsI B I k (B + 3) = st2 I (B + 1) (B + 19) := by
  unfold bsI
  rw [up_ne (by omega), up_ne (by omega), up_ne (by omega), up_ne (by omega), up_ne (by omega), up_ne (by omega), up_ne (by omega), up_ne (by omega), up_ne (by omega), up_ne (by omega), up_ne (by omega), up_ne (by omega), up_ne (by omega), up_ne (by omega), up_ne (by omega), up_ne (by omega), up_eq]
theorem bsI_6 {B k : Nat} {I : SI} : bsI B I k (B + 6) = st5 I (B + 1) (B + 19) := by
  unfold bsI
  rw [up_ne (by omega), up_ne (by omega), up_ne (by omega), up_ne (by omega), up_ne (by omega), up_ne (by omega), up_ne (by omega), up_ne (by omega), up_ne (by omega), up_ne (by omega), up_ne (by omega), up_ne (by omega), up_ne (by omega), up_ne (by omega), up_ne (by omega), up_eq]
theorem bsI_7 {B k : Nat} {I : SI} : bsI B I k (B + 7) = st6 I (B + 1) (B + 19) := by
  unfold bsI
  rw [up_ne (by omega), up_ne (by omega), up_ne (by omega), up_ne (by omega), up_ne (by omega), up_ne (by omega), up_ne (by omega), up_ne (by omega), up_ne (by omega), up_ne (by omega), up_ne (by omega), up_ne (by omega), up_ne (by omega), up_ne (by omega), up_eq]
theorem bsI_8 {B k : Nat} {I : SI} : bsI B I k (B + 8) = st7 I (B + 1) (B + 19) k := by
  unfold bsI
  rw [up_ne (by omega), up_ne (by omega), up_ne (by omega), up_ne (by omega), up_ne (by omega), up_ne (by omega), up_ne (by omega), up_ne (by omega), up_ne (by omega), up_ne (by omega), up_ne (by omega), up_ne (by omega), up_ne (by omega), up_eq]
theorem bsI_9 {B k : Nat} {I : SI} : bsI B I k (B + 9) = st8 I (B + 1) (B + 19) := by
  unfold bsI
  rw [up_ne (by omega), up_ne (by omega), up_ne (by omega), up_ne (by omega), up_ne (by omega), up_ne (by omega), up_ne (by omega), up_ne (by omega), up_ne (by omega), up_ne (by omega), up_ne (by omega), up_ne (by omega), up_eq]
theorem bsI_10 {B k : Nat} {I : SI} : bsI B I k (B + 10) = st0 I (B + 10) (B + 19) := by
  unfold bsI
  rw [up_ne (by omega), up_ne (by omega), up_ne (by omega), up_ne (by omega), up_ne (by omega), up_ne (by omega), up_ne (by omega), up_ne (by omega), up_ne (by omega), up_ne (by omega), up_ne (by omega), up_eq]
theorem bsI_11 {B k : Nat} {I : SI} : bsI B I k (B + 11) = st1 I (B + 10) (B + 19) := by
  unfold bsI
  rw [up_ne (by omega), up_ne (by omega), up_ne (by omega), up_ne (by omega), up_ne (by omega), up_ne (by omega), up_ne (by omega), up_ne (by omega), up_ne (by omega), up_ne (by omega), up_eq]
theorem bsI_12 {B k : Nat} {I : SI} : bsI B I k (B + 12) = st2 I (B + 10) (B + 19) := by
  unfold bsI
  rw [up_ne (by omega), up_ne (by omega), up_ne (by omega), up_ne (by omega), up_ne (by omega), up_ne (by omega), up_ne (by omega), up_ne (by omega), up_ne (by omega), up_eq]
theorem bsI_15 {B k : Nat} {I : SI} : bsI B I k (B + 15) = st5 I (B + 10) (B + 19) := by
  unfold bsI
  rw [up_ne (by omega), up_ne (by omega), up_ne (by omega), up_ne (by omega), up_ne (by omega), up_ne (by omega), up_ne (by omega), up_ne (by omega), up_eq]
theorem bsI_16 {B k : Nat} {I : SI} : bsI B I k (B + 16) = st6 I (B + 10) (B + 19) := by
  unfold bsI
  rw [up_ne (by omega), up_ne (by omega), up_ne (by omega), up_ne (by omega), up_ne (by omega), up_ne (by omega), up_ne (by omega), up_eq]
theorem bsI_17 {B k : Nat} {I : SI} : bsI B I k (B + 17) = st7 I (B + 10) (B + 19) k := by
  unfold bsI
  rw [up_ne (by omega), up_ne (by omega), up_ne (by omega), up_ne (by omega), up_ne (by omega), up_ne (by omega), up_eq]
theorem bsI_18 {B k : Nat} {I : SI} : bsI B I k (B + 18) = st8 I (B + 10) (B + 19) := by
  unfold bsI
  rw [up_ne (by omega), up_ne (by omega), up_ne (by omega), up_ne (by omega), up_ne (by omega), up_eq]
theorem bsI_22 {B k : Nat} {I : SI} : bsI B I k (B + 22) = sc1 I B k := by
  unfold bsI
  rw [up_ne (by omega), up_ne (by omega), up_ne (by omega), up_ne (by omega), up_eq]
theorem bsI_23 {B k : Nat} {I : SI} : bsI B I k (B + 23) = sc2 I B k := by
  unfold bsI
  rw [up_ne (by omega), up_ne (by omega), up_ne (by omega), up_eq]
theorem bsI_24 {B k : Nat} {I : SI} : bsI B I k (B + 24) = sc3 I B k := by
  unfold bsI
  rw [up_ne (by omega), up_ne (by omega), up_eq]
theorem bsI_25 {B k : Nat} {I : SI} : bsI B I k (B + 25) = sc4 I B k := by
  unfold bsI
  rw [up_ne (by omega), up_eq]
theorem bsI_0 {B k : Nat} {I : SI} : bsI B I k B = upd (I B) 4 (nI (k + 1)) := by
  unfold bsI
  rw [up_eq]
theorem bsI_ne {B k z : Nat} {I : SI} (h : z < B ∨ B + 26 ≤ z ∨ z = B + 4 ∨ z = B + 5 ∨ z = B + 13 ∨ z = B + 14 ∨ z = B + 19 ∨ z = B + 20 ∨ z = B + 21) : bsI B I k z = I z := by
  unfold bsI
  rw [up_ne (by omega), up_ne (by omega), up_ne (by omega), up_ne (by omega), up_ne (by omega), up_ne (by omega), up_ne (by omega), up_ne (by omega), up_ne (by omega), up_ne (by omega), up_ne (by omega), up_ne (by omega), up_ne (by omega), up_ne (by omega), up_ne (by omega), up_ne (by omega), up_ne (by omega), up_ne (by omega), up_ne (by omega)]
theorem bsL_1 {B : Nat} {I : SI} {L : SL} : bsL B I L (B + 1) = stL I L (B + 1) (B + 19) := by
  unfold bsL
  rw [upL_ne (by omega), upL_eq]
theorem bsL_10 {B : Nat} {I : SI} {L : SL} : bsL B I L (B + 10) = stL I L (B + 10) (B + 19) := by
  unfold bsL
  rw [upL_eq]
theorem bsL_ne {B z : Nat} {I : SI} {L : SL} (h : z ≠ B + 1) (h2 : z ≠ B + 10) : bsL B I L z = L z := by
  unfold bsL
  rw [upL_ne h2, upL_ne h]
theorem brIt_ne {B k0 z n : Nat} {s : SI × SL} (h : z < B ∨ B + 26 ≤ z ∨ z = B + 4 ∨ z = B + 5 ∨ z = B + 13 ∨ z = B + 14 ∨ z = B + 19 ∨ z = B + 20 ∨ z = B + 21) : (brIt B k0 n s).1 z = s.1 z := by
  induction n with
  | zero => rfl
  | succ n ih => exact (bsI_ne h).trans ih
theorem brIt_neL {B k0 z n : Nat} {s : SI × SL} (h : z < B ∨ B + 26 ≤ z) : (brIt B k0 n s).2 z = s.2 z := by
  induction n with
  | zero => rfl
  | succ n ih => exact (bsL_ne (by omega) (by omega)).trans ih
theorem brIt_slot {B k0 n : Nat} {s : SI × SL} (h : s.1 B 4 = nI k0) : (brIt B k0 n s).1 B 4 = nI (k0 + n) := by
  cases n with
  | zero => exact h
  | succ n =>
    show bsI B (brIt B k0 n s).1 (k0 + n) B 4 = _
    rw [bsI_0, upd_eq]
    rfl
theorem brIt_h0 {B k0 n : Nat} {s : SI × SL} (h : isb (s.1 (B + 1) 7)) : isb ((brIt B k0 n s).1 (B + 1) 7) := by
  induction n with
  | zero => exact h
  | succ n ih =>
    show isb (bsI B (brIt B k0 n s).1 (k0 + n) (B + 1) 7)
    rw [bsI_1]
    exact isb_st0 ih
theorem brIt_h1 {B k0 n : Nat} {s : SI × SL} (h : isb (s.1 (B + 10) 7)) : isb ((brIt B k0 n s).1 (B + 10) 7) := by
  induction n with
  | zero => exact h
  | succ n ih =>
    show isb (bsI B (brIt B k0 n s).1 (k0 + n) (B + 10) 7)
    rw [bsI_10]
    exact isb_st0 ih
theorem brIt_s {B k0 n : Nat} {s : SI × SL} : brIt B (k0 + n) 1 (brIt B k0 n s) = brIt B k0 (n + 1) s := rfl
theorem CpB.h0 {I I' : SI} {L L' : SL} {T S : Nat} (h : CpB I' L' T I L S) (g : IsbB I S) : isb (I' (T + 1) 7) ∧ isb (I' (T + 10) 7) := by
  obtain ⟨a, b, c, d⟩ := h
  constructor
  · rw [(d 1 (by decide)).1 7 (by decide) (by decide)]
    exact (g 1 (by decide)).2.1
  · rw [(d 10 (by decide)).1 7 (by decide) (by decide)]
    exact (g 10 (by decide)).2.1
set_option maxHeartbeats 4000000 in
set_option maxRecDepth 100000 in
theorem k_X8_ifGo_ok_0 (l : Launch) (E : Ev) {I : SI} {L : SL} (n : Nat) (k0 : Nat) (hs : I 1 4 = nI k0) (hisb : IsbB I 1) (hk0 : k0 ≤ 100000) (h1 : 1 ≤ n) (h2 : n ≤ 1000) : CS l yX8_ifGo wsX8_ifGo ({ frames := 6, cells := 0, slots := 0, locals := 135 }) E [.ref (E.2.2.2 0), .int (0 : Int32), .int (nI n)] I L (fun vv I' L' => ∃ I2 L2, (CpB I2 L2 27 I L 1 ∧ (∀ z, z < 27 ∨ 53 ≤ z → I2 z = I z) ∧ (∀ z, z < 27 ∨ 53 ≤ z → L2 z = L z)) ∧ vv = some (.int ((brIt 27 k0 n (I2, L2)).1 28 4)) ∧ I' = (brIt 27 k0 n (I2, L2)).1 ∧ L' = (brIt 27 k0 n (I2, L2)).2) := by
  refine CS.of (cc := cX8_ifGo) (maxL := 3) (ret := (some .int)) (by decide) rfl (Nat.le_of_ble_eq_true rfl) ?_
  intro pg en sg mg below meth cg ls S hr hlk hX G hl
  have S : CallFix pg mg cg cX8_ifGo 3 sg _ wsX8_ifGo RX8 := S
  have hl : lv_has ls 3 [(0, .ref (E.2.2.2 0)), (1, .int (0 : Int32)), (2, .int (nI n))] := hl
  refine lv_iload_n S.1 S.2.1 dX8_ifGo_0 rfl (lv_at hl 1 rfl) ?_
  refine s_callS (As := [.int (0 : Int32)]) (rest := []) S hX G (k_X8_isLoad l E (0 : Int32)) (va_cwS (bytes := cX8_isLoad) (maxL := 1) (ret := (some .boolean)) 1 S.2.2.2.2 gX8_ifGo_X8_isLoad rfl rfl rfl (by decide +kernel) ⟨Nat.le_of_ble_eq_true rfl, Nat.le_of_ble_eq_true rfl⟩) rfl hl.1 rfl (Nat.le_of_ble_eq_true rfl) ⟨Nat.zero_le _, Nat.zero_le _⟩ dX8_ifGo_1 (fun v I1 L1 H locs hR G => ?_)
  obtain ⟨hv, hI, hL⟩ := hR
  subst hv
  have G : GS E I L sg H locs := G.same hI hL
  refine W.eq (g2 := F0 mg 4 ls [.int (if ¬ (0 : Int32) < (0 : Int32) ∧ ¬ (1 : Int32) < (0 : Int32) then 1 else 0)]) rfl ?_
  refine s_if_eq_b (P := ¬ (0 : Int32) < (0 : Int32) ∧ ¬ (1 : Int32) < (0 : Int32)) (tgt := 18) S dX8_ifGo_4 (by decide) (fun h => absurd (by decide) h) (fun _ => ?_)
  refine lv_iload_n S.1 S.2.1 dX8_ifGo_7 rfl (lv_at hl 2 rfl) ?_
  refine lv_iconst (v := (1 : Int32)) S.1 S.2.1 dX8_ifGo_8 (by decide) ?_
  refine lv_sipush (v := (1000 : Int32)) S.1 S.2.1 dX8_ifGo_9 (by decide) ?_
  refine s_callS (As := [.int (nI n), .int (1 : Int32), .int (1000 : Int32)]) (rest := []) S hX G (k_X8_isWithin l E (nI n) (1 : Int32) (1000 : Int32)) (va_cwS (bytes := cX8_isWithin) (maxL := 3) (ret := (some .boolean)) 3 S.2.2.2.2 gX8_ifGo_X8_isWithin rfl rfl rfl (by decide +kernel) ⟨Nat.le_of_ble_eq_true rfl, Nat.le_of_ble_eq_true rfl⟩) rfl hl.1 rfl (Nat.le_of_ble_eq_true rfl) ⟨Nat.zero_le _, Nat.zero_le _⟩ dX8_ifGo_12 (fun v I1 L1 H locs hR G => ?_)
  obtain ⟨hv, hI, hL⟩ := hR
  subst hv
  have G : GS E I L sg H locs := G.same hI hL
  refine W.eq (g2 := F0 mg 15 ls [.int (if ¬ (nI n) < (1 : Int32) ∧ ¬ (1000 : Int32) < (nI n) then 1 else 0)]) rfl ?_
  refine s_if_ne_b (P := ¬ (nI n) < (1 : Int32) ∧ ¬ (1000 : Int32) < (nI n)) (tgt := 21) S dX8_ifGo_15 (by decide) (fun _ => ?_) (fun h => absurd (inR h1 h2 (by decide)) h)
  refine lv_aload_n S.1 S.2.1 dX8_ifGo_21 rfl (lv_at hl 0 rfl) ?_
  refine s_get S hX G (i := 0) (kd := 8) (a := (I 0)) (v := .ref (E.2.2.2 27)) (C := RX8) (T := TX8) (N := 4) 1 (rfl : sh 0 = 8) rfl rfl rfl (by decide) rfl (fun _ h => (List.mem_cons_of_mem _ (List.mem_append_left _ (List.mem_append_left _ (List.mem_append_left _ (List.mem_append_left _ (List.mem_append_left _ (List.mem_append_left _ (List.mem_append_right _ h))))))))) (by decide) (List.mem_of_getElem? (i := 2) rfl) (fun _ h => h) dX8_ifGo_22 ?_
  refine lv_aload_n S.1 S.2.1 dX8_ifGo_25 rfl (lv_at hl 0 rfl) ?_
  refine s_get S hX G (i := 0) (kd := 8) (a := (I 0)) (v := .ref (E.2.2.2 1)) (C := RX8) (T := TX8) (N := 4) 0 (rfl : sh 0 = 8) rfl rfl rfl (by decide) rfl (fun _ h => (List.mem_cons_of_mem _ (List.mem_append_left _ (List.mem_append_left _ (List.mem_append_left _ (List.mem_append_left _ (List.mem_append_left _ (List.mem_append_left _ (List.mem_append_right _ h))))))))) (by decide) (List.mem_of_getElem? (i := 3) rfl) (fun _ h => h) dX8_ifGo_26 ?_
  refine s_callV (C := RX0) (As := [.ref (E.2.2.2 1)]) (rest := []) (i := 27) (kd := 0) S hX G (k_X0_copyB l E 27 1 (by unfold IsB; decide) (by unfold IsB; decide) (by decide) hisb) (cwV (bytes := cX0_copyFrom) (maxL := 2) (ret := none) 1 S.2.2.2.2 gX8_ifGo_X0_copyFrom rfl rfl rfl (by decide +kernel) ⟨Nat.le_of_ble_eq_true rfl, Nat.le_of_ble_eq_true rfl⟩) (rfl : sh 27 = 0) rfl rfl rfl (by decide) rfl hl.1 rfl (Nat.le_of_ble_eq_true rfl) ⟨Nat.zero_le _, Nat.zero_le _⟩ dX8_ifGo_29 (fun v I2 L2 H locs hR G => ?_)
  obtain ⟨hv, hCp, hFr, hFrL⟩ := hR
  subst hv
  refine W.eq (g2 := F0 mg 32 ls []) rfl ?_
  refine lv_aload_n S.1 S.2.1 dX8_ifGo_32 rfl (lv_at hl 0 rfl) ?_
  refine s_get S hX G (i := 0) (kd := 8) (a := (I2 0)) (v := .ref (E.2.2.2 27)) (C := RX8) (T := TX8) (N := 4) 1 (rfl : sh 0 = 8) rfl rfl rfl (by decide) rfl (fun _ h => (List.mem_cons_of_mem _ (List.mem_append_left _ (List.mem_append_left _ (List.mem_append_left _ (List.mem_append_left _ (List.mem_append_left _ (List.mem_append_left _ (List.mem_append_right _ h))))))))) (by decide) (List.mem_of_getElem? (i := 2) rfl) (fun _ h => h) dX8_ifGo_33 ?_
  refine lv_iload_n S.1 S.2.1 dX8_ifGo_36 rfl (lv_at hl 2 rfl) ?_
  refine s_callV (C := RX0) (As := [.int (nI n)]) (rest := []) (i := 27) (kd := 0) S hX G (k_X0_pass l E 27 n k0 (by unfold IsB; decide) (by omega) (hCp.1.trans hs) (hCp.h0 hisb).1 (hCp.h0 hisb).2) (cwV (bytes := cX0_pass) (maxL := 4) (ret := (some .int)) 1 S.2.2.2.2 gX8_ifGo_X0_pass rfl rfl rfl (by decide +kernel) ⟨Nat.le_of_ble_eq_true rfl, Nat.le_of_ble_eq_true rfl⟩) (rfl : sh 27 = 0) rfl rfl rfl (by decide) rfl hl.1 rfl (Nat.le_of_ble_eq_true rfl) ⟨Nat.zero_le _, Nat.zero_le _⟩ dX8_ifGo_37 (fun v I3 L3 H locs hR G => ?_)
  obtain ⟨hv, hIp, hLp⟩ := hR
  subst hv
  refine W.eq (g2 := F0 mg 40 ls [.int (brSum 27 k0 n (I2, L2))]) rfl ?_
  refine lv_pop S.1 S.2.1 dX8_ifGo_40 rfl ?_
  refine lv_aload_n S.1 S.2.1 dX8_ifGo_41 rfl (lv_at hl 0 rfl) ?_
  refine s_get S hX G (i := 0) (kd := 8) (a := (I3 0)) (v := .ref (E.2.2.2 27)) (C := RX8) (T := TX8) (N := 4) 1 (rfl : sh 0 = 8) rfl rfl rfl (by decide) rfl (fun _ h => (List.mem_cons_of_mem _ (List.mem_append_left _ (List.mem_append_left _ (List.mem_append_left _ (List.mem_append_left _ (List.mem_append_left _ (List.mem_append_left _ (List.mem_append_right _ h))))))))) (by decide) (List.mem_of_getElem? (i := 2) rfl) (fun _ h => h) dX8_ifGo_42 ?_
  refine lv_iload_n S.1 S.2.1 dX8_ifGo_45 rfl (lv_at hl 1 rfl) ?_
  refine s_callV (C := RX0) (As := [.int (0 : Int32)]) (rest := []) (i := 27) (kd := 0) S hX G (k_X0_loadAt_0 l E 27 (by unfold IsB; decide)) (cwV (bytes := cX0_loadAt) (maxL := 2) (ret := (some (.object "BridgeLegs$Load"))) 1 S.2.2.2.2 gX8_ifGo_X0_loadAt rfl rfl rfl (by decide +kernel) ⟨Nat.le_of_ble_eq_true rfl, Nat.le_of_ble_eq_true rfl⟩) (rfl : sh 27 = 0) rfl rfl rfl (by decide) rfl hl.1 rfl (Nat.le_of_ble_eq_true rfl) ⟨Nat.zero_le _, Nat.zero_le _⟩ dX8_ifGo_46 (fun v I1 L1 H locs hR G => ?_)
  obtain ⟨hv, hI, hL⟩ := hR
  subst hv
  have G : GS E I3 L3 sg H locs := G.same hI hL
  refine W.eq (g2 := F0 mg 49 ls [.ref (E.2.2.2 28)]) rfl ?_
  refine s_getN S hX G (i := 28) (kd := 5) (a := (I3 28)) (v := .int ((I3 28) 4)) (C := RX5) (T := TX5) (N := 13) 4 (rfl : sh 28 = 5) rfl rfl rfl (by decide) rfl (fun _ h => (List.mem_cons_of_mem _ (List.mem_append_left _ (List.mem_append_left _ (List.mem_append_left _ (List.mem_append_left _ (List.mem_append_left _ (List.mem_append_right _ h)))))))) (by decide) (List.mem_of_getElem? (i := 21) rfl) (fun _ h => h) dX8_ifGo_49 ?_
  refine s_iret (x := ((I3 28) 4)) S G hr hlk dX8_ifGo_52 ?_
  exact ⟨I2, L2, ⟨hCp, (fun z hz => hFr z (by omega)), hFrL⟩, (congrArg (fun q : SI => some (Value.int (q 28 4))) hIp), hIp, hLp⟩
set_option maxHeartbeats 4000000 in
set_option maxRecDepth 100000 in
theorem k_X8_ifGo_ok_1 (l : Launch) (E : Ev) {I : SI} {L : SL} (n : Nat) (k0 : Nat) (hs : I 1 4 = nI k0) (hisb : IsbB I 1) (hk0 : k0 ≤ 100000) (h1 : 1 ≤ n) (h2 : n ≤ 1000) : CS l yX8_ifGo wsX8_ifGo ({ frames := 6, cells := 0, slots := 0, locals := 135 }) E [.ref (E.2.2.2 0), .int (1 : Int32), .int (nI n)] I L (fun vv I' L' => ∃ I2 L2, (CpB I2 L2 27 I L 1 ∧ (∀ z, z < 27 ∨ 53 ≤ z → I2 z = I z) ∧ (∀ z, z < 27 ∨ 53 ≤ z → L2 z = L z)) ∧ vv = some (.int ((brIt 27 k0 n (I2, L2)).1 37 4)) ∧ I' = (brIt 27 k0 n (I2, L2)).1 ∧ L' = (brIt 27 k0 n (I2, L2)).2) := by
  refine CS.of (cc := cX8_ifGo) (maxL := 3) (ret := (some .int)) (by decide) rfl (Nat.le_of_ble_eq_true rfl) ?_
  intro pg en sg mg below meth cg ls S hr hlk hX G hl
  have S : CallFix pg mg cg cX8_ifGo 3 sg _ wsX8_ifGo RX8 := S
  have hl : lv_has ls 3 [(0, .ref (E.2.2.2 0)), (1, .int (1 : Int32)), (2, .int (nI n))] := hl
  refine lv_iload_n S.1 S.2.1 dX8_ifGo_0 rfl (lv_at hl 1 rfl) ?_
  refine s_callS (As := [.int (1 : Int32)]) (rest := []) S hX G (k_X8_isLoad l E (1 : Int32)) (va_cwS (bytes := cX8_isLoad) (maxL := 1) (ret := (some .boolean)) 1 S.2.2.2.2 gX8_ifGo_X8_isLoad rfl rfl rfl (by decide +kernel) ⟨Nat.le_of_ble_eq_true rfl, Nat.le_of_ble_eq_true rfl⟩) rfl hl.1 rfl (Nat.le_of_ble_eq_true rfl) ⟨Nat.zero_le _, Nat.zero_le _⟩ dX8_ifGo_1 (fun v I1 L1 H locs hR G => ?_)
  obtain ⟨hv, hI, hL⟩ := hR
  subst hv
  have G : GS E I L sg H locs := G.same hI hL
  refine W.eq (g2 := F0 mg 4 ls [.int (if ¬ (1 : Int32) < (0 : Int32) ∧ ¬ (1 : Int32) < (1 : Int32) then 1 else 0)]) rfl ?_
  refine s_if_eq_b (P := ¬ (1 : Int32) < (0 : Int32) ∧ ¬ (1 : Int32) < (1 : Int32)) (tgt := 18) S dX8_ifGo_4 (by decide) (fun h => absurd (by decide) h) (fun _ => ?_)
  refine lv_iload_n S.1 S.2.1 dX8_ifGo_7 rfl (lv_at hl 2 rfl) ?_
  refine lv_iconst (v := (1 : Int32)) S.1 S.2.1 dX8_ifGo_8 (by decide) ?_
  refine lv_sipush (v := (1000 : Int32)) S.1 S.2.1 dX8_ifGo_9 (by decide) ?_
  refine s_callS (As := [.int (nI n), .int (1 : Int32), .int (1000 : Int32)]) (rest := []) S hX G (k_X8_isWithin l E (nI n) (1 : Int32) (1000 : Int32)) (va_cwS (bytes := cX8_isWithin) (maxL := 3) (ret := (some .boolean)) 3 S.2.2.2.2 gX8_ifGo_X8_isWithin rfl rfl rfl (by decide +kernel) ⟨Nat.le_of_ble_eq_true rfl, Nat.le_of_ble_eq_true rfl⟩) rfl hl.1 rfl (Nat.le_of_ble_eq_true rfl) ⟨Nat.zero_le _, Nat.zero_le _⟩ dX8_ifGo_12 (fun v I1 L1 H locs hR G => ?_)
  obtain ⟨hv, hI, hL⟩ := hR
  subst hv
  have G : GS E I L sg H locs := G.same hI hL
  refine W.eq (g2 := F0 mg 15 ls [.int (if ¬ (nI n) < (1 : Int32) ∧ ¬ (1000 : Int32) < (nI n) then 1 else 0)]) rfl ?_
  refine s_if_ne_b (P := ¬ (nI n) < (1 : Int32) ∧ ¬ (1000 : Int32) < (nI n)) (tgt := 21) S dX8_ifGo_15 (by decide) (fun _ => ?_) (fun h => absurd (inR h1 h2 (by decide)) h)
  refine lv_aload_n S.1 S.2.1 dX8_ifGo_21 rfl (lv_at hl 0 rfl) ?_
  refine s_get S hX G (i := 0) (kd := 8) (a := (I 0)) (v := .ref (E.2.2.2 27)) (C := RX8) (T := TX8) (N := 4) 1 (rfl : sh 0 = 8) rfl rfl rfl (by decide) rfl (fun _ h => (List.mem_cons_of_mem _ (List.mem_append_left _ (List.mem_append_left _ (List.mem_append_left _ (List.mem_append_left _ (List.mem_append_left _ (List.mem_append_left _ (List.mem_append_right _ h))))))))) (by decide) (List.mem_of_getElem? (i := 2) rfl) (fun _ h => h) dX8_ifGo_22 ?_
  refine lv_aload_n S.1 S.2.1 dX8_ifGo_25 rfl (lv_at hl 0 rfl) ?_
  refine s_get S hX G (i := 0) (kd := 8) (a := (I 0)) (v := .ref (E.2.2.2 1)) (C := RX8) (T := TX8) (N := 4) 0 (rfl : sh 0 = 8) rfl rfl rfl (by decide) rfl (fun _ h => (List.mem_cons_of_mem _ (List.mem_append_left _ (List.mem_append_left _ (List.mem_append_left _ (List.mem_append_left _ (List.mem_append_left _ (List.mem_append_left _ (List.mem_append_right _ h))))))))) (by decide) (List.mem_of_getElem? (i := 3) rfl) (fun _ h => h) dX8_ifGo_26 ?_
  refine s_callV (C := RX0) (As := [.ref (E.2.2.2 1)]) (rest := []) (i := 27) (kd := 0) S hX G (k_X0_copyB l E 27 1 (by unfold IsB; decide) (by unfold IsB; decide) (by decide) hisb) (cwV (bytes := cX0_copyFrom) (maxL := 2) (ret := none) 1 S.2.2.2.2 gX8_ifGo_X0_copyFrom rfl rfl rfl (by decide +kernel) ⟨Nat.le_of_ble_eq_true rfl, Nat.le_of_ble_eq_true rfl⟩) (rfl : sh 27 = 0) rfl rfl rfl (by decide) rfl hl.1 rfl (Nat.le_of_ble_eq_true rfl) ⟨Nat.zero_le _, Nat.zero_le _⟩ dX8_ifGo_29 (fun v I2 L2 H locs hR G => ?_)
  obtain ⟨hv, hCp, hFr, hFrL⟩ := hR
  subst hv
  refine W.eq (g2 := F0 mg 32 ls []) rfl ?_
  refine lv_aload_n S.1 S.2.1 dX8_ifGo_32 rfl (lv_at hl 0 rfl) ?_
  refine s_get S hX G (i := 0) (kd := 8) (a := (I2 0)) (v := .ref (E.2.2.2 27)) (C := RX8) (T := TX8) (N := 4) 1 (rfl : sh 0 = 8) rfl rfl rfl (by decide) rfl (fun _ h => (List.mem_cons_of_mem _ (List.mem_append_left _ (List.mem_append_left _ (List.mem_append_left _ (List.mem_append_left _ (List.mem_append_left _ (List.mem_append_left _ (List.mem_append_right _ h))))))))) (by decide) (List.mem_of_getElem? (i := 2) rfl) (fun _ h => h) dX8_ifGo_33 ?_
  refine lv_iload_n S.1 S.2.1 dX8_ifGo_36 rfl (lv_at hl 2 rfl) ?_
  refine s_callV (C := RX0) (As := [.int (nI n)]) (rest := []) (i := 27) (kd := 0) S hX G (k_X0_pass l E 27 n k0 (by unfold IsB; decide) (by omega) (hCp.1.trans hs) (hCp.h0 hisb).1 (hCp.h0 hisb).2) (cwV (bytes := cX0_pass) (maxL := 4) (ret := (some .int)) 1 S.2.2.2.2 gX8_ifGo_X0_pass rfl rfl rfl (by decide +kernel) ⟨Nat.le_of_ble_eq_true rfl, Nat.le_of_ble_eq_true rfl⟩) (rfl : sh 27 = 0) rfl rfl rfl (by decide) rfl hl.1 rfl (Nat.le_of_ble_eq_true rfl) ⟨Nat.zero_le _, Nat.zero_le _⟩ dX8_ifGo_37 (fun v I3 L3 H locs hR G => ?_)
  obtain ⟨hv, hIp, hLp⟩ := hR
  subst hv
  refine W.eq (g2 := F0 mg 40 ls [.int (brSum 27 k0 n (I2, L2))]) rfl ?_
  refine lv_pop S.1 S.2.1 dX8_ifGo_40 rfl ?_
  refine lv_aload_n S.1 S.2.1 dX8_ifGo_41 rfl (lv_at hl 0 rfl) ?_
  refine s_get S hX G (i := 0) (kd := 8) (a := (I3 0)) (v := .ref (E.2.2.2 27)) (C := RX8) (T := TX8) (N := 4) 1 (rfl : sh 0 = 8) rfl rfl rfl (by decide) rfl (fun _ h => (List.mem_cons_of_mem _ (List.mem_append_left _ (List.mem_append_left _ (List.mem_append_left _ (List.mem_append_left _ (List.mem_append_left _ (List.mem_append_left _ (List.mem_append_right _ h))))))))) (by decide) (List.mem_of_getElem? (i := 2) rfl) (fun _ h => h) dX8_ifGo_42 ?_
  refine lv_iload_n S.1 S.2.1 dX8_ifGo_45 rfl (lv_at hl 1 rfl) ?_
  refine s_callV (C := RX0) (As := [.int (1 : Int32)]) (rest := []) (i := 27) (kd := 0) S hX G (k_X0_loadAt_1 l E 27 (by unfold IsB; decide)) (cwV (bytes := cX0_loadAt) (maxL := 2) (ret := (some (.object "BridgeLegs$Load"))) 1 S.2.2.2.2 gX8_ifGo_X0_loadAt rfl rfl rfl (by decide +kernel) ⟨Nat.le_of_ble_eq_true rfl, Nat.le_of_ble_eq_true rfl⟩) (rfl : sh 27 = 0) rfl rfl rfl (by decide) rfl hl.1 rfl (Nat.le_of_ble_eq_true rfl) ⟨Nat.zero_le _, Nat.zero_le _⟩ dX8_ifGo_46 (fun v I1 L1 H locs hR G => ?_)
  obtain ⟨hv, hI, hL⟩ := hR
  subst hv
  have G : GS E I3 L3 sg H locs := G.same hI hL
  refine W.eq (g2 := F0 mg 49 ls [.ref (E.2.2.2 37)]) rfl ?_
  refine s_getN S hX G (i := 37) (kd := 5) (a := (I3 37)) (v := .int ((I3 37) 4)) (C := RX5) (T := TX5) (N := 13) 4 (rfl : sh 37 = 5) rfl rfl rfl (by decide) rfl (fun _ h => (List.mem_cons_of_mem _ (List.mem_append_left _ (List.mem_append_left _ (List.mem_append_left _ (List.mem_append_left _ (List.mem_append_left _ (List.mem_append_right _ h)))))))) (by decide) (List.mem_of_getElem? (i := 21) rfl) (fun _ h => h) dX8_ifGo_49 ?_
  refine s_iret (x := ((I3 37) 4)) S G hr hlk dX8_ifGo_52 ?_
  exact ⟨I2, L2, ⟨hCp, (fun z hz => hFr z (by omega)), hFrL⟩, (congrArg (fun q : SI => some (Value.int (q 37 4))) hIp), hIp, hLp⟩
set_option maxHeartbeats 4000000 in
set_option maxRecDepth 100000 in
theorem k_X8_ifGo_no (l : Launch) (E : Ev) {I : SI} {L : SL} (load : Int32) (slots : Int32) (ht : ¬ (IN1 load ∧ INR slots 1 1000)) : CS l yX8_ifGo wsX8_ifGo ({ frames := 2, cells := 0, slots := 0, locals := 42 }) E [.ref (E.2.2.2 0), .int load, .int slots] I L (fun vv I' L' => vv = some (.int (-2000000001 : Int32)) ∧ I' = I ∧ L' = L) := by
  refine CS.of (cc := cX8_ifGo) (maxL := 3) (ret := (some .int)) (by decide) rfl (Nat.le_of_ble_eq_true rfl) ?_
  intro pg en sg mg below meth cg ls S hr hlk hX G hl
  have S : CallFix pg mg cg cX8_ifGo 3 sg _ wsX8_ifGo RX8 := S
  have hl : lv_has ls 3 [(0, .ref (E.2.2.2 0)), (1, .int load), (2, .int slots)] := hl
  refine lv_iload_n S.1 S.2.1 dX8_ifGo_0 rfl (lv_at hl 1 rfl) ?_
  refine s_callS (As := [.int load]) (rest := []) S hX G (k_X8_isLoad l E load) (va_cwS (bytes := cX8_isLoad) (maxL := 1) (ret := (some .boolean)) 1 S.2.2.2.2 gX8_ifGo_X8_isLoad rfl rfl rfl (by decide +kernel) ⟨Nat.le_of_ble_eq_true rfl, Nat.le_of_ble_eq_true rfl⟩) rfl hl.1 rfl (Nat.le_of_ble_eq_true rfl) ⟨Nat.zero_le _, Nat.zero_le _⟩ dX8_ifGo_1 (fun v I1 L1 H locs hR G => ?_)
  obtain ⟨hv, hI, hL⟩ := hR
  subst hv
  have G : GS E I L sg H locs := G.same hI hL
  refine W.eq (g2 := F0 mg 4 ls [.int (if ¬ load < (0 : Int32) ∧ ¬ (1 : Int32) < load then 1 else 0)]) rfl ?_
  refine s_if_eq_b (P := ¬ load < (0 : Int32) ∧ ¬ (1 : Int32) < load) (tgt := 18) S dX8_ifGo_4 (by decide) (fun c_1 => ?_) (fun c_1 => ?_)
  · refine lv_ldc (v := (-2000000001 : Int32)) S.1 S.2.1 S.2.2.2.1 (S.2.2.2.2 _ (List.mem_of_getElem? (i := 1) rfl)) dX8_ifGo_18 ?_
    refine s_iret (x := (-2000000001 : Int32)) S G hr hlk dX8_ifGo_20 ?_
    exact ⟨rfl, rfl, rfl⟩
  · refine lv_iload_n S.1 S.2.1 dX8_ifGo_7 rfl (lv_at hl 2 rfl) ?_
    refine lv_iconst (v := (1 : Int32)) S.1 S.2.1 dX8_ifGo_8 (by decide) ?_
    refine lv_sipush (v := (1000 : Int32)) S.1 S.2.1 dX8_ifGo_9 (by decide) ?_
    refine s_callS (As := [.int slots, .int (1 : Int32), .int (1000 : Int32)]) (rest := []) S hX G (k_X8_isWithin l E slots (1 : Int32) (1000 : Int32)) (va_cwS (bytes := cX8_isWithin) (maxL := 3) (ret := (some .boolean)) 3 S.2.2.2.2 gX8_ifGo_X8_isWithin rfl rfl rfl (by decide +kernel) ⟨Nat.le_of_ble_eq_true rfl, Nat.le_of_ble_eq_true rfl⟩) rfl hl.1 rfl (Nat.le_of_ble_eq_true rfl) ⟨Nat.zero_le _, Nat.zero_le _⟩ dX8_ifGo_12 (fun v I1 L1 H locs hR G => ?_)
    obtain ⟨hv, hI, hL⟩ := hR
    subst hv
    have G : GS E I L sg H locs := G.same hI hL
    refine W.eq (g2 := F0 mg 15 ls [.int (if ¬ slots < (1 : Int32) ∧ ¬ (1000 : Int32) < slots then 1 else 0)]) rfl ?_
    refine s_if_ne_b (P := ¬ slots < (1 : Int32) ∧ ¬ (1000 : Int32) < slots) (tgt := 21) S dX8_ifGo_15 (by decide) (fun c_2 => ?_) (fun c_2 => ?_)
    · exact absurd (And.intro c_1 c_2) ht
    · refine lv_ldc (v := (-2000000001 : Int32)) S.1 S.2.1 S.2.2.2.1 (S.2.2.2.2 _ (List.mem_of_getElem? (i := 1) rfl)) dX8_ifGo_18 ?_
      refine s_iret (x := (-2000000001 : Int32)) S G hr hlk dX8_ifGo_20 ?_
      exact ⟨rfl, rfl, rfl⟩
