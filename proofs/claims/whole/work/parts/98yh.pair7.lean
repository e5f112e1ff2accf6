theorem chr_n {c : Nat} (h : c < 65536) : chr (nI c) := congrArg Value.int (i2c_n h)
/-- the text alone has changed -/
theorem RelC.txt {I I' : SI} {L L' : SL} {d : Nat → Int32} {sz : Int64} {wa : Nat → Int32} {lz : Nat → Int64} {g g' : Nat → Int32} {k o kp n n' : Nat} (h : RelC I L d sz wa lz g k o kp n) (hI : ∀ z, z < 159 → I' z = I z) (hL : ∀ z, z < 159 → L' z = L z) (hT : RelT I' g' n') : RelC I' L' d sz wa lz g' k o kp n' :=
  ⟨h.1.cong (fun z a b => hI z (by omega)) (fun z a b => hL z (by omega)) (fun _ _ => rfl), h.2.1.cong (fun z hz => hI z (by omega)) (fun z a b => hL z (by omega)) (fun _ _ => rfl) (fun _ _ => rfl), hT⟩
theorem P_type {l : Launch} {E : Ev} {I : SI} {L : SL} (h : Rel I L) (ch : Int32) : PR l E yX8_type yX9_type wsX8_type wsX9_type [.int ch] I L := by
  have h' := h
  obtain ⟨k, o, kp, n, hC, h2, h8⟩ := h
  have hB := hC.1
  have hR := hB.1
  have hk := hB.2.1
  have hisb := hR.isb
  obtain ⟨ho4, hkp, ho, hkk, hH⟩ := hC.2.1
  have hn80 := hC.2.2.1
  have hxc := hC.2.2.2.1
  by_cases t : INR ch 32 126
  · obtain ⟨c, a1, a2, rfl⟩ := ofR (a := 32) (b := 126) (by decide) (by decide) t
    rcases Nat.lt_or_ge n 80 with q | q
    · refine CX.of (k_X8_type_ok (I := I) (L := L) l E c _ _ n rfl rfl hxc q a1 a2) ⟨rfl, rfl, Nat.le_of_ble_eq_true rfl, Nat.le_of_ble_eq_true rfl⟩ (fun v I1 L1 hh => ?_)
      obtain ⟨rfl, eI, eL⟩ := hh
      have fm : ∀ z, 161 ≤ z → I1 z = I z := fun z hz => by rw [eI, up_ne (by omega), up_ne (by omega)]
      have hT : RelT I1 (upd (I 166) n (nI c)) (n + 1) := by
        refine ⟨by omega, by rw [eI, up_ne (by decide), up_eq, upd_eq], fun j hj => ?_⟩
        rw [eI, up_eq]
        by_cases e : j = n
        · subst e
          rw [upd_eq, upd_eq]
          exact ⟨rfl, chr_n (by omega)⟩
        · rw [upd_ne e, upd_ne e]
          exact hC.2.2.2.2 j (by omega)
      have hC2 := hC.txt (I' := I1) (L' := L1) (fun z hz => by rw [eI, up_ne (by omega), up_ne (by omega)]) (fun z hz => by rw [eL]) hT
      refine ⟨_, rfl, CX.of (k_X9_type_ok (I := I1) (L := L1) l E c _ _ n rfl rfl (by rw [fm 161 (by decide)]; exact h8) q a1 a2) ⟨rfl, rfl, Nat.le_of_ble_eq_true rfl, Nat.le_of_ble_eq_true rfl⟩ (fun v2 I2 L2 hh => ?_)⟩
      obtain ⟨e0, eI2, eL2⟩ := hh
      rw [fm 161 (by decide), fm 166 (by decide)] at eI2
      exact ⟨e0, Rel.mk2 hC2 (fun z hz => by rw [eI2, up_ne (by omega), up_ne (by omega)]) (fun z hz => by rw [eL2]) (fun z hz => by rw [eI2, up_ne (by decide), up_ne (by decide), fm 162 (by decide)]) (by rw [eL2, eL]) (fun z hz => by rw [eI2, up_ne (by decide), up_ne (by decide), fm 163 (by decide)]) (fun z hz => by rw [eL2, eL]) (fun z hz => by rw [eI2, up_ne (by decide), up_eq]) (by rw [eI2, up_eq, upd_ne (by decide)]; exact h2) (by rw [eI2, up_eq, upd_eq])⟩
    · have e80 : n = 80 := by omega
      subst e80
      exact LK h' (k_X8_type_lim (I := I) (L := L) l E c _ rfl hxc a1 a2) (k_X9_type_lim (I := I) (L := L) l E c _ rfl h8 a1 a2) ⟨rfl, rfl, Nat.le_of_ble_eq_true rfl, Nat.le_of_ble_eq_true rfl⟩ ⟨rfl, rfl, Nat.le_of_ble_eq_true rfl, Nat.le_of_ble_eq_true rfl⟩ (rfl)
  · exact LK h' (k_X8_type_no (I := I) (L := L) l E ch t) (k_X9_type_no (I := I) (L := L) l E ch t) ⟨rfl, rfl, Nat.le_of_ble_eq_true rfl, Nat.le_of_ble_eq_true rfl⟩ ⟨rfl, rfl, Nat.le_of_ble_eq_true rfl, Nat.le_of_ble_eq_true rfl⟩ (rfl)
theorem P_clearText {l : Launch} {E : Ev} {I : SI} {L : SL} (h : Rel I L) : PR l E yX8_clearText yX9_clearText wsX8_clearText wsX9_clearText [] I L := by
  have h' := h
  obtain ⟨k, o, kp, n, hC, h2, h8⟩ := h
  have hB := hC.1
  have hR := hB.1
  have hk := hB.2.1
  have hisb := hR.isb
  obtain ⟨ho4, hkp, ho, hkk, hH⟩ := hC.2.1
  have hxc := hC.2.2.2.1
  refine CX.of (k_X8_clearText (I := I) (L := L) l E _ rfl) ⟨rfl, rfl, Nat.le_of_ble_eq_true rfl, Nat.le_of_ble_eq_true rfl⟩ (fun v I1 L1 hh => ?_)
  obtain ⟨rfl, eI, eL⟩ := hh
  have fm : ∀ z, 161 ≤ z → I1 z = I z := fun z hz => by rw [eI, up_ne (by omega)]
  have hT : RelT I1 (I 166) 0 := ⟨by omega, by rw [eI, up_eq, upd_eq]; rfl, fun j hj => absurd hj (Nat.not_lt_zero j)⟩
  have hC2 := hC.txt (I' := I1) (L' := L1) (fun z hz => by rw [eI, up_ne (by omega)]) (fun z hz => by rw [eL]) hT
  refine ⟨_, rfl, CX.of (k_X9_clearText (I := I1) (L := L1) l E _ rfl) ⟨rfl, rfl, Nat.le_of_ble_eq_true rfl, Nat.le_of_ble_eq_true rfl⟩ (fun v2 I2 L2 hh => ?_)⟩
  obtain ⟨e0, eI2, eL2⟩ := hh
  rw [fm 161 (by decide)] at eI2 e0
  refine ⟨by rw [e0, hxc, h8], Rel.mk2 hC2 (fun z hz => by rw [eI2, up_ne (by omega)]) (fun z hz => by rw [eL2]) (fun z hz => by rw [eI2, up_ne (by decide), fm 162 (by decide)]) (by rw [eL2, eL]) (fun z hz => by rw [eI2, up_ne (by decide), fm 163 (by decide)]) (fun z hz => by rw [eL2, eL]) (fun z hz => by rw [eI2, up_ne (by decide), fm 166 (by decide)]) (by rw [eI2, up_eq, upd_ne (by decide)]; exact h2) (by rw [eI2, up_eq, upd_eq]; rfl)⟩
