theorem UntS_congr {f g : Nat → Int32} {am x : Int32} (e : ∀ j, j ≤ 1000 → f j = g j) (h : UntS f am x) : UntS g am x := by
  rcases h with ⟨m, h1, h2, h3, rfl⟩ | ⟨h1, rfl⟩
  · exact Or.inl ⟨m, h1, fun j hj => by rw [← e j (by omega)]; exact h2 j hj, by rw [← e m h1]; exact h3, rfl⟩
  · exact Or.inr ⟨fun j hj => by rw [← e j hj]; exact h1 j hj, rfl⟩
/-- the trial alone has changed -/
theorem RelC.trial {I I' : SI} {L L' : SL} {d : Nat → Int32} {sz : Int64} {wa : Nat → Int32} {lz : Nat → Int64} {g : Nat → Int32} {k o kp n : Nat} (h : RelC I L d sz wa lz g k o kp n) (hI : ∀ z, z < 27 ∨ 53 ≤ z → I' z = I z) (hL : ∀ z, z < 27 ∨ 53 ≤ z → L' z = L z) : RelC I' L' d sz wa lz g k o kp n :=
  ⟨h.1.cong (fun z a b => hI z (by omega)) (fun z a b => hL z (by omega)) (fun _ _ => rfl), h.2.1.cong (fun z hz => hI z (by omega)) (fun z a b => hL z (by omega)) (fun _ _ => rfl) (fun _ _ => rfl), h.2.2.cong (hI 159 (by decide)) (hI 160 (by decide)) (fun _ _ => rfl)⟩
theorem trial_lo {I J I1 : SI} {L M : SL} {d : Nat → Int32} {sz : Int64} {k m : Nat} (h : RB 1 I L d sz k) (hk : k ≤ 100000) (c : CpB J M 27 I L 1) (hm : m ≤ 2000) (X L' : Nat) (hX : (X = 28 ∧ L' = 40) ∨ (X = 37 ∧ L' = 70)) : (brIt 27 k m (J, M)).1 X 4 = gsN d m (L' + 4) := by
  have a := ((h.copy c).iter m (by omega)).1
  rcases hX with ⟨rfl, rfl⟩ | ⟨rfl, rfl⟩
  · exact a.2.2.2.1.2.2.1.1
  · exact a.2.2.2.2.1.2.2.1.1
theorem cp270 {f g : Nat → Int32} {z : Nat} (h : z < 270) : va_cpy f g 0 0 270 z = f z := by
  unfold va_cpy
  rw [if_pos (by omega)]
  congr 1
  omega
theorem P_ifGo {l : Launch} {E : Ev} {I : SI} {L : SL} (h : Rel I L) (load : Int32) (slots : Int32) : PR l E yX8_ifGo yX9_ifGo wsX8_ifGo wsX9_ifGo [.int load, .int slots] I L := by
  have h' := h
  obtain ⟨k, o, kp, n, hC, h2, h8⟩ := h
  have hB := hC.1
  have hR := hB.1
  have hk := hB.2.1
  have hisb := hR.isb
  obtain ⟨ho4, hkp, ho, hkk, hH⟩ := hC.2.1
  by_cases t : IN1 load ∧ INR slots 1 1000
  · obtain ⟨n', a1, a2, rfl⟩ := ofR (a := 1) (b := 1000) (by decide) (by decide) t.2
    rcases in_le1 t.1 with rfl | rfl
    · refine CX.of (k_X8_ifGo_ok_0 (I := I) (L := L) l E n' k hR.1 hisb hk a1 a2) ⟨rfl, rfl, Nat.le_of_ble_eq_true rfl, Nat.le_of_ble_eq_true rfl⟩ (fun v I1 L1 hh => ?_)
      obtain ⟨J, M, ⟨t1, t2, t3⟩, rfl, eI, eL⟩ := hh
      have fm : ∀ z, z < 27 ∨ 53 ≤ z → I1 z = I z := fun z hz => by rw [eI]; exact (brIt_ne (by omega)).trans (t2 z hz)
      have fmL : ∀ z, z < 27 ∨ 53 ≤ z → L1 z = L z := fun z hz => by rw [eL]; exact (brIt_neL (by omega)).trans (t3 z hz)
      have hC2 := hC.trial fm fmL
      have ex := trial_lo (I1 := I) hR hk t1 (m := n') (by omega) 28 40 (Or.inl ⟨rfl, rfl⟩)
      refine ⟨_, rfl, CX.of (k_X9_ifGo_ok_0 (I := I1) (L := L1) l E n' _ _ _ rfl rfl rfl a1 a2 (by rw [fm 162 (by decide)]; exact hR.cmds)) ⟨rfl, rfl, Nat.le_of_ble_eq_true rfl, Nat.le_of_ble_eq_true rfl⟩ (fun v2 I2 L2 hh => ?_)⟩
      obtain ⟨e0, eI2, eL2⟩ := hh
      rw [fm 162 (by decide)] at e0
      rw [fm 162 (by decide), fm 165 (by decide)] at eI2
      rw [fmL 161 (by decide)] at eL2
      refine ⟨by rw [ex]; exact e0, Rel.mk2 hC2 (fun z hz => by rw [eI2, up_ne (by omega), up_ne (by omega)]) (fun z hz => by rw [eL2, upL_ne (by omega)]) (fun z hz => by rw [eI2, up_eq, cp270 hz, cp270 hz]) ?_ (fun z hz => by rw [eI2, up_ne (by decide), up_ne (by decide), fm 163 (by decide)]) (fun z hz => by rw [eL2, upL_ne (by decide), fmL 164 (by decide)]) (fun z hz => by rw [eI2, up_ne (by decide), up_ne (by decide), fm 166 (by decide)]) (by rw [eI2, up_ne (by decide), up_ne (by decide), fm 161 (by decide)]; exact h2) (by rw [eI2, up_ne (by decide), up_ne (by decide), fm 161 (by decide)]; exact h8)⟩
      rw [eL2, upL_eq]
      show gsNX (I1 162) (vp_updL (L 161) 6 (L 161 3)) n' 6 = L 161 3
      rw [gsNX_o (by decide)]
      rfl
    · refine CX.of (k_X8_ifGo_ok_1 (I := I) (L := L) l E n' k hR.1 hisb hk a1 a2) ⟨rfl, rfl, Nat.le_of_ble_eq_true rfl, Nat.le_of_ble_eq_true rfl⟩ (fun v I1 L1 hh => ?_)
      obtain ⟨J, M, ⟨t1, t2, t3⟩, rfl, eI, eL⟩ := hh
      have fm : ∀ z, z < 27 ∨ 53 ≤ z → I1 z = I z := fun z hz => by rw [eI]; exact (brIt_ne (by omega)).trans (t2 z hz)
      have fmL : ∀ z, z < 27 ∨ 53 ≤ z → L1 z = L z := fun z hz => by rw [eL]; exact (brIt_neL (by omega)).trans (t3 z hz)
      have hC2 := hC.trial fm fmL
      have ex := trial_lo (I1 := I) hR hk t1 (m := n') (by omega) 37 70 (Or.inr ⟨rfl, rfl⟩)
      refine ⟨_, rfl, CX.of (k_X9_ifGo_ok_1 (I := I1) (L := L1) l E n' _ _ _ rfl rfl rfl a1 a2 (by rw [fm 162 (by decide)]; exact hR.cmds)) ⟨rfl, rfl, Nat.le_of_ble_eq_true rfl, Nat.le_of_ble_eq_true rfl⟩ (fun v2 I2 L2 hh => ?_)⟩
      obtain ⟨e0, eI2, eL2⟩ := hh
      rw [fm 162 (by decide)] at e0
      rw [fm 162 (by decide), fm 165 (by decide)] at eI2
      rw [fmL 161 (by decide)] at eL2
      refine ⟨by rw [ex]; exact e0, Rel.mk2 hC2 (fun z hz => by rw [eI2, up_ne (by omega), up_ne (by omega)]) (fun z hz => by rw [eL2, upL_ne (by omega)]) (fun z hz => by rw [eI2, up_eq, cp270 hz, cp270 hz]) ?_ (fun z hz => by rw [eI2, up_ne (by decide), up_ne (by decide), fm 163 (by decide)]) (fun z hz => by rw [eL2, upL_ne (by decide), fmL 164 (by decide)]) (fun z hz => by rw [eI2, up_ne (by decide), up_ne (by decide), fm 166 (by decide)]) (by rw [eI2, up_ne (by decide), up_ne (by decide), fm 161 (by decide)]; exact h2) (by rw [eI2, up_ne (by decide), up_ne (by decide), fm 161 (by decide)]; exact h8)⟩
      rw [eL2, upL_eq]
      show gsNX (I1 162) (vp_updL (L 161) 6 (L 161 3)) n' 6 = L 161 3
      rw [gsNX_o (by decide)]
      rfl
  · exact LK h' (k_X8_ifGo_no (I := I) (L := L) l E load slots t) (k_X9_ifGo_no (I := I) (L := L) l E load slots t) ⟨rfl, rfl, Nat.le_of_ble_eq_true rfl, Nat.le_of_ble_eq_true rfl⟩ ⟨rfl, rfl, Nat.le_of_ble_eq_true rfl, Nat.le_of_ble_eq_true rfl⟩ (rfl)
theorem P_until {l : Launch} {E : Ev} {I : SI} {L : SL} (h : Rel I L) (load : Int32) (am : Int32) : PR l E yX8_until yX9_until wsX8_until wsX9_until [.int load, .int am] I L := by
  have h' := h
  obtain ⟨k, o, kp, n, hC, h2, h8⟩ := h
  have hB := hC.1
  have hR := hB.1
  have hk := hB.2.1
  have hisb := hR.isb
  obtain ⟨ho4, hkp, ho, hkk, hH⟩ := hC.2.1
  by_cases t : IN1 load ∧ INR am 1 1000000
  · rcases in_le1 t.1 with rfl | rfl
    · refine CX.of (k_X8_until_ok_0 (I := I) (L := L) l E am k hR.1 hisb hk t.2) ⟨rfl, rfl, Nat.le_of_ble_eq_true rfl, Nat.le_of_ble_eq_true rfl⟩ (fun v I1 L1 hh => ?_)
      obtain ⟨J, M, m, ⟨t1, t2, t3⟩, ⟨x, rfl, hx⟩, eI, eL⟩ := hh
      have fm : ∀ z, z < 27 ∨ 53 ≤ z → I1 z = I z := fun z hz => by rw [eI]; exact (brIt_ne (by omega)).trans (t2 z hz)
      have fmL : ∀ z, z < 27 ∨ 53 ≤ z → L1 z = L z := fun z hz => by rw [eL]; exact (brIt_neL (by omega)).trans (t3 z hz)
      have hC2 := hC.trial fm fmL
      have hx2 : UntS (fun j => absM (gsN (I 162) j 44)) am x := UntS_congr (fun j hj => by
        show absI ((brIt 27 k j (J, M)).1 28 4) = absM (gsN (I 162) j 44)
        rw [trial_lo (I1 := I) hR hk t1 (m := j) (by omega) 28 40 (Or.inl ⟨rfl, rfl⟩)]
        rfl) hx
      refine ⟨_, rfl, CX.of (k_X9_until_ok_0 (I := I1) (L := L1) l E am _ _ _ rfl rfl rfl t.2 (by rw [fm 162 (by decide)]; exact hR.cmds)) ⟨rfl, rfl, Nat.le_of_ble_eq_true rfl, Nat.le_of_ble_eq_true rfl⟩ (fun v2 I2 L2 hh => ?_)⟩
      obtain ⟨⟨x2, e0, hx3⟩, m2, eI2, eL2⟩ := hh
      rw [fm 162 (by decide)] at hx3
      rw [fm 162 (by decide), fm 165 (by decide)] at eI2
      rw [fmL 161 (by decide)] at eL2
      refine ⟨by rw [e0, UntS_uniq hx3 hx2], Rel.mk2 hC2 (fun z hz => by rw [eI2, up_ne (by omega), up_ne (by omega)]) (fun z hz => by rw [eL2, upL_ne (by omega)]) (fun z hz => by rw [eI2, up_eq, cp270 hz, cp270 hz]) ?_ (fun z hz => by rw [eI2, up_ne (by decide), up_ne (by decide), fm 163 (by decide)]) (fun z hz => by rw [eL2, upL_ne (by decide), fmL 164 (by decide)]) (fun z hz => by rw [eI2, up_ne (by decide), up_ne (by decide), fm 166 (by decide)]) (by rw [eI2, up_ne (by decide), up_ne (by decide), fm 161 (by decide)]; exact h2) (by rw [eI2, up_ne (by decide), up_ne (by decide), fm 161 (by decide)]; exact h8)⟩
      rw [eL2, upL_eq]
      show gsNX (I1 162) (vp_updL (L 161) 6 (L 161 3)) m2 6 = L 161 3
      rw [gsNX_o (by decide)]
      rfl
    · refine CX.of (k_X8_until_ok_1 (I := I) (L := L) l E am k hR.1 hisb hk t.2) ⟨rfl, rfl, Nat.le_of_ble_eq_true rfl, Nat.le_of_ble_eq_true rfl⟩ (fun v I1 L1 hh => ?_)
      obtain ⟨J, M, m, ⟨t1, t2, t3⟩, ⟨x, rfl, hx⟩, eI, eL⟩ := hh
      have fm : ∀ z, z < 27 ∨ 53 ≤ z → I1 z = I z := fun z hz => by rw [eI]; exact (brIt_ne (by omega)).trans (t2 z hz)
      have fmL : ∀ z, z < 27 ∨ 53 ≤ z → L1 z = L z := fun z hz => by rw [eL]; exact (brIt_neL (by omega)).trans (t3 z hz)
      have hC2 := hC.trial fm fmL
      have hx2 : UntS (fun j => absM (gsN (I 162) j 74)) am x := UntS_congr (fun j hj => by
        show absI ((brIt 27 k j (J, M)).1 37 4) = absM (gsN (I 162) j 74)
        rw [trial_lo (I1 := I) hR hk t1 (m := j) (by omega) 37 70 (Or.inr ⟨rfl, rfl⟩)]
        rfl) hx
      refine ⟨_, rfl, CX.of (k_X9_until_ok_1 (I := I1) (L := L1) l E am _ _ _ rfl rfl rfl t.2 (by rw [fm 162 (by decide)]; exact hR.cmds)) ⟨rfl, rfl, Nat.le_of_ble_eq_true rfl, Nat.le_of_ble_eq_true rfl⟩ (fun v2 I2 L2 hh => ?_)⟩
      obtain ⟨⟨x2, e0, hx3⟩, m2, eI2, eL2⟩ := hh
      rw [fm 162 (by decide)] at hx3
      rw [fm 162 (by decide), fm 165 (by decide)] at eI2
      rw [fmL 161 (by decide)] at eL2
      refine ⟨by rw [e0, UntS_uniq hx3 hx2], Rel.mk2 hC2 (fun z hz => by rw [eI2, up_ne (by omega), up_ne (by omega)]) (fun z hz => by rw [eL2, upL_ne (by omega)]) (fun z hz => by rw [eI2, up_eq, cp270 hz, cp270 hz]) ?_ (fun z hz => by rw [eI2, up_ne (by decide), up_ne (by decide), fm 163 (by decide)]) (fun z hz => by rw [eL2, upL_ne (by decide), fmL 164 (by decide)]) (fun z hz => by rw [eI2, up_ne (by decide), up_ne (by decide), fm 166 (by decide)]) (by rw [eI2, up_ne (by decide), up_ne (by decide), fm 161 (by decide)]; exact h2) (by rw [eI2, up_ne (by decide), up_ne (by decide), fm 161 (by decide)]; exact h8)⟩
      rw [eL2, upL_eq]
      show gsNX (I1 162) (vp_updL (L 161) 6 (L 161 3)) m2 6 = L 161 3
      rw [gsNX_o (by decide)]
      rfl
  · exact LK h' (k_X8_until_no (I := I) (L := L) l E load am t) (k_X9_until_no (I := I) (L := L) l E load am t) ⟨rfl, rfl, Nat.le_of_ble_eq_true rfl, Nat.le_of_ble_eq_true rfl⟩ ⟨rfl, rfl, Nat.le_of_ble_eq_true rfl, Nat.le_of_ble_eq_true rfl⟩ (rfl)
