theorem RelB.up {I : SI} {L : SL} {d d' : Nat → Int32} {sz : Int64} {k c : Nat} {r : Nat → Int32} (h : RelB I L d sz k) (h1 : c ≠ 20) (h2 : c ≠ 5) (h3 : c ≠ 14) (g : RB 1 (up I c r) L d' sz k) : RelB (up I c r) L d' sz k :=
  ⟨g, h.2.1, by rw [up_ne (Ne.symm h1)]; exact h.2.2.1, by rw [up_ne (Ne.symm h2)]; exact h.2.2.2.1, by rw [up_ne (Ne.symm h3)]; exact h.2.2.2.2⟩
theorem MB1 {I I1 I' : SI} {L L1 L' : SL} {kp n : Nat} {D : Nat → Int32} (fm : ∀ z, 161 ≤ z → I1 z = I z) (fmL : ∀ z, 161 ≤ z → L1 z = L z) (h8 : I 161 8 = nI n) (eI : I' = up (up (up I1 161 (upd (I1 161) 2 (nI (recK kp)))) 162 D) 163 (recW (I1 162) (I1 163) kp)) (eL : L' = upL L1 164 (recS (L1 164) (L1 161 3) kp)) :
    (∀ z, z < 161 → I' z = I1 z) ∧ (∀ z, z < 161 → L' z = L1 z) ∧ I' 162 = D ∧ L' 161 = L 161 ∧ I' 163 = recW (I 162) (I 163) kp ∧ L' 164 = recS (L 164) (L 161 3) kp ∧ I' 166 = I 166 ∧ I' 161 2 = nI (recK kp) ∧ I' 161 8 = nI n := by
  subst eI
  subst eL
  refine ⟨fun z hz => ?_, fun z hz => ?_, ?_, ?_, ?_, ?_, ?_, ?_, ?_⟩
  · rw [up_ne (by omega), up_ne (by omega), up_ne (by omega)]
  · rw [upL_ne (by omega)]
  · rw [up_ne (by decide), up_eq]
  · rw [upL_ne (by decide), fmL 161 (by decide)]
  · rw [up_eq, fm 162 (by decide), fm 163 (by decide)]
  · rw [upL_eq, fmL 164 (by decide), fmL 161 (by decide)]
  · rw [up_ne (by decide), up_ne (by decide), up_ne (by decide), fm 166 (by decide)]
  · rw [up_ne (by decide), up_ne (by decide), up_eq, upd_eq]
  · rw [up_ne (by decide), up_ne (by decide), up_eq, upd_ne (by decide), fm 161 (by decide)]
    exact h8
theorem MB2 {I I1 I' : SI} {L L1 L' : SL} {kp n : Nat} {D : Nat → Int32} {X : Nat → Int64} (fm : ∀ z, 161 ≤ z → I1 z = I z) (fmL : ∀ z, 161 ≤ z → L1 z = L z) (h8 : I 161 8 = nI n) (eI : I' = up (up (up I1 161 (upd (I1 161) 2 (nI (recK kp)))) 163 (recW (I1 162) (I1 163) kp)) 162 D) (eL : L' = upL (upL L1 164 (recS (L1 164) (L1 161 3) kp)) 161 X) :
    (∀ z, z < 161 → I' z = I1 z) ∧ (∀ z, z < 161 → L' z = L1 z) ∧ I' 162 = D ∧ L' 161 = X ∧ I' 163 = recW (I 162) (I 163) kp ∧ L' 164 = recS (L 164) (L 161 3) kp ∧ I' 166 = I 166 ∧ I' 161 2 = nI (recK kp) ∧ I' 161 8 = nI n := by
  subst eI
  subst eL
  refine ⟨fun z hz => ?_, fun z hz => ?_, ?_, ?_, ?_, ?_, ?_, ?_, ?_⟩
  · rw [up_ne (by omega), up_ne (by omega), up_ne (by omega)]
  · rw [upL_ne (by omega), upL_ne (by omega)]
  · rw [up_eq]
  · rw [upL_eq]
  · rw [up_ne (by decide), up_eq, fm 162 (by decide), fm 163 (by decide)]
  · rw [upL_ne (by decide), upL_eq, fmL 164 (by decide), fmL 161 (by decide)]
  · rw [up_ne (by decide), up_ne (by decide), up_ne (by decide), fm 166 (by decide)]
  · rw [up_ne (by decide), up_ne (by decide), up_eq, upd_eq]
  · rw [up_ne (by decide), up_ne (by decide), up_eq, upd_ne (by decide), fm 161 (by decide)]
    exact h8
theorem tk6_0 {v : Int32} (t : TK6 (nI 0) v) : ∃ s, v = nI s ∧ s ≤ 20 := by
  obtain ⟨n, a, b, c⟩ := ofR (x := v) (a := 0) (b := 20) (by decide) (by decide) t.2
  exact ⟨n, c, b⟩
theorem tk6_1 {v : Int32} (t : TK6 (nI 1) v) : ∃ s, v = nI s ∧ s ≤ 50 := by
  obtain ⟨n, a, b, c⟩ := ofR (x := v) (a := 0) (b := 50) (by decide) (by decide) t.2
  exact ⟨n, c, b⟩
theorem tk4_0 {v : Int32} (t : TK4 (nI 0) v) : ∃ s, v = nI s ∧ 1 ≤ s ∧ s ≤ 1000 := by
  obtain ⟨n, a, b, c⟩ := ofR (x := v) (a := 1) (b := 1000) (by decide) (by decide) t.2
  exact ⟨n, c, a, b⟩
theorem tk4_1 {v : Int32} (t : TK4 (nI 1) v) : ∃ s, v = nI s ∧ s ≤ 100 := by
  obtain ⟨n, a, b, c⟩ := ofR (x := v) (a := 0) (b := 100) (by decide) (by decide) t.2
  exact ⟨n, c, b⟩
theorem P_set {l : Launch} {E : Ev} {I : SI} {L : SL} (h : Rel I L) (what : Int32) (value : Int32) : PR l E yX8_set yX9_set wsX8_set wsX9_set [.int what, .int value] I L := by
  have h' := h
  obtain ⟨k, o, kp, n, hC, h2, h8⟩ := h
  have hB := hC.1
  have hR := hB.1
  have hk := hB.2.1
  have hisb := hR.isb
  obtain ⟨ho4, hkp, ho, hkk, hH⟩ := hC.2.1
  by_cases t : TK6 what value
  · obtain ⟨q, hq, rfl⟩ := i32_in (n := 6) t.1.1 t.1.2 (by decide)
    have ev : I 21 q = I 162 (1 + q) := hR.2.2.1.1 q hq
    refine CHG (rm2 := { frames := 2, cells := 0, slots := 0, locals := 46 }) (d' := upd (I 162) (1 + q) value) (lx' := L 161) (k' := k) (x := ((I 162) (1 + q))) hC h2 h8 (((k_X8_set_ok (I := I) (L := L) l E q value _ _ _ o kp rfl rfl rfl ho hkk ho4 hkp hisb hB.2.2.1 hq t)).mono (fun v I2 L2 hh => by obtain ⟨a, J, M, b, c, e⟩ := hh; exact ⟨J, M, b, a, c, e⟩)) ⟨rfl, rfl, Nat.le_of_ble_eq_true rfl, Nat.le_of_ble_eq_true rfl⟩ ⟨rfl, rfl, Nat.le_of_ble_eq_true rfl, Nat.le_of_ble_eq_true rfl⟩ (fun J M hr => ?_) (fun I1 L1 fm fmL => ?_)
    · obtain ⟨o', hC'⟩ := hC.rec hr
      have e21 : J 21 = I 21 := hr.fr (by decide) (by decide)
      refine ⟨?_, ev, fun z hz => up_ne (by omega), fun z hz => rfl⟩
      rw [← e21]
      exact hC'.1.up (by decide) (by decide) (by decide) (hC'.1.1.set (B := 1) hq (fun e => by subst e; exact tk6_0 t) (fun e => by subst e; exact tk6_1 t))
    · refine CS.mono (k_X9_set_ok (I := I1) (L := L1) l E q value _ _ _ _ _ kp rfl rfl rfl rfl rfl (by rw [fm 161 (by decide)]; exact h2) hkp hq t) (fun v I2 L2 hh => ?_)
      obtain ⟨e0, eI, eL⟩ := hh
      rw [fm 162 (by decide)] at e0 eI
      exact ⟨e0, MB1 fm fmL h8 (by rw [fm 162 (by decide)]; exact eI) eL⟩
  · exact LK h' (k_X8_set_no (I := I) (L := L) l E what value _ rfl hB.2.2.1 t) (k_X9_set_no (I := I) (L := L) l E what value t) ⟨rfl, rfl, Nat.le_of_ble_eq_true rfl, Nat.le_of_ble_eq_true rfl⟩ ⟨rfl, rfl, Nat.le_of_ble_eq_true rfl, Nat.le_of_ble_eq_true rfl⟩ rfl
theorem P_setLoad {l : Launch} {E : Ev} {I : SI} {L : SL} (h : Rel I L) (load : Int32) (what : Int32) (value : Int32) : PR l E yX8_setLoad yX9_setLoad wsX8_setLoad wsX9_setLoad [.int load, .int what, .int value] I L := by
  have h' := h
  obtain ⟨k, o, kp, n, hC, h2, h8⟩ := h
  have hB := hC.1
  have hR := hB.1
  have hk := hB.2.1
  have hisb := hR.isb
  obtain ⟨ho4, hkp, ho, hkk, hH⟩ := hC.2.1
  by_cases t : IN1 load ∧ TK4 what value
  · obtain ⟨q, hq, rfl⟩ := i32_in (n := 4) t.2.1.1 t.2.1.2 (by decide)
    rcases in_le1 t.1 with rfl | rfl
    · have ev : I 6 q = I 162 (40 + q) := hR.2.2.2.1.2.2.2.1.1 q hq
      refine CHG (rm2 := { frames := 2, cells := 0, slots := 0, locals := 46 }) (d' := upd (I 162) (40 + q) value) (lx' := L 161) (k' := k) (x := ((I 162) (40 + q))) hC h2 h8 (((k_X8_setLoad_ok_0 (I := I) (L := L) l E q value _ _ _ o kp rfl rfl rfl ho hkk ho4 hkp hisb hB.2.2.2.1 hq t.2)).mono (fun v I2 L2 hh => by obtain ⟨a, J, M, b, c, e⟩ := hh; exact ⟨J, M, b, a, c, e⟩)) ⟨rfl, rfl, Nat.le_of_ble_eq_true rfl, Nat.le_of_ble_eq_true rfl⟩ ⟨rfl, rfl, Nat.le_of_ble_eq_true rfl, Nat.le_of_ble_eq_true rfl⟩ (fun J M hr => ?_) (fun I1 L1 fm fmL => ?_)
      · obtain ⟨o', hC'⟩ := hC.rec hr
        have e21 : J 6 = I 6 := hr.fr (by decide) (by decide)
        refine ⟨?_, ev, fun z hz => up_ne (by omega), fun z hz => rfl⟩
        rw [← e21]
        exact hC'.1.up (by decide) (by decide) (by decide) (hC'.1.1.setLoad (B := 1) (X := 1) (Or.inl ⟨rfl, rfl, rfl⟩) hq (fun e => by subst e; exact tk4_0 t.2) (fun e => by subst e; exact tk4_1 t.2))
      · refine CS.mono (k_X9_setLoad_ok_0 (I := I1) (L := L1) l E q value _ _ _ _ _ kp rfl rfl rfl rfl rfl (by rw [fm 161 (by decide)]; exact h2) hkp hq t.2) (fun v I2 L2 hh => ?_)
        obtain ⟨e0, eI, eL⟩ := hh
        rw [fm 162 (by decide)] at e0 eI
        exact ⟨e0, MB1 fm fmL h8 (by rw [fm 162 (by decide)]; exact eI) eL⟩
    · have ev : I 15 q = I 162 (70 + q) := hR.2.2.2.2.1.2.2.2.1.1 q hq
      refine CHG (rm2 := { frames := 2, cells := 0, slots := 0, locals := 46 }) (d' := upd (I 162) (70 + q) value) (lx' := L 161) (k' := k) (x := ((I 162) (70 + q))) hC h2 h8 (((k_X8_setLoad_ok_1 (I := I) (L := L) l E q value _ _ _ o kp rfl rfl rfl ho hkk ho4 hkp hisb hB.2.2.2.2 hq t.2)).mono (fun v I2 L2 hh => by obtain ⟨a, J, M, b, c, e⟩ := hh; exact ⟨J, M, b, a, c, e⟩)) ⟨rfl, rfl, Nat.le_of_ble_eq_true rfl, Nat.le_of_ble_eq_true rfl⟩ ⟨rfl, rfl, Nat.le_of_ble_eq_true rfl, Nat.le_of_ble_eq_true rfl⟩ (fun J M hr => ?_) (fun I1 L1 fm fmL => ?_)
      · obtain ⟨o', hC'⟩ := hC.rec hr
        have e21 : J 15 = I 15 := hr.fr (by decide) (by decide)
        refine ⟨?_, ev, fun z hz => up_ne (by omega), fun z hz => rfl⟩
        rw [← e21]
        exact hC'.1.up (by decide) (by decide) (by decide) (hC'.1.1.setLoad (B := 1) (X := 10) (Or.inr ⟨rfl, rfl, rfl⟩) hq (fun e => by subst e; exact tk4_0 t.2) (fun e => by subst e; exact tk4_1 t.2))
      · refine CS.mono (k_X9_setLoad_ok_1 (I := I1) (L := L1) l E q value _ _ _ _ _ kp rfl rfl rfl rfl rfl (by rw [fm 161 (by decide)]; exact h2) hkp hq t.2) (fun v I2 L2 hh => ?_)
        obtain ⟨e0, eI, eL⟩ := hh
        rw [fm 162 (by decide)] at e0 eI
        exact ⟨e0, MB1 fm fmL h8 (by rw [fm 162 (by decide)]; exact eI) eL⟩
  · exact LK h' (k_X8_setLoad_no (I := I) (L := L) l E load what value _ _ rfl rfl hB.2.2.2.1 hB.2.2.2.2 t) (k_X9_setLoad_no (I := I) (L := L) l E load what value t) ⟨rfl, rfl, Nat.le_of_ble_eq_true rfl, Nat.le_of_ble_eq_true rfl⟩ ⟨rfl, rfl, Nat.le_of_ble_eq_true rfl, Nat.le_of_ble_eq_true rfl⟩ rfl
theorem P_command {l : Launch} {E : Ev} {I : SI} {L : SL} (h : Rel I L) (leg : Int32) (cm : Int32) : PR l E yX8_command yX9_command wsX8_command wsX9_command [.int leg, .int cm] I L := by
  have h' := h
  obtain ⟨k, o, kp, n, hC, h2, h8⟩ := h
  have hB := hC.1
  have hR := hB.1
  have hk := hB.2.1
  have hisb := hR.isb
  obtain ⟨ho4, hkp, ho, hkk, hH⟩ := hC.2.1
  by_cases t : IN3 leg ∧ IN2 cm
  · rcases in_le3 t.1 with rfl | rfl | rfl | rfl
    · have ev : I 3 0 = I 162 8 := hR.2.2.2.1.1.1
      refine CHG (rm2 := { frames := 2, cells := 0, slots := 0, locals := 45 }) (d' := upd (I 162) 8 cm) (lx' := L 161) (k' := k) (x := ((I 162) 8)) hC h2 h8 (((k_X8_command_ok_0 (I := I) (L := L) l E cm _ _ o kp rfl rfl ho hkk ho4 hkp hisb t.2)).mono (fun v I2 L2 hh => by obtain ⟨a, J, M, b, c, e⟩ := hh; exact ⟨J, M, b, a, c, e⟩)) ⟨rfl, rfl, Nat.le_of_ble_eq_true rfl, Nat.le_of_ble_eq_true rfl⟩ ⟨rfl, rfl, Nat.le_of_ble_eq_true rfl, Nat.le_of_ble_eq_true rfl⟩ (fun J M hr => ?_) (fun I1 L1 fm fmL => ?_)
      · obtain ⟨o', hC'⟩ := hC.rec hr
        have e21 : J 3 = I 3 := hr.fr (by decide) (by decide)
        refine ⟨?_, ev, fun z hz => up_ne (by omega), fun z hz => rfl⟩
        rw [← e21]
        exact hC'.1.up (by decide) (by decide) (by decide) (hC'.1.1.cmd (B := 1) (lg := 0) (by decide) (in_le2 t.2))
      · refine CS.mono (k_X9_command_ok_0 (I := I1) (L := L1) l E cm _ _ _ _ _ kp rfl rfl rfl rfl rfl (by rw [fm 161 (by decide)]; exact h2) hkp t.2) (fun v I2 L2 hh => ?_)
        obtain ⟨e0, eI, eL⟩ := hh
        rw [fm 162 (by decide)] at e0 eI
        exact ⟨e0, MB1 fm fmL h8 (by rw [fm 162 (by decide)]; exact eI) eL⟩
    · have ev : I 4 0 = I 162 16 := hR.2.2.2.1.2.1.1
      refine CHG (rm2 := { frames := 2, cells := 0, slots := 0, locals := 45 }) (d' := upd (I 162) 16 cm) (lx' := L 161) (k' := k) (x := ((I 162) 16)) hC h2 h8 (((k_X8_command_ok_1 (I := I) (L := L) l E cm _ _ o kp rfl rfl ho hkk ho4 hkp hisb t.2)).mono (fun v I2 L2 hh => by obtain ⟨a, J, M, b, c, e⟩ := hh; exact ⟨J, M, b, a, c, e⟩)) ⟨rfl, rfl, Nat.le_of_ble_eq_true rfl, Nat.le_of_ble_eq_true rfl⟩ ⟨rfl, rfl, Nat.le_of_ble_eq_true rfl, Nat.le_of_ble_eq_true rfl⟩ (fun J M hr => ?_) (fun I1 L1 fm fmL => ?_)
      · obtain ⟨o', hC'⟩ := hC.rec hr
        have e21 : J 4 = I 4 := hr.fr (by decide) (by decide)
        refine ⟨?_, ev, fun z hz => up_ne (by omega), fun z hz => rfl⟩
        rw [← e21]
        exact hC'.1.up (by decide) (by decide) (by decide) (hC'.1.1.cmd (B := 1) (lg := 1) (by decide) (in_le2 t.2))
      · refine CS.mono (k_X9_command_ok_1 (I := I1) (L := L1) l E cm _ _ _ _ _ kp rfl rfl rfl rfl rfl (by rw [fm 161 (by decide)]; exact h2) hkp t.2) (fun v I2 L2 hh => ?_)
        obtain ⟨e0, eI, eL⟩ := hh
        rw [fm 162 (by decide)] at e0 eI
        exact ⟨e0, MB1 fm fmL h8 (by rw [fm 162 (by decide)]; exact eI) eL⟩
    · have ev : I 12 0 = I 162 24 := hR.2.2.2.2.1.1.1
      refine CHG (rm2 := { frames := 2, cells := 0, slots := 0, locals := 45 }) (d' := upd (I 162) 24 cm) (lx' := L 161) (k' := k) (x := ((I 162) 24)) hC h2 h8 (((k_X8_command_ok_2 (I := I) (L := L) l E cm _ _ o kp rfl rfl ho hkk ho4 hkp hisb t.2)).mono (fun v I2 L2 hh => by obtain ⟨a, J, M, b, c, e⟩ := hh; exact ⟨J, M, b, a, c, e⟩)) ⟨rfl, rfl, Nat.le_of_ble_eq_true rfl, Nat.le_of_ble_eq_true rfl⟩ ⟨rfl, rfl, Nat.le_of_ble_eq_true rfl, Nat.le_of_ble_eq_true rfl⟩ (fun J M hr => ?_) (fun I1 L1 fm fmL => ?_)
      · obtain ⟨o', hC'⟩ := hC.rec hr
        have e21 : J 12 = I 12 := hr.fr (by decide) (by decide)
        refine ⟨?_, ev, fun z hz => up_ne (by omega), fun z hz => rfl⟩
        rw [← e21]
        exact hC'.1.up (by decide) (by decide) (by decide) (hC'.1.1.cmd (B := 1) (lg := 2) (by decide) (in_le2 t.2))
      · refine CS.mono (k_X9_command_ok_2 (I := I1) (L := L1) l E cm _ _ _ _ _ kp rfl rfl rfl rfl rfl (by rw [fm 161 (by decide)]; exact h2) hkp t.2) (fun v I2 L2 hh => ?_)
        obtain ⟨e0, eI, eL⟩ := hh
        rw [fm 162 (by decide)] at e0 eI
        exact ⟨e0, MB1 fm fmL h8 (by rw [fm 162 (by decide)]; exact eI) eL⟩
    · have ev : I 13 0 = I 162 32 := hR.2.2.2.2.1.2.1.1
      refine CHG (rm2 := { frames := 2, cells := 0, slots := 0, locals := 45 }) (d' := upd (I 162) 32 cm) (lx' := L 161) (k' := k) (x := ((I 162) 32)) hC h2 h8 (((k_X8_command_ok_3 (I := I) (L := L) l E cm _ _ o kp rfl rfl ho hkk ho4 hkp hisb t.2)).mono (fun v I2 L2 hh => by obtain ⟨a, J, M, b, c, e⟩ := hh; exact ⟨J, M, b, a, c, e⟩)) ⟨rfl, rfl, Nat.le_of_ble_eq_true rfl, Nat.le_of_ble_eq_true rfl⟩ ⟨rfl, rfl, Nat.le_of_ble_eq_true rfl, Nat.le_of_ble_eq_true rfl⟩ (fun J M hr => ?_) (fun I1 L1 fm fmL => ?_)
      · obtain ⟨o', hC'⟩ := hC.rec hr
        have e21 : J 13 = I 13 := hr.fr (by decide) (by decide)
        refine ⟨?_, ev, fun z hz => up_ne (by omega), fun z hz => rfl⟩
        rw [← e21]
        exact hC'.1.up (by decide) (by decide) (by decide) (hC'.1.1.cmd (B := 1) (lg := 3) (by decide) (in_le2 t.2))
      · refine CS.mono (k_X9_command_ok_3 (I := I1) (L := L1) l E cm _ _ _ _ _ kp rfl rfl rfl rfl rfl (by rw [fm 161 (by decide)]; exact h2) hkp t.2) (fun v I2 L2 hh => ?_)
        obtain ⟨e0, eI, eL⟩ := hh
        rw [fm 162 (by decide)] at e0 eI
        exact ⟨e0, MB1 fm fmL h8 (by rw [fm 162 (by decide)]; exact eI) eL⟩
  · exact LK h' (k_X8_command_no (I := I) (L := L) l E leg cm t) (k_X9_command_no (I := I) (L := L) l E leg cm t) ⟨rfl, rfl, Nat.le_of_ble_eq_true rfl, Nat.le_of_ble_eq_true rfl⟩ ⟨rfl, rfl, Nat.le_of_ble_eq_true rfl, Nat.le_of_ble_eq_true rfl⟩ rfl
theorem P_chop {l : Launch} {E : Ev} {I : SI} {L : SL} (h : Rel I L) (load : Int32) (on : Int32) : PR l E yX8_chop yX9_chop wsX8_chop wsX9_chop [.int load, .int on] I L := by
  have h' := h
  obtain ⟨k, o, kp, n, hC, h2, h8⟩ := h
  have hB := hC.1
  have hR := hB.1
  have hk := hB.2.1
  have hisb := hR.isb
  obtain ⟨ho4, hkp, ho, hkk, hH⟩ := hC.2.1
  by_cases t : IN1 load ∧ IN1 on
  · rcases in_le1 t.1 with rfl | rfl <;> rcases in_le1 t.2 with rfl | rfl
    · have ev : I 2 6 = I 162 46 := hR.2.2.2.1.2.2.1.2.2.1
      refine CHG (rm2 := { frames := 2, cells := 0, slots := 0, locals := 45 }) (d' := upd (upd (I 162) 46 (0 : Int32)) 47 (if (0 : Int32) = 0 then 0 else (I 162) 47)) (lx' := L 161) (k' := k) (x := ((I 162) 46)) hC h2 h8 (((k_X8_chop_ok_0_0 (I := I) (L := L) l E _ _ o kp rfl rfl ho hkk ho4 hkp hisb (hisb 1 (by decide)).1)).mono (fun v I2 L2 hh => by obtain ⟨a, J, M, b, c, e⟩ := hh; exact ⟨J, M, b, a, c, e⟩)) ⟨rfl, rfl, Nat.le_of_ble_eq_true rfl, Nat.le_of_ble_eq_true rfl⟩ ⟨rfl, rfl, Nat.le_of_ble_eq_true rfl, Nat.le_of_ble_eq_true rfl⟩ (fun J M hr => ?_) (fun I1 L1 fm fmL => ?_)
      · obtain ⟨o', hC'⟩ := hC.rec hr
        have e21 : J 2 = I 2 := hr.fr (by decide) (by decide)
        refine ⟨?_, ev, fun z hz => up_ne (by omega), fun z hz => rfl⟩
        rw [← e21]
        exact hC'.1.up (by decide) (by decide) (by decide) (rb_chop (B := 1) (X := 1) hC'.1.1 (Or.inl ⟨rfl, rfl, rfl⟩) (Or.inl rfl))
      · refine CS.mono (k_X9_chop_ok_0 (I := I1) (L := L1) l E 0 _ _ _ _ _ kp rfl rfl rfl rfl rfl (by rw [fm 161 (by decide)]; exact h2) hkp t.2) (fun v I2 L2 hh => ?_)
        obtain ⟨e0, eI, eL⟩ := hh
        rw [fm 162 (by decide)] at e0 eI
        exact ⟨e0, MB1 fm fmL h8 (by rw [fm 162 (by decide)]; exact eI) eL⟩
    · have ev : I 2 6 = I 162 46 := hR.2.2.2.1.2.2.1.2.2.1
      refine CHG (rm2 := { frames := 2, cells := 0, slots := 0, locals := 45 }) (d' := upd (upd (I 162) 46 (1 : Int32)) 47 (if (1 : Int32) = 0 then 0 else (I 162) 47)) (lx' := L 161) (k' := k) (x := ((I 162) 46)) hC h2 h8 (((k_X8_chop_ok_0_1 (I := I) (L := L) l E _ _ o kp rfl rfl ho hkk ho4 hkp hisb (hisb 1 (by decide)).1)).mono (fun v I2 L2 hh => by obtain ⟨a, J, M, b, c, e⟩ := hh; exact ⟨J, M, b, a, c, e⟩)) ⟨rfl, rfl, Nat.le_of_ble_eq_true rfl, Nat.le_of_ble_eq_true rfl⟩ ⟨rfl, rfl, Nat.le_of_ble_eq_true rfl, Nat.le_of_ble_eq_true rfl⟩ (fun J M hr => ?_) (fun I1 L1 fm fmL => ?_)
      · obtain ⟨o', hC'⟩ := hC.rec hr
        have e21 : J 2 = I 2 := hr.fr (by decide) (by decide)
        refine ⟨?_, ev, fun z hz => up_ne (by omega), fun z hz => rfl⟩
        rw [← e21]
        exact hC'.1.up (by decide) (by decide) (by decide) (rb_chop (B := 1) (X := 1) hC'.1.1 (Or.inl ⟨rfl, rfl, rfl⟩) (Or.inr rfl))
      · refine CS.mono (k_X9_chop_ok_0 (I := I1) (L := L1) l E 1 _ _ _ _ _ kp rfl rfl rfl rfl rfl (by rw [fm 161 (by decide)]; exact h2) hkp t.2) (fun v I2 L2 hh => ?_)
        obtain ⟨e0, eI, eL⟩ := hh
        rw [fm 162 (by decide)] at e0 eI
        exact ⟨e0, MB1 fm fmL h8 (by rw [fm 162 (by decide)]; exact eI) eL⟩
    · have ev : I 11 6 = I 162 76 := hR.2.2.2.2.1.2.2.1.2.2.1
      refine CHG (rm2 := { frames := 2, cells := 0, slots := 0, locals := 45 }) (d' := upd (upd (I 162) 76 (0 : Int32)) 77 (if (0 : Int32) = 0 then 0 else (I 162) 77)) (lx' := L 161) (k' := k) (x := ((I 162) 76)) hC h2 h8 (((k_X8_chop_ok_1_0 (I := I) (L := L) l E _ _ o kp rfl rfl ho hkk ho4 hkp hisb (hisb 10 (by decide)).1)).mono (fun v I2 L2 hh => by obtain ⟨a, J, M, b, c, e⟩ := hh; exact ⟨J, M, b, a, c, e⟩)) ⟨rfl, rfl, Nat.le_of_ble_eq_true rfl, Nat.le_of_ble_eq_true rfl⟩ ⟨rfl, rfl, Nat.le_of_ble_eq_true rfl, Nat.le_of_ble_eq_true rfl⟩ (fun J M hr => ?_) (fun I1 L1 fm fmL => ?_)
      · obtain ⟨o', hC'⟩ := hC.rec hr
        have e21 : J 11 = I 11 := hr.fr (by decide) (by decide)
        refine ⟨?_, ev, fun z hz => up_ne (by omega), fun z hz => rfl⟩
        rw [← e21]
        exact hC'.1.up (by decide) (by decide) (by decide) (rb_chop (B := 1) (X := 10) hC'.1.1 (Or.inr ⟨rfl, rfl, rfl⟩) (Or.inl rfl))
      · refine CS.mono (k_X9_chop_ok_1 (I := I1) (L := L1) l E 0 _ _ _ _ _ kp rfl rfl rfl rfl rfl (by rw [fm 161 (by decide)]; exact h2) hkp t.2) (fun v I2 L2 hh => ?_)
        obtain ⟨e0, eI, eL⟩ := hh
        rw [fm 162 (by decide)] at e0 eI
        exact ⟨e0, MB1 fm fmL h8 (by rw [fm 162 (by decide)]; exact eI) eL⟩
    · have ev : I 11 6 = I 162 76 := hR.2.2.2.2.1.2.2.1.2.2.1
      refine CHG (rm2 := { frames := 2, cells := 0, slots := 0, locals := 45 }) (d' := upd (upd (I 162) 76 (1 : Int32)) 77 (if (1 : Int32) = 0 then 0 else (I 162) 77)) (lx' := L 161) (k' := k) (x := ((I 162) 76)) hC h2 h8 (((k_X8_chop_ok_1_1 (I := I) (L := L) l E _ _ o kp rfl rfl ho hkk ho4 hkp hisb (hisb 10 (by decide)).1)).mono (fun v I2 L2 hh => by obtain ⟨a, J, M, b, c, e⟩ := hh; exact ⟨J, M, b, a, c, e⟩)) ⟨rfl, rfl, Nat.le_of_ble_eq_true rfl, Nat.le_of_ble_eq_true rfl⟩ ⟨rfl, rfl, Nat.le_of_ble_eq_true rfl, Nat.le_of_ble_eq_true rfl⟩ (fun J M hr => ?_) (fun I1 L1 fm fmL => ?_)
      · obtain ⟨o', hC'⟩ := hC.rec hr
        have e21 : J 11 = I 11 := hr.fr (by decide) (by decide)
        refine ⟨?_, ev, fun z hz => up_ne (by omega), fun z hz => rfl⟩
        rw [← e21]
        exact hC'.1.up (by decide) (by decide) (by decide) (rb_chop (B := 1) (X := 10) hC'.1.1 (Or.inr ⟨rfl, rfl, rfl⟩) (Or.inr rfl))
      · refine CS.mono (k_X9_chop_ok_1 (I := I1) (L := L1) l E 1 _ _ _ _ _ kp rfl rfl rfl rfl rfl (by rw [fm 161 (by decide)]; exact h2) hkp t.2) (fun v I2 L2 hh => ?_)
        obtain ⟨e0, eI, eL⟩ := hh
        rw [fm 162 (by decide)] at e0 eI
        exact ⟨e0, MB1 fm fmL h8 (by rw [fm 162 (by decide)]; exact eI) eL⟩
  · exact LK h' (k_X8_chop_no (I := I) (L := L) l E load on t) (k_X9_chop_no (I := I) (L := L) l E load on t) ⟨rfl, rfl, Nat.le_of_ble_eq_true rfl, Nat.le_of_ble_eq_true rfl⟩ ⟨rfl, rfl, Nat.le_of_ble_eq_true rfl, Nat.le_of_ble_eq_true rfl⟩ rfl
