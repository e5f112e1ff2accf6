theorem plc0 {t u w n d : Nat → Int32} {L k f : Nat} (h : FtR t u w n d L k 0) (hk : k < 2 ^ 28) (hf : f < 3) {P Q : Prop} (e : P ↔ Q) : (¬ t f = 0 ∧ plcF t u f = 0 ∧ P) ↔ (¬ d (L + 12 + 3 * f) = -1 ∧ ¬ ¬ plcM d L f ≤ 0 ∧ Q) := by
  have la := h.lat (by omega) hf
  have z : plcM d L f = 0 ↔ ¬ ¬ plcM d L f ≤ 0 := by
    have s : plcM d L f = 0 ∨ plcM d L f = 1 ∨ plcM d L f = 2 ∨ plcM d L f = 3 := by
      unfold plcM pl1M
      by_cases a : ¬ d (L + 12 + 3 * 0) = -1 ∧ d (L + 14 + 3 * 0) < d (L + 14 + 3 * f) <;> by_cases b : ¬ d (L + 12 + 3 * 1) = -1 ∧ d (L + 14 + 3 * 1) < d (L + 14 + 3 * f) <;> by_cases c : ¬ d (L + 12 + 3 * 2) = -1 ∧ d (L + 14 + 3 * 2) < d (L + 14 + 3 * f)
      · rw [if_pos a, if_pos b, if_pos c]; decide
      · rw [if_pos a, if_pos b, if_neg c]; decide
      · rw [if_pos a, if_neg b, if_pos c]; decide
      · rw [if_pos a, if_neg b, if_neg c]; decide
      · rw [if_neg a, if_pos b, if_pos c]; decide
      · rw [if_neg a, if_pos b, if_neg c]; decide
      · rw [if_neg a, if_neg b, if_pos c]; decide
      · rw [if_neg a, if_neg b, if_neg c]; decide
    rcases s with s | s | s | s <;> rw [s] <;> decide
  constructor
  · intro ⟨a, b, c⟩
    rw [h.plc hk (by decide) hf a] at b
    exact ⟨la.mp a, z.mp b, e.mp c⟩
  · intro ⟨a, b, c⟩
    have a' := la.mpr a
    refine ⟨a', ?_, e.mpr c⟩
    rw [h.plc hk (by decide) hf a']
    exact z.mpr b
theorem P_clear {l : Launch} {E : Ev} {I : SI} {L : SL} (h : Rel I L) (load : Int32) (fault : Int32) : PR l E yX8_clear yX9_clear wsX8_clear wsX9_clear [.int load, .int fault] I L := by
  have h' := h
  obtain ⟨k, o, kp, n, hC, h2, h8⟩ := h
  have hB := hC.1
  have hR := hB.1
  have hk := hB.2.1
  have hisb := hR.isb
  obtain ⟨ho4, hkp, ho, hkk, hH⟩ := hC.2.1
  by_cases t : IN1 load ∧ IN2 fault
  · rcases in_le1 t.1 with rfl | rfl <;> rcases in_le2 t.2 with rfl | rfl | rfl
    · have ci : (¬ I 8 0 = 0 ∧ plcF (I 8) (I 9) 0 = 0 ∧ ¬ I 21 2 ≤ absI (I 2 4)) ↔ (¬ I 162 52 = -1 ∧ ¬ ¬ plcM (I 162) 40 0 ≤ 0 ∧ absM (I 162 44) < I 162 3) := plc0 (f := 0) hR.2.2.2.1.2.2.2.2 (by omega) (by decide) (by rw [show I 21 2 = I 162 3 from hR.2.2.1.1 2 (by decide), show I 2 4 = I 162 44 from hR.2.2.2.1.2.2.1.1]; exact Int32.not_le)
      by_cases c : ¬ I 8 0 = 0 ∧ plcF (I 8) (I 9) 0 = 0 ∧ ¬ I 21 2 ≤ absI (I 2 4)
      · refine CHG (rm2 := { frames := 4, cells := 0, slots := 0, locals := 88 }) (d' := upd (I 162) 52 (-1)) (lx' := L 161) (k' := k) (x := (ltdF (upd (I 162) 52 (-1)) 40)) hC h2 h8 (((k_X8_clear_ok_0_0 (I := I) (L := L) l E _ _ _ _ _ _ o kp rfl rfl rfl rfl rfl rfl ho hkk ho4 hkp hisb c)).mono (fun v I2 L2 hh => by obtain ⟨a, J, M, b, c, e⟩ := hh; exact ⟨J, M, b, a, c, e⟩)) ⟨rfl, rfl, Nat.le_of_ble_eq_true rfl, Nat.le_of_ble_eq_true rfl⟩ ⟨rfl, rfl, Nat.le_of_ble_eq_true rfl, Nat.le_of_ble_eq_true rfl⟩ (fun J M hr => ?_) (fun I1 L1 fm fmL => ?_)
        · obtain ⟨o', hC'⟩ := hC.rec hr
          have e5 : J 7 = I 7 := hr.fr (by decide) (by decide)
          have e6 : J 8 = I 8 := hr.fr (by decide) (by decide)
          have cl := hC'.1.1.clear (B := 1) (X := 1) (f := 0) (by omega) (Or.inl ⟨rfl, rfl, rfl⟩) (by decide) (by rw [show J (1 + 1 + 6) = I 8 from e6]; exact c.1)
          rw [show J (1 + 1 + 5) = I 7 from e5, show J (1 + 1 + 6) = I 8 from e6] at cl
          refine ⟨⟨cl.1, hC'.1.2.1, ?_, ?_, ?_⟩, cl.2, fun z hz => by rw [up_ne (by omega), up_ne (by omega)], fun z hz => rfl⟩
          · rw [up_ne (by decide), up_ne (by decide)]; exact hC'.1.2.2.1
          · rw [up_ne (by decide), up_ne (by decide)]; exact hC'.1.2.2.2.1
          · rw [up_ne (by decide), up_ne (by decide)]; exact hC'.1.2.2.2.2
        · refine CS.mono (k_X9_clear_ok_0_0 (I := I1) (L := L1) l E _ _ _ _ _ kp rfl rfl rfl rfl rfl (by rw [fm 161 (by decide)]; exact h2) hkp (by rw [fm 162 (by decide)]; exact ci.mp c)) (fun v I2 L2 hh => ?_)
          obtain ⟨e0, eI, eL⟩ := hh
          rw [fm 162 (by decide)] at e0 eI
          exact ⟨e0, MB1 fm fmL h8 (by rw [fm 162 (by decide)]; exact eI) eL⟩
      · exact LK h' (k_X8_clear_np_0_0 (I := I) (L := L) l E _ _ _ _ _ rfl rfl rfl rfl rfl c) (k_X9_clear_np_0_0 (I := I) (L := L) l E _ rfl (fun q => c (ci.mpr q))) ⟨rfl, rfl, Nat.le_of_ble_eq_true rfl, Nat.le_of_ble_eq_true rfl⟩ ⟨rfl, rfl, Nat.le_of_ble_eq_true rfl, Nat.le_of_ble_eq_true rfl⟩ rfl
    · have ci : (¬ I 8 1 = 0 ∧ plcF (I 8) (I 9) 1 = 0) ↔ (¬ I 162 55 = -1 ∧ ¬ ¬ plcM (I 162) 40 1 ≤ 0) := by
        have z := plc0 (f := 1) (P := True) (Q := True) hR.2.2.2.1.2.2.2.2 (by omega) (by decide) Iff.rfl
        exact ⟨fun q => ⟨(z.mp ⟨q.1, q.2, trivial⟩).1, (z.mp ⟨q.1, q.2, trivial⟩).2.1⟩, fun q => ⟨(z.mpr ⟨q.1, q.2, trivial⟩).1, (z.mpr ⟨q.1, q.2, trivial⟩).2.1⟩⟩
      by_cases c : ¬ I 8 1 = 0 ∧ plcF (I 8) (I 9) 1 = 0
      · refine CHG (rm2 := { frames := 4, cells := 0, slots := 0, locals := 88 }) (d' := upd (I 162) 55 (-1)) (lx' := L 161) (k' := k) (x := (ltdF (upd (I 162) 55 (-1)) 40)) hC h2 h8 (((k_X8_clear_ok_0_1 (I := I) (L := L) l E _ _ _ _ _ _ o kp rfl rfl rfl rfl rfl rfl ho hkk ho4 hkp hisb c)).mono (fun v I2 L2 hh => by obtain ⟨a, J, M, b, c, e⟩ := hh; exact ⟨J, M, b, a, c, e⟩)) ⟨rfl, rfl, Nat.le_of_ble_eq_true rfl, Nat.le_of_ble_eq_true rfl⟩ ⟨rfl, rfl, Nat.le_of_ble_eq_true rfl, Nat.le_of_ble_eq_true rfl⟩ (fun J M hr => ?_) (fun I1 L1 fm fmL => ?_)
        · obtain ⟨o', hC'⟩ := hC.rec hr
          have e5 : J 7 = I 7 := hr.fr (by decide) (by decide)
          have e6 : J 8 = I 8 := hr.fr (by decide) (by decide)
          have cl := hC'.1.1.clear (B := 1) (X := 1) (f := 1) (by omega) (Or.inl ⟨rfl, rfl, rfl⟩) (by decide) (by rw [show J (1 + 1 + 6) = I 8 from e6]; exact c.1)
          rw [show J (1 + 1 + 5) = I 7 from e5, show J (1 + 1 + 6) = I 8 from e6] at cl
          refine ⟨⟨cl.1, hC'.1.2.1, ?_, ?_, ?_⟩, cl.2, fun z hz => by rw [up_ne (by omega), up_ne (by omega)], fun z hz => rfl⟩
          · rw [up_ne (by decide), up_ne (by decide)]; exact hC'.1.2.2.1
          · rw [up_ne (by decide), up_ne (by decide)]; exact hC'.1.2.2.2.1
          · rw [up_ne (by decide), up_ne (by decide)]; exact hC'.1.2.2.2.2
        · refine CS.mono (k_X9_clear_ok_0_1 (I := I1) (L := L1) l E _ _ _ _ _ kp rfl rfl rfl rfl rfl (by rw [fm 161 (by decide)]; exact h2) hkp (by rw [fm 162 (by decide)]; exact ci.mp c)) (fun v I2 L2 hh => ?_)
          obtain ⟨e0, eI, eL⟩ := hh
          rw [fm 162 (by decide)] at e0 eI
          exact ⟨e0, MB1 fm fmL h8 (by rw [fm 162 (by decide)]; exact eI) eL⟩
      · exact LK h' (k_X8_clear_np_0_1 (I := I) (L := L) l E _ _ _ _ _ rfl rfl rfl rfl rfl c) (k_X9_clear_np_0_1 (I := I) (L := L) l E _ rfl (fun q => c (ci.mpr q))) ⟨rfl, rfl, Nat.le_of_ble_eq_true rfl, Nat.le_of_ble_eq_true rfl⟩ ⟨rfl, rfl, Nat.le_of_ble_eq_true rfl, Nat.le_of_ble_eq_true rfl⟩ rfl
    · have ci : (¬ I 8 2 = 0 ∧ plcF (I 8) (I 9) 2 = 0 ∧ ¬ I 21 4 / 2 < I 2 5) ↔ (¬ I 162 58 = -1 ∧ ¬ ¬ plcM (I 162) 40 2 ≤ 0 ∧ ¬ I 162 5 / 2 < I 162 45) := plc0 (f := 2) hR.2.2.2.1.2.2.2.2 (by omega) (by decide) (by rw [show I 21 4 = I 162 5 from hR.2.2.1.1 4 (by decide), show I 2 5 = I 162 45 from hR.2.2.2.1.2.2.1.2.1])
      by_cases c : ¬ I 8 2 = 0 ∧ plcF (I 8) (I 9) 2 = 0 ∧ ¬ I 21 4 / 2 < I 2 5
      · refine CHG (rm2 := { frames := 4, cells := 0, slots := 0, locals := 88 }) (d' := upd (I 162) 58 (-1)) (lx' := L 161) (k' := k) (x := (ltdF (upd (I 162) 58 (-1)) 40)) hC h2 h8 (((k_X8_clear_ok_0_2 (I := I) (L := L) l E _ _ _ _ _ _ o kp rfl rfl rfl rfl rfl rfl ho hkk ho4 hkp hisb c)).mono (fun v I2 L2 hh => by obtain ⟨a, J, M, b, c, e⟩ := hh; exact ⟨J, M, b, a, c, e⟩)) ⟨rfl, rfl, Nat.le_of_ble_eq_true rfl, Nat.le_of_ble_eq_true rfl⟩ ⟨rfl, rfl, Nat.le_of_ble_eq_true rfl, Nat.le_of_ble_eq_true rfl⟩ (fun J M hr => ?_) (fun I1 L1 fm fmL => ?_)
        · obtain ⟨o', hC'⟩ := hC.rec hr
          have e5 : J 7 = I 7 := hr.fr (by decide) (by decide)
          have e6 : J 8 = I 8 := hr.fr (by decide) (by decide)
          have cl := hC'.1.1.clear (B := 1) (X := 1) (f := 2) (by omega) (Or.inl ⟨rfl, rfl, rfl⟩) (by decide) (by rw [show J (1 + 1 + 6) = I 8 from e6]; exact c.1)
          rw [show J (1 + 1 + 5) = I 7 from e5, show J (1 + 1 + 6) = I 8 from e6] at cl
          refine ⟨⟨cl.1, hC'.1.2.1, ?_, ?_, ?_⟩, cl.2, fun z hz => by rw [up_ne (by omega), up_ne (by omega)], fun z hz => rfl⟩
          · rw [up_ne (by decide), up_ne (by decide)]; exact hC'.1.2.2.1
          · rw [up_ne (by decide), up_ne (by decide)]; exact hC'.1.2.2.2.1
          · rw [up_ne (by decide), up_ne (by decide)]; exact hC'.1.2.2.2.2
        · refine CS.mono (k_X9_clear_ok_0_2 (I := I1) (L := L1) l E _ _ _ _ _ kp rfl rfl rfl rfl rfl (by rw [fm 161 (by decide)]; exact h2) hkp (by rw [fm 162 (by decide)]; exact ci.mp c)) (fun v I2 L2 hh => ?_)
          obtain ⟨e0, eI, eL⟩ := hh
          rw [fm 162 (by decide)] at e0 eI
          exact ⟨e0, MB1 fm fmL h8 (by rw [fm 162 (by decide)]; exact eI) eL⟩
      · exact LK h' (k_X8_clear_np_0_2 (I := I) (L := L) l E _ _ _ _ _ rfl rfl rfl rfl rfl c) (k_X9_clear_np_0_2 (I := I) (L := L) l E _ rfl (fun q => c (ci.mpr q))) ⟨rfl, rfl, Nat.le_of_ble_eq_true rfl, Nat.le_of_ble_eq_true rfl⟩ ⟨rfl, rfl, Nat.le_of_ble_eq_true rfl, Nat.le_of_ble_eq_true rfl⟩ rfl
    · have ci : (¬ I 17 0 = 0 ∧ plcF (I 17) (I 18) 0 = 0 ∧ ¬ I 21 2 ≤ absI (I 11 4)) ↔ (¬ I 162 82 = -1 ∧ ¬ ¬ plcM (I 162) 70 0 ≤ 0 ∧ absM (I 162 74) < I 162 3) := plc0 (f := 0) hR.2.2.2.2.1.2.2.2.2 (by omega) (by decide) (by rw [show I 21 2 = I 162 3 from hR.2.2.1.1 2 (by decide), show I 11 4 = I 162 74 from hR.2.2.2.2.1.2.2.1.1]; exact Int32.not_le)
      by_cases c : ¬ I 17 0 = 0 ∧ plcF (I 17) (I 18) 0 = 0 ∧ ¬ I 21 2 ≤ absI (I 11 4)
      · refine CHG (rm2 := { frames := 4, cells := 0, slots := 0, locals := 88 }) (d' := upd (I 162) 82 (-1)) (lx' := L 161) (k' := k) (x := (ltdF (upd (I 162) 82 (-1)) 70)) hC h2 h8 (((k_X8_clear_ok_1_0 (I := I) (L := L) l E _ _ _ _ _ _ o kp rfl rfl rfl rfl rfl rfl ho hkk ho4 hkp hisb c)).mono (fun v I2 L2 hh => by obtain ⟨a, J, M, b, c, e⟩ := hh; exact ⟨J, M, b, a, c, e⟩)) ⟨rfl, rfl, Nat.le_of_ble_eq_true rfl, Nat.le_of_ble_eq_true rfl⟩ ⟨rfl, rfl, Nat.le_of_ble_eq_true rfl, Nat.le_of_ble_eq_true rfl⟩ (fun J M hr => ?_) (fun I1 L1 fm fmL => ?_)
        · obtain ⟨o', hC'⟩ := hC.rec hr
          have e5 : J 16 = I 16 := hr.fr (by decide) (by decide)
          have e6 : J 17 = I 17 := hr.fr (by decide) (by decide)
          have cl := hC'.1.1.clear (B := 1) (X := 10) (f := 0) (by omega) (Or.inr ⟨rfl, rfl, rfl⟩) (by decide) (by rw [show J (1 + 10 + 6) = I 17 from e6]; exact c.1)
          rw [show J (1 + 10 + 5) = I 16 from e5, show J (1 + 10 + 6) = I 17 from e6] at cl
          refine ⟨⟨cl.1, hC'.1.2.1, ?_, ?_, ?_⟩, cl.2, fun z hz => by rw [up_ne (by omega), up_ne (by omega)], fun z hz => rfl⟩
          · rw [up_ne (by decide), up_ne (by decide)]; exact hC'.1.2.2.1
          · rw [up_ne (by decide), up_ne (by decide)]; exact hC'.1.2.2.2.1
          · rw [up_ne (by decide), up_ne (by decide)]; exact hC'.1.2.2.2.2
        · refine CS.mono (k_X9_clear_ok_1_0 (I := I1) (L := L1) l E _ _ _ _ _ kp rfl rfl rfl rfl rfl (by rw [fm 161 (by decide)]; exact h2) hkp (by rw [fm 162 (by decide)]; exact ci.mp c)) (fun v I2 L2 hh => ?_)
          obtain ⟨e0, eI, eL⟩ := hh
          rw [fm 162 (by decide)] at e0 eI
          exact ⟨e0, MB1 fm fmL h8 (by rw [fm 162 (by decide)]; exact eI) eL⟩
      · exact LK h' (k_X8_clear_np_1_0 (I := I) (L := L) l E _ _ _ _ _ rfl rfl rfl rfl rfl c) (k_X9_clear_np_1_0 (I := I) (L := L) l E _ rfl (fun q => c (ci.mpr q))) ⟨rfl, rfl, Nat.le_of_ble_eq_true rfl, Nat.le_of_ble_eq_true rfl⟩ ⟨rfl, rfl, Nat.le_of_ble_eq_true rfl, Nat.le_of_ble_eq_true rfl⟩ rfl
    · have ci : (¬ I 17 1 = 0 ∧ plcF (I 17) (I 18) 1 = 0) ↔ (¬ I 162 85 = -1 ∧ ¬ ¬ plcM (I 162) 70 1 ≤ 0) := by
        have z := plc0 (f := 1) (P := True) (Q := True) hR.2.2.2.2.1.2.2.2.2 (by omega) (by decide) Iff.rfl
        exact ⟨fun q => ⟨(z.mp ⟨q.1, q.2, trivial⟩).1, (z.mp ⟨q.1, q.2, trivial⟩).2.1⟩, fun q => ⟨(z.mpr ⟨q.1, q.2, trivial⟩).1, (z.mpr ⟨q.1, q.2, trivial⟩).2.1⟩⟩
      by_cases c : ¬ I 17 1 = 0 ∧ plcF (I 17) (I 18) 1 = 0
      · refine CHG (rm2 := { frames := 4, cells := 0, slots := 0, locals := 88 }) (d' := upd (I 162) 85 (-1)) (lx' := L 161) (k' := k) (x := (ltdF (upd (I 162) 85 (-1)) 70)) hC h2 h8 (((k_X8_clear_ok_1_1 (I := I) (L := L) l E _ _ _ _ _ _ o kp rfl rfl rfl rfl rfl rfl ho hkk ho4 hkp hisb c)).mono (fun v I2 L2 hh => by obtain ⟨a, J, M, b, c, e⟩ := hh; exact ⟨J, M, b, a, c, e⟩)) ⟨rfl, rfl, Nat.le_of_ble_eq_true rfl, Nat.le_of_ble_eq_true rfl⟩ ⟨rfl, rfl, Nat.le_of_ble_eq_true rfl, Nat.le_of_ble_eq_true rfl⟩ (fun J M hr => ?_) (fun I1 L1 fm fmL => ?_)
        · obtain ⟨o', hC'⟩ := hC.rec hr
          have e5 : J 16 = I 16 := hr.fr (by decide) (by decide)
          have e6 : J 17 = I 17 := hr.fr (by decide) (by decide)
          have cl := hC'.1.1.clear (B := 1) (X := 10) (f := 1) (by omega) (Or.inr ⟨rfl, rfl, rfl⟩) (by decide) (by rw [show J (1 + 10 + 6) = I 17 from e6]; exact c.1)
          rw [show J (1 + 10 + 5) = I 16 from e5, show J (1 + 10 + 6) = I 17 from e6] at cl
          refine ⟨⟨cl.1, hC'.1.2.1, ?_, ?_, ?_⟩, cl.2, fun z hz => by rw [up_ne (by omega), up_ne (by omega)], fun z hz => rfl⟩
          · rw [up_ne (by decide), up_ne (by decide)]; exact hC'.1.2.2.1
          · rw [up_ne (by decide), up_ne (by decide)]; exact hC'.1.2.2.2.1
          · rw [up_ne (by decide), up_ne (by decide)]; exact hC'.1.2.2.2.2
        · refine CS.mono (k_X9_clear_ok_1_1 (I := I1) (L := L1) l E _ _ _ _ _ kp rfl rfl rfl rfl rfl (by rw [fm 161 (by decide)]; exact h2) hkp (by rw [fm 162 (by decide)]; exact ci.mp c)) (fun v I2 L2 hh => ?_)
          obtain ⟨e0, eI, eL⟩ := hh
          rw [fm 162 (by decide)] at e0 eI
          exact ⟨e0, MB1 fm fmL h8 (by rw [fm 162 (by decide)]; exact eI) eL⟩
      · exact LK h' (k_X8_clear_np_1_1 (I := I) (L := L) l E _ _ _ _ _ rfl rfl rfl rfl rfl c) (k_X9_clear_np_1_1 (I := I) (L := L) l E _ rfl (fun q => c (ci.mpr q))) ⟨rfl, rfl, Nat.le_of_ble_eq_true rfl, Nat.le_of_ble_eq_true rfl⟩ ⟨rfl, rfl, Nat.le_of_ble_eq_true rfl, Nat.le_of_ble_eq_true rfl⟩ rfl
    · have ci : (¬ I 17 2 = 0 ∧ plcF (I 17) (I 18) 2 = 0 ∧ ¬ I 21 4 / 2 < I 11 5) ↔ (¬ I 162 88 = -1 ∧ ¬ ¬ plcM (I 162) 70 2 ≤ 0 ∧ ¬ I 162 5 / 2 < I 162 75) := plc0 (f := 2) hR.2.2.2.2.1.2.2.2.2 (by omega) (by decide) (by rw [show I 21 4 = I 162 5 from hR.2.2.1.1 4 (by decide), show I 11 5 = I 162 75 from hR.2.2.2.2.1.2.2.1.2.1])
      by_cases c : ¬ I 17 2 = 0 ∧ plcF (I 17) (I 18) 2 = 0 ∧ ¬ I 21 4 / 2 < I 11 5
      · refine CHG (rm2 := { frames := 4, cells := 0, slots := 0, locals := 88 }) (d' := upd (I 162) 88 (-1)) (lx' := L 161) (k' := k) (x := (ltdF (upd (I 162) 88 (-1)) 70)) hC h2 h8 (((k_X8_clear_ok_1_2 (I := I) (L := L) l E _ _ _ _ _ _ o kp rfl rfl rfl rfl rfl rfl ho hkk ho4 hkp hisb c)).mono (fun v I2 L2 hh => by obtain ⟨a, J, M, b, c, e⟩ := hh; exact ⟨J, M, b, a, c, e⟩)) ⟨rfl, rfl, Nat.le_of_ble_eq_true rfl, Nat.le_of_ble_eq_true rfl⟩ ⟨rfl, rfl, Nat.le_of_ble_eq_true rfl, Nat.le_of_ble_eq_true rfl⟩ (fun J M hr => ?_) (fun I1 L1 fm fmL => ?_)
        · obtain ⟨o', hC'⟩ := hC.rec hr
          have e5 : J 16 = I 16 := hr.fr (by decide) (by decide)
          have e6 : J 17 = I 17 := hr.fr (by decide) (by decide)
          have cl := hC'.1.1.clear (B := 1) (X := 10) (f := 2) (by omega) (Or.inr ⟨rfl, rfl, rfl⟩) (by decide) (by rw [show J (1 + 10 + 6) = I 17 from e6]; exact c.1)
          rw [show J (1 + 10 + 5) = I 16 from e5, show J (1 + 10 + 6) = I 17 from e6] at cl
          refine ⟨⟨cl.1, hC'.1.2.1, ?_, ?_, ?_⟩, cl.2, fun z hz => by rw [up_ne (by omega), up_ne (by omega)], fun z hz => rfl⟩
          · rw [up_ne (by decide), up_ne (by decide)]; exact hC'.1.2.2.1
          · rw [up_ne (by decide), up_ne (by decide)]; exact hC'.1.2.2.2.1
          · rw [up_ne (by decide), up_ne (by decide)]; exact hC'.1.2.2.2.2
        · refine CS.mono (k_X9_clear_ok_1_2 (I := I1) (L := L1) l E _ _ _ _ _ kp rfl rfl rfl rfl rfl (by rw [fm 161 (by decide)]; exact h2) hkp (by rw [fm 162 (by decide)]; exact ci.mp c)) (fun v I2 L2 hh => ?_)
          obtain ⟨e0, eI, eL⟩ := hh
          rw [fm 162 (by decide)] at e0 eI
          exact ⟨e0, MB1 fm fmL h8 (by rw [fm 162 (by decide)]; exact eI) eL⟩
      · exact LK h' (k_X8_clear_np_1_2 (I := I) (L := L) l E _ _ _ _ _ rfl rfl rfl rfl rfl c) (k_X9_clear_np_1_2 (I := I) (L := L) l E _ rfl (fun q => c (ci.mpr q))) ⟨rfl, rfl, Nat.le_of_ble_eq_true rfl, Nat.le_of_ble_eq_true rfl⟩ ⟨rfl, rfl, Nat.le_of_ble_eq_true rfl, Nat.le_of_ble_eq_true rfl⟩ rfl
  · exact LK h' (k_X8_clear_no (I := I) (L := L) l E load fault t) (k_X9_clear_no (I := I) (L := L) l E load fault t) ⟨rfl, rfl, Nat.le_of_ble_eq_true rfl, Nat.le_of_ble_eq_true rfl⟩ ⟨rfl, rfl, Nat.le_of_ble_eq_true rfl, Nat.le_of_ble_eq_true rfl⟩ rfl
theorem P_go {l : Launch} {E : Ev} {I : SI} {L : SL} (h : Rel I L) (slots : Int32) : PR l E yX8_go yX9_go wsX8_go wsX9_go [.int slots] I L := by
  have h' := h
  obtain ⟨k, o, kp, n, hC, h2, h8⟩ := h
  have hB := hC.1
  have hR := hB.1
  have hk := hB.2.1
  have hisb := hR.isb
  obtain ⟨ho4, hkp, ho, hkk, hH⟩ := hC.2.1
  have hsl : I 1 4 = nI k := hR.1
  have hds : I 162 0 = nI k := hR.2.1
  by_cases t : INR slots 1 1000
  · obtain ⟨n', a1, a2, rfl⟩ := ofR (a := 1) (b := 1000) (by decide) (by decide) t
    by_cases c : k + n' ≤ 100000
    · refine CHG (rm2 := { frames := 5, cells := 0, slots := 0, locals := 112 }) (d' := gsN (I 162) n') (lx' := gsNX (I 162) (L 161) n') (k' := k + n') (x := (gsNR (I 162) n')) hC h2 h8 ((k_X8_go_ok (I := I) (L := L) l E n' _ _ o kp k rfl rfl ho hkk ho4 hkp hisb hsl a1 a2 c)) ⟨rfl, rfl, Nat.le_of_ble_eq_true rfl, Nat.le_of_ble_eq_true rfl⟩ ⟨rfl, rfl, Nat.le_of_ble_eq_true rfl, Nat.le_of_ble_eq_true rfl⟩ (fun J M hr => ?_) (fun I1 L1 fm fmL => ?_)
      · obtain ⟨o', hC'⟩ := hC.rec hr
        obtain ⟨g1, g2⟩ := hC'.1.1.iter n' (by omega)
        refine ⟨⟨?_, c, ?_, ?_, ?_⟩, g2, fun z hz => brIt_ne (by omega), fun z hz => brIt_neL (by omega)⟩
        · rw [gsNX_3]; exact g1
        · rw [brIt_ne (by decide)]; exact hC'.1.2.2.1
        · rw [brIt_ne (by decide)]; exact hC'.1.2.2.2.1
        · rw [brIt_ne (by decide)]; exact hC'.1.2.2.2.2
      · refine CS.mono (k_X9_go_ok (I := I1) (L := L1) l E n' _ _ _ _ _ kp k rfl rfl rfl rfl rfl (by rw [fm 161 (by decide)]; exact h2) hkp (by rw [fm 162 (by decide)]; exact hds) a1 a2 c (by rw [fm 162 (by decide)]; exact hR.cmds)) (fun v I2 L2 hh => ?_)
        obtain ⟨e0, eI, eL⟩ := hh
        rw [fm 162 (by decide)] at e0 eI
        rw [fmL 161 (by decide), fm 162 (by decide)] at eL
        exact ⟨e0, MB2 fm fmL h8 (by rw [fm 162 (by decide)]; exact eI) (by rw [fmL 161 (by decide)]; exact eL)⟩
    · exact LK h' (k_X8_go_lim (I := I) (L := L) l E n' _ k rfl hsl a1 a2 hk (by omega)) (k_X9_go_lim (I := I) (L := L) l E n' _ k rfl hds a1 a2 (by omega) (by omega)) ⟨rfl, rfl, Nat.le_of_ble_eq_true rfl, Nat.le_of_ble_eq_true rfl⟩ ⟨rfl, rfl, Nat.le_of_ble_eq_true rfl, Nat.le_of_ble_eq_true rfl⟩ rfl
  · exact LK h' (k_X8_go_no (I := I) (L := L) l E slots t) (k_X9_go_no (I := I) (L := L) l E slots t) ⟨rfl, rfl, Nat.le_of_ble_eq_true rfl, Nat.le_of_ble_eq_true rfl⟩ ⟨rfl, rfl, Nat.le_of_ble_eq_true rfl, Nat.le_of_ble_eq_true rfl⟩ rfl
theorem P_undo {l : Launch} {E : Ev} {I : SI} {L : SL} (h : Rel I L) : PR l E yX8_undo yX9_undo wsX8_undo wsX9_undo [] I L := by
  have h' := h
  obtain ⟨k, o, kp, n, hC, h2, h8⟩ := h
  have hB := hC.1
  have hR := hB.1
  have hk := hB.2.1
  have hisb := hR.isb
  obtain ⟨ho4, hkp, ho, hkk, hH⟩ := hC.2.1
  rcases kp with _ | kq
  · exact LK h' (k_X8_undo_no (I := I) (L := L) l E _ rfl hkk) (k_X9_undo_no (I := I) (L := L) l E _ rfl h2) ⟨rfl, rfl, Nat.le_of_ble_eq_true rfl, Nat.le_of_ble_eq_true rfl⟩ ⟨rfl, rfl, Nat.le_of_ble_eq_true rfl, Nat.le_of_ble_eq_true rfl⟩ rfl
  · obtain ⟨kj, hkj, hbj⟩ := hH kq (Nat.lt_succ_self kq)
    refine CX.of (k_X8_undo_ok (I := I) (L := L) l E _ o kq rfl ho hkk ho4 (by omega) hbj.isb) ⟨rfl, rfl, Nat.le_of_ble_eq_true rfl, Nat.le_of_ble_eq_true rfl⟩ (fun v I1 L1 hh => ?_)
    obtain ⟨rfl, r1, r2, r3, r4, r5⟩ := hh
    have fm : ∀ z, 161 ≤ z → I1 z = I z := fun z hz => r2 z (by omega) (by omega)
    have fmL : ∀ z, 161 ≤ z → L1 z = L z := fun z hz => r3 z (by omega)
    have nb := hbj.copy r1
    have ca := r1.2.1
    have hC2 : RelC I1 L1 (fun z => I 163 (270 * kq + z)) (L 164 kq) (I 163) (L 164) (I 166) kj o kq n := by
      refine ⟨⟨nb, hkj, ?_, ?_, ?_⟩, ⟨ho4, by omega, r4, r5, ?_⟩, hC.2.2.cong (r2 159 (by decide) (by decide)) (r2 160 (by decide) (by decide)) (fun _ _ => rfl)⟩
      · rw [r2 20 (by decide) (by decide)]; exact hB.2.2.1
      · rw [r2 5 (by decide) (by decide)]; exact hB.2.2.2.1
      · rw [r2 14 (by decide) (by decide)]; exact hB.2.2.2.2
      · intro j hj
        obtain ⟨ki, x1, x2⟩ := hH j (by omega)
        have hr := @recT_in o j
        exact ⟨ki, x1, x2.cong (fun z a b => r2 z (by omega) (by omega)) (fun z a b => r3 z (by omega)) (fun _ _ => rfl)⟩
    refine ⟨_, rfl, CX.of (k_X9_undo_ok (I := I1) (L := L1) l E _ _ _ _ _ kq rfl rfl rfl rfl rfl (by rw [fm 161 (by decide)]; exact h2) (by omega)) ⟨rfl, rfl, Nat.le_of_ble_eq_true rfl, Nat.le_of_ble_eq_true rfl⟩ (fun v2 I2 L2 hh => ?_)⟩
    obtain ⟨e0, eI, eL⟩ := hh
    rw [fm 162 (by decide), fm 163 (by decide)] at eI
    rw [fmL 161 (by decide), fmL 164 (by decide)] at eL
    subst eI
    subst eL
    refine ⟨e0, Rel.mk2 hC2 (fun z hz => by rw [up_ne (by omega), up_ne (by omega)]) (fun z hz => by rw [upL_ne (by omega)]) (fun z hz => ?_) ?_ (fun z hz => ?_) (fun z hz => ?_) (fun z hz => ?_) ?_ ?_⟩
    · rw [up_eq]
      unfold va_cpy
      rw [if_pos (by omega), Nat.sub_zero]
    · rw [upL_eq]
      unfold vp_updL
      rw [if_pos rfl]
    · rw [up_ne (by decide), up_ne (by decide), fm 163 (by decide)]
    · rw [upL_ne (by decide), fmL 164 (by decide)]
    · rw [up_ne (by decide), up_ne (by decide), fm 166 (by decide)]
    · rw [up_ne (by decide), up_eq, upd_eq]
    · rw [up_ne (by decide), up_eq, upd_ne (by decide), fm 161 (by decide)]
      exact h8
