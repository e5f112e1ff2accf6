theorem ite_iff2 {P Q : Prop} [Decidable P] [Decidable Q] (h : P ↔ Q) {x y z : Int32} (e : P → x = y) : (if P then x else z) = if Q then y else z := by
  by_cases p : P
  · rw [if_pos p, if_pos (h.mp p), e p]
  · rw [if_neg p, if_neg (fun q => p (h.mpr q))]
theorem P_fault {l : Launch} {E : Ev} {I : SI} {L : SL} (h : Rel I L) (load : Int32) (fault : Int32) (what : Int32) : PR l E yX8_fault yX9_fault wsX8_fault wsX9_fault [.int load, .int fault, .int what] I L := by
  have h' := h
  obtain ⟨k, o, kp, n, hC, h2, h8⟩ := h
  have hB := hC.1
  have hR := hB.1
  have hk := hB.2.1
  have hisb := hR.isb
  obtain ⟨ho4, hkp, ho, hkk, hH⟩ := hC.2.1
  by_cases t : IN1 load ∧ IN2 fault ∧ INR what 0 4
  · rcases in_le1 t.1 with rfl | rfl <;> rcases in_le2 t.2.1 with rfl | rfl | rfl
    · have ci : (¬ I 8 0 = 0 ∧ plcF (I 8) (I 9) 0 = 0 ∧ ¬ I 21 2 ≤ absI (I 2 4)) ↔ (¬ I 162 52 = -1 ∧ ¬ ¬ plcM (I 162) 40 0 ≤ 0 ∧ absM (I 162 44) < I 162 3) := plc0 (f := 0) hR.2.2.2.1.2.2.2.2 (by omega) (by decide) (by rw [show I 21 2 = I 162 3 from hR.2.2.1.1 2 (by decide), show I 2 4 = I 162 44 from hR.2.2.2.1.2.2.1.1]; exact Int32.not_le)
      have la := hR.2.2.2.1.2.2.2.2.lat (f := 0) (by omega) (by decide)
      rcases in_le4 t.2.2 with rfl | rfl | rfl | rfl | rfl
      · exact LK h' (k_X8_fault_0_0_0 (I := I) (L := L) l E _ rfl) (k_X9_fault_0_0_0 (I := I) (L := L) l E _ rfl) ⟨rfl, rfl, Nat.le_of_ble_eq_true rfl, Nat.le_of_ble_eq_true rfl⟩ ⟨rfl, rfl, Nat.le_of_ble_eq_true rfl, Nat.le_of_ble_eq_true rfl⟩ (ite_iff la 1 0)
      · exact LK h' (k_X8_fault_0_0_1 (I := I) (L := L) l E _ _ rfl rfl) (k_X9_fault_0_0_1 (I := I) (L := L) l E _ rfl) ⟨rfl, rfl, Nat.le_of_ble_eq_true rfl, Nat.le_of_ble_eq_true rfl⟩ ⟨rfl, rfl, Nat.le_of_ble_eq_true rfl, Nat.le_of_ble_eq_true rfl⟩ (ite_iff2 la (fun q => (hR.2.2.2.1.2.2.2.2.vals (f := 0) (by decide) q).1))
      · exact LK h' (k_X8_fault_0_0_2 (I := I) (L := L) l E _ _ rfl rfl) (k_X9_fault_0_0_2 (I := I) (L := L) l E _ rfl) ⟨rfl, rfl, Nat.le_of_ble_eq_true rfl, Nat.le_of_ble_eq_true rfl⟩ ⟨rfl, rfl, Nat.le_of_ble_eq_true rfl, Nat.le_of_ble_eq_true rfl⟩ (ite_iff2 la (fun q => (hR.2.2.2.1.2.2.2.2.vals (f := 0) (by decide) q).2))
      · exact LK h' (k_X8_fault_0_0_3 (I := I) (L := L) l E _ _ rfl rfl) (k_X9_fault_0_0_3 (I := I) (L := L) l E _ rfl) ⟨rfl, rfl, Nat.le_of_ble_eq_true rfl, Nat.le_of_ble_eq_true rfl⟩ ⟨rfl, rfl, Nat.le_of_ble_eq_true rfl, Nat.le_of_ble_eq_true rfl⟩ (ite_iff2 la (fun q => hR.2.2.2.1.2.2.2.2.plc (f := 0) (by omega) (by decide) (by decide) q))
      · exact LK h' (k_X8_fault_0_0_4 (I := I) (L := L) l E _ _ _ _ rfl rfl rfl rfl) (k_X9_fault_0_0_4 (I := I) (L := L) l E _ rfl) ⟨rfl, rfl, Nat.le_of_ble_eq_true rfl, Nat.le_of_ble_eq_true rfl⟩ ⟨rfl, rfl, Nat.le_of_ble_eq_true rfl, Nat.le_of_ble_eq_true rfl⟩ (ite_iff ci 1 0)
    · have ci : (¬ I 8 1 = 0 ∧ plcF (I 8) (I 9) 1 = 0) ↔ (¬ I 162 55 = -1 ∧ ¬ ¬ plcM (I 162) 40 1 ≤ 0) := by
        have z := plc0 (f := 1) (P := True) (Q := True) hR.2.2.2.1.2.2.2.2 (by omega) (by decide) Iff.rfl
        exact ⟨fun q => ⟨(z.mp ⟨q.1, q.2, trivial⟩).1, (z.mp ⟨q.1, q.2, trivial⟩).2.1⟩, fun q => ⟨(z.mpr ⟨q.1, q.2, trivial⟩).1, (z.mpr ⟨q.1, q.2, trivial⟩).2.1⟩⟩
      have la := hR.2.2.2.1.2.2.2.2.lat (f := 1) (by omega) (by decide)
      rcases in_le4 t.2.2 with rfl | rfl | rfl | rfl | rfl
      · exact LK h' (k_X8_fault_0_1_0 (I := I) (L := L) l E _ rfl) (k_X9_fault_0_1_0 (I := I) (L := L) l E _ rfl) ⟨rfl, rfl, Nat.le_of_ble_eq_true rfl, Nat.le_of_ble_eq_true rfl⟩ ⟨rfl, rfl, Nat.le_of_ble_eq_true rfl, Nat.le_of_ble_eq_true rfl⟩ (ite_iff la 1 0)
      · exact LK h' (k_X8_fault_0_1_1 (I := I) (L := L) l E _ _ rfl rfl) (k_X9_fault_0_1_1 (I := I) (L := L) l E _ rfl) ⟨rfl, rfl, Nat.le_of_ble_eq_true rfl, Nat.le_of_ble_eq_true rfl⟩ ⟨rfl, rfl, Nat.le_of_ble_eq_true rfl, Nat.le_of_ble_eq_true rfl⟩ (ite_iff2 la (fun q => (hR.2.2.2.1.2.2.2.2.vals (f := 1) (by decide) q).1))
      · exact LK h' (k_X8_fault_0_1_2 (I := I) (L := L) l E _ _ rfl rfl) (k_X9_fault_0_1_2 (I := I) (L := L) l E _ rfl) ⟨rfl, rfl, Nat.le_of_ble_eq_true rfl, Nat.le_of_ble_eq_true rfl⟩ ⟨rfl, rfl, Nat.le_of_ble_eq_true rfl, Nat.le_of_ble_eq_true rfl⟩ (ite_iff2 la (fun q => (hR.2.2.2.1.2.2.2.2.vals (f := 1) (by decide) q).2))
      · exact LK h' (k_X8_fault_0_1_3 (I := I) (L := L) l E _ _ rfl rfl) (k_X9_fault_0_1_3 (I := I) (L := L) l E _ rfl) ⟨rfl, rfl, Nat.le_of_ble_eq_true rfl, Nat.le_of_ble_eq_true rfl⟩ ⟨rfl, rfl, Nat.le_of_ble_eq_true rfl, Nat.le_of_ble_eq_true rfl⟩ (ite_iff2 la (fun q => hR.2.2.2.1.2.2.2.2.plc (f := 1) (by omega) (by decide) (by decide) q))
      · exact LK h' (k_X8_fault_0_1_4 (I := I) (L := L) l E _ _ _ _ rfl rfl rfl rfl) (k_X9_fault_0_1_4 (I := I) (L := L) l E _ rfl) ⟨rfl, rfl, Nat.le_of_ble_eq_true rfl, Nat.le_of_ble_eq_true rfl⟩ ⟨rfl, rfl, Nat.le_of_ble_eq_true rfl, Nat.le_of_ble_eq_true rfl⟩ (ite_iff ci 1 0)
    · have ci : (¬ I 8 2 = 0 ∧ plcF (I 8) (I 9) 2 = 0 ∧ ¬ I 21 4 / 2 < I 2 5) ↔ (¬ I 162 58 = -1 ∧ ¬ ¬ plcM (I 162) 40 2 ≤ 0 ∧ ¬ I 162 5 / 2 < I 162 45) := plc0 (f := 2) hR.2.2.2.1.2.2.2.2 (by omega) (by decide) (by rw [show I 21 4 = I 162 5 from hR.2.2.1.1 4 (by decide), show I 2 5 = I 162 45 from hR.2.2.2.1.2.2.1.2.1])
      have la := hR.2.2.2.1.2.2.2.2.lat (f := 2) (by omega) (by decide)
      rcases in_le4 t.2.2 with rfl | rfl | rfl | rfl | rfl
      · exact LK h' (k_X8_fault_0_2_0 (I := I) (L := L) l E _ rfl) (k_X9_fault_0_2_0 (I := I) (L := L) l E _ rfl) ⟨rfl, rfl, Nat.le_of_ble_eq_true rfl, Nat.le_of_ble_eq_true rfl⟩ ⟨rfl, rfl, Nat.le_of_ble_eq_true rfl, Nat.le_of_ble_eq_true rfl⟩ (ite_iff la 1 0)
      · exact LK h' (k_X8_fault_0_2_1 (I := I) (L := L) l E _ _ rfl rfl) (k_X9_fault_0_2_1 (I := I) (L := L) l E _ rfl) ⟨rfl, rfl, Nat.le_of_ble_eq_true rfl, Nat.le_of_ble_eq_true rfl⟩ ⟨rfl, rfl, Nat.le_of_ble_eq_true rfl, Nat.le_of_ble_eq_true rfl⟩ (ite_iff2 la (fun q => (hR.2.2.2.1.2.2.2.2.vals (f := 2) (by decide) q).1))
      · exact LK h' (k_X8_fault_0_2_2 (I := I) (L := L) l E _ _ rfl rfl) (k_X9_fault_0_2_2 (I := I) (L := L) l E _ rfl) ⟨rfl, rfl, Nat.le_of_ble_eq_true rfl, Nat.le_of_ble_eq_true rfl⟩ ⟨rfl, rfl, Nat.le_of_ble_eq_true rfl, Nat.le_of_ble_eq_true rfl⟩ (ite_iff2 la (fun q => (hR.2.2.2.1.2.2.2.2.vals (f := 2) (by decide) q).2))
      · exact LK h' (k_X8_fault_0_2_3 (I := I) (L := L) l E _ _ rfl rfl) (k_X9_fault_0_2_3 (I := I) (L := L) l E _ rfl) ⟨rfl, rfl, Nat.le_of_ble_eq_true rfl, Nat.le_of_ble_eq_true rfl⟩ ⟨rfl, rfl, Nat.le_of_ble_eq_true rfl, Nat.le_of_ble_eq_true rfl⟩ (ite_iff2 la (fun q => hR.2.2.2.1.2.2.2.2.plc (f := 2) (by omega) (by decide) (by decide) q))
      · exact LK h' (k_X8_fault_0_2_4 (I := I) (L := L) l E _ _ _ _ rfl rfl rfl rfl) (k_X9_fault_0_2_4 (I := I) (L := L) l E _ rfl) ⟨rfl, rfl, Nat.le_of_ble_eq_true rfl, Nat.le_of_ble_eq_true rfl⟩ ⟨rfl, rfl, Nat.le_of_ble_eq_true rfl, Nat.le_of_ble_eq_true rfl⟩ (ite_iff ci 1 0)
    · have ci : (¬ I 17 0 = 0 ∧ plcF (I 17) (I 18) 0 = 0 ∧ ¬ I 21 2 ≤ absI (I 11 4)) ↔ (¬ I 162 82 = -1 ∧ ¬ ¬ plcM (I 162) 70 0 ≤ 0 ∧ absM (I 162 74) < I 162 3) := plc0 (f := 0) hR.2.2.2.2.1.2.2.2.2 (by omega) (by decide) (by rw [show I 21 2 = I 162 3 from hR.2.2.1.1 2 (by decide), show I 11 4 = I 162 74 from hR.2.2.2.2.1.2.2.1.1]; exact Int32.not_le)
      have la := hR.2.2.2.2.1.2.2.2.2.lat (f := 0) (by omega) (by decide)
      rcases in_le4 t.2.2 with rfl | rfl | rfl | rfl | rfl
      · exact LK h' (k_X8_fault_1_0_0 (I := I) (L := L) l E _ rfl) (k_X9_fault_1_0_0 (I := I) (L := L) l E _ rfl) ⟨rfl, rfl, Nat.le_of_ble_eq_true rfl, Nat.le_of_ble_eq_true rfl⟩ ⟨rfl, rfl, Nat.le_of_ble_eq_true rfl, Nat.le_of_ble_eq_true rfl⟩ (ite_iff la 1 0)
      · exact LK h' (k_X8_fault_1_0_1 (I := I) (L := L) l E _ _ rfl rfl) (k_X9_fault_1_0_1 (I := I) (L := L) l E _ rfl) ⟨rfl, rfl, Nat.le_of_ble_eq_true rfl, Nat.le_of_ble_eq_true rfl⟩ ⟨rfl, rfl, Nat.le_of_ble_eq_true rfl, Nat.le_of_ble_eq_true rfl⟩ (ite_iff2 la (fun q => (hR.2.2.2.2.1.2.2.2.2.vals (f := 0) (by decide) q).1))
      · exact LK h' (k_X8_fault_1_0_2 (I := I) (L := L) l E _ _ rfl rfl) (k_X9_fault_1_0_2 (I := I) (L := L) l E _ rfl) ⟨rfl, rfl, Nat.le_of_ble_eq_true rfl, Nat.le_of_ble_eq_true rfl⟩ ⟨rfl, rfl, Nat.le_of_ble_eq_true rfl, Nat.le_of_ble_eq_true rfl⟩ (ite_iff2 la (fun q => (hR.2.2.2.2.1.2.2.2.2.vals (f := 0) (by decide) q).2))
      · exact LK h' (k_X8_fault_1_0_3 (I := I) (L := L) l E _ _ rfl rfl) (k_X9_fault_1_0_3 (I := I) (L := L) l E _ rfl) ⟨rfl, rfl, Nat.le_of_ble_eq_true rfl, Nat.le_of_ble_eq_true rfl⟩ ⟨rfl, rfl, Nat.le_of_ble_eq_true rfl, Nat.le_of_ble_eq_true rfl⟩ (ite_iff2 la (fun q => hR.2.2.2.2.1.2.2.2.2.plc (f := 0) (by omega) (by decide) (by decide) q))
      · exact LK h' (k_X8_fault_1_0_4 (I := I) (L := L) l E _ _ _ _ rfl rfl rfl rfl) (k_X9_fault_1_0_4 (I := I) (L := L) l E _ rfl) ⟨rfl, rfl, Nat.le_of_ble_eq_true rfl, Nat.le_of_ble_eq_true rfl⟩ ⟨rfl, rfl, Nat.le_of_ble_eq_true rfl, Nat.le_of_ble_eq_true rfl⟩ (ite_iff ci 1 0)
    · have ci : (¬ I 17 1 = 0 ∧ plcF (I 17) (I 18) 1 = 0) ↔ (¬ I 162 85 = -1 ∧ ¬ ¬ plcM (I 162) 70 1 ≤ 0) := by
        have z := plc0 (f := 1) (P := True) (Q := True) hR.2.2.2.2.1.2.2.2.2 (by omega) (by decide) Iff.rfl
        exact ⟨fun q => ⟨(z.mp ⟨q.1, q.2, trivial⟩).1, (z.mp ⟨q.1, q.2, trivial⟩).2.1⟩, fun q => ⟨(z.mpr ⟨q.1, q.2, trivial⟩).1, (z.mpr ⟨q.1, q.2, trivial⟩).2.1⟩⟩
      have la := hR.2.2.2.2.1.2.2.2.2.lat (f := 1) (by omega) (by decide)
      rcases in_le4 t.2.2 with rfl | rfl | rfl | rfl | rfl
      · exact LK h' (k_X8_fault_1_1_0 (I := I) (L := L) l E _ rfl) (k_X9_fault_1_1_0 (I := I) (L := L) l E _ rfl) ⟨rfl, rfl, Nat.le_of_ble_eq_true rfl, Nat.le_of_ble_eq_true rfl⟩ ⟨rfl, rfl, Nat.le_of_ble_eq_true rfl, Nat.le_of_ble_eq_true rfl⟩ (ite_iff la 1 0)
      · exact LK h' (k_X8_fault_1_1_1 (I := I) (L := L) l E _ _ rfl rfl) (k_X9_fault_1_1_1 (I := I) (L := L) l E _ rfl) ⟨rfl, rfl, Nat.le_of_ble_eq_true rfl, Nat.le_of_ble_eq_true rfl⟩ ⟨rfl, rfl, Nat.le_of_ble_eq_true rfl, Nat.le_of_ble_eq_true rfl⟩ (ite_iff2 la (fun q => (hR.2.2.2.2.1.2.2.2.2.vals (f := 1) (by decide) q).1))
      · exact LK h' (k_X8_fault_1_1_2 (I := I) (L := L) l E _ _ rfl rfl) (k_X9_fault_1_1_2 (I := I) (L := L) l E _ rfl) ⟨rfl, rfl, Nat.le_of_ble_eq_true rfl, Nat.le_of_ble_eq_true rfl⟩ ⟨rfl, rfl, Nat.le_of_ble_eq_true rfl, Nat.le_of_ble_eq_true rfl⟩ (ite_iff2 la (fun q => (hR.2.2.2.2.1.2.2.2.2.vals (f := 1) (by decide) q).2))
      · exact LK h' (k_X8_fault_1_1_3 (I := I) (L := L) l E _ _ rfl rfl) (k_X9_fault_1_1_3 (I := I) (L := L) l E _ rfl) ⟨rfl, rfl, Nat.le_of_ble_eq_true rfl, Nat.le_of_ble_eq_true rfl⟩ ⟨rfl, rfl, Nat.le_of_ble_eq_true rfl, Nat.le_of_ble_eq_true rfl⟩ (ite_iff2 la (fun q => hR.2.2.2.2.1.2.2.2.2.plc (f := 1) (by omega) (by decide) (by decide) q))
      · exact LK h' (k_X8_fault_1_1_4 (I := I) (L := L) l E _ _ _ _ rfl rfl rfl rfl) (k_X9_fault_1_1_4 (I := I) (L := L) l E _ rfl) ⟨rfl, rfl, Nat.le_of_ble_eq_true rfl, Nat.le_of_ble_eq_true rfl⟩ ⟨rfl, rfl, Nat.le_of_ble_eq_true rfl, Nat.le_of_ble_eq_true rfl⟩ (ite_iff ci 1 0)
    · have ci : (¬ I 17 2 = 0 ∧ plcF (I 17) (I 18) 2 = 0 ∧ ¬ I 21 4 / 2 < I 11 5) ↔ (¬ I 162 88 = -1 ∧ ¬ ¬ plcM (I 162) 70 2 ≤ 0 ∧ ¬ I 162 5 / 2 < I 162 75) := plc0 (f := 2) hR.2.2.2.2.1.2.2.2.2 (by omega) (by decide) (by rw [show I 21 4 = I 162 5 from hR.2.2.1.1 4 (by decide), show I 11 5 = I 162 75 from hR.2.2.2.2.1.2.2.1.2.1])
      have la := hR.2.2.2.2.1.2.2.2.2.lat (f := 2) (by omega) (by decide)
      rcases in_le4 t.2.2 with rfl | rfl | rfl | rfl | rfl
      · exact LK h' (k_X8_fault_1_2_0 (I := I) (L := L) l E _ rfl) (k_X9_fault_1_2_0 (I := I) (L := L) l E _ rfl) ⟨rfl, rfl, Nat.le_of_ble_eq_true rfl, Nat.le_of_ble_eq_true rfl⟩ ⟨rfl, rfl, Nat.le_of_ble_eq_true rfl, Nat.le_of_ble_eq_true rfl⟩ (ite_iff la 1 0)
      · exact LK h' (k_X8_fault_1_2_1 (I := I) (L := L) l E _ _ rfl rfl) (k_X9_fault_1_2_1 (I := I) (L := L) l E _ rfl) ⟨rfl, rfl, Nat.le_of_ble_eq_true rfl, Nat.le_of_ble_eq_true rfl⟩ ⟨rfl, rfl, Nat.le_of_ble_eq_true rfl, Nat.le_of_ble_eq_true rfl⟩ (ite_iff2 la (fun q => (hR.2.2.2.2.1.2.2.2.2.vals (f := 2) (by decide) q).1))
      · exact LK h' (k_X8_fault_1_2_2 (I := I) (L := L) l E _ _ rfl rfl) (k_X9_fault_1_2_2 (I := I) (L := L) l E _ rfl) ⟨rfl, rfl, Nat.le_of_ble_eq_true rfl, Nat.le_of_ble_eq_true rfl⟩ ⟨rfl, rfl, Nat.le_of_ble_eq_true rfl, Nat.le_of_ble_eq_true rfl⟩ (ite_iff2 la (fun q => (hR.2.2.2.2.1.2.2.2.2.vals (f := 2) (by decide) q).2))
      · exact LK h' (k_X8_fault_1_2_3 (I := I) (L := L) l E _ _ rfl rfl) (k_X9_fault_1_2_3 (I := I) (L := L) l E _ rfl) ⟨rfl, rfl, Nat.le_of_ble_eq_true rfl, Nat.le_of_ble_eq_true rfl⟩ ⟨rfl, rfl, Nat.le_of_ble_eq_true rfl, Nat.le_of_ble_eq_true rfl⟩ (ite_iff2 la (fun q => hR.2.2.2.2.1.2.2.2.2.plc (f := 2) (by omega) (by decide) (by decide) q))
      · exact LK h' (k_X8_fault_1_2_4 (I := I) (L := L) l E _ _ _ _ rfl rfl rfl rfl) (k_X9_fault_1_2_4 (I := I) (L := L) l E _ rfl) ⟨rfl, rfl, Nat.le_of_ble_eq_true rfl, Nat.le_of_ble_eq_true rfl⟩ ⟨rfl, rfl, Nat.le_of_ble_eq_true rfl, Nat.le_of_ble_eq_true rfl⟩ (ite_iff ci 1 0)
  · exact LK h' (k_X8_fault_no (I := I) (L := L) l E load fault what t) (k_X9_fault_no (I := I) (L := L) l E load fault what t) ⟨rfl, rfl, Nat.le_of_ble_eq_true rfl, Nat.le_of_ble_eq_true rfl⟩ ⟨rfl, rfl, Nat.le_of_ble_eq_true rfl, Nat.le_of_ble_eq_true rfl⟩ (rfl)
