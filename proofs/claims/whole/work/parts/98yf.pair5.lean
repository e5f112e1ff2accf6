theorem P_scope {l : Launch} {E : Ev} {I : SI} {L : SL} (h : Rel I L) (back : Int32) (what : Int32) : PR l E yX8_scope yX9_scope wsX8_scope wsX9_scope [.int back, .int what] I L := by
  have h' := h
  obtain ⟨k, o, kp, n, hC, h2, h8⟩ := h
  have hB := hC.1
  have hR := hB.1
  have hk := hB.2.1
  have hisb := hR.isb
  obtain ⟨ho4, hkp, ho, hkk, hH⟩ := hC.2.1
  have sc := hR.2.2.2.2.2.1
  have hsl : I 1 4 = nI k := hR.1
  have hml := @min_le k
  by_cases t : ¬ back < 0 ∧ INR what 0 4
  · obtain ⟨b, hb, rfl⟩ : ∃ b, b < 2 ^ 31 ∧ back = nI b := by
      have h0 : ¬ back.toInt < 0 := fun q => t.1 (Int32.lt_iff_toInt_lt.mpr q)
      have h1 := Int32.toInt_lt back
      refine ⟨back.toInt.toNat, by omega, Int32.toInt_inj.mp ?_⟩
      rw [nI_toInt (by omega)]
      omega
    rcases Nat.lt_or_ge b (Nat.min k 32) with c | c
    · obtain ⟨e0, e1⟩ := sc.2 b c
      rcases in_le4 t.2 with rfl | rfl | rfl | rfl | rfl
      · exact LK h' (k_X8_scope_ok_0 (I := I) (L := L) l E b _ k rfl hsl (by omega) c) (k_X9_scope_ok_0 (I := I) (L := L) l E b _ (Nat.min k 32) rfl sc.1 hml.1 c) ⟨rfl, rfl, Nat.le_of_ble_eq_true rfl, Nat.le_of_ble_eq_true rfl⟩ ⟨rfl, rfl, Nat.le_of_ble_eq_true rfl, Nat.le_of_ble_eq_true rfl⟩ (e0.symm)
      · exact LK h' (k_X8_scope_ok_1 (I := I) (L := L) l E b _ _ k rfl rfl hsl (by omega) c) (k_X9_scope_ok_1 (I := I) (L := L) l E b _ (Nat.min k 32) rfl sc.1 hml.1 c) ⟨rfl, rfl, Nat.le_of_ble_eq_true rfl, Nat.le_of_ble_eq_true rfl⟩ ⟨rfl, rfl, Nat.le_of_ble_eq_true rfl, Nat.le_of_ble_eq_true rfl⟩ ((e1 1 (by decide) (by decide)).symm)
      · exact LK h' (k_X8_scope_ok_2 (I := I) (L := L) l E b _ _ k rfl rfl hsl (by omega) c) (k_X9_scope_ok_2 (I := I) (L := L) l E b _ (Nat.min k 32) rfl sc.1 hml.1 c) ⟨rfl, rfl, Nat.le_of_ble_eq_true rfl, Nat.le_of_ble_eq_true rfl⟩ ⟨rfl, rfl, Nat.le_of_ble_eq_true rfl, Nat.le_of_ble_eq_true rfl⟩ ((e1 2 (by decide) (by decide)).symm)
      · exact LK h' (k_X8_scope_ok_3 (I := I) (L := L) l E b _ _ k rfl rfl hsl (by omega) c) (k_X9_scope_ok_3 (I := I) (L := L) l E b _ (Nat.min k 32) rfl sc.1 hml.1 c) ⟨rfl, rfl, Nat.le_of_ble_eq_true rfl, Nat.le_of_ble_eq_true rfl⟩ ⟨rfl, rfl, Nat.le_of_ble_eq_true rfl, Nat.le_of_ble_eq_true rfl⟩ ((e1 3 (by decide) (by decide)).symm)
      · exact LK h' (k_X8_scope_ok_4 (I := I) (L := L) l E b _ _ k rfl rfl hsl (by omega) c) (k_X9_scope_ok_4 (I := I) (L := L) l E b _ (Nat.min k 32) rfl sc.1 hml.1 c) ⟨rfl, rfl, Nat.le_of_ble_eq_true rfl, Nat.le_of_ble_eq_true rfl⟩ ⟨rfl, rfl, Nat.le_of_ble_eq_true rfl, Nat.le_of_ble_eq_true rfl⟩ ((e1 4 (by decide) (by decide)).symm)
    · rcases in_le4 t.2 with rfl | rfl | rfl | rfl | rfl
      · exact LK h' (k_X8_scope_nf_0 (I := I) (L := L) l E b _ k rfl hsl (by omega) c hb) (k_X9_scope_nf_0 (I := I) (L := L) l E b _ (Nat.min k 32) rfl sc.1 c hb) ⟨rfl, rfl, Nat.le_of_ble_eq_true rfl, Nat.le_of_ble_eq_true rfl⟩ ⟨rfl, rfl, Nat.le_of_ble_eq_true rfl, Nat.le_of_ble_eq_true rfl⟩ (rfl)
      · exact LK h' (k_X8_scope_nf_1 (I := I) (L := L) l E b _ k rfl hsl (by omega) c hb) (k_X9_scope_nf_1 (I := I) (L := L) l E b _ (Nat.min k 32) rfl sc.1 c hb) ⟨rfl, rfl, Nat.le_of_ble_eq_true rfl, Nat.le_of_ble_eq_true rfl⟩ ⟨rfl, rfl, Nat.le_of_ble_eq_true rfl, Nat.le_of_ble_eq_true rfl⟩ (rfl)
      · exact LK h' (k_X8_scope_nf_2 (I := I) (L := L) l E b _ k rfl hsl (by omega) c hb) (k_X9_scope_nf_2 (I := I) (L := L) l E b _ (Nat.min k 32) rfl sc.1 c hb) ⟨rfl, rfl, Nat.le_of_ble_eq_true rfl, Nat.le_of_ble_eq_true rfl⟩ ⟨rfl, rfl, Nat.le_of_ble_eq_true rfl, Nat.le_of_ble_eq_true rfl⟩ (rfl)
      · exact LK h' (k_X8_scope_nf_3 (I := I) (L := L) l E b _ k rfl hsl (by omega) c hb) (k_X9_scope_nf_3 (I := I) (L := L) l E b _ (Nat.min k 32) rfl sc.1 c hb) ⟨rfl, rfl, Nat.le_of_ble_eq_true rfl, Nat.le_of_ble_eq_true rfl⟩ ⟨rfl, rfl, Nat.le_of_ble_eq_true rfl, Nat.le_of_ble_eq_true rfl⟩ (rfl)
      · exact LK h' (k_X8_scope_nf_4 (I := I) (L := L) l E b _ k rfl hsl (by omega) c hb) (k_X9_scope_nf_4 (I := I) (L := L) l E b _ (Nat.min k 32) rfl sc.1 c hb) ⟨rfl, rfl, Nat.le_of_ble_eq_true rfl, Nat.le_of_ble_eq_true rfl⟩ ⟨rfl, rfl, Nat.le_of_ble_eq_true rfl, Nat.le_of_ble_eq_true rfl⟩ (rfl)
  · exact LK h' (k_X8_scope_no (I := I) (L := L) l E back what t) (k_X9_scope_no (I := I) (L := L) l E back what t) ⟨rfl, rfl, Nat.le_of_ble_eq_true rfl, Nat.le_of_ble_eq_true rfl⟩ ⟨rfl, rfl, Nat.le_of_ble_eq_true rfl, Nat.le_of_ble_eq_true rfl⟩ (rfl)
theorem P_count {l : Launch} {E : Ev} {I : SI} {L : SL} (h : Rel I L) (what : Int32) : PRL l E yX8_count yX9_count wsX8_count wsX9_count [.int what] I L := by
  have h' := h
  obtain ⟨k, o, kp, n, hC, h2, h8⟩ := h
  have hB := hC.1
  have hR := hB.1
  have hk := hB.2.1
  have hisb := hR.isb
  obtain ⟨ho4, hkp, ho, hkk, hH⟩ := hC.2.1
  have sc := hR.2.2.2.2.2.1
  have hsl : I 1 4 = nI k := hR.1
  rcases in_out (x := what) (n := 21) (by decide) with t | t
  · rcases in_lt21 t with rfl | rfl | rfl | rfl | rfl | rfl | rfl | rfl | rfl | rfl | rfl | rfl | rfl | rfl | rfl | rfl | rfl | rfl | rfl | rfl | rfl
    · exact LKL h' (k_X8_count_0 (I := I) (L := L) l E _ rfl) (k_X9_count_0 (I := I) (L := L) l E _ rfl) ⟨rfl, rfl, Nat.le_of_ble_eq_true rfl, Nat.le_of_ble_eq_true rfl⟩ ⟨rfl, rfl, Nat.le_of_ble_eq_true rfl, Nat.le_of_ble_eq_true rfl⟩ (congrArg Int32.toInt64 (hsl.trans hR.2.1.symm))
    · exact LKL h' (k_X8_count_1 (I := I) (L := L) l E _ _ rfl rfl) (k_X9_count_1 (I := I) (L := L) l E _ rfl) ⟨rfl, rfl, Nat.le_of_ble_eq_true rfl, Nat.le_of_ble_eq_true rfl⟩ ⟨rfl, rfl, Nat.le_of_ble_eq_true rfl, Nat.le_of_ble_eq_true rfl⟩ (congrArg Int32.toInt64 (by rw [show I 7 3 = ltdF (I 162) 40 from hR.2.2.2.1.2.2.2.2.1, show I 16 3 = ltdF (I 162) 70 from hR.2.2.2.2.1.2.2.2.2.1]))
    · exact LKL h' (k_X8_count_2 (I := I) (L := L) l E _ rfl) (k_X9_count_2 (I := I) (L := L) l E _ rfl) ⟨rfl, rfl, Nat.le_of_ble_eq_true rfl, Nat.le_of_ble_eq_true rfl⟩ ⟨rfl, rfl, Nat.le_of_ble_eq_true rfl, Nat.le_of_ble_eq_true rfl⟩ (congrArg Int32.toInt64 (by rw [hsl, min32 (by omega)]; exact sc.1.symm))
    · exact LKL h' (k_X8_count_3 (I := I) (L := L) l E _ _ _ _ rfl rfl rfl rfl) (k_X9_count_3 (I := I) (L := L) l E _ rfl) ⟨rfl, rfl, Nat.le_of_ble_eq_true rfl, Nat.le_of_ble_eq_true rfl⟩ ⟨rfl, rfl, Nat.le_of_ble_eq_true rfl, Nat.le_of_ble_eq_true rfl⟩ (congrArg Int32.toInt64 (hR.2.2.2.2.2.2.1.symm))
    · exact LKL h' (k_X8_count_4 (I := I) (L := L) l E _ _ rfl rfl) (k_X9_count_4 (I := I) (L := L) l E _ rfl) ⟨rfl, rfl, Nat.le_of_ble_eq_true rfl, Nat.le_of_ble_eq_true rfl⟩ ⟨rfl, rfl, Nat.le_of_ble_eq_true rfl, Nat.le_of_ble_eq_true rfl⟩ (congrArg Int32.toInt64 (hR.2.2.2.2.2.2.2.1.symm))
    · exact LKL h' (k_X8_count_5 (I := I) (L := L) l E _ rfl) (k_X9_count_5 (I := I) (L := L) l E _ rfl) ⟨rfl, rfl, Nat.le_of_ble_eq_true rfl, Nat.le_of_ble_eq_true rfl⟩ ⟨rfl, rfl, Nat.le_of_ble_eq_true rfl, Nat.le_of_ble_eq_true rfl⟩ (congrArg Int32.toInt64 (hkk.trans h2.symm))
    · exact LKL h' (k_X8_count_6 (I := I) (L := L) l E _ rfl) (k_X9_count_6 (I := I) (L := L) l E _ rfl) ⟨rfl, rfl, Nat.le_of_ble_eq_true rfl, Nat.le_of_ble_eq_true rfl⟩ ⟨rfl, rfl, Nat.le_of_ble_eq_true rfl, Nat.le_of_ble_eq_true rfl⟩ (congrArg Int32.toInt64 (hC.2.2.2.1.trans h8.symm))
    · exact LKL h' (k_X8_count_7 (I := I) (L := L) l E) (k_X9_count_7 (I := I) (L := L) l E) ⟨rfl, rfl, Nat.le_of_ble_eq_true rfl, Nat.le_of_ble_eq_true rfl⟩ ⟨rfl, rfl, Nat.le_of_ble_eq_true rfl, Nat.le_of_ble_eq_true rfl⟩ (rfl)
    · exact LKL h' (k_X8_count_8 (I := I) (L := L) l E) (k_X9_count_8 (I := I) (L := L) l E) ⟨rfl, rfl, Nat.le_of_ble_eq_true rfl, Nat.le_of_ble_eq_true rfl⟩ ⟨rfl, rfl, Nat.le_of_ble_eq_true rfl, Nat.le_of_ble_eq_true rfl⟩ (rfl)
    · exact LKL h' (k_X8_count_9 (I := I) (L := L) l E) (k_X9_count_9 (I := I) (L := L) l E) ⟨rfl, rfl, Nat.le_of_ble_eq_true rfl, Nat.le_of_ble_eq_true rfl⟩ ⟨rfl, rfl, Nat.le_of_ble_eq_true rfl, Nat.le_of_ble_eq_true rfl⟩ (rfl)
    · exact LKL h' (k_X8_count_10 (I := I) (L := L) l E _ rfl) (k_X9_count_10 (I := I) (L := L) l E _ rfl) ⟨rfl, rfl, Nat.le_of_ble_eq_true rfl, Nat.le_of_ble_eq_true rfl⟩ ⟨rfl, rfl, Nat.le_of_ble_eq_true rfl, Nat.le_of_ble_eq_true rfl⟩ (congrArg Int32.toInt64 (hR.2.2.1.1 0 (by decide)))
    · exact LKL h' (k_X8_count_11 (I := I) (L := L) l E _ rfl) (k_X9_count_11 (I := I) (L := L) l E _ rfl) ⟨rfl, rfl, Nat.le_of_ble_eq_true rfl, Nat.le_of_ble_eq_true rfl⟩ ⟨rfl, rfl, Nat.le_of_ble_eq_true rfl, Nat.le_of_ble_eq_true rfl⟩ (congrArg Int32.toInt64 (hR.2.2.1.1 1 (by decide)))
    · exact LKL h' (k_X8_count_12 (I := I) (L := L) l E _ rfl) (k_X9_count_12 (I := I) (L := L) l E _ rfl) ⟨rfl, rfl, Nat.le_of_ble_eq_true rfl, Nat.le_of_ble_eq_true rfl⟩ ⟨rfl, rfl, Nat.le_of_ble_eq_true rfl, Nat.le_of_ble_eq_true rfl⟩ (congrArg Int32.toInt64 (hR.2.2.1.1 2 (by decide)))
    · exact LKL h' (k_X8_count_13 (I := I) (L := L) l E _ rfl) (k_X9_count_13 (I := I) (L := L) l E _ rfl) ⟨rfl, rfl, Nat.le_of_ble_eq_true rfl, Nat.le_of_ble_eq_true rfl⟩ ⟨rfl, rfl, Nat.le_of_ble_eq_true rfl, Nat.le_of_ble_eq_true rfl⟩ (congrArg Int32.toInt64 (hR.2.2.1.1 3 (by decide)))
    · exact LKL h' (k_X8_count_14 (I := I) (L := L) l E _ rfl) (k_X9_count_14 (I := I) (L := L) l E _ rfl) ⟨rfl, rfl, Nat.le_of_ble_eq_true rfl, Nat.le_of_ble_eq_true rfl⟩ ⟨rfl, rfl, Nat.le_of_ble_eq_true rfl, Nat.le_of_ble_eq_true rfl⟩ (congrArg Int32.toInt64 (hR.2.2.1.1 4 (by decide)))
    · exact LKL h' (k_X8_count_15 (I := I) (L := L) l E _ rfl) (k_X9_count_15 (I := I) (L := L) l E _ rfl) ⟨rfl, rfl, Nat.le_of_ble_eq_true rfl, Nat.le_of_ble_eq_true rfl⟩ ⟨rfl, rfl, Nat.le_of_ble_eq_true rfl, Nat.le_of_ble_eq_true rfl⟩ (congrArg Int32.toInt64 (hR.2.2.1.1 5 (by decide)))
    · exact LKL h' (k_X8_count_16 (I := I) (L := L) l E) (k_X9_count_16 (I := I) (L := L) l E) ⟨rfl, rfl, Nat.le_of_ble_eq_true rfl, Nat.le_of_ble_eq_true rfl⟩ ⟨rfl, rfl, Nat.le_of_ble_eq_true rfl, Nat.le_of_ble_eq_true rfl⟩ (rfl)
    · exact LKL h' (k_X8_count_17 (I := I) (L := L) l E) (k_X9_count_17 (I := I) (L := L) l E) ⟨rfl, rfl, Nat.le_of_ble_eq_true rfl, Nat.le_of_ble_eq_true rfl⟩ ⟨rfl, rfl, Nat.le_of_ble_eq_true rfl, Nat.le_of_ble_eq_true rfl⟩ (rfl)
    · exact LKL h' (k_X8_count_18 (I := I) (L := L) l E) (k_X9_count_18 (I := I) (L := L) l E) ⟨rfl, rfl, Nat.le_of_ble_eq_true rfl, Nat.le_of_ble_eq_true rfl⟩ ⟨rfl, rfl, Nat.le_of_ble_eq_true rfl, Nat.le_of_ble_eq_true rfl⟩ (rfl)
    · exact LKL h' (k_X8_count_19 (I := I) (L := L) l E) (k_X9_count_19 (I := I) (L := L) l E) ⟨rfl, rfl, Nat.le_of_ble_eq_true rfl, Nat.le_of_ble_eq_true rfl⟩ ⟨rfl, rfl, Nat.le_of_ble_eq_true rfl, Nat.le_of_ble_eq_true rfl⟩ (rfl)
    · exact LKL h' (k_X8_count_20 (I := I) (L := L) l E _ _ rfl rfl) (k_X9_count_20 (I := I) (L := L) l E _ rfl) ⟨rfl, rfl, Nat.le_of_ble_eq_true rfl, Nat.le_of_ble_eq_true rfl⟩ ⟨rfl, rfl, Nat.le_of_ble_eq_true rfl, Nat.le_of_ble_eq_true rfl⟩ (hR.2.2.2.2.2.2.2.2.symm)
  · exact LKL h' (k_X8_count_out (I := I) (L := L) l E what t) (k_X9_count_out (I := I) (L := L) l E what t) ⟨rfl, rfl, Nat.le_of_ble_eq_true rfl, Nat.le_of_ble_eq_true rfl⟩ ⟨rfl, rfl, Nat.le_of_ble_eq_true rfl, Nat.le_of_ble_eq_true rfl⟩ (rfl)
